/-- cell x alone was written -/
def sameC (x : Int) (M M1 : Mm) : Prop := ∀ a j : Int, ¬ a = x → M1 a j = M a j
theorem s_X12_keeps {S : Sh} {M : Mm} {K : Mm → Prop} (hS : Shp S) (hR : RfM M) (h : ∀ M1, sameC 348 M M1 → (∀ j : Int, 0 ≤ j ∧ j < 57 → M1 348 j = M 346 j) → K M1) : wp_X12_keeps S M 336 K := by
  have key : ∀ (n : Nat) (k : Int) (M2 : Mm), 0 ≤ k ∧ k ≤ 57 → 58 - k ≤ n → sameC 348 M M2 → (∀ j : Int, 0 ≤ j ∧ j < k → M2 348 j = M 346 j) → wp_X12_keeps_2 S K n 336 k M2 := by
    intro n
    induction n with
    | zero => intro k M2 hk h2; exact absurd h2 (by omega)
    | succ n ih =>
      intro k M2 hk hn hs hc
      have f26 : M2 336 26 = 348 := (hs 336 26 (by decide)).trans hR.f26
      have f20 : M2 336 20 = 346 := (hs 336 20 (by decide)).trans hR.f20
      simp only [wp_X12_keeps_2, wGetR, wGet, wC, wIf, wA, wLd, wSt, nc, f26, f20, hS.k336, hS.k346, hS.l346, hS.k348, hS.l348]
      refine ⟨fun q => h M2 hs (fun j hj => hc j (by omega)), fun q => ⟨trivial, by decide, trivial, by decide, trivial, by omega, trivial, by omega, ?_⟩⟩
      rw [w32_id (by omega) (by omega)]
      refine ih (k + 1) _ (by omega) (by omega) (fun x j hx => ?_) (fun j hj => ?_)
      · rw [up_ne (fun z => hx z.1)]; exact hs x j hx
      · by_cases e : j = k
        · subst e
          rw [up_at]
          exact hs 346 j (by decide)
        · rw [up_ne (fun z => e z.2)]
          exact hc j (by omega)
  exact ⟨58, key 58 0 M (by omega) (by omega) (fun _ _ _ => rfl) (fun j hj => absurd hj (by omega))⟩
