theorem i2b_r (a : Int) : -128 ≤ i2b a ∧ i2b a ≤ 127 := by
  unfold i2b
  rw [Int8.toInt_toInt32]
  have h1 := Int8.le_toInt (Int32.ofInt a).toInt8
  have h2 := Int8.toInt_lt (Int32.ofInt a).toInt8
  omega
/-- the TAPE's cells alone were written -/
def sameT (M M1 : Mm) : Prop := ∀ a j : Int, ¬ a = 337 → ¬ (a = 336 ∧ j = 1) → M1 a j = M a j
theorem sameT.rf {M : Mm} : sameT M M := fun _ _ _ _ => rfl
theorem sameT.tr {M M1 M2 : Mm} (h : sameT M M1) (h2 : sameT M1 M2) : sameT M M2 := fun a j ha hj => (h2 a j ha hj).trans (h a j ha hj)
theorem sameT.R {M M1 : Mm} (h : sameT M M1) (hR : RfM M) : RfM M1 := by
  have e : ∀ j : Int, j ≠ 1 → M1 336 j = M 336 j := fun j hj => h 336 j (by decide) (fun q => hj q.2)
  unfold RfM at hR ⊢
  simp only [e 0 (by decide), e 3 (by decide), e 4 (by decide), e 5 (by decide), e 6 (by decide), e 7 (by decide), e 15 (by decide), e 17 (by decide), e 19 (by decide), e 20 (by decide), e 24 (by decide), e 26 (by decide), e 27 (by decide), e 28 (by decide), e 30 (by decide), e 31 (by decide), e 32 (by decide), e 34 (by decide), e 35 (by decide), e 36 (by decide), e 37 (by decide)]
  exact hR
theorem s_X12_four {S : Sh} {M : Mm} {K : Mm → Prop} {a : Int} (hS : Shp S) (hR : RfM M) (ht : 0 ≤ M 336 1 ∧ M 336 1 ≤ 396) (h : ∀ M1, sameT M M1 → M1 336 1 = M 336 1 + 4 → K M1) : wp_X12_four S M 336 a K := by
  have key : ∀ (n k : Nat) (M2 : Mm), k ≤ 4 → k + 1 ≤ n → sameT M M2 → M2 336 1 = M 336 1 + 4 - k → wp_X12_four_3 S K n 336 a (8 * k - 8) M2 := by
    intro n
    induction n with
    | zero => intro k M2 _ h2; exact absurd h2 (by omega)
    | succ n ih =>
      intro k M2 hk hn hs he
      have hR2 := hs.R hR
      simp only [wp_X12_four_3, wGetR, wGet, wC, wIf, wA, wO, wO1, wStB, wPut, nc, hR2.f0, hS.k336, hS.k337, hS.l337]
      refine ⟨fun q => h M2 hs (by omega), fun q => ⟨trivial, by decide, trivial, trivial, by omega, i2b_r _, trivial, trivial, ?_⟩⟩
      have e1 : up M2 337 (M2 336 1) (i2b (iShr a (8 * k - 8))) 336 1 = M2 336 1 := up_ne (by omega)
      rw [e1, w32_id (by omega) (by omega), w32_id (by omega) (by omega)]
      have hk1 : 1 ≤ k := by omega
      have e2 : (8 * (k : Int) - 8 + -8) = 8 * ((k - 1 : Nat) : Int) - 8 := by omega
      rw [e2]
      refine ih (k - 1) _ (by omega) (by omega) (fun x j hx hj => ?_) ?_
      · rw [up_ne (fun z => hj z), up_ne (fun z => hx z.1)]
        exact hs x j hx hj
      · rw [up_at]; omega
  exact ⟨5, key 5 4 M (by omega) (by omega) sameT.rf (by omega)⟩
theorem s_X12_feed {S : Sh} {M : Mm} {K : Int → Mm → Prop} {a b c d e : Int} (hS : Shp S) (hR : RfM M) (ht : 0 ≤ M 336 1 ∧ M 336 1 ≤ 400) (h1 : ∀ M1, sameT M M1 → M1 336 1 = M 336 1 + 20 → M 336 1 ≤ 380 → K (M 336 1 + 20) M1) (h0 : 380 < M 336 1 → K (-1) M) : wp_X12_feed S M 336 a b c d e K := by
  simp only [wp_X12_feed, wGet, wC, wIf, wA, nc, hS.k336]
  rw [w32_id (by omega) (by omega)]
  refine ⟨trivial, fun q => ⟨trivial, ?_⟩, fun q => h0 (by omega)⟩
  refine s_X12_four hS hR (by omega) (fun M1 s1 e1 => ⟨trivial, ?_⟩)
  refine s_X12_four hS (s1.R hR) (by omega) (fun M2 s2 e2 => ⟨trivial, ?_⟩)
  refine s_X12_four hS ((s1.tr s2).R hR) (by omega) (fun M3 s3 e3 => ⟨trivial, ?_⟩)
  refine s_X12_four hS (((s1.tr s2).tr s3).R hR) (by omega) (fun M4 s4 e4 => ⟨trivial, ?_⟩)
  refine s_X12_four hS ((((s1.tr s2).tr s3).tr s4).R hR) (by omega) (fun M5 s5 e5 => ⟨trivial, ?_⟩)
  have e : M5 336 1 = M 336 1 + 20 := by omega
  rw [e]
  exact h1 M5 ((((s1.tr s2).tr s3).tr s4).tr s5) e (by omega)
theorem s_X12_end {S : Sh} {M : Mm} {K : Int → Mm → Prop} {a : Int} (hS : Shp S) (h1 : 0 ≤ a ∧ a ≤ M 336 1 → K a (up M 336 1 a)) (h0 : ¬ (0 ≤ a ∧ a ≤ M 336 1) → K (-1) M) : wp_X12_end S M 336 a K := by
  simp only [wp_X12_end, wGet, wPut, wC, wIf, nc, hS.k336]
  exact ⟨fun q => h0 (by omega), fun q => ⟨trivial, fun q2 => ⟨trivial, h1 (by omega)⟩, fun q2 => h0 (by omega)⟩⟩
theorem s_X12_force {S : Sh} {M : Mm} {K : Int → Mm → Prop} {a : Int} (hS : Shp S) (h1 : a = -1 ∨ (0 ≤ a ∧ a < M 336 2) → K (M 336 21) (up M 336 21 a)) (h0 : ¬ (a = -1 ∨ (0 ≤ a ∧ a < M 336 2)) → K (-2) M) : wp_X12_force S M 336 a K := by
  simp only [wp_X12_force, wp_X12_force_16, wGet, wPut, wC, wIf, nc, hS.k336]
  refine ⟨fun q => ⟨trivial, trivial, h1 (Or.inl q)⟩, fun q => ⟨trivial, s_X12_isRule hS (fun z => ⟨fun _ => ⟨trivial, trivial, h1 (Or.inr z)⟩, fun z2 => absurd (by decide) z2⟩) (fun z => ⟨fun z2 => absurd rfl z2, fun _ => h0 (by omega)⟩)⟩⟩
