theorem Sk_ex (b : Int → Int) (n : Int) : ∀ (k : Nat) (p : Int), n - p ≤ (k : Int) → ∃ q : Int, Sk b n p q := by
  intro k
  induction k with
  | zero => intro p h; exact ⟨p, Sk.self (Or.inl (by omega))⟩
  | succ k ih =>
    intro p h
    by_cases e : p < n ∧ b p = 32
    · obtain ⟨q, hq⟩ := ih (p + 1) (by omega)
      exact ⟨q, hq.cons e.1 e.2⟩
    · exact ⟨p, Sk.self (by omega)⟩
theorem zl_whole {S : Sh} {m : Mm} {K : Int → Mm → Prop} (hS : Shp S) (h1 : (m 52 8 = 2 ∨ m 52 8 = 3) → K 1 m) (h0 : ¬ (m 52 8 = 2 ∨ m 52 8 = 3) → K 0 m) : wp_X3_isFactWhole S m 52 K := by
  refine u_X3_isFactWhole ?_
  refine g_getu 8 rfl hS.k52 (fun w ew => ?_)
  refine g_C ?_
  refine g_if (fun w1 => ?_) (fun w1 => ?_)
  · refine u_X3_isFactWhole_16 ?_
    exact g_C ⟨by decide, h1 (by omega)⟩
  · refine g_getu 8 rfl hS.k52 (fun w' ew' => ?_)
    refine g_C ?_
    refine g_if (fun w2 => g_C ⟨by decide, h0 (by omega)⟩) (fun w2 => ?_)
    refine u_X3_isFactWhole_16 ?_
    exact g_C ⟨by decide, h1 (by omega)⟩
