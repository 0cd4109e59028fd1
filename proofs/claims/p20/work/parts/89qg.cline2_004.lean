theorem LC.readWant {D Dz : Dd} {M M' : Mm} {v1 v2 v3 v4 : Int} (lc : LC D M) (h3 : D 3 ≤ 8) (h4 : 0 ≤ D 4 ∧ D 4 ≤ 5) (h5 : 0 ≤ D 5 ∧ D 5 ≤ 4) (h9 : 0 ≤ D 9 ∧ D 9 ≤ 4) (h6 : 0 ≤ D 6 ∧ D 6 ≤ 6) (hc : D 6 < 6) (F : ∀ c p : Int, ¬ (c = 1 ∧ 2 ≤ p ∧ p ≤ 3) ∧ ¬ (c = 32 ∧ p = 7) ∧ ¬ (c = 40 ∧ p = D 6) ∧ ¬ (c = 41 ∧ p = D 6) ∧ ¬ (c = 42 ∧ p = D 6) ∧ ¬ (c = 43 ∧ p = D 6) → M' c p = M c p) (sc : M' 32 7 = D 6 + 1) (s0 : M' 40 (D 6) = v1) (s1 : M' 41 (D 6) = v2) (s2 : M' 42 (D 6) = v3) (s3 : M' 43 (D 6) = v4) (G : ∀ p : Int, ¬ p = 6 ∧ ¬ (93 + 4 * D 6 ≤ p ∧ p < 93 + 4 * D 6 + 4) ∧ ¬ p = 51 + D 6 → Dz p = D p) (xc : Dz 6 = D 6 + 1) (x0 : Dz (93 + 4 * D 6) = v1) (x1 : Dz (93 + 4 * D 6 + 1) = v2) (x2 : Dz (93 + 4 * D 6 + 2) = v3) (x3 : Dz (93 + 4 * D 6 + 3) = v4) : LC Dz M' := by
  obtain ⟨⟨q0, q1, q2, q3, q4, q5, q6, q7⟩, lr, lh, lj, lt, lw, ls⟩ := lc
  refine ⟨⟨by rw [F 32 0 (by omega), G 0 (by omega)]; exact q0, by rw [F 32 1 (by omega), G 1 (by omega)]; exact q1, by rw [F 32 2 (by omega), G 2 (by omega)]; exact q2, by rw [F 32 3 (by omega), G 3 (by omega)]; exact q3, by rw [F 32 4 (by omega), G 4 (by omega)]; exact q4, by rw [F 32 5 (by omega), G 5 (by omega)]; exact q5, by rw [F 32 6 (by omega), G 9 (by omega)]; exact q6, by rw [sc, xc]⟩, ?_, ?_, ?_, ?_, ?_, ?_⟩
  · exact lr.keep h3 (fun p => F 33 p (by omega)) (fun p z => G p (by omega))
  · exact lh.keep h4.2 (fun c p z => F c p (by omega)) (fun p z => G p (by omega))
  · exact lj.keep h5.2 (fun c p z => F c p (by omega)) (fun p z => G p (by omega))
  · exact lt.keep h9.2 (fun c p z => F c p (by omega)) (fun p z => G p (by omega))
  · intro i i0 i1
    rw [xc] at i1
    by_cases e : i = D 6
    · subst e
      exact ⟨s0.trans x0.symm, s1.trans x1.symm, s2.trans x2.symm, s3.trans x3.symm⟩
    · have hh := lw i i0 (by omega)
      rw [F 40 i (by omega), F 41 i (by omega), F 42 i (by omega), F 43 i (by omega)]
      rw [G (93 + 4 * i) (by omega), G (93 + 4 * i + 1) (by omega), G (93 + 4 * i + 2) (by omega), G (93 + 4 * i + 3) (by omega)]
      exact hh
  · exact ls.keep (fun c p z => F c p (by omega)) (fun i i0 i1 => F 48 i (by omega)) (by rw [G 5 (by omega)]; exact Int.le_refl _)
