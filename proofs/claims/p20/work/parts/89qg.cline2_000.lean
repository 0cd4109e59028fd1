theorem LC.readHeat {D Dz : Dd} {M M' : Mm} {v1 v2 v3 : Int} (lc : LC D M) (h3 : D 3 ≤ 8) (h4 : 0 ≤ D 4 ∧ D 4 ≤ 5) (h5 : 0 ≤ D 5 ∧ D 5 ≤ 4) (h9 : 0 ≤ D 9 ∧ D 9 ≤ 4) (h6 : 0 ≤ D 6 ∧ D 6 ≤ 6) (hc : D 9 < 4) (F : ∀ c p : Int, ¬ (c = 1 ∧ 2 ≤ p ∧ p ≤ 3) ∧ ¬ (c = 32 ∧ p = 6) ∧ ¬ (c = 37 ∧ p = D 9) ∧ ¬ (c = 38 ∧ p = D 9) ∧ ¬ (c = 39 ∧ p = D 9) → M' c p = M c p) (sc : M' 32 6 = D 9 + 1) (s0 : M' 37 (D 9) = v1) (s1 : M' 38 (D 9) = v2) (s2 : M' 39 (D 9) = v3) (G : ∀ p : Int, ¬ p = 9 ∧ ¬ (81 + 3 * D 9 ≤ p ∧ p < 81 + 3 * D 9 + 3) → Dz p = D p) (xc : Dz 9 = D 9 + 1) (x0 : Dz (81 + 3 * D 9) = v1) (x1 : Dz (81 + 3 * D 9 + 1) = v2) (x2 : Dz (81 + 3 * D 9 + 2) = v3) : LC Dz M' := by
  obtain ⟨⟨q0, q1, q2, q3, q4, q5, q6, q7⟩, lr, lh, lj, lt, lw, ls⟩ := lc
  refine ⟨⟨by rw [F 32 0 (by omega), G 0 (by omega)]; exact q0, by rw [F 32 1 (by omega), G 1 (by omega)]; exact q1, by rw [F 32 2 (by omega), G 2 (by omega)]; exact q2, by rw [F 32 3 (by omega), G 3 (by omega)]; exact q3, by rw [F 32 4 (by omega), G 4 (by omega)]; exact q4, by rw [F 32 5 (by omega), G 5 (by omega)]; exact q5, by rw [sc, xc], by rw [F 32 7 (by omega), G 6 (by omega)]; exact q7⟩, ?_, ?_, ?_, ?_, ?_, ?_⟩
  · exact lr.keep h3 (fun p => F 33 p (by omega)) (fun p z => G p (by omega))
  · exact lh.keep h4.2 (fun c p z => F c p (by omega)) (fun p z => G p (by omega))
  · exact lj.keep h5.2 (fun c p z => F c p (by omega)) (fun p z => G p (by omega))
  · intro i i0 i1
    rw [xc] at i1
    by_cases e : i = D 9
    · subst e
      exact ⟨s0.trans x0.symm, s1.trans x1.symm, s2.trans x2.symm⟩
    · have hh := lt i i0 (by omega)
      rw [F 37 i (by omega), F 38 i (by omega), F 39 i (by omega)]
      rw [G (81 + 3 * i) (by omega), G (81 + 3 * i + 1) (by omega), G (81 + 3 * i + 2) (by omega)]
      exact hh
  · exact lw.keep h6.2 (fun c p z => F c p (by omega)) (fun p z => G p (by omega))
  · exact ls.keep (fun c p z => F c p (by omega)) (fun i i0 i1 => F 48 i (by omega)) (by rw [G 5 (by omega)]; exact Int.le_refl _)
