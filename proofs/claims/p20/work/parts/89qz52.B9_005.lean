theorem dFin_w {D : Dd} {h : Nat} (hd : WD D) (hh : h ≤ 5) (nf : ¬ dFull D h) (hr : h = 1 → ¬ Rt D (D (57 + 3 * D 3)) (D (57 + 3 * D 3 + 1))) : WD (dFin D h) := by
  obtain ⟨⟨h7, h8⟩, hH, hJ, hW, hU, b3, b4, b5, b6, b9⟩ := id hd
  rcases (show h = 0 ∨ h = 1 ∨ h = 2 ∨ h = 3 ∨ h = 4 ∨ h = 5 by omega) with e | e | e | e | e | e
  · subst e
    exact hd.put ⟨by omega, fun i _ _ => ⟨by omega, by omega⟩, fun i _ _ => ⟨by omega, by omega⟩, fun w _ _ => by omega, fun k _ _ => ⟨by omega, by omega⟩⟩
  · subst e
    have n : ¬ D 3 = 8 := nf
    have nr := hr rfl
    show WD (ud D 3 (D 3 + 1))
    have e3 : ud D 3 (D 3 + 1) 3 = D 3 + 1 := ud_at _ _ _
    have E : ∀ p : Int, ¬ p = 3 → ud D 3 (D 3 + 1) p = D p := fun p q => ud_ne q
    refine ⟨⟨by rw [E 7 (by decide)]; exact h7, by rw [E 8 (by decide)]; exact h8⟩, fun i i0 i1 => ?_, fun j j0 j1 => ?_, fun w w0 w1 => ?_, fun k l k0 k1 l0 l1 q => ?_, ?_⟩
    · rw [E 4 (by decide)] at i1
      rw [E _ (by omega), E _ (by omega)]; exact hH i i0 i1
    · rw [E 5 (by decide)] at j1
      rw [E _ (by omega), E _ (by omega)]; exact hJ j j0 j1
    · rw [E 6 (by decide)] at w1
      rw [E _ (by omega)]; exact hW w w0 w1
    · rw [e3] at k1 l1
      unfold rMt at q
      rw [E _ (by omega), E _ (by omega), E _ (by omega), E _ (by omega)] at q
      by_cases z1 : k = D 3
      · by_cases z2 : l = D 3
        · omega
        · exfalso
          subst z1
          exact nr ⟨l, l0, by omega, by omega⟩
      · by_cases z2 : l = D 3
        · exfalso
          rw [z2] at q
          exact nr ⟨k, k0, by omega, q⟩
        · exact hU k l k0 (by omega) l0 (by omega) q
    · rw [e3, E 4 (by decide), E 5 (by decide), E 6 (by decide), E 9 (by decide)]
      omega
  · subst e
    have n : ¬ D 4 = 5 := nf
    obtain ⟨F, eF⟩ : ∃ F : Dd, F = dFin D 2 := ⟨_, rfl⟩
    have eF' : F = ud (ud (ud D (10 + 5 * D 4 + 1) 0) (10 + 5 * D 4 + 2) 0) 4 (D 4 + 1) := eF
    have e4 : F 4 = D 4 + 1 := by rw [eF']; exact ud_at _ _ _
    have E : ∀ p : Int, ¬ p = 4 → ¬ p = 10 + 5 * D 4 + 1 → ¬ p = 10 + 5 * D 4 + 2 → F p = D p := fun p q1 q2 q3 => by rw [eF', ud_ne q1, ud_ne q3, ud_ne q2]
    have x1 : F (10 + 5 * D 4 + 1) = 0 := by rw [eF', ud_ne (by omega), ud_ne (by omega), ud_at]
    have x2 : F (10 + 5 * D 4 + 2) = 0 := by rw [eF', ud_ne (by omega), ud_at]
    rw [← eF]
    refine ⟨⟨by rw [E 7 (by omega) (by omega) (by omega)]; exact h7, by rw [E 8 (by omega) (by omega) (by omega)]; exact h8⟩, fun i i0 i1 => ?_, fun j j0 j1 => ?_, fun w w0 w1 => ?_, hU.move b3.2 (fun p q => E p (by omega) (by omega) (by omega)), ?_⟩
    · rw [e4] at i1
      by_cases z : i = D 4
      · rw [z]; exact ⟨x1, x2⟩
      · rw [E _ (by omega) (by omega) (by omega), E _ (by omega) (by omega) (by omega)]; exact hH i i0 (by omega)
    · rw [E 5 (by omega) (by omega) (by omega)] at j1
      rw [E _ (by omega) (by omega) (by omega), E _ (by omega) (by omega) (by omega)]; exact hJ j j0 j1
    · rw [E 6 (by omega) (by omega) (by omega)] at w1
      rw [E _ (by omega) (by omega) (by omega)]; exact hW w w0 w1
    · rw [e4, E 3 (by omega) (by omega) (by omega), E 5 (by omega) (by omega) (by omega), E 6 (by omega) (by omega) (by omega), E 9 (by omega) (by omega) (by omega)]
      omega
  · subst e
    have n : ¬ D 5 = 4 := nf
    obtain ⟨F, eF⟩ : ∃ F : Dd, F = dFin D 3 := ⟨_, rfl⟩
    have eF' : F = ud (ud (ud D (35 + 4 * D 5 + 1) (-1)) (35 + 4 * D 5 + 3) 0) 5 (D 5 + 1) := eF
    have e4 : F 5 = D 5 + 1 := by rw [eF']; exact ud_at _ _ _
    have E : ∀ p : Int, ¬ p = 5 → ¬ p = 35 + 4 * D 5 + 1 → ¬ p = 35 + 4 * D 5 + 3 → F p = D p := fun p q1 q2 q3 => by rw [eF', ud_ne q1, ud_ne q3, ud_ne q2]
    have x1 : F (35 + 4 * D 5 + 1) = -1 := by rw [eF', ud_ne (by omega), ud_ne (by omega), ud_at]
    have x2 : F (35 + 4 * D 5 + 3) = 0 := by rw [eF', ud_ne (by omega), ud_at]
    rw [← eF]
    refine ⟨⟨by rw [E 7 (by omega) (by omega) (by omega)]; exact h7, by rw [E 8 (by omega) (by omega) (by omega)]; exact h8⟩, fun i i0 i1 => ?_, fun j j0 j1 => ?_, fun w w0 w1 => ?_, hU.move b3.2 (fun p q => E p (by omega) (by omega) (by omega)), ?_⟩
    · rw [E 4 (by omega) (by omega) (by omega)] at i1
      rw [E _ (by omega) (by omega) (by omega), E _ (by omega) (by omega) (by omega)]; exact hH i i0 i1
    · rw [e4] at j1
      by_cases z : j = D 5
      · rw [z]; exact ⟨x1, x2⟩
      · rw [E _ (by omega) (by omega) (by omega), E _ (by omega) (by omega) (by omega)]; exact hJ j j0 (by omega)
    · rw [E 6 (by omega) (by omega) (by omega)] at w1
      rw [E _ (by omega) (by omega) (by omega)]; exact hW w w0 w1
    · rw [e4, E 3 (by omega) (by omega) (by omega), E 4 (by omega) (by omega) (by omega), E 6 (by omega) (by omega) (by omega), E 9 (by omega) (by omega) (by omega)]
      omega
  · subst e
    have n : ¬ D 9 = 4 := nf
    show WD (ud D 9 (D 9 + 1))
    have e3 : ud D 9 (D 9 + 1) 9 = D 9 + 1 := ud_at _ _ _
    have E : ∀ p : Int, ¬ p = 9 → ud D 9 (D 9 + 1) p = D p := fun p q => ud_ne q
    refine ⟨⟨by rw [E 7 (by decide)]; exact h7, by rw [E 8 (by decide)]; exact h8⟩, fun i i0 i1 => ?_, fun j j0 j1 => ?_, fun w w0 w1 => ?_, hU.move b3.2 (fun p q => E p (by omega)), ?_⟩
    · rw [E 4 (by decide)] at i1
      rw [E _ (by omega), E _ (by omega)]; exact hH i i0 i1
    · rw [E 5 (by decide)] at j1
      rw [E _ (by omega), E _ (by omega)]; exact hJ j j0 j1
    · rw [E 6 (by decide)] at w1
      rw [E _ (by omega)]; exact hW w w0 w1
    · rw [e3, E 3 (by decide), E 4 (by decide), E 5 (by decide), E 6 (by decide)]
      omega
  · subst e
    have n : ¬ D 6 = 6 := nf
    obtain ⟨F, eF⟩ : ∃ F : Dd, F = dFin D 5 := ⟨_, rfl⟩
    have eF' : F = ud (ud D (51 + D 6) (-1)) 6 (D 6 + 1) := eF
    have e4 : F 6 = D 6 + 1 := by rw [eF']; exact ud_at _ _ _
    have E : ∀ p : Int, ¬ p = 6 → ¬ p = 51 + D 6 → F p = D p := fun p q1 q2 => by rw [eF', ud_ne q1, ud_ne q2]
    have x1 : F (51 + D 6) = -1 := by rw [eF', ud_ne (by omega), ud_at]
    rw [← eF]
    refine ⟨⟨by rw [E 7 (by omega) (by omega)]; exact h7, by rw [E 8 (by omega) (by omega)]; exact h8⟩, fun i i0 i1 => ?_, fun j j0 j1 => ?_, fun w w0 w1 => ?_, hU.move b3.2 (fun p q => E p (by omega) (by omega)), ?_⟩
    · rw [E 4 (by omega) (by omega)] at i1
      rw [E _ (by omega) (by omega), E _ (by omega) (by omega)]; exact hH i i0 i1
    · rw [E 5 (by omega) (by omega)] at j1
      rw [E _ (by omega) (by omega), E _ (by omega) (by omega)]; exact hJ j j0 j1
    · rw [e4] at w1
      by_cases z : w = D 6
      · rw [z]; exact x1
      · rw [E _ (by omega) (by omega)]; exact hW w w0 (by omega)
    · rw [e4, E 3 (by omega) (by omega), E 4 (by omega) (by omega), E 5 (by omega) (by omega), E 9 (by omega) (by omega)]
      omega
