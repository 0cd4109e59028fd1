section
/-! dairy() of both sides: what is told, and that it is in good order -/
def WD (D : Dd) : Prop := (D 7 = 0 ∧ D 8 = 0) ∧ (∀ i : Int, 0 ≤ i → i < D 4 → D (10 + 5 * i + 1) = 0 ∧ D (10 + 5 * i + 2) = 0) ∧ (∀ j : Int, 0 ≤ j → j < D 5 → D (35 + 4 * j + 1) = -1 ∧ D (35 + 4 * j + 3) = 0) ∧ (∀ w : Int, 0 ≤ w → w < D 6 → D (51 + w) = -1) ∧ UQ D ∧ ((0 ≤ D 3 ∧ D 3 ≤ 8) ∧ (0 ≤ D 4 ∧ D 4 ≤ 5) ∧ (0 ≤ D 5 ∧ D 5 ≤ 4) ∧ (0 ≤ D 6 ∧ D 6 ≤ 6) ∧ (0 ≤ D 9 ∧ D 9 ≤ 4))
/-- a place of the row that is free -/
def fre (D : Dd) (c : Int) : Prop := ¬ (3 ≤ c ∧ c ≤ 9) ∧ (∀ i : Int, 0 ≤ i → i < D 4 → ¬ 10 + 5 * i + 1 = c ∧ ¬ 10 + 5 * i + 2 = c) ∧ (∀ j : Int, 0 ≤ j → j < D 5 → ¬ 35 + 4 * j + 1 = c ∧ ¬ 35 + 4 * j + 3 = c) ∧ (∀ w : Int, 0 ≤ w → w < D 6 → ¬ 51 + w = c) ∧ (∀ k : Int, 0 ≤ k → k < D 3 → ¬ 57 + 3 * k = c ∧ ¬ 57 + 3 * k + 1 = c)
theorem WD.put {D : Dd} {c v : Int} (h : WD D) (f : fre D c) : WD (ud D c v) := by
  obtain ⟨⟨h7, h8⟩, hh, hj, hw, hu, hb⟩ := h
  obtain ⟨f0, f1, f2, f3, f4⟩ := f
  have e : ∀ p : Int, 3 ≤ p → p ≤ 9 → ud D c v p = D p := fun p a b => ud_ne (by omega)
  refine ⟨⟨by rw [e 7 (by decide) (by decide)]; exact h7, by rw [e 8 (by decide) (by decide)]; exact h8⟩, fun i i0 i1 => ?_, fun j j0 j1 => ?_, fun w w0 w1 => ?_, fun k l k0 k1 l0 l1 q => ?_, ?_⟩
  · rw [e 4 (by decide) (by decide)] at i1
    rw [ud_ne (f1 i i0 i1).1, ud_ne (f1 i i0 i1).2]; exact hh i i0 i1
  · rw [e 5 (by decide) (by decide)] at j1
    rw [ud_ne (f2 j j0 j1).1, ud_ne (f2 j j0 j1).2]; exact hj j j0 j1
  · rw [e 6 (by decide) (by decide)] at w1
    rw [ud_ne (f3 w w0 w1)]; exact hw w w0 w1
  · rw [e 3 (by decide) (by decide)] at k1 l1
    unfold rMt at q
    rw [ud_ne (f4 k k0 k1).1, ud_ne (f4 k k0 k1).2, ud_ne (f4 l l0 l1).1, ud_ne (f4 l l0 l1).2] at q
    exact hu k l k0 k1 l0 l1 q
  · rw [e 3 (by decide) (by decide), e 4 (by decide) (by decide), e 5 (by decide) (by decide), e 6 (by decide) (by decide), e 9 (by decide) (by decide)]
    exact hb
theorem dEnd_r : ∀ h : Nat, h ≤ 5 → dEnd h ≤ 3 ∧ (h = 1 → dEnd h = 2) ∧ (h = 2 → dEnd h = 2) ∧ (h = 4 → dEnd h = 2) := by
  intro h hh
  rcases (show h = 0 ∨ h = 1 ∨ h = 2 ∨ h = 3 ∨ h = 4 ∨ h = 5 by omega) with e | e | e | e | e | e <;> subst e <;> decide
theorem dCl_f {D : Dd} {h j : Nat} (hd : WD D) (hh : h ≤ 5) (hj : j ≤ dEnd h) (nf : ¬ dFull D h) : fre D (dCl D h j) := by
  obtain ⟨_, _, _, _, _, b3, b4, b5, b6, b9⟩ := hd
  have de := dEnd_r h hh
  rcases (show h = 0 ∨ h = 1 ∨ h = 2 ∨ h = 3 ∨ h = 4 ∨ h = 5 by omega) with e | e | e | e | e | e
  · subst e
    have : dCl D 0 j = 200 ∨ dCl D 0 j = 1 ∨ dCl D 0 j = 2 := by
      rcases j with _ | _ | j
      · exact Or.inl rfl
      · exact Or.inr (Or.inl rfl)
      · exact Or.inr (Or.inr rfl)
    exact ⟨by omega, fun i _ _ => ⟨by omega, by omega⟩, fun i _ _ => ⟨by omega, by omega⟩, fun w _ _ => by omega, fun k _ _ => ⟨by omega, by omega⟩⟩
  · subst e
    have : dCl D 1 j = 57 + 3 * D 3 + (j : Int) := rfl
    have n : ¬ D 3 = 8 := nf
    exact ⟨by omega, fun i _ _ => ⟨by omega, by omega⟩, fun i _ _ => ⟨by omega, by omega⟩, fun w _ _ => by omega, fun k _ _ => ⟨by omega, by omega⟩⟩
  · subst e
    have : dCl D 2 j = 10 + 5 * D 4 ∨ dCl D 2 j = 10 + 5 * D 4 + 3 ∨ dCl D 2 j = 10 + 5 * D 4 + 4 := by
      rcases j with _ | _ | j
      · exact Or.inl rfl
      · exact Or.inr (Or.inl rfl)
      · exact Or.inr (Or.inr rfl)
    have n : ¬ D 4 = 5 := nf
    exact ⟨by omega, fun i _ _ => ⟨by omega, by omega⟩, fun i _ _ => ⟨by omega, by omega⟩, fun w _ _ => by omega, fun k _ _ => ⟨by omega, by omega⟩⟩
  · subst e
    have : dCl D 3 j = 35 + 4 * D 5 ∨ dCl D 3 j = 35 + 4 * D 5 + 2 := by
      rcases j with _ | j
      · exact Or.inl rfl
      · exact Or.inr rfl
    have n : ¬ D 5 = 4 := nf
    exact ⟨by omega, fun i _ _ => ⟨by omega, by omega⟩, fun i _ _ => ⟨by omega, by omega⟩, fun w _ _ => by omega, fun k _ _ => ⟨by omega, by omega⟩⟩
  · subst e
    have : dCl D 4 j = 81 + 3 * D 9 + (j : Int) := rfl
    exact ⟨by omega, fun i _ _ => ⟨by omega, by omega⟩, fun i _ _ => ⟨by omega, by omega⟩, fun w _ _ => by omega, fun k _ _ => ⟨by omega, by omega⟩⟩
  · subst e
    have : dCl D 5 j = 93 + 4 * D 6 + (j : Int) := rfl
    exact ⟨by omega, fun i _ _ => ⟨by omega, by omega⟩, fun i _ _ => ⟨by omega, by omega⟩, fun w _ _ => by omega, fun k _ _ => ⟨by omega, by omega⟩⟩
theorem dFin_w {D : Dd} {h : Nat} (hd : WD D) (hh : h ≤ 5) (nf : ¬ dFull D h) (hr : h = 1 → ¬ Rt D (D (57 + 3 * D 3)) (D (57 + 3 * D 3 + 1))) : WD (dFin D h) := by
  obtain ⟨⟨h7, h8⟩, hH, hJ, hW, hU, b3, b4, b5, b6, b9⟩ := id hd
  rcases (show h = 0 ∨ h = 1 ∨ h = 2 ∨ h = 3 ∨ h = 4 ∨ h = 5 by omega) with e | e | e | e | e | e
  · subst e
    exact hd.put ⟨by omega, fun i _ _ => ⟨by omega, by omega⟩, fun i _ _ => ⟨by omega, by omega⟩, fun w _ _ => by omega, fun k _ _ => ⟨by omega, by omega⟩⟩
  · subst e
    have n : ¬ D 3 = 8 := nf
    have nr := hr rfl
    show WD (ud D 3 (D 3 + 1))
    have e3 : ud D 3 (D 3 + 1) 3 = D 3 + 1 := ud_at _ _ _
    have E : ∀ p : Int, ¬ p = 3 → ud D 3 (D 3 + 1) p = D p := fun p q => ud_ne q
    refine ⟨⟨by rw [E 7 (by decide)]; exact h7, by rw [E 8 (by decide)]; exact h8⟩, fun i i0 i1 => ?_, fun j j0 j1 => ?_, fun w w0 w1 => ?_, fun k l k0 k1 l0 l1 q => ?_, ?_⟩
    · rw [E 4 (by decide)] at i1
      rw [E _ (by omega), E _ (by omega)]; exact hH i i0 i1
    · rw [E 5 (by decide)] at j1
      rw [E _ (by omega), E _ (by omega)]; exact hJ j j0 j1
    · rw [E 6 (by decide)] at w1
      rw [E _ (by omega)]; exact hW w w0 w1
    · rw [e3] at k1 l1
      unfold rMt at q
      rw [E _ (by omega), E _ (by omega), E _ (by omega), E _ (by omega)] at q
      by_cases z1 : k = D 3
      · by_cases z2 : l = D 3
        · omega
        · exfalso
          subst z1
          exact nr ⟨l, l0, by omega, by omega⟩
      · by_cases z2 : l = D 3
        · exfalso
          rw [z2] at q
          exact nr ⟨k, k0, by omega, q⟩
        · exact hU k l k0 (by omega) l0 (by omega) q
    · rw [e3, E 4 (by decide), E 5 (by decide), E 6 (by decide), E 9 (by decide)]
      omega
  · subst e
    have n : ¬ D 4 = 5 := nf
    obtain ⟨F, eF⟩ : ∃ F : Dd, F = dFin D 2 := ⟨_, rfl⟩
    have eF' : F = ud (ud (ud D (10 + 5 * D 4 + 1) 0) (10 + 5 * D 4 + 2) 0) 4 (D 4 + 1) := eF
    have e4 : F 4 = D 4 + 1 := by rw [eF']; exact ud_at _ _ _
    have E : ∀ p : Int, ¬ p = 4 → ¬ p = 10 + 5 * D 4 + 1 → ¬ p = 10 + 5 * D 4 + 2 → F p = D p := fun p q1 q2 q3 => by rw [eF', ud_ne q1, ud_ne q3, ud_ne q2]
    have x1 : F (10 + 5 * D 4 + 1) = 0 := by rw [eF', ud_ne (by omega), ud_ne (by omega), ud_at]
    have x2 : F (10 + 5 * D 4 + 2) = 0 := by rw [eF', ud_ne (by omega), ud_at]
    rw [← eF]
    refine ⟨⟨by rw [E 7 (by omega) (by omega) (by omega)]; exact h7, by rw [E 8 (by omega) (by omega) (by omega)]; exact h8⟩, fun i i0 i1 => ?_, fun j j0 j1 => ?_, fun w w0 w1 => ?_, hU.move b3.2 (fun p q => E p (by omega) (by omega) (by omega)), ?_⟩
    · rw [e4] at i1
      by_cases z : i = D 4
      · rw [z]; exact ⟨x1, x2⟩
      · rw [E _ (by omega) (by omega) (by omega), E _ (by omega) (by omega) (by omega)]; exact hH i i0 (by omega)
    · rw [E 5 (by omega) (by omega) (by omega)] at j1
      rw [E _ (by omega) (by omega) (by omega), E _ (by omega) (by omega) (by omega)]; exact hJ j j0 j1
    · rw [E 6 (by omega) (by omega) (by omega)] at w1
      rw [E _ (by omega) (by omega) (by omega)]; exact hW w w0 w1
    · rw [e4, E 3 (by omega) (by omega) (by omega), E 5 (by omega) (by omega) (by omega), E 6 (by omega) (by omega) (by omega), E 9 (by omega) (by omega) (by omega)]
      omega
  · subst e
    have n : ¬ D 5 = 4 := nf
    obtain ⟨F, eF⟩ : ∃ F : Dd, F = dFin D 3 := ⟨_, rfl⟩
    have eF' : F = ud (ud (ud D (35 + 4 * D 5 + 1) (-1)) (35 + 4 * D 5 + 3) 0) 5 (D 5 + 1) := eF
    have e4 : F 5 = D 5 + 1 := by rw [eF']; exact ud_at _ _ _
    have E : ∀ p : Int, ¬ p = 5 → ¬ p = 35 + 4 * D 5 + 1 → ¬ p = 35 + 4 * D 5 + 3 → F p = D p := fun p q1 q2 q3 => by rw [eF', ud_ne q1, ud_ne q3, ud_ne q2]
    have x1 : F (35 + 4 * D 5 + 1) = -1 := by rw [eF', ud_ne (by omega), ud_ne (by omega), ud_at]
    have x2 : F (35 + 4 * D 5 + 3) = 0 := by rw [eF', ud_ne (by omega), ud_at]
    rw [← eF]
    refine ⟨⟨by rw [E 7 (by omega) (by omega) (by omega)]; exact h7, by rw [E 8 (by omega) (by omega) (by omega)]; exact h8⟩, fun i i0 i1 => ?_, fun j j0 j1 => ?_, fun w w0 w1 => ?_, hU.move b3.2 (fun p q => E p (by omega) (by omega) (by omega)), ?_⟩
    · rw [E 4 (by omega) (by omega) (by omega)] at i1
      rw [E _ (by omega) (by omega) (by omega), E _ (by omega) (by omega) (by omega)]; exact hH i i0 i1
    · rw [e4] at j1
      by_cases z : j = D 5
      · rw [z]; exact ⟨x1, x2⟩
      · rw [E _ (by omega) (by omega) (by omega), E _ (by omega) (by omega) (by omega)]; exact hJ j j0 (by omega)
    · rw [E 6 (by omega) (by omega) (by omega)] at w1
      rw [E _ (by omega) (by omega) (by omega)]; exact hW w w0 w1
    · rw [e4, E 3 (by omega) (by omega) (by omega), E 4 (by omega) (by omega) (by omega), E 6 (by omega) (by omega) (by omega), E 9 (by omega) (by omega) (by omega)]
      omega
  · subst e
    have n : ¬ D 9 = 4 := nf
    show WD (ud D 9 (D 9 + 1))
    have e3 : ud D 9 (D 9 + 1) 9 = D 9 + 1 := ud_at _ _ _
    have E : ∀ p : Int, ¬ p = 9 → ud D 9 (D 9 + 1) p = D p := fun p q => ud_ne q
    refine ⟨⟨by rw [E 7 (by decide)]; exact h7, by rw [E 8 (by decide)]; exact h8⟩, fun i i0 i1 => ?_, fun j j0 j1 => ?_, fun w w0 w1 => ?_, hU.move b3.2 (fun p q => E p (by omega)), ?_⟩
    · rw [E 4 (by decide)] at i1
      rw [E _ (by omega), E _ (by omega)]; exact hH i i0 i1
    · rw [E 5 (by decide)] at j1
      rw [E _ (by omega), E _ (by omega)]; exact hJ j j0 j1
    · rw [E 6 (by decide)] at w1
      rw [E _ (by omega)]; exact hW w w0 w1
    · rw [e3, E 3 (by decide), E 4 (by decide), E 5 (by decide), E 6 (by decide)]
      omega
  · subst e
    have n : ¬ D 6 = 6 := nf
    obtain ⟨F, eF⟩ : ∃ F : Dd, F = dFin D 5 := ⟨_, rfl⟩
    have eF' : F = ud (ud D (51 + D 6) (-1)) 6 (D 6 + 1) := eF
    have e4 : F 6 = D 6 + 1 := by rw [eF']; exact ud_at _ _ _
    have E : ∀ p : Int, ¬ p = 6 → ¬ p = 51 + D 6 → F p = D p := fun p q1 q2 => by rw [eF', ud_ne q1, ud_ne q2]
    have x1 : F (51 + D 6) = -1 := by rw [eF', ud_ne (by omega), ud_at]
    rw [← eF]
    refine ⟨⟨by rw [E 7 (by omega) (by omega)]; exact h7, by rw [E 8 (by omega) (by omega)]; exact h8⟩, fun i i0 i1 => ?_, fun j j0 j1 => ?_, fun w w0 w1 => ?_, hU.move b3.2 (fun p q => E p (by omega) (by omega)), ?_⟩
    · rw [E 4 (by omega) (by omega)] at i1
      rw [E _ (by omega) (by omega), E _ (by omega) (by omega)]; exact hH i i0 i1
    · rw [E 5 (by omega) (by omega)] at j1
      rw [E _ (by omega) (by omega), E _ (by omega) (by omega)]; exact hJ j j0 j1
    · rw [e4] at w1
      by_cases z : w = D 6
      · rw [z]; exact x1
      · rw [E _ (by omega) (by omega)]; exact hW w w0 (by omega)
    · rw [e4, E 3 (by omega) (by omega), E 4 (by omega) (by omega), E 5 (by omega) (by omega), E 9 (by omega) (by omega)]
      omega
theorem dFull_ud {D : Dd} {c v : Int} {h : Nat} (hh : h ≤ 5) (hc : ¬ (3 ≤ c ∧ c ≤ 9)) (nf : ¬ dFull D h) : ¬ dFull (ud D c v) h := by
  rcases (show h = 0 ∨ h = 1 ∨ h = 2 ∨ h = 3 ∨ h = 4 ∨ h = 5 by omega) with e | e | e | e | e | e <;> subst e
  · exact fun z => z
  · exact fun z => nf ((ud_ne (D := D) (c := c) (v := v) (p := 3) (by omega)).symm.trans z)
  · exact fun z => nf ((ud_ne (D := D) (c := c) (v := v) (p := 4) (by omega)).symm.trans z)
  · exact fun z => nf ((ud_ne (D := D) (c := c) (v := v) (p := 5) (by omega)).symm.trans z)
  · exact fun z => nf ((ud_ne (D := D) (c := c) (v := v) (p := 9) (by omega)).symm.trans z)
  · exact fun z => nf ((ud_ne (D := D) (c := c) (v := v) (p := 6) (by omega)).symm.trans z)
theorem da_wf {b : Int → Int} {n : Int} : ∀ (N m h j : Nat) (p k : Int) (D : Dd) (f : Int) (E : Dd), da b n N m h j p k D f E → f = 0 → WD D → (m = 1 → h ≤ 5 ∧ j ≤ dEnd h ∧ ¬ dFull D h ∧ (h = 1 → j = 2 → ¬ Rt D (D (57 + 3 * D 3)) (D (57 + 3 * D 3 + 1)))) → WD E := by
  intro N
  induction N with
  | zero => intro m h j p k D f E z; exact z.elim
  | succ N ih =>
    intro m h j p k D f E z hf hd hm
    obtain ⟨q, _, z⟩ := z
    have bad : ∀ a : Int, (1 ≤ a ∧ a ≤ 5) → (f = a + 8 * q ∧ E = dz) → WD E := fun a ha y => by
      exfalso
      have := y.1
      omega
    by_cases m0 : m = 0
    · have g := z.1 m0
      have : ∀ l : List Nat, (∀ x : Nat, x ∈ l → x ≤ 5) → dch b n (da b n N) q k D f E l → WD E := by
        intro l
        induction l with
        | nil => intro _ y; exact bad 1 (by decide) y
        | cons x l ihl =>
          intro hx y
          by_cases w : Wk b n x q
          · by_cases a3 : k = 40 ∨ (x = 0 ∧ ¬ D 0 = 0) ∨ (¬ x = 0 ∧ D 0 = 0) ∨ dFull D x
            · exact bad 5 (by decide) ((y.1 w).1 a3)
            · refine ih _ _ _ _ _ _ _ _ ((y.1 w).2 a3) hf hd (fun _ => ⟨hx x (List.mem_cons_self ..), Nat.zero_le _, fun w2 => a3 (Or.inr (Or.inr (Or.inr w2))), fun _ w2 => absurd w2 (by decide)⟩)
          · exact ihl (fun x hx' => hx x (List.mem_cons_of_mem _ hx')) (y.2 w)
      exact this _ (by decide) g
    have h1 := z.2 m0
    by_cases m1 : m = 1
    · obtain ⟨hh, hj, nf, hr⟩ := hm m1
      have g := h1.1 m1
      by_cases a : q < n ∧ Dg (b q)
      · obtain ⟨r, _, g2⟩ := g.1 a
        by_cases a2 : 5 < r - q ∨ nv b q r < dLo D h j ∨ dHi D h j < nv b q r ∨ dBad D h j (nv b q r)
        · exact bad 2 (by decide) (g2.1 a2)
        · have g3 := g2.2 a2
          have fr := dCl_f hd hh hj nf
          have wd := hd.put (v := nv b q r) fr
          have nf2 := dFull_ud (v := nv b q r) hh fr.1 nf
          have de := dEnd_r h hh
          by_cases a3 : j = dEnd h
          · refine ih _ _ _ _ _ _ _ _ (g3.1 a3) hf (dFin_w wd hh nf2 (fun e => ?_)) (fun y => absurd y (by decide))
            have ej : j = 2 := by rw [a3, de.2.1 e]
            have nr := hr e ej
            subst e
            subst ej
            have c2 : dCl D 1 2 = 57 + 3 * D 3 + 2 := rfl
            obtain ⟨_, _, _, _, _, b3, _⟩ := hd
            rw [c2] at *
            intro y
            obtain ⟨l, l0, l1, l2⟩ := y
            rw [ud_ne (by omega)] at l1
            rw [ud_ne (D := D) (p := 3) (by omega), ud_ne (by omega), ud_ne (by omega), ud_ne (by omega), ud_ne (by omega)] at l2
            exact nr ⟨l, l0, l1, l2⟩
          · refine ih _ _ _ _ _ _ _ _ (g3.2 a3) hf wd (fun _ => ⟨hh, by omega, nf2, fun e ej => ?_⟩)
            subst e
            have ej2 : j = 1 := by omega
            subst ej2
            have c1 : dCl D 1 1 = 57 + 3 * D 3 + 1 := rfl
            obtain ⟨_, _, _, _, _, b3, _⟩ := hd
            have nb : ¬ Rt D (D (57 + 3 * D 3)) (nv b q r) := fun y => a2 (Or.inr (Or.inr (Or.inr ⟨rfl, rfl, Or.inr y⟩)))
            rw [c1]
            intro y
            obtain ⟨l, l0, l1, l2⟩ := y
            rw [ud_ne (by omega)] at l1
            rw [ud_ne (D := D) (p := 3) (by omega), ud_at, ud_ne (by omega), ud_ne (by omega), ud_ne (by omega)] at l2
            exact nb ⟨l, l0, l1, l2⟩
      · exact bad 1 (by decide) (g.2 a)
    have g := h1.2 m1
    by_cases a : n ≤ q
    · have y := (g.1 a).2
      rw [y]; exact hd
    · have g2 := g.2 a
      by_cases a2 : b q = 59
      · exact ih _ _ _ _ _ _ _ _ (g2.1 a2) hf hd (fun y => absurd y (by decide))
      · exact bad 1 (by decide) (g2.2 a2)
theorem DA.wf {b : Int → Int} {n : Int} {D E : Dd} (h : DA b n 0 0 0 0 0 D 0 E) (h0 : ∀ p : Int, 0 ≤ p → p < 10 → D p = 0) : WD E := by
  obtain ⟨N, h⟩ := h
  have z : ∀ p : Int, 0 ≤ p → p < 10 → D p = 0 := h0
  refine da_wf N 0 0 0 0 0 D 0 E h rfl ⟨⟨z 7 (by decide) (by decide), z 8 (by decide) (by decide)⟩, fun i i0 i1 => ?_, fun i i0 i1 => ?_, fun i i0 i1 => ?_, fun k l k0 k1 => ?_, ?_⟩ (fun y => absurd y (by decide))
  · rw [z 4 (by decide) (by decide)] at i1; omega
  · rw [z 5 (by decide) (by decide)] at i1; omega
  · rw [z 6 (by decide) (by decide)] at i1; omega
  · rw [z 3 (by decide) (by decide)] at k1; omega
  · rw [z 3 (by decide) (by decide), z 4 (by decide) (by decide), z 5 (by decide) (by decide), z 6 (by decide) (by decide), z 9 (by decide) (by decide)]
    decide
/-- the STATE of the class as a DAIRY lays it -/
def SQ (E : Dd) (M : Mm) : Prop := (M 16 0 = 0 ∧ M 16 1 = 0) ∧ (∀ i : Int, 0 ≤ i → i < E 4 → M 17 i = E (10 + 5 * i)) ∧ (∀ i : Int, 0 ≤ i → i < 5 → M 18 i = 0 ∧ M 19 i = 0) ∧ (∀ j : Int, 0 ≤ j → j < E 5 → M 20 j = E (35 + 4 * j) ∧ M 22 j = E (35 + 4 * j + 2)) ∧ (∀ i : Int, 0 ≤ i → i < 4 → M 21 i = -1) ∧ (∀ i : Int, 0 ≤ i → i < 6 → M 23 i = -1) ∧ (∀ i : Int, E 5 ≤ i → i < 4 → M 20 i = -1)
abbrev lw3 (m : Mm) (c p : Int) : Prop := (c = 338 ∧ p < 400 * m 336 2) ∨ (c = 340 ∧ p < 48 * m 336 2) ∨ (c = 341 ∧ p < m 336 2)
theorem zu_dairy12 {S : Sh} {m0 : Mm} {K : Int → Mm → Prop} {tb : Int → Int} {tn : Int} {D : Dd} (hS : Shp S) (hj : Jc S m0) (hR : TR m0 tb tn) (hD0 : ∀ p : Int, 0 ≤ p → p < 10 → D p = 0) (hD1 : ∀ p : Int, 10 ≤ p → p < 117 → D p = m0 342 p) (hf : ∀ (f : Int) (M1 : Mm), Jc S M1 → (∀ c p : Int, ¬ fr2_W c p → M1 c p = m0 c p) → (∀ c p : Int, lw3 m0 c p → M1 c p = m0 c p) → M1 336 1 = 0 → ¬ f = 0 → DA tb tn 0 0 0 0 0 D f dz → K (-2 - f) M1) (hk : ∀ (E : Dd) (M1 : Mm), Jc S M1 → (∀ c p : Int, ¬ fr2_W c p → ¬ c = 346 → ¬ (c = 336 ∧ p = 25) → M1 c p = m0 c p) → (∀ c p : Int, lw3 m0 c p → M1 c p = m0 c p) → M1 336 25 = 0 → M1 336 1 = 0 → DA tb tn 0 0 0 0 0 D 0 E → (∀ p : Int, 0 ≤ p → p < 117 → M1 346 p = E p) → (∀ p : Int, 117 ≤ p → p < 158 → M1 346 p = 0) → K (E 5) M1) : wp_X12_dairy S m0 336 K := by
  obtain ⟨X, eX⟩ : ∃ X : Mm, X = sf m0 := ⟨_, rfl⟩
  have hm0 : Inv X S m0 := by rw [eX]; exact hj.inv
  have xe : ∀ c p : Int, ¬ c = -1 → X c p = m0 c p := fun c p h => by rw [eX]; exact sf_e m0 h
  have hRX : TR X tb tn := ⟨(xe 336 1 (by decide)).trans hR.1, hR.2.1, fun p p0 p1 => ⟨(xe 337 p (by decide)).trans (hR.2.2 p p0 p1).1, (hR.2.2 p p0 p1).2⟩⟩
  refine u_X12_dairy ?_
  refine g_C ?_
  refine g_put 11 rfl hS.k336 (hm0.w_336_11 (by decide) (by decide)) (fun m1 e1 hm1 => ?_)
  have f1 : ∀ c p : Int, ¬ (c = 336 ∧ p = 11) → m1 c p = m0 c p := fun c p q => (congrFun (congrFun e1 _) _).trans (up_ne q)
  have x1 : m1 336 11 = 6 := (congrFun (congrFun e1 _) _).trans (up_at _ _ _ _)
  refine g_C ?_
  -- behind a good reading
  have good : ∀ (m9 : Mm) (E : Dd), Inv X S m9 → (∀ c p : Int, ¬ fr2_W c p → up m9 336 1 0 c p = m0 c p) → PR m9 → Rd E m9 → DA tb tn 0 0 0 0 0 D 0 E → ∃ n : Nat, wp_X12_dairy_44 S K n 336 0 (up m9 336 1 0) := by
    intro m9 E hm9 fr9 hp9 rd9 da9
    obtain ⟨m, em⟩ : ∃ m : Mm, m = up m9 336 1 0 := ⟨_, rfl⟩
    have fm : ∀ c p : Int, ¬ (c = 336 ∧ p = 1) → m c p = m9 c p := fun c p q => by rw [em]; exact up_ne q
    have x1m : m 336 1 = 0 := by rw [em]; exact up_at _ _ _ _
    have j : Jc S m := by rw [em]; exact (Jc.of hm9).len12 (by decide) (by decide)
    have hm := j.inv
    have hp : PR m := hp9.same (fun p => fm 342 p (by first | decide | exact fun z => absurd z.1 (by decide) | exact ⟨fun z => absurd z.1 (by decide), fun z => absurd z.1 (by decide)⟩ | omega))
    rw [← em] at fr9 ⊢
    have c4 := hm.f_342_4
    have c5 := hm.f_342_5
    have last : ∀ m' : Mm, (∀ c p : Int, ¬ (c = 346 ∧ 0 ≤ p ∧ p < 158) → m' c p = m c p) → (∀ i : Int, 0 ≤ i → i < 158 → m' 346 i = if i < 117 then m 342 i else 0) → ∀ m'' : Mm, (∀ c p : Int, ¬ (c = 336 ∧ p = 25) → m'' c p = m' c p) → m'' 336 25 = 0 → Jc S m'' ∧ (∀ c p : Int, ¬ c = 346 → ¬ (c = 336 ∧ p = 25) → m'' c p = m c p) := by
      intro m' f hc m'' f2 x2
      have F : ∀ c p : Int, ¬ (c = 346 ∧ 0 ≤ p ∧ p < 158) → ¬ (c = 336 ∧ p = 25) → m'' c p = m c p := fun c p q1 q2 => (f2 c p q2).trans (f c p q1)
      have hc2 : ∀ i : Int, 0 ≤ i → i < 117 → m'' 346 i = m 342 i := fun i i0 i1 => by rw [f2 346 i (by first | decide | exact fun z => absurd z.1 (by decide) | exact ⟨fun z => absurd z.1 (by decide), fun z => absurd z.1 (by decide)⟩ | omega), hc i i0 (by omega), if_pos i1]
      refine ⟨j.chg (fun c p hc' hp' => ?_) (fun i => F 30 i (by first | decide | exact fun z => absurd z.1 (by decide) | exact ⟨fun z => absurd z.1 (by decide), fun z => absurd z.1 (by decide)⟩ | omega) (by first | decide | exact fun z => absurd z.1 (by decide) | exact ⟨fun z => absurd z.1 (by decide), fun z => absurd z.1 (by decide)⟩ | omega)) (F 55 1 (by first | decide | exact fun z => absurd z.1 (by decide) | exact ⟨fun z => absurd z.1 (by decide), fun z => absurd z.1 (by decide)⟩ | omega) (by first | decide | exact fun z => absurd z.1 (by decide) | exact ⟨fun z => absurd z.1 (by decide), fun z => absurd z.1 (by decide)⟩ | omega)) ?_ ?_, ?_⟩
      · by_cases z : (c : Int) = 346 ∧ (p : Int) < 158
        · have z1 : c = 346 := by omega
          subst z1
          refine Or.inr ?_
          rw [show ((346 : Nat) : Int) = 346 from rfl]
          by_cases z2 : (p : Int) < 117
          · rw [hc2 p (by omega) z2, ← bq_342 p (by omega)]
            exact j.1 342 p (by decide) (by rw [pT_said.2.2.2]; omega)
          · rw [f2 346 p (by first | decide | exact fun z => absurd z.1 (by decide) | exact ⟨fun z => absurd z.1 (by decide), fun z => absurd z.1 (by decide)⟩ | omega), hc p (by omega) (by omega), if_neg z2]
            exact Or.inr (bq_0 p (by omega) (by omega))
        · by_cases z2 : (c : Int) = 336 ∧ (p : Int) = 25
          · have z3 : c = 336 := by omega
            have z4 : p = 25 := by omega
            subst z3 z4
            refine Or.inr ?_
            rw [show ((336 : Nat) : Int) = 336 from rfl, show ((25 : Nat) : Int) = 25 from rfl, x2]
            exact okb_of (l := 0) (u := 20) (by decide +kernel) (by decide) (by decide)
          · exact Or.inl (F c p (by omega) z2)
      · exact j.2.2.2.1.eq (fun p q => F 336 p (by first | decide | exact fun z => absurd z.1 (by decide) | exact ⟨fun z => absurd z.1 (by decide), fun z => absurd z.1 (by decide)⟩ | omega) (by first | decide | exact fun z => absurd z.1 (by decide) | exact ⟨fun z => absurd z.1 (by decide), fun z => absurd z.1 (by decide)⟩ | omega)) (fun c p q => F c p (by omega) (by omega))
      · obtain ⟨p1, p2, p3⟩ := j.2.2.2.2
        have e4 : m'' 354 = m 354 := funext (fun p => F 354 p (by first | decide | exact fun z => absurd z.1 (by decide) | exact ⟨fun z => absurd z.1 (by decide), fun z => absurd z.1 (by decide)⟩ | omega) (by first | decide | exact fun z => absurd z.1 (by decide) | exact ⟨fun z => absurd z.1 (by decide), fun z => absurd z.1 (by decide)⟩ | omega))
        unfold PL3
        rw [x2, e4]
        refine ⟨⟨fun a a0 a1 => ?_, fun a a0 a1 => ?_⟩, fun i i0 i1 => absurd i1 (by omega), p3⟩
        · rw [hc2 4 (by decide) (by decide)] at a1
          rw [hc2 _ (by omega) (by omega), hc2 0 (by decide) (by decide)]
          exact hp.1 a a0 a1
        · rw [hc2 5 (by decide) (by decide)] at a1
          rw [hc2 _ (by omega) (by omega), hc2 0 (by decide) (by decide)]
          exact hp.2 a a0 a1
      · exact fun c p a b => F c p (by omega) b
    have L : ∀ (n : Nat) (k : Int) (m' : Mm), 0 ≤ k → k ≤ 158 → (∀ c p : Int, ¬ (c = 346 ∧ 0 ≤ p ∧ p < 158) → m' c p = m c p) → (∀ i : Int, 0 ≤ i → i < k → m' 346 i = if i < 117 then m 342 i else 0) → 159 - k ≤ (n : Int) → wp_X12_dairy_44 S K n 336 k m' := by
      intro n
      induction n with
      | zero => intro k m' _ _ _ _ h; exfalso; omega
      | succ n ih =>
        intro k m' k0 k1 f hc h
        have e20 : m' 336 20 = 346 := (f 336 20 (by first | decide | exact fun z => absurd z.1 (by decide) | exact ⟨fun z => absurd z.1 (by decide), fun z => absurd z.1 (by decide)⟩ | omega)).trans hm.f_336_20
        have e7 : m' 336 7 = 342 := (f 336 7 (by first | decide | exact fun z => absurd z.1 (by decide) | exact ⟨fun z => absurd z.1 (by decide), fun z => absurd z.1 (by decide)⟩ | omega)).trans hm.f_336_7
        refine u_X12_dairy_44 ?_
        refine g_C ?_
        refine g_if (fun w => ?_) (fun w => ?_)
        · refine g_C ?_
          refine g_putR 25 rfl hS.k336 (fun m2 e2 => ?_)
          have f2 : ∀ c p : Int, ¬ (c = 336 ∧ p = 25) → m2 c p = m' c p := fun c p q => (congrFun (congrFun e2 _) _).trans (up_ne q)
          have x2 : m2 336 25 = 0 := (congrFun (congrFun e2 _) _).trans (up_at _ _ _ _)
          refine g_getr 20 346 rfl hS.k336 ((f2 336 20 (by first | decide | exact fun z => absurd z.1 (by decide) | exact ⟨fun z => absurd z.1 (by decide), fun z => absurd z.1 (by decide)⟩ | omega)).trans e20) (by decide) ?_
          refine g_C ?_
          refine g_ldu hS.k346 hS.l346 (by omega) (by omega) (fun v ev => ?_)
          obtain ⟨jl, fl⟩ := last m' f (fun i i0 i1 => hc i i0 (by omega)) m2 f2 x2
          have sE : ∀ p : Int, 0 ≤ p → p < 117 → m2 346 p = E p := fun p p0 p1 => by rw [f2 346 p (by first | decide | exact fun z => absurd z.1 (by decide) | exact ⟨fun z => absurd z.1 (by decide), fun z => absurd z.1 (by decide)⟩ | omega), hc p p0 (by omega), if_pos p1, fm 342 p (by first | decide | exact fun z => absurd z.1 (by decide) | exact ⟨fun z => absurd z.1 (by decide), fun z => absurd z.1 (by decide)⟩ | omega)]; exact rd9 p p0 p1
          have s0 : ∀ p : Int, 117 ≤ p → p < 158 → m2 346 p = 0 := fun p p0 p1 => by rw [f2 346 p (by first | decide | exact fun z => absurd z.1 (by decide) | exact ⟨fun z => absurd z.1 (by decide), fun z => absurd z.1 (by decide)⟩ | omega), hc p (by omega) (by omega), if_neg (by omega)]
          have ev' : v = E 5 := ev.trans (sE 5 (by decide) (by decide))
          rw [ev']
          refine hk E m2 jl (fun c p hs q1 q2 => by rw [fl c p q1 q2, fr9 c p hs]) (fun c p hs => ?_) x2 ((fl 336 1 (by first | decide | exact fun z => absurd z.1 (by decide) | exact ⟨fun z => absurd z.1 (by decide), fun z => absurd z.1 (by decide)⟩ | omega) (by first | decide | exact fun z => absurd z.1 (by decide) | exact ⟨fun z => absurd z.1 (by decide), fun z => absurd z.1 (by decide)⟩ | omega)).trans x1m) da9 sE s0
          unfold lw3 at hs
          have hs2 : X 336 2 = m0 336 2 := xe 336 2 (by decide)
          rw [fl c p (by omega) (by omega), fm c p (by omega), hm9.2.1 c p (Or.inr (by omega)), xe c p (by omega)]
        · have nx : ∀ x : Int, (x = if k < 117 then m 342 k else 0) → wp_X12_dairy_72 S (fun a0 a1 M => wp_X12_dairy_44 S K n a0 a1 M) K 336 k 346 k x m' := by
            intro x hx
            refine u_X12_dairy_72 ?_
            refine g_stR hS.k346 hS.l346 (by omega) (by omega) (fun m2 e2 => ?_)
            have f2 : ∀ c p : Int, ¬ (c = 346 ∧ p = k) → m2 c p = m' c p := fun c p q => (congrFun (congrFun e2 _) _).trans (up_ne q)
            have x2 : m2 346 k = x := (congrFun (congrFun e2 _) _).trans (up_at _ _ _ _)
            refine g_A (by omega) (by omega) ?_
            refine ih (k + 1) m2 (by omega) (by omega) (fun c p q => (f2 c p (by first | exact fun y => absurd (y.1 ▸ z) (by decide) | exact fun y => absurd (y.1 ▸ q) (by decide) | exact z | exact q | exact z.1 | exact q.1 | exact z.2 | exact q.2 | omega)).trans (f c p q)) (fun i i0 i1 => ?_) (by omega)
            by_cases e : i = k
            · rw [e, x2, hx]
            · rw [f2 346 i (by first | decide | exact fun z => absurd z.1 (by decide) | exact ⟨fun z => absurd z.1 (by decide), fun z => absurd z.1 (by decide)⟩ | omega)]
              exact hc i i0 (by omega)
          refine g_getr 20 346 rfl hS.k336 e20 (by decide) ?_
          refine g_C ?_
          refine g_if (fun w2 => g_C (nx 0 (by rw [if_neg (by omega)]))) (fun w2 => ?_)
          refine g_getr 7 342 rfl hS.k336 e7 (by decide) ?_
          refine g_ldu hS.k342 hS.l342 (by omega) (by omega) (fun x ex => ?_)
          exact nx x (by rw [if_pos (by omega), ex, f 342 _ (by first | decide | exact fun z => absurd z.1 (by decide) | exact ⟨fun z => absurd z.1 (by decide), fun z => absurd z.1 (by decide)⟩ | omega)])
    exact ⟨159, L 159 0 m (by omega) (by omega) (fun _ _ _ => rfl) (fun i i0 i1 => absurd i1 (by omega)) (by omega)⟩
  have L : ∀ (n : Nat) (k : Int) (m : Mm), Inv X S m → (∀ c p : Int, ¬ fr2_W c p → m c p = m0 c p) → m 336 11 = 6 → 0 ≤ k → k ≤ 10 → (∀ i : Int, 0 ≤ i → i < k → m 342 i = 0) → (∀ i : Int, 10 ≤ i → m 342 i = m0 342 i) → 11 - k ≤ (n : Int) → wp_X12_dairy_8 S K n 336 k m := by
    intro n
    induction n with
    | zero => intro k m _ _ _ _ _ _ _ h; exfalso; omega
    | succ n ih =>
      intro k m hm fm0 t k0 k1 hz ho h
      refine u_X12_dairy_8 ?_
      refine g_C ?_
      refine g_if (fun w => ?_) (fun w => ?_)
      · refine ⟨hS.k336, ?_⟩
        have p4 : m 342 4 = 0 := hz 4 (by decide) (by first | decide | exact fun z => absurd z.1 (by decide) | exact ⟨fun z => absurd z.1 (by decide), fun z => absurd z.1 (by decide)⟩ | omega)
        have p5 : m 342 5 = 0 := hz 5 (by decide) (by first | decide | exact fun z => absurd z.1 (by decide) | exact ⟨fun z => absurd z.1 (by decide), fun z => absurd z.1 (by decide)⟩ | omega)
        refine fz_readsAll (G := m) hm (fun _ _ _ => rfl) ?_
        refine zc_readsAll (T := fun f E => DA tb tn 0 0 0 0 0 D f E) hS hm hRX t (fun p p0 p1 => ?_) ⟨fun a a0 a1 => absurd a1 (by omega), fun a a0 a1 => absurd a1 (by omega)⟩ (hD0 0 (by decide) (by decide)) (fun f E h => h) (fun m3 hm3 n3 t3 fr => ?_) (fun m3 E hm3 p3 r3 t3 fr => ?_)
        · by_cases e : p < 10
          · rw [hz p p0 (by omega), hD0 p p0 e]
          · rw [ho p (by omega), hD1 p (by omega) p1]
        · have b9 := hm3.f_336_9
          refine g_ifF (by decide) ?_
          refine g_C ?_
          have j3 : Jc S (up m3 336 1 0) := (Jc.of hm3).len12 (by decide) (by decide)
          refine g_getu 9 rfl hS.k336 (fun v4 ev4 => ?_)
          have e9 : v4 = m3 336 9 := ev4.trans (up_ne (by omega))
          refine g_S (by omega) (by omega) ?_
          rw [e9]
          refine hf _ _ j3 (fun c p hs => (fr c p hs).trans (fm0 c p hs)) (fun c p hs => ?_) (up_at _ _ _ _) n3 t3
          unfold lw3 at hs
          have hs2 : X 336 2 = m0 336 2 := xe 336 2 (by decide)
          rw [up_ne (by omega), hm3.2.1 c p (Or.inr (by omega)), xe c p (by omega)]
        · refine g_ifT (by decide) ?_
          refine g_C ?_
          exact good m3 E hm3 (fun c p hs => (fr c p hs).trans (fm0 c p hs)) p3 r3 t3
      · refine g_getr 7 342 rfl hS.k336 hm.f_336_7 (by decide) ?_
        refine g_C ?_
        refine g_st hS.k342 hS.l342 (by omega) (by omega) (hm.w342 (by omega) (Or.inr (bq_342z k.toNat (by omega)))) (fun m2 e2 hm2 => ?_)
        have f2 : ∀ c p : Int, ¬ (c = 342 ∧ p = k) → m2 c p = m c p := fun c p q => (congrFun (congrFun e2 _) _).trans (up_ne q)
        have x2 : m2 342 k = 0 := (congrFun (congrFun e2 _) _).trans (up_at _ _ _ _)
        refine g_A (by omega) (by omega) ?_
        refine ih (k + 1) m2 hm2 (fun c p q => (f2 c p (fun z => q (by first | decide | (unfold fr2_W; omega)))).trans (fm0 c p q)) ((f2 336 11 (by first | decide | exact fun z => absurd z.1 (by decide) | exact ⟨fun z => absurd z.1 (by decide), fun z => absurd z.1 (by decide)⟩ | omega)).trans t) (by omega) (by omega) (fun i i0 i1 => ?_) (fun i i0 => (f2 342 i (by first | decide | exact fun z => absurd z.1 (by decide) | exact ⟨fun z => absurd z.1 (by decide), fun z => absurd z.1 (by decide)⟩ | omega)).trans (ho i i0)) (by omega)
        by_cases e : i = k
        · rw [e, x2]
        · rw [f2 342 i (by first | decide | exact fun z => absurd z.1 (by decide) | exact ⟨fun z => absurd z.1 (by decide), fun z => absurd z.1 (by decide)⟩ | omega)]
          exact hz i i0 (by omega)
  exact ⟨11, L 11 0 m1 hm1 (fun c p q => f1 c p (fun z => q (by first | decide | (unfold fr2_W; omega)))) x1 (by omega) (by omega) (fun i i0 i1 => absurd i1 (by omega)) (fun i i0 => f1 342 i (by first | decide | exact fun z => absurd z.1 (by decide) | exact ⟨fun z => absurd z.1 (by decide), fun z => absurd z.1 (by decide)⟩ | omega)) (by omega)⟩
theorem zu_dairy11 {S : Sh} {m0 : Mm} {K : Int → Mm → Prop} {tb : Int → Int} {tn : Int} {D : Dd} (hS : Shp S) (hj : Jc S m0) (hC : TC m0 tb tn) (hD0 : ∀ p : Int, 0 ≤ p → p < 10 → D p = 0) (hf : ∀ (f : Int) (M1 : Mm), Jc S M1 → (∀ c p : Int, ¬ fr1_W c p → ¬ (c = 1 ∧ p = 1) → M1 c p = m0 c p) → M1 1 1 = 0 → ¬ f = 0 → DA tb tn 0 0 0 0 0 D f dz → K (-2 - f) M1) (hk : ∀ (E : Dd) (M1 : Mm), Jc S M1 → (∀ c p : Int, ¬ fr1_W c p → ¬ (c = 1 ∧ p = 1) → ¬ (4 ≤ c ∧ c ≤ 23) → ¬ (c = 3 ∧ p = 4) → ¬ (c = 0 ∧ p = 5) → M1 c p = m0 c p) → M1 1 1 = 0 → M1 3 4 = 0 → M1 0 5 = 0 → DA tb tn 0 0 0 0 0 D 0 E → TL 4 E M1 → SQ E M1 → Wok (M1 4 0) (M1 5) (M1 6) → K (E 5) M1) : wp_X11_dairy S m0 0 K := by
  obtain ⟨X, eX⟩ : ∃ X : Mm, X = sf m0 := ⟨_, rfl⟩
  have hm0 : Inv X S m0 := by rw [eX]; exact hj.inv
  have xe : ∀ c p : Int, ¬ c = -1 → X c p = m0 c p := fun c p h => by rw [eX]; exact sf_e m0 h
  have hCX : TC X tb tn := ⟨(xe 1 1 (by decide)).trans hC.1, hC.2.1, fun p p0 p1 => ⟨(xe 2 p (by decide)).trans (hC.2.2 p p0 p1).1, (hC.2.2 p p0 p1).2⟩⟩
  refine u_X11_dairy ?_
  refine g_getr 8 31 rfl hS.k0 hm0.f_0_8 (by decide) ?_
  refine ⟨hS.k31, ?_⟩
  have three : ∀ m2 : Mm, Inv X S m2 → fr1_F m0 m2 → ∀ m3 : Mm, m3 = up m2 1 1 0 → Jc S m3 ∧ (∀ c p : Int, ¬ fr1_W c p → ¬ (c = 1 ∧ p = 1) → m3 c p = m0 c p) ∧ m3 1 1 = 0 := by
    intro m2 hm2 fr m3 em3
    refine ⟨by rw [em3]; exact (Jc.of hm2).len11 (by decide) (by decide), fun c p hs q => by rw [em3, up_ne q, fr c p hs], by rw [em3]; exact up_at _ _ _ _⟩
  refine fz_X0_read hm0 (fun _ _ _ => rfl) ?_
  refine zn_read (T := fun f E => DA tb tn 0 0 0 0 0 D f E) hS hm0 hCX hD0 (fun f E h => h) (fun m2 hm2 f2 n2 t2 fr => ?_) (fun m2 E hm2 f2 lc wk2 t2 fr => ?_)
  · refine g_getr 0 1 rfl hS.k0 hm2.f_0_0 (by decide) ?_
    refine g_C ?_
    refine g_putR 1 rfl hS.k1 (fun m3 em3 => ?_)
    obtain ⟨j3, f3, x3⟩ := three m2 hm2 fr m3 em3
    have hm3 := j3.inv
    have e4 : m3 1 4 = m2 1 4 := by rw [em3]; exact up_ne (by omega)
    refine g_ifF (by decide) ?_
    refine g_C ?_
    refine g_getr 0 1 rfl hS.k0 hm3.f_0_0 (by decide) ?_
    refine g_get 4 (0) (4000) rfl hS.k1 hm3.f_1_4 (fun v ev bv cv => ?_)
    refine g_S (by omega) (by omega) ?_
    rw [ev, e4]
    exact hf _ m3 j3 f3 x3 n2 t2
  · refine g_getr 0 1 rfl hS.k0 hm2.f_0_0 (by decide) ?_
    refine g_C ?_
    refine g_putR 1 rfl hS.k1 (fun m3 em3 => ?_)
    obtain ⟨j3, f3, x3⟩ := three m2 hm2 fr m3 em3
    have hm3 := j3.inv
    have e5 : m3 32 5 = E 5 := by rw [em3, up_ne (by omega)]; exact lc.1.2.2.2.2.2.1
    refine g_ifT (by decide) ?_
    refine g_getr 1 3 rfl hS.k0 hm3.f_0_1 (by decide) ?_
    refine g_getr 0 4 rfl hS.k3 hm3.f_3_0 (by decide) ?_
    refine g_getr 8 31 rfl hS.k0 hm3.f_0_8 (by decide) ?_
    refine g_getr 1 32 rfl hS.k31 hm3.f_31_1 (by decide) ?_
    refine ⟨hS.k4, ?_⟩
    refine zb_told hS hm3 (by decide) (by decide) (by decide) (fun m5 hm5 f5 c0 c1 c2 c3 c4 y5 c6 c7 w1 w2 w3 w4 w5 w6 w7 w8 w9 w10 w11 => ?_)
    refine g_getr 1 3 rfl hS.k0 hm5.f_0_1 (by decide) ?_
    refine g_getr 1 16 rfl hS.k3 hm5.f_3_1 (by decide) ?_
    refine g_getr 8 31 rfl hS.k0 hm5.f_0_8 (by decide) ?_
    refine g_getr 2 44 rfl hS.k31 hm5.f_31_2 (by decide) ?_
    refine ⟨hS.k16, ?_⟩
    refine zb_state hS hm5 (by decide) (by decide) (by decide) (fun m6 hm6 f6 v0 v1 q1 q2 q3 q4 q5 q6 q7 => ?_)
    refine g_getr 1 3 rfl hS.k0 hm6.f_0_1 (by decide) ?_
    refine g_C ?_
    refine g_put 4 rfl hS.k3 (hm6.w_3_4 (by omega) (by omega)) (fun m7 em7 hm7 => ?_)
    refine g_C ?_
    refine g_put 5 rfl hS.k0 (hm7.w_0_5 (by omega) (by omega)) (fun m8 em8 hm8 => ?_)
    refine g_getr 1 3 rfl hS.k0 hm8.f_0_1 (by decide) ?_
    refine g_getr 0 4 rfl hS.k3 hm8.f_3_0 (by decide) ?_
    refine g_getu 5 rfl hS.k4 (fun v ev => ?_)
    have f8 : ∀ c p : Int, ¬ (c = 3 ∧ p = 4) → ¬ (c = 0 ∧ p = 5) → m8 c p = m6 c p := fun c p a1 a2 => by rw [em8, up_ne a2, em7, up_ne a1]
    have ev' : v = E 5 := by rw [ev, f8 4 5 (by first | decide | exact fun z => absurd z.1 (by decide) | exact ⟨fun z => absurd z.1 (by decide), fun z => absurd z.1 (by decide)⟩ | omega) (by first | decide | exact fun z => absurd z.1 (by decide) | exact ⟨fun z => absurd z.1 (by decide), fun z => absurd z.1 (by decide)⟩ | omega), f6 4 5 (by first | decide | exact fun z => absurd z.1 (by decide) | exact ⟨fun z => absurd z.1 (by decide), fun z => absurd z.1 (by decide)⟩ | omega), y5, e5]
    rw [ev']
    have y34 : m8 3 4 = 0 := by rw [em8, up_ne (by omega), em7]; exact up_at _ _ _ _
    have y05 : m8 0 5 = 0 := by rw [em8]; exact up_at _ _ _ _
    have g3' : ∀ c p : Int, 32 ≤ c → m3 c p = m2 c p := fun c p a1 => by rw [em3]; exact up_ne (by omega)
    have sq : SQ E m8 := by
      obtain ⟨lc1, lr, lh, lj, lt, lw, ⟨⟨l0, l1⟩, l2, l3, l4, l5⟩⟩ := id lc
      have b4 := hm2.f_32_4
      have b5 := hm2.f_32_5
      have e4 : m2 32 4 = E 4 := lc1.2.2.2.2.1
      have e5' : m2 32 5 = E 5 := lc1.2.2.2.2.2.1
      have G : ∀ c p : Int, 16 ≤ c → c ≤ 23 → m8 c p = m6 c p := fun c p a1 a2 => f8 c p (by first | exact fun y => absurd (y.1 ▸ z) (by decide) | exact fun y => absurd (y.1 ▸ q) (by decide) | exact z | exact q | exact z.1 | exact q.1 | exact z.2 | exact q.2 | omega) (by omega)
      have H : ∀ c p : Int, 44 ≤ c → c ≤ 51 → m5 c p = m2 c p := fun c p a1 a2 => by rw [f5 c p (by first | exact fun y => absurd (y.1 ▸ z) (by decide) | exact fun y => absurd (y.1 ▸ q) (by decide) | exact z | exact q | exact z.1 | exact q.1 | exact z.2 | exact q.2 | omega), g3' c p (by omega)]
      refine ⟨⟨?_, ?_⟩, fun i i0 i1 => ?_, fun i i0 i1 => ⟨?_, ?_⟩, fun i i0 i1 => ⟨?_, ?_⟩, fun i i0 i1 => ?_, fun i i0 i1 => ?_, fun i i0 i1 => ?_⟩
      · rw [G 16 0 (by omega) (by omega), v0, H 44 0 (by omega) (by omega), l0]
      · rw [G 16 1 (by omega) (by omega), v1, H 44 1 (by omega) (by omega), l1]
      · rw [G 17 i (by omega) (by omega)]
        exact (q1 i i0 (by omega)).trans ((H 45 i (by omega) (by omega)).trans (lh i i0 i1).1)
      · rw [G 18 i (by omega) (by omega)]
        exact (q2 i i0 (by omega)).trans ((H 46 i (by omega) (by omega)).trans (l2 i i0 i1).1)
      · rw [G 19 i (by omega) (by omega)]
        exact (q3 i i0 (by omega)).trans ((H 47 i (by omega) (by omega)).trans (l2 i i0 i1).2)
      · rw [G 20 i (by omega) (by omega)]
        exact (q4 i i0 (by omega)).trans ((H 48 i (by omega) (by omega)).trans (lj i i0 i1).1)
      · rw [G 22 i (by omega) (by omega)]
        exact (q6 i i0 (by omega)).trans ((H 50 i (by omega) (by omega)).trans (lj i i0 i1).2)
      · rw [G 21 i (by omega) (by omega)]
        exact (q5 i i0 (by omega)).trans ((H 49 i (by omega) (by omega)).trans (l3 i i0 i1))
      · rw [G 23 i (by omega) (by omega)]
        exact (q7 i i0 (by omega)).trans ((H 51 i (by omega) (by omega)).trans (l4 i i0 i1))
      · rw [G 20 i (by omega) (by omega)]
        exact (q4 i (by omega) (by omega)).trans ((H 48 i (by omega) (by omega)).trans (l5 i (by omega) i0 i1))
    refine hk E m8 (Jc.of hm8) (fun c p hs q w1 w2 w3 => by rw [f8 c p w2 w3, f6 c p (by first | exact fun y => absurd (y.1 ▸ z) (by decide) | exact fun y => absurd (y.1 ▸ q) (by decide) | exact z | exact q | exact z.1 | exact q.1 | exact z.2 | exact q.2 | omega), f5 c p (by first | exact fun y => absurd (y.1 ▸ z) (by decide) | exact fun y => absurd (y.1 ▸ q) (by decide) | exact z | exact q | exact z.1 | exact q.1 | exact z.2 | exact q.2 | omega), f3 c p hs q]) (by rw [hm8.g (c := 1) (p := 1) (by decide), sf_e m3 (by decide), x3]) y34 y05 t2 ?_ sq (wk2.move (by rw [f8 4 0 (by first | decide | exact fun z => absurd z.1 (by decide) | exact ⟨fun z => absurd z.1 (by decide), fun z => absurd z.1 (by decide)⟩ | omega) (by first | decide | exact fun z => absurd z.1 (by decide) | exact ⟨fun z => absurd z.1 (by decide), fun z => absurd z.1 (by decide)⟩ | omega), f6 4 0 (by first | decide | exact fun z => absurd z.1 (by decide) | exact ⟨fun z => absurd z.1 (by decide), fun z => absurd z.1 (by decide)⟩ | omega), c0, g3' 32 0 (by first | decide | exact fun z => absurd z.1 (by decide) | exact ⟨fun z => absurd z.1 (by decide), fun z => absurd z.1 (by decide)⟩ | omega)]) (fun p p0 p1 => by rw [f8 5 p (by first | decide | exact fun z => absurd z.1 (by decide) | exact ⟨fun z => absurd z.1 (by decide), fun z => absurd z.1 (by decide)⟩ | omega) (by first | decide | exact fun z => absurd z.1 (by decide) | exact ⟨fun z => absurd z.1 (by decide), fun z => absurd z.1 (by decide)⟩ | omega), f6 5 p (by first | decide | exact fun z => absurd z.1 (by decide) | exact ⟨fun z => absurd z.1 (by decide), fun z => absurd z.1 (by decide)⟩ | omega)]; exact (w1 p p0 p1).trans (g3' 33 p (by first | decide | exact fun z => absurd z.1 (by decide) | exact ⟨fun z => absurd z.1 (by decide), fun z => absurd z.1 (by decide)⟩ | omega))) (fun p p0 p1 => by rw [f8 6 p (by first | decide | exact fun z => absurd z.1 (by decide) | exact ⟨fun z => absurd z.1 (by decide), fun z => absurd z.1 (by decide)⟩ | omega) (by first | decide | exact fun z => absurd z.1 (by decide) | exact ⟨fun z => absurd z.1 (by decide), fun z => absurd z.1 (by decide)⟩ | omega), f6 6 p (by first | decide | exact fun z => absurd z.1 (by decide) | exact ⟨fun z => absurd z.1 (by decide), fun z => absurd z.1 (by decide)⟩ | omega)]; exact (w2 p p0 p1).trans (g3' 34 p (by first | decide | exact fun z => absurd z.1 (by decide) | exact ⟨fun z => absurd z.1 (by decide), fun z => absurd z.1 (by decide)⟩ | omega))))
    have g8 : ∀ c p : Int, 4 ≤ c → c ≤ 15 → m8 c p = m5 c p := fun c p a1 a2 => by rw [f8 c p (by first | exact fun y => absurd (y.1 ▸ z) (by decide) | exact fun y => absurd (y.1 ▸ q) (by decide) | exact z | exact q | exact z.1 | exact q.1 | exact z.2 | exact q.2 | omega) (by omega), f6 c p (by first | exact fun y => absurd (y.1 ▸ z) (by decide) | exact fun y => absurd (y.1 ▸ q) (by decide) | exact z | exact q | exact z.1 | exact q.1 | exact z.2 | exact q.2 | omega)]
    have g3 : ∀ c p : Int, 32 ≤ c → m3 c p = m2 c p := fun c p a1 => by rw [em3]; exact up_ne (by omega)
    refine lc.told hm2 (fun i i0 i1 => ?_) (fun p p0 p1 => ?_) (fun p p0 p1 => ⟨?_, ?_⟩) (fun p p0 p1 => ⟨?_, ?_, ?_⟩) (fun p p0 p1 => ⟨?_, ?_, ?_, ?_⟩)
    · rw [g8 4 i (by decide) (by decide), ← g3 32 i (by decide)]
      rcases (show i = 0 ∨ i = 1 ∨ i = 2 ∨ i = 3 ∨ i = 4 ∨ i = 5 ∨ i = 6 ∨ i = 7 by omega) with e | e | e | e | e | e | e | e <;> subst e <;> assumption
    · rw [g8 5 p (by decide) (by decide), ← g3 33 p (by decide)]; exact w1 p p0 p1
    · rw [g8 7 p (by decide) (by decide), ← g3 35 p (by decide)]; exact w3 p p0 p1
    · rw [g8 8 p (by decide) (by decide), ← g3 36 p (by decide)]; exact w4 p p0 p1
    · rw [g8 9 p (by decide) (by decide), ← g3 37 p (by decide)]; exact w5 p p0 p1
    · rw [g8 10 p (by decide) (by decide), ← g3 38 p (by decide)]; exact w6 p p0 p1
    · rw [g8 11 p (by decide) (by decide), ← g3 39 p (by decide)]; exact w7 p p0 p1
    · rw [g8 12 p (by decide) (by decide), ← g3 40 p (by decide)]; exact w8 p p0 p1
    · rw [g8 13 p (by decide) (by decide), ← g3 41 p (by decide)]; exact w9 p p0 p1
    · rw [g8 14 p (by decide) (by decide), ← g3 42 p (by decide)]; exact w10 p p0 p1
    · rw [g8 15 p (by decide) (by decide), ← g3 43 p (by decide)]; exact w11 p p0 p1
/-- dairy of the class, then of the reference -/
theorem zz_dairy {S : Sh} {m0 : Mm} {K : Int → Int → Mm → Prop} {K1 : Int → Mm → Prop} {n : Int} (hS : Shp S) (hz : RZ S m0 n) (hn : 0 ≤ n) (hK : ∀ (r : Int) (M : Mm), wp_X12_dairy S M 336 (fun r2 M2 => K r r2 M2) → K1 r M) (hk : ∀ (r : Int) (M1 : Mm), RZ S M1 n → K r r M1) : wp_X11_dairy S m0 0 K1 := by
  have hj := hz.1
  have hm0 := hj.inv
  obtain ⟨jc, xr, ⟨⟨a1, a2, a3⟩, a4, a5⟩⟩ := id hj
  have b1 := hm0.f_1_1
  have hC : TC m0 (fun p => m0 2 p) (m0 1 1) := ⟨rfl, b1, fun p p0 p1 => ⟨rfl, hm0.a_2 p0 (by omega)⟩⟩
  have hR : ∀ M : Mm, M 336 1 = m0 336 1 → (∀ p : Int, M 337 p = m0 337 p) → TR M (fun p => m0 2 p) (m0 1 1) := fun M e f => ⟨e.trans a1.symm, b1, fun p p0 p1 => ⟨(f p).trans (a2 p p0 (by omega)).symm, hm0.a_2 p0 (by omega)⟩⟩
  obtain ⟨D, eD⟩ : ∃ D : Dd, D = fun p => if p < 10 then 0 else m0 342 p := ⟨_, rfl⟩
  have d0 : ∀ p : Int, 0 ≤ p → p < 10 → D p = 0 := fun p _ p1 => by rw [eD]; exact if_pos p1
  have d1 : ∀ p : Int, 10 ≤ p → p < 117 → D p = m0 342 p := fun p p0 _ => by rw [eD]; exact if_neg (by omega)
  refine zu_dairy11 hS jc hC d0 (fun f m1 j1 f1 x1 nf da => ?_) (fun E m1 j1 f1 x1 y34 y05 da tl sq wk => ?_)
  · have g1 : ∀ c p : Int, 336 ≤ c → m1 c p = m0 c p := fun c p z => f1 c p (by first | decide | (unfold fr1_W; omega)) (by omega)
    refine hK _ _ ?_
    refine zu_dairy12 hS j1 (hR m1 (g1 336 1 (by decide)) (fun p => g1 337 p (by decide))) d0 (fun p p0 p1 => by rw [g1 342 p (by decide)]; exact d1 p p0 p1) (fun f' m2 j2 f2 l2 x2 _ da2 => ?_) (fun E m2 _ _ _ _ _ da2 _ _ => absurd (da.det da2).1 nf)
    rw [← (da.det da2).1]
    have F : ∀ c p : Int, ¬ fr1_W c p → ¬ fr2_W c p → ¬ (c = 1 ∧ p = 1) → m2 c p = m0 c p := fun c p q1 q2 q3 => by rw [f2 c p q2, f1 c p q1 q3]
    have jx : JX S m2 := by
      refine hj.tape j2 (fun c p hs q1 q2 q3 => F c p ?_ ?_ q1) ?_ ?_
      · unfold fr1_W; omega
      · unfold fr2_W; omega
      · rw [f2 1 1 (by first | decide | (unfold fr2_W; omega)), x1, x2]
      · rw [F 0 7 (by first | decide | (unfold fr1_W; omega)) (by first | decide | (unfold fr2_W; omega)) (by omega), F 336 2 (by first | decide | (unfold fr1_W; omega)) (by first | decide | (unfold fr2_W; omega)) (by omega)]
        exact a3
    refine hk _ m2 ⟨jx, hz.2.1.same (fun c p q => F c p (zr_RW1 q).1 (zr_RW1 q).2.1 (zr_RW1 q).2.2), ⟨fun k k0 k1 => ?_, ?_⟩, hz.2.2.2.same (fun c p q => F c p (zr_XZ1 q).1 (zr_XZ1 q).2.1 (zr_XZ1 q).2.2)⟩
    · rw [F 336 2 (by first | decide | (unfold fr1_W; omega)) (by first | decide | (unfold fr2_W; omega)) (by omega)] at k1
      obtain ⟨Cs, r1, r2, r3⟩ := hz.2.2.1.1 k k0 k1
      have e2 : m1 336 2 = m0 336 2 := g1 336 2 (by first | decide | exact fun z => absurd z.1 (by decide) | exact ⟨fun z => absurd z.1 (by decide), fun z => absurd z.1 (by decide)⟩ | omega)
      refine ⟨Cs, ?_, r2.low k0 (fun c p q => by rw [l2 c p (by unfold lw3; omega), g1 c p (by omega)]), r3⟩
      rw [F 30 k (by first | decide | (unfold fr1_W; omega)) (by first | decide | (unfold fr2_W; omega)) (by omega)]
      exact r1.same (fun c p q => F c p (by first | decide | (unfold fr1_W; omega)) (by first | decide | (unfold fr2_W; omega)) (by omega))
    · rw [F 55 1 (by first | decide | (unfold fr1_W; omega)) (by first | decide | (unfold fr2_W; omega)) (by omega), F 3 2 (by first | decide | (unfold fr1_W; omega)) (by first | decide | (unfold fr2_W; omega)) (by omega), hz.2.2.1.2]
      by_cases z : m0 3 2 < 0
      · rw [if_pos z, if_pos z]
      · rw [if_neg z, if_neg z, F 30 _ (by first | decide | (unfold fr1_W; omega)) (by first | decide | (unfold fr2_W; omega)) (by omega)]
  · have g1 : ∀ c p : Int, 336 ≤ c → m1 c p = m0 c p := fun c p z => f1 c p (by first | decide | (unfold fr1_W; omega)) (by omega) (by omega) (by omega) (by omega)
    refine hK _ _ ?_
    refine zu_dairy12 hS j1 (hR m1 (g1 336 1 (by decide)) (fun p => g1 337 p (by decide))) d0 (fun p p0 p1 => by rw [g1 342 p (by decide)]; exact d1 p p0 p1) (fun f' m2 _ _ _ _ nf da2 => absurd (da2.det da).1 nf) (fun E' m2 j2 f2 l2 x25 x2 da2 s1 s2 => ?_)
    have eE := (da.det da2).2
    rw [← eE] at s1 ⊢
    have wd := da.wf d0
    obtain ⟨⟨w7, w8⟩, wh, wj, ww, wu, b3, b4, b5, b6, b9⟩ := wd
    have F : ∀ c p : Int, ¬ fr1_W c p → ¬ fr2_W c p → ¬ (c = 1 ∧ p = 1) → ¬ (4 ≤ c ∧ c ≤ 23) → ¬ (c = 3 ∧ p = 4) → ¬ (c = 0 ∧ p = 5) → ¬ c = 346 → ¬ (c = 336 ∧ p = 25) → m2 c p = m0 c p := fun c p q1 q2 q3 q4 q5 q6 q7 q8 => by rw [f2 c p q2 q7 q8, f1 c p q1 q3 q4 q5 q6]
    have G : ∀ c p : Int, c ≤ 335 → m2 c p = m1 c p := fun c p q => f2 c p (by first | decide | (unfold fr2_W; omega)) (by omega) (by omega)
    have jx : JX S m2 := by
      refine hj.tape2 j2 (fun c p hs q0 q1 q2 q3 => F c p ?_ ?_ q1 (by omega) (by omega) (by omega) q0 (by omega)) ?_ ?_
      · unfold fr1_W; omega
      · unfold fr2_W; omega
      · rw [G 1 1 (by omega), x1, x2]
      · rw [F 0 7 (by first | decide | (unfold fr1_W; omega)) (by first | decide | (unfold fr2_W; omega)) (by omega) (by omega) (by omega) (by omega) (by omega) (by omega), F 336 2 (by first | decide | (unfold fr1_W; omega)) (by first | decide | (unfold fr2_W; omega)) (by omega) (by omega) (by omega) (by omega) (by omega) (by omega)]
        exact a3
    have e157 : m2 346 157 = 0 := s2 157 (by omega) (by omega)
    have db : DB (m2 346) := ⟨by rw [s1 4 (by omega) (by omega)]; exact b4, by rw [s1 5 (by omega) (by omega)]; exact b5, by rw [s1 6 (by omega) (by omega)]; exact b6, by rw [s1 9 (by omega) (by omega)]; exact b9, by omega⟩
    have hm2 := j2.inv
    have dbE : DB (fun p => if p = 157 then 0 else E p) := ⟨b4, b5, b6, b9, by show (0 : Int) ≤ (if (157 : Int) = 157 then 0 else E 157) ∧ (if (157 : Int) = 157 then 0 else E 157) ≤ 10; rw [if_pos rfl]; decide⟩
    have eE' : ∀ p : Int, 0 ≤ p → p < 117 → m2 346 p = (fun p => if p = 157 then 0 else E p) p := fun p p0 p1 => by
      show _ = (if p = 157 then 0 else E p)
      rw [if_neg (by omega), s1 p p0 p1]
    have tlE : TL 4 (fun p => if p = 157 then 0 else E p) m1 := by
      have N : ∀ p : Int, ¬ p = 157 → (fun p : Int => if p = 157 then 0 else E p) p = E p := fun p q => if_neg q
      obtain ⟨⟨c0, c1, c2, c3, c4, c5, c6, c7⟩, r, hs, ts, ws⟩ := tl
      refine ⟨⟨c0, c1, c2, c3, c4, c5, c6, c7⟩, fun a c a0 a5 c0 c5 => ?_, fun i i0 i1 => ?_, fun i i0 i1 => ?_, fun i i0 i1 => ?_⟩
      · rcases r a c a0 a5 c0 c5 with ⟨e, nr⟩ | ⟨e, k, k0, k1, k2, k3⟩
        · refine Or.inl ⟨e, fun q => nr ?_⟩
          obtain ⟨k, k0, k1, k2⟩ := q
          have k1 : k < E 3 := k1
          rw [N _ (by omega), N _ (by omega)] at k2
          exact ⟨k, k0, k1, k2⟩
        · refine Or.inr ⟨e, k, k0, k1, ?_, ?_⟩
          · rw [N _ (by omega), N _ (by omega)]; exact k2
          · rw [N _ (by omega)]; exact k3
      · have i1 : i < E 4 := i1
        rw [N _ (by omega), N _ (by omega)]; exact hs i i0 i1
      · have i1 : i < E 9 := i1
        rw [N _ (by omega), N _ (by omega), N _ (by omega)]; exact ts i i0 i1
      · have i1 : i < E 6 := i1
        rw [N _ (by omega), N _ (by omega), N _ (by omega), N _ (by omega)]; exact ws i i0 i1
    have tl2 : TL 4 (m2 346) m2 := tlE.move dbE b3.2 (fun p _ _ => G _ p (by omega)) (fun c p q => G _ p (by unfold inT at q; omega)) (fun p q => eE' p (by unfold tp at q; omega) (by unfold tp at q; omega))
    obtain ⟨⟨q0, q1⟩, q2, q3, q4, q5, q6, q7⟩ := sq
    have sr2 : SR m2 16 (m2 346) := by
      refine ⟨⟨?_, ?_⟩, fun i i0 i1 => ⟨?_, ?_, ?_⟩, fun j j0 j1 => ?_, fun j j0 j1 => ⟨?_, ?_⟩, fun w w0 w1 => ?_⟩
      · rw [G 16 0 (by omega), q0, s1 7 (by omega) (by omega), w7]
      · rw [G 16 1 (by omega), q1, s1 8 (by omega) (by omega), w8]
      · rw [s1 4 (by omega) (by omega)] at i1
        rw [s1 _ (by omega) (by omega)]
        show m2 17 i = _
        rw [G 17 i (by omega)]; exact q2 i i0 i1
      · rw [s1 4 (by omega) (by omega)] at i1
        rw [s1 _ (by omega) (by omega), (wh i i0 i1).1]
        show m2 18 i = _
        rw [G 18 i (by omega)]; exact (q3 i i0 (by omega)).1
      · rw [s1 4 (by omega) (by omega)] at i1
        rw [s1 _ (by omega) (by omega), (wh i i0 i1).2]
        show m2 19 i = _
        rw [G 19 i (by omega)]; exact (q3 i i0 (by omega)).2
      · rw [s1 5 (by omega) (by omega)] at j1
        have bj : 0 ≤ m2 346 (35 + 4 * j) := (fam_346_35_4_0_3 hm2 (a := j) (i := 35 + 4 * j) (by omega) (by omega) (by omega)).1
        have x1' := s1 (35 + 4 * j) (by omega) (by omega)
        have x2' := s1 (35 + 4 * j + 1) (by omega) (by omega)
        have x3' := s1 (35 + 4 * j + 2) (by omega) (by omega)
        have x4' := s1 (35 + 4 * j + 3) (by omega) (by omega)
        have y1 := wj j j0 j1
        have y2 := q4 j j0 j1
        refine ⟨?_, ?_, Or.inl ⟨?_, by omega, by omega, bj⟩⟩
        · show m2 21 j = _
          rw [G 21 j (by omega), q5 j j0 (by omega)]; omega
        · show m2 22 j = _
          rw [G 22 j (by omega)]; omega
        · show m2 20 j = _
          rw [G 20 j (by omega)]; omega
      · rw [s1 5 (by omega) (by omega)] at j0
        show m2 20 j = _
        rw [G 20 j (by omega)]; exact q7 j j0 j1
      · rw [s1 5 (by omega) (by omega)] at j0
        show m2 21 j = _
        rw [G 21 j (by omega)]; exact q5 j (by omega) j1
      · rw [s1 6 (by omega) (by omega)] at w1
        rw [s1 _ (by omega) (by omega), ww w w0 w1]
        show m2 23 w = _
        rw [G 23 w (by omega)]; exact q6 w w0 (by omega)
    have tt2 : TT m2 3 (m2 346) := ⟨by rw [G 3 4 (by omega), y34, e157], fun i i0 i1 => absurd i1 (by omega)⟩
    have uq2 : UQ (m2 346) := wu.move b3.2 (fun p q => s1 p (by omega) (by omega))
    obtain ⟨_, ⟨rd, im, eu, pa⟩, cr, xz⟩ := id hz
    have F0 : ∀ c p : Int, 76 ≤ c → c ≤ 357 → ¬ fr2_W c p → ¬ c = 346 → ¬ (c = 336 ∧ p = 25) → m2 c p = m0 c p := fun c p z1 z2 z3 z4 z5 => F c p (by first | decide | (unfold fr1_W; omega)) z3 (by omega) (by omega) (by omega) (by omega) z4 z5
    refine hk _ m2 ⟨jx, ⟨⟨⟨db, by rw [s1 3 (by omega) (by omega)]; exact b3.2⟩, tl2, sr2, tt2⟩, fun k k0 k1 => ?_, ?_, fun r r0 r1 => absurd r1 (by omega)⟩, ⟨fun k k0 k1 => ?_, ?_⟩, ?_⟩
    · rw [F0 357 k (by first | decide | exact fun z => absurd z.1 (by decide) | exact ⟨fun z => absurd z.1 (by decide), fun z => absurd z.1 (by decide)⟩ | omega) (by first | decide | exact fun z => absurd z.1 (by decide) | exact ⟨fun z => absurd z.1 (by decide), fun z => absurd z.1 (by decide)⟩ | omega) (by first | decide | (unfold fr2_W; omega)) (by omega) (by omega), show iD m2 k = iD m0 k from funext (fun p => F0 354 _ (by first | decide | exact fun z => absurd z.1 (by decide) | exact ⟨fun z => absurd z.1 (by decide), fun z => absurd z.1 (by decide)⟩ | omega) (by first | decide | exact fun z => absurd z.1 (by decide) | exact ⟨fun z => absurd z.1 (by decide), fun z => absurd z.1 (by decide)⟩ | omega) (by first | decide | (unfold fr2_W; omega)) (by omega) (by omega))]
      exact (im k k0 k1).imp (fun z => z) (fun z => z.same (fun c p c0 c1 => F0 c p (by omega) (by omega) (by first | decide | (unfold fr2_W; omega)) (by omega) (by omega)) (F0 _ 4 (by omega) (by omega) (by first | decide | (unfold fr2_W; omega)) (by omega) (by omega)) (fun p _ _ => rfl))
    · rw [G 0 5 (by omega), y05, x25]
    · have e2 : m2 336 2 = m0 336 2 := F0 336 2 (by first | decide | exact fun z => absurd z.1 (by decide) | exact ⟨fun z => absurd z.1 (by decide), fun z => absurd z.1 (by decide)⟩ | omega) (by first | decide | exact fun z => absurd z.1 (by decide) | exact ⟨fun z => absurd z.1 (by decide), fun z => absurd z.1 (by decide)⟩ | omega) (by first | decide | (unfold fr2_W; omega)) (by omega) (by omega)
      have e2' : m1 336 2 = m0 336 2 := g1 336 2 (by first | decide | exact fun z => absurd z.1 (by decide) | exact ⟨fun z => absurd z.1 (by decide), fun z => absurd z.1 (by decide)⟩ | omega)
      rw [e2] at k1
      obtain ⟨Cs, r1, r2, r3⟩ := cr.1 k k0 k1
      refine ⟨Cs, ?_, r2.low k0 (fun c p q => by rw [l2 c p (by unfold lw3; omega), g1 c p (by omega)]), r3⟩
      rw [F 30 k (by first | decide | (unfold fr1_W; omega)) (by first | decide | (unfold fr2_W; omega)) (by omega) (by omega) (by omega) (by omega) (by omega) (by omega)]
      exact r1.same (fun c p q => F c p (by first | decide | (unfold fr1_W; omega)) (by first | decide | (unfold fr2_W; omega)) (by omega) (by omega) (by omega) (by omega) (by omega) (by omega))
    · rw [F 55 1 (by first | decide | (unfold fr1_W; omega)) (by first | decide | (unfold fr2_W; omega)) (by omega) (by omega) (by omega) (by omega) (by omega) (by omega), F 3 2 (by first | decide | (unfold fr1_W; omega)) (by first | decide | (unfold fr2_W; omega)) (by omega) (by omega) (by omega) (by omega) (by omega) (by omega), cr.2]
      by_cases z : m0 3 2 < 0
      · rw [if_pos z, if_pos z]
      · rw [if_neg z, if_neg z, F 30 _ (by first | decide | (unfold fr1_W; omega)) (by first | decide | (unfold fr2_W; omega)) (by omega) (by omega) (by omega) (by omega) (by omega) (by omega)]
    · obtain ⟨xs, xb, xc, xd, xe, xf⟩ := xz
      refine ⟨⟨?_, fun _ => ?_, ?_, ?_⟩, fun k k0 k1 => (xb k k0 k1).move (F0 _ _ (by omega) (by omega) (by first | decide | (unfold fr2_W; omega)) (by omega) (by omega)) (F0 _ _ (by omega) (by omega) (by first | decide | (unfold fr2_W; omega)) (by omega) (by omega)) (F0 _ _ (by omega) (by omega) (by first | decide | (unfold fr2_W; omega)) (by omega) (by omega)) (fun p _ _ => F0 _ _ (by omega) (by omega) (by first | decide | (unfold fr2_W; omega)) (by omega) (by omega)) (fun p _ _ => F0 _ _ (by omega) (by omega) (by first | decide | (unfold fr2_W; omega)) (by omega) (by omega)) (fun p _ _ => F0 _ _ (by omega) (by omega) (by first | decide | (unfold fr2_W; omega)) (by omega) (by omega)), fun r r0 r1 => ?_, uq2, fun k k0 k1 => ?_, ?_⟩
      · show m2 16 0 ≤ n
        rw [G 16 0 (by omega), q0]; exact hn
      · rw [G 3 4 (by omega), y34]
      · exact wk.move (G _ _ (by omega)) (fun p _ _ => G _ _ (by omega)) (fun p _ _ => G _ _ (by omega))
      · intro g g0
        have e : hbt (m2 (3 + 18)) g 4 = 0 := by
          have h0 : ∀ p : Int, 0 ≤ p → p < 4 → m2 (3 + 18) p = -1 := fun p p0 p1 => by
            show m2 21 p = -1
            rw [G 21 p (by omega), q5 p p0 p1]
          have := hbt_ext (f := m2 (3 + 18)) (h := g) (n := 0) 4 (fun j j0 j1 => by rw [h0 j (by omega) (by omega)]; omega)
          exact this
        rw [e]; decide
      · rw [F0 _ 0 (by omega) (by omega) (by first | decide | (unfold fr2_W; omega)) (by omega) (by omega)]
        exact ⟨(xc r r0 r1).1, (xc r r0 r1).2.move (fun p _ _ => F0 _ _ (by omega) (by omega) (by first | decide | (unfold fr2_W; omega)) (by omega) (by omega))⟩
      · rw [F0 357 k (by first | decide | exact fun z => absurd z.1 (by decide) | exact ⟨fun z => absurd z.1 (by decide), fun z => absurd z.1 (by decide)⟩ | omega) (by first | decide | exact fun z => absurd z.1 (by decide) | exact ⟨fun z => absurd z.1 (by decide), fun z => absurd z.1 (by decide)⟩ | omega) (by first | decide | (unfold fr2_W; omega)) (by omega) (by omega), show iD m2 k = iD m0 k from funext (fun p => F0 354 _ (by first | decide | exact fun z => absurd z.1 (by decide) | exact ⟨fun z => absurd z.1 (by decide), fun z => absurd z.1 (by decide)⟩ | omega) (by first | decide | exact fun z => absurd z.1 (by decide) | exact ⟨fun z => absurd z.1 (by decide), fun z => absurd z.1 (by decide)⟩ | omega) (by first | decide | (unfold fr2_W; omega)) (by omega) (by omega))]; exact xe k k0 k1
      · rw [F 55 2 (by first | decide | (unfold fr1_W; omega)) (by first | decide | (unfold fr2_W; omega)) (by omega) (by omega) (by omega) (by omega) (by omega) (by omega), F0 336 23 (by first | decide | exact fun z => absurd z.1 (by decide) | exact ⟨fun z => absurd z.1 (by decide), fun z => absurd z.1 (by decide)⟩ | omega) (by first | decide | exact fun z => absurd z.1 (by decide) | exact ⟨fun z => absurd z.1 (by decide), fun z => absurd z.1 (by decide)⟩ | omega) (by first | decide | (unfold fr2_W; omega)) (by omega) (by omega)]; exact xf
end
section
/-! what is asked leaves all alike -/
theorem ww_way {S : Sh} {m0 : Mm} {K : Int → Int → Mm → Prop} {K1 : Int → Mm → Prop} {n u1 u2 u3 : Int} (hS : Shp S) (hz : RZ S m0 n) (l1 : -2147483648 ≤ u1) (h1 : u1 ≤ 2147483647) (l2 : -2147483648 ≤ u2) (h2 : u2 ≤ 2147483647) (l3 : -2147483648 ≤ u3) (h3 : u3 ≤ 2147483647) (hK : ∀ (r : Int) (M : Mm), wp_X12_way S M 336 u1 u2 u3 (fun r2 M2 => K r r2 M2) → K1 r M) (hk : ∀ (r r2 : Int) (M1 : Mm), RZ S M1 n → K r r2 M1) : wp_X11_way S m0 0 u1 u2 u3 K1 := by
  have a : wp_X11_way S m0 0 u1 u2 u3 (fun _ m => Inv (sf m0) S m) := z_X11_way hS hz.inv l1 h1 l2 h2 l3 h3 (fun _ _ _ => hz.inv)
  refine fq1_X11_way hz.inv (fun r m1 f1 hm1 => ?_) (fun _ _ _ => rfl) a
  have z1 : RZ S m1 n := hz.same (hz.1.of hm1) (fun c p q1 _ => f1 c p q1)
  have b : wp_X12_way S m1 336 u1 u2 u3 (fun _ m => Inv (sf m1) S m) := z_X12_way hS z1.inv l1 h1 l2 h2 l3 h3 (fun _ _ h _ _ => h)
  refine hK _ _ (fq2_X12_way z1.inv (fun r2 m2 f2 hm2 => ?_) (fun _ _ _ => rfl) b)
  exact hk _ _ m2 (z1.same (z1.1.of hm2) (fun c p _ q2 => f2 c p q2))
theorem ww_brings {S : Sh} {m0 : Mm} {K : Int → Int → Mm → Prop} {K1 : Int → Mm → Prop} {n u1 u2 u3 : Int} (hS : Shp S) (hz : RZ S m0 n) (l1 : -2147483648 ≤ u1) (h1 : u1 ≤ 2147483647) (l2 : -2147483648 ≤ u2) (h2 : u2 ≤ 2147483647) (l3 : -2147483648 ≤ u3) (h3 : u3 ≤ 2147483647) (hK : ∀ (r : Int) (M : Mm), wp_X12_brings S M 336 u1 u2 u3 (fun r2 M2 => K r r2 M2) → K1 r M) (hk : ∀ (r r2 : Int) (M1 : Mm), RZ S M1 n → K r r2 M1) : wp_X11_brings S m0 0 u1 u2 u3 K1 := by
  have a : wp_X11_brings S m0 0 u1 u2 u3 (fun _ m => Inv (sf m0) S m) := z_X11_brings hS hz.inv l1 h1 l2 h2 l3 h3 (fun _ _ h _ _ => h)
  refine fq1_X11_brings hz.inv (fun r m1 f1 hm1 => ?_) (fun _ _ _ => rfl) a
  have z1 : RZ S m1 n := hz.same (hz.1.of hm1) (fun c p q1 _ => f1 c p q1)
  have b : wp_X12_brings S m1 336 u1 u2 u3 (fun _ m => Inv (sf m1) S m) := z_X12_brings hS z1.inv l1 h1 l2 h2 l3 h3 (fun _ _ h _ _ => h)
  refine hK _ _ (fq2_X12_brings z1.inv (fun r2 m2 f2 hm2 => ?_) (fun _ _ _ => rfl) b)
  exact hk _ _ m2 (z1.same (z1.1.of hm2) (fun c p _ q2 => f2 c p q2))
theorem ww_relay {S : Sh} {m0 : Mm} {K : Int → Int → Mm → Prop} {K1 : Int → Mm → Prop} {n u1 u2 u3 u4 u5 : Int} (hS : Shp S) (hz : RZ S m0 n) (l1 : -2147483648 ≤ u1) (h1 : u1 ≤ 2147483647) (l2 : -2147483648 ≤ u2) (h2 : u2 ≤ 2147483647) (l3 : -2147483648 ≤ u3) (h3 : u3 ≤ 2147483647) (l4 : -2147483648 ≤ u4) (h4 : u4 ≤ 2147483647) (l5 : -2147483648 ≤ u5) (h5 : u5 ≤ 2147483647) (hK : ∀ (r : Int) (M : Mm), wp_X12_relay S M 336 u1 u2 u3 u4 u5 (fun r2 M2 => K r r2 M2) → K1 r M) (hk : ∀ (r r2 : Int) (M1 : Mm), RZ S M1 n → K r r2 M1) : wp_X11_relay S m0 0 u1 u2 u3 u4 u5 K1 := by
  have a : wp_X11_relay S m0 0 u1 u2 u3 u4 u5 (fun _ m => Inv (sf m0) S m) := z_X11_relay hS hz.inv l1 h1 l2 h2 l3 h3 l4 h4 l5 h5 (fun _ _ h _ _ => h)
  refine fq1_X11_relay hz.inv (fun r m1 f1 hm1 => ?_) (fun _ _ _ => rfl) a
  have z1 : RZ S m1 n := hz.same (hz.1.of hm1) (fun c p q1 _ => f1 c p q1)
  have b : wp_X12_relay S m1 336 u1 u2 u3 u4 u5 (fun _ m => Inv (sf m1) S m) := z_X12_relay hS z1.inv l1 h1 l2 h2 l3 h3 l4 h4 l5 h5 (fun _ _ h _ _ => h)
  refine hK _ _ (fq2_X12_relay z1.inv (fun r2 m2 f2 hm2 => ?_) (fun _ _ _ => rfl) b)
  exact hk _ _ m2 (z1.same (z1.1.of hm2) (fun c p _ q2 => f2 c p q2))
theorem ww_match {S : Sh} {m0 : Mm} {K : Int → Int → Mm → Prop} {K1 : Int → Mm → Prop} {n u1 : Int} (hS : Shp S) (hz : RZ S m0 n) (l1 : -2147483648 ≤ u1) (h1 : u1 ≤ 2147483647) (hK : ∀ (r : Int) (M : Mm), wp_X12_match S M 336 u1 (fun r2 M2 => K r r2 M2) → K1 r M) (hk : ∀ (r r2 : Int) (M1 : Mm), RZ S M1 n → K r r2 M1) : wp_X11_match S m0 0 u1 K1 := by
  have a : wp_X11_match S m0 0 u1 (fun _ m => Inv (sf m0) S m) := z_X11_match hS hz.inv l1 h1 (fun _ _ h _ _ => h)
  refine fq1_X11_match hz.inv (fun r m1 f1 hm1 => ?_) (fun _ _ _ => rfl) a
  have z1 : RZ S m1 n := hz.same (hz.1.of hm1) (fun c p q1 _ => f1 c p q1)
  have b : wp_X12_match S m1 336 u1 (fun _ m => Inv (sf m1) S m) := z_X12_match hS z1.inv l1 h1 (fun _ _ _ => z1.inv)
  refine hK _ _ (fq2_X12_match z1.inv (fun r2 m2 f2 hm2 => ?_) (fun _ _ _ => rfl) b)
  exact hk _ _ m2 (z1.same (z1.1.of hm2) (fun c p _ q2 => f2 c p q2))
theorem ww_rest {S : Sh} {m0 : Mm} {K : Int → Int → Mm → Prop} {K1 : Int → Mm → Prop} {n u1 u2 u3 u4 : Int} (hS : Shp S) (hz : RZ S m0 n) (l1 : -2147483648 ≤ u1) (h1 : u1 ≤ 2147483647) (l2 : -2147483648 ≤ u2) (h2 : u2 ≤ 2147483647) (l3 : -2147483648 ≤ u3) (h3 : u3 ≤ 2147483647) (l4 : -2147483648 ≤ u4) (h4 : u4 ≤ 2147483647) (hK : ∀ (r : Int) (M : Mm), wp_X12_rest S M 336 u1 u2 u3 u4 (fun r2 M2 => K r r2 M2) → K1 r M) (hk : ∀ (r r2 : Int) (M1 : Mm), RZ S M1 n → K r r2 M1) : wp_X11_rest S m0 0 u1 u2 u3 u4 K1 := by
  have a : wp_X11_rest S m0 0 u1 u2 u3 u4 (fun _ m => Inv (sf m0) S m) := z_X11_rest hS hz.inv l1 h1 l2 h2 l3 h3 l4 h4 (fun _ _ h _ _ => h)
  refine fq1_X11_rest hz.inv (fun r m1 f1 hm1 => ?_) (fun _ _ _ => rfl) a
  have z1 : RZ S m1 n := hz.same (hz.1.of hm1) (fun c p q1 _ => f1 c p q1)
  have b : wp_X12_rest S m1 336 u1 u2 u3 u4 (fun _ m => Inv (sf m1) S m) := z_X12_rest hS z1.inv l1 h1 l2 h2 l3 h3 l4 h4 (fun _ _ h _ _ => h)
  refine hK _ _ (fq2_X12_rest z1.inv (fun r2 m2 f2 hm2 => ?_) (fun _ _ _ => rfl) b)
  exact hk _ _ m2 (z1.same (z1.1.of hm2) (fun c p _ q2 => f2 c p q2))
theorem ww_who {S : Sh} {m0 : Mm} {K : Int → Int → Mm → Prop} {K1 : Int → Mm → Prop} {n u1 : Int} (hS : Shp S) (hz : RZ S m0 n) (l1 : -2147483648 ≤ u1) (h1 : u1 ≤ 2147483647) (hK : ∀ (r : Int) (M : Mm), wp_X12_who S M 336 u1 (fun r2 M2 => K r r2 M2) → K1 r M) (hk : ∀ (r r2 : Int) (M1 : Mm), RZ S M1 n → K r r2 M1) : wp_X11_who S m0 0 u1 K1 := by
  have a : wp_X11_who S m0 0 u1 (fun _ m => Inv (sf m0) S m) := z_X11_who hS hz.inv l1 h1 (fun _ _ h _ _ => h)
  refine fq1_X11_who hz.inv (fun r m1 f1 hm1 => ?_) (fun _ _ _ => rfl) a
  have z1 : RZ S m1 n := hz.same (hz.1.of hm1) (fun c p q1 _ => f1 c p q1)
  have b : wp_X12_who S m1 336 u1 (fun _ m => Inv (sf m1) S m) := z_X12_who hS z1.inv l1 h1 (fun _ _ h _ _ => h)
  refine hK _ _ (fq2_X12_who z1.inv (fun r2 m2 f2 hm2 => ?_) (fun _ _ _ => rfl) b)
  exact hk _ _ m2 (z1.same (z1.1.of hm2) (fun c p _ q2 => f2 c p q2))
theorem ww_probe {S : Sh} {m0 : Mm} {K : Int → Int → Mm → Prop} {K1 : Int → Mm → Prop} {n u1 : Int} (hS : Shp S) (hz : RZ S m0 n) (l1 : -2147483648 ≤ u1) (h1 : u1 ≤ 2147483647) (hK : ∀ (r : Int) (M : Mm), wp_X12_probe S M 336 u1 (fun r2 M2 => K r r2 M2) → K1 r M) (hk : ∀ (r r2 : Int) (M1 : Mm), RZ S M1 n → K r r2 M1) : wp_X11_probe S m0 0 u1 K1 := by
  have a : wp_X11_probe S m0 0 u1 (fun _ m => Inv (sf m0) S m) := z_X11_probe hS hz.inv l1 h1 (fun _ _ h _ _ => h)
  refine fq1_X11_probe hz.inv (fun r m1 f1 hm1 => ?_) (fun _ _ _ => rfl) a
  have z1 : RZ S m1 n := hz.same (hz.1.of hm1) (fun c p q1 _ => f1 c p q1)
  have b : wp_X12_probe S m1 336 u1 (fun _ m => Inv (sf m1) S m) := z_X12_probe hS z1.inv l1 h1 (fun _ _ h _ _ => h)
  refine hK _ _ (fq2_X12_probe z1.inv (fun r2 m2 f2 hm2 => ?_) (fun _ _ _ => rfl) b)
  exact hk _ _ m2 (z1.same (z1.1.of hm2) (fun c p _ q2 => f2 c p q2))
theorem zz_hand {S : Sh} {m0 : Mm} {K : Int → Int → Mm → Prop} {K1 : Int → Mm → Prop} {n h w : Int} (hS : Shp S) (hz : RZ S m0 n) (hK : ∀ (r : Int) (M : Mm), wp_X12_hand S M 336 h w (fun r2 M2 => K r r2 M2) → K1 r M) (hk : ∀ (r : Int) (M1 : Mm), RZ S M1 n → K r r M1) : wp_X11_hand S m0 0 h w K1 := by
  have hm := hz.inv
  have ct := hz.ct
  have db := hz.db
  have c4 : m0 4 4 = m0 346 4 := ct.2.2.2.2.1
  have ref : ∀ r : Int, ((0 ≤ h ∧ h < m0 346 4) → (0 ≤ w ∧ w ≤ 5) → (w < 3 → r = m0 346 (10 + 5 * h + w)) ∧ (w = 3 → r = hbR m0 h) ∧ (3 < w → r = m0 346 (10 + 5 * h + (w - 1)))) → (¬ ((0 ≤ h ∧ h < m0 346 4) ∧ (0 ≤ w ∧ w ≤ 5)) → r = -1) → wp_X12_hand S m0 336 h w (fun r2 M2 => K r r2 M2) := by
    intro r e1 e2
    refine u_X12_hand ?_
    refine ⟨hS.k336, ?_⟩
    refine zs_isHand12 hS hm (fun c1 => g_ifF (by decide) ?_) (fun c1 => g_ifT rfl (g_C (by rw [e2 (fun z => c1 z.1)]; exact hk _ m0 hz)))
    refine g_C ?_
    refine g_C ?_
    refine g_C ?_
    refine zs_in (fun c2 => g_ifT (by decide) ?_) (fun c2 => g_ifF (by decide) (g_C (by rw [e2 (fun z => c2 z.2)]; exact hk _ m0 hz)))
    obtain ⟨x1, x2, x3⟩ := e1 c1 c2
    refine g_C ?_
    refine g_if (fun w1 => ?_) (fun w1 => ?_)
    · refine g_C ?_
      refine g_if (fun w2 => ?_) (fun w2 => ?_)
      · refine g_C ?_
        refine g_S (by omega) (by omega) ?_
        refine ⟨hS.k336, ?_⟩
        refine zt_handOf hS hm c1.1 (by omega) (by omega) (by omega) ?_
        rw [x3 (by omega)]
        exact hk _ m0 hz
      · refine ⟨hS.k336, ?_⟩
        refine zt_held hS hm ?_
        rw [x2 (by omega)]
        exact hk _ m0 hz
    · refine ⟨hS.k336, ?_⟩
      refine zt_handOf hS hm c1.1 (by omega) (by omega) (by omega) ?_
      rw [x1 (by omega)]
      exact hk _ m0 hz
  refine u_X11_hand ?_
  refine ⟨hS.k0, ?_⟩
  refine zs_isHand11 hS hm (fun c1 => g_ifT (by decide) ?_) (fun c1 => g_ifF (by decide) (g_C (hK _ _ (ref _ (fun z => absurd z (by omega)) (fun _ => rfl)))))
  have zh := hz.hd c1.1 (by omega)
  have zs := hz.sp c1.1 (by omega)
  refine g_if (fun w1 => ?_) (fun w1 => ?_)
  · refine g_getr 1 3 rfl hS.k0 hm.f_0_1 (by decide) ?_
    refine g_getr 1 16 rfl hS.k3 hm.f_3_1 (by decide) ?_
    refine g_getr 2 17 rfl hS.k16 hm.f_16_2 (by decide) ?_
    refine g_ldu hS.k17 hS.l17 (by omega) (by omega) (fun v ev => ?_)
    refine hK _ _ (ref _ (fun _ _ => ⟨fun _ => ?_, fun q => absurd q (by omega), fun q => absurd q (by omega)⟩) (fun z => absurd ⟨⟨c1.1, by omega⟩, by omega, by omega⟩ z))
    rw [ev, zh.1, w1, Int.add_zero]
  refine g_if (fun w2 => ?_) (fun w2 => ?_)
  · refine g_getr 1 3 rfl hS.k0 hm.f_0_1 (by decide) ?_
    refine g_getr 1 16 rfl hS.k3 hm.f_3_1 (by decide) ?_
    refine g_getr 3 18 rfl hS.k16 hm.f_16_3 (by decide) ?_
    refine g_ldu hS.k18 hS.l18 (by omega) (by omega) (fun v ev => ?_)
    refine hK _ _ (ref _ (fun _ _ => ⟨fun _ => ?_, fun q => absurd q (by omega), fun q => absurd q (by omega)⟩) (fun z => absurd ⟨⟨c1.1, by omega⟩, by omega, by omega⟩ z))
    rw [ev, zh.2.1, w2]
  refine g_if (fun w3 => ?_) (fun w3 => ?_)
  · refine g_getr 1 3 rfl hS.k0 hm.f_0_1 (by decide) ?_
    refine g_getr 1 16 rfl hS.k3 hm.f_3_1 (by decide) ?_
    refine g_getr 4 19 rfl hS.k16 hm.f_16_4 (by decide) ?_
    refine g_ldu hS.k19 hS.l19 (by omega) (by omega) (fun v ev => ?_)
    refine hK _ _ (ref _ (fun _ _ => ⟨fun _ => ?_, fun q => absurd q (by omega), fun q => absurd q (by omega)⟩) (fun z => absurd ⟨⟨c1.1, by omega⟩, by omega, by omega⟩ z))
    rw [ev, zh.2.2, w3]
  refine g_if (fun w4 => ?_) (fun w4 => ?_)
  · refine g_getr 1 3 rfl hS.k0 hm.f_0_1 (by decide) ?_
    refine g_getr 1 16 rfl hS.k3 hm.f_3_1 (by decide) ?_
    refine ⟨hS.k16, ?_⟩
    refine zt_heldBits hS hm (by decide) ?_
    refine hK _ _ (ref _ (fun _ _ => ⟨fun q => absurd q (by omega), fun _ => hz.hb c1.1, fun q => absurd q (by omega)⟩) (fun z => absurd ⟨⟨c1.1, by omega⟩, by omega, by omega⟩ z))
  refine g_if (fun w5 => ?_) (fun w5 => ?_)
  · refine g_getr 1 3 rfl hS.k0 hm.f_0_1 (by decide) ?_
    refine g_getr 0 4 rfl hS.k3 hm.f_3_0 (by decide) ?_
    refine g_getr 10 7 rfl hS.k4 hm.f_4_10 (by decide) ?_
    refine g_ldu hS.k7 hS.l7 (by omega) (by omega) (fun v ev => ?_)
    refine hK _ _ (ref _ (fun _ _ => ⟨fun q => absurd q (by omega), fun q => absurd q (by omega), fun _ => ?_⟩) (fun z => absurd ⟨⟨c1.1, by omega⟩, by omega, by omega⟩ z))
    rw [ev, zs.1, w5]
    rfl
  refine g_if (fun w6 => ?_) (fun w6 => ?_)
  · refine g_getr 1 3 rfl hS.k0 hm.f_0_1 (by decide) ?_
    refine g_getr 0 4 rfl hS.k3 hm.f_3_0 (by decide) ?_
    refine g_getr 11 8 rfl hS.k4 hm.f_4_11 (by decide) ?_
    refine g_ldu hS.k8 hS.l8 (by omega) (by omega) (fun v ev => ?_)
    refine hK _ _ (ref _ (fun _ _ => ⟨fun q => absurd q (by omega), fun q => absurd q (by omega), fun _ => ?_⟩) (fun z => absurd ⟨⟨c1.1, by omega⟩, by omega, by omega⟩ z))
    rw [ev, zs.2, w6]
    rfl
  refine g_C ?_
  exact hK _ _ (ref _ (fun _ q => absurd q (by omega)) (fun _ => rfl))
theorem zz_jug {S : Sh} {m0 : Mm} {K : Int → Int → Mm → Prop} {K1 : Int → Mm → Prop} {n j w : Int} (hS : Shp S) (hz : RZ S m0 n) (hK : ∀ (r : Int) (M : Mm), wp_X12_jug S M 336 j w (fun r2 M2 => K r r2 M2) → K1 r M) (hk : ∀ (r : Int) (M1 : Mm), RZ S M1 n → K r r M1) : wp_X11_jug S m0 0 j w K1 := by
  have hm := hz.inv
  have ct := hz.ct
  have db := hz.db
  have c5 : m0 4 5 = m0 346 5 := ct.2.2.2.2.2.1
  have c2 : m0 4 2 = m0 346 2 := ct.2.2.1
  have ref : ∀ r : Int, ((0 ≤ j ∧ j < m0 346 5) → (w = 0 → (StR m0 j → r = m0 346 (35 + 4 * j + 0)) ∧ (¬ StR m0 j → r = -1)) ∧ (w = 1 → r = m0 346 (35 + 4 * j + 1)) ∧ (w = 2 → r = m0 346 (35 + 4 * j + 2)) ∧ (w = 3 → (m0 346 (35 + 4 * j + 2) < m0 346 2 → r = 0) ∧ (¬ m0 346 (35 + 4 * j + 2) < m0 346 2 → r = 1)) ∧ (w = 4 → r = m0 346 (35 + 4 * j + 3))) → (¬ ((0 ≤ j ∧ j < m0 346 5) ∧ (0 ≤ w ∧ w ≤ 4)) → r = -2) → wp_X12_jug S m0 336 j w (fun r2 M2 => K r r2 M2) := by
    intro r e1 e2
    refine u_X12_jug ?_
    refine ⟨hS.k336, ?_⟩
    refine zs_isJug12 hS hm (fun c1 => g_ifT (by decide) ?_) (fun c1 => g_ifF (by decide) (g_C (by rw [e2 (fun z => c1 z.1)]; exact hk _ m0 hz)))
    obtain ⟨x0, x1, x2, x3, x4⟩ := e1 c1
    refine g_if (fun w1 => ?_) (fun w1 => ?_)
    · refine ⟨hS.k336, ?_⟩
      refine zt_stands hS hm c1.1 (by omega) (fun s => g_ifF (by decide) ?_) (fun s => g_ifT rfl (g_C (by rw [(x0 w1).2 s]; exact hk _ m0 hz)))
      refine g_C ?_
      refine ⟨hS.k336, ?_⟩
      refine zt_jugOf hS hm c1.1 (by omega) (by omega) (by omega) ?_
      rw [(x0 w1).1 s]
      exact hk _ m0 hz
    refine g_if (fun w2 => ?_) (fun w2 => ?_)
    · refine ⟨hS.k336, ?_⟩
      refine zt_jugOf hS hm c1.1 (by omega) (by omega) (by omega) ?_
      rw [x1 w2, w2]
      exact hk _ m0 hz
    refine g_if (fun w3 => ?_) (fun w3 => ?_)
    · refine ⟨hS.k336, ?_⟩
      refine zt_jugOf hS hm c1.1 (by omega) (by omega) (by omega) ?_
      rw [x2 w3, w3]
      exact hk _ m0 hz
    refine g_if (fun w4 => ?_) (fun w4 => ?_)
    · refine g_C ?_
      refine ⟨hS.k336, ?_⟩
      refine zt_jugOf hS hm c1.1 (by omega) (by omega) (by omega) ?_
      refine g_getr 20 346 rfl hS.k336 hm.f_336_20 (by decide) ?_
      refine g_C ?_
      refine g_ldu hS.k346 hS.l346 (by decide) (by decide) (fun v ev => ?_)
      subst ev
      exact g_if (fun q => g_C (by rw [(x3 w4).1 q]; exact hk _ m0 hz)) (fun q => g_C (by rw [(x3 w4).2 q]; exact hk _ m0 hz))
    refine g_if (fun w5 => ?_) (fun w5 => ?_)
    · refine g_C ?_
      refine ⟨hS.k336, ?_⟩
      refine zt_jugOf hS hm c1.1 (by omega) (by omega) (by omega) ?_
      rw [x4 w5]
      exact hk _ m0 hz
    · refine g_C ?_
      rw [e2 (fun z => by omega)]
      exact hk _ m0 hz
  have no : ∀ r : Int, r = -2 → ¬ ((0 ≤ j ∧ j < m0 346 5) ∧ (0 ≤ w ∧ w ≤ 4)) → wp_X12_jug S m0 336 j w (fun r2 M2 => K r r2 M2) := fun r e q => ref r (fun z => ⟨fun y => absurd ⟨z, by omega, by omega⟩ q, fun y => absurd ⟨z, by omega, by omega⟩ q, fun y => absurd ⟨z, by omega, by omega⟩ q, fun y => absurd ⟨z, by omega, by omega⟩ q, fun y => absurd ⟨z, by omega, by omega⟩ q⟩) (fun _ => e)
  refine u_X11_jug ?_
  refine ⟨hS.k0, ?_⟩
  refine zs_isJug11 hS hm (fun c1 => g_ifT (by decide) ?_) (fun c1 => g_ifF (by decide) (g_C (hK _ _ (no _ rfl (fun z => c1 (by omega))))))
  have c1' : 0 ≤ j ∧ j < m0 346 5 := by omega
  have zj := hz.jg c1'.1 c1'.2
  have yes : ∀ r : Int, (0 ≤ w ∧ w ≤ 4) → ((w = 0 → (StR m0 j → r = m0 346 (35 + 4 * j + 0)) ∧ (¬ StR m0 j → r = -1)) ∧ (w = 1 → r = m0 346 (35 + 4 * j + 1)) ∧ (w = 2 → r = m0 346 (35 + 4 * j + 2)) ∧ (w = 3 → (m0 346 (35 + 4 * j + 2) < m0 346 2 → r = 0) ∧ (¬ m0 346 (35 + 4 * j + 2) < m0 346 2 → r = 1)) ∧ (w = 4 → r = m0 346 (35 + 4 * j + 3))) → wp_X12_jug S m0 336 j w (fun r2 M2 => K r r2 M2) := fun r wb q => ref r (fun _ => q) (fun z => absurd ⟨c1', wb⟩ z)
  refine g_if (fun w1 => ?_) (fun w1 => ?_)
  · refine g_getr 1 3 rfl hS.k0 hm.f_0_1 (by decide) ?_
    refine g_getr 1 16 rfl hS.k3 hm.f_3_1 (by decide) ?_
    refine g_getr 5 20 rfl hS.k16 hm.f_16_5 (by decide) ?_
    refine g_ldu hS.k20 hS.l20 (by omega) (by omega) (fun v ev => ?_)
    refine hK _ _ (yes _ (by omega) ⟨fun _ => ⟨fun s => ?_, fun s => ?_⟩, fun q => absurd q (by omega), fun q => absurd q (by omega), fun q => absurd q (by omega), fun q => absurd q (by omega)⟩)
    · have s1 := s.1
      have s2 := s.2
      rw [Int.add_zero]
      omega
    · have s3 : ¬ (m0 346 (35 + 4 * j + 1) < 0 ∧ m0 346 (35 + 4 * j + 3) = 0) := s
      omega
  refine g_if (fun w2 => ?_) (fun w2 => ?_)
  · refine g_getr 1 3 rfl hS.k0 hm.f_0_1 (by decide) ?_
    refine g_getr 1 16 rfl hS.k3 hm.f_3_1 (by decide) ?_
    refine g_getr 6 21 rfl hS.k16 hm.f_16_6 (by decide) ?_
    refine g_ldu hS.k21 hS.l21 (by omega) (by omega) (fun v ev => ?_)
    refine hK _ _ (yes _ (by omega) ⟨fun q => absurd q (by omega), fun _ => by omega, fun q => absurd q (by omega), fun q => absurd q (by omega), fun q => absurd q (by omega)⟩)
  refine g_if (fun w3 => ?_) (fun w3 => ?_)
  · refine g_getr 1 3 rfl hS.k0 hm.f_0_1 (by decide) ?_
    refine g_getr 1 16 rfl hS.k3 hm.f_3_1 (by decide) ?_
    refine g_getr 7 22 rfl hS.k16 hm.f_16_7 (by decide) ?_
    refine g_ldu hS.k22 hS.l22 (by omega) (by omega) (fun v ev => ?_)
    refine hK _ _ (yes _ (by omega) ⟨fun q => absurd q (by omega), fun q => absurd q (by omega), fun _ => by omega, fun q => absurd q (by omega), fun q => absurd q (by omega)⟩)
  refine g_if (fun w4 => ?_) (fun w4 => ?_)
  · refine g_getr 1 3 rfl hS.k0 hm.f_0_1 (by decide) ?_
    refine g_getr 1 16 rfl hS.k3 hm.f_3_1 (by decide) ?_
    refine g_getr 7 22 rfl hS.k16 hm.f_16_7 (by decide) ?_
    refine g_ldu hS.k22 hS.l22 (by omega) (by omega) (fun v ev => ?_)
    refine g_getr 1 3 rfl hS.k0 hm.f_0_1 (by decide) ?_
    refine g_getr 0 4 rfl hS.k3 hm.f_3_0 (by decide) ?_
    refine g_getu 2 rfl hS.k4 (fun s es => ?_)
    refine g_if (fun q => g_C (hK _ _ (yes _ (by omega) ⟨fun q => absurd q (by omega), fun q => absurd q (by omega), fun q => absurd q (by omega), fun _ => ⟨fun _ => rfl, fun y => absurd (by omega) y⟩, fun q => absurd q (by omega)⟩))) (fun q => g_C (hK _ _ (yes _ (by omega) ⟨fun q => absurd q (by omega), fun q => absurd q (by omega), fun q => absurd q (by omega), fun _ => ⟨fun y => absurd y (by omega), fun _ => rfl⟩, fun q => absurd q (by omega)⟩)))
  refine g_if (fun w5 => ?_) (fun w5 => ?_)
  · refine g_getr 1 3 rfl hS.k0 hm.f_0_1 (by decide) ?_
    refine g_getr 1 16 rfl hS.k3 hm.f_3_1 (by decide) ?_
    refine ⟨hS.k16, ?_⟩
    refine zh_gone hS hm (by decide) c1.1 (by omega) (fun s1 s2 => g_ifF (by decide) (g_C (hK _ _ (yes _ (by omega) ⟨fun q => absurd q (by omega), fun q => absurd q (by omega), fun q => absurd q (by omega), fun q => absurd q (by omega), fun _ => ?_⟩)))) (fun s => g_ifT rfl (g_C (hK _ _ (yes _ (by omega) ⟨fun q => absurd q (by omega), fun q => absurd q (by omega), fun q => absurd q (by omega), fun q => absurd q (by omega), fun _ => ?_⟩))))
    · have s1 : m0 20 j = -1 := s1
      have s2 : m0 21 j = -1 := s2
      omega
    · have s : ¬ (m0 20 j = -1 ∧ m0 21 j = -1) := s
      omega
  refine g_C ?_
  exact hK _ _ (no _ rfl (by omega))
theorem zz_want {S : Sh} {m0 : Mm} {K : Int → Int → Mm → Prop} {K1 : Int → Mm → Prop} {n w x : Int} (hS : Shp S) (hz : RZ S m0 n) (hK : ∀ (r : Int) (M : Mm), wp_X12_want S M 336 w x (fun r2 M2 => K r r2 M2) → K1 r M) (hk : ∀ (r : Int) (M1 : Mm), RZ S M1 n → K r r M1) : wp_X11_want S m0 0 w x K1 := by
  have hm := hz.inv
  have ct := hz.ct
  have db := hz.db
  have c7 : m0 4 7 = m0 346 6 := ct.2.2.2.2.2.2.2
  have c5 : m0 4 5 = m0 346 5 := ct.2.2.2.2.2.1
  have ref : ∀ r : Int, ((0 ≤ w ∧ w < m0 346 6) → (0 ≤ x ∧ x ≤ 5) → (x < 4 → r = m0 346 (93 + 4 * w + x)) ∧ (x = 4 → r = m0 346 (51 + w)) ∧ (x = 5 → ((m0 346 (51 + w) < 0 → ∀ j : Int, 0 ≤ j → j < m0 346 5 → ¬ rSu m0 w j) → r = 0) ∧ (∀ j : Int, m0 346 (51 + w) < 0 → 0 ≤ j → j < m0 346 5 → rSu m0 w j → r = 1))) → (¬ ((0 ≤ w ∧ w < m0 346 6) ∧ (0 ≤ x ∧ x ≤ 5)) → r = -2) → wp_X12_want S m0 336 w x (fun r2 M2 => K r r2 M2) := by
    intro r e1 e2
    refine u_X12_want ?_
    refine ⟨hS.k336, ?_⟩
    refine zs_isWant12 hS hm (fun c1 => g_ifF (by decide) ?_) (fun c1 => g_ifT rfl (g_C (by rw [e2 (fun z => c1 z.1)]; exact hk _ m0 hz)))
    refine g_C ?_
    refine g_C ?_
    refine g_C ?_
    refine zs_in (fun c2 => g_ifT (by decide) ?_) (fun c2 => g_ifF (by decide) (g_C (by rw [e2 (fun z => c2 z.2)]; exact hk _ m0 hz)))
    obtain ⟨x1, x2, x3⟩ := e1 c1 c2
    refine g_C ?_
    refine g_if (fun w1 => ?_) (fun w1 => ?_)
    · refine g_C ?_
      refine g_if (fun w2 => ?_) (fun w2 => ?_)
      · refine ⟨hS.k336, ?_⟩
        have x3 := x3 (by omega)
        refine zs_firstFor hS hm c1.1 (by omega) (fun q => ?_) (fun j a0 a1 a2 a3 _ => ?_)
        · refine g_ifT (by decide) (g_C ?_)
          rw [x3.1 q]
          exact hk _ m0 hz
        · refine g_ifF (by omega) (g_C ?_)
          rw [x3.2 j a0 a1 a2 a3]
          exact hk _ m0 hz
      · refine g_getr 20 346 rfl hS.k336 hm.f_336_20 (by decide) ?_
        refine g_C ?_
        refine g_A (by omega) (by omega) ?_
        refine g_ldu hS.k346 hS.l346 (by omega) (by omega) (fun v ev => ?_)
        rw [ev, x2 (by omega)]
        exact hk _ m0 hz
    · refine ⟨hS.k336, ?_⟩
      refine zt_wantOf hS hm c1.1 (by omega) (by omega) (by omega) ?_
      rw [x1 (by omega)]
      exact hk _ m0 hz
  refine u_X11_want ?_
  refine ⟨hS.k0, ?_⟩
  refine zs_isWant11 hS hm (fun c1 => g_ifT (by decide) ?_) (fun c1 => g_ifF (by decide) (g_C (hK _ _ (ref _ (fun z => absurd z (by omega)) (fun _ => rfl)))))
  have c1' : 0 ≤ w ∧ w < m0 346 6 := by omega
  have zw := hz.wd c1'.1 c1'.2
  have zm := hz.wt c1'.1 c1'.2
  have bm : -1 ≤ m0 23 w ∧ m0 23 w ≤ 999 := hm.aB_5_7 (c := 16) (by decide) c1'.1 (by omega)
  have yes : ∀ r : Int, (0 ≤ x ∧ x ≤ 5) → ((x < 4 → r = m0 346 (93 + 4 * w + x)) ∧ (x = 4 → r = m0 346 (51 + w)) ∧ (x = 5 → ((m0 346 (51 + w) < 0 → ∀ j : Int, 0 ≤ j → j < m0 346 5 → ¬ rSu m0 w j) → r = 0) ∧ (∀ j : Int, m0 346 (51 + w) < 0 → 0 ≤ j → j < m0 346 5 → rSu m0 w j → r = 1))) → wp_X12_want S m0 336 w x (fun r2 M2 => K r r2 M2) := fun r xb q => ref r (fun _ _ => q) (fun z => absurd ⟨c1', xb⟩ z)
  refine g_if (fun w1 => ?_) (fun w1 => ?_)
  · refine g_getr 1 3 rfl hS.k0 hm.f_0_1 (by decide) ?_
    refine g_getr 0 4 rfl hS.k3 hm.f_3_0 (by decide) ?_
    refine g_getr 15 12 rfl hS.k4 hm.f_4_15 (by decide) ?_
    refine g_ldu hS.k12 hS.l12 (by omega) (by omega) (fun v ev => ?_)
    refine hK _ _ (yes _ (by omega) ⟨fun _ => ?_, fun q => absurd q (by omega), fun q => absurd q (by omega)⟩)
    rw [ev, zw.1, w1, Int.add_zero]
  refine g_if (fun w2 => ?_) (fun w2 => ?_)
  · refine g_getr 1 3 rfl hS.k0 hm.f_0_1 (by decide) ?_
    refine g_getr 0 4 rfl hS.k3 hm.f_3_0 (by decide) ?_
    refine g_getr 16 13 rfl hS.k4 hm.f_4_16 (by decide) ?_
    refine g_ldu hS.k13 hS.l13 (by omega) (by omega) (fun v ev => ?_)
    refine hK _ _ (yes _ (by omega) ⟨fun _ => ?_, fun q => absurd q (by omega), fun q => absurd q (by omega)⟩)
    rw [ev, zw.2.1, w2]
  refine g_if (fun w3 => ?_) (fun w3 => ?_)
  · refine g_getr 1 3 rfl hS.k0 hm.f_0_1 (by decide) ?_
    refine g_getr 0 4 rfl hS.k3 hm.f_3_0 (by decide) ?_
    refine g_getr 17 14 rfl hS.k4 hm.f_4_17 (by decide) ?_
    refine g_ldu hS.k14 hS.l14 (by omega) (by omega) (fun v ev => ?_)
    refine hK _ _ (yes _ (by omega) ⟨fun _ => ?_, fun q => absurd q (by omega), fun q => absurd q (by omega)⟩)
    rw [ev, zw.2.2.1, w3]
  refine g_if (fun w4 => ?_) (fun w4 => ?_)
  · refine g_getr 1 3 rfl hS.k0 hm.f_0_1 (by decide) ?_
    refine g_getr 0 4 rfl hS.k3 hm.f_3_0 (by decide) ?_
    refine g_getr 18 15 rfl hS.k4 hm.f_4_18 (by decide) ?_
    refine g_ldu hS.k15 hS.l15 (by omega) (by omega) (fun v ev => ?_)
    refine hK _ _ (yes _ (by omega) ⟨fun _ => ?_, fun q => absurd q (by omega), fun q => absurd q (by omega)⟩)
    rw [ev, zw.2.2.2, w4]
  refine g_if (fun w5 => ?_) (fun w5 => ?_)
  · refine g_getr 1 3 rfl hS.k0 hm.f_0_1 (by decide) ?_
    refine g_getr 1 16 rfl hS.k3 hm.f_3_1 (by decide) ?_
    refine g_getr 8 23 rfl hS.k16 hm.f_16_8 (by decide) ?_
    refine g_ldu hS.k23 hS.l23 (by omega) (by omega) (fun v ev => ?_)
    refine hK _ _ (yes _ (by omega) ⟨fun q => absurd q (by omega), fun _ => ?_, fun q => absurd q (by omega)⟩)
    rw [ev, zm]
  refine g_if (fun w6 => ?_) (fun w6 => ?_)
  · refine ⟨hS.k0, ?_⟩
    refine zs_jugFor hS hm c1.1 (by omega) (fun q => ?_) (fun j a0 a1 a2 a3 _ => ?_)
    · refine g_C ?_
      refine g_ifF (fun z => z rfl) (g_C ?_)
      refine hK _ _ (yes _ (by omega) ⟨fun y => absurd y (by omega), fun y => absurd y (by omega), fun _ => ⟨fun _ => rfl, fun j b0 b1 b2 b3 => ?_⟩⟩)
      exact absurd ((su_iff hz c1' ⟨b1, b2⟩).2 b3) (q (by omega) j b1 (by omega))
    · refine g_C ?_
      refine g_ifT (by omega) (g_C ?_)
      refine hK _ _ (yes _ (by omega) ⟨fun y => absurd y (by omega), fun y => absurd y (by omega), fun _ => ⟨fun y => ?_, fun _ _ _ _ _ => rfl⟩⟩)
      exact absurd ((su_iff hz c1' ⟨a1, by omega⟩).1 a3) (y (by omega) j a1 (by omega))
  refine g_C ?_
  exact hK _ _ (ref _ (fun _ q => absurd q (by omega)) (fun _ => rfl))
theorem zz_count {S : Sh} {m0 : Mm} {K : Int → Int → Mm → Prop} {K1 : Int → Mm → Prop} {n w : Int} (hS : Shp S) (hz : RZ S m0 n) (hK : ∀ (r : Int) (M : Mm), wp_X12_count S M 336 w (fun r2 M2 => K r r2 M2) → K1 r M) (hk : ∀ (r : Int) (M1 : Mm), RZ S M1 n → K r r M1) : wp_X11_count S m0 0 w K1 := by
  have hm := hz.inv
  obtain ⟨t0, t1, t2, t3, t4, t5, t6, t7⟩ := hz.ct
  have i0 := hz.2.2.2.2.2.2.2.2
  have h7 : m0 16 0 = m0 346 7 := hz.sr.1.1
  have h8 : m0 16 1 = m0 346 8 := hz.sr.1.2
  have h157 : m0 3 4 = m0 346 157 := hz.tt.1
  have eu : m0 0 5 = m0 336 25 := hz.2.1.2.2.1
  have ex : m0 3 3 = m0 336 22 := hz.1.2.1.1
  have ef : m0 3 2 = m0 336 21 := hz.1.2.2.2.1
  have et : m0 1 1 = m0 336 1 := hz.1.2.2.1.1
  have er : m0 0 7 = m0 336 2 := hz.1.2.2.1.2.2
  have he : ht8 m0 (m0 16 0) = heR m0 (m0 346 7) := by
    unfold heR
    rw [if_pos i0.2, h7]
    exact ht_eq hz.tl
  have ref : ∀ r : Int, (0 ≤ w → w ≤ 6 → r = m0 346 w) → (w = 7 → r = m0 336 2) → (w = 8 → r = m0 336 21) → (w = 9 → r = m0 346 7) → (w = 10 → r = heR m0 (m0 346 7)) → (w = 11 → r = m0 346 8) → (w = 12 → r = m0 346 157) → (w = 13 → r = m0 336 25) → (w = 14 → r = m0 336 22) → (w = 15 → r = m0 336 1) → (¬ (0 ≤ w ∧ w ≤ 15) → r = -1) → wp_X12_count S m0 336 w (fun r2 M2 => K r r2 M2) := by
    intro r e0 e7 e8 e9 e10 e11 e12 e13 e14 e15 eN
    have fin : ∀ v : Int, v = r → K r v m0 := fun v e => by rw [e]; exact hk _ m0 hz
    have low : (0 ≤ w ∧ w ≤ 6) → wGetR S m0 336 12 20 fun v1 => wLd S m0 v1 14 w fun v3 => K r v3 m0 := fun q => by
      refine g_getr 20 346 rfl hS.k336 hm.f_336_20 (by decide) ?_
      refine g_ldu hS.k346 hS.l346 (by omega) (by omega) (fun v ev => fin v (ev.trans (e0 q.1 q.2).symm))
    refine u_X12_count ?_
    refine g_if (fun q => low (by omega)) (fun q0 => ?_)
    refine g_if (fun q => low (by omega)) (fun q1 => ?_)
    refine g_if (fun q => low (by omega)) (fun q2 => ?_)
    refine g_if (fun q => low (by omega)) (fun q3 => ?_)
    refine g_if (fun q => low (by omega)) (fun q4 => ?_)
    refine g_if (fun q => low (by omega)) (fun q5 => ?_)
    refine g_if (fun q => low (by omega)) (fun q6 => ?_)
    refine g_if (fun q => g_getu 2 rfl hS.k336 (fun v ev => fin v (ev.trans (e7 q).symm))) (fun q7 => ?_)
    refine g_if (fun q => g_getu 21 rfl hS.k336 (fun v ev => fin v (ev.trans (e8 q).symm))) (fun q8 => ?_)
    refine g_if (fun q => ?_) (fun q9 => ?_)
    · refine g_getr 20 346 rfl hS.k336 hm.f_336_20 (by decide) ?_
      refine g_C ?_
      exact g_ldu hS.k346 hS.l346 (by decide) (by decide) (fun v ev => fin v (ev.trans (e9 q).symm))
    refine g_if (fun q => ?_) (fun q10 => ?_)
    · refine g_getr 20 346 rfl hS.k336 hm.f_336_20 (by decide) ?_
      refine g_C ?_
      refine g_ldu hS.k346 hS.l346 (by decide) (by decide) (fun v ev => ?_)
      refine ⟨hS.k336, ?_⟩
      subst ev
      exact zh_heat12 hS hm (fun _ _ => fin _ (e10 q).symm)
    refine g_if (fun q => ?_) (fun q11 => ?_)
    · refine g_getr 20 346 rfl hS.k336 hm.f_336_20 (by decide) ?_
      refine g_C ?_
      exact g_ldu hS.k346 hS.l346 (by decide) (by decide) (fun v ev => fin v (ev.trans (e11 q).symm))
    refine g_if (fun q => ?_) (fun q12 => ?_)
    · refine g_getr 20 346 rfl hS.k336 hm.f_336_20 (by decide) ?_
      refine g_C ?_
      exact g_ldu hS.k346 hS.l346 (by decide) (by decide) (fun v ev => fin v (ev.trans (e12 q).symm))
    refine g_if (fun q => g_getu 25 rfl hS.k336 (fun v ev => fin v (ev.trans (e13 q).symm))) (fun q13 => ?_)
    refine g_if (fun q => g_getu 22 rfl hS.k336 (fun v ev => fin v (ev.trans (e14 q).symm))) (fun q14 => ?_)
    refine g_if (fun q => g_getu 1 rfl hS.k336 (fun v ev => fin v (ev.trans (e15 q).symm))) (fun q15 => ?_)
    exact g_C (fin _ (eN (by omega)).symm)
  have nl : ∀ {P : Prop}, w = 7 ∨ w = 8 ∨ w = 9 ∨ w = 10 ∨ w = 11 ∨ w = 12 ∨ w = 13 ∨ w = 14 ∨ w = 15 ∨ ¬ (0 ≤ w ∧ w ≤ 15) → 0 ≤ w → w ≤ 6 → P := fun q a b => by exfalso; omega
  have ab : ∀ {P : Prop} {a b : Int}, w = a → ¬ a = b → w = b → P := fun e q e2 => absurd (e.symm.trans e2) q
  have hi : ¬ (0 ≤ w ∧ w ≤ 6) → wp_X11_count_22 S K1 0 w m0 := by
    intro nw
    refine u_X11_count_22 ?_
    refine g_if (fun q => ?_) (fun q7 => ?_)
    · exact g_getu 7 rfl hS.k0 (fun v ev => hK _ _ (ref _ (fun a b => absurd ⟨a, b⟩ nw) (fun _ => ev.trans er) (ab q (by decide)) (ab q (by decide)) (ab q (by decide)) (ab q (by decide)) (ab q (by decide)) (ab q (by decide)) (ab q (by decide)) (ab q (by decide)) (fun z => absurd (by omega) z)))
    refine g_if (fun q => ?_) (fun q8 => ?_)
    · refine g_getr 1 3 rfl hS.k0 hm.f_0_1 (by decide) ?_
      exact g_getu 2 rfl hS.k3 (fun v ev => hK _ _ (ref _ (fun a b => absurd ⟨a, b⟩ nw) (ab q (by decide)) (fun _ => ev.trans ef) (ab q (by decide)) (ab q (by decide)) (ab q (by decide)) (ab q (by decide)) (ab q (by decide)) (ab q (by decide)) (ab q (by decide)) (fun z => absurd (by omega) z)))
    refine g_if (fun q => ?_) (fun q9 => ?_)
    · refine g_getr 1 3 rfl hS.k0 hm.f_0_1 (by decide) ?_
      refine g_getr 1 16 rfl hS.k3 hm.f_3_1 (by decide) ?_
      exact g_getu 0 rfl hS.k16 (fun v ev => hK _ _ (ref _ (fun a b => absurd ⟨a, b⟩ nw) (ab q (by decide)) (ab q (by decide)) (fun _ => ev.trans h7) (ab q (by decide)) (ab q (by decide)) (ab q (by decide)) (ab q (by decide)) (ab q (by decide)) (ab q (by decide)) (fun z => absurd (by omega) z)))
    refine g_if (fun q => ?_) (fun q10 => ?_)
    · refine g_getr 1 3 rfl hS.k0 hm.f_0_1 (by decide) ?_
      refine g_getr 0 4 rfl hS.k3 hm.f_3_0 (by decide) ?_
      refine g_getr 1 3 rfl hS.k0 hm.f_0_1 (by decide) ?_
      refine g_getr 1 16 rfl hS.k3 hm.f_3_1 (by decide) ?_
      refine g_getu 0 rfl hS.k16 (fun v ev => ?_)
      refine ⟨hS.k4, ?_⟩
      subst ev
      exact zh_heat8 hS hm (fun _ _ => hK _ _ (ref _ (fun a b => absurd ⟨a, b⟩ nw) (ab q (by decide)) (ab q (by decide)) (ab q (by decide)) (fun _ => he) (ab q (by decide)) (ab q (by decide)) (ab q (by decide)) (ab q (by decide)) (ab q (by decide)) (fun z => absurd (by omega) z)))
    refine g_if (fun q => ?_) (fun q11 => ?_)
    · refine g_getr 1 3 rfl hS.k0 hm.f_0_1 (by decide) ?_
      refine g_getr 1 16 rfl hS.k3 hm.f_3_1 (by decide) ?_
      exact g_getu 1 rfl hS.k16 (fun v ev => hK _ _ (ref _ (fun a b => absurd ⟨a, b⟩ nw) (ab q (by decide)) (ab q (by decide)) (ab q (by decide)) (ab q (by decide)) (fun _ => ev.trans h8) (ab q (by decide)) (ab q (by decide)) (ab q (by decide)) (ab q (by decide)) (fun z => absurd (by omega) z)))
    refine g_if (fun q => ?_) (fun q12 => ?_)
    · refine g_getr 1 3 rfl hS.k0 hm.f_0_1 (by decide) ?_
      exact g_getu 4 rfl hS.k3 (fun v ev => hK _ _ (ref _ (fun a b => absurd ⟨a, b⟩ nw) (ab q (by decide)) (ab q (by decide)) (ab q (by decide)) (ab q (by decide)) (ab q (by decide)) (fun _ => ev.trans h157) (ab q (by decide)) (ab q (by decide)) (ab q (by decide)) (fun z => absurd (by omega) z)))
    refine g_if (fun q => ?_) (fun q13 => ?_)
    · exact g_getu 5 rfl hS.k0 (fun v ev => hK _ _ (ref _ (fun a b => absurd ⟨a, b⟩ nw) (ab q (by decide)) (ab q (by decide)) (ab q (by decide)) (ab q (by decide)) (ab q (by decide)) (ab q (by decide)) (fun _ => ev.trans eu) (ab q (by decide)) (ab q (by decide)) (fun z => absurd (by omega) z)))
    refine g_if (fun q => ?_) (fun q14 => ?_)
    · refine g_getr 1 3 rfl hS.k0 hm.f_0_1 (by decide) ?_
      exact g_getu 3 rfl hS.k3 (fun v ev => hK _ _ (ref _ (fun a b => absurd ⟨a, b⟩ nw) (ab q (by decide)) (ab q (by decide)) (ab q (by decide)) (ab q (by decide)) (ab q (by decide)) (ab q (by decide)) (ab q (by decide)) (fun _ => ev.trans ex) (ab q (by decide)) (fun z => absurd (by omega) z)))
    refine g_if (fun q => ?_) (fun q15 => ?_)
    · refine g_getr 0 1 rfl hS.k0 hm.f_0_0 (by decide) ?_
      exact g_getu 1 rfl hS.k1 (fun v ev => hK _ _ (ref _ (fun a b => absurd ⟨a, b⟩ nw) (ab q (by decide)) (ab q (by decide)) (ab q (by decide)) (ab q (by decide)) (ab q (by decide)) (ab q (by decide)) (ab q (by decide)) (ab q (by decide)) (fun _ => ev.trans et) (fun z => absurd (by omega) z)))
    exact g_C (hK _ _ (ref _ (fun a b => absurd ⟨a, b⟩ nw) (fun z => absurd z q7) (fun z => absurd z q8) (fun z => absurd z q9) (fun z => absurd z q10) (fun z => absurd z q11) (fun z => absurd z q12) (fun z => absurd z q13) (fun z => absurd z q14) (fun z => absurd z q15) (fun _ => rfl)))
  refine u_X11_count ?_
  refine g_if (fun q => hi (by omega)) (fun q => ?_)
  refine g_C ?_
  refine g_if (fun q2 => hi (by omega)) (fun q2 => ?_)
  refine g_getr 1 3 rfl hS.k0 hm.f_0_1 (by decide) ?_
  refine g_getr 0 4 rfl hS.k3 hm.f_3_0 (by decide) ?_
  refine ⟨hS.k4, ?_⟩
  have lo : ∀ v : Int, v = m0 346 w → K1 v m0 := fun v ev => hK _ _ (ref _ (fun _ _ => ev) (fun z => absurd z (by omega)) (fun z => absurd z (by omega)) (fun z => absurd z (by omega)) (fun z => absurd z (by omega)) (fun z => absurd z (by omega)) (fun z => absurd z (by omega)) (fun z => absurd z (by omega)) (fun z => absurd z (by omega)) (fun z => absurd z (by omega)) (fun z => absurd (by omega) z))
  refine u_X8_howMany ?_
  refine g_if (fun y => g_getu 0 rfl hS.k4 (fun v ev => lo v (by rw [ev, t0, y]))) (fun y0 => ?_)
  refine g_if (fun y => g_getu 1 rfl hS.k4 (fun v ev => lo v (by rw [ev, t1, y]))) (fun y1 => ?_)
  refine g_if (fun y => g_getu 2 rfl hS.k4 (fun v ev => lo v (by rw [ev, t2, y]))) (fun y2 => ?_)
  refine g_if (fun y => g_getu 3 rfl hS.k4 (fun v ev => lo v (by rw [ev, t3, y]))) (fun y3 => ?_)
  refine g_if (fun y => g_getu 4 rfl hS.k4 (fun v ev => lo v (by rw [ev, t4, y]))) (fun y4 => ?_)
  refine g_if (fun y => g_getu 5 rfl hS.k4 (fun v ev => lo v (by rw [ev, t5, y]))) (fun y5 => ?_)
  exact g_getu 7 rfl hS.k4 (fun v ev => lo v (by rw [ev, t7, show w = 6 by omega]))
end
section
/-! HOURS that go on: ahead, ice -/
def hrn (o : Option (List Cz)) (i : Int) (D : Int → Int) : Nat → Int → Int
  | 0 => D
  | k + 1 => hrow o i (hrn o i D k)
abbrev mv (p : Int) : Prop := p = 7 ∨ (10 ≤ p ∧ p < 35 ∧ ((p - 10) % 5 = 1 ∨ (p - 10) % 5 = 2)) ∨ (35 ≤ p ∧ p < 51 ∧ (p - 35) % 4 = 2)
theorem hrn_e {o : Option (List Cz)} {i : Int} {D : Int → Int} (b4 : D 4 ≤ 5) (b5 : D 5 ≤ 4) : ∀ (k : Nat) (p : Int), ¬ mv p → hrn o i D k p = D p := by
  intro k
  induction k with
  | zero => intro p _; rfl
  | succ k ih =>
    intro p q
    show hrow o i (hrn o i D k) p = D p
    have e4 := ih 4 (by unfold mv; omega)
    have e5 := ih 5 (by unfold mv; omega)
    rw [hrow_e (by unfold mv at q; omega)]
    exact ih p q
theorem hrn_7 {o : Option (List Cz)} {i : Int} {D : Int → Int} : ∀ k : Nat, hrn o i D k 7 = D 7 + k := by
  intro k
  induction k with
  | zero => show D 7 = D 7 + ((0 : Nat) : Int); omega
  | succ k ih =>
    show hrow o i (hrn o i D k) 7 = _
    rw [hrow_7, ih]
    omega
theorem DB.hrn {o : Option (List Cz)} {i : Int} {D : Int → Int} (db : DB D) (k : Nat) : DB (hrn o i D k) := db.move (fun p q => hrn_e db.1.2 db.2.1.2 k p (by unfold mv; omega))
theorem TL.hrn {o : Option (List Cz)} {i u : Int} {D : Int → Int} {m M : Mm} (tl : TL u D m) (db : DB D) (b3 : D 3 ≤ 8) (k : Nat) (h0 : ∀ p : Int, 0 ≤ p → p < 8 → M u p = m u p) (hh : ∀ c p : Int, inT c p → M (u + c) p = m (u + c) p) : TL u (hrn o i D k) M := tl.move db b3 h0 hh (fun p q => hrn_e db.1.2 db.2.1.2 k p (by unfold mv; unfold tp at q; omega))
/-- the class: n HOURS over the supposed STATE -/
theorem zn_passSeveral {X : Mm} {S : Sh} {m : Mm} {K : Mm → Prop} {o : Option (List Cz)} {D : Int → Int} {i n : Int} (hS : Shp S) (hm : Inv X S m) (rc : RC S m o) (db : DB D) (b3 : D 3 ≤ 8) (sr : SR m 68 D) (tl : TL 4 D m) (ic : m 55 2 = 0 ↔ i = 0) (n0 : 0 ≤ n) (n1 : n ≤ 200) (h7 : D 7 + n ≤ 998) (hk : ∀ M1 : Mm, Inv X S M1 → (∀ c p : Int, ¬ c = 56 → ¬ (c = 55 ∧ 4 ≤ p) → ¬ (68 ≤ c ∧ c ≤ 75) → M1 c p = m c p) → SR M1 68 (hrn o i D n.toNat) → K M1) : wp_X1_passSeveral S m 57 68 n K := by
  have hb : isSt 68 := by decide
  have L : ∀ (w : Nat) (k : Nat) (M : Mm), (k : Int) ≤ n → Inv X S M → (∀ c p : Int, ¬ c = 56 → ¬ (c = 55 ∧ 4 ≤ p) → ¬ (68 ≤ c ∧ c ≤ 75) → M c p = m c p) → SR M 68 (hrn o i D k) → n + 1 - k ≤ (w : Int) → wp_X1_passSeveral_2 S K w 57 68 n k M := by
    intro w
    induction w with
    | zero => intro k M k1 _ _ _ hw; exfalso; omega
    | succ w ih =>
      intro k M k1 hM F R hw
      refine u_X1_passSeveral_2 ?_
      refine g_if (fun q => ?_) (fun q => ?_)
      · have e : n.toNat = k := by omega
        rw [← e] at R
        exact hk M hM F R
      · refine ⟨hS.k57, ?_⟩
        have h68 : M 68 0 = D 7 + k := by rw [R.1.1, hrn_7]
        refine zh_pass hS hM (rc.keep (fun c p q => F c p (by omega) (by omega) (by omega))) hb (Or.inr rfl) (fun M1 hM1 ph => ?_)
        have R1 := (SR_hour (o := o) (i := i) hM hb (Or.inr rfl) (db.hrn k) R (tl.hrn db b3 k (fun p _ _ => F _ p (by omega) (by omega) (by omega)) (fun c p q => F _ p (by unfold inT at q; omega) (by unfold inT at q; omega) (by unfold inT at q; omega))) (by rw [F 55 2 (by first | decide | exact fun z => absurd z.1 (by decide) | exact ⟨fun z => absurd z.1 (by decide), fun z => absurd z.1 (by decide)⟩ | omega) (by first | decide | exact fun z => absurd z.1 (by decide) | exact ⟨fun z => absurd z.1 (by decide), fun z => absurd z.1 (by decide)⟩ | omega) (by first | decide | exact fun z => absurd z.1 (by decide) | exact ⟨fun z => absurd z.1 (by decide), fun z => absurd z.1 (by decide)⟩ | omega)]; exact ic) (by omega) ph).1
        refine g_A (by omega) (by omega) ?_
        refine ih (k + 1) M1 (by omega) hM1 (fun c p q1 q2 q3 => ?_) R1 (by omega)
        rw [ph.1 c p q1 q2 (by omega) (by omega) (by omega), F c p q1 q2 q3]
  refine u_X1_passSeveral ?_
  refine g_C ?_
  exact ⟨(n + 1).toNat, L (n + 1).toNat 0 m (by omega) hm (fun _ _ _ _ _ => rfl) sr (by omega)⟩
/-- the reference: an HOUR of its row -/
abbrev jB (m : Mm) : Prop := ∀ j : Int, 0 ≤ j → j < m 346 5 → 0 ≤ m 346 (35 + 4 * j + 2) ∧ m 346 (35 + 4 * j + 2) ≤ 999
theorem zn_passes {X : Mm} {S : Sh} {m : Mm} {K : Int → Mm → Prop} {o : Option (List Cz)} (hS : Shp S) (hm : Inv X S m) (rr : RR m o) (b7 : 0 ≤ m 346 7 ∧ m 346 7 ≤ 9999) (bj : jB m) (hk : ∀ (r : Int) (M1 : Mm), Inv X S M1 → (∀ c p : Int, ¬ c = 344 → ¬ c = 345 → ¬ (c = 336 ∧ p = 18) → ¬ c = 346 → M1 c p = m c p) → M1 346 = hrow o (m 336 23) (m 346) → jB M1 → K r M1) : wp_X12_passes S m 336 K := by
  have b4 := hm.f_346_4
  have b5 := hm.f_346_5
  refine zh_passes hS hm rr b7 bj (fun M1 hM1 pr => ?_)
  refine hk _ M1 hM1 (fun c p q1 q2 q3 q4 => pr.1 c p q1 q2 q3 (fun z => q4 z.1)) (pr.row b4.2) (fun j j0 j1 => ?_)
  have e5 : M1 346 5 = m 346 5 := pr.1 346 5 (by omega) (by omega) (by omega) (by omega)
  rw [e5] at j1
  have bt := tnR_b (o := o) hm j0 (by omega)
  have bb := bj j j0 j1
  rw [pr.2.1 j j0 j1]
  unfold nuR
  split <;> omega
theorem zn_sup {X : Mm} {S : Sh} {m0 : Mm} {K : Mm → Prop} {D : Int → Int} (hS : Shp S) (hm : Inv X S m0) (db : DB D) (sr : SR m0 16 D) (hk : ∀ M1 : Mm, Inv X S M1 → (∀ c p : Int, ¬ (68 ≤ c ∧ c ≤ 75) → M1 c p = m0 c p) → SR M1 68 D → K M1) : wp_X5_become S m0 68 16 K := by
  refine zb_state hS hm (by decide) (by decide) (by decide) (fun m1 hm1 f1 v0 v1 q1 q2 q3 q4 q5 q6 q7 => ?_)
  refine hk m1 hm1 (fun c p q => f1 c p (by first | exact fun y => absurd (y.1 ▸ z) (by decide) | exact fun y => absurd (y.1 ▸ q) (by decide) | exact z | exact q | exact z.1 | exact q.1 | exact z.2 | exact q.2 | omega)) (sr.move db (fun p p0 p1 => ?_) (fun c p q => ?_) (fun _ _ _ => rfl))
  · rcases (show p = 0 ∨ p = 1 by omega) with z | z <;> subst z
    · exact v0
    · exact v1
  · obtain ⟨p0, q⟩ := q
    rcases (show c = 1 ∨ c = 2 ∨ c = 3 ∨ c = 4 ∨ c = 5 ∨ c = 6 ∨ c = 7 by omega) with z | z | z | z | z | z | z <;> subst z
    · exact q1 p p0 (by omega)
    · exact q2 p p0 (by omega)
    · exact q3 p p0 (by omega)
    · exact q4 p p0 (by omega)
    · exact q5 p p0 (by omega)
    · exact q6 p p0 (by omega)
    · exact q7 p p0 (by omega)
/-- the row goes on and is laid back -/
theorem RZ.laid {S : Sh} {m0 m1 m2 : Mm} {n : Int} (z : RZ S m1 n) (hm2 : Inv (sf m1) S m2) (F : ∀ c p : Int, ¬ c = 344 → ¬ c = 345 → ¬ c = 348 → ¬ (c = 336 ∧ (p = 18 ∨ p = 33)) → m2 c p = m1 c p) : RZ S m2 n := z.keep (z.1.of hm2) (fun c p q => F c p (by unfold KZ at q; omega) (by unfold KZ at q; omega) (by unfold KZ at q; omega) (by unfold KZ at q; omega))
theorem zz_ahead {S : Sh} {m0 : Mm} {K : Int → Int → Mm → Prop} {K1 : Int → Mm → Prop} {n x w y : Int} (hS : Shp S) (hz : RZ S m0 n) (hn : n ≤ 700) (hK : ∀ (r : Int) (M : Mm), wp_X12_ahead S M 336 x w y (fun r2 M2 => K r r2 M2) → K1 r M) (hk : ∀ (r : Int) (M1 : Mm), RZ S M1 n → K r r M1) : wp_X11_ahead S m0 0 x w y K1 := by
  have hm := hz.inv
  have ct := hz.ct
  have db := hz.db
  have c4 : m0 4 4 = m0 346 4 := ct.2.2.2.2.1
  have c5 : m0 4 5 = m0 346 5 := ct.2.2.2.2.2.1
  obtain ⟨o, rc, rr⟩ := hz.rule
  have h7 : m0 16 0 = m0 346 7 := hz.sr.1.1
  have b16 := hm.f_16_0
  have hb16 : m0 16 0 ≤ n := hz.2.2.2.1.1
  have i0 := hz.2.2.2.2.2.2.2.2
  obtain ⟨D, eD⟩ : ∃ D : Int → Int, D = m0 346 := ⟨_, rfl⟩
  -- the reference
  have ref : ∀ (r : Int) (m1 : Mm), RZ S m1 n → m1 346 = m0 346 → RR m1 o → m1 336 23 = 0 → ((0 ≤ w ∧ w ≤ 100) → (0 ≤ y ∧ y ≤ 1) → (y = 0 → (0 ≤ x ∧ x < m0 346 5) → (D (35 + 4 * x + 3) = 1 → r = -1) ∧ (¬ D (35 + 4 * x + 3) = 1 → r = hrn o 0 D w.toNat (35 + 4 * x + 2))) ∧ (y = 1 → (0 ≤ x ∧ x < m0 346 4) → r = hrn o 0 D w.toNat (10 + 5 * x + 2))) → (¬ ((0 ≤ w ∧ w ≤ 100) ∧ (0 ≤ y ∧ y ≤ 1) ∧ (y = 0 → (0 ≤ x ∧ x < m0 346 5)) ∧ (y = 1 → (0 ≤ x ∧ x < m0 346 4))) → r = -2) → wp_X12_ahead S m1 336 x w y (fun r2 M2 => K r r2 M2) := by
    intro r m1 z1 e46 rr1 x23 e1 e2
    have hm1 := z1.inv
    have go : (0 ≤ w ∧ w ≤ 100) → (0 ≤ y ∧ y ≤ 1) → (y = 0 → (0 ≤ x ∧ x < m0 346 5)) → (y = 1 → (0 ≤ x ∧ x < m0 346 4)) → wp_X12_ahead_48 S (fun r2 M2 => K r r2 M2) 336 x w y m1 := by
      intro wb yb xj xh
      obtain ⟨r0, r1⟩ := e1 wb yb
      refine u_X12_ahead_48 ?_
      refine ⟨hS.k336, ?_⟩
      refine zx_keeps hS hm1 (fun m2 hm2 f2 g2 => ?_)
      refine g_C ?_
      have e46' : m2 346 = D := by rw [eD, ← e46]; exact funext (fun p => f2 346 p (by first | decide | exact fun z => absurd z.1 (by decide) | exact ⟨fun z => absurd z.1 (by decide), fun z => absurd z.1 (by decide)⟩ | omega))
      have L : ∀ (l k : Nat) (M : Mm), (k : Int) ≤ w → Inv (up (sf m1) (-1) 0 1) S M → (∀ c p : Int, ¬ c = 344 → ¬ c = 345 → ¬ (c = 336 ∧ p = 18) → ¬ c = 346 → M c p = m2 c p) → M 346 = hrn o 0 D k → jB M → w + 1 - k ≤ (l : Int) → wp_X12_ahead_55 S (fun r2 M2 => K r r2 M2) l 336 x w y k M := by
        intro l
        induction l with
        | zero => intro k M k1 _ _ _ _ hl; exfalso; omega
        | succ l ih =>
          intro k M k1 hM F eM bj hl
          refine u_X12_ahead_55 ?_
          refine g_if (fun q => ?_) (fun q => ?_)
          · have ek : w.toNat = k := by omega
            have ee : ∀ p : Int, ¬ mv p → M 346 p = D p := fun p q => by rw [eM]; exact hrn_e (by rw [eD]; omega) (by rw [eD]; omega) k p q
            have fin : ∀ v : Int, v = r → wp_X12_ahead_106 S (fun r2 M2 => K r r2 M2) 336 v M := by
              intro v ev
              refine u_X12_ahead_106 ?_
              refine ⟨hS.k336, ?_⟩
              refine zx_laysBack hS hM (up_at _ _ _ _) (fun m3 hm3 f3 g3 => ?_)
              rw [ev]
              refine hk _ m3 (RZ.laid (m0 := m0) z1 hm3.unflag (fun c p q1 q2 q3 q4 => ?_))
              by_cases z : c = 346
              · subst z
                by_cases z2 : 0 ≤ p ∧ p < 57
                · rw [g3 p z2, F 348 p (by first | decide | exact fun z => absurd z.1 (by decide) | exact ⟨fun z => absurd z.1 (by decide), fun z => absurd z.1 (by decide)⟩ | omega) (by first | decide | exact fun z => absurd z.1 (by decide) | exact ⟨fun z => absurd z.1 (by decide), fun z => absurd z.1 (by decide)⟩ | omega) (by first | decide | exact fun z => absurd z.1 (by decide) | exact ⟨fun z => absurd z.1 (by decide), fun z => absurd z.1 (by decide)⟩ | omega) (by first | decide | exact fun z => absurd z.1 (by decide) | exact ⟨fun z => absurd z.1 (by decide), fun z => absurd z.1 (by decide)⟩ | omega), g2 p z2]
                · rw [f3 346 p (by first | decide | exact fun z => absurd z.1 (by decide) | exact ⟨fun z => absurd z.1 (by decide), fun z => absurd z.1 (by decide)⟩ | omega), ee p (by unfold mv; omega), eD, e46]
              · rw [f3 c p (by first | exact fun y => absurd (y.1 ▸ z) (by decide) | exact fun y => absurd (y.1 ▸ q) (by decide) | exact z | exact q | exact z.1 | exact q.1 | exact z.2 | exact q.2 | omega), F c p q1 q2 (by omega) z, f2 c p q3]
            refine g_C ?_
            refine g_if (fun q2 => ?_) (fun q2 => ?_)
            · have y0 : y = 0 := by omega
              have xb := xj y0
              obtain ⟨t1, t2⟩ := r0 y0 xb
              refine g_C ?_
              refine ⟨hS.k336, ?_⟩
              refine zt_jugOf hS hM xb.1 (by omega) (by omega) (by omega) ?_
              rw [ee (35 + 4 * x + 3) (by unfold mv; omega)]
              refine g_C ?_
              refine g_if (fun q3 => ?_) (fun q3 => ?_)
              · refine g_C ?_
                refine ⟨hS.k336, ?_⟩
                refine zt_jugOf hS hM xb.1 (by omega) (by omega) (by omega) ?_
                exact fin _ (by rw [t2 q3, eM, ek])
              · refine g_C ?_
                exact fin _ (t1 (by omega)).symm
            · have y1 : y = 1 := by omega
              have xb := xh y1
              refine g_C ?_
              refine ⟨hS.k336, ?_⟩
              refine zt_handOf hS hM xb.1 (by omega) (by omega) (by omega) ?_
              exact fin _ (by rw [r1 y1 xb, eM, ek])
          · refine ⟨hS.k336, ?_⟩
            refine zn_passes (o := o) hS hM (rr1.keep (fun c p q => by rw [F c p (by omega) (by omega) (by omega) (by omega), f2 c p (by first | exact fun y => absurd (y.1 ▸ z) (by decide) | exact fun y => absurd (y.1 ▸ q) (by decide) | exact z | exact q | exact z.1 | exact q.1 | exact z.2 | exact q.2 | omega)])) (by rw [eM, hrn_7, eD]; omega) bj (fun r9 m3 hm3 f3 e3 b3 => ?_)
            refine g_A (by omega) (by omega) ?_
            refine ih (k + 1) m3 (by omega) hm3 (fun c p q1 q2 q3 q4 => by rw [f3 c p q1 q2 q3 q4, F c p q1 q2 q3 q4]) ?_ b3 (by omega)
            rw [e3, F 336 23 (by first | decide | exact fun z => absurd z.1 (by decide) | exact ⟨fun z => absurd z.1 (by decide), fun z => absurd z.1 (by decide)⟩ | omega) (by first | decide | exact fun z => absurd z.1 (by decide) | exact ⟨fun z => absurd z.1 (by decide), fun z => absurd z.1 (by decide)⟩ | omega) (by first | decide | exact fun z => absurd z.1 (by decide) | exact ⟨fun z => absurd z.1 (by decide), fun z => absurd z.1 (by decide)⟩ | omega) (by first | decide | exact fun z => absurd z.1 (by decide) | exact ⟨fun z => absurd z.1 (by decide), fun z => absurd z.1 (by decide)⟩ | omega), f2 336 23 (by first | decide | exact fun z => absurd z.1 (by decide) | exact ⟨fun z => absurd z.1 (by decide), fun z => absurd z.1 (by decide)⟩ | omega), x23, eM]
            rfl
      refine ⟨(w + 1).toNat, L (w + 1).toNat 0 m2 (by omega) hm2 (fun _ _ _ _ _ _ => rfl) e46' (fun j j0 j1 => ?_) (by omega)⟩
      rw [e46', eD] at j1 ⊢
      rw [← (hz.jg j0 j1).2.1]
      exact hm.aB_5_6 (c := 16) (by decide) j0 (by omega)
    refine u_X12_ahead ?_
    refine g_C ?_
    refine g_C ?_
    refine g_C ?_
    refine zs_in (fun wb => g_ifF (by decide) ?_) (fun wb => g_ifT rfl (g_C (by rw [e2 (fun z => wb z.1)]; exact hk _ m1 z1)))
    refine g_C ?_
    refine g_C ?_
    refine g_C ?_
    refine zs_in (fun yb => g_ifF (by decide) ?_) (fun yb => g_ifT rfl (g_C (by rw [e2 (fun z => yb z.2.1)]; exact hk _ m1 z1)))
    refine g_if (fun q => ?_) (fun q => ?_)
    · refine ⟨hS.k336, ?_⟩
      refine zs_isHand12 hS hm1 (fun c1 => g_ifT (by decide) ?_) (fun c1 => g_ifF (by decide) (g_C ?_))
      · rw [e46] at c1
        exact go wb yb (fun z => absurd z q) (fun _ => c1)
      · rw [e46] at c1
        rw [e2 (fun z => c1 (z.2.2.2 (by omega)))]
        exact hk _ m1 z1
    · refine ⟨hS.k336, ?_⟩
      refine zs_isJug12 hS hm1 (fun c1 => g_ifT (by decide) ?_) (fun c1 => g_ifF (by decide) (g_C ?_))
      · rw [e46] at c1
        exact go wb yb (fun _ => c1) (fun z => absurd z (by omega))
      · rw [e46] at c1
        rw [e2 (fun z => c1 (z.2.2.1 (by omega)))]
        exact hk _ m1 z1
  -- the class
  have no : ¬ ((0 ≤ w ∧ w ≤ 100) ∧ (0 ≤ y ∧ y ≤ 1) ∧ (y = 0 → (0 ≤ x ∧ x < m0 346 5)) ∧ (y = 1 → (0 ≤ x ∧ x < m0 346 4))) → wp_X12_ahead S m0 336 x w y (fun r2 M2 => K (-2) r2 M2) := fun q => ref _ m0 hz rfl rr i0.2 (fun wb yb => ⟨fun y0 xb => absurd ⟨wb, yb, fun _ => xb, fun y1 => absurd y1 (by omega)⟩ q, fun y1 xb => absurd ⟨wb, yb, fun y0 => absurd y0 (by omega), fun _ => xb⟩ q⟩) (fun _ => rfl)
  have run : (0 ≤ w ∧ w ≤ 100) → (0 ≤ y ∧ y ≤ 1) → (y = 0 → (0 ≤ x ∧ x < m0 346 5) ∧ ¬ D (35 + 4 * x + 3) = 1) → (y = 1 → (0 ≤ x ∧ x < m0 346 4)) → wp_X11_ahead_70 S K1 0 x w y m0 := by
    intro wb yb xj xh
    refine u_X11_ahead_70 ?_
    refine g_getr 15 68 rfl hS.k0 hm.f_0_15 (by decide) ?_
    refine g_getr 1 3 rfl hS.k0 hm.f_0_1 (by decide) ?_
    refine g_getr 1 16 rfl hS.k3 hm.f_3_1 (by decide) ?_
    refine ⟨hS.k68, ?_⟩
    refine zn_sup (D := D) hS hm (by rw [eD]; exact hz.rd.1.1) (by rw [eD]; exact hz.sr) (fun m1 hm1 f1 s1 => ?_)
    refine g_getr 11 57 rfl hS.k0 hm1.f_0_11 (by decide) ?_
    refine g_getr 15 68 rfl hS.k0 hm1.f_0_15 (by decide) ?_
    refine ⟨hS.k57, ?_⟩
    have tl1 : TL 4 D m1 := by rw [eD]; exact hz.tl.move hz.rd.1.1 hz.rd.1.2 (fun p _ _ => f1 _ p (by omega)) (fun c p q => f1 _ p (by unfold inT at q; omega)) (fun p _ => rfl)
    refine zn_passSeveral (o := o) (D := D) (i := 0) hS hm1 (rc.keep (fun c p q => f1 c p (by first | exact fun y => absurd (y.1 ▸ z) (by decide) | exact fun y => absurd (y.1 ▸ q) (by decide) | exact z | exact q | exact z.1 | exact q.1 | exact z.2 | exact q.2 | omega))) (by rw [eD]; exact hz.rd.1.1) (by rw [eD]; exact hz.rd.1.2) s1 tl1 (by rw [f1 55 2 (by first | decide | exact fun z => absurd z.1 (by decide) | exact ⟨fun z => absurd z.1 (by decide), fun z => absurd z.1 (by decide)⟩ | omega), i0.1]) wb.1 (by omega) (by rw [eD]; omega) (fun m2 hm2 f2 s2 => ?_)
    have F : ∀ c p : Int, ¬ c = 56 → ¬ (c = 55 ∧ 4 ≤ p) → ¬ (68 ≤ c ∧ c ≤ 75) → m2 c p = m0 c p := fun c p q1 q2 q3 => by rw [f2 c p q1 q2 q3, f1 c p q3]
    have z2 : RZ S m2 n := hz.keep (hz.1.of hm2) (fun c p q => F c p (by unfold KZ at q; omega) (by unfold KZ at q; omega) (by unfold KZ at q; omega))
    have e46 : m2 346 = m0 346 := funext (fun p => F 346 p (by first | decide | exact fun z => absurd z.1 (by decide) | exact ⟨fun z => absurd z.1 (by decide), fun z => absurd z.1 (by decide)⟩ | omega) (by first | decide | exact fun z => absurd z.1 (by decide) | exact ⟨fun z => absurd z.1 (by decide), fun z => absurd z.1 (by decide)⟩ | omega) (by first | decide | exact fun z => absurd z.1 (by decide) | exact ⟨fun z => absurd z.1 (by decide), fun z => absurd z.1 (by decide)⟩ | omega))
    have rr2 : RR m2 o := rr.keep (fun c p q => F c p (by omega) (by omega) (by omega))
    have x23 : m2 336 23 = 0 := by rw [F 336 23 (by first | decide | exact fun z => absurd z.1 (by decide) | exact ⟨fun z => absurd z.1 (by decide), fun z => absurd z.1 (by decide)⟩ | omega) (by first | decide | exact fun z => absurd z.1 (by decide) | exact ⟨fun z => absurd z.1 (by decide), fun z => absurd z.1 (by decide)⟩ | omega) (by first | decide | exact fun z => absurd z.1 (by decide) | exact ⟨fun z => absurd z.1 (by decide), fun z => absurd z.1 (by decide)⟩ | omega)]; exact i0.2
    refine g_if (fun q => ?_) (fun q => ?_)
    · have y1 : y = 1 := by omega
      have xb := xh y1
      refine g_getr 15 68 rfl hS.k0 hm2.f_0_15 (by decide) ?_
      refine g_getr 4 71 rfl hS.k68 hm2.f_68_4 (by decide) ?_
      refine g_ldu hS.k71 hS.l71 (by omega) (by omega) (fun v ev => ?_)
      refine hK _ _ (ref _ m2 z2 e46 rr2 x23 (fun _ _ => ⟨fun y0 => absurd y0 (by omega), fun _ _ => ?_⟩) (fun z => absurd ⟨wb, yb, fun y0 => absurd y0 (by omega), fun _ => xb⟩ z))
      rw [ev]
      exact (s2.2.1 x xb.1 (by rw [hrn_e (by rw [eD]; omega) (by rw [eD]; omega) _ 4 (by unfold mv; omega), eD]; exact xb.2)).2.2
    · have y0 : y = 0 := by omega
      obtain ⟨xb, xg⟩ := xj y0
      refine g_getr 15 68 rfl hS.k0 hm2.f_0_15 (by decide) ?_
      refine g_getr 7 74 rfl hS.k68 hm2.f_68_7 (by decide) ?_
      refine g_ldu hS.k74 hS.l74 (by omega) (by omega) (fun v ev => ?_)
      refine hK _ _ (ref _ m2 z2 e46 rr2 x23 (fun _ _ => ⟨fun _ _ => ⟨fun z => absurd z xg, fun _ => ?_⟩, fun y1 => absurd y1 (by omega)⟩) (fun z => absurd ⟨wb, yb, fun _ => xb, fun y1 => absurd y1 (by omega)⟩ z))
      rw [ev]
      exact (s2.2.2.1 x xb.1 (by rw [hrn_e (by rw [eD]; omega) (by rw [eD]; omega) _ 5 (by unfold mv; omega), eD]; exact xb.2)).2.1
  have mid : ∀ t : Int, (t = 0 ∨ t = 1) → (t = 1 → (0 ≤ y ∧ y ≤ 1) ∧ (y = 0 → (0 ≤ x ∧ x < m0 346 5)) ∧ (y = 1 → (0 ≤ x ∧ x < m0 346 4))) → (t = 0 → ¬ ((0 ≤ y ∧ y ≤ 1) ∧ (y = 0 → (0 ≤ x ∧ x < m0 346 5)) ∧ (y = 1 → (0 ≤ x ∧ x < m0 346 4)))) → wp_X11_ahead_30 S K1 0 x w y t m0 := by
    intro t tb t1 t0
    refine u_X11_ahead_30 ?_
    refine g_if (fun q => g_C (hK _ _ (no (fun z => t0 q z.2)))) (fun q => ?_)
    obtain ⟨yb, xj, xh⟩ := t1 (by omega)
    refine g_if (fun q1 => g_C (hK _ _ (no (fun z => absurd z.1.1 (by omega))))) (fun q1 => ?_)
    refine g_C ?_
    refine g_if (fun q2 => ?_) (fun q2 => g_C (hK _ _ (no (fun z => absurd z.1.2 (by omega)))))
    refine g_if (fun q3 => run ⟨by omega, q2⟩ yb (fun z => absurd z q3) xh) (fun q3 => ?_)
    have y0 : y = 0 := by omega
    have xb := xj y0
    have zj := hz.jg xb.1 xb.2
    refine g_getr 1 3 rfl hS.k0 hm.f_0_1 (by decide) ?_
    refine g_getr 1 16 rfl hS.k3 hm.f_3_1 (by decide) ?_
    refine ⟨hS.k16, ?_⟩
    refine zh_gone hS hm (by decide) xb.1 (by omega) (fun s1 s2 => g_ifF (by decide) (g_C ?_)) (fun s => g_ifT rfl ?_)
    · have s1 : m0 20 x = -1 := s1
      have s2 : m0 21 x = -1 := s2
      refine hK _ _ (ref _ m0 hz rfl rr i0.2 (fun _ _ => ⟨fun _ _ => ⟨fun _ => rfl, fun z => absurd (by rw [eD]; omega) z⟩, fun y1 => absurd y1 (by omega)⟩) (fun z => absurd ⟨⟨by omega, q2⟩, yb, xj, xh⟩ z))
    · have s : ¬ (m0 20 x = -1 ∧ m0 21 x = -1) := s
      exact run ⟨by omega, q2⟩ yb (fun _ => ⟨xb, by rw [eD]; omega⟩) xh
  refine u_X11_ahead ?_
  refine g_if (fun q => ?_) (fun q => ?_)
  · refine g_C ?_
    refine g_if (fun q1 => ?_) (fun q1 => ?_)
    · refine u_X11_ahead_29 ?_
      refine g_C ?_
      exact mid 0 (Or.inl rfl) (fun z => absurd z (by decide)) (fun _ z => by have := z.1; omega)
    · refine ⟨hS.k0, ?_⟩
      refine zs_isHand11 hS hm (fun c1 => g_ifF (by decide) (g_C ?_)) (fun c1 => g_ifT rfl ?_)
      · exact mid 1 (Or.inr rfl) (fun _ => ⟨by omega, fun z => absurd z q, fun _ => by omega⟩) (fun z => absurd z (by decide))
      · refine u_X11_ahead_29 ?_
        refine g_C ?_
        exact mid 0 (Or.inl rfl) (fun z => absurd z (by decide)) (fun _ z => c1 (by have := z.2.2 (by omega); omega))
  · refine ⟨hS.k0, ?_⟩
    refine zs_isJug11 hS hm (fun c1 => ?_) (fun c1 => ?_)
    · exact mid 1 (Or.inr rfl) (fun _ => ⟨by omega, fun _ => by omega, fun z => absurd z (by omega)⟩) (fun z => absurd z (by decide))
    · exact mid 0 (Or.inl rfl) (fun z => absurd z (by decide)) (fun _ z => c1 (by have := z.2.1 (by omega); omega))
end
