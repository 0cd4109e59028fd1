/-! dairy() of both sides: what is told, and that it is in good order -/
def WD (D : Dd) : Prop := (D 7 = 0 ∧ D 8 = 0) ∧ (∀ i : Int, 0 ≤ i → i < D 4 → D (10 + 5 * i + 1) = 0 ∧ D (10 + 5 * i + 2) = 0) ∧ (∀ j : Int, 0 ≤ j → j < D 5 → D (35 + 4 * j + 1) = -1 ∧ D (35 + 4 * j + 3) = 0) ∧ (∀ w : Int, 0 ≤ w → w < D 6 → D (51 + w) = -1) ∧ UQ D ∧ ((0 ≤ D 3 ∧ D 3 ≤ 8) ∧ (0 ≤ D 4 ∧ D 4 ≤ 5) ∧ (0 ≤ D 5 ∧ D 5 ≤ 4) ∧ (0 ≤ D 6 ∧ D 6 ≤ 6) ∧ (0 ≤ D 9 ∧ D 9 ≤ 4))
/-- a place of the row that is free -/
def fre (D : Dd) (c : Int) : Prop := ¬ (3 ≤ c ∧ c ≤ 9) ∧ (∀ i : Int, 0 ≤ i → i < D 4 → ¬ 10 + 5 * i + 1 = c ∧ ¬ 10 + 5 * i + 2 = c) ∧ (∀ j : Int, 0 ≤ j → j < D 5 → ¬ 35 + 4 * j + 1 = c ∧ ¬ 35 + 4 * j + 3 = c) ∧ (∀ w : Int, 0 ≤ w → w < D 6 → ¬ 51 + w = c) ∧ (∀ k : Int, 0 ≤ k → k < D 3 → ¬ 57 + 3 * k = c ∧ ¬ 57 + 3 * k + 1 = c)
theorem WD.put {D : Dd} {c v : Int} (h : WD D) (f : fre D c) : WD (ud D c v) := by
  obtain ⟨⟨h7, h8⟩, hh, hj, hw, hu, hb⟩ := h
  obtain ⟨f0, f1, f2, f3, f4⟩ := f
  have e : ∀ p : Int, 3 ≤ p → p ≤ 9 → ud D c v p = D p := fun p a b => ud_ne (by omega)
  refine ⟨⟨by rw [e 7 (by decide) (by decide)]; exact h7, by rw [e 8 (by decide) (by decide)]; exact h8⟩, fun i i0 i1 => ?_, fun j j0 j1 => ?_, fun w w0 w1 => ?_, fun k l k0 k1 l0 l1 q => ?_, ?_⟩
  · rw [e 4 (by decide) (by decide)] at i1
    rw [ud_ne (f1 i i0 i1).1, ud_ne (f1 i i0 i1).2]; exact hh i i0 i1
  · rw [e 5 (by decide) (by decide)] at j1
    rw [ud_ne (f2 j j0 j1).1, ud_ne (f2 j j0 j1).2]; exact hj j j0 j1
  · rw [e 6 (by decide) (by decide)] at w1
    rw [ud_ne (f3 w w0 w1)]; exact hw w w0 w1
  · rw [e 3 (by decide) (by decide)] at k1 l1
    unfold rMt at q
    rw [ud_ne (f4 k k0 k1).1, ud_ne (f4 k k0 k1).2, ud_ne (f4 l l0 l1).1, ud_ne (f4 l l0 l1).2] at q
    exact hu k l k0 k1 l0 l1 q
  · rw [e 3 (by decide) (by decide), e 4 (by decide) (by decide), e 5 (by decide) (by decide), e 6 (by decide) (by decide), e 9 (by decide) (by decide)]
    exact hb
theorem dEnd_r : ∀ h : Nat, h ≤ 5 → dEnd h ≤ 3 ∧ (h = 1 → dEnd h = 2) ∧ (h = 2 → dEnd h = 2) ∧ (h = 4 → dEnd h = 2) := by
  intro h hh
  rcases (show h = 0 ∨ h = 1 ∨ h = 2 ∨ h = 3 ∨ h = 4 ∨ h = 5 by omega) with e | e | e | e | e | e <;> subst e <;> decide
theorem dCl_f {D : Dd} {h j : Nat} (hd : WD D) (hh : h ≤ 5) (hj : j ≤ dEnd h) (nf : ¬ dFull D h) : fre D (dCl D h j) := by
  obtain ⟨_, _, _, _, _, b3, b4, b5, b6, b9⟩ := hd
  have de := dEnd_r h hh
  rcases (show h = 0 ∨ h = 1 ∨ h = 2 ∨ h = 3 ∨ h = 4 ∨ h = 5 by omega) with e | e | e | e | e | e
  · subst e
    have : dCl D 0 j = 200 ∨ dCl D 0 j = 1 ∨ dCl D 0 j = 2 := by
      rcases j with _ | _ | j
      · exact Or.inl rfl
      · exact Or.inr (Or.inl rfl)
      · exact Or.inr (Or.inr rfl)
    exact ⟨by omega, fun i _ _ => ⟨by omega, by omega⟩, fun i _ _ => ⟨by omega, by omega⟩, fun w _ _ => by omega, fun k _ _ => ⟨by omega, by omega⟩⟩
  · subst e
    have : dCl D 1 j = 57 + 3 * D 3 + (j : Int) := rfl
    have n : ¬ D 3 = 8 := nf
    exact ⟨by omega, fun i _ _ => ⟨by omega, by omega⟩, fun i _ _ => ⟨by omega, by omega⟩, fun w _ _ => by omega, fun k _ _ => ⟨by omega, by omega⟩⟩
  · subst e
    have : dCl D 2 j = 10 + 5 * D 4 ∨ dCl D 2 j = 10 + 5 * D 4 + 3 ∨ dCl D 2 j = 10 + 5 * D 4 + 4 := by
      rcases j with _ | _ | j
      · exact Or.inl rfl
      · exact Or.inr (Or.inl rfl)
      · exact Or.inr (Or.inr rfl)
    have n : ¬ D 4 = 5 := nf
    exact ⟨by omega, fun i _ _ => ⟨by omega, by omega⟩, fun i _ _ => ⟨by omega, by omega⟩, fun w _ _ => by omega, fun k _ _ => ⟨by omega, by omega⟩⟩
  · subst e
    have : dCl D 3 j = 35 + 4 * D 5 ∨ dCl D 3 j = 35 + 4 * D 5 + 2 := by
      rcases j with _ | j
      · exact Or.inl rfl
      · exact Or.inr rfl
    have n : ¬ D 5 = 4 := nf
    exact ⟨by omega, fun i _ _ => ⟨by omega, by omega⟩, fun i _ _ => ⟨by omega, by omega⟩, fun w _ _ => by omega, fun k _ _ => ⟨by omega, by omega⟩⟩
  · subst e
    have : dCl D 4 j = 81 + 3 * D 9 + (j : Int) := rfl
    exact ⟨by omega, fun i _ _ => ⟨by omega, by omega⟩, fun i _ _ => ⟨by omega, by omega⟩, fun w _ _ => by omega, fun k _ _ => ⟨by omega, by omega⟩⟩
  · subst e
    have : dCl D 5 j = 93 + 4 * D 6 + (j : Int) := rfl
    exact ⟨by omega, fun i _ _ => ⟨by omega, by omega⟩, fun i _ _ => ⟨by omega, by omega⟩, fun w _ _ => by omega, fun k _ _ => ⟨by omega, by omega⟩⟩
theorem dFin_w {D : Dd} {h : Nat} (hd : WD D) (hh : h ≤ 5) (nf : ¬ dFull D h) (hr : h = 1 → ¬ Rt D (D (57 + 3 * D 3)) (D (57 + 3 * D 3 + 1))) : WD (dFin D h) := by
  obtain ⟨⟨h7, h8⟩, hH, hJ, hW, hU, b3, b4, b5, b6, b9⟩ := id hd
  rcases (show h = 0 ∨ h = 1 ∨ h = 2 ∨ h = 3 ∨ h = 4 ∨ h = 5 by omega) with e | e | e | e | e | e
  · subst e
    exact hd.put ⟨by omega, fun i _ _ => ⟨by omega, by omega⟩, fun i _ _ => ⟨by omega, by omega⟩, fun w _ _ => by omega, fun k _ _ => ⟨by omega, by omega⟩⟩
  · subst e
    have n : ¬ D 3 = 8 := nf
    have nr := hr rfl
    show WD (ud D 3 (D 3 + 1))
    have e3 : ud D 3 (D 3 + 1) 3 = D 3 + 1 := ud_at _ _ _
    have E : ∀ p : Int, ¬ p = 3 → ud D 3 (D 3 + 1) p = D p := fun p q => ud_ne q
    refine ⟨⟨by rw [E 7 (by decide)]; exact h7, by rw [E 8 (by decide)]; exact h8⟩, fun i i0 i1 => ?_, fun j j0 j1 => ?_, fun w w0 w1 => ?_, fun k l k0 k1 l0 l1 q => ?_, ?_⟩
    · rw [E 4 (by decide)] at i1
      rw [E _ (by omega), E _ (by omega)]; exact hH i i0 i1
    · rw [E 5 (by decide)] at j1
      rw [E _ (by omega), E _ (by omega)]; exact hJ j j0 j1
    · rw [E 6 (by decide)] at w1
      rw [E _ (by omega)]; exact hW w w0 w1
    · rw [e3] at k1 l1
      unfold rMt at q
      rw [E _ (by omega), E _ (by omega), E _ (by omega), E _ (by omega)] at q
      by_cases z1 : k = D 3
      · by_cases z2 : l = D 3
        · omega
        · exfalso
          subst z1
          exact nr ⟨l, l0, by omega, by omega⟩
      · by_cases z2 : l = D 3
        · exfalso
          rw [z2] at q
          exact nr ⟨k, k0, by omega, q⟩
        · exact hU k l k0 (by omega) l0 (by omega) q
    · rw [e3, E 4 (by decide), E 5 (by decide), E 6 (by decide), E 9 (by decide)]
      omega
  · subst e
    have n : ¬ D 4 = 5 := nf
    obtain ⟨F, eF⟩ : ∃ F : Dd, F = dFin D 2 := ⟨_, rfl⟩
    have eF' : F = ud (ud (ud D (10 + 5 * D 4 + 1) 0) (10 + 5 * D 4 + 2) 0) 4 (D 4 + 1) := eF
    have e4 : F 4 = D 4 + 1 := by rw [eF']; exact ud_at _ _ _
    have E : ∀ p : Int, ¬ p = 4 → ¬ p = 10 + 5 * D 4 + 1 → ¬ p = 10 + 5 * D 4 + 2 → F p = D p := fun p q1 q2 q3 => by rw [eF', ud_ne q1, ud_ne q3, ud_ne q2]
    have x1 : F (10 + 5 * D 4 + 1) = 0 := by rw [eF', ud_ne (by omega), ud_ne (by omega), ud_at]
    have x2 : F (10 + 5 * D 4 + 2) = 0 := by rw [eF', ud_ne (by omega), ud_at]
    rw [← eF]
    refine ⟨⟨by rw [E 7 (by omega) (by omega) (by omega)]; exact h7, by rw [E 8 (by omega) (by omega) (by omega)]; exact h8⟩, fun i i0 i1 => ?_, fun j j0 j1 => ?_, fun w w0 w1 => ?_, hU.move b3.2 (fun p q => E p (by omega) (by omega) (by omega)), ?_⟩
    · rw [e4] at i1
      by_cases z : i = D 4
      · rw [z]; exact ⟨x1, x2⟩
      · rw [E _ (by omega) (by omega) (by omega), E _ (by omega) (by omega) (by omega)]; exact hH i i0 (by omega)
    · rw [E 5 (by omega) (by omega) (by omega)] at j1
      rw [E _ (by omega) (by omega) (by omega), E _ (by omega) (by omega) (by omega)]; exact hJ j j0 j1
    · rw [E 6 (by omega) (by omega) (by omega)] at w1
      rw [E _ (by omega) (by omega) (by omega)]; exact hW w w0 w1
    · rw [e4, E 3 (by omega) (by omega) (by omega), E 5 (by omega) (by omega) (by omega), E 6 (by omega) (by omega) (by omega), E 9 (by omega) (by omega) (by omega)]
      omega
  · subst e
    have n : ¬ D 5 = 4 := nf
    obtain ⟨F, eF⟩ : ∃ F : Dd, F = dFin D 3 := ⟨_, rfl⟩
    have eF' : F = ud (ud (ud D (35 + 4 * D 5 + 1) (-1)) (35 + 4 * D 5 + 3) 0) 5 (D 5 + 1) := eF
    have e4 : F 5 = D 5 + 1 := by rw [eF']; exact ud_at _ _ _
    have E : ∀ p : Int, ¬ p = 5 → ¬ p = 35 + 4 * D 5 + 1 → ¬ p = 35 + 4 * D 5 + 3 → F p = D p := fun p q1 q2 q3 => by rw [eF', ud_ne q1, ud_ne q3, ud_ne q2]
    have x1 : F (35 + 4 * D 5 + 1) = -1 := by rw [eF', ud_ne (by omega), ud_ne (by omega), ud_at]
    have x2 : F (35 + 4 * D 5 + 3) = 0 := by rw [eF', ud_ne (by omega), ud_at]
    rw [← eF]
    refine ⟨⟨by rw [E 7 (by omega) (by omega) (by omega)]; exact h7, by rw [E 8 (by omega) (by omega) (by omega)]; exact h8⟩, fun i i0 i1 => ?_, fun j j0 j1 => ?_, fun w w0 w1 => ?_, hU.move b3.2 (fun p q => E p (by omega) (by omega) (by omega)), ?_⟩
    · rw [E 4 (by omega) (by omega) (by omega)] at i1
      rw [E _ (by omega) (by omega) (by omega), E _ (by omega) (by omega) (by omega)]; exact hH i i0 i1
    · rw [e4] at j1
      by_cases z : j = D 5
      · rw [z]; exact ⟨x1, x2⟩
      · rw [E _ (by omega) (by omega) (by omega), E _ (by omega) (by omega) (by omega)]; exact hJ j j0 (by omega)
    · rw [E 6 (by omega) (by omega) (by omega)] at w1
      rw [E _ (by omega) (by omega) (by omega)]; exact hW w w0 w1
    · rw [e4, E 3 (by omega) (by omega) (by omega), E 4 (by omega) (by omega) (by omega), E 6 (by omega) (by omega) (by omega), E 9 (by omega) (by omega) (by omega)]
      omega
  · subst e
    have n : ¬ D 9 = 4 := nf
    show WD (ud D 9 (D 9 + 1))
    have e3 : ud D 9 (D 9 + 1) 9 = D 9 + 1 := ud_at _ _ _
    have E : ∀ p : Int, ¬ p = 9 → ud D 9 (D 9 + 1) p = D p := fun p q => ud_ne q
    refine ⟨⟨by rw [E 7 (by decide)]; exact h7, by rw [E 8 (by decide)]; exact h8⟩, fun i i0 i1 => ?_, fun j j0 j1 => ?_, fun w w0 w1 => ?_, hU.move b3.2 (fun p q => E p (by omega)), ?_⟩
    · rw [E 4 (by decide)] at i1
      rw [E _ (by omega), E _ (by omega)]; exact hH i i0 i1
    · rw [E 5 (by decide)] at j1
      rw [E _ (by omega), E _ (by omega)]; exact hJ j j0 j1
    · rw [E 6 (by decide)] at w1
      rw [E _ (by omega)]; exact hW w w0 w1
    · rw [e3, E 3 (by decide), E 4 (by decide), E 5 (by decide), E 6 (by decide)]
      omega
  · subst e
    have n : ¬ D 6 = 6 := nf
    obtain ⟨F, eF⟩ : ∃ F : Dd, F = dFin D 5 := ⟨_, rfl⟩
    have eF' : F = ud (ud D (51 + D 6) (-1)) 6 (D 6 + 1) := eF
    have e4 : F 6 = D 6 + 1 := by rw [eF']; exact ud_at _ _ _
    have E : ∀ p : Int, ¬ p = 6 → ¬ p = 51 + D 6 → F p = D p := fun p q1 q2 => by rw [eF', ud_ne q1, ud_ne q2]
    have x1 : F (51 + D 6) = -1 := by rw [eF', ud_ne (by omega), ud_at]
    rw [← eF]
    refine ⟨⟨by rw [E 7 (by omega) (by omega)]; exact h7, by rw [E 8 (by omega) (by omega)]; exact h8⟩, fun i i0 i1 => ?_, fun j j0 j1 => ?_, fun w w0 w1 => ?_, hU.move b3.2 (fun p q => E p (by omega) (by omega)), ?_⟩
    · rw [E 4 (by omega) (by omega)] at i1
      rw [E _ (by omega) (by omega), E _ (by omega) (by omega)]; exact hH i i0 i1
    · rw [E 5 (by omega) (by omega)] at j1
      rw [E _ (by omega) (by omega), E _ (by omega) (by omega)]; exact hJ j j0 j1
    · rw [e4] at w1
      by_cases z : w = D 6
      · rw [z]; exact x1
      · rw [E _ (by omega) (by omega)]; exact hW w w0 (by omega)
    · rw [e4, E 3 (by omega) (by omega), E 4 (by omega) (by omega), E 5 (by omega) (by omega), E 9 (by omega) (by omega)]
      omega
theorem dFull_ud {D : Dd} {c v : Int} {h : Nat} (hh : h ≤ 5) (hc : ¬ (3 ≤ c ∧ c ≤ 9)) (nf : ¬ dFull D h) : ¬ dFull (ud D c v) h := by
  rcases (show h = 0 ∨ h = 1 ∨ h = 2 ∨ h = 3 ∨ h = 4 ∨ h = 5 by omega) with e | e | e | e | e | e <;> subst e
  · exact fun z => z
  · exact fun z => nf ((ud_ne (D := D) (c := c) (v := v) (p := 3) (by omega)).symm.trans z)
  · exact fun z => nf ((ud_ne (D := D) (c := c) (v := v) (p := 4) (by omega)).symm.trans z)
  · exact fun z => nf ((ud_ne (D := D) (c := c) (v := v) (p := 5) (by omega)).symm.trans z)
  · exact fun z => nf ((ud_ne (D := D) (c := c) (v := v) (p := 9) (by omega)).symm.trans z)
  · exact fun z => nf ((ud_ne (D := D) (c := c) (v := v) (p := 6) (by omega)).symm.trans z)
theorem da_wf {b : Int → Int} {n : Int} : ∀ (N m h j : Nat) (p k : Int) (D : Dd) (f : Int) (E : Dd), da b n N m h j p k D f E → f = 0 → WD D → (m = 1 → h ≤ 5 ∧ j ≤ dEnd h ∧ ¬ dFull D h ∧ (h = 1 → j = 2 → ¬ Rt D (D (57 + 3 * D 3)) (D (57 + 3 * D 3 + 1)))) → WD E := by
  intro N
  induction N with
  | zero => intro m h j p k D f E z; exact z.elim
  | succ N ih =>
    intro m h j p k D f E z hf hd hm
    obtain ⟨q, _, z⟩ := z
    have bad : ∀ a : Int, (1 ≤ a ∧ a ≤ 5) → (f = a + 8 * q ∧ E = dz) → WD E := fun a ha y => by
      exfalso
      have := y.1
      omega
    by_cases m0 : m = 0
    · have g := z.1 m0
      have : ∀ l : List Nat, (∀ x : Nat, x ∈ l → x ≤ 5) → dch b n (da b n N) q k D f E l → WD E := by
        intro l
        induction l with
        | nil => intro _ y; exact bad 1 (by decide) y
        | cons x l ihl =>
          intro hx y
          by_cases w : Wk b n x q
          · by_cases a3 : k = 40 ∨ (x = 0 ∧ ¬ D 0 = 0) ∨ (¬ x = 0 ∧ D 0 = 0) ∨ dFull D x
            · exact bad 5 (by decide) ((y.1 w).1 a3)
            · refine ih _ _ _ _ _ _ _ _ ((y.1 w).2 a3) hf hd (fun _ => ⟨hx x (List.mem_cons_self ..), Nat.zero_le _, fun w2 => a3 (Or.inr (Or.inr (Or.inr w2))), fun _ w2 => absurd w2 (by decide)⟩)
          · exact ihl (fun x hx' => hx x (List.mem_cons_of_mem _ hx')) (y.2 w)
      exact this _ (by decide) g
    have h1 := z.2 m0
    by_cases m1 : m = 1
    · obtain ⟨hh, hj, nf, hr⟩ := hm m1
      have g := h1.1 m1
      by_cases a : q < n ∧ Dg (b q)
      · obtain ⟨r, _, g2⟩ := g.1 a
        by_cases a2 : 5 < r - q ∨ nv b q r < dLo D h j ∨ dHi D h j < nv b q r ∨ dBad D h j (nv b q r)
        · exact bad 2 (by decide) (g2.1 a2)
        · have g3 := g2.2 a2
          have fr := dCl_f hd hh hj nf
          have wd := hd.put (v := nv b q r) fr
          have nf2 := dFull_ud (v := nv b q r) hh fr.1 nf
          have de := dEnd_r h hh
          by_cases a3 : j = dEnd h
          · refine ih _ _ _ _ _ _ _ _ (g3.1 a3) hf (dFin_w wd hh nf2 (fun e => ?_)) (fun y => absurd y (by decide))
            have ej : j = 2 := by rw [a3, de.2.1 e]
            have nr := hr e ej
            subst e
            subst ej
            have c2 : dCl D 1 2 = 57 + 3 * D 3 + 2 := rfl
            obtain ⟨_, _, _, _, _, b3, _⟩ := hd
            rw [c2] at *
            intro y
            obtain ⟨l, l0, l1, l2⟩ := y
            rw [ud_ne (by omega)] at l1
            rw [ud_ne (D := D) (p := 3) (by omega), ud_ne (by omega), ud_ne (by omega), ud_ne (by omega), ud_ne (by omega)] at l2
            exact nr ⟨l, l0, l1, l2⟩
          · refine ih _ _ _ _ _ _ _ _ (g3.2 a3) hf wd (fun _ => ⟨hh, by omega, nf2, fun e ej => ?_⟩)
            subst e
            have ej2 : j = 1 := by omega
            subst ej2
            have c1 : dCl D 1 1 = 57 + 3 * D 3 + 1 := rfl
            obtain ⟨_, _, _, _, _, b3, _⟩ := hd
            have nb : ¬ Rt D (D (57 + 3 * D 3)) (nv b q r) := fun y => a2 (Or.inr (Or.inr (Or.inr ⟨rfl, rfl, Or.inr y⟩)))
            rw [c1]
            intro y
            obtain ⟨l, l0, l1, l2⟩ := y
            rw [ud_ne (by omega)] at l1
            rw [ud_ne (D := D) (p := 3) (by omega), ud_at, ud_ne (by omega), ud_ne (by omega), ud_ne (by omega)] at l2
            exact nb ⟨l, l0, l1, l2⟩
      · exact bad 1 (by decide) (g.2 a)
    have g := h1.2 m1
    by_cases a : n ≤ q
    · have y := (g.1 a).2
      rw [y]; exact hd
    · have g2 := g.2 a
      by_cases a2 : b q = 59
      · exact ih _ _ _ _ _ _ _ _ (g2.1 a2) hf hd (fun y => absurd y (by decide))
      · exact bad 1 (by decide) (g2.2 a2)
theorem DA.wf {b : Int → Int} {n : Int} {D E : Dd} (h : DA b n 0 0 0 0 0 D 0 E) (h0 : ∀ p : Int, 0 ≤ p → p < 10 → D p = 0) : WD E := by
  obtain ⟨N, h⟩ := h
  have z : ∀ p : Int, 0 ≤ p → p < 10 → D p = 0 := h0
  refine da_wf N 0 0 0 0 0 D 0 E h rfl ⟨⟨z 7 (by decide) (by decide), z 8 (by decide) (by decide)⟩, fun i i0 i1 => ?_, fun i i0 i1 => ?_, fun i i0 i1 => ?_, fun k l k0 k1 => ?_, ?_⟩ (fun y => absurd y (by decide))
  · rw [z 4 (by decide) (by decide)] at i1; omega
  · rw [z 5 (by decide) (by decide)] at i1; omega
  · rw [z 6 (by decide) (by decide)] at i1; omega
  · rw [z 3 (by decide) (by decide)] at k1; omega
  · rw [z 3 (by decide) (by decide), z 4 (by decide) (by decide), z 5 (by decide) (by decide), z 6 (by decide) (by decide), z 9 (by decide) (by decide)]
    decide
/-- the STATE of the class as a DAIRY lays it -/
def SQ (E : Dd) (M : Mm) : Prop := (M 16 0 = 0 ∧ M 16 1 = 0) ∧ (∀ i : Int, 0 ≤ i → i < E 4 → M 17 i = E (10 + 5 * i)) ∧ (∀ i : Int, 0 ≤ i → i < 5 → M 18 i = 0 ∧ M 19 i = 0) ∧ (∀ j : Int, 0 ≤ j → j < E 5 → M 20 j = E (35 + 4 * j) ∧ M 22 j = E (35 + 4 * j + 2)) ∧ (∀ i : Int, 0 ≤ i → i < 4 → M 21 i = -1) ∧ (∀ i : Int, 0 ≤ i → i < 6 → M 23 i = -1) ∧ (∀ i : Int, E 5 ≤ i → i < 4 → M 20 i = -1)
abbrev lw3 (m : Mm) (c p : Int) : Prop := (c = 338 ∧ p < 400 * m 336 2) ∨ (c = 340 ∧ p < 48 * m 336 2) ∨ (c = 341 ∧ p < m 336 2)
theorem zu_dairy12 {S : Sh} {m0 : Mm} {K : Int → Mm → Prop} {tb : Int → Int} {tn : Int} {D : Dd} (hS : Shp S) (hj : Jc S m0) (hR : TR m0 tb tn) (hD0 : ∀ p : Int, 0 ≤ p → p < 10 → D p = 0) (hD1 : ∀ p : Int, 10 ≤ p → p < 117 → D p = m0 342 p) (hf : ∀ (f : Int) (M1 : Mm), Jc S M1 → (∀ c p : Int, ¬ fr2_W c p → M1 c p = m0 c p) → (∀ c p : Int, lw3 m0 c p → M1 c p = m0 c p) → M1 336 1 = 0 → ¬ f = 0 → DA tb tn 0 0 0 0 0 D f dz → K (-2 - f) M1) (hk : ∀ (E : Dd) (M1 : Mm), Jc S M1 → (∀ c p : Int, ¬ fr2_W c p → ¬ c = 346 → ¬ (c = 336 ∧ p = 25) → M1 c p = m0 c p) → (∀ c p : Int, lw3 m0 c p → M1 c p = m0 c p) → M1 336 25 = 0 → M1 336 1 = 0 → DA tb tn 0 0 0 0 0 D 0 E → (∀ p : Int, 0 ≤ p → p < 117 → M1 346 p = E p) → (∀ p : Int, 117 ≤ p → p < 158 → M1 346 p = 0) → K (E 5) M1) : wp_X12_dairy S m0 336 K := by
  obtain ⟨X, eX⟩ : ∃ X : Mm, X = sf m0 := ⟨_, rfl⟩
  have hm0 : Inv X S m0 := by rw [eX]; exact hj.inv
  have xe : ∀ c p : Int, ¬ c = -1 → X c p = m0 c p := fun c p h => by rw [eX]; exact sf_e m0 h
  have hRX : TR X tb tn := ⟨(xe 336 1 (by decide)).trans hR.1, hR.2.1, fun p p0 p1 => ⟨(xe 337 p (by decide)).trans (hR.2.2 p p0 p1).1, (hR.2.2 p p0 p1).2⟩⟩
  refine u_X12_dairy ?_
  refine g_C ?_
  refine g_put 11 rfl hS.k336 (hm0.w_336_11 (by decide) (by decide)) (fun m1 e1 hm1 => ?_)
  have f1 : ∀ c p : Int, ¬ (c = 336 ∧ p = 11) → m1 c p = m0 c p := fun c p q => (congrFun (congrFun e1 _) _).trans (up_ne q)
  have x1 : m1 336 11 = 6 := (congrFun (congrFun e1 _) _).trans (up_at _ _ _ _)
  refine g_C ?_
  -- behind a good reading
  have good : ∀ (m9 : Mm) (E : Dd), Inv X S m9 → (∀ c p : Int, ¬ fr2_W c p → up m9 336 1 0 c p = m0 c p) → PR m9 → Rd E m9 → DA tb tn 0 0 0 0 0 D 0 E → ∃ n : Nat, wp_X12_dairy_44 S K n 336 0 (up m9 336 1 0) := by
    intro m9 E hm9 fr9 hp9 rd9 da9
    obtain ⟨m, em⟩ : ∃ m : Mm, m = up m9 336 1 0 := ⟨_, rfl⟩
    have fm : ∀ c p : Int, ¬ (c = 336 ∧ p = 1) → m c p = m9 c p := fun c p q => by rw [em]; exact up_ne q
    have x1m : m 336 1 = 0 := by rw [em]; exact up_at _ _ _ _
    have j : Jc S m := by rw [em]; exact (Jc.of hm9).len12 (by decide) (by decide)
    have hm := j.inv
    have hp : PR m := hp9.same (fun p => fm 342 p (by first | decide | exact fun z => absurd z.1 (by decide) | exact ⟨fun z => absurd z.1 (by decide), fun z => absurd z.1 (by decide)⟩ | omega))
    rw [← em] at fr9 ⊢
    have c4 := hm.f_342_4
    have c5 := hm.f_342_5
    have last : ∀ m' : Mm, (∀ c p : Int, ¬ (c = 346 ∧ 0 ≤ p ∧ p < 158) → m' c p = m c p) → (∀ i : Int, 0 ≤ i → i < 158 → m' 346 i = if i < 117 then m 342 i else 0) → ∀ m'' : Mm, (∀ c p : Int, ¬ (c = 336 ∧ p = 25) → m'' c p = m' c p) → m'' 336 25 = 0 → Jc S m'' ∧ (∀ c p : Int, ¬ c = 346 → ¬ (c = 336 ∧ p = 25) → m'' c p = m c p) := by
      intro m' f hc m'' f2 x2
      have F : ∀ c p : Int, ¬ (c = 346 ∧ 0 ≤ p ∧ p < 158) → ¬ (c = 336 ∧ p = 25) → m'' c p = m c p := fun c p q1 q2 => (f2 c p q2).trans (f c p q1)
      have hc2 : ∀ i : Int, 0 ≤ i → i < 117 → m'' 346 i = m 342 i := fun i i0 i1 => by rw [f2 346 i (by first | decide | exact fun z => absurd z.1 (by decide) | exact ⟨fun z => absurd z.1 (by decide), fun z => absurd z.1 (by decide)⟩ | omega), hc i i0 (by omega), if_pos i1]
      refine ⟨j.chg (fun c p hc' hp' => ?_) (fun i => F 30 i (by first | decide | exact fun z => absurd z.1 (by decide) | exact ⟨fun z => absurd z.1 (by decide), fun z => absurd z.1 (by decide)⟩ | omega) (by first | decide | exact fun z => absurd z.1 (by decide) | exact ⟨fun z => absurd z.1 (by decide), fun z => absurd z.1 (by decide)⟩ | omega)) (F 55 1 (by first | decide | exact fun z => absurd z.1 (by decide) | exact ⟨fun z => absurd z.1 (by decide), fun z => absurd z.1 (by decide)⟩ | omega) (by first | decide | exact fun z => absurd z.1 (by decide) | exact ⟨fun z => absurd z.1 (by decide), fun z => absurd z.1 (by decide)⟩ | omega)) ?_ ?_, ?_⟩
      · by_cases z : (c : Int) = 346 ∧ (p : Int) < 158
        · have z1 : c = 346 := by omega
          subst z1
          refine Or.inr ?_
          rw [show ((346 : Nat) : Int) = 346 from rfl]
          by_cases z2 : (p : Int) < 117
          · rw [hc2 p (by omega) z2, ← bq_342 p (by omega)]
            exact j.1 342 p (by decide) (by rw [pT_said.2.2.2]; omega)
          · rw [f2 346 p (by first | decide | exact fun z => absurd z.1 (by decide) | exact ⟨fun z => absurd z.1 (by decide), fun z => absurd z.1 (by decide)⟩ | omega), hc p (by omega) (by omega), if_neg z2]
            exact Or.inr (bq_0 p (by omega) (by omega))
        · by_cases z2 : (c : Int) = 336 ∧ (p : Int) = 25
          · have z3 : c = 336 := by omega
            have z4 : p = 25 := by omega
            subst z3 z4
            refine Or.inr ?_
            rw [show ((336 : Nat) : Int) = 336 from rfl, show ((25 : Nat) : Int) = 25 from rfl, x2]
            exact okb_of (l := 0) (u := 20) (by decide +kernel) (by decide) (by decide)
          · exact Or.inl (F c p (by omega) z2)
      · exact j.2.2.2.1.eq (fun p q => F 336 p (by first | decide | exact fun z => absurd z.1 (by decide) | exact ⟨fun z => absurd z.1 (by decide), fun z => absurd z.1 (by decide)⟩ | omega) (by first | decide | exact fun z => absurd z.1 (by decide) | exact ⟨fun z => absurd z.1 (by decide), fun z => absurd z.1 (by decide)⟩ | omega)) (fun c p q => F c p (by omega) (by omega))
      · obtain ⟨p1, p2, p3⟩ := j.2.2.2.2
        have e4 : m'' 354 = m 354 := funext (fun p => F 354 p (by first | decide | exact fun z => absurd z.1 (by decide) | exact ⟨fun z => absurd z.1 (by decide), fun z => absurd z.1 (by decide)⟩ | omega) (by first | decide | exact fun z => absurd z.1 (by decide) | exact ⟨fun z => absurd z.1 (by decide), fun z => absurd z.1 (by decide)⟩ | omega))
        unfold PL3
        rw [x2, e4]
        refine ⟨⟨fun a a0 a1 => ?_, fun a a0 a1 => ?_⟩, fun i i0 i1 => absurd i1 (by omega), p3⟩
        · rw [hc2 4 (by decide) (by decide)] at a1
          rw [hc2 _ (by omega) (by omega), hc2 0 (by decide) (by decide)]
          exact hp.1 a a0 a1
        · rw [hc2 5 (by decide) (by decide)] at a1
          rw [hc2 _ (by omega) (by omega), hc2 0 (by decide) (by decide)]
          exact hp.2 a a0 a1
      · exact fun c p a b => F c p (by omega) b
    have L : ∀ (n : Nat) (k : Int) (m' : Mm), 0 ≤ k → k ≤ 158 → (∀ c p : Int, ¬ (c = 346 ∧ 0 ≤ p ∧ p < 158) → m' c p = m c p) → (∀ i : Int, 0 ≤ i → i < k → m' 346 i = if i < 117 then m 342 i else 0) → 159 - k ≤ (n : Int) → wp_X12_dairy_44 S K n 336 k m' := by
      intro n
      induction n with
      | zero => intro k m' _ _ _ _ h; exfalso; omega
      | succ n ih =>
        intro k m' k0 k1 f hc h
        have e20 : m' 336 20 = 346 := (f 336 20 (by first | decide | exact fun z => absurd z.1 (by decide) | exact ⟨fun z => absurd z.1 (by decide), fun z => absurd z.1 (by decide)⟩ | omega)).trans hm.f_336_20
        have e7 : m' 336 7 = 342 := (f 336 7 (by first | decide | exact fun z => absurd z.1 (by decide) | exact ⟨fun z => absurd z.1 (by decide), fun z => absurd z.1 (by decide)⟩ | omega)).trans hm.f_336_7
        refine u_X12_dairy_44 ?_
        refine g_C ?_
        refine g_if (fun w => ?_) (fun w => ?_)
        · refine g_C ?_
          refine g_putR 25 rfl hS.k336 (fun m2 e2 => ?_)
          have f2 : ∀ c p : Int, ¬ (c = 336 ∧ p = 25) → m2 c p = m' c p := fun c p q => (congrFun (congrFun e2 _) _).trans (up_ne q)
          have x2 : m2 336 25 = 0 := (congrFun (congrFun e2 _) _).trans (up_at _ _ _ _)
          refine g_getr 20 346 rfl hS.k336 ((f2 336 20 (by first | decide | exact fun z => absurd z.1 (by decide) | exact ⟨fun z => absurd z.1 (by decide), fun z => absurd z.1 (by decide)⟩ | omega)).trans e20) (by decide) ?_
          refine g_C ?_
          refine g_ldu hS.k346 hS.l346 (by omega) (by omega) (fun v ev => ?_)
          obtain ⟨jl, fl⟩ := last m' f (fun i i0 i1 => hc i i0 (by omega)) m2 f2 x2
          have sE : ∀ p : Int, 0 ≤ p → p < 117 → m2 346 p = E p := fun p p0 p1 => by rw [f2 346 p (by first | decide | exact fun z => absurd z.1 (by decide) | exact ⟨fun z => absurd z.1 (by decide), fun z => absurd z.1 (by decide)⟩ | omega), hc p p0 (by omega), if_pos p1, fm 342 p (by first | decide | exact fun z => absurd z.1 (by decide) | exact ⟨fun z => absurd z.1 (by decide), fun z => absurd z.1 (by decide)⟩ | omega)]; exact rd9 p p0 p1
          have s0 : ∀ p : Int, 117 ≤ p → p < 158 → m2 346 p = 0 := fun p p0 p1 => by rw [f2 346 p (by first | decide | exact fun z => absurd z.1 (by decide) | exact ⟨fun z => absurd z.1 (by decide), fun z => absurd z.1 (by decide)⟩ | omega), hc p (by omega) (by omega), if_neg (by omega)]
          have ev' : v = E 5 := ev.trans (sE 5 (by decide) (by decide))
          rw [ev']
          refine hk E m2 jl (fun c p hs q1 q2 => by rw [fl c p q1 q2, fr9 c p hs]) (fun c p hs => ?_) x2 ((fl 336 1 (by first | decide | exact fun z => absurd z.1 (by decide) | exact ⟨fun z => absurd z.1 (by decide), fun z => absurd z.1 (by decide)⟩ | omega) (by first | decide | exact fun z => absurd z.1 (by decide) | exact ⟨fun z => absurd z.1 (by decide), fun z => absurd z.1 (by decide)⟩ | omega)).trans x1m) da9 sE s0
          unfold lw3 at hs
          have hs2 : X 336 2 = m0 336 2 := xe 336 2 (by decide)
          rw [fl c p (by omega) (by omega), fm c p (by omega), hm9.2.1 c p (Or.inr (by omega)), xe c p (by omega)]
        · have nx : ∀ x : Int, (x = if k < 117 then m 342 k else 0) → wp_X12_dairy_72 S (fun a0 a1 M => wp_X12_dairy_44 S K n a0 a1 M) K 336 k 346 k x m' := by
            intro x hx
            refine u_X12_dairy_72 ?_
            refine g_stR hS.k346 hS.l346 (by omega) (by omega) (fun m2 e2 => ?_)
            have f2 : ∀ c p : Int, ¬ (c = 346 ∧ p = k) → m2 c p = m' c p := fun c p q => (congrFun (congrFun e2 _) _).trans (up_ne q)
            have x2 : m2 346 k = x := (congrFun (congrFun e2 _) _).trans (up_at _ _ _ _)
            refine g_A (by omega) (by omega) ?_
            refine ih (k + 1) m2 (by omega) (by omega) (fun c p q => (f2 c p (by first | exact fun y => absurd (y.1 ▸ z) (by decide) | exact fun y => absurd (y.1 ▸ q) (by decide) | exact z | exact q | exact z.1 | exact q.1 | exact z.2 | exact q.2 | omega)).trans (f c p q)) (fun i i0 i1 => ?_) (by omega)
            by_cases e : i = k
            · rw [e, x2, hx]
            · rw [f2 346 i (by first | decide | exact fun z => absurd z.1 (by decide) | exact ⟨fun z => absurd z.1 (by decide), fun z => absurd z.1 (by decide)⟩ | omega)]
              exact hc i i0 (by omega)
          refine g_getr 20 346 rfl hS.k336 e20 (by decide) ?_
          refine g_C ?_
          refine g_if (fun w2 => g_C (nx 0 (by rw [if_neg (by omega)]))) (fun w2 => ?_)
          refine g_getr 7 342 rfl hS.k336 e7 (by decide) ?_
          refine g_ldu hS.k342 hS.l342 (by omega) (by omega) (fun x ex => ?_)
          exact nx x (by rw [if_pos (by omega), ex, f 342 _ (by first | decide | exact fun z => absurd z.1 (by decide) | exact ⟨fun z => absurd z.1 (by decide), fun z => absurd z.1 (by decide)⟩ | omega)])
    exact ⟨159, L 159 0 m (by omega) (by omega) (fun _ _ _ => rfl) (fun i i0 i1 => absurd i1 (by omega)) (by omega)⟩
  have L : ∀ (n : Nat) (k : Int) (m : Mm), Inv X S m → (∀ c p : Int, ¬ fr2_W c p → m c p = m0 c p) → m 336 11 = 6 → 0 ≤ k → k ≤ 10 → (∀ i : Int, 0 ≤ i → i < k → m 342 i = 0) → (∀ i : Int, 10 ≤ i → m 342 i = m0 342 i) → 11 - k ≤ (n : Int) → wp_X12_dairy_8 S K n 336 k m := by
    intro n
    induction n with
    | zero => intro k m _ _ _ _ _ _ _ h; exfalso; omega
    | succ n ih =>
      intro k m hm fm0 t k0 k1 hz ho h
      refine u_X12_dairy_8 ?_
      refine g_C ?_
      refine g_if (fun w => ?_) (fun w => ?_)
      · refine ⟨hS.k336, ?_⟩
        have p4 : m 342 4 = 0 := hz 4 (by decide) (by first | decide | exact fun z => absurd z.1 (by decide) | exact ⟨fun z => absurd z.1 (by decide), fun z => absurd z.1 (by decide)⟩ | omega)
        have p5 : m 342 5 = 0 := hz 5 (by decide) (by first | decide | exact fun z => absurd z.1 (by decide) | exact ⟨fun z => absurd z.1 (by decide), fun z => absurd z.1 (by decide)⟩ | omega)
        refine fz_readsAll (G := m) hm (fun _ _ _ => rfl) ?_
        refine zc_readsAll (T := fun f E => DA tb tn 0 0 0 0 0 D f E) hS hm hRX t (fun p p0 p1 => ?_) ⟨fun a a0 a1 => absurd a1 (by omega), fun a a0 a1 => absurd a1 (by omega)⟩ (hD0 0 (by decide) (by decide)) (fun f E h => h) (fun m3 hm3 n3 t3 fr => ?_) (fun m3 E hm3 p3 r3 t3 fr => ?_)
        · by_cases e : p < 10
          · rw [hz p p0 (by omega), hD0 p p0 e]
          · rw [ho p (by omega), hD1 p (by omega) p1]
        · have b9 := hm3.f_336_9
          refine g_ifF (by decide) ?_
          refine g_C ?_
          have j3 : Jc S (up m3 336 1 0) := (Jc.of hm3).len12 (by decide) (by decide)
          refine g_getu 9 rfl hS.k336 (fun v4 ev4 => ?_)
          have e9 : v4 = m3 336 9 := ev4.trans (up_ne (by omega))
          refine g_S (by omega) (by omega) ?_
          rw [e9]
          refine hf _ _ j3 (fun c p hs => (fr c p hs).trans (fm0 c p hs)) (fun c p hs => ?_) (up_at _ _ _ _) n3 t3
          unfold lw3 at hs
          have hs2 : X 336 2 = m0 336 2 := xe 336 2 (by decide)
          rw [up_ne (by omega), hm3.2.1 c p (Or.inr (by omega)), xe c p (by omega)]
        · refine g_ifT (by decide) ?_
          refine g_C ?_
          exact good m3 E hm3 (fun c p hs => (fr c p hs).trans (fm0 c p hs)) p3 r3 t3
      · refine g_getr 7 342 rfl hS.k336 hm.f_336_7 (by decide) ?_
        refine g_C ?_
        refine g_st hS.k342 hS.l342 (by omega) (by omega) (hm.w342 (by omega) (Or.inr (bq_342z k.toNat (by omega)))) (fun m2 e2 hm2 => ?_)
        have f2 : ∀ c p : Int, ¬ (c = 342 ∧ p = k) → m2 c p = m c p := fun c p q => (congrFun (congrFun e2 _) _).trans (up_ne q)
        have x2 : m2 342 k = 0 := (congrFun (congrFun e2 _) _).trans (up_at _ _ _ _)
        refine g_A (by omega) (by omega) ?_
        refine ih (k + 1) m2 hm2 (fun c p q => (f2 c p (fun z => q (by first | decide | (unfold fr2_W; omega)))).trans (fm0 c p q)) ((f2 336 11 (by first | decide | exact fun z => absurd z.1 (by decide) | exact ⟨fun z => absurd z.1 (by decide), fun z => absurd z.1 (by decide)⟩ | omega)).trans t) (by omega) (by omega) (fun i i0 i1 => ?_) (fun i i0 => (f2 342 i (by first | decide | exact fun z => absurd z.1 (by decide) | exact ⟨fun z => absurd z.1 (by decide), fun z => absurd z.1 (by decide)⟩ | omega)).trans (ho i i0)) (by omega)
        by_cases e : i = k
        · rw [e, x2]
        · rw [f2 342 i (by first | decide | exact fun z => absurd z.1 (by decide) | exact ⟨fun z => absurd z.1 (by decide), fun z => absurd z.1 (by decide)⟩ | omega)]
          exact hz i i0 (by omega)
  exact ⟨11, L 11 0 m1 hm1 (fun c p q => f1 c p (fun z => q (by first | decide | (unfold fr2_W; omega)))) x1 (by omega) (by omega) (fun i i0 i1 => absurd i1 (by omega)) (fun i i0 => f1 342 i (by first | decide | exact fun z => absurd z.1 (by decide) | exact ⟨fun z => absurd z.1 (by decide), fun z => absurd z.1 (by decide)⟩ | omega)) (by omega)⟩
theorem zu_dairy11 {S : Sh} {m0 : Mm} {K : Int → Mm → Prop} {tb : Int → Int} {tn : Int} {D : Dd} (hS : Shp S) (hj : Jc S m0) (hC : TC m0 tb tn) (hD0 : ∀ p : Int, 0 ≤ p → p < 10 → D p = 0) (hf : ∀ (f : Int) (M1 : Mm), Jc S M1 → (∀ c p : Int, ¬ fr1_W c p → ¬ (c = 1 ∧ p = 1) → M1 c p = m0 c p) → M1 1 1 = 0 → ¬ f = 0 → DA tb tn 0 0 0 0 0 D f dz → K (-2 - f) M1) (hk : ∀ (E : Dd) (M1 : Mm), Jc S M1 → (∀ c p : Int, ¬ fr1_W c p → ¬ (c = 1 ∧ p = 1) → ¬ (4 ≤ c ∧ c ≤ 23) → ¬ (c = 3 ∧ p = 4) → ¬ (c = 0 ∧ p = 5) → M1 c p = m0 c p) → M1 1 1 = 0 → M1 3 4 = 0 → M1 0 5 = 0 → DA tb tn 0 0 0 0 0 D 0 E → TL 4 E M1 → SQ E M1 → Wok (M1 4 0) (M1 5) (M1 6) → K (E 5) M1) : wp_X11_dairy S m0 0 K := by
  obtain ⟨X, eX⟩ : ∃ X : Mm, X = sf m0 := ⟨_, rfl⟩
  have hm0 : Inv X S m0 := by rw [eX]; exact hj.inv
  have xe : ∀ c p : Int, ¬ c = -1 → X c p = m0 c p := fun c p h => by rw [eX]; exact sf_e m0 h
  have hCX : TC X tb tn := ⟨(xe 1 1 (by decide)).trans hC.1, hC.2.1, fun p p0 p1 => ⟨(xe 2 p (by decide)).trans (hC.2.2 p p0 p1).1, (hC.2.2 p p0 p1).2⟩⟩
  refine u_X11_dairy ?_
  refine g_getr 8 31 rfl hS.k0 hm0.f_0_8 (by decide) ?_
  refine ⟨hS.k31, ?_⟩
  have three : ∀ m2 : Mm, Inv X S m2 → fr1_F m0 m2 → ∀ m3 : Mm, m3 = up m2 1 1 0 → Jc S m3 ∧ (∀ c p : Int, ¬ fr1_W c p → ¬ (c = 1 ∧ p = 1) → m3 c p = m0 c p) ∧ m3 1 1 = 0 := by
    intro m2 hm2 fr m3 em3
    refine ⟨by rw [em3]; exact (Jc.of hm2).len11 (by decide) (by decide), fun c p hs q => by rw [em3, up_ne q, fr c p hs], by rw [em3]; exact up_at _ _ _ _⟩
  refine fz_X0_read hm0 (fun _ _ _ => rfl) ?_
  refine zn_read (T := fun f E => DA tb tn 0 0 0 0 0 D f E) hS hm0 hCX hD0 (fun f E h => h) (fun m2 hm2 f2 n2 t2 fr => ?_) (fun m2 E hm2 f2 lc wk2 t2 fr => ?_)
  · refine g_getr 0 1 rfl hS.k0 hm2.f_0_0 (by decide) ?_
    refine g_C ?_
    refine g_putR 1 rfl hS.k1 (fun m3 em3 => ?_)
    obtain ⟨j3, f3, x3⟩ := three m2 hm2 fr m3 em3
    have hm3 := j3.inv
    have e4 : m3 1 4 = m2 1 4 := by rw [em3]; exact up_ne (by omega)
    refine g_ifF (by decide) ?_
    refine g_C ?_
    refine g_getr 0 1 rfl hS.k0 hm3.f_0_0 (by decide) ?_
    refine g_get 4 (0) (4000) rfl hS.k1 hm3.f_1_4 (fun v ev bv cv => ?_)
    refine g_S (by omega) (by omega) ?_
    rw [ev, e4]
    exact hf _ m3 j3 f3 x3 n2 t2
  · refine g_getr 0 1 rfl hS.k0 hm2.f_0_0 (by decide) ?_
    refine g_C ?_
    refine g_putR 1 rfl hS.k1 (fun m3 em3 => ?_)
    obtain ⟨j3, f3, x3⟩ := three m2 hm2 fr m3 em3
    have hm3 := j3.inv
    have e5 : m3 32 5 = E 5 := by rw [em3, up_ne (by omega)]; exact lc.1.2.2.2.2.2.1
    refine g_ifT (by decide) ?_
    refine g_getr 1 3 rfl hS.k0 hm3.f_0_1 (by decide) ?_
    refine g_getr 0 4 rfl hS.k3 hm3.f_3_0 (by decide) ?_
    refine g_getr 8 31 rfl hS.k0 hm3.f_0_8 (by decide) ?_
    refine g_getr 1 32 rfl hS.k31 hm3.f_31_1 (by decide) ?_
    refine ⟨hS.k4, ?_⟩
    refine zb_told hS hm3 (by decide) (by decide) (by decide) (fun m5 hm5 f5 c0 c1 c2 c3 c4 y5 c6 c7 w1 w2 w3 w4 w5 w6 w7 w8 w9 w10 w11 => ?_)
    refine g_getr 1 3 rfl hS.k0 hm5.f_0_1 (by decide) ?_
    refine g_getr 1 16 rfl hS.k3 hm5.f_3_1 (by decide) ?_
    refine g_getr 8 31 rfl hS.k0 hm5.f_0_8 (by decide) ?_
    refine g_getr 2 44 rfl hS.k31 hm5.f_31_2 (by decide) ?_
    refine ⟨hS.k16, ?_⟩
    refine zb_state hS hm5 (by decide) (by decide) (by decide) (fun m6 hm6 f6 v0 v1 q1 q2 q3 q4 q5 q6 q7 => ?_)
    refine g_getr 1 3 rfl hS.k0 hm6.f_0_1 (by decide) ?_
    refine g_C ?_
    refine g_put 4 rfl hS.k3 (hm6.w_3_4 (by omega) (by omega)) (fun m7 em7 hm7 => ?_)
    refine g_C ?_
    refine g_put 5 rfl hS.k0 (hm7.w_0_5 (by omega) (by omega)) (fun m8 em8 hm8 => ?_)
    refine g_getr 1 3 rfl hS.k0 hm8.f_0_1 (by decide) ?_
    refine g_getr 0 4 rfl hS.k3 hm8.f_3_0 (by decide) ?_
    refine g_getu 5 rfl hS.k4 (fun v ev => ?_)
    have f8 : ∀ c p : Int, ¬ (c = 3 ∧ p = 4) → ¬ (c = 0 ∧ p = 5) → m8 c p = m6 c p := fun c p a1 a2 => by rw [em8, up_ne a2, em7, up_ne a1]
    have ev' : v = E 5 := by rw [ev, f8 4 5 (by first | decide | exact fun z => absurd z.1 (by decide) | exact ⟨fun z => absurd z.1 (by decide), fun z => absurd z.1 (by decide)⟩ | omega) (by first | decide | exact fun z => absurd z.1 (by decide) | exact ⟨fun z => absurd z.1 (by decide), fun z => absurd z.1 (by decide)⟩ | omega), f6 4 5 (by first | decide | exact fun z => absurd z.1 (by decide) | exact ⟨fun z => absurd z.1 (by decide), fun z => absurd z.1 (by decide)⟩ | omega), y5, e5]
    rw [ev']
    have y34 : m8 3 4 = 0 := by rw [em8, up_ne (by omega), em7]; exact up_at _ _ _ _
    have y05 : m8 0 5 = 0 := by rw [em8]; exact up_at _ _ _ _
    have g3' : ∀ c p : Int, 32 ≤ c → m3 c p = m2 c p := fun c p a1 => by rw [em3]; exact up_ne (by omega)
    have sq : SQ E m8 := by
      obtain ⟨lc1, lr, lh, lj, lt, lw, ⟨⟨l0, l1⟩, l2, l3, l4, l5⟩⟩ := id lc
      have b4 := hm2.f_32_4
      have b5 := hm2.f_32_5
      have e4 : m2 32 4 = E 4 := lc1.2.2.2.2.1
      have e5' : m2 32 5 = E 5 := lc1.2.2.2.2.2.1
      have G : ∀ c p : Int, 16 ≤ c → c ≤ 23 → m8 c p = m6 c p := fun c p a1 a2 => f8 c p (by first | exact fun y => absurd (y.1 ▸ z) (by decide) | exact fun y => absurd (y.1 ▸ q) (by decide) | exact z | exact q | exact z.1 | exact q.1 | exact z.2 | exact q.2 | omega) (by omega)
      have H : ∀ c p : Int, 44 ≤ c → c ≤ 51 → m5 c p = m2 c p := fun c p a1 a2 => by rw [f5 c p (by first | exact fun y => absurd (y.1 ▸ z) (by decide) | exact fun y => absurd (y.1 ▸ q) (by decide) | exact z | exact q | exact z.1 | exact q.1 | exact z.2 | exact q.2 | omega), g3' c p (by omega)]
      refine ⟨⟨?_, ?_⟩, fun i i0 i1 => ?_, fun i i0 i1 => ⟨?_, ?_⟩, fun i i0 i1 => ⟨?_, ?_⟩, fun i i0 i1 => ?_, fun i i0 i1 => ?_, fun i i0 i1 => ?_⟩
      · rw [G 16 0 (by omega) (by omega), v0, H 44 0 (by omega) (by omega), l0]
      · rw [G 16 1 (by omega) (by omega), v1, H 44 1 (by omega) (by omega), l1]
      · rw [G 17 i (by omega) (by omega)]
        exact (q1 i i0 (by omega)).trans ((H 45 i (by omega) (by omega)).trans (lh i i0 i1).1)
      · rw [G 18 i (by omega) (by omega)]
        exact (q2 i i0 (by omega)).trans ((H 46 i (by omega) (by omega)).trans (l2 i i0 i1).1)
      · rw [G 19 i (by omega) (by omega)]
        exact (q3 i i0 (by omega)).trans ((H 47 i (by omega) (by omega)).trans (l2 i i0 i1).2)
      · rw [G 20 i (by omega) (by omega)]
        exact (q4 i i0 (by omega)).trans ((H 48 i (by omega) (by omega)).trans (lj i i0 i1).1)
      · rw [G 22 i (by omega) (by omega)]
        exact (q6 i i0 (by omega)).trans ((H 50 i (by omega) (by omega)).trans (lj i i0 i1).2)
      · rw [G 21 i (by omega) (by omega)]
        exact (q5 i i0 (by omega)).trans ((H 49 i (by omega) (by omega)).trans (l3 i i0 i1))
      · rw [G 23 i (by omega) (by omega)]
        exact (q7 i i0 (by omega)).trans ((H 51 i (by omega) (by omega)).trans (l4 i i0 i1))
      · rw [G 20 i (by omega) (by omega)]
        exact (q4 i (by omega) (by omega)).trans ((H 48 i (by omega) (by omega)).trans (l5 i (by omega) i0 i1))
    refine hk E m8 (Jc.of hm8) (fun c p hs q w1 w2 w3 => by rw [f8 c p w2 w3, f6 c p (by first | exact fun y => absurd (y.1 ▸ z) (by decide) | exact fun y => absurd (y.1 ▸ q) (by decide) | exact z | exact q | exact z.1 | exact q.1 | exact z.2 | exact q.2 | omega), f5 c p (by first | exact fun y => absurd (y.1 ▸ z) (by decide) | exact fun y => absurd (y.1 ▸ q) (by decide) | exact z | exact q | exact z.1 | exact q.1 | exact z.2 | exact q.2 | omega), f3 c p hs q]) (by rw [hm8.g (c := 1) (p := 1) (by decide), sf_e m3 (by decide), x3]) y34 y05 t2 ?_ sq (wk2.move (by rw [f8 4 0 (by first | decide | exact fun z => absurd z.1 (by decide) | exact ⟨fun z => absurd z.1 (by decide), fun z => absurd z.1 (by decide)⟩ | omega) (by first | decide | exact fun z => absurd z.1 (by decide) | exact ⟨fun z => absurd z.1 (by decide), fun z => absurd z.1 (by decide)⟩ | omega), f6 4 0 (by first | decide | exact fun z => absurd z.1 (by decide) | exact ⟨fun z => absurd z.1 (by decide), fun z => absurd z.1 (by decide)⟩ | omega), c0, g3' 32 0 (by first | decide | exact fun z => absurd z.1 (by decide) | exact ⟨fun z => absurd z.1 (by decide), fun z => absurd z.1 (by decide)⟩ | omega)]) (fun p p0 p1 => by rw [f8 5 p (by first | decide | exact fun z => absurd z.1 (by decide) | exact ⟨fun z => absurd z.1 (by decide), fun z => absurd z.1 (by decide)⟩ | omega) (by first | decide | exact fun z => absurd z.1 (by decide) | exact ⟨fun z => absurd z.1 (by decide), fun z => absurd z.1 (by decide)⟩ | omega), f6 5 p (by first | decide | exact fun z => absurd z.1 (by decide) | exact ⟨fun z => absurd z.1 (by decide), fun z => absurd z.1 (by decide)⟩ | omega)]; exact (w1 p p0 p1).trans (g3' 33 p (by first | decide | exact fun z => absurd z.1 (by decide) | exact ⟨fun z => absurd z.1 (by decide), fun z => absurd z.1 (by decide)⟩ | omega))) (fun p p0 p1 => by rw [f8 6 p (by first | decide | exact fun z => absurd z.1 (by decide) | exact ⟨fun z => absurd z.1 (by decide), fun z => absurd z.1 (by decide)⟩ | omega) (by first | decide | exact fun z => absurd z.1 (by decide) | exact ⟨fun z => absurd z.1 (by decide), fun z => absurd z.1 (by decide)⟩ | omega), f6 6 p (by first | decide | exact fun z => absurd z.1 (by decide) | exact ⟨fun z => absurd z.1 (by decide), fun z => absurd z.1 (by decide)⟩ | omega)]; exact (w2 p p0 p1).trans (g3' 34 p (by first | decide | exact fun z => absurd z.1 (by decide) | exact ⟨fun z => absurd z.1 (by decide), fun z => absurd z.1 (by decide)⟩ | omega))))
    have g8 : ∀ c p : Int, 4 ≤ c → c ≤ 15 → m8 c p = m5 c p := fun c p a1 a2 => by rw [f8 c p (by first | exact fun y => absurd (y.1 ▸ z) (by decide) | exact fun y => absurd (y.1 ▸ q) (by decide) | exact z | exact q | exact z.1 | exact q.1 | exact z.2 | exact q.2 | omega) (by omega), f6 c p (by first | exact fun y => absurd (y.1 ▸ z) (by decide) | exact fun y => absurd (y.1 ▸ q) (by decide) | exact z | exact q | exact z.1 | exact q.1 | exact z.2 | exact q.2 | omega)]
    have g3 : ∀ c p : Int, 32 ≤ c → m3 c p = m2 c p := fun c p a1 => by rw [em3]; exact up_ne (by omega)
    refine lc.told hm2 (fun i i0 i1 => ?_) (fun p p0 p1 => ?_) (fun p p0 p1 => ⟨?_, ?_⟩) (fun p p0 p1 => ⟨?_, ?_, ?_⟩) (fun p p0 p1 => ⟨?_, ?_, ?_, ?_⟩)
    · rw [g8 4 i (by decide) (by decide), ← g3 32 i (by decide)]
      rcases (show i = 0 ∨ i = 1 ∨ i = 2 ∨ i = 3 ∨ i = 4 ∨ i = 5 ∨ i = 6 ∨ i = 7 by omega) with e | e | e | e | e | e | e | e <;> subst e <;> assumption
    · rw [g8 5 p (by decide) (by decide), ← g3 33 p (by decide)]; exact w1 p p0 p1
    · rw [g8 7 p (by decide) (by decide), ← g3 35 p (by decide)]; exact w3 p p0 p1
    · rw [g8 8 p (by decide) (by decide), ← g3 36 p (by decide)]; exact w4 p p0 p1
    · rw [g8 9 p (by decide) (by decide), ← g3 37 p (by decide)]; exact w5 p p0 p1
    · rw [g8 10 p (by decide) (by decide), ← g3 38 p (by decide)]; exact w6 p p0 p1
    · rw [g8 11 p (by decide) (by decide), ← g3 39 p (by decide)]; exact w7 p p0 p1
    · rw [g8 12 p (by decide) (by decide), ← g3 40 p (by decide)]; exact w8 p p0 p1
    · rw [g8 13 p (by decide) (by decide), ← g3 41 p (by decide)]; exact w9 p p0 p1
    · rw [g8 14 p (by decide) (by decide), ← g3 42 p (by decide)]; exact w10 p p0 p1
    · rw [g8 15 p (by decide) (by decide), ← g3 43 p (by decide)]; exact w11 p p0 p1
/-- dairy of the class, then of the reference -/
theorem zz_dairy {S : Sh} {m0 : Mm} {K : Int → Int → Mm → Prop} {K1 : Int → Mm → Prop} {n : Int} (hS : Shp S) (hz : RZ S m0 n) (hn : 0 ≤ n) (hK : ∀ (r : Int) (M : Mm), wp_X12_dairy S M 336 (fun r2 M2 => K r r2 M2) → K1 r M) (hk : ∀ (r : Int) (M1 : Mm), RZ S M1 n → K r r M1) : wp_X11_dairy S m0 0 K1 := by
  have hj := hz.1
  have hm0 := hj.inv
  obtain ⟨jc, xr, ⟨⟨a1, a2, a3⟩, a4, a5⟩⟩ := id hj
  have b1 := hm0.f_1_1
  have hC : TC m0 (fun p => m0 2 p) (m0 1 1) := ⟨rfl, b1, fun p p0 p1 => ⟨rfl, hm0.a_2 p0 (by omega)⟩⟩
  have hR : ∀ M : Mm, M 336 1 = m0 336 1 → (∀ p : Int, M 337 p = m0 337 p) → TR M (fun p => m0 2 p) (m0 1 1) := fun M e f => ⟨e.trans a1.symm, b1, fun p p0 p1 => ⟨(f p).trans (a2 p p0 (by omega)).symm, hm0.a_2 p0 (by omega)⟩⟩
  obtain ⟨D, eD⟩ : ∃ D : Dd, D = fun p => if p < 10 then 0 else m0 342 p := ⟨_, rfl⟩
  have d0 : ∀ p : Int, 0 ≤ p → p < 10 → D p = 0 := fun p _ p1 => by rw [eD]; exact if_pos p1
  have d1 : ∀ p : Int, 10 ≤ p → p < 117 → D p = m0 342 p := fun p p0 _ => by rw [eD]; exact if_neg (by omega)
  refine zu_dairy11 hS jc hC d0 (fun f m1 j1 f1 x1 nf da => ?_) (fun E m1 j1 f1 x1 y34 y05 da tl sq wk => ?_)
  · have g1 : ∀ c p : Int, 336 ≤ c → m1 c p = m0 c p := fun c p z => f1 c p (by first | decide | (unfold fr1_W; omega)) (by omega)
    refine hK _ _ ?_
    refine zu_dairy12 hS j1 (hR m1 (g1 336 1 (by decide)) (fun p => g1 337 p (by decide))) d0 (fun p p0 p1 => by rw [g1 342 p (by decide)]; exact d1 p p0 p1) (fun f' m2 j2 f2 l2 x2 _ da2 => ?_) (fun E m2 _ _ _ _ _ da2 _ _ => absurd (da.det da2).1 nf)
    rw [← (da.det da2).1]
    have F : ∀ c p : Int, ¬ fr1_W c p → ¬ fr2_W c p → ¬ (c = 1 ∧ p = 1) → m2 c p = m0 c p := fun c p q1 q2 q3 => by rw [f2 c p q2, f1 c p q1 q3]
    have jx : JX S m2 := by
      refine hj.tape j2 (fun c p hs q1 q2 q3 => F c p ?_ ?_ q1) ?_ ?_
      · unfold fr1_W; omega
      · unfold fr2_W; omega
      · rw [f2 1 1 (by first | decide | (unfold fr2_W; omega)), x1, x2]
      · rw [F 0 7 (by first | decide | (unfold fr1_W; omega)) (by first | decide | (unfold fr2_W; omega)) (by omega), F 336 2 (by first | decide | (unfold fr1_W; omega)) (by first | decide | (unfold fr2_W; omega)) (by omega)]
        exact a3
    refine hk _ m2 ⟨jx, hz.2.1.same (fun c p q => F c p (zr_RW1 q).1 (zr_RW1 q).2.1 (zr_RW1 q).2.2), ⟨fun k k0 k1 => ?_, ?_⟩, hz.2.2.2.same (fun c p q => F c p (zr_XZ1 q).1 (zr_XZ1 q).2.1 (zr_XZ1 q).2.2)⟩
    · rw [F 336 2 (by first | decide | (unfold fr1_W; omega)) (by first | decide | (unfold fr2_W; omega)) (by omega)] at k1
      obtain ⟨Cs, r1, r2, r3⟩ := hz.2.2.1.1 k k0 k1
      have e2 : m1 336 2 = m0 336 2 := g1 336 2 (by first | decide | exact fun z => absurd z.1 (by decide) | exact ⟨fun z => absurd z.1 (by decide), fun z => absurd z.1 (by decide)⟩ | omega)
      refine ⟨Cs, ?_, r2.low k0 (fun c p q => by rw [l2 c p (by unfold lw3; omega), g1 c p (by omega)]), r3⟩
      rw [F 30 k (by first | decide | (unfold fr1_W; omega)) (by first | decide | (unfold fr2_W; omega)) (by omega)]
      exact r1.same (fun c p q => F c p (by first | decide | (unfold fr1_W; omega)) (by first | decide | (unfold fr2_W; omega)) (by omega))
    · rw [F 55 1 (by first | decide | (unfold fr1_W; omega)) (by first | decide | (unfold fr2_W; omega)) (by omega), F 3 2 (by first | decide | (unfold fr1_W; omega)) (by first | decide | (unfold fr2_W; omega)) (by omega), hz.2.2.1.2]
      by_cases z : m0 3 2 < 0
      · rw [if_pos z, if_pos z]
      · rw [if_neg z, if_neg z, F 30 _ (by first | decide | (unfold fr1_W; omega)) (by first | decide | (unfold fr2_W; omega)) (by omega)]
  · have g1 : ∀ c p : Int, 336 ≤ c → m1 c p = m0 c p := fun c p z => f1 c p (by first | decide | (unfold fr1_W; omega)) (by omega) (by omega) (by omega) (by omega)
    refine hK _ _ ?_
    refine zu_dairy12 hS j1 (hR m1 (g1 336 1 (by decide)) (fun p => g1 337 p (by decide))) d0 (fun p p0 p1 => by rw [g1 342 p (by decide)]; exact d1 p p0 p1) (fun f' m2 _ _ _ _ nf da2 => absurd (da2.det da).1 nf) (fun E' m2 j2 f2 l2 x25 x2 da2 s1 s2 => ?_)
    have eE := (da.det da2).2
    rw [← eE] at s1 ⊢
    have wd := da.wf d0
    obtain ⟨⟨w7, w8⟩, wh, wj, ww, wu, b3, b4, b5, b6, b9⟩ := wd
    have F : ∀ c p : Int, ¬ fr1_W c p → ¬ fr2_W c p → ¬ (c = 1 ∧ p = 1) → ¬ (4 ≤ c ∧ c ≤ 23) → ¬ (c = 3 ∧ p = 4) → ¬ (c = 0 ∧ p = 5) → ¬ c = 346 → ¬ (c = 336 ∧ p = 25) → m2 c p = m0 c p := fun c p q1 q2 q3 q4 q5 q6 q7 q8 => by rw [f2 c p q2 q7 q8, f1 c p q1 q3 q4 q5 q6]
    have G : ∀ c p : Int, c ≤ 335 → m2 c p = m1 c p := fun c p q => f2 c p (by first | decide | (unfold fr2_W; omega)) (by omega) (by omega)
    have jx : JX S m2 := by
      refine hj.tape2 j2 (fun c p hs q0 q1 q2 q3 => F c p ?_ ?_ q1 (by omega) (by omega) (by omega) q0 (by omega)) ?_ ?_
      · unfold fr1_W; omega
      · unfold fr2_W; omega
      · rw [G 1 1 (by omega), x1, x2]
      · rw [F 0 7 (by first | decide | (unfold fr1_W; omega)) (by first | decide | (unfold fr2_W; omega)) (by omega) (by omega) (by omega) (by omega) (by omega) (by omega), F 336 2 (by first | decide | (unfold fr1_W; omega)) (by first | decide | (unfold fr2_W; omega)) (by omega) (by omega) (by omega) (by omega) (by omega) (by omega)]
        exact a3
    have e157 : m2 346 157 = 0 := s2 157 (by omega) (by omega)
    have db : DB (m2 346) := ⟨by rw [s1 4 (by omega) (by omega)]; exact b4, by rw [s1 5 (by omega) (by omega)]; exact b5, by rw [s1 6 (by omega) (by omega)]; exact b6, by rw [s1 9 (by omega) (by omega)]; exact b9, by omega⟩
    have hm2 := j2.inv
    have dbE : DB (fun p => if p = 157 then 0 else E p) := ⟨b4, b5, b6, b9, by show (0 : Int) ≤ (if (157 : Int) = 157 then 0 else E 157) ∧ (if (157 : Int) = 157 then 0 else E 157) ≤ 10; rw [if_pos rfl]; decide⟩
    have eE' : ∀ p : Int, 0 ≤ p → p < 117 → m2 346 p = (fun p => if p = 157 then 0 else E p) p := fun p p0 p1 => by
      show _ = (if p = 157 then 0 else E p)
      rw [if_neg (by omega), s1 p p0 p1]
    have tlE : TL 4 (fun p => if p = 157 then 0 else E p) m1 := by
      have N : ∀ p : Int, ¬ p = 157 → (fun p : Int => if p = 157 then 0 else E p) p = E p := fun p q => if_neg q
      obtain ⟨⟨c0, c1, c2, c3, c4, c5, c6, c7⟩, r, hs, ts, ws⟩ := tl
      refine ⟨⟨c0, c1, c2, c3, c4, c5, c6, c7⟩, fun a c a0 a5 c0 c5 => ?_, fun i i0 i1 => ?_, fun i i0 i1 => ?_, fun i i0 i1 => ?_⟩
      · rcases r a c a0 a5 c0 c5 with ⟨e, nr⟩ | ⟨e, k, k0, k1, k2, k3⟩
        · refine Or.inl ⟨e, fun q => nr ?_⟩
          obtain ⟨k, k0, k1, k2⟩ := q
          have k1 : k < E 3 := k1
          rw [N _ (by omega), N _ (by omega)] at k2
          exact ⟨k, k0, k1, k2⟩
        · refine Or.inr ⟨e, k, k0, k1, ?_, ?_⟩
          · rw [N _ (by omega), N _ (by omega)]; exact k2
          · rw [N _ (by omega)]; exact k3
      · have i1 : i < E 4 := i1
        rw [N _ (by omega), N _ (by omega)]; exact hs i i0 i1
      · have i1 : i < E 9 := i1
        rw [N _ (by omega), N _ (by omega), N _ (by omega)]; exact ts i i0 i1
      · have i1 : i < E 6 := i1
        rw [N _ (by omega), N _ (by omega), N _ (by omega), N _ (by omega)]; exact ws i i0 i1
    have tl2 : TL 4 (m2 346) m2 := tlE.move dbE b3.2 (fun p _ _ => G _ p (by omega)) (fun c p q => G _ p (by unfold inT at q; omega)) (fun p q => eE' p (by unfold tp at q; omega) (by unfold tp at q; omega))
    obtain ⟨⟨q0, q1⟩, q2, q3, q4, q5, q6, q7⟩ := sq
    have sr2 : SR m2 16 (m2 346) := by
      refine ⟨⟨?_, ?_⟩, fun i i0 i1 => ⟨?_, ?_, ?_⟩, fun j j0 j1 => ?_, fun j j0 j1 => ⟨?_, ?_⟩, fun w w0 w1 => ?_⟩
      · rw [G 16 0 (by omega), q0, s1 7 (by omega) (by omega), w7]
      · rw [G 16 1 (by omega), q1, s1 8 (by omega) (by omega), w8]
      · rw [s1 4 (by omega) (by omega)] at i1
        rw [s1 _ (by omega) (by omega)]
        show m2 17 i = _
        rw [G 17 i (by omega)]; exact q2 i i0 i1
      · rw [s1 4 (by omega) (by omega)] at i1
        rw [s1 _ (by omega) (by omega), (wh i i0 i1).1]
        show m2 18 i = _
        rw [G 18 i (by omega)]; exact (q3 i i0 (by omega)).1
      · rw [s1 4 (by omega) (by omega)] at i1
        rw [s1 _ (by omega) (by omega), (wh i i0 i1).2]
        show m2 19 i = _
        rw [G 19 i (by omega)]; exact (q3 i i0 (by omega)).2
      · rw [s1 5 (by omega) (by omega)] at j1
        have bj : 0 ≤ m2 346 (35 + 4 * j) := (fam_346_35_4_0_3 hm2 (a := j) (i := 35 + 4 * j) (by omega) (by omega) (by omega)).1
        have x1' := s1 (35 + 4 * j) (by omega) (by omega)
        have x2' := s1 (35 + 4 * j + 1) (by omega) (by omega)
        have x3' := s1 (35 + 4 * j + 2) (by omega) (by omega)
        have x4' := s1 (35 + 4 * j + 3) (by omega) (by omega)
        have y1 := wj j j0 j1
        have y2 := q4 j j0 j1
        refine ⟨?_, ?_, Or.inl ⟨?_, by omega, by omega, bj⟩⟩
        · show m2 21 j = _
          rw [G 21 j (by omega), q5 j j0 (by omega)]; omega
        · show m2 22 j = _
          rw [G 22 j (by omega)]; omega
        · show m2 20 j = _
          rw [G 20 j (by omega)]; omega
      · rw [s1 5 (by omega) (by omega)] at j0
        show m2 20 j = _
        rw [G 20 j (by omega)]; exact q7 j j0 j1
      · rw [s1 5 (by omega) (by omega)] at j0
        show m2 21 j = _
        rw [G 21 j (by omega)]; exact q5 j (by omega) j1
      · rw [s1 6 (by omega) (by omega)] at w1
        rw [s1 _ (by omega) (by omega), ww w w0 w1]
        show m2 23 w = _
        rw [G 23 w (by omega)]; exact q6 w w0 (by omega)
    have tt2 : TT m2 3 (m2 346) := ⟨by rw [G 3 4 (by omega), y34, e157], fun i i0 i1 => absurd i1 (by omega)⟩
    have uq2 : UQ (m2 346) := wu.move b3.2 (fun p q => s1 p (by omega) (by omega))
    obtain ⟨_, ⟨rd, im, eu, pa⟩, cr, xz⟩ := id hz
    have F0 : ∀ c p : Int, 76 ≤ c → c ≤ 357 → ¬ fr2_W c p → ¬ c = 346 → ¬ (c = 336 ∧ p = 25) → m2 c p = m0 c p := fun c p z1 z2 z3 z4 z5 => F c p (by first | decide | (unfold fr1_W; omega)) z3 (by omega) (by omega) (by omega) (by omega) z4 z5
    refine hk _ m2 ⟨jx, ⟨⟨⟨db, by rw [s1 3 (by omega) (by omega)]; exact b3.2⟩, tl2, sr2, tt2⟩, fun k k0 k1 => ?_, ?_, fun r r0 r1 => absurd r1 (by omega)⟩, ⟨fun k k0 k1 => ?_, ?_⟩, ?_⟩
    · rw [F0 357 k (by first | decide | exact fun z => absurd z.1 (by decide) | exact ⟨fun z => absurd z.1 (by decide), fun z => absurd z.1 (by decide)⟩ | omega) (by first | decide | exact fun z => absurd z.1 (by decide) | exact ⟨fun z => absurd z.1 (by decide), fun z => absurd z.1 (by decide)⟩ | omega) (by first | decide | (unfold fr2_W; omega)) (by omega) (by omega), show iD m2 k = iD m0 k from funext (fun p => F0 354 _ (by first | decide | exact fun z => absurd z.1 (by decide) | exact ⟨fun z => absurd z.1 (by decide), fun z => absurd z.1 (by decide)⟩ | omega) (by first | decide | exact fun z => absurd z.1 (by decide) | exact ⟨fun z => absurd z.1 (by decide), fun z => absurd z.1 (by decide)⟩ | omega) (by first | decide | (unfold fr2_W; omega)) (by omega) (by omega))]
      exact (im k k0 k1).imp (fun z => z) (fun z => z.same (fun c p c0 c1 => F0 c p (by omega) (by omega) (by first | decide | (unfold fr2_W; omega)) (by omega) (by omega)) (F0 _ 4 (by omega) (by omega) (by first | decide | (unfold fr2_W; omega)) (by omega) (by omega)) (fun p _ _ => rfl))
    · rw [G 0 5 (by omega), y05, x25]
    · have e2 : m2 336 2 = m0 336 2 := F0 336 2 (by first | decide | exact fun z => absurd z.1 (by decide) | exact ⟨fun z => absurd z.1 (by decide), fun z => absurd z.1 (by decide)⟩ | omega) (by first | decide | exact fun z => absurd z.1 (by decide) | exact ⟨fun z => absurd z.1 (by decide), fun z => absurd z.1 (by decide)⟩ | omega) (by first | decide | (unfold fr2_W; omega)) (by omega) (by omega)
      have e2' : m1 336 2 = m0 336 2 := g1 336 2 (by first | decide | exact fun z => absurd z.1 (by decide) | exact ⟨fun z => absurd z.1 (by decide), fun z => absurd z.1 (by decide)⟩ | omega)
      rw [e2] at k1
      obtain ⟨Cs, r1, r2, r3⟩ := cr.1 k k0 k1
      refine ⟨Cs, ?_, r2.low k0 (fun c p q => by rw [l2 c p (by unfold lw3; omega), g1 c p (by omega)]), r3⟩
      rw [F 30 k (by first | decide | (unfold fr1_W; omega)) (by first | decide | (unfold fr2_W; omega)) (by omega) (by omega) (by omega) (by omega) (by omega) (by omega)]
      exact r1.same (fun c p q => F c p (by first | decide | (unfold fr1_W; omega)) (by first | decide | (unfold fr2_W; omega)) (by omega) (by omega) (by omega) (by omega) (by omega) (by omega))
    · rw [F 55 1 (by first | decide | (unfold fr1_W; omega)) (by first | decide | (unfold fr2_W; omega)) (by omega) (by omega) (by omega) (by omega) (by omega) (by omega), F 3 2 (by first | decide | (unfold fr1_W; omega)) (by first | decide | (unfold fr2_W; omega)) (by omega) (by omega) (by omega) (by omega) (by omega) (by omega), cr.2]
      by_cases z : m0 3 2 < 0
      · rw [if_pos z, if_pos z]
      · rw [if_neg z, if_neg z, F 30 _ (by first | decide | (unfold fr1_W; omega)) (by first | decide | (unfold fr2_W; omega)) (by omega) (by omega) (by omega) (by omega) (by omega) (by omega)]
    · obtain ⟨xs, xb, xc, xd, xe, xf⟩ := xz
      refine ⟨⟨?_, fun _ => ?_, ?_, ?_⟩, fun k k0 k1 => (xb k k0 k1).move (F0 _ _ (by omega) (by omega) (by first | decide | (unfold fr2_W; omega)) (by omega) (by omega)) (F0 _ _ (by omega) (by omega) (by first | decide | (unfold fr2_W; omega)) (by omega) (by omega)) (F0 _ _ (by omega) (by omega) (by first | decide | (unfold fr2_W; omega)) (by omega) (by omega)) (fun p _ _ => F0 _ _ (by omega) (by omega) (by first | decide | (unfold fr2_W; omega)) (by omega) (by omega)) (fun p _ _ => F0 _ _ (by omega) (by omega) (by first | decide | (unfold fr2_W; omega)) (by omega) (by omega)) (fun p _ _ => F0 _ _ (by omega) (by omega) (by first | decide | (unfold fr2_W; omega)) (by omega) (by omega)), fun r r0 r1 => ?_, uq2, fun k k0 k1 => ?_, ?_⟩
      · show m2 16 0 ≤ n
        rw [G 16 0 (by omega), q0]; exact hn
      · rw [G 3 4 (by omega), y34]
      · exact wk.move (G _ _ (by omega)) (fun p _ _ => G _ _ (by omega)) (fun p _ _ => G _ _ (by omega))
      · intro g g0
        have e : hbt (m2 (3 + 18)) g 4 = 0 := by
          have h0 : ∀ p : Int, 0 ≤ p → p < 4 → m2 (3 + 18) p = -1 := fun p p0 p1 => by
            show m2 21 p = -1
            rw [G 21 p (by omega), q5 p p0 p1]
          have := hbt_ext (f := m2 (3 + 18)) (h := g) (n := 0) 4 (fun j j0 j1 => by rw [h0 j (by omega) (by omega)]; omega)
          exact this
        rw [e]; decide
      · rw [F0 _ 0 (by omega) (by omega) (by first | decide | (unfold fr2_W; omega)) (by omega) (by omega)]
        exact ⟨(xc r r0 r1).1, (xc r r0 r1).2.move (fun p _ _ => F0 _ _ (by omega) (by omega) (by first | decide | (unfold fr2_W; omega)) (by omega) (by omega))⟩
      · rw [F0 357 k (by first | decide | exact fun z => absurd z.1 (by decide) | exact ⟨fun z => absurd z.1 (by decide), fun z => absurd z.1 (by decide)⟩ | omega) (by first | decide | exact fun z => absurd z.1 (by decide) | exact ⟨fun z => absurd z.1 (by decide), fun z => absurd z.1 (by decide)⟩ | omega) (by first | decide | (unfold fr2_W; omega)) (by omega) (by omega), show iD m2 k = iD m0 k from funext (fun p => F0 354 _ (by first | decide | exact fun z => absurd z.1 (by decide) | exact ⟨fun z => absurd z.1 (by decide), fun z => absurd z.1 (by decide)⟩ | omega) (by first | decide | exact fun z => absurd z.1 (by decide) | exact ⟨fun z => absurd z.1 (by decide), fun z => absurd z.1 (by decide)⟩ | omega) (by first | decide | (unfold fr2_W; omega)) (by omega) (by omega))]; exact xe k k0 k1
      · rw [F 55 2 (by first | decide | (unfold fr1_W; omega)) (by first | decide | (unfold fr2_W; omega)) (by omega) (by omega) (by omega) (by omega) (by omega) (by omega), F0 336 23 (by first | decide | exact fun z => absurd z.1 (by decide) | exact ⟨fun z => absurd z.1 (by decide), fun z => absurd z.1 (by decide)⟩ | omega) (by first | decide | exact fun z => absurd z.1 (by decide) | exact ⟨fun z => absurd z.1 (by decide), fun z => absurd z.1 (by decide)⟩ | omega) (by first | decide | (unfold fr2_W; omega)) (by omega) (by omega)]; exact xf
