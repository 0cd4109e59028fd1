theorem da_wf {b : Int → Int} {n : Int} : ∀ (N m h j : Nat) (p k : Int) (D : Dd) (f : Int) (E : Dd), da b n N m h j p k D f E → f = 0 → WD D → (m = 1 → h ≤ 5 ∧ j ≤ dEnd h ∧ ¬ dFull D h ∧ (h = 1 → j = 2 → ¬ Rt D (D (57 + 3 * D 3)) (D (57 + 3 * D 3 + 1)))) → WD E := by
  intro N
  induction N with
  | zero => intro m h j p k D f E z; exact z.elim
  | succ N ih =>
    intro m h j p k D f E z hf hd hm
    obtain ⟨q, _, z⟩ := z
    have bad : ∀ a : Int, (1 ≤ a ∧ a ≤ 5) → (f = a + 8 * q ∧ E = dz) → WD E := fun a ha y => by
      exfalso
      have := y.1
      omega
    by_cases m0 : m = 0
    · have g := z.1 m0
      have : ∀ l : List Nat, (∀ x : Nat, x ∈ l → x ≤ 5) → dch b n (da b n N) q k D f E l → WD E := by
        intro l
        induction l with
        | nil => intro _ y; exact bad 1 (by decide) y
        | cons x l ihl =>
          intro hx y
          by_cases w : Wk b n x q
          · by_cases a3 : k = 40 ∨ (x = 0 ∧ ¬ D 0 = 0) ∨ (¬ x = 0 ∧ D 0 = 0) ∨ dFull D x
            · exact bad 5 (by decide) ((y.1 w).1 a3)
            · refine ih _ _ _ _ _ _ _ _ ((y.1 w).2 a3) hf hd (fun _ => ⟨hx x (List.mem_cons_self ..), Nat.zero_le _, fun w2 => a3 (Or.inr (Or.inr (Or.inr w2))), fun _ w2 => absurd w2 (by decide)⟩)
          · exact ihl (fun x hx' => hx x (List.mem_cons_of_mem _ hx')) (y.2 w)
      exact this _ (by decide) g
    have h1 := z.2 m0
    by_cases m1 : m = 1
    · obtain ⟨hh, hj, nf, hr⟩ := hm m1
      have g := h1.1 m1
      by_cases a : q < n ∧ Dg (b q)
      · obtain ⟨r, _, g2⟩ := g.1 a
        by_cases a2 : 5 < r - q ∨ nv b q r < dLo D h j ∨ dHi D h j < nv b q r ∨ dBad D h j (nv b q r)
        · exact bad 2 (by decide) (g2.1 a2)
        · have g3 := g2.2 a2
          have fr := dCl_f hd hh hj nf
          have wd := hd.put (v := nv b q r) fr
          have nf2 := dFull_ud (v := nv b q r) hh fr.1 nf
          have de := dEnd_r h hh
          by_cases a3 : j = dEnd h
          · refine ih _ _ _ _ _ _ _ _ (g3.1 a3) hf (dFin_w wd hh nf2 (fun e => ?_)) (fun y => absurd y (by decide))
            have ej : j = 2 := by rw [a3, de.2.1 e]
            have nr := hr e ej
            subst e
            subst ej
            have c2 : dCl D 1 2 = 57 + 3 * D 3 + 2 := rfl
            obtain ⟨_, _, _, _, _, b3, _⟩ := hd
            rw [c2] at *
            intro y
            obtain ⟨l, l0, l1, l2⟩ := y
            rw [ud_ne (by omega)] at l1
            rw [ud_ne (D := D) (p := 3) (by omega), ud_ne (by omega), ud_ne (by omega), ud_ne (by omega), ud_ne (by omega)] at l2
            exact nr ⟨l, l0, l1, l2⟩
          · refine ih _ _ _ _ _ _ _ _ (g3.2 a3) hf wd (fun _ => ⟨hh, by omega, nf2, fun e ej => ?_⟩)
            subst e
            have ej2 : j = 1 := by omega
            subst ej2
            have c1 : dCl D 1 1 = 57 + 3 * D 3 + 1 := rfl
            obtain ⟨_, _, _, _, _, b3, _⟩ := hd
            have nb : ¬ Rt D (D (57 + 3 * D 3)) (nv b q r) := fun y => a2 (Or.inr (Or.inr (Or.inr ⟨rfl, rfl, Or.inr y⟩)))
            rw [c1]
            intro y
            obtain ⟨l, l0, l1, l2⟩ := y
            rw [ud_ne (by omega)] at l1
            rw [ud_ne (D := D) (p := 3) (by omega), ud_at, ud_ne (by omega), ud_ne (by omega), ud_ne (by omega)] at l2
            exact nb ⟨l, l0, l1, l2⟩
      · exact bad 1 (by decide) (g.2 a)
    have g := h1.2 m1
    by_cases a : n ≤ q
    · have y := (g.1 a).2
      rw [y]; exact hd
    · have g2 := g.2 a
      by_cases a2 : b q = 59
      · exact ih _ _ _ _ _ _ _ _ (g2.1 a2) hf hd (fun y => absurd y (by decide))
      · exact bad 1 (by decide) (g2.2 a2)
