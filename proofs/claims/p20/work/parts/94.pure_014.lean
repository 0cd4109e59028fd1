/-- STAGE B: the law over numbers, for every script -/
theorem pure_law (L : Nat) (xs : Nat → Int32) (hL : L ≤ 3072) : wp_start L xs := by
  unfold wp_start
  have s0 : Sp 0 S00 := ⟨rfl, fun a ha => absurd ha (by omega)⟩
  have m0 : Mp 0 (fun _ _ => False) M00 := fun c p hc => absurd hc (by omega)
  refine st_new (n := 0) (ci := 11) (N' := fun c p => (c = 0 ∧ 0 ≤ p ∧ p ≤ 15 ∧ ¬ p = 4 ∧ ¬ p = 5 ∧ ¬ p = 7)) s0 m0 (fun c p h => False.elim h) cel_0.1 cel_0.2.1 (fun p hp => by rw [cel_0.2.2.1] at hp; rcases (show p = 0 ∨ p = 1 ∨ p = 2 ∨ p = 3 ∨ p = 4 ∨ p = 5 ∨ p = 6 ∨ p = 7 ∨ p = 8 ∨ p = 9 ∨ p = 10 ∨ p = 11 ∨ p = 12 ∨ p = 13 ∨ p = 14 ∨ p = 15 by omega) with e | e | e | e | e | e | e | e | e | e | e | e | e | e | e | e <;> subst e <;> first | exact Or.inr (by rw [ini_of cel_0.2.2.2]; rfl) | exact Or.inl (by omega)) (fun S1 M1 s1 m1 => ?_)
  refine ⟨s1.k 0 (by decide) cel_0.1 rfl, ?_⟩
  refine i_X11 s1 m1 (fun Sa Ma sa ma => ?_)
  refine st_new (n := 336) (ci := 12) (N' := fun c p => (c = 336 ∧ 0 ≤ p ∧ p ≤ 37 ∧ ¬ p = 1 ∧ ¬ p = 2 ∧ ¬ p = 8 ∧ ¬ p = 9 ∧ ¬ p = 10 ∧ ¬ p = 11 ∧ ¬ p = 12 ∧ ¬ p = 13 ∧ ¬ p = 14 ∧ ¬ p = 16 ∧ ¬ p = 18 ∧ ¬ p = 22 ∧ ¬ p = 23 ∧ ¬ p = 25 ∧ ¬ p = 29 ∧ ¬ p = 33)) sa ma (fun c p h => False.elim h) cel_336.1 cel_336.2.1 (fun p hp => by rw [cel_336.2.2.1] at hp; rcases (show p = 0 ∨ p = 1 ∨ p = 2 ∨ p = 3 ∨ p = 4 ∨ p = 5 ∨ p = 6 ∨ p = 7 ∨ p = 8 ∨ p = 9 ∨ p = 10 ∨ p = 11 ∨ p = 12 ∨ p = 13 ∨ p = 14 ∨ p = 15 ∨ p = 16 ∨ p = 17 ∨ p = 18 ∨ p = 19 ∨ p = 20 ∨ p = 21 ∨ p = 22 ∨ p = 23 ∨ p = 24 ∨ p = 25 ∨ p = 26 ∨ p = 27 ∨ p = 28 ∨ p = 29 ∨ p = 30 ∨ p = 31 ∨ p = 32 ∨ p = 33 ∨ p = 34 ∨ p = 35 ∨ p = 36 ∨ p = 37 by omega) with e | e | e | e | e | e | e | e | e | e | e | e | e | e | e | e | e | e | e | e | e | e | e | e | e | e | e | e | e | e | e | e | e | e | e | e | e | e <;> subst e <;> first | exact Or.inr (by rw [ini_of cel_336.2.2.2]; rfl) | exact Or.inl (by omega)) (fun S2 M2 s2 m2 => ?_)
  refine ⟨s2.k 336 (by decide) cel_336.1 rfl, ?_⟩
  refine i_X12 s2 m2 (fun Sb Mb sb mb => ?_)
  obtain ⟨hS, hz⟩ := start_R sb mb
  exact ⟨514, law_L hL 514 Sb Mb 0 0 hS hz (by decide) (by decide) (by decide) (by decide)⟩
