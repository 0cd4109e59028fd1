theorem Inv.cp {X : Mm} {S : Sh} {M : Mm} (h : Inv X S M) {x y n : Int} (hb : ∀ c p : Nat, (c : Int) = y → (p : Int) < n → okb (bd c p) (M x p)) (hs : ∀ p : Int, 0 ≤ p → p < n → ¬ spX X y p) (h30 : ¬ (y = 30 ∨ y = 348)) (h55 : y ≠ 55) (h346 : ¬ (y = 346 ∨ y = 347 ∨ y = 354 ∨ y = 336)) : Inv X S (cpM M x 0 y 0 n) := by
  refine ⟨fun c' p' h1 h2 => ?_, fun c' p' h1 => ?_, fun i h1 h2 => ?_, ?_, h.good, fun hx p' hp' => ?_, ?_⟩
  · by_cases e : (c' : Int) = y ∧ 0 ≤ (p' : Int) ∧ (p' : Int) < 0 + n
    · have q : cpM M x 0 y 0 n c' p' = M x p' := by unfold cpM; rw [if_pos e]; congr 1; omega
      rw [q]
      exact hb c' p' e.1 (by omega)
    · have q : cpM M x 0 y 0 n c' p' = M c' p' := by unfold cpM; rw [if_neg e]
      rw [q]
      exact h.1 c' p' h1 h2
  · have q : cpM M x 0 y 0 n c' p' = M c' p' := by
      unfold cpM
      rw [if_neg]
      rintro ⟨e1, e2, e3⟩
      rw [e1] at h1
      exact hs p' e2 (by omega) h1
    rw [q]
    exact h.2.1 c' p' h1
  · have q : cpM M x 0 y 0 n 30 i = M 30 i := by unfold cpM; rw [if_neg (fun z => h30 (Or.inl z.1.symm))]
    rw [q]
    exact h.row30 h1 h2
  · have q : cpM M x 0 y 0 n 55 1 = M 55 1 := by unfold cpM; rw [if_neg (fun z => h55 z.1.symm)]
    rw [q]
    exact h.row55
  · have q : cpM M x 0 y 0 n 348 p' = M 348 p' := by unfold cpM; rw [if_neg (fun z => h30 (Or.inr z.1.symm))]
    rw [q]
    exact h.flag hx hp'
  · exact h.pl.same (fun c p hh => by unfold cpM; rw [if_neg (by omega)])
