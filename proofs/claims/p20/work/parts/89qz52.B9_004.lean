theorem dCl_f {D : Dd} {h j : Nat} (hd : WD D) (hh : h ≤ 5) (hj : j ≤ dEnd h) (nf : ¬ dFull D h) : fre D (dCl D h j) := by
  obtain ⟨_, _, _, _, _, b3, b4, b5, b6, b9⟩ := hd
  have de := dEnd_r h hh
  rcases (show h = 0 ∨ h = 1 ∨ h = 2 ∨ h = 3 ∨ h = 4 ∨ h = 5 by omega) with e | e | e | e | e | e
  · subst e
    have : dCl D 0 j = 200 ∨ dCl D 0 j = 1 ∨ dCl D 0 j = 2 := by
      rcases j with _ | _ | j
      · exact Or.inl rfl
      · exact Or.inr (Or.inl rfl)
      · exact Or.inr (Or.inr rfl)
    exact ⟨by omega, fun i _ _ => ⟨by omega, by omega⟩, fun i _ _ => ⟨by omega, by omega⟩, fun w _ _ => by omega, fun k _ _ => ⟨by omega, by omega⟩⟩
  · subst e
    have : dCl D 1 j = 57 + 3 * D 3 + (j : Int) := rfl
    have n : ¬ D 3 = 8 := nf
    exact ⟨by omega, fun i _ _ => ⟨by omega, by omega⟩, fun i _ _ => ⟨by omega, by omega⟩, fun w _ _ => by omega, fun k _ _ => ⟨by omega, by omega⟩⟩
  · subst e
    have : dCl D 2 j = 10 + 5 * D 4 ∨ dCl D 2 j = 10 + 5 * D 4 + 3 ∨ dCl D 2 j = 10 + 5 * D 4 + 4 := by
      rcases j with _ | _ | j
      · exact Or.inl rfl
      · exact Or.inr (Or.inl rfl)
      · exact Or.inr (Or.inr rfl)
    have n : ¬ D 4 = 5 := nf
    exact ⟨by omega, fun i _ _ => ⟨by omega, by omega⟩, fun i _ _ => ⟨by omega, by omega⟩, fun w _ _ => by omega, fun k _ _ => ⟨by omega, by omega⟩⟩
  · subst e
    have : dCl D 3 j = 35 + 4 * D 5 ∨ dCl D 3 j = 35 + 4 * D 5 + 2 := by
      rcases j with _ | j
      · exact Or.inl rfl
      · exact Or.inr rfl
    have n : ¬ D 5 = 4 := nf
    exact ⟨by omega, fun i _ _ => ⟨by omega, by omega⟩, fun i _ _ => ⟨by omega, by omega⟩, fun w _ _ => by omega, fun k _ _ => ⟨by omega, by omega⟩⟩
  · subst e
    have : dCl D 4 j = 81 + 3 * D 9 + (j : Int) := rfl
    exact ⟨by omega, fun i _ _ => ⟨by omega, by omega⟩, fun i _ _ => ⟨by omega, by omega⟩, fun w _ _ => by omega, fun k _ _ => ⟨by omega, by omega⟩⟩
  · subst e
    have : dCl D 5 j = 93 + 4 * D 6 + (j : Int) := rfl
    exact ⟨by omega, fun i _ _ => ⟨by omega, by omega⟩, fun i _ _ => ⟨by omega, by omega⟩, fun w _ _ => by omega, fun k _ _ => ⟨by omega, by omega⟩⟩
