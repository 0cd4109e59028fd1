theorem dEnd_r : ∀ h : Nat, h ≤ 5 → dEnd h ≤ 3 ∧ (h = 1 → dEnd h = 2) ∧ (h = 2 → dEnd h = 2) ∧ (h = 4 → dEnd h = 2) := by
  intro h hh
  rcases (show h = 0 ∨ h = 1 ∨ h = 2 ∨ h = 3 ∨ h = 4 ∨ h = 5 by omega) with e | e | e | e | e | e <;> subst e <;> decide
