/-- the signs of row t from i on (so many) bring the stack from depth d to 1 -/
def pfx (X : Mm) (t : Int) : Nat → Int → Int → Prop
  | 0, _, d => d = 1
  | n + 1, i, d => (iAnd (X 338 (400 * t + i)) 15 = 0 ∧ d < 64 ∧ pfx X t n (i + 1) (d + 1)) ∨ (iAnd (X 338 (400 * t + i)) 15 = 1 ∧ 0 ≤ iShr (X 338 (400 * t + i)) 4 ∧ iShr (X 338 (400 * t + i)) 4 ≤ 9 ∧ d < 64 ∧ pfx X t n (i + 1) (d + 1)) ∨ (iAnd (X 338 (400 * t + i)) 15 = 11 ∧ 1 ≤ d ∧ pfx X t n (i + 1) d) ∨ (¬ iAnd (X 338 (400 * t + i)) 15 = 0 ∧ ¬ iAnd (X 338 (400 * t + i)) 15 = 1 ∧ ¬ iAnd (X 338 (400 * t + i)) 15 = 11 ∧ 2 ≤ d ∧ pfx X t n (i + 1) (d - 1))
