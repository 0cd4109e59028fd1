/-- signs a .. b of row t are good postfix -/
def pfr (X : Mm) (t a b : Int) : Prop := 0 ≤ a ∧ a < b ∧ b ≤ 400 ∧ pfx X t (b - a).toNat a 0
