def rowv (S : Sh) (v : Int) : Prop := v = -2 ∨ (isK S v 14 ∧ S.2.2 v ≤ 399 ∧ 358 ≤ v)
