def bd (c p : Nat) : Int × Int := (bT.getD c []).getD (p % (bT.getD c []).length) (1, 0)
