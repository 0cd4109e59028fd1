theorem bd_u {c : Nat} {b : Int × Int} (h : bT.getD c [] = [b]) (p : Nat) : bd c p = b := by
  unfold bd
  rw [h]
  simp [Nat.mod_one]
