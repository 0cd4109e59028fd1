theorem nvl_0 {b : Int → Int} {q : Int} : nvl b q (q - q).toNat = 0 := by
  rw [show (q - q).toNat = 0 by omega]
  rfl
