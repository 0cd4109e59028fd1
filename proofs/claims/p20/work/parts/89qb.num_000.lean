theorem nvl_s {b : Int → Int} {q a : Int} (h : q ≤ a) : nvl b q (a + 1 - q).toNat = 10 * nvl b q (a - q).toNat + (b a - 48) := by
  rw [show (a + 1 - q).toNat = (a - q).toNat + 1 by omega]
  show 10 * nvl b q (a - q).toNat + (b (q + (((a - q).toNat : Nat) : Int)) - 48) = _
  rw [show q + (((a - q).toNat : Nat) : Int) = a by omega]
