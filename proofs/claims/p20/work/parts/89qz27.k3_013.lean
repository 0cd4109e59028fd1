def Tbl (M : Mm) (t : Int) : Int → Int → List Cz → Prop
  | _, _, [] => True
  | i, a, c :: l => (Tyc c ∧ Ent M t i a c) ∧ Tbl M t (i + 1) (a + ((row1 c).length : Int)) l
