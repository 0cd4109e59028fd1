theorem dFull_ud {D : Dd} {c v : Int} {h : Nat} (hh : h ≤ 5) (hc : ¬ (3 ≤ c ∧ c ≤ 9)) (nf : ¬ dFull D h) : ¬ dFull (ud D c v) h := by
  rcases (show h = 0 ∨ h = 1 ∨ h = 2 ∨ h = 3 ∨ h = 4 ∨ h = 5 by omega) with e | e | e | e | e | e <;> subst e
  · exact fun z => z
  · exact fun z => nf ((ud_ne (D := D) (c := c) (v := v) (p := 3) (by omega)).symm.trans z)
  · exact fun z => nf ((ud_ne (D := D) (c := c) (v := v) (p := 4) (by omega)).symm.trans z)
  · exact fun z => nf ((ud_ne (D := D) (c := c) (v := v) (p := 5) (by omega)).symm.trans z)
  · exact fun z => nf ((ud_ne (D := D) (c := c) (v := v) (p := 9) (by omega)).symm.trans z)
  · exact fun z => nf ((ud_ne (D := D) (c := c) (v := v) (p := 6) (by omega)).symm.trans z)
