theorem ini_bd {c p : Nat} (hc : c < 358) : okb (bd c p) (ini c p) := by
  obtain ⟨h1, h2⟩ := ck_len c hc
  have hq := Nat.mod_lt p h1
  have e1 : bd c p = bd c (p % (bT.getD c []).length) := by
    unfold bd
    rw [Nat.mod_mod]
  have e2 : ini c p = ini c (p % (bT.getD c []).length) := by
    unfold ini
    rcases h2 with h2 | h2
    · rw [h2, Nat.mod_one, Nat.mod_one]
    · rw [h2, Nat.mod_mod]
  rw [e1, e2]
  exact ck_ini c hc _ hq
