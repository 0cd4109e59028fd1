theorem RQ.len {M : Mm} {R : List Int} (h : RQ M R) (h0 : 0 ≤ M 339 (M 336 11)) : M 339 (M 336 11) = (R.length : Int) := by
  have z := congrArg List.length h
  rw [rl_len, List.length_map] at z
  omega
