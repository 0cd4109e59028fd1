theorem rlen.new {S : Sh} {v : Int} (h : rowv S v) (ci n : Nat) : rlen (newS S ci n) v = rlen S v := by
  rcases h with h | ⟨h1, h2, h3⟩
  · rw [rlen, rlen, if_pos h, if_pos h]
  · obtain ⟨q0, q1, q2⟩ := h1
    have e : ¬ v = (S.1 : Int) := by omega
    have e2 : ¬ v = -2 := by omega
    rw [rlen, rlen, if_neg e2, if_neg e2]
    show (((if v = (S.1 : Int) then n else S.2.2 v) : Nat) : Int) = _
    rw [if_neg e]
