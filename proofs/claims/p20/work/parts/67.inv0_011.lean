theorem rowv_ne {S : Sh} {v : Int} (h : rowv S v) : v ≠ -1 := by
  rcases h with h | h
  · omega
  · have := h.1.1; omega
