theorem zl_spot {S : Sh} {m : Mm} {K : Int → Mm → Prop} {a b : Int} (a0 : 0 ≤ a) (a1 : a ≤ 12) (b0 : -400 ≤ b) (b1 : b ≤ 400) (h : K (301 * a + b) m) : wp_X12_spot S m a b K := by
  refine u_X12_spot ?_
  refine g_C ?_
  refine g_M (by omega) (by omega) ?_
  refine g_A (by omega) (by omega) ?_
  exact h
theorem zl_speed {X : Mm} {S : Sh} {m : Mm} {K : Int → Mm → Prop} {h : Int} (hS : Shp S) (hm : Inv X S m) (h0 : 0 ≤ h) (h1 : h ≤ 4) (hk : 0 ≤ m 346 (13 + 5 * h) → m 346 (13 + 5 * h) ≤ 20 → K (m 346 (13 + 5 * h)) m) : wp_X12_handOf S m 336 h 3 K := by
  have q : ∀ n : Nat, n < 5 → 13 + 5 * n < pT.getD 346 0 ∧ bd 346 (13 + 5 * n) = (0, 20) := by decide +kernel
  obtain ⟨q1, q2⟩ := q h.toNat (by omega)
  have q3 := hm.rd 346 (13 + 5 * h.toNat) 0 20 (by decide) q1 q2 (by decide)
  rw [show ((346 : Nat) : Int) = 346 from rfl, show ((13 + 5 * h.toNat : Nat) : Int) = 13 + 5 * h by omega] at q3
  refine u_X12_handOf ?_
  refine g_getr 20 346 rfl hS.k336 hm.f_336_20 (by decide) ?_
  refine g_C ?_
  refine g_C ?_
  refine g_M (by omega) (by omega) ?_
  refine g_A (by omega) (by omega) ?_
  refine g_A (by omega) (by omega) ?_
  refine g_ldu hS.k346 hS.l346 (by omega) (by omega) (fun v ev => ?_)
  rw [ev, show 10 + 5 * h + 3 = 13 + 5 * h by omega]
  exact hk q3.1 q3.2
