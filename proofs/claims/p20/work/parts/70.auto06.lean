theorem z_X9_turnedByTurns {X : Mm} {S : Sh} {m0 : Mm} {K : Int → Mm → Prop} {u1 u2 u3 : Int} (hS : Shp S) (hm0 : Inv X S m0) (l_u1 : 0 ≤ u1) (h_u1 : u1 ≤ 4) (l_u2 : 1 ≤ u2) (h_u2 : u2 ≤ 10) (l_u3 : 0 ≤ u3) (h_u3 : u3 ≤ 1023) (hk : ∀ (r : Int) (M1 : Mm), Inv X S M1 → 0 ≤ r → r ≤ 999 → K r M1) : wp_X9_turnedByTurns S m0 66 u1 u2 u3 K := by
  refine u_X9_turnedByTurns ?_
  refine g_getr 1 55 rfl hS.k66 hm0.f_66_1 (by decide) ?_
  refine g_C ?_
  refine g_C ?_
  refine g_getr 0 3 rfl hS.k66 hm0.f_66_0 (by decide) ?_
  refine g_getr 1 16 rfl hS.k3 hm0.f_3_1 (by decide) ?_
  refine g_get 0 (0) (999) rfl hS.k16 hm0.f_16_0 (fun v1 ev1 bv1 cv1 => ?_)
  refine ⟨hS.k55, ?_⟩
  refine u_X10_suppose ?_
  refine g_put 4 rfl hS.k55 (hm0.w_55_4 (by omega) (by omega)) (fun m2 em2 hm2 => ?_)
  refine g_put 5 rfl hS.k55 (hm2.w_55_5 (by omega) (by omega)) (fun m3 em3 hm3 => ?_)
  refine g_put 6 rfl hS.k55 (hm3.w_55_6 (by omega) (by omega)) (fun m4 em4 hm4 => ?_)
  refine g_C ?_
  refine g_put 7 rfl hS.k55 (hm4.w_55_7 (by omega) (by omega)) (fun m5 em5 hm5 => ?_)
  refine g_put 8 rfl hS.k55 (hm5.w_55_8 (by omega) (by omega)) (fun m6 em6 hm6 => ?_)
  refine g_C ?_
  refine g_put 10 rfl hS.k55 (hm6.w_55_10 (by omega) (by omega)) (fun m7 em7 hm7 => ?_)
  refine g_C ?_
  refine g_put 11 rfl hS.k55 (hm7.w_55_11 (by omega) (by omega)) (fun m8 em8 hm8 => ?_)
  refine g_getr 1 55 rfl hS.k66 hm8.f_66_1 (by decide) ?_
  refine g_getr 0 3 rfl hS.k66 hm8.f_66_0 (by decide) ?_
  refine g_getr 1 16 rfl hS.k3 hm8.f_3_1 (by decide) ?_
  refine g_getr 4 19 rfl hS.k16 hm8.f_16_4 (by decide) ?_
  refine g_ld (0) (99) hS.k19 hS.l19 (by omega) (by omega) (hm8.a_19 (by omega) (by omega)) (fun v9 ev9 bv9 cv9 => ?_)
  refine g_put 7 rfl hS.k55 (hm8.w_55_7 (by omega) (by omega)) (fun m10 em10 hm10 => ?_)
  refine g_C ?_
  have L_n_l301 : ∀ (n_l301 : Nat) (u15 : Int) (m16 : Mm), Inv X S m16 → 0 ≤ u15 → u15 ≤ 10 → 11 - u15 ≤ (n_l301 : Int) → wp_X9_turnedByTurns_42 S K n_l301 66 u1 u2 u3 u15 m16 := by
    intro n_l301
    induction n_l301 with
    | zero => intro u15 m16 hm16 bu15 cu15 zn_l301; exfalso; omega
    | succ n_l301 ih_n_l301 =>
      intro u15 m16 hm16 bu15 cu15 zn_l301
      refine u_X9_turnedByTurns_42 ?_
      refine g_if (fun w302 => ?_) (fun w302 => ?_)
      · refine g_getr 1 55 rfl hS.k66 hm16.f_66_1 (by decide) ?_
        refine g_get 6 (0) (999) rfl hS.k55 hm16.f_55_6 (fun v303 ev303 bv303 cv303 => ?_)
        exact hk v303 m16 hm16 (by omega) (by omega)
      · refine g_getr 1 55 rfl hS.k66 hm16.f_66_1 (by decide) ?_
        refine g_getr 0 3 rfl hS.k66 hm16.f_66_0 (by decide) ?_
        refine g_getr 1 16 rfl hS.k3 hm16.f_3_1 (by decide) ?_
        refine g_getr 3 18 rfl hS.k16 hm16.f_16_3 (by decide) ?_
        refine g_ld (0) (5) hS.k18 hS.l18 (by omega) (by omega) (hm16.a_18 (by omega) (by omega)) (fun v304 ev304 bv304 cv304 => ?_)
        refine g_if (fun w305 => ?_) (fun w305 => ?_)
        · refine g_C ?_
          refine u_X9_turnedByTurns_74 ?_
          refine g_put 10 rfl hS.k55 (hm16.w_55_10 (by omega) (by omega)) (fun m306 em306 hm306 => ?_)
          refine g_iShr (by omega) (by omega) (fun v307 bv307 cv307 => ?_)
          refine g_C ?_
          refine g_iAndR (by omega) (by omega) (fun v308 dv308 bv308 cv308 => ?_)
          refine g_C ?_
          refine g_if (fun w309 => ?_) (fun w309 => ?_)
          · refine g_getr 1 55 rfl hS.k66 hm306.f_66_1 (by decide) ?_
            refine ⟨hS.k55, ?_⟩
            refine u_X10_restAnHour ?_
            refine g_C ?_
            refine g_get 7 (0) (99) rfl hS.k55 hm306.f_55_7 (fun v310 ev310 bv310 cv310 => ?_)
            refine g_C ?_
            refine g_S (by omega) (by omega) ?_
            refine g_max (fun v311 bv311 cv311 dv311 => ?_)
            refine g_put 7 rfl hS.k55 (hm306.w_55_7 (by omega) (by omega)) (fun m312 em312 hm312 => ?_)
            refine g_C ?_
            refine g_get 8 (0) (999) rfl hS.k55 hm312.f_55_8 (fun v313 ev313 bv313 cv313 => ?_)
            refine g_C ?_
            refine g_A (by omega) (by omega) ?_
            refine g_min (fun v314 bv314 cv314 dv314 => ?_)
            refine g_put 8 rfl hS.k55 (hm312.w_55_8 (by omega) (by omega)) (fun m315 em315 hm315 => ?_)
            refine u_X9_turnedByTurns_105 ?_
            refine g_A (by omega) (by omega) ?_
            exact ih_n_l301 (u15 + 1) m315 hm315 (by omega) (by omega) (by omega)
          · refine g_getr 1 55 rfl hS.k66 hm306.f_66_1 (by decide) ?_
            refine g_C ?_
            refine ⟨hS.k55, ?_⟩
            refine z_X10_holdFor hS hm306 (by omega) (by omega) (fun m316 hm316 => ?_)
            refine u_X9_turnedByTurns_105 ?_
            refine g_A (by omega) (by omega) ?_
            exact ih_n_l301 (u15 + 1) m316 hm316 (by omega) (by omega) (by omega)
        · refine g_C ?_
          refine u_X9_turnedByTurns_74 ?_
          refine g_put 10 rfl hS.k55 (hm16.w_55_10 (by omega) (by omega)) (fun m317 em317 hm317 => ?_)
          refine g_iShr (by omega) (by omega) (fun v318 bv318 cv318 => ?_)
          refine g_C ?_
          refine g_iAndR (by omega) (by omega) (fun v319 dv319 bv319 cv319 => ?_)
          refine g_C ?_
          refine g_if (fun w320 => ?_) (fun w320 => ?_)
          · refine g_getr 1 55 rfl hS.k66 hm317.f_66_1 (by decide) ?_
            refine ⟨hS.k55, ?_⟩
            refine u_X10_restAnHour ?_
            refine g_C ?_
            refine g_get 7 (0) (99) rfl hS.k55 hm317.f_55_7 (fun v321 ev321 bv321 cv321 => ?_)
            refine g_C ?_
            refine g_S (by omega) (by omega) ?_
            refine g_max (fun v322 bv322 cv322 dv322 => ?_)
            refine g_put 7 rfl hS.k55 (hm317.w_55_7 (by omega) (by omega)) (fun m323 em323 hm323 => ?_)
            refine g_C ?_
            refine g_get 8 (0) (999) rfl hS.k55 hm323.f_55_8 (fun v324 ev324 bv324 cv324 => ?_)
            refine g_C ?_
            refine g_A (by omega) (by omega) ?_
            refine g_min (fun v325 bv325 cv325 dv325 => ?_)
            refine g_put 8 rfl hS.k55 (hm323.w_55_8 (by omega) (by omega)) (fun m326 em326 hm326 => ?_)
            refine u_X9_turnedByTurns_105 ?_
            refine g_A (by omega) (by omega) ?_
            exact ih_n_l301 (u15 + 1) m326 hm326 (by omega) (by omega) (by omega)
          · refine g_getr 1 55 rfl hS.k66 hm317.f_66_1 (by decide) ?_
            refine g_C ?_
            refine ⟨hS.k55, ?_⟩
            refine z_X10_holdFor hS hm317 (by omega) (by omega) (fun m327 hm327 => ?_)
            refine u_X9_turnedByTurns_105 ?_
            refine g_A (by omega) (by omega) ?_
            exact ih_n_l301 (u15 + 1) m327 hm327 (by omega) (by omega) (by omega)
  exact ⟨11, L_n_l301 11 0 m10 hm10 (by omega) (by omega) (by omega)⟩
