theorem z_X12_power {X : Mm} {S : Sh} {m0 : Mm} {K : Int → Mm → Prop} {u0 u1 : Int} (hS : Shp S) (hm0 : Inv X S m0) (l_u0 : 0 ≤ u0) (h_u0 : u0 ≤ 5) (l_u1 : (-6) ≤ u1) (h_u1 : u1 ≤ 6) (p0 : 1 ≤ u0 ∨ u1 ≤ 0) (hk : ∀ (r : Int), 1 ≤ r → r ≤ 15625 → K r m0) : wp_X12_power S m0 u0 u1 K := by
  have p5 : ∀ j : Nat, j ≤ 6 → (5 : Int) ^ j ≤ 15625 := by decide
  refine u_X12_power ?_
  refine g_C ?_
  refine g_C ?_
  have L : ∀ (n : Nat) (v k : Int), 0 ≤ k → (k ≤ u1 ∨ k = 0) → 1 ≤ v → v ≤ 5 ^ k.toNat → 7 - k ≤ (n : Int) → wp_X12_power_4 S K n u0 u1 v k m0 := by
    intro n
    induction n with
    | zero => intro v k a1 a2 a3 a4 a5; exfalso; omega
    | succ n ih =>
      intro v k a1 a2 a3 a4 a5
      refine u_X12_power_4 ?_
      have a6 := p5 k.toNat (by omega)
      refine g_if (fun w => hk v a3 (by omega)) (fun w => ?_)
      have q : v * u0 ≤ 5 ^ k.toNat * 5 := Int.mul_le_mul a4 h_u0 l_u0 (by omega)
      have q1 : 1 * 1 ≤ v * u0 := Int.mul_le_mul a3 (by omega) (by decide) (by omega)
      have e : (k + 1).toNat = k.toNat + 1 := by omega
      have q2 : (5 : Int) ^ (k + 1).toNat = 5 ^ k.toNat * 5 := by rw [e, Int.pow_succ]
      have a7 := p5 (k + 1).toNat (by omega)
      refine g_M (by omega) (by omega) ?_
      refine g_A (by omega) (by omega) ?_
      exact ih (v * u0) (k + 1) (by omega) (by omega) (by omega) (by omega) (by omega)
  exact ⟨7, L 7 1 0 (by omega) (by omega) (by omega) (by decide) (by omega)⟩
theorem z_X12_payBy {X : Mm} {S : Sh} {m0 : Mm} {K : Int → Mm → Prop} {u1 : Int} (hS : Shp S) (hm0 : Inv X S m0) (l_u1 : 1 ≤ u1) (h_u1 : u1 ≤ 15624) (hk : ∀ (r : Int), (-2147483648) ≤ r → r ≤ 2147483647 → K r m0) : wp_X12_payBy S m0 336 u1 K := by
  refine u_X12_payBy ?_
  refine g_C ?_
  refine g_C ?_
  refine g_C ?_
  have L_n_l400 : ∀ (n_l400 : Nat) (u3 : Int) (u4 : Int) (u5 : Int), 0 ≤ u3 → u3 ≤ 15 → (-2147483648) ≤ u4 → u4 ≤ 2147483647 → 0 ≤ u5 → u5 ≤ 6 → 7 - u5 ≤ (n_l400 : Int) → wp_X12_payBy_7 S K n_l400 336 u1 u3 u4 u5 m0 := by
    intro n_l400
    induction n_l400 with
    | zero => intro u3 u4 u5 bu3 cu3 bu4 cu4 bu5 cu5 zn_l400; exfalso; omega
    | succ n_l400 ih_n_l400 =>
      intro u3 u4 u5 bu3 cu3 bu4 cu4 bu5 cu5 zn_l400
      refine u_X12_payBy_7 ?_
      refine g_getr 20 346 rfl hS.k336 hm0.f_336_20 (by decide) ?_
      refine g_C ?_
      refine g_ld (0) (6) hS.k346 hS.l346 (by omega) (by omega) (hm0.f_346_6) (fun v401 ev401 bv401 cv401 => ?_)
      refine g_if (fun w402 => ?_) (fun w402 => ?_)
      · exact hk u4 (by omega) (by omega)
      · refine ⟨hS.k336, ?_⟩
        refine u_X12_jugIn ?_
        refine g_getr 20 346 rfl hS.k336 hm0.f_336_20 (by decide) ?_
        refine g_C ?_
        refine g_ld (0) (4) hS.k346 hS.l346 (by omega) (by omega) (hm0.f_346_5) (fun v403 ev403 bv403 cv403 => ?_)
        refine g_C ?_
        refine g_A (by omega) (by omega) ?_
        refine g_getr 20 346 rfl hS.k336 hm0.f_336_20 (by decide) ?_
        refine g_C ?_
        refine g_ld (0) (6) hS.k346 hS.l346 (by omega) (by omega) (hm0.f_346_6) (fun v404 ev404 bv404 cv404 => ?_)
        have qv404 : v404 = v401 := (ev404.trans (hm0.g (by decide))).trans ((ev401.trans (hm0.g (by decide))).symm)
        refine g_C ?_
        refine g_S (by omega) (by omega) ?_
        refine g_S (by omega) (by omega) ?_
        refine z_X12_power hS hm0 (by omega) (by omega) (by omega) (by omega) (by omega) (fun v405 bv405 cv405 => ?_)
        refine g_iDiv (by omega) (by omega) (by omega) (by omega) (fun v406 bv406 cv406 => ?_)
        refine g_getr 20 346 rfl hS.k336 hm0.f_336_20 (by decide) ?_
        refine g_C ?_
        refine g_ld (0) (4) hS.k346 hS.l346 (by omega) (by omega) (hm0.f_346_5) (fun v407 ev407 bv407 cv407 => ?_)
        have qv407 : v407 = v403 := (ev407.trans (hm0.g (by decide))).trans ((ev403.trans (hm0.g (by decide))).symm)
        refine g_C ?_
        refine g_A (by omega) (by omega) ?_
        refine g_iRem (by omega) (by omega) (by omega) (by omega) (fun v408 bv408 cv408 => ?_)
        refine g_C ?_
        refine g_S (by omega) (by omega) ?_
        refine g_if (fun w409 => ?_) (fun w409 => ?_)
        · refine g_getr 20 346 rfl hS.k336 hm0.f_336_20 (by decide) ?_
          refine g_C ?_
          refine g_A (by omega) (by omega) ?_
          refine g_ld (-2147483648) (2147483647) hS.k346 hS.l346 (by omega) (by omega) (fam_346_51_1_0_5 hm0 (a := u5) (by omega) (by omega) (by omega)) (fun v410 ev410 bv410 cv410 => ?_)
          refine g_if (fun w411 => ?_) (fun w411 => ?_)
          · refine g_C ?_
            exact hk (-1) (by omega) (by omega)
          · refine g_C ?_
            refine ⟨hS.k336, ?_⟩
            refine u_X12_jugOf ?_
            refine g_getr 20 346 rfl hS.k336 hm0.f_336_20 (by decide) ?_
            refine g_C ?_
            refine g_C ?_
            refine g_M (by omega) (by omega) ?_
            refine g_A (by omega) (by omega) ?_
            refine g_A (by omega) (by omega) ?_
            refine g_ld (0) (1) hS.k346 hS.l346 (by omega) (by omega) (fam_346_34_4_1_4 hm0 (a := v408) (by omega) (by omega) (by omega)) (fun v412 ev412 bv412 cv412 => ?_)
            refine g_C ?_
            refine g_if (fun w413 => ?_) (fun w413 => ?_)
            · refine g_C ?_
              exact hk (-1) (by omega) (by omega)
            · refine u_X12_isOf ?_
              refine g_iShr (by omega) (by omega) (fun v414 bv414 cv414 => ?_)
              refine g_C ?_
              refine g_iAndR (by omega) (by omega) (fun v415 dv415 bv415 cv415 => ?_)
              refine g_C ?_
              refine g_if (fun w416 => ?_) (fun w416 => ?_)
              · refine g_C ?_
                refine ⟨by omega, ?_⟩
                refine g_ifF (by omega) ?_
                refine g_C ?_
                refine ⟨hS.k336, ?_⟩
                refine u_X12_jugOf ?_
                refine g_getr 20 346 rfl hS.k336 hm0.f_336_20 (by decide) ?_
                refine g_C ?_
                refine g_C ?_
                refine g_M (by omega) (by omega) ?_
                refine g_A (by omega) (by omega) ?_
                refine g_A (by omega) (by omega) ?_
                refine g_ld (-2147483648) (2147483647) hS.k346 hS.l346 (by omega) (by omega) (fam_346_33_4_1_4 hm0 (a := v408) (by omega) (by omega) (by omega)) (fun v417 ev417 bv417 cv417 => ?_)
                refine g_C ?_
                refine g_C ?_
                refine ⟨hS.k336, ?_⟩
                refine u_X12_wantOf ?_
                refine g_getr 20 346 rfl hS.k336 hm0.f_336_20 (by decide) ?_
                refine g_C ?_
                refine g_C ?_
                refine g_M (by omega) (by omega) ?_
                refine g_A (by omega) (by omega) ?_
                refine g_A (by omega) (by omega) ?_
                refine g_ld (0) (99) hS.k346 hS.l346 (by omega) (by omega) (fam_346_94_4_0_5 hm0 (a := u5) (by omega) (by omega) (by omega)) (fun v418 ev418 bv418 cv418 => ?_)
                refine g_C ?_
                refine g_C ?_
                refine ⟨hS.k336, ?_⟩
                refine u_X12_wantOf ?_
                refine g_getr 20 346 rfl hS.k336 hm0.f_336_20 (by decide) ?_
                refine g_C ?_
                refine g_C ?_
                refine g_M (by omega) (by omega) ?_
                refine g_A (by omega) (by omega) ?_
                refine g_A (by omega) (by omega) ?_
                refine g_ld (0) (99) hS.k346 hS.l346 (by omega) (by omega) (fam_346_95_4_0_5 hm0 (a := u5) (by omega) (by omega) (by omega)) (fun v419 ev419 bv419 cv419 => ?_)
                refine g_C ?_
                refine z_in (fun aw420 bw420 => ?_) (fun cw420 => ?_)
                · refine g_ifT (by omega) ?_
                  refine g_C ?_
                  refine g_iShl 3 (by omega) (by omega) (by decide) (fun v421 bv421 cv421 => ?_)
                  refine g_iOr 4 (by omega) (by omega) (by omega) (by omega) (by decide) (fun v422 bv422 cv422 => ?_)
                  refine g_C ?_
                  refine ⟨hS.k336, ?_⟩
                  refine u_X12_wantOf ?_
                  refine g_getr 20 346 rfl hS.k336 hm0.f_336_20 (by decide) ?_
                  refine g_C ?_
                  refine g_C ?_
                  refine g_M (by omega) (by omega) ?_
                  refine g_A (by omega) (by omega) ?_
                  refine g_A (by omega) (by omega) ?_
                  refine g_ld (0) (50) hS.k346 hS.l346 (by omega) (by omega) (fam_346_96_4_0_5 hm0 (a := u5) (by omega) (by omega) (by omega)) (fun v423 ev423 bv423 cv423 => ?_)
                  refine g_Aw (fun v424 bv424 cv424 => ?_)
                  refine u_X12_payBy_118 ?_
                  refine g_A (by omega) (by omega) ?_
                  exact ih_n_l400 v422 v424 (u5 + 1) (by omega) (by omega) (by omega) (by omega) (by omega) (by omega) (by omega)
                · refine g_ifF (by omega) ?_
                  refine g_C ?_
                  exact hk (-1) (by omega) (by omega)
              · refine g_C ?_
                refine ⟨by omega, ?_⟩
                refine g_ifT (by omega) ?_
                refine g_C ?_
                exact hk (-1) (by omega) (by omega)
        · refine u_X12_payBy_118 ?_
          refine g_A (by omega) (by omega) ?_
          exact ih_n_l400 u3 u4 (u5 + 1) (by omega) (by omega) (by omega) (by omega) (by omega) (by omega) (by omega)
  exact ⟨7, L_n_l400 7 0 0 0 (by omega) (by omega) (by omega) (by omega) (by omega) (by omega) (by omega)⟩
theorem z_X12_match {X : Mm} {S : Sh} {m0 : Mm} {K : Int → Mm → Prop} {u1 : Int} (hS : Shp S) (hm0 : Inv X S m0) (l_u1 : (-2147483648) ≤ u1) (h_u1 : u1 ≤ 2147483647) (hk : ∀ (r : Int), (-3) ≤ r → r ≤ 2147483647 → K r m0) : wp_X12_match S m0 336 u1 K := by
  refine u_X12_match ?_
  refine ⟨hS.k336, ?_⟩
  refine u_X12_isDairy ?_
  refine g_getr 20 346 rfl hS.k336 hm0.f_336_20 (by decide) ?_
  refine g_C ?_
  refine g_ld (0) (6) hS.k346 hS.l346 (by omega) (by omega) (hm0.f_346_0) (fun v1 ev1 bv1 cv1 => ?_)
  refine g_if (fun w2 => ?_) (fun w2 => ?_)
  · refine g_C ?_
    refine ⟨by omega, ?_⟩
    refine g_ifT (by omega) ?_
    refine g_C ?_
    exact hk (-3) (by omega) (by omega)
  · refine g_C ?_
    refine ⟨by omega, ?_⟩
    refine g_ifF (by omega) ?_
    refine g_C ?_
    refine g_C ?_
    refine g_C ?_
    refine z_in (fun aw3 bw3 => ?_) (fun cw3 => ?_)
    · refine g_ifT (by omega) ?_
      refine g_C ?_
      refine g_C ?_
      refine g_C ?_
      have L_n_l355 : ∀ (n_l355 : Nat) (u6 : Int) (u7 : Int) (u8 : Int), 0 ≤ u6 → u6 ≤ 65536 → 0 ≤ u7 → u7 ≤ 2147483647 → 1 ≤ u8 → u8 ≤ 15625 → 15626 - u8 ≤ (n_l355 : Int) → wp_X12_match_29 S K n_l355 336 u1 u6 u7 u8 m0 := by
        intro n_l355
        induction n_l355 with
        | zero => intro u6 u7 u8 bu6 cu6 bu7 cu7 bu8 cu8 zn_l355; exfalso; omega
        | succ n_l355 ih_n_l355 =>
          intro u6 u7 u8 bu6 cu6 bu7 cu7 bu8 cu8 zn_l355
          refine u_X12_match_29 ?_
          refine g_getr 20 346 rfl hS.k336 hm0.f_336_20 (by decide) ?_
          refine g_C ?_
          refine g_ld (0) (4) hS.k346 hS.l346 (by omega) (by omega) (hm0.f_346_5) (fun v356 ev356 bv356 cv356 => ?_)
          refine g_C ?_
          refine g_A (by omega) (by omega) ?_
          refine g_getr 20 346 rfl hS.k336 hm0.f_336_20 (by decide) ?_
          refine g_C ?_
          refine g_ld (0) (6) hS.k346 hS.l346 (by omega) (by omega) (hm0.f_346_6) (fun v357 ev357 bv357 cv357 => ?_)
          refine z_X12_power hS hm0 (by omega) (by omega) (by omega) (by omega) (by omega) (fun v358 bv358 cv358 => ?_)
          refine g_if (fun w359 => ?_) (fun w359 => ?_)
          · refine g_if (fun w360 => ?_) (fun w360 => ?_)
            · refine g_getr 20 346 rfl hS.k336 hm0.f_336_20 (by decide) ?_
              refine g_C ?_
              refine g_ld (0) (6) hS.k346 hS.l346 (by omega) (by omega) (hm0.f_346_6) (fun v361 ev361 bv361 cv361 => ?_)
              have qv361 : v361 = v357 := (ev361.trans (hm0.g (by decide))).trans ((ev357.trans (hm0.g (by decide))).symm)
              refine g_if (fun w362 => ?_) (fun w362 => ?_)
              · refine g_C ?_
                refine g_S (by omega) (by omega) ?_
                refine ⟨hS.k336, ?_⟩
                refine u_X12_jugIn ?_
                refine g_getr 20 346 rfl hS.k336 hm0.f_336_20 (by decide) ?_
                refine g_C ?_
                refine g_ld (0) (4) hS.k346 hS.l346 (by omega) (by omega) (hm0.f_346_5) (fun v363 ev363 bv363 cv363 => ?_)
                have qv363 : v363 = v356 := (ev363.trans (hm0.g (by decide))).trans ((ev356.trans (hm0.g (by decide))).symm)
                refine g_C ?_
                refine g_A (by omega) (by omega) ?_
                refine g_getr 20 346 rfl hS.k336 hm0.f_336_20 (by decide) ?_
                refine g_C ?_
                refine g_ld (0) (6) hS.k346 hS.l346 (by omega) (by omega) (hm0.f_346_6) (fun v364 ev364 bv364 cv364 => ?_)
                have qv364 : v364 = v357 := (ev364.trans (hm0.g (by decide))).trans ((ev357.trans (hm0.g (by decide))).symm)
                refine g_C ?_
                refine g_S (by omega) (by omega) ?_
                refine g_S (by omega) (by omega) ?_
                refine z_X12_power hS hm0 (by omega) (by omega) (by omega) (by omega) (by omega) (fun v365 bv365 cv365 => ?_)
                refine g_iDiv (by omega) (by omega) (by omega) (by omega) (fun v366 bv366 cv366 => ?_)
                refine g_getr 20 346 rfl hS.k336 hm0.f_336_20 (by decide) ?_
                refine g_C ?_
                refine g_ld (0) (4) hS.k346 hS.l346 (by omega) (by omega) (hm0.f_346_5) (fun v367 ev367 bv367 cv367 => ?_)
                have qv367 : v367 = v356 := (ev367.trans (hm0.g (by decide))).trans ((ev356.trans (hm0.g (by decide))).symm)
                refine g_C ?_
                refine g_A (by omega) (by omega) ?_
                refine g_iRem (by omega) (by omega) (by omega) (by omega) (fun v368 bv368 cv368 => ?_)
                refine g_C ?_
                refine g_S (by omega) (by omega) ?_
                exact hk (v368 - 1) (by omega) (by omega)
              · refine g_C ?_
                exact hk (-2) (by omega) (by omega)
            · exact hk u7 (by omega) (by omega)
          · refine ⟨hS.k336, ?_⟩
            refine z_X12_payBy hS hm0 (by omega) (by omega) (fun v369 bv369 cv369 => ?_)
            refine g_if (fun w370 => ?_) (fun w370 => ?_)
            · refine u_X12_match_75 ?_
              refine g_A (by omega) (by omega) ?_
              exact ih_n_l355 u8 v369 (u8 + 1) (by omega) (by omega) (by omega) (by omega) (by omega) (by omega) (by omega)
            · refine u_X12_match_75 ?_
              refine g_A (by omega) (by omega) ?_
              exact ih_n_l355 u6 u7 (u8 + 1) (by omega) (by omega) (by omega) (by omega) (by omega) (by omega) (by omega)
      exact ⟨15625, L_n_l355 15625 0 0 1 (by omega) (by omega) (by omega) (by omega) (by omega) (by omega) (by omega)⟩
    · refine g_ifF (by omega) ?_
      refine g_C ?_
      exact hk (-3) (by omega) (by omega)
theorem z_X12_probe {X : Mm} {S : Sh} {m0 : Mm} {K : Int → Mm → Prop} {u1 : Int} (hS : Shp S) (hm0 : Inv X S m0) (l_u1 : (-2147483648) ≤ u1) (h_u1 : u1 ≤ 2147483647) (hk : ∀ (r : Int) (M1 : Mm), Inv X S M1 → (-2) ≤ r → r ≤ 2147483647 → K r M1) : wp_X12_probe S m0 336 u1 K := by
  refine u_X12_probe ?_
  refine ⟨hS.k336, ?_⟩
  refine u_X12_isDairy ?_
  refine g_getr 20 346 rfl hS.k336 hm0.f_336_20 (by decide) ?_
  refine g_C ?_
  refine g_ld (0) (6) hS.k346 hS.l346 (by omega) (by omega) (hm0.f_346_0) (fun v1 ev1 bv1 cv1 => ?_)
  refine g_if (fun w2 => ?_) (fun w2 => ?_)
  · refine g_C ?_
    refine ⟨by omega, ?_⟩
    refine g_ifT (by omega) ?_
    refine g_C ?_
    exact hk (-1) m0 hm0 (by omega) (by omega)
  · refine g_C ?_
    refine ⟨by omega, ?_⟩
    refine g_ifF (by omega) ?_
    refine g_C ?_
    refine g_C ?_
    refine g_C ?_
    refine z_in (fun aw3 bw3 => ?_) (fun cw3 => ?_)
    · refine g_ifT (by omega) ?_
      refine ⟨hS.k336, ?_⟩
      refine z_X12_fitting hS hm0 (fun v4 m5 hm5 bv4 cv4 => ?_)
      refine g_if (fun w6 => ?_) (fun w6 => ?_)
      · refine g_C ?_
        refine g_C ?_
        have L_n_l106 : ∀ (n_l106 : Nat) (u10 : Int) (u11 : Int) (m12 : Mm), Inv X S m12 → 1 ≤ u10 → u10 ≤ 20 → 2 ≤ u11 → u11 ≤ 21 → 22 - u11 ≤ (n_l106 : Int) → wp_X12_probe_36 S K n_l106 336 u1 v4 u10 u11 m12 := by
          intro n_l106
          induction n_l106 with
          | zero => intro u10 u11 m12 hm12 bu10 cu10 bu11 cu11 zn_l106; exfalso; omega
          | succ n_l106 ih_n_l106 =>
            intro u10 u11 m12 hm12 bu10 cu10 bu11 cu11 zn_l106
            refine u_X12_probe_36 ?_
            refine g_C ?_
            refine g_if (fun w107 => ?_) (fun w107 => ?_)
            · refine g_if (fun w108 => ?_) (fun w108 => ?_)
              · refine ⟨hS.k336, ?_⟩
                refine z_X12_alikeBy hS hm12 (by omega) (by omega) (by omega) (by omega) (fun v109 m110 hm110 bv109 cv109 => ?_)
                exact hk v109 m110 hm110 (by omega) (by omega)
              · exact hk u10 m12 hm12 (by omega) (by omega)
            · refine ⟨hS.k336, ?_⟩
              refine z_X12_alikeBy hS hm12 (by omega) (by omega) (by omega) (by omega) (fun v111 m112 hm112 bv111 cv111 => ?_)
              refine ⟨hS.k336, ?_⟩
              refine z_X12_alikeBy hS hm112 (by omega) (by omega) (by omega) (by omega) (fun v113 m114 hm114 bv113 cv113 => ?_)
              refine g_if (fun w115 => ?_) (fun w115 => ?_)
              · refine u_X12_probe_62 ?_
                refine g_A (by omega) (by omega) ?_
                exact ih_n_l106 u10 (u11 + 1) m114 hm114 (by omega) (by omega) (by omega) (by omega) (by omega)
              · refine u_X12_probe_62 ?_
                refine g_A (by omega) (by omega) ?_
                exact ih_n_l106 u11 (u11 + 1) m114 hm114 (by omega) (by omega) (by omega) (by omega) (by omega)
        exact ⟨20, L_n_l106 20 1 2 m5 hm5 (by omega) (by omega) (by omega) (by omega) (by omega)⟩
      · refine g_C ?_
        exact hk (-2) m5 hm5 (by omega) (by omega)
    · refine g_ifF (by omega) ?_
      refine g_C ?_
      exact hk (-1) m0 hm0 (by omega) (by omega)
theorem z_X12_turnedByRow {X : Mm} {S : Sh} {m0 : Mm} {K : Int → Mm → Prop} {u1 u2 : Int} (hS : Shp S) (hm0 : Inv X S m0) (l_u1 : 0 ≤ u1) (h_u1 : u1 ≤ 3) (l_u2 : 0 ≤ u2) (h_u2 : u2 ≤ 15624) (p0 : m0 336 29 = 0 ∨ 1 ≤ m0 346 4) (hk : ∀ (r : Int) (M1 : Mm), Inv X S M1 → (∀ c p : Int, ¬ c = 344 ∧ ¬ c = 345 ∧ ¬ (c = 336 ∧ 18 ≤ p ∧ p ≤ 18) → M1 c p = m0 c p) → (-2147483648) ≤ r → r ≤ 2147483647 → K r M1) : wp_X12_turnedByRow S m0 336 u1 u2 K := by
  have Fm0 : ∀ c p : Int, ¬ c = 344 ∧ ¬ c = 345 ∧ ¬ (c = 336 ∧ 18 ≤ p ∧ p ≤ 18) → m0 c p = m0 c p := fun c p _ => rfl
  refine u_X12_turnedByRow ?_
  refine g_C ?_
  refine ⟨hS.k336, ?_⟩
  refine u_X12_jugOf ?_
  refine g_getr 20 346 rfl hS.k336 hm0.f_336_20 (by decide) ?_
  refine g_C ?_
  refine g_C ?_
  refine g_M (by omega) (by omega) ?_
  refine g_A (by omega) (by omega) ?_
  refine g_A (by omega) (by omega) ?_
  refine g_ld (-2147483648) (2147483647) hS.k346 hS.l346 (by omega) (by omega) (fam_346_37_4_0_3 hm0 (a := u1) (by omega) (by omega) (by omega)) (fun v1 ev1 bv1 cv1 => ?_)
  refine g_getr 20 346 rfl hS.k336 hm0.f_336_20 (by decide) ?_
  refine g_C ?_
  refine g_ld (-2147483648) (2147483647) hS.k346 hS.l346 (by omega) (by omega) (hm0.f_346_7) (fun v2 ev2 bv2 cv2 => ?_)
  refine g_C ?_
  have L_n_l101 : ∀ (n_l101 : Nat) (u6 : Int) (u7 : Int) (u8 : Int) (m9 : Mm), Inv X S m9 → (∀ c p : Int, ¬ c = 344 ∧ ¬ c = 345 ∧ ¬ (c = 336 ∧ 18 ≤ p ∧ p ≤ 18) → m9 c p = m0 c p) → (-2147483648) ≤ u6 → u6 ≤ 2147483647 → (-2147483648) ≤ u7 → u7 ≤ 2147483647 → 0 ≤ u8 → u8 ≤ 6 → 7 - u8 ≤ (n_l101 : Int) → wp_X12_turnedByRow_19 S K n_l101 336 u1 u2 u6 u7 u8 m9 := by
    intro n_l101
    induction n_l101 with
    | zero => intro u6 u7 u8 m9 hm9 Fm9 bu6 cu6 bu7 cu7 bu8 cu8 zn_l101; exfalso; omega
    | succ n_l101 ih_n_l101 =>
      intro u6 u7 u8 m9 hm9 Fm9 bu6 cu6 bu7 cu7 bu8 cu8 zn_l101
      refine u_X12_turnedByRow_19 ?_
      refine g_get 29 (0) (6) rfl hS.k336 hm9.f_336_29 (fun v102 ev102 bv102 cv102 => ?_)
      have qv102 : v102 = (m0 336 29) := ev102.trans ((Fm9 _ _ (by omega)).trans (Eq.refl (m0 336 29)).symm)
      refine g_if (fun w103 => ?_) (fun w103 => ?_)
      · have zb104 := hm9.f_336_29
        have q105 : m9 336 29 = (m0 336 29) := (Eq.refl (m9 336 29)).trans ((Fm9 _ _ (by omega)).trans (Eq.refl (m0 336 29)).symm)
        have zb106 := hm9.f_346_4
        have q107 : m9 346 4 = (m0 346 4) := (hm9.g (by decide)).trans (((Eq.refl (m0 346 4)).trans (hm0.g (by decide))).symm)
        exact hk u6 m9 hm9 Fm9 (by omega) (by omega)
      · refine ⟨hS.k336, ?_⟩
        refine u_X12_handIn ?_
        refine g_getr 20 346 rfl hS.k336 hm9.f_336_20 (by decide) ?_
        refine g_C ?_
        refine g_ld (0) (5) hS.k346 hS.l346 (by omega) (by omega) (hm9.f_346_4) (fun v108 ev108 bv108 cv108 => ?_)
        have qv108 : v108 = (m0 346 4) := (ev108.trans (hm9.g (by decide))).trans (((Eq.refl (m0 346 4)).trans (hm0.g (by decide))).symm)
        refine g_get 29 (0) (6) rfl hS.k336 hm9.f_336_29 (fun v109 ev109 bv109 cv109 => ?_)
        have qv109 : v109 = (m0 336 29) := ev109.trans ((Fm9 _ _ (by omega)).trans (Eq.refl (m0 336 29)).symm)
        refine g_C ?_
        refine g_S (by omega) (by omega) ?_
        refine g_S (by omega) (by omega) ?_
        have zb110 := hm9.f_336_29
        have q111 : m9 336 29 = (m0 336 29) := (Eq.refl (m9 336 29)).trans ((Fm9 _ _ (by omega)).trans (Eq.refl (m0 336 29)).symm)
        have zb112 := hm9.f_346_4
        have q113 : m9 346 4 = (m0 346 4) := (hm9.g (by decide)).trans (((Eq.refl (m0 346 4)).trans (hm0.g (by decide))).symm)
        refine z_X12_power hS hm9 (by omega) (by omega) (by omega) (by omega) (by omega) (fun v114 bv114 cv114 => ?_)
        refine g_iDiv (by omega) (by omega) (by omega) (by omega) (fun v115 bv115 cv115 => ?_)
        refine g_getr 20 346 rfl hS.k336 hm9.f_336_20 (by decide) ?_
        refine g_C ?_
        refine g_ld (0) (5) hS.k346 hS.l346 (by omega) (by omega) (hm9.f_346_4) (fun v116 ev116 bv116 cv116 => ?_)
        have qv116 : v116 = (m0 346 4) := (ev116.trans (hm9.g (by decide))).trans (((Eq.refl (m0 346 4)).trans (hm0.g (by decide))).symm)
        refine g_iRem (by omega) (by omega) (by omega) (by omega) (fun v117 bv117 cv117 => ?_)
        refine g_getr 28 350 rfl hS.k336 hm9.f_336_28 (by decide) ?_
        refine g_ld (0) (5) hS.k350 hS.l350 (by omega) (by omega) (hm9.a_350 (by omega) (by omega)) (fun v118 ev118 bv118 cv118 => ?_)
        refine g_C ?_
        refine ⟨hS.k336, ?_⟩
        refine z_X12_turnedBy hS hm9 (by omega) (by omega) (by omega) (by omega) (by omega) (by omega) (by omega) (by omega) (by omega) (by omega) (by omega) (by omega) (fun v119 m120 hm120 fm120 bv119 cv119 => ?_)
        have zb121 := hm120.f_336_29
        have zb122 := hm120.f_346_4
        have Fm120 : ∀ c p : Int, ¬ c = 344 ∧ ¬ c = 345 ∧ ¬ (c = 336 ∧ 18 ≤ p ∧ p ≤ 18) → m120 c p = m0 c p := fun c p h => (fm120 c p (by omega)).trans (Fm9 c p h)
        refine g_getr 28 350 rfl hS.k336 hm120.f_336_28 (by decide) ?_
        refine g_ld (0) (5) hS.k350 hS.l350 (by omega) (by omega) (hm120.a_350 (by omega) (by omega)) (fun v123 ev123 bv123 cv123 => ?_)
        refine g_Aw (fun v124 bv124 cv124 => ?_)
        refine g_A (by omega) (by omega) ?_
        have zb125 := hm120.f_336_29
        have q126 : m120 336 29 = (m0 336 29) := (Eq.refl (m120 336 29)).trans ((fm120 _ _ (by omega)).trans ((Fm9 _ _ (by omega)).trans (Eq.refl (m0 336 29)).symm))
        have zb127 := hm120.f_346_4
        have q128 : m120 346 4 = (m0 346 4) := (hm120.g (by decide)).trans (((Eq.refl (m0 346 4)).trans (hm0.g (by decide))).symm)
        exact ih_n_l101 v119 v124 (u8 + 1) m120 hm120 Fm120 (by omega) (by omega) (by omega) (by omega) (by omega) (by omega) (by omega)
  have zb129 := hm0.f_336_29
  have zb131 := hm0.f_346_4
  have q132 : m0 346 4 = (m0 346 4) := (hm0.g (by decide)).trans (((Eq.refl (m0 346 4)).trans (hm0.g (by decide))).symm)
  exact ⟨7, L_n_l101 7 v1 v2 0 m0 hm0 Fm0 (by omega) (by omega) (by omega) (by omega) (by omega) (by omega) (by omega)⟩
theorem z_X12_relay {X : Mm} {S : Sh} {m0 : Mm} {K : Int → Mm → Prop} {u1 u2 u3 u4 u5 : Int} (hS : Shp S) (hm0 : Inv X S m0) (l_u1 : (-2147483648) ≤ u1) (h_u1 : u1 ≤ 2147483647) (l_u2 : (-2147483648) ≤ u2) (h_u2 : u2 ≤ 2147483647) (l_u3 : (-2147483648) ≤ u3) (h_u3 : u3 ≤ 2147483647) (l_u4 : (-2147483648) ≤ u4) (h_u4 : u4 ≤ 2147483647) (l_u5 : (-2147483648) ≤ u5) (h_u5 : u5 ≤ 2147483647) (hk : ∀ (r : Int) (M1 : Mm), Inv X S M1 → (-2147483648) ≤ r → r ≤ 2147483647 → K r M1) : wp_X12_relay S m0 336 u1 u2 u3 u4 u5 K := by
  refine u_X12_relay ?_
  refine ⟨hS.k336, ?_⟩
  refine u_X12_isJug ?_
  refine g_if (fun w1 => ?_) (fun w1 => ?_)
  · refine g_C ?_
    refine ⟨by omega, ?_⟩
    refine g_ifT (by omega) ?_
    refine g_C ?_
    have zb2 := hm0.f_336_29
    have zb4 := hm0.f_346_4
    have q5 : m0 346 4 = (m0 346 4) := (hm0.g (by decide)).trans (((Eq.refl (m0 346 4)).trans (hm0.g (by decide))).symm)
    exact hk (-3) m0 hm0 (by omega) (by omega)
  · refine g_getr 20 346 rfl hS.k336 hm0.f_336_20 (by decide) ?_
    refine g_C ?_
    refine g_ld (0) (4) hS.k346 hS.l346 (by omega) (by omega) (hm0.f_346_5) (fun v6 ev6 bv6 cv6 => ?_)
    refine g_if (fun w7 => ?_) (fun w7 => ?_)
    · refine g_C ?_
      refine ⟨by omega, ?_⟩
      refine g_ifT (by omega) ?_
      refine g_C ?_
      have zb8 := hm0.f_336_29
      have zb10 := hm0.f_346_4
      have q11 : m0 346 4 = (m0 346 4) := (hm0.g (by decide)).trans (((Eq.refl (m0 346 4)).trans (hm0.g (by decide))).symm)
      exact hk (-3) m0 hm0 (by omega) (by omega)
    · refine g_C ?_
      refine ⟨by omega, ?_⟩
      refine g_ifF (by omega) ?_
      refine ⟨hS.k336, ?_⟩
      refine u_X12_stands ?_
      refine g_C ?_
      refine ⟨hS.k336, ?_⟩
      refine u_X12_jugOf ?_
      refine g_getr 20 346 rfl hS.k336 hm0.f_336_20 (by decide) ?_
      refine g_C ?_
      refine g_C ?_
      refine g_M (by omega) (by omega) ?_
      refine g_A (by omega) (by omega) ?_
      refine g_A (by omega) (by omega) ?_
      refine g_ld (-1) (4) hS.k346 hS.l346 (by omega) (by omega) (fam_346_36_4_0_3 hm0 (a := u1) (by omega) (by omega) (by omega)) (fun v12 ev12 bv12 cv12 => ?_)
      refine g_if (fun w13 => ?_) (fun w13 => ?_)
      · refine g_C ?_
        refine ⟨by omega, ?_⟩
        refine g_ifT (by omega) ?_
        refine g_C ?_
        have zb14 := hm0.f_336_29
        have zb16 := hm0.f_346_4
        have q17 : m0 346 4 = (m0 346 4) := (hm0.g (by decide)).trans (((Eq.refl (m0 346 4)).trans (hm0.g (by decide))).symm)
        exact hk (-3) m0 hm0 (by omega) (by omega)
      · refine g_C ?_
        refine ⟨hS.k336, ?_⟩
        refine u_X12_jugOf ?_
        refine g_getr 20 346 rfl hS.k336 hm0.f_336_20 (by decide) ?_
        refine g_C ?_
        refine g_C ?_
        refine g_M (by omega) (by omega) ?_
        refine g_A (by omega) (by omega) ?_
        refine g_A (by omega) (by omega) ?_
        refine g_ld (0) (1) hS.k346 hS.l346 (by omega) (by omega) (fam_346_38_4_0_3 hm0 (a := u1) (by omega) (by omega) (by omega)) (fun v18 ev18 bv18 cv18 => ?_)
        refine g_if (fun w19 => ?_) (fun w19 => ?_)
        · refine g_C ?_
          refine ⟨by omega, ?_⟩
          refine g_ifT (by omega) ?_
          refine g_C ?_
          have zb20 := hm0.f_336_29
          have zb22 := hm0.f_346_4
          have q23 : m0 346 4 = (m0 346 4) := (hm0.g (by decide)).trans (((Eq.refl (m0 346 4)).trans (hm0.g (by decide))).symm)
          exact hk (-3) m0 hm0 (by omega) (by omega)
        · refine g_C ?_
          refine ⟨by omega, ?_⟩
          refine g_ifF (by omega) ?_
          refine ⟨hS.k336, ?_⟩
          refine u_X12_isPlace ?_
          refine g_if (fun w24 => ?_) (fun w24 => ?_)
          · refine g_C ?_
            refine ⟨by omega, ?_⟩
            refine g_ifT (by omega) ?_
            refine g_C ?_
            have zb25 := hm0.f_336_29
            have zb27 := hm0.f_346_4
            have q28 : m0 346 4 = (m0 346 4) := (hm0.g (by decide)).trans (((Eq.refl (m0 346 4)).trans (hm0.g (by decide))).symm)
            exact hk (-3) m0 hm0 (by omega) (by omega)
          · refine g_getr 20 346 rfl hS.k336 hm0.f_336_20 (by decide) ?_
            refine g_C ?_
            refine g_ld (0) (6) hS.k346 hS.l346 (by omega) (by omega) (hm0.f_346_0) (fun v29 ev29 bv29 cv29 => ?_)
            refine g_if (fun w30 => ?_) (fun w30 => ?_)
            · refine g_C ?_
              refine ⟨by omega, ?_⟩
              refine g_ifT (by omega) ?_
              refine g_C ?_
              have zb31 := hm0.f_336_29
              have zb33 := hm0.f_346_4
              have q34 : m0 346 4 = (m0 346 4) := (hm0.g (by decide)).trans (((Eq.refl (m0 346 4)).trans (hm0.g (by decide))).symm)
              exact hk (-3) m0 hm0 (by omega) (by omega)
            · refine g_C ?_
              refine ⟨by omega, ?_⟩
              refine g_ifF (by omega) ?_
              refine g_C ?_
              refine g_C ?_
              refine g_C ?_
              refine z_in (fun aw35 bw35 => ?_) (fun cw35 => ?_)
              · refine g_ifF (by omega) ?_
                refine g_C ?_
                refine g_C ?_
                refine g_C ?_
                refine z_in (fun aw36 bw36 => ?_) (fun cw36 => ?_)
                · refine g_ifF (by omega) ?_
                  refine g_C ?_
                  refine g_C ?_
                  refine g_C ?_
                  refine z_in (fun aw37 bw37 => ?_) (fun cw37 => ?_)
                  · refine g_ifT (by omega) ?_
                    refine ⟨hS.k336, ?_⟩
                    have zb38 := hm0.f_336_29
                    have zb40 := hm0.f_346_4
                    have q41 : m0 346 4 = (m0 346 4) := (hm0.g (by decide)).trans (((Eq.refl (m0 346 4)).trans (hm0.g (by decide))).symm)
                    refine z_X12_fillsHours hS hm0 (by omega) (by omega) (by omega) (fun m42 hm42 fm42 ym42_0 => ?_)
                    have zb43 := hm42.f_336_29
                    have zb44 := hm42.f_346_4
                    refine g_getr 27 349 rfl hS.k336 hm42.f_336_27 (by decide) ?_
                    refine g_C ?_
                    refine ⟨hS.k336, ?_⟩
                    refine u_X12_jugOf ?_
                    refine g_getr 20 346 rfl hS.k336 hm42.f_336_20 (by decide) ?_
                    refine g_C ?_
                    refine g_C ?_
                    refine g_M (by omega) (by omega) ?_
                    refine g_A (by omega) (by omega) ?_
                    refine g_A (by omega) (by omega) ?_
                    refine g_ld (0) (5) hS.k346 hS.l346 (by omega) (by omega) (fam_346_35_4_0_3 hm42 (a := u1) (by omega) (by omega) (by omega)) (fun v45 ev45 bv45 cv45 => ?_)
                    refine g_ld (0) (99) hS.k349 hS.l349 (by omega) (by omega) (hm42.a_349 (by omega) (by omega)) (fun v46 ev46 bv46 cv46 => ?_)
                    refine g_C ?_
                    refine g_if (fun w47 => ?_) (fun w47 => ?_)
                    · refine g_C ?_
                      refine ⟨hS.k336, ?_⟩
                      refine u_X12_jugOf ?_
                      refine g_getr 20 346 rfl hS.k336 hm42.f_336_20 (by decide) ?_
                      refine g_C ?_
                      refine g_C ?_
                      refine g_M (by omega) (by omega) ?_
                      refine g_A (by omega) (by omega) ?_
                      refine g_A (by omega) (by omega) ?_
                      refine g_ld (0) (5) hS.k346 hS.l346 (by omega) (by omega) (fam_346_35_4_0_3 hm42 (a := u1) (by omega) (by omega) (by omega)) (fun v48 ev48 bv48 cv48 => ?_)
                      have qv48 : v48 = v45 := ev48.trans ev45.symm
                      refine ⟨hS.k336, ?_⟩
                      have zb49 := hm42.f_336_29
                      have q50 : m42 336 29 = (m0 336 29) := (Eq.refl (m42 336 29)).trans ((fm42 _ _ (by omega)).trans (Eq.refl (m0 336 29)).symm)
                      have zb51 := hm42.f_346_4
                      have q52 : m42 346 4 = (m0 346 4) := (hm42.g (by decide)).trans (((Eq.refl (m0 346 4)).trans (hm0.g (by decide))).symm)
                      have gfA := hm42.g (c := 346) (p := 0) (by decide)
                      have gfB := hm42.g (c := 346) (p := 5) (by decide)
                      have gfC := hm0.g (c := 346) (p := 5) (by decide)
                      have gfD := hm42.pl.1.2 u1 (by omega) (by omega)
                      have gfE : m42 346 (35 + 4 * u1 + 0) = m42 346 (35 + 4 * u1) := congrArg (m42 346) (by omega)
                      have gfF : m42 349 v48 = m42 349 v45 := congrArg (m42 349) qv48
                      refine z_X12_fillsRoads hS hm42 (by omega) (by omega) (by omega) (by omega) (by assumption) (by omega) (by omega) (fun m53 hm53 => ?_)
                      have zb54 := hm53.f_336_29
                      have zb55 := hm53.f_346_4
                      refine g_get 29 (0) (6) rfl hS.k336 hm53.f_336_29 (fun v56 ev56 bv56 cv56 => ?_)
                      have qv56 : v56 = (m53 336 29) := ev56.trans (Eq.refl (m53 336 29)).symm
                      refine g_if (fun w57 => ?_) (fun w57 => ?_)
                      · refine u_X12_relay_120 ?_
                        refine g_C ?_
                        refine g_C ?_
                        refine g_C ?_
                        refine g_C ?_
                        have L_n_l658 : ∀ (n_l658 : Nat) (u63 : Int) (u64 : Int) (u65 : Int) (u66 : Int) (m67 : Mm), Inv X S m67 → (-2147483648) ≤ u63 → u63 ≤ 2147483647 → (-1) ≤ u64 → u64 ≤ 65536 → (-2147483648) ≤ u65 → u65 ≤ 2147483647 → 0 ≤ u66 → u66 ≤ 15625 → (m67 336 29 = 0 ∨ 1 ≤ m67 346 4) → 15626 - u66 ≤ (n_l658 : Int) → wp_X12_relay_132 S K n_l658 336 u1 u3 u4 u5 u63 u64 u65 u66 m67 := by
                          intro n_l658
                          induction n_l658 with
                          | zero => intro u63 u64 u65 u66 m67 hm67 bu63 cu63 bu64 cu64 bu65 cu65 bu66 cu66 xn_l658_0 zn_l658; exfalso; omega
                          | succ n_l658 ih_n_l658 =>
                            intro u63 u64 u65 u66 m67 hm67 bu63 cu63 bu64 cu64 bu65 cu65 bu66 cu66 xn_l658_0 zn_l658
                            refine u_X12_relay_132 ?_
                            refine g_getr 20 346 rfl hS.k336 hm67.f_336_20 (by decide) ?_
                            refine g_C ?_
                            refine g_ld (0) (5) hS.k346 hS.l346 (by omega) (by omega) (hm67.f_346_4) (fun v659 ev659 bv659 cv659 => ?_)
                            have qv659 : v659 = (m0 346 4) := (ev659.trans (hm67.g (by decide))).trans (((Eq.refl (m0 346 4)).trans (hm0.g (by decide))).symm)
                            refine g_get 29 (0) (6) rfl hS.k336 hm67.f_336_29 (fun v660 ev660 bv660 cv660 => ?_)
                            have zb661 := hm67.f_336_29
                            have zb663 := hm67.f_346_4
                            have q664 : m67 346 4 = (m0 346 4) := (hm67.g (by decide)).trans (((Eq.refl (m0 346 4)).trans (hm0.g (by decide))).symm)
                            refine z_X12_power hS hm67 (by omega) (by omega) (by omega) (by omega) (by omega) (fun v665 bv665 cv665 => ?_)
                            refine g_if (fun w666 => ?_) (fun w666 => ?_)
                            · refine g_C ?_
                              refine g_if (fun w667 => ?_) (fun w667 => ?_)
                              · refine g_if (fun w668 => ?_) (fun w668 => ?_)
                                · refine u_X12_relay_250 ?_
                                  refine g_C ?_
                                  have zb669 := hm67.f_336_29
                                  have zb671 := hm67.f_346_4
                                  have q672 : m67 346 4 = (m0 346 4) := (hm67.g (by decide)).trans (((Eq.refl (m0 346 4)).trans (hm0.g (by decide))).symm)
                                  exact hk (-2) m67 hm67 (by omega) (by omega)
                                · refine g_C ?_
                                  refine g_S (by omega) (by omega) ?_
                                  refine g_get 29 (0) (6) rfl hS.k336 hm67.f_336_29 (fun v673 ev673 bv673 cv673 => ?_)
                                  have qv673 : v673 = v660 := ev673.trans ev660.symm
                                  refine g_if (fun w674 => ?_) (fun w674 => ?_)
                                  · refine g_C ?_
                                    refine g_S (by omega) (by omega) ?_
                                    refine ⟨hS.k336, ?_⟩
                                    refine u_X12_handIn ?_
                                    refine g_getr 20 346 rfl hS.k336 hm67.f_336_20 (by decide) ?_
                                    refine g_C ?_
                                    refine g_ld (0) (5) hS.k346 hS.l346 (by omega) (by omega) (hm67.f_346_4) (fun v675 ev675 bv675 cv675 => ?_)
                                    have qv675 : v675 = (m0 346 4) := (ev675.trans (hm67.g (by decide))).trans (((Eq.refl (m0 346 4)).trans (hm0.g (by decide))).symm)
                                    refine g_get 29 (0) (6) rfl hS.k336 hm67.f_336_29 (fun v676 ev676 bv676 cv676 => ?_)
                                    have qv676 : v676 = v660 := ev676.trans ev660.symm
                                    refine g_C ?_
                                    refine g_S (by omega) (by omega) ?_
                                    refine g_S (by omega) (by omega) ?_
                                    have zb677 := hm67.f_336_29
                                    have zb679 := hm67.f_346_4
                                    have q680 : m67 346 4 = (m0 346 4) := (hm67.g (by decide)).trans (((Eq.refl (m0 346 4)).trans (hm0.g (by decide))).symm)
                                    refine z_X12_power hS hm67 (by omega) (by omega) (by omega) (by omega) (by omega) (fun v681 bv681 cv681 => ?_)
                                    refine g_iDiv (by omega) (by omega) (by omega) (by omega) (fun v682 bv682 cv682 => ?_)
                                    refine g_getr 20 346 rfl hS.k336 hm67.f_336_20 (by decide) ?_
                                    refine g_C ?_
                                    refine g_ld (0) (5) hS.k346 hS.l346 (by omega) (by omega) (hm67.f_346_4) (fun v683 ev683 bv683 cv683 => ?_)
                                    have qv683 : v683 = (m0 346 4) := (ev683.trans (hm67.g (by decide))).trans (((Eq.refl (m0 346 4)).trans (hm0.g (by decide))).symm)
                                    refine g_iRem (by omega) (by omega) (by omega) (by omega) (fun v684 bv684 cv684 => ?_)
                                    have zb685 := hm67.f_336_29
                                    have zb687 := hm67.f_346_4
                                    have q688 : m67 346 4 = (m0 346 4) := (hm67.g (by decide)).trans (((Eq.refl (m0 346 4)).trans (hm0.g (by decide))).symm)
                                    exact hk v684 m67 hm67 (by omega) (by omega)
                                  · refine u_X12_relay_250 ?_
                                    refine g_C ?_
                                    have zb689 := hm67.f_336_29
                                    have zb691 := hm67.f_346_4
                                    have q692 : m67 346 4 = (m0 346 4) := (hm67.g (by decide)).trans (((Eq.refl (m0 346 4)).trans (hm0.g (by decide))).symm)
                                    exact hk (-2) m67 hm67 (by omega) (by omega)
                              · refine g_if (fun w693 => ?_) (fun w693 => ?_)
                                · have zb694 := hm67.f_336_29
                                  have zb696 := hm67.f_346_4
                                  have q697 : m67 346 4 = (m0 346 4) := (hm67.g (by decide)).trans (((Eq.refl (m0 346 4)).trans (hm0.g (by decide))).symm)
                                  exact hk u65 m67 hm67 (by omega) (by omega)
                                · have zb698 := hm67.f_336_29
                                  have zb700 := hm67.f_346_4
                                  have q701 : m67 346 4 = (m0 346 4) := (hm67.g (by decide)).trans (((Eq.refl (m0 346 4)).trans (hm0.g (by decide))).symm)
                                  exact hk u63 m67 hm67 (by omega) (by omega)
                            · refine ⟨hS.k336, ?_⟩
                              have zb702 := hm67.f_336_29
                              have zb704 := hm67.f_346_4
                              have q705 : m67 346 4 = (m0 346 4) := (hm67.g (by decide)).trans (((Eq.refl (m0 346 4)).trans (hm0.g (by decide))).symm)
                              refine z_X12_turnedByRow hS hm67 (by omega) (by omega) (by omega) (by omega) (by omega) (fun v706 m707 hm707 fm707 bv706 cv706 => ?_)
                              have zb708 := hm707.f_336_29
                              have zb709 := hm707.f_346_4
                              refine g_if (fun w710 => ?_) (fun w710 => ?_)
                              · refine u_X12_relay_171 ?_
                                refine u_X12_relay_178 ?_
                                refine g_C ?_
                                refine g_C ?_
                                refine g_C ?_
                                refine z_in (fun aw711 bw711 => ?_) (fun cw711 => ?_)
                                · refine g_ifT (by omega) ?_
                                  refine g_if (fun w712 => ?_) (fun w712 => ?_)
                                  · refine u_X12_relay_206 ?_
                                    refine g_Aw (fun v713 bv713 cv713 => ?_)
                                    refine u_X12_relay_209 ?_
                                    refine g_A (by omega) (by omega) ?_
                                    have zb714 := hm707.f_336_29
                                    have q715 : m707 336 29 = v660 := (Eq.refl (m707 336 29)).trans ((fm707 _ _ (by omega)).trans ev660.symm)
                                    have zb716 := hm707.f_346_4
                                    have q717 : m707 346 4 = (m0 346 4) := (hm707.g (by decide)).trans (((Eq.refl (m0 346 4)).trans (hm0.g (by decide))).symm)
                                    exact ih_n_l658 v713 u64 v706 (u66 + 1) m707 hm707 (by omega) (by omega) (by omega) (by omega) (by omega) (by omega) (by omega) (by omega) (by omega) (by omega)
                                  · refine u_X12_relay_206 ?_
                                    refine g_A (by omega) (by omega) ?_
                                    refine u_X12_relay_209 ?_
                                    refine g_A (by omega) (by omega) ?_
                                    have zb718 := hm707.f_336_29
                                    have q719 : m707 336 29 = v660 := (Eq.refl (m707 336 29)).trans ((fm707 _ _ (by omega)).trans ev660.symm)
                                    have zb720 := hm707.f_346_4
                                    have q721 : m707 346 4 = (m0 346 4) := (hm707.g (by decide)).trans (((Eq.refl (m0 346 4)).trans (hm0.g (by decide))).symm)
                                    exact ih_n_l658 (u63 + 1) u66 v706 (u66 + 1) m707 hm707 (by omega) (by omega) (by omega) (by omega) (by omega) (by omega) (by omega) (by omega) (by omega) (by omega)
                                · refine g_ifF (by omega) ?_
                                  refine u_X12_relay_209 ?_
                                  refine g_A (by omega) (by omega) ?_
                                  have zb722 := hm707.f_336_29
                                  have q723 : m707 336 29 = v660 := (Eq.refl (m707 336 29)).trans ((fm707 _ _ (by omega)).trans ev660.symm)
                                  have zb724 := hm707.f_346_4
                                  have q725 : m707 346 4 = (m0 346 4) := (hm707.g (by decide)).trans (((Eq.refl (m0 346 4)).trans (hm0.g (by decide))).symm)
                                  exact ih_n_l658 u63 u64 v706 (u66 + 1) m707 hm707 (by omega) (by omega) (by omega) (by omega) (by omega) (by omega) (by omega) (by omega) (by omega) (by omega)
                              · refine g_if (fun w726 => ?_) (fun w726 => ?_)
                                · refine u_X12_relay_178 ?_
                                  refine g_C ?_
                                  refine g_C ?_
                                  refine g_C ?_
                                  refine z_in (fun aw727 bw727 => ?_) (fun cw727 => ?_)
                                  · refine g_ifT (by omega) ?_
                                    refine g_if (fun w728 => ?_) (fun w728 => ?_)
                                    · refine u_X12_relay_206 ?_
                                      refine g_Aw (fun v729 bv729 cv729 => ?_)
                                      refine u_X12_relay_209 ?_
                                      refine g_A (by omega) (by omega) ?_
                                      have zb730 := hm707.f_336_29
                                      have q731 : m707 336 29 = v660 := (Eq.refl (m707 336 29)).trans ((fm707 _ _ (by omega)).trans ev660.symm)
                                      have zb732 := hm707.f_346_4
                                      have q733 : m707 346 4 = (m0 346 4) := (hm707.g (by decide)).trans (((Eq.refl (m0 346 4)).trans (hm0.g (by decide))).symm)
                                      exact ih_n_l658 v729 u64 u65 (u66 + 1) m707 hm707 (by omega) (by omega) (by omega) (by omega) (by omega) (by omega) (by omega) (by omega) (by omega) (by omega)
                                    · refine u_X12_relay_206 ?_
                                      refine g_A (by omega) (by omega) ?_
                                      refine u_X12_relay_209 ?_
                                      refine g_A (by omega) (by omega) ?_
                                      have zb734 := hm707.f_336_29
                                      have q735 : m707 336 29 = v660 := (Eq.refl (m707 336 29)).trans ((fm707 _ _ (by omega)).trans ev660.symm)
                                      have zb736 := hm707.f_346_4
                                      have q737 : m707 346 4 = (m0 346 4) := (hm707.g (by decide)).trans (((Eq.refl (m0 346 4)).trans (hm0.g (by decide))).symm)
                                      exact ih_n_l658 (u63 + 1) u66 u65 (u66 + 1) m707 hm707 (by omega) (by omega) (by omega) (by omega) (by omega) (by omega) (by omega) (by omega) (by omega) (by omega)
                                  · refine g_ifF (by omega) ?_
                                    refine u_X12_relay_209 ?_
                                    refine g_A (by omega) (by omega) ?_
                                    have zb738 := hm707.f_336_29
                                    have q739 : m707 336 29 = v660 := (Eq.refl (m707 336 29)).trans ((fm707 _ _ (by omega)).trans ev660.symm)
                                    have zb740 := hm707.f_346_4
                                    have q741 : m707 346 4 = (m0 346 4) := (hm707.g (by decide)).trans (((Eq.refl (m0 346 4)).trans (hm0.g (by decide))).symm)
                                    exact ih_n_l658 u63 u64 u65 (u66 + 1) m707 hm707 (by omega) (by omega) (by omega) (by omega) (by omega) (by omega) (by omega) (by omega) (by omega) (by omega)
                                · refine u_X12_relay_171 ?_
                                  refine u_X12_relay_178 ?_
                                  refine g_C ?_
                                  refine g_C ?_
                                  refine g_C ?_
                                  refine z_in (fun aw742 bw742 => ?_) (fun cw742 => ?_)
                                  · refine g_ifT (by omega) ?_
                                    refine g_if (fun w743 => ?_) (fun w743 => ?_)
                                    · refine u_X12_relay_206 ?_
                                      refine g_Aw (fun v744 bv744 cv744 => ?_)
                                      refine u_X12_relay_209 ?_
                                      refine g_A (by omega) (by omega) ?_
                                      have zb745 := hm707.f_336_29
                                      have q746 : m707 336 29 = v660 := (Eq.refl (m707 336 29)).trans ((fm707 _ _ (by omega)).trans ev660.symm)
                                      have zb747 := hm707.f_346_4
                                      have q748 : m707 346 4 = (m0 346 4) := (hm707.g (by decide)).trans (((Eq.refl (m0 346 4)).trans (hm0.g (by decide))).symm)
                                      exact ih_n_l658 v744 u64 v706 (u66 + 1) m707 hm707 (by omega) (by omega) (by omega) (by omega) (by omega) (by omega) (by omega) (by omega) (by omega) (by omega)
                                    · refine u_X12_relay_206 ?_
                                      refine g_A (by omega) (by omega) ?_
                                      refine u_X12_relay_209 ?_
                                      refine g_A (by omega) (by omega) ?_
                                      have zb749 := hm707.f_336_29
                                      have q750 : m707 336 29 = v660 := (Eq.refl (m707 336 29)).trans ((fm707 _ _ (by omega)).trans ev660.symm)
                                      have zb751 := hm707.f_346_4
                                      have q752 : m707 346 4 = (m0 346 4) := (hm707.g (by decide)).trans (((Eq.refl (m0 346 4)).trans (hm0.g (by decide))).symm)
                                      exact ih_n_l658 (u63 + 1) u66 v706 (u66 + 1) m707 hm707 (by omega) (by omega) (by omega) (by omega) (by omega) (by omega) (by omega) (by omega) (by omega) (by omega)
                                  · refine g_ifF (by omega) ?_
                                    refine u_X12_relay_209 ?_
                                    refine g_A (by omega) (by omega) ?_
                                    have zb753 := hm707.f_336_29
                                    have q754 : m707 336 29 = v660 := (Eq.refl (m707 336 29)).trans ((fm707 _ _ (by omega)).trans ev660.symm)
                                    have zb755 := hm707.f_346_4
                                    have q756 : m707 346 4 = (m0 346 4) := (hm707.g (by decide)).trans (((Eq.refl (m0 346 4)).trans (hm0.g (by decide))).symm)
                                    exact ih_n_l658 u63 u64 v706 (u66 + 1) m707 hm707 (by omega) (by omega) (by omega) (by omega) (by omega) (by omega) (by omega) (by omega) (by omega) (by omega)
                        have zb757 := hm53.f_336_29
                        have zb759 := hm53.f_346_4
                        have q760 : m53 346 4 = (m0 346 4) := (hm53.g (by decide)).trans (((Eq.refl (m0 346 4)).trans (hm0.g (by decide))).symm)
                        exact ⟨15626, L_n_l658 15626 0 (-1) (-1) 0 m53 hm53 (by omega) (by omega) (by omega) (by omega) (by omega) (by omega) (by omega) (by omega) (by omega) (by omega)⟩
                      · refine g_getr 20 346 rfl hS.k336 hm53.f_336_20 (by decide) ?_
                        refine g_C ?_
                        refine g_ld (0) (5) hS.k346 hS.l346 (by omega) (by omega) (hm53.f_346_4) (fun v761 ev761 bv761 cv761 => ?_)
                        have qv761 : v761 = (m0 346 4) := (ev761.trans (hm53.g (by decide))).trans (((Eq.refl (m0 346 4)).trans (hm0.g (by decide))).symm)
                        refine g_if (fun w762 => ?_) (fun w762 => ?_)
                        · refine u_X12_relay_120 ?_
                          refine g_C ?_
                          refine g_C ?_
                          refine g_C ?_
                          refine g_C ?_
                          have L_n_l1363 : ∀ (n_l1363 : Nat) (u768 : Int) (u769 : Int) (u770 : Int) (u771 : Int) (m772 : Mm), Inv X S m772 → (-2147483648) ≤ u768 → u768 ≤ 2147483647 → (-1) ≤ u769 → u769 ≤ 65536 → (-2147483648) ≤ u770 → u770 ≤ 2147483647 → 0 ≤ u771 → u771 ≤ 15625 → (m772 336 29 = 0 ∨ 1 ≤ m772 346 4) → 15626 - u771 ≤ (n_l1363 : Int) → wp_X12_relay_132 S K n_l1363 336 u1 u3 u4 u5 u768 u769 u770 u771 m772 := by
                            intro n_l1363
                            induction n_l1363 with
                            | zero => intro u768 u769 u770 u771 m772 hm772 bu768 cu768 bu769 cu769 bu770 cu770 bu771 cu771 xn_l1363_0 zn_l1363; exfalso; omega
                            | succ n_l1363 ih_n_l1363 =>
                              intro u768 u769 u770 u771 m772 hm772 bu768 cu768 bu769 cu769 bu770 cu770 bu771 cu771 xn_l1363_0 zn_l1363
                              refine u_X12_relay_132 ?_
                              refine g_getr 20 346 rfl hS.k336 hm772.f_336_20 (by decide) ?_
                              refine g_C ?_
                              refine g_ld (0) (5) hS.k346 hS.l346 (by omega) (by omega) (hm772.f_346_4) (fun v1364 ev1364 bv1364 cv1364 => ?_)
                              have qv1364 : v1364 = (m0 346 4) := (ev1364.trans (hm772.g (by decide))).trans (((Eq.refl (m0 346 4)).trans (hm0.g (by decide))).symm)
                              refine g_get 29 (0) (6) rfl hS.k336 hm772.f_336_29 (fun v1365 ev1365 bv1365 cv1365 => ?_)
                              have zb1366 := hm772.f_336_29
                              have zb1368 := hm772.f_346_4
                              have q1369 : m772 346 4 = (m0 346 4) := (hm772.g (by decide)).trans (((Eq.refl (m0 346 4)).trans (hm0.g (by decide))).symm)
                              refine z_X12_power hS hm772 (by omega) (by omega) (by omega) (by omega) (by omega) (fun v1370 bv1370 cv1370 => ?_)
                              refine g_if (fun w1371 => ?_) (fun w1371 => ?_)
                              · refine g_C ?_
                                refine g_if (fun w1372 => ?_) (fun w1372 => ?_)
                                · refine g_if (fun w1373 => ?_) (fun w1373 => ?_)
                                  · refine u_X12_relay_250 ?_
                                    refine g_C ?_
                                    have zb1374 := hm772.f_336_29
                                    have zb1376 := hm772.f_346_4
                                    have q1377 : m772 346 4 = (m0 346 4) := (hm772.g (by decide)).trans (((Eq.refl (m0 346 4)).trans (hm0.g (by decide))).symm)
                                    exact hk (-2) m772 hm772 (by omega) (by omega)
                                  · refine g_C ?_
                                    refine g_S (by omega) (by omega) ?_
                                    refine g_get 29 (0) (6) rfl hS.k336 hm772.f_336_29 (fun v1378 ev1378 bv1378 cv1378 => ?_)
                                    have qv1378 : v1378 = v1365 := ev1378.trans ev1365.symm
                                    refine g_if (fun w1379 => ?_) (fun w1379 => ?_)
                                    · refine g_C ?_
                                      refine g_S (by omega) (by omega) ?_
                                      refine ⟨hS.k336, ?_⟩
                                      refine u_X12_handIn ?_
                                      refine g_getr 20 346 rfl hS.k336 hm772.f_336_20 (by decide) ?_
                                      refine g_C ?_
                                      refine g_ld (0) (5) hS.k346 hS.l346 (by omega) (by omega) (hm772.f_346_4) (fun v1380 ev1380 bv1380 cv1380 => ?_)
                                      have qv1380 : v1380 = (m0 346 4) := (ev1380.trans (hm772.g (by decide))).trans (((Eq.refl (m0 346 4)).trans (hm0.g (by decide))).symm)
                                      refine g_get 29 (0) (6) rfl hS.k336 hm772.f_336_29 (fun v1381 ev1381 bv1381 cv1381 => ?_)
                                      have qv1381 : v1381 = v1365 := ev1381.trans ev1365.symm
                                      refine g_C ?_
                                      refine g_S (by omega) (by omega) ?_
                                      refine g_S (by omega) (by omega) ?_
                                      have zb1382 := hm772.f_336_29
                                      have zb1384 := hm772.f_346_4
                                      have q1385 : m772 346 4 = (m0 346 4) := (hm772.g (by decide)).trans (((Eq.refl (m0 346 4)).trans (hm0.g (by decide))).symm)
                                      refine z_X12_power hS hm772 (by omega) (by omega) (by omega) (by omega) (by omega) (fun v1386 bv1386 cv1386 => ?_)
                                      refine g_iDiv (by omega) (by omega) (by omega) (by omega) (fun v1387 bv1387 cv1387 => ?_)
                                      refine g_getr 20 346 rfl hS.k336 hm772.f_336_20 (by decide) ?_
                                      refine g_C ?_
                                      refine g_ld (0) (5) hS.k346 hS.l346 (by omega) (by omega) (hm772.f_346_4) (fun v1388 ev1388 bv1388 cv1388 => ?_)
                                      have qv1388 : v1388 = (m0 346 4) := (ev1388.trans (hm772.g (by decide))).trans (((Eq.refl (m0 346 4)).trans (hm0.g (by decide))).symm)
                                      refine g_iRem (by omega) (by omega) (by omega) (by omega) (fun v1389 bv1389 cv1389 => ?_)
                                      have zb1390 := hm772.f_336_29
                                      have zb1392 := hm772.f_346_4
                                      have q1393 : m772 346 4 = (m0 346 4) := (hm772.g (by decide)).trans (((Eq.refl (m0 346 4)).trans (hm0.g (by decide))).symm)
                                      exact hk v1389 m772 hm772 (by omega) (by omega)
                                    · refine u_X12_relay_250 ?_
                                      refine g_C ?_
                                      have zb1394 := hm772.f_336_29
                                      have zb1396 := hm772.f_346_4
                                      have q1397 : m772 346 4 = (m0 346 4) := (hm772.g (by decide)).trans (((Eq.refl (m0 346 4)).trans (hm0.g (by decide))).symm)
                                      exact hk (-2) m772 hm772 (by omega) (by omega)
                                · refine g_if (fun w1398 => ?_) (fun w1398 => ?_)
                                  · have zb1399 := hm772.f_336_29
                                    have zb1401 := hm772.f_346_4
                                    have q1402 : m772 346 4 = (m0 346 4) := (hm772.g (by decide)).trans (((Eq.refl (m0 346 4)).trans (hm0.g (by decide))).symm)
                                    exact hk u770 m772 hm772 (by omega) (by omega)
                                  · have zb1403 := hm772.f_336_29
                                    have zb1405 := hm772.f_346_4
                                    have q1406 : m772 346 4 = (m0 346 4) := (hm772.g (by decide)).trans (((Eq.refl (m0 346 4)).trans (hm0.g (by decide))).symm)
                                    exact hk u768 m772 hm772 (by omega) (by omega)
                              · refine ⟨hS.k336, ?_⟩
                                have zb1407 := hm772.f_336_29
                                have zb1409 := hm772.f_346_4
                                have q1410 : m772 346 4 = (m0 346 4) := (hm772.g (by decide)).trans (((Eq.refl (m0 346 4)).trans (hm0.g (by decide))).symm)
                                refine z_X12_turnedByRow hS hm772 (by omega) (by omega) (by omega) (by omega) (by omega) (fun v1411 m1412 hm1412 fm1412 bv1411 cv1411 => ?_)
                                have zb1413 := hm1412.f_336_29
                                have zb1414 := hm1412.f_346_4
                                refine g_if (fun w1415 => ?_) (fun w1415 => ?_)
                                · refine u_X12_relay_171 ?_
                                  refine u_X12_relay_178 ?_
                                  refine g_C ?_
                                  refine g_C ?_
                                  refine g_C ?_
                                  refine z_in (fun aw1416 bw1416 => ?_) (fun cw1416 => ?_)
                                  · refine g_ifT (by omega) ?_
                                    refine g_if (fun w1417 => ?_) (fun w1417 => ?_)
                                    · refine u_X12_relay_206 ?_
                                      refine g_Aw (fun v1418 bv1418 cv1418 => ?_)
                                      refine u_X12_relay_209 ?_
                                      refine g_A (by omega) (by omega) ?_
                                      have zb1419 := hm1412.f_336_29
                                      have q1420 : m1412 336 29 = v1365 := (Eq.refl (m1412 336 29)).trans ((fm1412 _ _ (by omega)).trans ev1365.symm)
                                      have zb1421 := hm1412.f_346_4
                                      have q1422 : m1412 346 4 = (m0 346 4) := (hm1412.g (by decide)).trans (((Eq.refl (m0 346 4)).trans (hm0.g (by decide))).symm)
                                      exact ih_n_l1363 v1418 u769 v1411 (u771 + 1) m1412 hm1412 (by omega) (by omega) (by omega) (by omega) (by omega) (by omega) (by omega) (by omega) (by omega) (by omega)
                                    · refine u_X12_relay_206 ?_
                                      refine g_A (by omega) (by omega) ?_
                                      refine u_X12_relay_209 ?_
                                      refine g_A (by omega) (by omega) ?_
                                      have zb1423 := hm1412.f_336_29
                                      have q1424 : m1412 336 29 = v1365 := (Eq.refl (m1412 336 29)).trans ((fm1412 _ _ (by omega)).trans ev1365.symm)
                                      have zb1425 := hm1412.f_346_4
                                      have q1426 : m1412 346 4 = (m0 346 4) := (hm1412.g (by decide)).trans (((Eq.refl (m0 346 4)).trans (hm0.g (by decide))).symm)
                                      exact ih_n_l1363 (u768 + 1) u771 v1411 (u771 + 1) m1412 hm1412 (by omega) (by omega) (by omega) (by omega) (by omega) (by omega) (by omega) (by omega) (by omega) (by omega)
                                  · refine g_ifF (by omega) ?_
                                    refine u_X12_relay_209 ?_
                                    refine g_A (by omega) (by omega) ?_
                                    have zb1427 := hm1412.f_336_29
                                    have q1428 : m1412 336 29 = v1365 := (Eq.refl (m1412 336 29)).trans ((fm1412 _ _ (by omega)).trans ev1365.symm)
                                    have zb1429 := hm1412.f_346_4
                                    have q1430 : m1412 346 4 = (m0 346 4) := (hm1412.g (by decide)).trans (((Eq.refl (m0 346 4)).trans (hm0.g (by decide))).symm)
                                    exact ih_n_l1363 u768 u769 v1411 (u771 + 1) m1412 hm1412 (by omega) (by omega) (by omega) (by omega) (by omega) (by omega) (by omega) (by omega) (by omega) (by omega)
                                · refine g_if (fun w1431 => ?_) (fun w1431 => ?_)
                                  · refine u_X12_relay_178 ?_
                                    refine g_C ?_
                                    refine g_C ?_
                                    refine g_C ?_
                                    refine z_in (fun aw1432 bw1432 => ?_) (fun cw1432 => ?_)
                                    · refine g_ifT (by omega) ?_
                                      refine g_if (fun w1433 => ?_) (fun w1433 => ?_)
                                      · refine u_X12_relay_206 ?_
                                        refine g_Aw (fun v1434 bv1434 cv1434 => ?_)
                                        refine u_X12_relay_209 ?_
                                        refine g_A (by omega) (by omega) ?_
                                        have zb1435 := hm1412.f_336_29
                                        have q1436 : m1412 336 29 = v1365 := (Eq.refl (m1412 336 29)).trans ((fm1412 _ _ (by omega)).trans ev1365.symm)
                                        have zb1437 := hm1412.f_346_4
                                        have q1438 : m1412 346 4 = (m0 346 4) := (hm1412.g (by decide)).trans (((Eq.refl (m0 346 4)).trans (hm0.g (by decide))).symm)
                                        exact ih_n_l1363 v1434 u769 u770 (u771 + 1) m1412 hm1412 (by omega) (by omega) (by omega) (by omega) (by omega) (by omega) (by omega) (by omega) (by omega) (by omega)
                                      · refine u_X12_relay_206 ?_
                                        refine g_A (by omega) (by omega) ?_
                                        refine u_X12_relay_209 ?_
                                        refine g_A (by omega) (by omega) ?_
                                        have zb1439 := hm1412.f_336_29
                                        have q1440 : m1412 336 29 = v1365 := (Eq.refl (m1412 336 29)).trans ((fm1412 _ _ (by omega)).trans ev1365.symm)
                                        have zb1441 := hm1412.f_346_4
                                        have q1442 : m1412 346 4 = (m0 346 4) := (hm1412.g (by decide)).trans (((Eq.refl (m0 346 4)).trans (hm0.g (by decide))).symm)
                                        exact ih_n_l1363 (u768 + 1) u771 u770 (u771 + 1) m1412 hm1412 (by omega) (by omega) (by omega) (by omega) (by omega) (by omega) (by omega) (by omega) (by omega) (by omega)
                                    · refine g_ifF (by omega) ?_
                                      refine u_X12_relay_209 ?_
                                      refine g_A (by omega) (by omega) ?_
                                      have zb1443 := hm1412.f_336_29
                                      have q1444 : m1412 336 29 = v1365 := (Eq.refl (m1412 336 29)).trans ((fm1412 _ _ (by omega)).trans ev1365.symm)
                                      have zb1445 := hm1412.f_346_4
                                      have q1446 : m1412 346 4 = (m0 346 4) := (hm1412.g (by decide)).trans (((Eq.refl (m0 346 4)).trans (hm0.g (by decide))).symm)
                                      exact ih_n_l1363 u768 u769 u770 (u771 + 1) m1412 hm1412 (by omega) (by omega) (by omega) (by omega) (by omega) (by omega) (by omega) (by omega) (by omega) (by omega)
                                  · refine u_X12_relay_171 ?_
                                    refine u_X12_relay_178 ?_
                                    refine g_C ?_
                                    refine g_C ?_
                                    refine g_C ?_
                                    refine z_in (fun aw1447 bw1447 => ?_) (fun cw1447 => ?_)
                                    · refine g_ifT (by omega) ?_
                                      refine g_if (fun w1448 => ?_) (fun w1448 => ?_)
                                      · refine u_X12_relay_206 ?_
                                        refine g_Aw (fun v1449 bv1449 cv1449 => ?_)
                                        refine u_X12_relay_209 ?_
                                        refine g_A (by omega) (by omega) ?_
                                        have zb1450 := hm1412.f_336_29
                                        have q1451 : m1412 336 29 = v1365 := (Eq.refl (m1412 336 29)).trans ((fm1412 _ _ (by omega)).trans ev1365.symm)
                                        have zb1452 := hm1412.f_346_4
                                        have q1453 : m1412 346 4 = (m0 346 4) := (hm1412.g (by decide)).trans (((Eq.refl (m0 346 4)).trans (hm0.g (by decide))).symm)
                                        exact ih_n_l1363 v1449 u769 v1411 (u771 + 1) m1412 hm1412 (by omega) (by omega) (by omega) (by omega) (by omega) (by omega) (by omega) (by omega) (by omega) (by omega)
                                      · refine u_X12_relay_206 ?_
                                        refine g_A (by omega) (by omega) ?_
                                        refine u_X12_relay_209 ?_
                                        refine g_A (by omega) (by omega) ?_
                                        have zb1454 := hm1412.f_336_29
                                        have q1455 : m1412 336 29 = v1365 := (Eq.refl (m1412 336 29)).trans ((fm1412 _ _ (by omega)).trans ev1365.symm)
                                        have zb1456 := hm1412.f_346_4
                                        have q1457 : m1412 346 4 = (m0 346 4) := (hm1412.g (by decide)).trans (((Eq.refl (m0 346 4)).trans (hm0.g (by decide))).symm)
                                        exact ih_n_l1363 (u768 + 1) u771 v1411 (u771 + 1) m1412 hm1412 (by omega) (by omega) (by omega) (by omega) (by omega) (by omega) (by omega) (by omega) (by omega) (by omega)
                                    · refine g_ifF (by omega) ?_
                                      refine u_X12_relay_209 ?_
                                      refine g_A (by omega) (by omega) ?_
                                      have zb1458 := hm1412.f_336_29
                                      have q1459 : m1412 336 29 = v1365 := (Eq.refl (m1412 336 29)).trans ((fm1412 _ _ (by omega)).trans ev1365.symm)
                                      have zb1460 := hm1412.f_346_4
                                      have q1461 : m1412 346 4 = (m0 346 4) := (hm1412.g (by decide)).trans (((Eq.refl (m0 346 4)).trans (hm0.g (by decide))).symm)
                                      exact ih_n_l1363 u768 u769 v1411 (u771 + 1) m1412 hm1412 (by omega) (by omega) (by omega) (by omega) (by omega) (by omega) (by omega) (by omega) (by omega) (by omega)
                          have zb1462 := hm53.f_336_29
                          have zb1464 := hm53.f_346_4
                          have q1465 : m53 346 4 = (m0 346 4) := (hm53.g (by decide)).trans (((Eq.refl (m0 346 4)).trans (hm0.g (by decide))).symm)
                          exact ⟨15626, L_n_l1363 15626 0 (-1) (-1) 0 m53 hm53 (by omega) (by omega) (by omega) (by omega) (by omega) (by omega) (by omega) (by omega) (by omega) (by omega)⟩
                        · refine g_C ?_
                          have zb1466 := hm53.f_336_29
                          have zb1468 := hm53.f_346_4
                          have q1469 : m53 346 4 = (m0 346 4) := (hm53.g (by decide)).trans (((Eq.refl (m0 346 4)).trans (hm0.g (by decide))).symm)
                          exact hk (-2) m53 hm53 (by omega) (by omega)
                    · refine g_C ?_
                      have zb1470 := hm42.f_336_29
                      have q1471 : m42 336 29 = (m0 336 29) := (Eq.refl (m42 336 29)).trans ((fm42 _ _ (by omega)).trans (Eq.refl (m0 336 29)).symm)
                      have zb1472 := hm42.f_346_4
                      have q1473 : m42 346 4 = (m0 346 4) := (hm42.g (by decide)).trans (((Eq.refl (m0 346 4)).trans (hm0.g (by decide))).symm)
                      exact hk (-2) m42 hm42 (by omega) (by omega)
                  · refine g_ifF (by omega) ?_
                    refine g_C ?_
                    have zb1474 := hm0.f_336_29
                    have zb1476 := hm0.f_346_4
                    have q1477 : m0 346 4 = (m0 346 4) := (hm0.g (by decide)).trans (((Eq.refl (m0 346 4)).trans (hm0.g (by decide))).symm)
                    exact hk (-3) m0 hm0 (by omega) (by omega)
                · refine g_ifT (by omega) ?_
                  refine g_C ?_
                  have zb1478 := hm0.f_336_29
                  have zb1480 := hm0.f_346_4
                  have q1481 : m0 346 4 = (m0 346 4) := (hm0.g (by decide)).trans (((Eq.refl (m0 346 4)).trans (hm0.g (by decide))).symm)
                  exact hk (-3) m0 hm0 (by omega) (by omega)
              · refine g_ifT (by omega) ?_
                refine g_C ?_
                have zb1482 := hm0.f_336_29
                have zb1484 := hm0.f_346_4
                have q1485 : m0 346 4 = (m0 346 4) := (hm0.g (by decide)).trans (((Eq.refl (m0 346 4)).trans (hm0.g (by decide))).symm)
                exact hk (-3) m0 hm0 (by omega) (by omega)
