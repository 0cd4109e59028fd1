theorem z_X12_power {X : Mm} {S : Sh} {m0 : Mm} {K : Int → Mm → Prop} {u0 u1 : Int} (hS : Shp S) (hm0 : Inv X S m0) (l_u0 : 0 ≤ u0) (h_u0 : u0 ≤ 5) (l_u1 : (-6) ≤ u1) (h_u1 : u1 ≤ 6) (p0 : 1 ≤ u0 ∨ u1 ≤ 0) (hk : ∀ (r : Int), 1 ≤ r → r ≤ 15625 → K r m0) : wp_X12_power S m0 u0 u1 K := by
  have p5 : ∀ j : Nat, j ≤ 6 → (5 : Int) ^ j ≤ 15625 := by decide
  refine u_X12_power ?_
  refine g_C ?_
  refine g_C ?_
  have L : ∀ (n : Nat) (v k : Int), 0 ≤ k → (k ≤ u1 ∨ k = 0) → 1 ≤ v → v ≤ 5 ^ k.toNat → 7 - k ≤ (n : Int) → wp_X12_power_4 S K n u0 u1 v k m0 := by
    intro n
    induction n with
    | zero => intro v k a1 a2 a3 a4 a5; exfalso; omega
    | succ n ih =>
      intro v k a1 a2 a3 a4 a5
      refine u_X12_power_4 ?_
      have a6 := p5 k.toNat (by omega)
      refine g_if (fun w => hk v a3 (by omega)) (fun w => ?_)
      have q : v * u0 ≤ 5 ^ k.toNat * 5 := Int.mul_le_mul a4 h_u0 l_u0 (by omega)
      have q1 : 1 * 1 ≤ v * u0 := Int.mul_le_mul a3 (by omega) (by decide) (by omega)
      have e : (k + 1).toNat = k.toNat + 1 := by omega
      have q2 : (5 : Int) ^ (k + 1).toNat = 5 ^ k.toNat * 5 := by rw [e, Int.pow_succ]
      have a7 := p5 (k + 1).toNat (by omega)
      refine g_M (by omega) (by omega) ?_
      refine g_A (by omega) (by omega) ?_
      exact ih (v * u0) (k + 1) (by omega) (by omega) (by omega) (by omega) (by omega)
  exact ⟨7, L 7 1 0 (by omega) (by omega) (by omega) (by decide) (by omega)⟩
theorem z_X12_payBy {X : Mm} {S : Sh} {m0 : Mm} {K : Int → Mm → Prop} {u1 : Int} (hS : Shp S) (hm0 : Inv X S m0) (l_u1 : 1 ≤ u1) (h_u1 : u1 ≤ 15624) (hk : ∀ (r : Int), (-2147483648) ≤ r → r ≤ 2147483647 → K r m0) : wp_X12_payBy S m0 336 u1 K := by
  refine u_X12_payBy ?_
  refine g_C ?_
  refine g_C ?_
  refine g_C ?_
  have L_n_l400 : ∀ (n_l400 : Nat) (u3 : Int) (u4 : Int) (u5 : Int), 0 ≤ u3 → u3 ≤ 15 → (-2147483648) ≤ u4 → u4 ≤ 2147483647 → 0 ≤ u5 → u5 ≤ 6 → 7 - u5 ≤ (n_l400 : Int) → wp_X12_payBy_7 S K n_l400 336 u1 u3 u4 u5 m0 := by
    intro n_l400
    induction n_l400 with
    | zero => intro u3 u4 u5 bu3 cu3 bu4 cu4 bu5 cu5 zn_l400; exfalso; omega
    | succ n_l400 ih_n_l400 =>
      intro u3 u4 u5 bu3 cu3 bu4 cu4 bu5 cu5 zn_l400
      refine u_X12_payBy_7 ?_
      refine g_getr 20 346 rfl hS.k336 hm0.f_336_20 (by decide) ?_
      refine g_C ?_
      refine g_ld (0) (6) hS.k346 hS.l346 (by omega) (by omega) (hm0.f_346_6) (fun v401 ev401 bv401 cv401 => ?_)
      refine g_if (fun w402 => ?_) (fun w402 => ?_)
      · exact hk u4 (by omega) (by omega)
      · refine ⟨hS.k336, ?_⟩
        refine u_X12_jugIn ?_
        refine g_getr 20 346 rfl hS.k336 hm0.f_336_20 (by decide) ?_
        refine g_C ?_
        refine g_ld (0) (4) hS.k346 hS.l346 (by omega) (by omega) (hm0.f_346_5) (fun v403 ev403 bv403 cv403 => ?_)
        refine g_C ?_
        refine g_A (by omega) (by omega) ?_
        refine g_getr 20 346 rfl hS.k336 hm0.f_336_20 (by decide) ?_
        refine g_C ?_
        refine g_ld (0) (6) hS.k346 hS.l346 (by omega) (by omega) (hm0.f_346_6) (fun v404 ev404 bv404 cv404 => ?_)
        have qv404 : v404 = v401 := (ev404.trans (hm0.g (by decide))).trans ((ev401.trans (hm0.g (by decide))).symm)
        refine g_C ?_
        refine g_S (by omega) (by omega) ?_
        refine g_S (by omega) (by omega) ?_
        refine z_X12_power hS hm0 (by omega) (by omega) (by omega) (by omega) (by omega) (fun v405 bv405 cv405 => ?_)
        refine g_iDiv (by omega) (by omega) (by omega) (by omega) (fun v406 bv406 cv406 => ?_)
        refine g_getr 20 346 rfl hS.k336 hm0.f_336_20 (by decide) ?_
        refine g_C ?_
        refine g_ld (0) (4) hS.k346 hS.l346 (by omega) (by omega) (hm0.f_346_5) (fun v407 ev407 bv407 cv407 => ?_)
        have qv407 : v407 = v403 := (ev407.trans (hm0.g (by decide))).trans ((ev403.trans (hm0.g (by decide))).symm)
        refine g_C ?_
        refine g_A (by omega) (by omega) ?_
        refine g_iRem (by omega) (by omega) (by omega) (by omega) (fun v408 bv408 cv408 => ?_)
        refine g_C ?_
        refine g_S (by omega) (by omega) ?_
        refine g_if (fun w409 => ?_) (fun w409 => ?_)
        · refine g_getr 20 346 rfl hS.k336 hm0.f_336_20 (by decide) ?_
          refine g_C ?_
          refine g_A (by omega) (by omega) ?_
          refine g_ld (-2147483648) (2147483647) hS.k346 hS.l346 (by omega) (by omega) (fam_346_51_1_0_5 hm0 (a := u5) (by omega) (by omega) (by omega)) (fun v410 ev410 bv410 cv410 => ?_)
          refine g_if (fun w411 => ?_) (fun w411 => ?_)
          · refine g_C ?_
            exact hk (-1) (by omega) (by omega)
          · refine g_C ?_
            refine ⟨hS.k336, ?_⟩
            refine u_X12_jugOf ?_
            refine g_getr 20 346 rfl hS.k336 hm0.f_336_20 (by decide) ?_
            refine g_C ?_
            refine g_C ?_
            refine g_M (by omega) (by omega) ?_
            refine g_A (by omega) (by omega) ?_
            refine g_A (by omega) (by omega) ?_
            refine g_ld (0) (1) hS.k346 hS.l346 (by omega) (by omega) (fam_346_34_4_1_4 hm0 (a := v408) (by omega) (by omega) (by omega)) (fun v412 ev412 bv412 cv412 => ?_)
            refine g_C ?_
            refine g_if (fun w413 => ?_) (fun w413 => ?_)
            · refine g_C ?_
              exact hk (-1) (by omega) (by omega)
            · refine u_X12_isOf ?_
              refine g_iShr (by omega) (by omega) (fun v414 bv414 cv414 => ?_)
              refine g_C ?_
              refine g_iAndR (by omega) (by omega) (fun v415 dv415 bv415 cv415 => ?_)
              refine g_C ?_
              refine g_if (fun w416 => ?_) (fun w416 => ?_)
              · refine g_C ?_
                refine ⟨by omega, ?_⟩
                refine g_ifF (by omega) ?_
                refine g_C ?_
                refine ⟨hS.k336, ?_⟩
                refine u_X12_jugOf ?_
                refine g_getr 20 346 rfl hS.k336 hm0.f_336_20 (by decide) ?_
                refine g_C ?_
                refine g_C ?_
                refine g_M (by omega) (by omega) ?_
                refine g_A (by omega) (by omega) ?_
                refine g_A (by omega) (by omega) ?_
                refine g_ld (-2147483648) (2147483647) hS.k346 hS.l346 (by omega) (by omega) (fam_346_33_4_1_4 hm0 (a := v408) (by omega) (by omega) (by omega)) (fun v417 ev417 bv417 cv417 => ?_)
                refine g_C ?_
                refine g_C ?_
                refine ⟨hS.k336, ?_⟩
                refine u_X12_wantOf ?_
                refine g_getr 20 346 rfl hS.k336 hm0.f_336_20 (by decide) ?_
                refine g_C ?_
                refine g_C ?_
                refine g_M (by omega) (by omega) ?_
                refine g_A (by omega) (by omega) ?_
                refine g_A (by omega) (by omega) ?_
                refine g_ld (0) (99) hS.k346 hS.l346 (by omega) (by omega) (fam_346_94_4_0_5 hm0 (a := u5) (by omega) (by omega) (by omega)) (fun v418 ev418 bv418 cv418 => ?_)
                refine g_C ?_
                refine g_C ?_
                refine ⟨hS.k336, ?_⟩
                refine u_X12_wantOf ?_
                refine g_getr 20 346 rfl hS.k336 hm0.f_336_20 (by decide) ?_
                refine g_C ?_
                refine g_C ?_
                refine g_M (by omega) (by omega) ?_
                refine g_A (by omega) (by omega) ?_
                refine g_A (by omega) (by omega) ?_
                refine g_ld (0) (99) hS.k346 hS.l346 (by omega) (by omega) (fam_346_95_4_0_5 hm0 (a := u5) (by omega) (by omega) (by omega)) (fun v419 ev419 bv419 cv419 => ?_)
                refine g_C ?_
                refine z_in (fun aw420 bw420 => ?_) (fun cw420 => ?_)
                · refine g_ifT (by omega) ?_
                  refine g_C ?_
                  refine g_iShl 3 (by omega) (by omega) (by decide) (fun v421 bv421 cv421 => ?_)
                  refine g_iOr 4 (by omega) (by omega) (by omega) (by omega) (by decide) (fun v422 bv422 cv422 => ?_)
                  refine g_C ?_
                  refine ⟨hS.k336, ?_⟩
                  refine u_X12_wantOf ?_
                  refine g_getr 20 346 rfl hS.k336 hm0.f_336_20 (by decide) ?_
                  refine g_C ?_
                  refine g_C ?_
                  refine g_M (by omega) (by omega) ?_
                  refine g_A (by omega) (by omega) ?_
                  refine g_A (by omega) (by omega) ?_
                  refine g_ld (0) (50) hS.k346 hS.l346 (by omega) (by omega) (fam_346_96_4_0_5 hm0 (a := u5) (by omega) (by omega) (by omega)) (fun v423 ev423 bv423 cv423 => ?_)
                  refine g_Aw (fun v424 bv424 cv424 => ?_)
                  refine u_X12_payBy_118 ?_
                  refine g_A (by omega) (by omega) ?_
                  exact ih_n_l400 v422 v424 (u5 + 1) (by omega) (by omega) (by omega) (by omega) (by omega) (by omega) (by omega)
                · refine g_ifF (by omega) ?_
                  refine g_C ?_
                  exact hk (-1) (by omega) (by omega)
              · refine g_C ?_
                refine ⟨by omega, ?_⟩
                refine g_ifT (by omega) ?_
                refine g_C ?_
                exact hk (-1) (by omega) (by omega)
        · refine u_X12_payBy_118 ?_
          refine g_A (by omega) (by omega) ?_
          exact ih_n_l400 u3 u4 (u5 + 1) (by omega) (by omega) (by omega) (by omega) (by omega) (by omega) (by omega)
  exact ⟨7, L_n_l400 7 0 0 0 (by omega) (by omega) (by omega) (by omega) (by omega) (by omega) (by omega)⟩
theorem z_X12_match {X : Mm} {S : Sh} {m0 : Mm} {K : Int → Mm → Prop} {u1 : Int} (hS : Shp S) (hm0 : Inv X S m0) (l_u1 : (-2147483648) ≤ u1) (h_u1 : u1 ≤ 2147483647) (hk : ∀ (r : Int), (-3) ≤ r → r ≤ 2147483647 → K r m0) : wp_X12_match S m0 336 u1 K := by
  refine u_X12_match ?_
  refine ⟨hS.k336, ?_⟩
  refine u_X12_isDairy ?_
  refine g_getr 20 346 rfl hS.k336 hm0.f_336_20 (by decide) ?_
  refine g_C ?_
  refine g_ld (0) (6) hS.k346 hS.l346 (by omega) (by omega) (hm0.f_346_0) (fun v1 ev1 bv1 cv1 => ?_)
  refine g_if (fun w2 => ?_) (fun w2 => ?_)
  · refine g_C ?_
    refine ⟨by omega, ?_⟩
    refine g_ifT (by omega) ?_
    refine g_C ?_
    exact hk (-3) (by omega) (by omega)
  · refine g_C ?_
    refine ⟨by omega, ?_⟩
    refine g_ifF (by omega) ?_
    refine g_C ?_
    refine g_C ?_
    refine g_C ?_
    refine z_in (fun aw3 bw3 => ?_) (fun cw3 => ?_)
    · refine g_ifT (by omega) ?_
      refine g_C ?_
      refine g_C ?_
      refine g_C ?_
      have L_n_l355 : ∀ (n_l355 : Nat) (u6 : Int) (u7 : Int) (u8 : Int), 0 ≤ u6 → u6 ≤ 65536 → 0 ≤ u7 → u7 ≤ 2147483647 → 1 ≤ u8 → u8 ≤ 15625 → 15626 - u8 ≤ (n_l355 : Int) → wp_X12_match_29 S K n_l355 336 u1 u6 u7 u8 m0 := by
        intro n_l355
        induction n_l355 with
        | zero => intro u6 u7 u8 bu6 cu6 bu7 cu7 bu8 cu8 zn_l355; exfalso; omega
        | succ n_l355 ih_n_l355 =>
          intro u6 u7 u8 bu6 cu6 bu7 cu7 bu8 cu8 zn_l355
          refine u_X12_match_29 ?_
          refine g_getr 20 346 rfl hS.k336 hm0.f_336_20 (by decide) ?_
          refine g_C ?_
          refine g_ld (0) (4) hS.k346 hS.l346 (by omega) (by omega) (hm0.f_346_5) (fun v356 ev356 bv356 cv356 => ?_)
          refine g_C ?_
          refine g_A (by omega) (by omega) ?_
          refine g_getr 20 346 rfl hS.k336 hm0.f_336_20 (by decide) ?_
          refine g_C ?_
          refine g_ld (0) (6) hS.k346 hS.l346 (by omega) (by omega) (hm0.f_346_6) (fun v357 ev357 bv357 cv357 => ?_)
          refine z_X12_power hS hm0 (by omega) (by omega) (by omega) (by omega) (by omega) (fun v358 bv358 cv358 => ?_)
          refine g_if (fun w359 => ?_) (fun w359 => ?_)
          · refine g_if (fun w360 => ?_) (fun w360 => ?_)
            · refine g_getr 20 346 rfl hS.k336 hm0.f_336_20 (by decide) ?_
              refine g_C ?_
              refine g_ld (0) (6) hS.k346 hS.l346 (by omega) (by omega) (hm0.f_346_6) (fun v361 ev361 bv361 cv361 => ?_)
              have qv361 : v361 = v357 := (ev361.trans (hm0.g (by decide))).trans ((ev357.trans (hm0.g (by decide))).symm)
              refine g_if (fun w362 => ?_) (fun w362 => ?_)
              · refine g_C ?_
                refine g_S (by omega) (by omega) ?_
                refine ⟨hS.k336, ?_⟩
                refine u_X12_jugIn ?_
                refine g_getr 20 346 rfl hS.k336 hm0.f_336_20 (by decide) ?_
                refine g_C ?_
                refine g_ld (0) (4) hS.k346 hS.l346 (by omega) (by omega) (hm0.f_346_5) (fun v363 ev363 bv363 cv363 => ?_)
                have qv363 : v363 = v356 := (ev363.trans (hm0.g (by decide))).trans ((ev356.trans (hm0.g (by decide))).symm)
                refine g_C ?_
                refine g_A (by omega) (by omega) ?_
                refine g_getr 20 346 rfl hS.k336 hm0.f_336_20 (by decide) ?_
                refine g_C ?_
                refine g_ld (0) (6) hS.k346 hS.l346 (by omega) (by omega) (hm0.f_346_6) (fun v364 ev364 bv364 cv364 => ?_)
                have qv364 : v364 = v357 := (ev364.trans (hm0.g (by decide))).trans ((ev357.trans (hm0.g (by decide))).symm)
                refine g_C ?_
                refine g_S (by omega) (by omega) ?_
                refine g_S (by omega) (by omega) ?_
                refine z_X12_power hS hm0 (by omega) (by omega) (by omega) (by omega) (by omega) (fun v365 bv365 cv365 => ?_)
                refine g_iDiv (by omega) (by omega) (by omega) (by omega) (fun v366 bv366 cv366 => ?_)
                refine g_getr 20 346 rfl hS.k336 hm0.f_336_20 (by decide) ?_
                refine g_C ?_
                refine g_ld (0) (4) hS.k346 hS.l346 (by omega) (by omega) (hm0.f_346_5) (fun v367 ev367 bv367 cv367 => ?_)
                have qv367 : v367 = v356 := (ev367.trans (hm0.g (by decide))).trans ((ev356.trans (hm0.g (by decide))).symm)
                refine g_C ?_
                refine g_A (by omega) (by omega) ?_
                refine g_iRem (by omega) (by omega) (by omega) (by omega) (fun v368 bv368 cv368 => ?_)
                refine g_C ?_
                refine g_S (by omega) (by omega) ?_
                exact hk (v368 - 1) (by omega) (by omega)
              · refine g_C ?_
                exact hk (-2) (by omega) (by omega)
            · exact hk u7 (by omega) (by omega)
          · refine ⟨hS.k336, ?_⟩
            refine z_X12_payBy hS hm0 (by omega) (by omega) (fun v369 bv369 cv369 => ?_)
            refine g_if (fun w370 => ?_) (fun w370 => ?_)
            · refine u_X12_match_75 ?_
              refine g_A (by omega) (by omega) ?_
              exact ih_n_l355 u8 v369 (u8 + 1) (by omega) (by omega) (by omega) (by omega) (by omega) (by omega) (by omega)
            · refine u_X12_match_75 ?_
              refine g_A (by omega) (by omega) ?_
              exact ih_n_l355 u6 u7 (u8 + 1) (by omega) (by omega) (by omega) (by omega) (by omega) (by omega) (by omega)
      exact ⟨15625, L_n_l355 15625 0 0 1 (by omega) (by omega) (by omega) (by omega) (by omega) (by omega) (by omega)⟩
    · refine g_ifF (by omega) ?_
      refine g_C ?_
      exact hk (-3) (by omega) (by omega)
theorem z_X12_probe {X : Mm} {S : Sh} {m0 : Mm} {K : Int → Mm → Prop} {u1 : Int} (hS : Shp S) (hm0 : Inv X S m0) (l_u1 : (-2147483648) ≤ u1) (h_u1 : u1 ≤ 2147483647) (hk : ∀ (r : Int) (M1 : Mm), Inv X S M1 → (-2) ≤ r → r ≤ 2147483647 → K r M1) : wp_X12_probe S m0 336 u1 K := by
  refine u_X12_probe ?_
  refine ⟨hS.k336, ?_⟩
  refine u_X12_isDairy ?_
  refine g_getr 20 346 rfl hS.k336 hm0.f_336_20 (by decide) ?_
  refine g_C ?_
  refine g_ld (0) (6) hS.k346 hS.l346 (by omega) (by omega) (hm0.f_346_0) (fun v1 ev1 bv1 cv1 => ?_)
  refine g_if (fun w2 => ?_) (fun w2 => ?_)
  · refine g_C ?_
    refine ⟨by omega, ?_⟩
    refine g_ifT (by omega) ?_
    refine g_C ?_
    exact hk (-1) m0 hm0 (by omega) (by omega)
  · refine g_C ?_
    refine ⟨by omega, ?_⟩
    refine g_ifF (by omega) ?_
    refine g_C ?_
    refine g_C ?_
    refine g_C ?_
    refine z_in (fun aw3 bw3 => ?_) (fun cw3 => ?_)
    · refine g_ifT (by omega) ?_
      refine ⟨hS.k336, ?_⟩
      refine z_X12_fitting hS hm0 (fun v4 m5 hm5 bv4 cv4 => ?_)
      refine g_if (fun w6 => ?_) (fun w6 => ?_)
      · refine g_C ?_
        refine g_C ?_
        have L_n_l106 : ∀ (n_l106 : Nat) (u10 : Int) (u11 : Int) (m12 : Mm), Inv X S m12 → 1 ≤ u10 → u10 ≤ 20 → 2 ≤ u11 → u11 ≤ 21 → 22 - u11 ≤ (n_l106 : Int) → wp_X12_probe_36 S K n_l106 336 u1 v4 u10 u11 m12 := by
          intro n_l106
          induction n_l106 with
          | zero => intro u10 u11 m12 hm12 bu10 cu10 bu11 cu11 zn_l106; exfalso; omega
          | succ n_l106 ih_n_l106 =>
            intro u10 u11 m12 hm12 bu10 cu10 bu11 cu11 zn_l106
            refine u_X12_probe_36 ?_
            refine g_C ?_
            refine g_if (fun w107 => ?_) (fun w107 => ?_)
            · refine g_if (fun w108 => ?_) (fun w108 => ?_)
              · refine ⟨hS.k336, ?_⟩
                refine z_X12_alikeBy hS hm12 (by omega) (by omega) (by omega) (by omega) (fun v109 m110 hm110 bv109 cv109 => ?_)
                exact hk v109 m110 hm110 (by omega) (by omega)
              · exact hk u10 m12 hm12 (by omega) (by omega)
            · refine ⟨hS.k336, ?_⟩
              refine z_X12_alikeBy hS hm12 (by omega) (by omega) (by omega) (by omega) (fun v111 m112 hm112 bv111 cv111 => ?_)
              refine ⟨hS.k336, ?_⟩
              refine z_X12_alikeBy hS hm112 (by omega) (by omega) (by omega) (by omega) (fun v113 m114 hm114 bv113 cv113 => ?_)
              refine g_if (fun w115 => ?_) (fun w115 => ?_)
              · refine u_X12_probe_62 ?_
                refine g_A (by omega) (by omega) ?_
                exact ih_n_l106 u10 (u11 + 1) m114 hm114 (by omega) (by omega) (by omega) (by omega) (by omega)
              · refine u_X12_probe_62 ?_
                refine g_A (by omega) (by omega) ?_
                exact ih_n_l106 u11 (u11 + 1) m114 hm114 (by omega) (by omega) (by omega) (by omega) (by omega)
        exact ⟨20, L_n_l106 20 1 2 m5 hm5 (by omega) (by omega) (by omega) (by omega) (by omega)⟩
      · refine g_C ?_
        exact hk (-2) m5 hm5 (by omega) (by omega)
    · refine g_ifF (by omega) ?_
      refine g_C ?_
      exact hk (-1) m0 hm0 (by omega) (by omega)
