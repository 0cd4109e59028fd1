section
theorem z_X12_power {X : Mm} {S : Sh} {m0 : Mm} {K : Int → Mm → Prop} {u0 u1 : Int} (hS : Shp S) (hm0 : Inv X S m0) (l_u0 : 0 ≤ u0) (h_u0 : u0 ≤ 5) (l_u1 : (-6) ≤ u1) (h_u1 : u1 ≤ 6) (p0 : 1 ≤ u0 ∨ u1 ≤ 0) (hk : ∀ (r : Int), 1 ≤ r → r ≤ 15625 → K r m0) : wp_X12_power S m0 u0 u1 K := by
  have p5 : ∀ j : Nat, j ≤ 6 → (5 : Int) ^ j ≤ 15625 := by decide
  refine u_X12_power ?_
  refine g_C ?_
  refine g_C ?_
  have L : ∀ (n : Nat) (v k : Int), 0 ≤ k → (k ≤ u1 ∨ k = 0) → 1 ≤ v → v ≤ 5 ^ k.toNat → 7 - k ≤ (n : Int) → wp_X12_power_4 S K n u0 u1 v k m0 := by
    intro n
    induction n with
    | zero => intro v k a1 a2 a3 a4 a5; exfalso; omega
    | succ n ih =>
      intro v k a1 a2 a3 a4 a5
      refine u_X12_power_4 ?_
      have a6 := p5 k.toNat (by omega)
      refine g_if (fun w => hk v a3 (by omega)) (fun w => ?_)
      have q : v * u0 ≤ 5 ^ k.toNat * 5 := Int.mul_le_mul a4 h_u0 l_u0 (by omega)
      have q1 : 1 * 1 ≤ v * u0 := Int.mul_le_mul a3 (by omega) (by decide) (by omega)
      have e : (k + 1).toNat = k.toNat + 1 := by omega
      have q2 : (5 : Int) ^ (k + 1).toNat = 5 ^ k.toNat * 5 := by rw [e, Int.pow_succ]
      have a7 := p5 (k + 1).toNat (by omega)
      refine g_M (by omega) (by omega) ?_
      refine g_A (by omega) (by omega) ?_
      exact ih (v * u0) (k + 1) (by omega) (by omega) (by omega) (by omega) (by omega)
  exact ⟨7, L 7 1 0 (by omega) (by omega) (by omega) (by decide) (by omega)⟩
theorem z_X12_payBy {X : Mm} {S : Sh} {m0 : Mm} {K : Int → Mm → Prop} {u1 : Int} (hS : Shp S) (hm0 : Inv X S m0) (l_u1 : 1 ≤ u1) (h_u1 : u1 ≤ 15624) (hk : ∀ (r : Int), (-2147483648) ≤ r → r ≤ 2147483647 → K r m0) : wp_X12_payBy S m0 336 u1 K := by
  refine u_X12_payBy ?_
  refine g_C ?_
  refine g_C ?_
  refine g_C ?_
  have L_n_l400 : ∀ (n_l400 : Nat) (u3 : Int) (u4 : Int) (u5 : Int), 0 ≤ u3 → u3 ≤ 15 → (-2147483648) ≤ u4 → u4 ≤ 2147483647 → 0 ≤ u5 → u5 ≤ 6 → 7 - u5 ≤ (n_l400 : Int) → wp_X12_payBy_7 S K n_l400 336 u1 u3 u4 u5 m0 := by
    intro n_l400
    induction n_l400 with
    | zero => intro u3 u4 u5 bu3 cu3 bu4 cu4 bu5 cu5 zn_l400; exfalso; omega
    | succ n_l400 ih_n_l400 =>
      intro u3 u4 u5 bu3 cu3 bu4 cu4 bu5 cu5 zn_l400
      refine u_X12_payBy_7 ?_
      refine g_getr 20 346 rfl hS.k336 hm0.f_336_20 (by decide) ?_
      refine g_C ?_
      refine g_ld (0) (6) hS.k346 hS.l346 (by omega) (by omega) (hm0.f_346_6) (fun v401 ev401 bv401 cv401 => ?_)
      refine g_if (fun w402 => ?_) (fun w402 => ?_)
      · exact hk u4 (by omega) (by omega)
      · refine ⟨hS.k336, ?_⟩
        refine u_X12_jugIn ?_
        refine g_getr 20 346 rfl hS.k336 hm0.f_336_20 (by decide) ?_
        refine g_C ?_
        refine g_ld (0) (4) hS.k346 hS.l346 (by omega) (by omega) (hm0.f_346_5) (fun v403 ev403 bv403 cv403 => ?_)
        refine g_C ?_
        refine g_A (by omega) (by omega) ?_
        refine g_getr 20 346 rfl hS.k336 hm0.f_336_20 (by decide) ?_
        refine g_C ?_
        refine g_ld (0) (6) hS.k346 hS.l346 (by omega) (by omega) (hm0.f_346_6) (fun v404 ev404 bv404 cv404 => ?_)
        have qv404 : v404 = v401 := (ev404.trans (hm0.g (by decide))).trans ((ev401.trans (hm0.g (by decide))).symm)
        refine g_C ?_
        refine g_S (by omega) (by omega) ?_
        refine g_S (by omega) (by omega) ?_
        refine z_X12_power hS hm0 (by omega) (by omega) (by omega) (by omega) (by omega) (fun v405 bv405 cv405 => ?_)
        refine g_iDiv (by omega) (by omega) (by omega) (by omega) (fun v406 bv406 cv406 => ?_)
        refine g_getr 20 346 rfl hS.k336 hm0.f_336_20 (by decide) ?_
        refine g_C ?_
        refine g_ld (0) (4) hS.k346 hS.l346 (by omega) (by omega) (hm0.f_346_5) (fun v407 ev407 bv407 cv407 => ?_)
        have qv407 : v407 = v403 := (ev407.trans (hm0.g (by decide))).trans ((ev403.trans (hm0.g (by decide))).symm)
        refine g_C ?_
        refine g_A (by omega) (by omega) ?_
        refine g_iRem (by omega) (by omega) (by omega) (by omega) (fun v408 bv408 cv408 => ?_)
        refine g_C ?_
        refine g_S (by omega) (by omega) ?_
        refine g_if (fun w409 => ?_) (fun w409 => ?_)
        · refine g_getr 20 346 rfl hS.k336 hm0.f_336_20 (by decide) ?_
          refine g_C ?_
          refine g_A (by omega) (by omega) ?_
          refine g_ld (-2147483648) (2147483647) hS.k346 hS.l346 (by omega) (by omega) (fam_346_51_1_0_5 hm0 (a := u5) (by omega) (by omega) (by omega)) (fun v410 ev410 bv410 cv410 => ?_)
          refine g_if (fun w411 => ?_) (fun w411 => ?_)
          · refine g_C ?_
            exact hk (-1) (by omega) (by omega)
          · refine g_C ?_
            refine ⟨hS.k336, ?_⟩
            refine u_X12_jugOf ?_
            refine g_getr 20 346 rfl hS.k336 hm0.f_336_20 (by decide) ?_
            refine g_C ?_
            refine g_C ?_
            refine g_M (by omega) (by omega) ?_
            refine g_A (by omega) (by omega) ?_
            refine g_A (by omega) (by omega) ?_
            refine g_ld (0) (1) hS.k346 hS.l346 (by omega) (by omega) (fam_346_34_4_1_4 hm0 (a := v408) (by omega) (by omega) (by omega)) (fun v412 ev412 bv412 cv412 => ?_)
            refine g_C ?_
            refine g_if (fun w413 => ?_) (fun w413 => ?_)
            · refine g_C ?_
              exact hk (-1) (by omega) (by omega)
            · refine u_X12_isOf ?_
              refine g_iShr (by omega) (by omega) (fun v414 bv414 cv414 => ?_)
              refine g_C ?_
              refine g_iAndR (by omega) (by omega) (fun v415 dv415 bv415 cv415 => ?_)
              refine g_C ?_
              refine g_if (fun w416 => ?_) (fun w416 => ?_)
              · refine g_C ?_
                refine ⟨by omega, ?_⟩
                refine g_ifF (by omega) ?_
                refine g_C ?_
                refine ⟨hS.k336, ?_⟩
                refine u_X12_jugOf ?_
                refine g_getr 20 346 rfl hS.k336 hm0.f_336_20 (by decide) ?_
                refine g_C ?_
                refine g_C ?_
                refine g_M (by omega) (by omega) ?_
                refine g_A (by omega) (by omega) ?_
                refine g_A (by omega) (by omega) ?_
                refine g_ld (-2147483648) (2147483647) hS.k346 hS.l346 (by omega) (by omega) (fam_346_33_4_1_4 hm0 (a := v408) (by omega) (by omega) (by omega)) (fun v417 ev417 bv417 cv417 => ?_)
                refine g_C ?_
                refine g_C ?_
                refine ⟨hS.k336, ?_⟩
                refine u_X12_wantOf ?_
                refine g_getr 20 346 rfl hS.k336 hm0.f_336_20 (by decide) ?_
                refine g_C ?_
                refine g_C ?_
                refine g_M (by omega) (by omega) ?_
                refine g_A (by omega) (by omega) ?_
                refine g_A (by omega) (by omega) ?_
                refine g_ld (0) (99) hS.k346 hS.l346 (by omega) (by omega) (fam_346_94_4_0_5 hm0 (a := u5) (by omega) (by omega) (by omega)) (fun v418 ev418 bv418 cv418 => ?_)
                refine g_C ?_
                refine g_C ?_
                refine ⟨hS.k336, ?_⟩
                refine u_X12_wantOf ?_
                refine g_getr 20 346 rfl hS.k336 hm0.f_336_20 (by decide) ?_
                refine g_C ?_
                refine g_C ?_
                refine g_M (by omega) (by omega) ?_
                refine g_A (by omega) (by omega) ?_
                refine g_A (by omega) (by omega) ?_
                refine g_ld (0) (99) hS.k346 hS.l346 (by omega) (by omega) (fam_346_95_4_0_5 hm0 (a := u5) (by omega) (by omega) (by omega)) (fun v419 ev419 bv419 cv419 => ?_)
                refine g_C ?_
                refine z_in (fun aw420 bw420 => ?_) (fun cw420 => ?_)
                · refine g_ifT (by omega) ?_
                  refine g_C ?_
                  refine g_iShl 3 (by omega) (by omega) (by decide) (fun v421 bv421 cv421 => ?_)
                  refine g_iOr 4 (by omega) (by omega) (by omega) (by omega) (by decide) (fun v422 bv422 cv422 => ?_)
                  refine g_C ?_
                  refine ⟨hS.k336, ?_⟩
                  refine u_X12_wantOf ?_
                  refine g_getr 20 346 rfl hS.k336 hm0.f_336_20 (by decide) ?_
                  refine g_C ?_
                  refine g_C ?_
                  refine g_M (by omega) (by omega) ?_
                  refine g_A (by omega) (by omega) ?_
                  refine g_A (by omega) (by omega) ?_
                  refine g_ld (0) (50) hS.k346 hS.l346 (by omega) (by omega) (fam_346_96_4_0_5 hm0 (a := u5) (by omega) (by omega) (by omega)) (fun v423 ev423 bv423 cv423 => ?_)
                  refine g_Aw (fun v424 bv424 cv424 => ?_)
                  refine u_X12_payBy_118 ?_
                  refine g_A (by omega) (by omega) ?_
                  exact ih_n_l400 v422 v424 (u5 + 1) (by omega) (by omega) (by omega) (by omega) (by omega) (by omega) (by omega)
                · refine g_ifF (by omega) ?_
                  refine g_C ?_
                  exact hk (-1) (by omega) (by omega)
              · refine g_C ?_
                refine ⟨by omega, ?_⟩
                refine g_ifT (by omega) ?_
                refine g_C ?_
                exact hk (-1) (by omega) (by omega)
        · refine u_X12_payBy_118 ?_
          refine g_A (by omega) (by omega) ?_
          exact ih_n_l400 u3 u4 (u5 + 1) (by omega) (by omega) (by omega) (by omega) (by omega) (by omega) (by omega)
  exact ⟨7, L_n_l400 7 0 0 0 (by omega) (by omega) (by omega) (by omega) (by omega) (by omega) (by omega)⟩
theorem z_X12_match {X : Mm} {S : Sh} {m0 : Mm} {K : Int → Mm → Prop} {u1 : Int} (hS : Shp S) (hm0 : Inv X S m0) (l_u1 : (-2147483648) ≤ u1) (h_u1 : u1 ≤ 2147483647) (hk : ∀ (r : Int), (-3) ≤ r → r ≤ 2147483647 → K r m0) : wp_X12_match S m0 336 u1 K := by
  refine u_X12_match ?_
  refine ⟨hS.k336, ?_⟩
  refine u_X12_isDairy ?_
  refine g_getr 20 346 rfl hS.k336 hm0.f_336_20 (by decide) ?_
  refine g_C ?_
  refine g_ld (0) (6) hS.k346 hS.l346 (by omega) (by omega) (hm0.f_346_0) (fun v1 ev1 bv1 cv1 => ?_)
  refine g_if (fun w2 => ?_) (fun w2 => ?_)
  · refine g_C ?_
    refine ⟨by omega, ?_⟩
    refine g_ifT (by omega) ?_
    refine g_C ?_
    exact hk (-3) (by omega) (by omega)
  · refine g_C ?_
    refine ⟨by omega, ?_⟩
    refine g_ifF (by omega) ?_
    refine g_C ?_
    refine g_C ?_
    refine g_C ?_
    refine z_in (fun aw3 bw3 => ?_) (fun cw3 => ?_)
    · refine g_ifT (by omega) ?_
      refine g_C ?_
      refine g_C ?_
      refine g_C ?_
      have L_n_l355 : ∀ (n_l355 : Nat) (u6 : Int) (u7 : Int) (u8 : Int), 0 ≤ u6 → u6 ≤ 65536 → 0 ≤ u7 → u7 ≤ 2147483647 → 1 ≤ u8 → u8 ≤ 15625 → 15626 - u8 ≤ (n_l355 : Int) → wp_X12_match_29 S K n_l355 336 u1 u6 u7 u8 m0 := by
        intro n_l355
        induction n_l355 with
        | zero => intro u6 u7 u8 bu6 cu6 bu7 cu7 bu8 cu8 zn_l355; exfalso; omega
        | succ n_l355 ih_n_l355 =>
          intro u6 u7 u8 bu6 cu6 bu7 cu7 bu8 cu8 zn_l355
          refine u_X12_match_29 ?_
          refine g_getr 20 346 rfl hS.k336 hm0.f_336_20 (by decide) ?_
          refine g_C ?_
          refine g_ld (0) (4) hS.k346 hS.l346 (by omega) (by omega) (hm0.f_346_5) (fun v356 ev356 bv356 cv356 => ?_)
          refine g_C ?_
          refine g_A (by omega) (by omega) ?_
          refine g_getr 20 346 rfl hS.k336 hm0.f_336_20 (by decide) ?_
          refine g_C ?_
          refine g_ld (0) (6) hS.k346 hS.l346 (by omega) (by omega) (hm0.f_346_6) (fun v357 ev357 bv357 cv357 => ?_)
          refine z_X12_power hS hm0 (by omega) (by omega) (by omega) (by omega) (by omega) (fun v358 bv358 cv358 => ?_)
          refine g_if (fun w359 => ?_) (fun w359 => ?_)
          · refine g_if (fun w360 => ?_) (fun w360 => ?_)
            · refine g_getr 20 346 rfl hS.k336 hm0.f_336_20 (by decide) ?_
              refine g_C ?_
              refine g_ld (0) (6) hS.k346 hS.l346 (by omega) (by omega) (hm0.f_346_6) (fun v361 ev361 bv361 cv361 => ?_)
              have qv361 : v361 = v357 := (ev361.trans (hm0.g (by decide))).trans ((ev357.trans (hm0.g (by decide))).symm)
              refine g_if (fun w362 => ?_) (fun w362 => ?_)
              · refine g_C ?_
                refine g_S (by omega) (by omega) ?_
                refine ⟨hS.k336, ?_⟩
                refine u_X12_jugIn ?_
                refine g_getr 20 346 rfl hS.k336 hm0.f_336_20 (by decide) ?_
                refine g_C ?_
                refine g_ld (0) (4) hS.k346 hS.l346 (by omega) (by omega) (hm0.f_346_5) (fun v363 ev363 bv363 cv363 => ?_)
                have qv363 : v363 = v356 := (ev363.trans (hm0.g (by decide))).trans ((ev356.trans (hm0.g (by decide))).symm)
                refine g_C ?_
                refine g_A (by omega) (by omega) ?_
                refine g_getr 20 346 rfl hS.k336 hm0.f_336_20 (by decide) ?_
                refine g_C ?_
                refine g_ld (0) (6) hS.k346 hS.l346 (by omega) (by omega) (hm0.f_346_6) (fun v364 ev364 bv364 cv364 => ?_)
                have qv364 : v364 = v357 := (ev364.trans (hm0.g (by decide))).trans ((ev357.trans (hm0.g (by decide))).symm)
                refine g_C ?_
                refine g_S (by omega) (by omega) ?_
                refine g_S (by omega) (by omega) ?_
                refine z_X12_power hS hm0 (by omega) (by omega) (by omega) (by omega) (by omega) (fun v365 bv365 cv365 => ?_)
                refine g_iDiv (by omega) (by omega) (by omega) (by omega) (fun v366 bv366 cv366 => ?_)
                refine g_getr 20 346 rfl hS.k336 hm0.f_336_20 (by decide) ?_
                refine g_C ?_
                refine g_ld (0) (4) hS.k346 hS.l346 (by omega) (by omega) (hm0.f_346_5) (fun v367 ev367 bv367 cv367 => ?_)
                have qv367 : v367 = v356 := (ev367.trans (hm0.g (by decide))).trans ((ev356.trans (hm0.g (by decide))).symm)
                refine g_C ?_
                refine g_A (by omega) (by omega) ?_
                refine g_iRem (by omega) (by omega) (by omega) (by omega) (fun v368 bv368 cv368 => ?_)
                refine g_C ?_
                refine g_S (by omega) (by omega) ?_
                exact hk (v368 - 1) (by omega) (by omega)
              · refine g_C ?_
                exact hk (-2) (by omega) (by omega)
            · exact hk u7 (by omega) (by omega)
          · refine ⟨hS.k336, ?_⟩
            refine z_X12_payBy hS hm0 (by omega) (by omega) (fun v369 bv369 cv369 => ?_)
            refine g_if (fun w370 => ?_) (fun w370 => ?_)
            · refine u_X12_match_75 ?_
              refine g_A (by omega) (by omega) ?_
              exact ih_n_l355 u8 v369 (u8 + 1) (by omega) (by omega) (by omega) (by omega) (by omega) (by omega) (by omega)
            · refine u_X12_match_75 ?_
              refine g_A (by omega) (by omega) ?_
              exact ih_n_l355 u6 u7 (u8 + 1) (by omega) (by omega) (by omega) (by omega) (by omega) (by omega) (by omega)
      exact ⟨15625, L_n_l355 15625 0 0 1 (by omega) (by omega) (by omega) (by omega) (by omega) (by omega) (by omega)⟩
    · refine g_ifF (by omega) ?_
      refine g_C ?_
      exact hk (-3) (by omega) (by omega)
theorem z_X12_probe {X : Mm} {S : Sh} {m0 : Mm} {K : Int → Mm → Prop} {u1 : Int} (hS : Shp S) (hm0 : Inv X S m0) (l_u1 : (-2147483648) ≤ u1) (h_u1 : u1 ≤ 2147483647) (hk : ∀ (r : Int) (M1 : Mm), Inv X S M1 → (-2) ≤ r → r ≤ 2147483647 → K r M1) : wp_X12_probe S m0 336 u1 K := by
  refine u_X12_probe ?_
  refine ⟨hS.k336, ?_⟩
  refine u_X12_isDairy ?_
  refine g_getr 20 346 rfl hS.k336 hm0.f_336_20 (by decide) ?_
  refine g_C ?_
  refine g_ld (0) (6) hS.k346 hS.l346 (by omega) (by omega) (hm0.f_346_0) (fun v1 ev1 bv1 cv1 => ?_)
  refine g_if (fun w2 => ?_) (fun w2 => ?_)
  · refine g_C ?_
    refine ⟨by omega, ?_⟩
    refine g_ifT (by omega) ?_
    refine g_C ?_
    exact hk (-1) m0 hm0 (by omega) (by omega)
  · refine g_C ?_
    refine ⟨by omega, ?_⟩
    refine g_ifF (by omega) ?_
    refine g_C ?_
    refine g_C ?_
    refine g_C ?_
    refine z_in (fun aw3 bw3 => ?_) (fun cw3 => ?_)
    · refine g_ifT (by omega) ?_
      refine ⟨hS.k336, ?_⟩
      refine z_X12_fitting hS hm0 (fun v4 m5 hm5 bv4 cv4 => ?_)
      refine g_if (fun w6 => ?_) (fun w6 => ?_)
      · refine g_C ?_
        refine g_C ?_
        have L_n_l106 : ∀ (n_l106 : Nat) (u10 : Int) (u11 : Int) (m12 : Mm), Inv X S m12 → 1 ≤ u10 → u10 ≤ 20 → 2 ≤ u11 → u11 ≤ 21 → 22 - u11 ≤ (n_l106 : Int) → wp_X12_probe_36 S K n_l106 336 u1 v4 u10 u11 m12 := by
          intro n_l106
          induction n_l106 with
          | zero => intro u10 u11 m12 hm12 bu10 cu10 bu11 cu11 zn_l106; exfalso; omega
          | succ n_l106 ih_n_l106 =>
            intro u10 u11 m12 hm12 bu10 cu10 bu11 cu11 zn_l106
            refine u_X12_probe_36 ?_
            refine g_C ?_
            refine g_if (fun w107 => ?_) (fun w107 => ?_)
            · refine g_if (fun w108 => ?_) (fun w108 => ?_)
              · refine ⟨hS.k336, ?_⟩
                refine z_X12_alikeBy hS hm12 (by omega) (by omega) (by omega) (by omega) (fun v109 m110 hm110 bv109 cv109 => ?_)
                exact hk v109 m110 hm110 (by omega) (by omega)
              · exact hk u10 m12 hm12 (by omega) (by omega)
            · refine ⟨hS.k336, ?_⟩
              refine z_X12_alikeBy hS hm12 (by omega) (by omega) (by omega) (by omega) (fun v111 m112 hm112 bv111 cv111 => ?_)
              refine ⟨hS.k336, ?_⟩
              refine z_X12_alikeBy hS hm112 (by omega) (by omega) (by omega) (by omega) (fun v113 m114 hm114 bv113 cv113 => ?_)
              refine g_if (fun w115 => ?_) (fun w115 => ?_)
              · refine u_X12_probe_62 ?_
                refine g_A (by omega) (by omega) ?_
                exact ih_n_l106 u10 (u11 + 1) m114 hm114 (by omega) (by omega) (by omega) (by omega) (by omega)
              · refine u_X12_probe_62 ?_
                refine g_A (by omega) (by omega) ?_
                exact ih_n_l106 u11 (u11 + 1) m114 hm114 (by omega) (by omega) (by omega) (by omega) (by omega)
        exact ⟨20, L_n_l106 20 1 2 m5 hm5 (by omega) (by omega) (by omega) (by omega) (by omega)⟩
      · refine g_C ?_
        exact hk (-2) m5 hm5 (by omega) (by omega)
    · refine g_ifF (by omega) ?_
      refine g_C ?_
      exact hk (-1) m0 hm0 (by omega) (by omega)
theorem z_X12_turnedByRow {X : Mm} {S : Sh} {m0 : Mm} {K : Int → Mm → Prop} {u1 u2 : Int} (hS : Shp S) (hm0 : Inv X S m0) (l_u1 : 0 ≤ u1) (h_u1 : u1 ≤ 3) (l_u2 : 0 ≤ u2) (h_u2 : u2 ≤ 15624) (p0 : m0 336 29 = 0 ∨ 1 ≤ m0 346 4) (hk : ∀ (r : Int) (M1 : Mm), Inv X S M1 → (∀ c p : Int, ¬ c = 344 ∧ ¬ c = 345 ∧ ¬ (c = 336 ∧ 18 ≤ p ∧ p ≤ 18) → M1 c p = m0 c p) → (-2147483648) ≤ r → r ≤ 2147483647 → K r M1) : wp_X12_turnedByRow S m0 336 u1 u2 K := by
  have Fm0 : ∀ c p : Int, ¬ c = 344 ∧ ¬ c = 345 ∧ ¬ (c = 336 ∧ 18 ≤ p ∧ p ≤ 18) → m0 c p = m0 c p := fun c p _ => rfl
  refine u_X12_turnedByRow ?_
  refine g_C ?_
  refine ⟨hS.k336, ?_⟩
  refine u_X12_jugOf ?_
  refine g_getr 20 346 rfl hS.k336 hm0.f_336_20 (by decide) ?_
  refine g_C ?_
  refine g_C ?_
  refine g_M (by omega) (by omega) ?_
  refine g_A (by omega) (by omega) ?_
  refine g_A (by omega) (by omega) ?_
  refine g_ld (-2147483648) (2147483647) hS.k346 hS.l346 (by omega) (by omega) (fam_346_37_4_0_3 hm0 (a := u1) (by omega) (by omega) (by omega)) (fun v1 ev1 bv1 cv1 => ?_)
  refine g_getr 20 346 rfl hS.k336 hm0.f_336_20 (by decide) ?_
  refine g_C ?_
  refine g_ld (-2147483648) (2147483647) hS.k346 hS.l346 (by omega) (by omega) (hm0.f_346_7) (fun v2 ev2 bv2 cv2 => ?_)
  refine g_C ?_
  have L_n_l101 : ∀ (n_l101 : Nat) (u6 : Int) (u7 : Int) (u8 : Int) (m9 : Mm), Inv X S m9 → (∀ c p : Int, ¬ c = 344 ∧ ¬ c = 345 ∧ ¬ (c = 336 ∧ 18 ≤ p ∧ p ≤ 18) → m9 c p = m0 c p) → (-2147483648) ≤ u6 → u6 ≤ 2147483647 → (-2147483648) ≤ u7 → u7 ≤ 2147483647 → 0 ≤ u8 → u8 ≤ 6 → 7 - u8 ≤ (n_l101 : Int) → wp_X12_turnedByRow_19 S K n_l101 336 u1 u2 u6 u7 u8 m9 := by
    intro n_l101
    induction n_l101 with
    | zero => intro u6 u7 u8 m9 hm9 Fm9 bu6 cu6 bu7 cu7 bu8 cu8 zn_l101; exfalso; omega
    | succ n_l101 ih_n_l101 =>
      intro u6 u7 u8 m9 hm9 Fm9 bu6 cu6 bu7 cu7 bu8 cu8 zn_l101
      refine u_X12_turnedByRow_19 ?_
      refine g_get 29 (0) (6) rfl hS.k336 hm9.f_336_29 (fun v102 ev102 bv102 cv102 => ?_)
      have qv102 : v102 = (m0 336 29) := ev102.trans ((Fm9 _ _ (by omega)).trans (Eq.refl (m0 336 29)).symm)
      refine g_if (fun w103 => ?_) (fun w103 => ?_)
      · have zb104 := hm9.f_336_29
        have q105 : m9 336 29 = (m0 336 29) := (Eq.refl (m9 336 29)).trans ((Fm9 _ _ (by omega)).trans (Eq.refl (m0 336 29)).symm)
        have zb106 := hm9.f_346_4
        have q107 : m9 346 4 = (m0 346 4) := (hm9.g (by decide)).trans (((Eq.refl (m0 346 4)).trans (hm0.g (by decide))).symm)
        exact hk u6 m9 hm9 Fm9 (by omega) (by omega)
      · refine ⟨hS.k336, ?_⟩
        refine u_X12_handIn ?_
        refine g_getr 20 346 rfl hS.k336 hm9.f_336_20 (by decide) ?_
        refine g_C ?_
        refine g_ld (0) (5) hS.k346 hS.l346 (by omega) (by omega) (hm9.f_346_4) (fun v108 ev108 bv108 cv108 => ?_)
        have qv108 : v108 = (m0 346 4) := (ev108.trans (hm9.g (by decide))).trans (((Eq.refl (m0 346 4)).trans (hm0.g (by decide))).symm)
        refine g_get 29 (0) (6) rfl hS.k336 hm9.f_336_29 (fun v109 ev109 bv109 cv109 => ?_)
        have qv109 : v109 = (m0 336 29) := ev109.trans ((Fm9 _ _ (by omega)).trans (Eq.refl (m0 336 29)).symm)
        refine g_C ?_
        refine g_S (by omega) (by omega) ?_
        refine g_S (by omega) (by omega) ?_
        have zb110 := hm9.f_336_29
        have q111 : m9 336 29 = (m0 336 29) := (Eq.refl (m9 336 29)).trans ((Fm9 _ _ (by omega)).trans (Eq.refl (m0 336 29)).symm)
        have zb112 := hm9.f_346_4
        have q113 : m9 346 4 = (m0 346 4) := (hm9.g (by decide)).trans (((Eq.refl (m0 346 4)).trans (hm0.g (by decide))).symm)
        refine z_X12_power hS hm9 (by omega) (by omega) (by omega) (by omega) (by omega) (fun v114 bv114 cv114 => ?_)
        refine g_iDiv (by omega) (by omega) (by omega) (by omega) (fun v115 bv115 cv115 => ?_)
        refine g_getr 20 346 rfl hS.k336 hm9.f_336_20 (by decide) ?_
        refine g_C ?_
        refine g_ld (0) (5) hS.k346 hS.l346 (by omega) (by omega) (hm9.f_346_4) (fun v116 ev116 bv116 cv116 => ?_)
        have qv116 : v116 = (m0 346 4) := (ev116.trans (hm9.g (by decide))).trans (((Eq.refl (m0 346 4)).trans (hm0.g (by decide))).symm)
        refine g_iRem (by omega) (by omega) (by omega) (by omega) (fun v117 bv117 cv117 => ?_)
        refine g_getr 28 350 rfl hS.k336 hm9.f_336_28 (by decide) ?_
        refine g_ld (0) (5) hS.k350 hS.l350 (by omega) (by omega) (hm9.a_350 (by omega) (by omega)) (fun v118 ev118 bv118 cv118 => ?_)
        refine g_C ?_
        refine ⟨hS.k336, ?_⟩
        refine z_X12_turnedBy hS hm9 (by omega) (by omega) (by omega) (by omega) (by omega) (by omega) (by omega) (by omega) (by omega) (by omega) (by omega) (by omega) (fun v119 m120 hm120 fm120 bv119 cv119 => ?_)
        have zb121 := hm120.f_336_29
        have zb122 := hm120.f_346_4
        have Fm120 : ∀ c p : Int, ¬ c = 344 ∧ ¬ c = 345 ∧ ¬ (c = 336 ∧ 18 ≤ p ∧ p ≤ 18) → m120 c p = m0 c p := fun c p h => (fm120 c p (by omega)).trans (Fm9 c p h)
        refine g_getr 28 350 rfl hS.k336 hm120.f_336_28 (by decide) ?_
        refine g_ld (0) (5) hS.k350 hS.l350 (by omega) (by omega) (hm120.a_350 (by omega) (by omega)) (fun v123 ev123 bv123 cv123 => ?_)
        refine g_Aw (fun v124 bv124 cv124 => ?_)
        refine g_A (by omega) (by omega) ?_
        have zb125 := hm120.f_336_29
        have q126 : m120 336 29 = (m0 336 29) := (Eq.refl (m120 336 29)).trans ((fm120 _ _ (by omega)).trans ((Fm9 _ _ (by omega)).trans (Eq.refl (m0 336 29)).symm))
        have zb127 := hm120.f_346_4
        have q128 : m120 346 4 = (m0 346 4) := (hm120.g (by decide)).trans (((Eq.refl (m0 346 4)).trans (hm0.g (by decide))).symm)
        exact ih_n_l101 v119 v124 (u8 + 1) m120 hm120 Fm120 (by omega) (by omega) (by omega) (by omega) (by omega) (by omega) (by omega)
  have zb129 := hm0.f_336_29
  have zb131 := hm0.f_346_4
  have q132 : m0 346 4 = (m0 346 4) := (hm0.g (by decide)).trans (((Eq.refl (m0 346 4)).trans (hm0.g (by decide))).symm)
  exact ⟨7, L_n_l101 7 v1 v2 0 m0 hm0 Fm0 (by omega) (by omega) (by omega) (by omega) (by omega) (by omega) (by omega)⟩
theorem z_X12_relay {X : Mm} {S : Sh} {m0 : Mm} {K : Int → Mm → Prop} {u1 u2 u3 u4 u5 : Int} (hS : Shp S) (hm0 : Inv X S m0) (l_u1 : (-2147483648) ≤ u1) (h_u1 : u1 ≤ 2147483647) (l_u2 : (-2147483648) ≤ u2) (h_u2 : u2 ≤ 2147483647) (l_u3 : (-2147483648) ≤ u3) (h_u3 : u3 ≤ 2147483647) (l_u4 : (-2147483648) ≤ u4) (h_u4 : u4 ≤ 2147483647) (l_u5 : (-2147483648) ≤ u5) (h_u5 : u5 ≤ 2147483647) (hk : ∀ (r : Int) (M1 : Mm), Inv X S M1 → (-2147483648) ≤ r → r ≤ 2147483647 → K r M1) : wp_X12_relay S m0 336 u1 u2 u3 u4 u5 K := by
  refine u_X12_relay ?_
  refine ⟨hS.k336, ?_⟩
  refine u_X12_isJug ?_
  refine g_if (fun w1 => ?_) (fun w1 => ?_)
  · refine g_C ?_
    refine ⟨by omega, ?_⟩
    refine g_ifT (by omega) ?_
    refine g_C ?_
    have zb2 := hm0.f_336_29
    have zb4 := hm0.f_346_4
    have q5 : m0 346 4 = (m0 346 4) := (hm0.g (by decide)).trans (((Eq.refl (m0 346 4)).trans (hm0.g (by decide))).symm)
    exact hk (-3) m0 hm0 (by omega) (by omega)
  · refine g_getr 20 346 rfl hS.k336 hm0.f_336_20 (by decide) ?_
    refine g_C ?_
    refine g_ld (0) (4) hS.k346 hS.l346 (by omega) (by omega) (hm0.f_346_5) (fun v6 ev6 bv6 cv6 => ?_)
    refine g_if (fun w7 => ?_) (fun w7 => ?_)
    · refine g_C ?_
      refine ⟨by omega, ?_⟩
      refine g_ifT (by omega) ?_
      refine g_C ?_
      have zb8 := hm0.f_336_29
      have zb10 := hm0.f_346_4
      have q11 : m0 346 4 = (m0 346 4) := (hm0.g (by decide)).trans (((Eq.refl (m0 346 4)).trans (hm0.g (by decide))).symm)
      exact hk (-3) m0 hm0 (by omega) (by omega)
    · refine g_C ?_
      refine ⟨by omega, ?_⟩
      refine g_ifF (by omega) ?_
      refine ⟨hS.k336, ?_⟩
      refine u_X12_stands ?_
      refine g_C ?_
      refine ⟨hS.k336, ?_⟩
      refine u_X12_jugOf ?_
      refine g_getr 20 346 rfl hS.k336 hm0.f_336_20 (by decide) ?_
      refine g_C ?_
      refine g_C ?_
      refine g_M (by omega) (by omega) ?_
      refine g_A (by omega) (by omega) ?_
      refine g_A (by omega) (by omega) ?_
      refine g_ld (-1) (4) hS.k346 hS.l346 (by omega) (by omega) (fam_346_36_4_0_3 hm0 (a := u1) (by omega) (by omega) (by omega)) (fun v12 ev12 bv12 cv12 => ?_)
      refine g_if (fun w13 => ?_) (fun w13 => ?_)
      · refine g_C ?_
        refine ⟨by omega, ?_⟩
        refine g_ifT (by omega) ?_
        refine g_C ?_
        have zb14 := hm0.f_336_29
        have zb16 := hm0.f_346_4
        have q17 : m0 346 4 = (m0 346 4) := (hm0.g (by decide)).trans (((Eq.refl (m0 346 4)).trans (hm0.g (by decide))).symm)
        exact hk (-3) m0 hm0 (by omega) (by omega)
      · refine g_C ?_
        refine ⟨hS.k336, ?_⟩
        refine u_X12_jugOf ?_
        refine g_getr 20 346 rfl hS.k336 hm0.f_336_20 (by decide) ?_
        refine g_C ?_
        refine g_C ?_
        refine g_M (by omega) (by omega) ?_
        refine g_A (by omega) (by omega) ?_
        refine g_A (by omega) (by omega) ?_
        refine g_ld (0) (1) hS.k346 hS.l346 (by omega) (by omega) (fam_346_38_4_0_3 hm0 (a := u1) (by omega) (by omega) (by omega)) (fun v18 ev18 bv18 cv18 => ?_)
        refine g_if (fun w19 => ?_) (fun w19 => ?_)
        · refine g_C ?_
          refine ⟨by omega, ?_⟩
          refine g_ifT (by omega) ?_
          refine g_C ?_
          have zb20 := hm0.f_336_29
          have zb22 := hm0.f_346_4
          have q23 : m0 346 4 = (m0 346 4) := (hm0.g (by decide)).trans (((Eq.refl (m0 346 4)).trans (hm0.g (by decide))).symm)
          exact hk (-3) m0 hm0 (by omega) (by omega)
        · refine g_C ?_
          refine ⟨by omega, ?_⟩
          refine g_ifF (by omega) ?_
          refine ⟨hS.k336, ?_⟩
          refine u_X12_isPlace ?_
          refine g_if (fun w24 => ?_) (fun w24 => ?_)
          · refine g_C ?_
            refine ⟨by omega, ?_⟩
            refine g_ifT (by omega) ?_
            refine g_C ?_
            have zb25 := hm0.f_336_29
            have zb27 := hm0.f_346_4
            have q28 : m0 346 4 = (m0 346 4) := (hm0.g (by decide)).trans (((Eq.refl (m0 346 4)).trans (hm0.g (by decide))).symm)
            exact hk (-3) m0 hm0 (by omega) (by omega)
          · refine g_getr 20 346 rfl hS.k336 hm0.f_336_20 (by decide) ?_
            refine g_C ?_
            refine g_ld (0) (6) hS.k346 hS.l346 (by omega) (by omega) (hm0.f_346_0) (fun v29 ev29 bv29 cv29 => ?_)
            refine g_if (fun w30 => ?_) (fun w30 => ?_)
            · refine g_C ?_
              refine ⟨by omega, ?_⟩
              refine g_ifT (by omega) ?_
              refine g_C ?_
              have zb31 := hm0.f_336_29
              have zb33 := hm0.f_346_4
              have q34 : m0 346 4 = (m0 346 4) := (hm0.g (by decide)).trans (((Eq.refl (m0 346 4)).trans (hm0.g (by decide))).symm)
              exact hk (-3) m0 hm0 (by omega) (by omega)
            · refine g_C ?_
              refine ⟨by omega, ?_⟩
              refine g_ifF (by omega) ?_
              refine g_C ?_
              refine g_C ?_
              refine g_C ?_
              refine z_in (fun aw35 bw35 => ?_) (fun cw35 => ?_)
              · refine g_ifF (by omega) ?_
                refine g_C ?_
                refine g_C ?_
                refine g_C ?_
                refine z_in (fun aw36 bw36 => ?_) (fun cw36 => ?_)
                · refine g_ifF (by omega) ?_
                  refine g_C ?_
                  refine g_C ?_
                  refine g_C ?_
                  refine z_in (fun aw37 bw37 => ?_) (fun cw37 => ?_)
                  · refine g_ifT (by omega) ?_
                    refine ⟨hS.k336, ?_⟩
                    have zb38 := hm0.f_336_29
                    have zb40 := hm0.f_346_4
                    have q41 : m0 346 4 = (m0 346 4) := (hm0.g (by decide)).trans (((Eq.refl (m0 346 4)).trans (hm0.g (by decide))).symm)
                    refine z_X12_fillsHours hS hm0 (by omega) (by omega) (by omega) (fun m42 hm42 fm42 ym42_0 => ?_)
                    have zb43 := hm42.f_336_29
                    have zb44 := hm42.f_346_4
                    refine g_getr 27 349 rfl hS.k336 hm42.f_336_27 (by decide) ?_
                    refine g_C ?_
                    refine ⟨hS.k336, ?_⟩
                    refine u_X12_jugOf ?_
                    refine g_getr 20 346 rfl hS.k336 hm42.f_336_20 (by decide) ?_
                    refine g_C ?_
                    refine g_C ?_
                    refine g_M (by omega) (by omega) ?_
                    refine g_A (by omega) (by omega) ?_
                    refine g_A (by omega) (by omega) ?_
                    refine g_ld (0) (5) hS.k346 hS.l346 (by omega) (by omega) (fam_346_35_4_0_3 hm42 (a := u1) (by omega) (by omega) (by omega)) (fun v45 ev45 bv45 cv45 => ?_)
                    refine g_ld (0) (99) hS.k349 hS.l349 (by omega) (by omega) (hm42.a_349 (by omega) (by omega)) (fun v46 ev46 bv46 cv46 => ?_)
                    refine g_C ?_
                    refine g_if (fun w47 => ?_) (fun w47 => ?_)
                    · refine g_C ?_
                      refine ⟨hS.k336, ?_⟩
                      refine u_X12_jugOf ?_
                      refine g_getr 20 346 rfl hS.k336 hm42.f_336_20 (by decide) ?_
                      refine g_C ?_
                      refine g_C ?_
                      refine g_M (by omega) (by omega) ?_
                      refine g_A (by omega) (by omega) ?_
                      refine g_A (by omega) (by omega) ?_
                      refine g_ld (0) (5) hS.k346 hS.l346 (by omega) (by omega) (fam_346_35_4_0_3 hm42 (a := u1) (by omega) (by omega) (by omega)) (fun v48 ev48 bv48 cv48 => ?_)
                      have qv48 : v48 = v45 := ev48.trans ev45.symm
                      refine ⟨hS.k336, ?_⟩
                      have zb49 := hm42.f_336_29
                      have q50 : m42 336 29 = (m0 336 29) := (Eq.refl (m42 336 29)).trans ((fm42 _ _ (by omega)).trans (Eq.refl (m0 336 29)).symm)
                      have zb51 := hm42.f_346_4
                      have q52 : m42 346 4 = (m0 346 4) := (hm42.g (by decide)).trans (((Eq.refl (m0 346 4)).trans (hm0.g (by decide))).symm)
                      have gfA := hm42.g (c := 346) (p := 0) (by decide)
                      have gfB := hm42.g (c := 346) (p := 5) (by decide)
                      have gfC := hm0.g (c := 346) (p := 5) (by decide)
                      have gfD := hm42.pl.1.2 u1 (by omega) (by omega)
                      have gfE : m42 346 (35 + 4 * u1 + 0) = m42 346 (35 + 4 * u1) := congrArg (m42 346) (by omega)
                      have gfF : m42 349 v48 = m42 349 v45 := congrArg (m42 349) qv48
                      refine z_X12_fillsRoads hS hm42 (by omega) (by omega) (by omega) (by omega) (by assumption) (by omega) (by omega) (fun m53 hm53 => ?_)
                      have zb54 := hm53.f_336_29
                      have zb55 := hm53.f_346_4
                      refine g_get 29 (0) (6) rfl hS.k336 hm53.f_336_29 (fun v56 ev56 bv56 cv56 => ?_)
                      have qv56 : v56 = (m53 336 29) := ev56.trans (Eq.refl (m53 336 29)).symm
                      refine g_if (fun w57 => ?_) (fun w57 => ?_)
                      · refine u_X12_relay_120 ?_
                        refine g_C ?_
                        refine g_C ?_
                        refine g_C ?_
                        refine g_C ?_
                        have L_n_l658 : ∀ (n_l658 : Nat) (u63 : Int) (u64 : Int) (u65 : Int) (u66 : Int) (m67 : Mm), Inv X S m67 → (-2147483648) ≤ u63 → u63 ≤ 2147483647 → (-1) ≤ u64 → u64 ≤ 65536 → (-2147483648) ≤ u65 → u65 ≤ 2147483647 → 0 ≤ u66 → u66 ≤ 15625 → (m67 336 29 = 0 ∨ 1 ≤ m67 346 4) → 15626 - u66 ≤ (n_l658 : Int) → wp_X12_relay_132 S K n_l658 336 u1 u3 u4 u5 u63 u64 u65 u66 m67 := by
                          intro n_l658
                          induction n_l658 with
                          | zero => intro u63 u64 u65 u66 m67 hm67 bu63 cu63 bu64 cu64 bu65 cu65 bu66 cu66 xn_l658_0 zn_l658; exfalso; omega
                          | succ n_l658 ih_n_l658 =>
                            intro u63 u64 u65 u66 m67 hm67 bu63 cu63 bu64 cu64 bu65 cu65 bu66 cu66 xn_l658_0 zn_l658
                            refine u_X12_relay_132 ?_
                            refine g_getr 20 346 rfl hS.k336 hm67.f_336_20 (by decide) ?_
                            refine g_C ?_
                            refine g_ld (0) (5) hS.k346 hS.l346 (by omega) (by omega) (hm67.f_346_4) (fun v659 ev659 bv659 cv659 => ?_)
                            have qv659 : v659 = (m0 346 4) := (ev659.trans (hm67.g (by decide))).trans (((Eq.refl (m0 346 4)).trans (hm0.g (by decide))).symm)
                            refine g_get 29 (0) (6) rfl hS.k336 hm67.f_336_29 (fun v660 ev660 bv660 cv660 => ?_)
                            have zb661 := hm67.f_336_29
                            have zb663 := hm67.f_346_4
                            have q664 : m67 346 4 = (m0 346 4) := (hm67.g (by decide)).trans (((Eq.refl (m0 346 4)).trans (hm0.g (by decide))).symm)
                            refine z_X12_power hS hm67 (by omega) (by omega) (by omega) (by omega) (by omega) (fun v665 bv665 cv665 => ?_)
                            refine g_if (fun w666 => ?_) (fun w666 => ?_)
                            · refine g_C ?_
                              refine g_if (fun w667 => ?_) (fun w667 => ?_)
                              · refine g_if (fun w668 => ?_) (fun w668 => ?_)
                                · refine u_X12_relay_250 ?_
                                  refine g_C ?_
                                  have zb669 := hm67.f_336_29
                                  have zb671 := hm67.f_346_4
                                  have q672 : m67 346 4 = (m0 346 4) := (hm67.g (by decide)).trans (((Eq.refl (m0 346 4)).trans (hm0.g (by decide))).symm)
                                  exact hk (-2) m67 hm67 (by omega) (by omega)
                                · refine g_C ?_
                                  refine g_S (by omega) (by omega) ?_
                                  refine g_get 29 (0) (6) rfl hS.k336 hm67.f_336_29 (fun v673 ev673 bv673 cv673 => ?_)
                                  have qv673 : v673 = v660 := ev673.trans ev660.symm
                                  refine g_if (fun w674 => ?_) (fun w674 => ?_)
                                  · refine g_C ?_
                                    refine g_S (by omega) (by omega) ?_
                                    refine ⟨hS.k336, ?_⟩
                                    refine u_X12_handIn ?_
                                    refine g_getr 20 346 rfl hS.k336 hm67.f_336_20 (by decide) ?_
                                    refine g_C ?_
                                    refine g_ld (0) (5) hS.k346 hS.l346 (by omega) (by omega) (hm67.f_346_4) (fun v675 ev675 bv675 cv675 => ?_)
                                    have qv675 : v675 = (m0 346 4) := (ev675.trans (hm67.g (by decide))).trans (((Eq.refl (m0 346 4)).trans (hm0.g (by decide))).symm)
                                    refine g_get 29 (0) (6) rfl hS.k336 hm67.f_336_29 (fun v676 ev676 bv676 cv676 => ?_)
                                    have qv676 : v676 = v660 := ev676.trans ev660.symm
                                    refine g_C ?_
                                    refine g_S (by omega) (by omega) ?_
                                    refine g_S (by omega) (by omega) ?_
                                    have zb677 := hm67.f_336_29
                                    have zb679 := hm67.f_346_4
                                    have q680 : m67 346 4 = (m0 346 4) := (hm67.g (by decide)).trans (((Eq.refl (m0 346 4)).trans (hm0.g (by decide))).symm)
                                    refine z_X12_power hS hm67 (by omega) (by omega) (by omega) (by omega) (by omega) (fun v681 bv681 cv681 => ?_)
                                    refine g_iDiv (by omega) (by omega) (by omega) (by omega) (fun v682 bv682 cv682 => ?_)
                                    refine g_getr 20 346 rfl hS.k336 hm67.f_336_20 (by decide) ?_
                                    refine g_C ?_
                                    refine g_ld (0) (5) hS.k346 hS.l346 (by omega) (by omega) (hm67.f_346_4) (fun v683 ev683 bv683 cv683 => ?_)
                                    have qv683 : v683 = (m0 346 4) := (ev683.trans (hm67.g (by decide))).trans (((Eq.refl (m0 346 4)).trans (hm0.g (by decide))).symm)
                                    refine g_iRem (by omega) (by omega) (by omega) (by omega) (fun v684 bv684 cv684 => ?_)
                                    have zb685 := hm67.f_336_29
                                    have zb687 := hm67.f_346_4
                                    have q688 : m67 346 4 = (m0 346 4) := (hm67.g (by decide)).trans (((Eq.refl (m0 346 4)).trans (hm0.g (by decide))).symm)
                                    exact hk v684 m67 hm67 (by omega) (by omega)
                                  · refine u_X12_relay_250 ?_
                                    refine g_C ?_
                                    have zb689 := hm67.f_336_29
                                    have zb691 := hm67.f_346_4
                                    have q692 : m67 346 4 = (m0 346 4) := (hm67.g (by decide)).trans (((Eq.refl (m0 346 4)).trans (hm0.g (by decide))).symm)
                                    exact hk (-2) m67 hm67 (by omega) (by omega)
                              · refine g_if (fun w693 => ?_) (fun w693 => ?_)
                                · have zb694 := hm67.f_336_29
                                  have zb696 := hm67.f_346_4
                                  have q697 : m67 346 4 = (m0 346 4) := (hm67.g (by decide)).trans (((Eq.refl (m0 346 4)).trans (hm0.g (by decide))).symm)
                                  exact hk u65 m67 hm67 (by omega) (by omega)
                                · have zb698 := hm67.f_336_29
                                  have zb700 := hm67.f_346_4
                                  have q701 : m67 346 4 = (m0 346 4) := (hm67.g (by decide)).trans (((Eq.refl (m0 346 4)).trans (hm0.g (by decide))).symm)
                                  exact hk u63 m67 hm67 (by omega) (by omega)
                            · refine ⟨hS.k336, ?_⟩
                              have zb702 := hm67.f_336_29
                              have zb704 := hm67.f_346_4
                              have q705 : m67 346 4 = (m0 346 4) := (hm67.g (by decide)).trans (((Eq.refl (m0 346 4)).trans (hm0.g (by decide))).symm)
                              refine z_X12_turnedByRow hS hm67 (by omega) (by omega) (by omega) (by omega) (by omega) (fun v706 m707 hm707 fm707 bv706 cv706 => ?_)
                              have zb708 := hm707.f_336_29
                              have zb709 := hm707.f_346_4
                              refine g_if (fun w710 => ?_) (fun w710 => ?_)
                              · refine u_X12_relay_171 ?_
                                refine u_X12_relay_178 ?_
                                refine g_C ?_
                                refine g_C ?_
                                refine g_C ?_
                                refine z_in (fun aw711 bw711 => ?_) (fun cw711 => ?_)
                                · refine g_ifT (by omega) ?_
                                  refine g_if (fun w712 => ?_) (fun w712 => ?_)
                                  · refine u_X12_relay_206 ?_
                                    refine g_Aw (fun v713 bv713 cv713 => ?_)
                                    refine u_X12_relay_209 ?_
                                    refine g_A (by omega) (by omega) ?_
                                    have zb714 := hm707.f_336_29
                                    have q715 : m707 336 29 = v660 := (Eq.refl (m707 336 29)).trans ((fm707 _ _ (by omega)).trans ev660.symm)
                                    have zb716 := hm707.f_346_4
                                    have q717 : m707 346 4 = (m0 346 4) := (hm707.g (by decide)).trans (((Eq.refl (m0 346 4)).trans (hm0.g (by decide))).symm)
                                    exact ih_n_l658 v713 u64 v706 (u66 + 1) m707 hm707 (by omega) (by omega) (by omega) (by omega) (by omega) (by omega) (by omega) (by omega) (by omega) (by omega)
                                  · refine u_X12_relay_206 ?_
                                    refine g_A (by omega) (by omega) ?_
                                    refine u_X12_relay_209 ?_
                                    refine g_A (by omega) (by omega) ?_
                                    have zb718 := hm707.f_336_29
                                    have q719 : m707 336 29 = v660 := (Eq.refl (m707 336 29)).trans ((fm707 _ _ (by omega)).trans ev660.symm)
                                    have zb720 := hm707.f_346_4
                                    have q721 : m707 346 4 = (m0 346 4) := (hm707.g (by decide)).trans (((Eq.refl (m0 346 4)).trans (hm0.g (by decide))).symm)
                                    exact ih_n_l658 (u63 + 1) u66 v706 (u66 + 1) m707 hm707 (by omega) (by omega) (by omega) (by omega) (by omega) (by omega) (by omega) (by omega) (by omega) (by omega)
                                · refine g_ifF (by omega) ?_
                                  refine u_X12_relay_209 ?_
                                  refine g_A (by omega) (by omega) ?_
                                  have zb722 := hm707.f_336_29
                                  have q723 : m707 336 29 = v660 := (Eq.refl (m707 336 29)).trans ((fm707 _ _ (by omega)).trans ev660.symm)
                                  have zb724 := hm707.f_346_4
                                  have q725 : m707 346 4 = (m0 346 4) := (hm707.g (by decide)).trans (((Eq.refl (m0 346 4)).trans (hm0.g (by decide))).symm)
                                  exact ih_n_l658 u63 u64 v706 (u66 + 1) m707 hm707 (by omega) (by omega) (by omega) (by omega) (by omega) (by omega) (by omega) (by omega) (by omega) (by omega)
                              · refine g_if (fun w726 => ?_) (fun w726 => ?_)
                                · refine u_X12_relay_178 ?_
                                  refine g_C ?_
                                  refine g_C ?_
                                  refine g_C ?_
                                  refine z_in (fun aw727 bw727 => ?_) (fun cw727 => ?_)
                                  · refine g_ifT (by omega) ?_
                                    refine g_if (fun w728 => ?_) (fun w728 => ?_)
                                    · refine u_X12_relay_206 ?_
                                      refine g_Aw (fun v729 bv729 cv729 => ?_)
                                      refine u_X12_relay_209 ?_
                                      refine g_A (by omega) (by omega) ?_
                                      have zb730 := hm707.f_336_29
                                      have q731 : m707 336 29 = v660 := (Eq.refl (m707 336 29)).trans ((fm707 _ _ (by omega)).trans ev660.symm)
                                      have zb732 := hm707.f_346_4
                                      have q733 : m707 346 4 = (m0 346 4) := (hm707.g (by decide)).trans (((Eq.refl (m0 346 4)).trans (hm0.g (by decide))).symm)
                                      exact ih_n_l658 v729 u64 u65 (u66 + 1) m707 hm707 (by omega) (by omega) (by omega) (by omega) (by omega) (by omega) (by omega) (by omega) (by omega) (by omega)
                                    · refine u_X12_relay_206 ?_
                                      refine g_A (by omega) (by omega) ?_
                                      refine u_X12_relay_209 ?_
                                      refine g_A (by omega) (by omega) ?_
                                      have zb734 := hm707.f_336_29
                                      have q735 : m707 336 29 = v660 := (Eq.refl (m707 336 29)).trans ((fm707 _ _ (by omega)).trans ev660.symm)
                                      have zb736 := hm707.f_346_4
                                      have q737 : m707 346 4 = (m0 346 4) := (hm707.g (by decide)).trans (((Eq.refl (m0 346 4)).trans (hm0.g (by decide))).symm)
                                      exact ih_n_l658 (u63 + 1) u66 u65 (u66 + 1) m707 hm707 (by omega) (by omega) (by omega) (by omega) (by omega) (by omega) (by omega) (by omega) (by omega) (by omega)
                                  · refine g_ifF (by omega) ?_
                                    refine u_X12_relay_209 ?_
                                    refine g_A (by omega) (by omega) ?_
                                    have zb738 := hm707.f_336_29
                                    have q739 : m707 336 29 = v660 := (Eq.refl (m707 336 29)).trans ((fm707 _ _ (by omega)).trans ev660.symm)
                                    have zb740 := hm707.f_346_4
                                    have q741 : m707 346 4 = (m0 346 4) := (hm707.g (by decide)).trans (((Eq.refl (m0 346 4)).trans (hm0.g (by decide))).symm)
                                    exact ih_n_l658 u63 u64 u65 (u66 + 1) m707 hm707 (by omega) (by omega) (by omega) (by omega) (by omega) (by omega) (by omega) (by omega) (by omega) (by omega)
                                · refine u_X12_relay_171 ?_
                                  refine u_X12_relay_178 ?_
                                  refine g_C ?_
                                  refine g_C ?_
                                  refine g_C ?_
                                  refine z_in (fun aw742 bw742 => ?_) (fun cw742 => ?_)
                                  · refine g_ifT (by omega) ?_
                                    refine g_if (fun w743 => ?_) (fun w743 => ?_)
                                    · refine u_X12_relay_206 ?_
                                      refine g_Aw (fun v744 bv744 cv744 => ?_)
                                      refine u_X12_relay_209 ?_
                                      refine g_A (by omega) (by omega) ?_
                                      have zb745 := hm707.f_336_29
                                      have q746 : m707 336 29 = v660 := (Eq.refl (m707 336 29)).trans ((fm707 _ _ (by omega)).trans ev660.symm)
                                      have zb747 := hm707.f_346_4
                                      have q748 : m707 346 4 = (m0 346 4) := (hm707.g (by decide)).trans (((Eq.refl (m0 346 4)).trans (hm0.g (by decide))).symm)
                                      exact ih_n_l658 v744 u64 v706 (u66 + 1) m707 hm707 (by omega) (by omega) (by omega) (by omega) (by omega) (by omega) (by omega) (by omega) (by omega) (by omega)
                                    · refine u_X12_relay_206 ?_
                                      refine g_A (by omega) (by omega) ?_
                                      refine u_X12_relay_209 ?_
                                      refine g_A (by omega) (by omega) ?_
                                      have zb749 := hm707.f_336_29
                                      have q750 : m707 336 29 = v660 := (Eq.refl (m707 336 29)).trans ((fm707 _ _ (by omega)).trans ev660.symm)
                                      have zb751 := hm707.f_346_4
                                      have q752 : m707 346 4 = (m0 346 4) := (hm707.g (by decide)).trans (((Eq.refl (m0 346 4)).trans (hm0.g (by decide))).symm)
                                      exact ih_n_l658 (u63 + 1) u66 v706 (u66 + 1) m707 hm707 (by omega) (by omega) (by omega) (by omega) (by omega) (by omega) (by omega) (by omega) (by omega) (by omega)
                                  · refine g_ifF (by omega) ?_
                                    refine u_X12_relay_209 ?_
                                    refine g_A (by omega) (by omega) ?_
                                    have zb753 := hm707.f_336_29
                                    have q754 : m707 336 29 = v660 := (Eq.refl (m707 336 29)).trans ((fm707 _ _ (by omega)).trans ev660.symm)
                                    have zb755 := hm707.f_346_4
                                    have q756 : m707 346 4 = (m0 346 4) := (hm707.g (by decide)).trans (((Eq.refl (m0 346 4)).trans (hm0.g (by decide))).symm)
                                    exact ih_n_l658 u63 u64 v706 (u66 + 1) m707 hm707 (by omega) (by omega) (by omega) (by omega) (by omega) (by omega) (by omega) (by omega) (by omega) (by omega)
                        have zb757 := hm53.f_336_29
                        have zb759 := hm53.f_346_4
                        have q760 : m53 346 4 = (m0 346 4) := (hm53.g (by decide)).trans (((Eq.refl (m0 346 4)).trans (hm0.g (by decide))).symm)
                        exact ⟨15626, L_n_l658 15626 0 (-1) (-1) 0 m53 hm53 (by omega) (by omega) (by omega) (by omega) (by omega) (by omega) (by omega) (by omega) (by omega) (by omega)⟩
                      · refine g_getr 20 346 rfl hS.k336 hm53.f_336_20 (by decide) ?_
                        refine g_C ?_
                        refine g_ld (0) (5) hS.k346 hS.l346 (by omega) (by omega) (hm53.f_346_4) (fun v761 ev761 bv761 cv761 => ?_)
                        have qv761 : v761 = (m0 346 4) := (ev761.trans (hm53.g (by decide))).trans (((Eq.refl (m0 346 4)).trans (hm0.g (by decide))).symm)
                        refine g_if (fun w762 => ?_) (fun w762 => ?_)
                        · refine u_X12_relay_120 ?_
                          refine g_C ?_
                          refine g_C ?_
                          refine g_C ?_
                          refine g_C ?_
                          have L_n_l1363 : ∀ (n_l1363 : Nat) (u768 : Int) (u769 : Int) (u770 : Int) (u771 : Int) (m772 : Mm), Inv X S m772 → (-2147483648) ≤ u768 → u768 ≤ 2147483647 → (-1) ≤ u769 → u769 ≤ 65536 → (-2147483648) ≤ u770 → u770 ≤ 2147483647 → 0 ≤ u771 → u771 ≤ 15625 → (m772 336 29 = 0 ∨ 1 ≤ m772 346 4) → 15626 - u771 ≤ (n_l1363 : Int) → wp_X12_relay_132 S K n_l1363 336 u1 u3 u4 u5 u768 u769 u770 u771 m772 := by
                            intro n_l1363
                            induction n_l1363 with
                            | zero => intro u768 u769 u770 u771 m772 hm772 bu768 cu768 bu769 cu769 bu770 cu770 bu771 cu771 xn_l1363_0 zn_l1363; exfalso; omega
                            | succ n_l1363 ih_n_l1363 =>
                              intro u768 u769 u770 u771 m772 hm772 bu768 cu768 bu769 cu769 bu770 cu770 bu771 cu771 xn_l1363_0 zn_l1363
                              refine u_X12_relay_132 ?_
                              refine g_getr 20 346 rfl hS.k336 hm772.f_336_20 (by decide) ?_
                              refine g_C ?_
                              refine g_ld (0) (5) hS.k346 hS.l346 (by omega) (by omega) (hm772.f_346_4) (fun v1364 ev1364 bv1364 cv1364 => ?_)
                              have qv1364 : v1364 = (m0 346 4) := (ev1364.trans (hm772.g (by decide))).trans (((Eq.refl (m0 346 4)).trans (hm0.g (by decide))).symm)
                              refine g_get 29 (0) (6) rfl hS.k336 hm772.f_336_29 (fun v1365 ev1365 bv1365 cv1365 => ?_)
                              have zb1366 := hm772.f_336_29
                              have zb1368 := hm772.f_346_4
                              have q1369 : m772 346 4 = (m0 346 4) := (hm772.g (by decide)).trans (((Eq.refl (m0 346 4)).trans (hm0.g (by decide))).symm)
                              refine z_X12_power hS hm772 (by omega) (by omega) (by omega) (by omega) (by omega) (fun v1370 bv1370 cv1370 => ?_)
                              refine g_if (fun w1371 => ?_) (fun w1371 => ?_)
                              · refine g_C ?_
                                refine g_if (fun w1372 => ?_) (fun w1372 => ?_)
                                · refine g_if (fun w1373 => ?_) (fun w1373 => ?_)
                                  · refine u_X12_relay_250 ?_
                                    refine g_C ?_
                                    have zb1374 := hm772.f_336_29
                                    have zb1376 := hm772.f_346_4
                                    have q1377 : m772 346 4 = (m0 346 4) := (hm772.g (by decide)).trans (((Eq.refl (m0 346 4)).trans (hm0.g (by decide))).symm)
                                    exact hk (-2) m772 hm772 (by omega) (by omega)
                                  · refine g_C ?_
                                    refine g_S (by omega) (by omega) ?_
                                    refine g_get 29 (0) (6) rfl hS.k336 hm772.f_336_29 (fun v1378 ev1378 bv1378 cv1378 => ?_)
                                    have qv1378 : v1378 = v1365 := ev1378.trans ev1365.symm
                                    refine g_if (fun w1379 => ?_) (fun w1379 => ?_)
                                    · refine g_C ?_
                                      refine g_S (by omega) (by omega) ?_
                                      refine ⟨hS.k336, ?_⟩
                                      refine u_X12_handIn ?_
                                      refine g_getr 20 346 rfl hS.k336 hm772.f_336_20 (by decide) ?_
                                      refine g_C ?_
                                      refine g_ld (0) (5) hS.k346 hS.l346 (by omega) (by omega) (hm772.f_346_4) (fun v1380 ev1380 bv1380 cv1380 => ?_)
                                      have qv1380 : v1380 = (m0 346 4) := (ev1380.trans (hm772.g (by decide))).trans (((Eq.refl (m0 346 4)).trans (hm0.g (by decide))).symm)
                                      refine g_get 29 (0) (6) rfl hS.k336 hm772.f_336_29 (fun v1381 ev1381 bv1381 cv1381 => ?_)
                                      have qv1381 : v1381 = v1365 := ev1381.trans ev1365.symm
                                      refine g_C ?_
                                      refine g_S (by omega) (by omega) ?_
                                      refine g_S (by omega) (by omega) ?_
                                      have zb1382 := hm772.f_336_29
                                      have zb1384 := hm772.f_346_4
                                      have q1385 : m772 346 4 = (m0 346 4) := (hm772.g (by decide)).trans (((Eq.refl (m0 346 4)).trans (hm0.g (by decide))).symm)
                                      refine z_X12_power hS hm772 (by omega) (by omega) (by omega) (by omega) (by omega) (fun v1386 bv1386 cv1386 => ?_)
                                      refine g_iDiv (by omega) (by omega) (by omega) (by omega) (fun v1387 bv1387 cv1387 => ?_)
                                      refine g_getr 20 346 rfl hS.k336 hm772.f_336_20 (by decide) ?_
                                      refine g_C ?_
                                      refine g_ld (0) (5) hS.k346 hS.l346 (by omega) (by omega) (hm772.f_346_4) (fun v1388 ev1388 bv1388 cv1388 => ?_)
                                      have qv1388 : v1388 = (m0 346 4) := (ev1388.trans (hm772.g (by decide))).trans (((Eq.refl (m0 346 4)).trans (hm0.g (by decide))).symm)
                                      refine g_iRem (by omega) (by omega) (by omega) (by omega) (fun v1389 bv1389 cv1389 => ?_)
                                      have zb1390 := hm772.f_336_29
                                      have zb1392 := hm772.f_346_4
                                      have q1393 : m772 346 4 = (m0 346 4) := (hm772.g (by decide)).trans (((Eq.refl (m0 346 4)).trans (hm0.g (by decide))).symm)
                                      exact hk v1389 m772 hm772 (by omega) (by omega)
                                    · refine u_X12_relay_250 ?_
                                      refine g_C ?_
                                      have zb1394 := hm772.f_336_29
                                      have zb1396 := hm772.f_346_4
                                      have q1397 : m772 346 4 = (m0 346 4) := (hm772.g (by decide)).trans (((Eq.refl (m0 346 4)).trans (hm0.g (by decide))).symm)
                                      exact hk (-2) m772 hm772 (by omega) (by omega)
                                · refine g_if (fun w1398 => ?_) (fun w1398 => ?_)
                                  · have zb1399 := hm772.f_336_29
                                    have zb1401 := hm772.f_346_4
                                    have q1402 : m772 346 4 = (m0 346 4) := (hm772.g (by decide)).trans (((Eq.refl (m0 346 4)).trans (hm0.g (by decide))).symm)
                                    exact hk u770 m772 hm772 (by omega) (by omega)
                                  · have zb1403 := hm772.f_336_29
                                    have zb1405 := hm772.f_346_4
                                    have q1406 : m772 346 4 = (m0 346 4) := (hm772.g (by decide)).trans (((Eq.refl (m0 346 4)).trans (hm0.g (by decide))).symm)
                                    exact hk u768 m772 hm772 (by omega) (by omega)
                              · refine ⟨hS.k336, ?_⟩
                                have zb1407 := hm772.f_336_29
                                have zb1409 := hm772.f_346_4
                                have q1410 : m772 346 4 = (m0 346 4) := (hm772.g (by decide)).trans (((Eq.refl (m0 346 4)).trans (hm0.g (by decide))).symm)
                                refine z_X12_turnedByRow hS hm772 (by omega) (by omega) (by omega) (by omega) (by omega) (fun v1411 m1412 hm1412 fm1412 bv1411 cv1411 => ?_)
                                have zb1413 := hm1412.f_336_29
                                have zb1414 := hm1412.f_346_4
                                refine g_if (fun w1415 => ?_) (fun w1415 => ?_)
                                · refine u_X12_relay_171 ?_
                                  refine u_X12_relay_178 ?_
                                  refine g_C ?_
                                  refine g_C ?_
                                  refine g_C ?_
                                  refine z_in (fun aw1416 bw1416 => ?_) (fun cw1416 => ?_)
                                  · refine g_ifT (by omega) ?_
                                    refine g_if (fun w1417 => ?_) (fun w1417 => ?_)
                                    · refine u_X12_relay_206 ?_
                                      refine g_Aw (fun v1418 bv1418 cv1418 => ?_)
                                      refine u_X12_relay_209 ?_
                                      refine g_A (by omega) (by omega) ?_
                                      have zb1419 := hm1412.f_336_29
                                      have q1420 : m1412 336 29 = v1365 := (Eq.refl (m1412 336 29)).trans ((fm1412 _ _ (by omega)).trans ev1365.symm)
                                      have zb1421 := hm1412.f_346_4
                                      have q1422 : m1412 346 4 = (m0 346 4) := (hm1412.g (by decide)).trans (((Eq.refl (m0 346 4)).trans (hm0.g (by decide))).symm)
                                      exact ih_n_l1363 v1418 u769 v1411 (u771 + 1) m1412 hm1412 (by omega) (by omega) (by omega) (by omega) (by omega) (by omega) (by omega) (by omega) (by omega) (by omega)
                                    · refine u_X12_relay_206 ?_
                                      refine g_A (by omega) (by omega) ?_
                                      refine u_X12_relay_209 ?_
                                      refine g_A (by omega) (by omega) ?_
                                      have zb1423 := hm1412.f_336_29
                                      have q1424 : m1412 336 29 = v1365 := (Eq.refl (m1412 336 29)).trans ((fm1412 _ _ (by omega)).trans ev1365.symm)
                                      have zb1425 := hm1412.f_346_4
                                      have q1426 : m1412 346 4 = (m0 346 4) := (hm1412.g (by decide)).trans (((Eq.refl (m0 346 4)).trans (hm0.g (by decide))).symm)
                                      exact ih_n_l1363 (u768 + 1) u771 v1411 (u771 + 1) m1412 hm1412 (by omega) (by omega) (by omega) (by omega) (by omega) (by omega) (by omega) (by omega) (by omega) (by omega)
                                  · refine g_ifF (by omega) ?_
                                    refine u_X12_relay_209 ?_
                                    refine g_A (by omega) (by omega) ?_
                                    have zb1427 := hm1412.f_336_29
                                    have q1428 : m1412 336 29 = v1365 := (Eq.refl (m1412 336 29)).trans ((fm1412 _ _ (by omega)).trans ev1365.symm)
                                    have zb1429 := hm1412.f_346_4
                                    have q1430 : m1412 346 4 = (m0 346 4) := (hm1412.g (by decide)).trans (((Eq.refl (m0 346 4)).trans (hm0.g (by decide))).symm)
                                    exact ih_n_l1363 u768 u769 v1411 (u771 + 1) m1412 hm1412 (by omega) (by omega) (by omega) (by omega) (by omega) (by omega) (by omega) (by omega) (by omega) (by omega)
                                · refine g_if (fun w1431 => ?_) (fun w1431 => ?_)
                                  · refine u_X12_relay_178 ?_
                                    refine g_C ?_
                                    refine g_C ?_
                                    refine g_C ?_
                                    refine z_in (fun aw1432 bw1432 => ?_) (fun cw1432 => ?_)
                                    · refine g_ifT (by omega) ?_
                                      refine g_if (fun w1433 => ?_) (fun w1433 => ?_)
                                      · refine u_X12_relay_206 ?_
                                        refine g_Aw (fun v1434 bv1434 cv1434 => ?_)
                                        refine u_X12_relay_209 ?_
                                        refine g_A (by omega) (by omega) ?_
                                        have zb1435 := hm1412.f_336_29
                                        have q1436 : m1412 336 29 = v1365 := (Eq.refl (m1412 336 29)).trans ((fm1412 _ _ (by omega)).trans ev1365.symm)
                                        have zb1437 := hm1412.f_346_4
                                        have q1438 : m1412 346 4 = (m0 346 4) := (hm1412.g (by decide)).trans (((Eq.refl (m0 346 4)).trans (hm0.g (by decide))).symm)
                                        exact ih_n_l1363 v1434 u769 u770 (u771 + 1) m1412 hm1412 (by omega) (by omega) (by omega) (by omega) (by omega) (by omega) (by omega) (by omega) (by omega) (by omega)
                                      · refine u_X12_relay_206 ?_
                                        refine g_A (by omega) (by omega) ?_
                                        refine u_X12_relay_209 ?_
                                        refine g_A (by omega) (by omega) ?_
                                        have zb1439 := hm1412.f_336_29
                                        have q1440 : m1412 336 29 = v1365 := (Eq.refl (m1412 336 29)).trans ((fm1412 _ _ (by omega)).trans ev1365.symm)
                                        have zb1441 := hm1412.f_346_4
                                        have q1442 : m1412 346 4 = (m0 346 4) := (hm1412.g (by decide)).trans (((Eq.refl (m0 346 4)).trans (hm0.g (by decide))).symm)
                                        exact ih_n_l1363 (u768 + 1) u771 u770 (u771 + 1) m1412 hm1412 (by omega) (by omega) (by omega) (by omega) (by omega) (by omega) (by omega) (by omega) (by omega) (by omega)
                                    · refine g_ifF (by omega) ?_
                                      refine u_X12_relay_209 ?_
                                      refine g_A (by omega) (by omega) ?_
                                      have zb1443 := hm1412.f_336_29
                                      have q1444 : m1412 336 29 = v1365 := (Eq.refl (m1412 336 29)).trans ((fm1412 _ _ (by omega)).trans ev1365.symm)
                                      have zb1445 := hm1412.f_346_4
                                      have q1446 : m1412 346 4 = (m0 346 4) := (hm1412.g (by decide)).trans (((Eq.refl (m0 346 4)).trans (hm0.g (by decide))).symm)
                                      exact ih_n_l1363 u768 u769 u770 (u771 + 1) m1412 hm1412 (by omega) (by omega) (by omega) (by omega) (by omega) (by omega) (by omega) (by omega) (by omega) (by omega)
                                  · refine u_X12_relay_171 ?_
                                    refine u_X12_relay_178 ?_
                                    refine g_C ?_
                                    refine g_C ?_
                                    refine g_C ?_
                                    refine z_in (fun aw1447 bw1447 => ?_) (fun cw1447 => ?_)
                                    · refine g_ifT (by omega) ?_
                                      refine g_if (fun w1448 => ?_) (fun w1448 => ?_)
                                      · refine u_X12_relay_206 ?_
                                        refine g_Aw (fun v1449 bv1449 cv1449 => ?_)
                                        refine u_X12_relay_209 ?_
                                        refine g_A (by omega) (by omega) ?_
                                        have zb1450 := hm1412.f_336_29
                                        have q1451 : m1412 336 29 = v1365 := (Eq.refl (m1412 336 29)).trans ((fm1412 _ _ (by omega)).trans ev1365.symm)
                                        have zb1452 := hm1412.f_346_4
                                        have q1453 : m1412 346 4 = (m0 346 4) := (hm1412.g (by decide)).trans (((Eq.refl (m0 346 4)).trans (hm0.g (by decide))).symm)
                                        exact ih_n_l1363 v1449 u769 v1411 (u771 + 1) m1412 hm1412 (by omega) (by omega) (by omega) (by omega) (by omega) (by omega) (by omega) (by omega) (by omega) (by omega)
                                      · refine u_X12_relay_206 ?_
                                        refine g_A (by omega) (by omega) ?_
                                        refine u_X12_relay_209 ?_
                                        refine g_A (by omega) (by omega) ?_
                                        have zb1454 := hm1412.f_336_29
                                        have q1455 : m1412 336 29 = v1365 := (Eq.refl (m1412 336 29)).trans ((fm1412 _ _ (by omega)).trans ev1365.symm)
                                        have zb1456 := hm1412.f_346_4
                                        have q1457 : m1412 346 4 = (m0 346 4) := (hm1412.g (by decide)).trans (((Eq.refl (m0 346 4)).trans (hm0.g (by decide))).symm)
                                        exact ih_n_l1363 (u768 + 1) u771 v1411 (u771 + 1) m1412 hm1412 (by omega) (by omega) (by omega) (by omega) (by omega) (by omega) (by omega) (by omega) (by omega) (by omega)
                                    · refine g_ifF (by omega) ?_
                                      refine u_X12_relay_209 ?_
                                      refine g_A (by omega) (by omega) ?_
                                      have zb1458 := hm1412.f_336_29
                                      have q1459 : m1412 336 29 = v1365 := (Eq.refl (m1412 336 29)).trans ((fm1412 _ _ (by omega)).trans ev1365.symm)
                                      have zb1460 := hm1412.f_346_4
                                      have q1461 : m1412 346 4 = (m0 346 4) := (hm1412.g (by decide)).trans (((Eq.refl (m0 346 4)).trans (hm0.g (by decide))).symm)
                                      exact ih_n_l1363 u768 u769 v1411 (u771 + 1) m1412 hm1412 (by omega) (by omega) (by omega) (by omega) (by omega) (by omega) (by omega) (by omega) (by omega) (by omega)
                          have zb1462 := hm53.f_336_29
                          have zb1464 := hm53.f_346_4
                          have q1465 : m53 346 4 = (m0 346 4) := (hm53.g (by decide)).trans (((Eq.refl (m0 346 4)).trans (hm0.g (by decide))).symm)
                          exact ⟨15626, L_n_l1363 15626 0 (-1) (-1) 0 m53 hm53 (by omega) (by omega) (by omega) (by omega) (by omega) (by omega) (by omega) (by omega) (by omega) (by omega)⟩
                        · refine g_C ?_
                          have zb1466 := hm53.f_336_29
                          have zb1468 := hm53.f_346_4
                          have q1469 : m53 346 4 = (m0 346 4) := (hm53.g (by decide)).trans (((Eq.refl (m0 346 4)).trans (hm0.g (by decide))).symm)
                          exact hk (-2) m53 hm53 (by omega) (by omega)
                    · refine g_C ?_
                      have zb1470 := hm42.f_336_29
                      have q1471 : m42 336 29 = (m0 336 29) := (Eq.refl (m42 336 29)).trans ((fm42 _ _ (by omega)).trans (Eq.refl (m0 336 29)).symm)
                      have zb1472 := hm42.f_346_4
                      have q1473 : m42 346 4 = (m0 346 4) := (hm42.g (by decide)).trans (((Eq.refl (m0 346 4)).trans (hm0.g (by decide))).symm)
                      exact hk (-2) m42 hm42 (by omega) (by omega)
                  · refine g_ifF (by omega) ?_
                    refine g_C ?_
                    have zb1474 := hm0.f_336_29
                    have zb1476 := hm0.f_346_4
                    have q1477 : m0 346 4 = (m0 346 4) := (hm0.g (by decide)).trans (((Eq.refl (m0 346 4)).trans (hm0.g (by decide))).symm)
                    exact hk (-3) m0 hm0 (by omega) (by omega)
                · refine g_ifT (by omega) ?_
                  refine g_C ?_
                  have zb1478 := hm0.f_336_29
                  have zb1480 := hm0.f_346_4
                  have q1481 : m0 346 4 = (m0 346 4) := (hm0.g (by decide)).trans (((Eq.refl (m0 346 4)).trans (hm0.g (by decide))).symm)
                  exact hk (-3) m0 hm0 (by omega) (by omega)
              · refine g_ifT (by omega) ?_
                refine g_C ?_
                have zb1482 := hm0.f_336_29
                have zb1484 := hm0.f_346_4
                have q1485 : m0 346 4 = (m0 346 4) := (hm0.g (by decide)).trans (((Eq.refl (m0 346 4)).trans (hm0.g (by decide))).symm)
                exact hk (-3) m0 hm0 (by omega) (by omega)
end
section
theorem z_X12_turnedResting {X : Mm} {S : Sh} {m0 : Mm} {K : Int → Mm → Prop} {u1 u2 u3 : Int} (hS : Shp S) (hm0 : Inv X S m0) (l_u1 : 0 ≤ u1) (h_u1 : u1 ≤ 4) (l_u2 : 1 ≤ u2) (h_u2 : u2 ≤ 10) (l_u3 : 0 ≤ u3) (h_u3 : u3 ≤ 1023) (hk : ∀ (r : Int) (M1 : Mm), Inv X S M1 → (-2147483648) ≤ r → r ≤ 999 → K r M1) : wp_X12_turnedResting S m0 336 u1 u2 u3 K := by
  refine u_X12_turnedResting ?_
  refine g_C ?_
  refine g_C ?_
  refine ⟨hS.k336, ?_⟩
  refine u_X12_handOf ?_
  refine g_getr 20 346 rfl hS.k336 hm0.f_336_20 (by decide) ?_
  refine g_C ?_
  refine g_C ?_
  refine g_M (by omega) (by omega) ?_
  refine g_A (by omega) (by omega) ?_
  refine g_A (by omega) (by omega) ?_
  refine g_ld (0) (99) hS.k346 hS.l346 (by omega) (by omega) (fam_346_12_5_0_4 hm0 (a := u1) (by omega) (by omega) (by omega)) (fun v1 ev1 bv1 cv1 => ?_)
  refine g_C ?_
  have L_n_l172 : ∀ (n_l172 : Nat) (u6 : Int) (u7 : Int) (u8 : Int) (m9 : Mm), Inv X S m9 → (-2147483648) ≤ u6 → u6 ≤ 999 → 0 ≤ u7 → u7 ≤ 104 → 0 ≤ u8 → u8 ≤ 10 → 11 - u8 ≤ (n_l172 : Int) → wp_X12_turnedResting_14 S K n_l172 336 u1 u2 u3 u6 u7 u8 m9 := by
    intro n_l172
    induction n_l172 with
    | zero => intro u6 u7 u8 m9 hm9 bu6 cu6 bu7 cu7 bu8 cu8 zn_l172; exfalso; omega
    | succ n_l172 ih_n_l172 =>
      intro u6 u7 u8 m9 hm9 bu6 cu6 bu7 cu7 bu8 cu8 zn_l172
      refine u_X12_turnedResting_14 ?_
      refine g_if (fun w173 => ?_) (fun w173 => ?_)
      · exact hk u6 m9 hm9 (by omega) (by omega)
      · refine u_X12_isOf ?_
        refine g_iShr (by omega) (by omega) (fun v174 bv174 cv174 => ?_)
        refine g_C ?_
        refine g_iAndR (by omega) (by omega) (fun v175 dv175 bv175 cv175 => ?_)
        refine g_C ?_
        refine g_if (fun w176 => ?_) (fun w176 => ?_)
        · refine g_C ?_
          refine ⟨by omega, ?_⟩
          refine g_ifT (by omega) ?_
          refine g_if (fun w177 => ?_) (fun w177 => ?_)
          · refine g_C ?_
            refine u_X12_turnedResting_86 ?_
            refine g_S (by omega) (by omega) ?_
            refine u_X12_turnedResting_89 ?_
            refine g_A (by omega) (by omega) ?_
            exact ih_n_l172 u6 (u7 - 0) (u8 + 1) m9 hm9 (by omega) (by omega) (by omega) (by omega) (by omega) (by omega) (by omega)
          · refine g_C ?_
            refine u_X12_turnedResting_86 ?_
            refine g_S (by omega) (by omega) ?_
            refine u_X12_turnedResting_89 ?_
            refine g_A (by omega) (by omega) ?_
            exact ih_n_l172 u6 (u7 - 1) (u8 + 1) m9 hm9 (by omega) (by omega) (by omega) (by omega) (by omega) (by omega) (by omega)
        · refine g_C ?_
          refine ⟨by omega, ?_⟩
          refine g_ifF (by omega) ?_
          refine g_C ?_
          refine g_getr 20 346 rfl hS.k336 hm9.f_336_20 (by decide) ?_
          refine g_C ?_
          refine g_ld (-2147483648) (2147483647) hS.k346 hS.l346 (by omega) (by omega) (hm9.f_346_7) (fun v178 ev178 bv178 cv178 => ?_)
          refine g_Aw (fun v179 bv179 cv179 => ?_)
          refine g_C ?_
          refine g_C ?_
          refine ⟨hS.k336, ?_⟩
          refine z_X12_turnsIn hS hm9 (by omega) (by omega) (by omega) (by omega) (by omega) (by omega) (by omega) (by omega) (by omega) (by omega) (by omega) (by omega) (by omega) (by omega) (fun v180 m181 hm181 fm181 bv180 cv180 => ?_)
          refine g_Aw (fun v182 bv182 cv182 => ?_)
          refine g_C ?_
          refine u_X12_atMost ?_
          refine g_if (fun w183 => ?_) (fun w183 => ?_)
          · refine ⟨hS.k336, ?_⟩
            refine u_X12_moreTired ?_
            refine g_C ?_
            refine ⟨hS.k336, ?_⟩
            refine u_X12_handOf ?_
            refine g_getr 20 346 rfl hS.k336 hm181.f_336_20 (by decide) ?_
            refine g_C ?_
            refine g_C ?_
            refine g_M (by omega) (by omega) ?_
            refine g_A (by omega) (by omega) ?_
            refine g_A (by omega) (by omega) ?_
            refine g_ld (0) (5) hS.k346 hS.l346 (by omega) (by omega) (fam_346_14_5_0_4 hm181 (a := u1) (by omega) (by omega) (by omega)) (fun v184 ev184 bv184 cv184 => ?_)
            refine g_A (by omega) (by omega) ?_
            refine g_C ?_
            refine u_X12_atMost ?_
            refine g_if (fun w185 => ?_) (fun w185 => ?_)
            · refine u_X12_turnedResting_89 ?_
              refine g_A (by omega) (by omega) ?_
              exact ih_n_l172 v182 (u7 + v184) (u8 + 1) m181 hm181 (by omega) (by omega) (by omega) (by omega) (by omega) (by omega) (by omega)
            · refine u_X12_turnedResting_89 ?_
              refine g_A (by omega) (by omega) ?_
              exact ih_n_l172 v182 99 (u8 + 1) m181 hm181 (by omega) (by omega) (by omega) (by omega) (by omega) (by omega) (by omega)
          · refine ⟨hS.k336, ?_⟩
            refine u_X12_moreTired ?_
            refine g_C ?_
            refine ⟨hS.k336, ?_⟩
            refine u_X12_handOf ?_
            refine g_getr 20 346 rfl hS.k336 hm181.f_336_20 (by decide) ?_
            refine g_C ?_
            refine g_C ?_
            refine g_M (by omega) (by omega) ?_
            refine g_A (by omega) (by omega) ?_
            refine g_A (by omega) (by omega) ?_
            refine g_ld (0) (5) hS.k346 hS.l346 (by omega) (by omega) (fam_346_14_5_0_4 hm181 (a := u1) (by omega) (by omega) (by omega)) (fun v186 ev186 bv186 cv186 => ?_)
            refine g_A (by omega) (by omega) ?_
            refine g_C ?_
            refine u_X12_atMost ?_
            refine g_if (fun w187 => ?_) (fun w187 => ?_)
            · refine u_X12_turnedResting_89 ?_
              refine g_A (by omega) (by omega) ?_
              exact ih_n_l172 999 (u7 + v186) (u8 + 1) m181 hm181 (by omega) (by omega) (by omega) (by omega) (by omega) (by omega) (by omega)
            · refine u_X12_turnedResting_89 ?_
              refine g_A (by omega) (by omega) ?_
              exact ih_n_l172 999 99 (u8 + 1) m181 hm181 (by omega) (by omega) (by omega) (by omega) (by omega) (by omega) (by omega)
  exact ⟨11, L_n_l172 11 0 v1 0 m0 hm0 (by omega) (by omega) (by omega) (by omega) (by omega) (by omega) (by omega)⟩
theorem z_X12_rest {X : Mm} {S : Sh} {m0 : Mm} {K : Int → Mm → Prop} {u1 u2 u3 u4 : Int} (hS : Shp S) (hm0 : Inv X S m0) (l_u1 : (-2147483648) ≤ u1) (h_u1 : u1 ≤ 2147483647) (l_u2 : (-2147483648) ≤ u2) (h_u2 : u2 ≤ 2147483647) (l_u3 : (-2147483648) ≤ u3) (h_u3 : u3 ≤ 2147483647) (l_u4 : (-2147483648) ≤ u4) (h_u4 : u4 ≤ 2147483647) (hk : ∀ (r : Int) (M1 : Mm), Inv X S M1 → (-2147483648) ≤ r → r ≤ 6000 → K r M1) : wp_X12_rest S m0 336 u1 u2 u3 u4 K := by
  refine u_X12_rest ?_
  refine ⟨hS.k336, ?_⟩
  refine u_X12_isHand ?_
  refine g_if (fun w1 => ?_) (fun w1 => ?_)
  · refine g_C ?_
    refine ⟨by omega, ?_⟩
    refine g_ifT (by omega) ?_
    refine g_C ?_
    exact hk (-1) m0 hm0 (by omega) (by omega)
  · refine g_getr 20 346 rfl hS.k336 hm0.f_336_20 (by decide) ?_
    refine g_C ?_
    refine g_ld (0) (5) hS.k346 hS.l346 (by omega) (by omega) (hm0.f_346_4) (fun v2 ev2 bv2 cv2 => ?_)
    refine g_if (fun w3 => ?_) (fun w3 => ?_)
    · refine g_C ?_
      refine ⟨by omega, ?_⟩
      refine g_ifT (by omega) ?_
      refine g_C ?_
      exact hk (-1) m0 hm0 (by omega) (by omega)
    · refine g_C ?_
      refine ⟨by omega, ?_⟩
      refine g_ifF (by omega) ?_
      refine g_C ?_
      refine g_C ?_
      refine g_C ?_
      refine z_in (fun aw4 bw4 => ?_) (fun cw4 => ?_)
      · refine g_ifF (by omega) ?_
        refine g_C ?_
        refine g_C ?_
        refine g_C ?_
        refine z_in (fun aw5 bw5 => ?_) (fun cw5 => ?_)
        · refine g_ifF (by omega) ?_
          refine g_C ?_
          refine g_C ?_
          refine g_C ?_
          refine z_in (fun aw6 bw6 => ?_) (fun cw6 => ?_)
          · refine g_ifT (by omega) ?_
            refine g_C ?_
            refine g_C ?_
            refine g_C ?_
            have L_n_l210 : ∀ (n_l210 : Nat) (u12 : Int) (u13 : Int) (u14 : Int) (m15 : Mm), Inv X S m15 → (-1) ≤ u12 → u12 ≤ 6000 → (-2147483648) ≤ u13 → u13 ≤ 999 → 0 ≤ u14 → u14 ≤ 1024 → 1025 - u14 ≤ (n_l210 : Int) → wp_X12_rest_53 S K n_l210 336 u1 u2 u3 u4 u12 u13 u14 m15 := by
              intro n_l210
              induction n_l210 with
              | zero => intro u12 u13 u14 m15 hm15 bu12 cu12 bu13 cu13 bu14 cu14 zn_l210; exfalso; omega
              | succ n_l210 ih_n_l210 =>
                intro u12 u13 u14 m15 hm15 bu12 cu12 bu13 cu13 bu14 cu14 zn_l210
                refine u_X12_rest_53 ?_
                refine g_C ?_
                refine g_iShl 10 (by omega) (by omega) (by decide) (fun v211 bv211 cv211 => ?_)
                refine g_if (fun w212 => ?_) (fun w212 => ?_)
                · refine g_if (fun w213 => ?_) (fun w213 => ?_)
                  · exact hk u13 m15 hm15 (by omega) (by omega)
                  · exact hk u12 m15 hm15 (by omega) (by omega)
                · refine z_X12_bits hS hm15 (by omega) (by omega) (fun v214 bv214 cv214 => ?_)
                  refine g_if (fun w215 => ?_) (fun w215 => ?_)
                  · refine ⟨hS.k336, ?_⟩
                    refine z_X12_turnedResting hS hm15 (by omega) (by omega) (by omega) (by omega) (by omega) (by omega) (fun v216 m217 hm217 bv216 cv216 => ?_)
                    refine g_if (fun w218 => ?_) (fun w218 => ?_)
                    · refine u_X12_rest_98 ?_
                      refine u_X12_rest_106 ?_
                      refine g_A (by omega) (by omega) ?_
                      exact ih_n_l210 u14 v216 (u14 + 1) m217 hm217 (by omega) (by omega) (by omega) (by omega) (by omega) (by omega) (by omega)
                    · refine g_if (fun w219 => ?_) (fun w219 => ?_)
                      · refine u_X12_rest_98 ?_
                        refine u_X12_rest_106 ?_
                        refine g_A (by omega) (by omega) ?_
                        exact ih_n_l210 u14 v216 (u14 + 1) m217 hm217 (by omega) (by omega) (by omega) (by omega) (by omega) (by omega) (by omega)
                      · refine u_X12_rest_106 ?_
                        refine g_A (by omega) (by omega) ?_
                        exact ih_n_l210 u12 u13 (u14 + 1) m217 hm217 (by omega) (by omega) (by omega) (by omega) (by omega) (by omega) (by omega)
                  · refine u_X12_rest_106 ?_
                    refine g_A (by omega) (by omega) ?_
                    exact ih_n_l210 u12 u13 (u14 + 1) m15 hm15 (by omega) (by omega) (by omega) (by omega) (by omega) (by omega) (by omega)
            exact ⟨1025, L_n_l210 1025 (-1) 0 0 m0 hm0 (by omega) (by omega) (by omega) (by omega) (by omega) (by omega) (by omega)⟩
          · refine g_ifF (by omega) ?_
            refine g_C ?_
            exact hk (-1) m0 hm0 (by omega) (by omega)
        · refine g_ifT (by omega) ?_
          refine g_C ?_
          exact hk (-1) m0 hm0 (by omega) (by omega)
      · refine g_ifT (by omega) ?_
        refine g_C ?_
        exact hk (-1) m0 hm0 (by omega) (by omega)
theorem z_X12_way {X : Mm} {S : Sh} {m0 : Mm} {K : Int → Mm → Prop} {u1 u2 u3 : Int} (hS : Shp S) (hm0 : Inv X S m0) (l_u1 : (-2147483648) ≤ u1) (h_u1 : u1 ≤ 2147483647) (l_u2 : (-2147483648) ≤ u2) (h_u2 : u2 ≤ 2147483647) (l_u3 : (-2147483648) ≤ u3) (h_u3 : u3 ≤ 2147483647) (hk : ∀ (r : Int) (M1 : Mm), Inv X S M1 → (-3) ≤ r → r ≤ 98 → K r M1) : wp_X12_way S m0 336 u1 u2 u3 K := by
  refine u_X12_way ?_
  refine ⟨hS.k336, ?_⟩
  refine u_X12_isPlace ?_
  refine g_if (fun w1 => ?_) (fun w1 => ?_)
  · refine g_C ?_
    refine ⟨by omega, ?_⟩
    refine g_ifT (by omega) ?_
    refine g_C ?_
    exact hk (-3) m0 hm0 (by omega) (by omega)
  · refine g_getr 20 346 rfl hS.k336 hm0.f_336_20 (by decide) ?_
    refine g_C ?_
    refine g_ld (0) (6) hS.k346 hS.l346 (by omega) (by omega) (hm0.f_346_0) (fun v2 ev2 bv2 cv2 => ?_)
    refine g_if (fun w3 => ?_) (fun w3 => ?_)
    · refine g_C ?_
      refine ⟨by omega, ?_⟩
      refine g_ifT (by omega) ?_
      refine g_C ?_
      exact hk (-3) m0 hm0 (by omega) (by omega)
    · refine g_C ?_
      refine ⟨by omega, ?_⟩
      refine g_ifF (by omega) ?_
      refine ⟨hS.k336, ?_⟩
      refine u_X12_isPlace ?_
      refine g_if (fun w4 => ?_) (fun w4 => ?_)
      · refine g_C ?_
        refine ⟨by omega, ?_⟩
        refine g_ifT (by omega) ?_
        refine g_C ?_
        exact hk (-3) m0 hm0 (by omega) (by omega)
      · refine g_getr 20 346 rfl hS.k336 hm0.f_336_20 (by decide) ?_
        refine g_C ?_
        refine g_ld (0) (6) hS.k346 hS.l346 (by omega) (by omega) (hm0.f_346_0) (fun v5 ev5 bv5 cv5 => ?_)
        have qv5 : v5 = v2 := (ev5.trans (hm0.g (by decide))).trans ((ev2.trans (hm0.g (by decide))).symm)
        refine g_if (fun w6 => ?_) (fun w6 => ?_)
        · refine g_C ?_
          refine ⟨by omega, ?_⟩
          refine g_ifT (by omega) ?_
          refine g_C ?_
          exact hk (-3) m0 hm0 (by omega) (by omega)
        · refine g_C ?_
          refine ⟨by omega, ?_⟩
          refine g_ifF (by omega) ?_
          refine g_C ?_
          refine g_C ?_
          refine g_C ?_
          refine z_in (fun aw7 bw7 => ?_) (fun cw7 => ?_)
          · refine g_ifT (by omega) ?_
            refine ⟨hS.k336, ?_⟩
            refine z_X12_fillsHours hS hm0 (by omega) (by omega) (by omega) (fun m8 hm8 fm8 ym8_0 => ?_)
            refine g_getr 27 349 rfl hS.k336 hm8.f_336_27 (by decide) ?_
            refine g_ld (0) (99) hS.k349 hS.l349 (by omega) (by omega) (hm8.a_349 (by omega) (by omega)) (fun v9 ev9 bv9 cv9 => ?_)
            refine g_C ?_
            refine g_if (fun w10 => ?_) (fun w10 => ?_)
            · refine g_if (fun w11 => ?_) (fun w11 => ?_)
              · refine g_if (fun w12 => ?_) (fun w12 => ?_)
                · refine ⟨hS.k336, ?_⟩
                  refine z_X12_nextPlace hS hm8 (by omega) (by omega) (fun v13 bv13 cv13 => ?_)
                  exact hk v13 m8 hm8 (by omega) (by omega)
                · refine g_C ?_
                  exact hk (-1) m8 hm8 (by omega) (by omega)
              · refine g_getr 27 349 rfl hS.k336 hm8.f_336_27 (by decide) ?_
                refine g_ld (0) (99) hS.k349 hS.l349 (by omega) (by omega) (hm8.a_349 (by omega) (by omega)) (fun v14 ev14 bv14 cv14 => ?_)
                have qv14 : v14 = v9 := ev14.trans ev9.symm
                exact hk v14 m8 hm8 (by omega) (by omega)
            · refine g_C ?_
              exact hk (-2) m8 hm8 (by omega) (by omega)
          · refine g_ifF (by omega) ?_
            refine g_C ?_
            exact hk (-3) m0 hm0 (by omega) (by omega)
theorem z_X12_who {X : Mm} {S : Sh} {m0 : Mm} {K : Int → Mm → Prop} {u1 : Int} (hS : Shp S) (hm0 : Inv X S m0) (l_u1 : (-2147483648) ≤ u1) (h_u1 : u1 ≤ 2147483647) (hk : ∀ (r : Int) (M1 : Mm), Inv X S M1 → (-2) ≤ r → r ≤ 1024 → K r M1) : wp_X12_who S m0 336 u1 K := by
  refine u_X12_who ?_
  refine ⟨hS.k336, ?_⟩
  refine u_X12_isDairy ?_
  refine g_getr 20 346 rfl hS.k336 hm0.f_336_20 (by decide) ?_
  refine g_C ?_
  refine g_ld (0) (6) hS.k346 hS.l346 (by omega) (by omega) (hm0.f_346_0) (fun v1 ev1 bv1 cv1 => ?_)
  refine g_if (fun w2 => ?_) (fun w2 => ?_)
  · refine g_C ?_
    refine ⟨by omega, ?_⟩
    refine g_ifT (by omega) ?_
    refine g_C ?_
    exact hk (-1) m0 hm0 (by omega) (by omega)
  · refine g_C ?_
    refine ⟨by omega, ?_⟩
    refine g_ifF (by omega) ?_
    refine g_C ?_
    refine g_C ?_
    refine g_C ?_
    refine z_in (fun aw3 bw3 => ?_) (fun cw3 => ?_)
    · refine g_ifT (by omega) ?_
      refine ⟨hS.k336, ?_⟩
      refine z_X12_fitting hS hm0 (fun v4 m5 hm5 bv4 cv4 => ?_)
      refine g_C ?_
      refine g_if (fun w6 => ?_) (fun w6 => ?_)
      · refine g_C ?_
        have L_n_l41 : ∀ (n_l41 : Nat) (u9 : Int), 0 ≤ u9 → u9 ≤ 5 → 6 - u9 ≤ (n_l41 : Int) → wp_X12_who_46 S K n_l41 336 v4 u9 m5 := by
          intro n_l41
          induction n_l41 with
          | zero => intro u9 bu9 cu9 zn_l41; exfalso; omega
          | succ n_l41 ih_n_l41 =>
            intro u9 bu9 cu9 zn_l41
            refine u_X12_who_46 ?_
            refine g_getr 20 346 rfl hS.k336 hm5.f_336_20 (by decide) ?_
            refine g_C ?_
            refine g_ld (0) (5) hS.k346 hS.l346 (by omega) (by omega) (hm5.f_346_4) (fun v42 ev42 bv42 cv42 => ?_)
            refine g_if (fun w43 => ?_) (fun w43 => ?_)
            · refine g_C ?_
              exact hk (-2) m5 hm5 (by omega) (by omega)
            · refine u_X12_isOf ?_
              refine g_iShr (by omega) (by omega) (fun v44 bv44 cv44 => ?_)
              refine g_C ?_
              refine g_iAndR (by omega) (by omega) (fun v45 dv45 bv45 cv45 => ?_)
              refine g_C ?_
              refine g_if (fun w46 => ?_) (fun w46 => ?_)
              · refine g_C ?_
                refine ⟨by omega, ?_⟩
                refine g_ifT (by omega) ?_
                refine g_A (by omega) (by omega) ?_
                exact ih_n_l41 (u9 + 1) (by omega) (by omega) (by omega)
              · refine g_C ?_
                refine ⟨by omega, ?_⟩
                refine g_ifF (by omega) ?_
                exact hk u9 m5 hm5 (by omega) (by omega)
        exact ⟨6, L_n_l41 6 0 (by omega) (by omega) (by omega)⟩
      · refine g_if (fun w47 => ?_) (fun w47 => ?_)
        · exact hk v4 m5 hm5 (by omega) (by omega)
        · refine z_X12_bits hS hm5 (by omega) (by omega) (fun v48 bv48 cv48 => ?_)
          exact hk v48 m5 hm5 (by omega) (by omega)
    · refine g_ifF (by omega) ?_
      refine g_C ?_
      exact hk (-1) m0 hm0 (by omega) (by omega)
end
section
/-! the class's tape, to the letter -/
def TC (X : Mm) (b : Int → Int) (n : Int) : Prop := X 1 1 = n ∧ (0 ≤ n ∧ n ≤ 400) ∧ ∀ p : Int, 0 ≤ p → p < n → X 2 p = b p ∧ -128 ≤ b p ∧ b p ≤ 127
theorem tw_r : ∀ k : Nat, k < 17 → ∀ i : Nat, i < 6 → 0 ≤ tw k i ∧ tw k i ≤ 122 := by decide +kernel
theorem tl_r : ∀ k : Nat, k < 17 → 2 ≤ tl k ∧ tl k ≤ 6 := by decide +kernel
theorem ze_look {X : Mm} {S : Sh} {m0 : Mm} {K : Int → Mm → Prop} {b : Int → Int} {n : Int} (hS : Shp S) (hm0 : Inv X S m0) (ht : TC X b n) (hp : m0 1 2 ≤ n) (hk : ∀ (r q : Int) (M1 : Mm), Inv X S M1 → (∀ c p : Int, ¬ (c = 1 ∧ 2 ≤ p ∧ p ≤ 3) → M1 c p = m0 c p) → Sk b n (m0 1 2) q → M1 1 2 = q → M1 1 3 = q → q ≤ n → ((q < n ∧ r = u8 (b q)) ∨ (n ≤ q ∧ r = -1)) → K r M1) : wp_X7_look S m0 1 K := by
  obtain ⟨t1, t2, t3⟩ := ht
  have L : ∀ (k : Nat) (m : Mm), Inv X S m → (∀ c p : Int, ¬ (c = 1 ∧ 2 ≤ p ∧ p ≤ 3) → m c p = m0 c p) → m0 1 2 ≤ m 1 2 → (∀ j : Int, m0 1 2 ≤ j → j < m 1 2 → j < n ∧ b j = 32) → m 1 2 ≤ n → 401 - m 1 2 ≤ (k : Int) → wp_X7_look_0 S K k 1 m := by
    intro k
    induction k with
    | zero => intro m hm _ _ _ _ h; exfalso; omega
    | succ k ih =>
      intro m hm F a1 a2 a3 h
      have b2 := hm.f_1_2
      have g1 : m 1 1 = n := (hm.g (by decide)).trans t1
      have gb : ∀ p : Int, 0 ≤ p → p < n → m 2 p = b p := fun p p0 p1 => (hm.g (c := 2) (p := p) (by omega)).trans (t3 p p0 p1).1
      have fin : (n ≤ m 1 2 ∨ ¬ b (m 1 2) = 32) → wp_X7_look_38 S K 1 m := by
        intro hn
        refine u_X7_look_38 ?_
        refine g_getu 2 rfl hS.k1 (fun v ev => ?_)
        refine g_put 3 rfl hS.k1 (hm.w_1_3 (by omega) (by omega)) (fun m1 e1 hm1 => ?_)
        have f1 : ∀ c p : Int, ¬ (c = 1 ∧ p = 3) → m1 c p = m c p := fun c p q => (congrFun (congrFun e1 _) _).trans (up_ne q)
        have x1 : m1 1 3 = v := (congrFun (congrFun e1 _) _).trans (up_at _ _ _ _)
        have F1 : ∀ c p : Int, ¬ (c = 1 ∧ 2 ≤ p ∧ p ≤ 3) → m1 c p = m0 c p := fun c p q => (f1 c p (by first | exact fun y => absurd (y.1 ▸ z) (by decide) | exact fun y => absurd (y.1 ▸ q) (by decide) | exact z | exact q | exact z.1 | exact q.1 | exact z.2 | exact q.2 | omega)).trans (F c p q)
        have e2 : m1 1 2 = m 1 2 := f1 1 2 (by first | decide | exact fun z => absurd z.1 (by decide) | exact ⟨fun z => absurd z.1 (by decide), fun z => absurd z.1 (by decide)⟩ | omega)
        have sk : Sk b n (m0 1 2) (m 1 2) := ⟨a1, a2, hn⟩
        refine g_getu 2 rfl hS.k1 (fun v2 ev2 => ?_)
        refine g_getu 1 rfl hS.k1 (fun v3 ev3 => ?_)
        rw [f1 1 1 (by first | decide | exact fun z => absurd z.1 (by decide) | exact ⟨fun z => absurd z.1 (by decide), fun z => absurd z.1 (by decide)⟩ | omega), g1] at ev3
        refine g_if (fun w => ?_) (fun w => ?_)
        · exact g_C (hk (-1) (m 1 2) m1 hm1 F1 sk e2 (by omega) a3 (Or.inr ⟨by omega, rfl⟩))
        · refine g_getr 0 2 rfl hS.k1 hm1.f_1_0 (by decide) ?_
          refine g_getu 2 rfl hS.k1 (fun v4 ev4 => ?_)
          refine g_ldu hS.k2 hS.l2 (by omega) (by omega) (fun x ex => ?_)
          refine g_C ?_
          refine g_Oe (fun y ey => ?_)
          rw [f1 2 _ (by first | decide | exact fun z => absurd z.1 (by decide) | exact ⟨fun z => absurd z.1 (by decide), fun z => absurd z.1 (by decide)⟩ | omega), ev4, e2, gb _ (by omega) (by omega)] at ex
          have tb := t3 (m 1 2) (by omega) (by omega)
          rw [ex, iAnd_u8 tb.2.1 tb.2.2] at ey
          exact hk y (m 1 2) m1 hm1 F1 sk e2 (by omega) a3 (Or.inl ⟨by omega, ey⟩)
      refine u_X7_look_0 ?_
      refine g_getu 2 rfl hS.k1 (fun v ev => ?_)
      refine g_getu 1 rfl hS.k1 (fun v2 ev2 => ?_)
      rw [g1] at ev2
      refine g_if (fun w => fin (by omega)) (fun w => ?_)
      refine g_getr 0 2 rfl hS.k1 hm.f_1_0 (by decide) ?_
      refine g_getu 2 rfl hS.k1 (fun v3 ev3 => ?_)
      refine g_ldu hS.k2 hS.l2 (by omega) (by omega) (fun x ex => ?_)
      rw [ev3, gb _ (by omega) (by omega)] at ex
      refine g_C ?_
      refine g_if (fun w2 => fin (Or.inr (by omega))) (fun w2 => ?_)
      refine g_getu 2 rfl hS.k1 (fun v4 ev4 => ?_)
      refine g_C ?_
      refine g_A (by omega) (by omega) ?_
      refine g_put 2 rfl hS.k1 (hm.w_1_2 (by omega) (by omega)) (fun m1 e1 hm1 => ?_)
      have f1 : ∀ c p : Int, ¬ (c = 1 ∧ p = 2) → m1 c p = m c p := fun c p q => (congrFun (congrFun e1 _) _).trans (up_ne q)
      have x1 : m1 1 2 = v4 + 1 := (congrFun (congrFun e1 _) _).trans (up_at _ _ _ _)
      refine ih m1 hm1 (fun c p q => (f1 c p (by first | exact fun y => absurd (y.1 ▸ z) (by decide) | exact fun y => absurd (y.1 ▸ q) (by decide) | exact z | exact q | exact z.1 | exact q.1 | exact z.2 | exact q.2 | omega)).trans (F c p q)) (by omega) (fun j j0 j1 => ?_) (by omega) (by omega)
      by_cases e : j = m 1 2
      · rw [e]; exact ⟨by omega, by omega⟩
      · exact a2 j j0 (by omega)
  have b2 := hm0.f_1_2
  exact ⟨401, L 401 m0 hm0 (fun _ _ _ => rfl) (by omega) (fun j j0 j1 => absurd j1 (by omega)) hp (by omega)⟩
theorem ze_byteAt {X : Mm} {S : Sh} {m : Mm} {K : Int → Mm → Prop} {b : Int → Int} {n i : Int} (hS : Shp S) (hm : Inv X S m) (ht : TC X b n) (hk : ∀ r : Int, ((0 ≤ i ∧ i < n ∧ r = u8 (b i)) ∨ (¬ (0 ≤ i ∧ i < n) ∧ r = -1)) → K r m) : wp_X7_byteAt S m 1 i K := by
  obtain ⟨t1, t2, t3⟩ := ht
  have g1 : m 1 1 = n := (hm.g (by decide)).trans t1
  refine u_X7_byteAt ?_
  refine g_if (fun w => g_C (hk _ (Or.inr ⟨by omega, rfl⟩))) (fun w => ?_)
  refine g_getu 1 rfl hS.k1 (fun v ev => ?_)
  rw [g1] at ev
  refine g_if (fun w2 => g_C (hk _ (Or.inr ⟨by omega, rfl⟩))) (fun w2 => ?_)
  refine g_C ?_
  refine g_ifF (by first | decide | omega) ?_
  refine g_getr 0 2 rfl hS.k1 hm.f_1_0 (by decide) ?_
  refine g_ldu hS.k2 hS.l2 (by omega) (by omega) (fun x ex => ?_)
  refine g_C ?_
  refine g_Oe (fun y ey => ?_)
  have tb := t3 i (by omega) (by omega)
  rw [ex, (hm.g (c := 2) (p := i) (by omega)).trans tb.1, iAnd_u8 tb.2.1 tb.2.2] at ey
  exact hk y (Or.inl ⟨by omega, by omega, ey⟩)
theorem ze_takesSign {X : Mm} {S : Sh} {m0 : Mm} {K : Int → Mm → Prop} {b : Int → Int} {n v : Int} (hS : Shp S) (hm0 : Inv X S m0) (ht : TC X b n) (hp : m0 1 2 ≤ n) (v0 : 0 ≤ v) (v1 : v ≤ 127) (h1 : ∀ (q : Int) (M1 : Mm), Inv X S M1 → (∀ c p : Int, ¬ (c = 1 ∧ 2 ≤ p ∧ p ≤ 3) → M1 c p = m0 c p) → Sk b n (m0 1 2) q → M1 1 2 = q + 1 → M1 1 3 = q → q < n → b q = v → K 1 M1) (h0 : ∀ (q : Int) (M1 : Mm), Inv X S M1 → (∀ c p : Int, ¬ (c = 1 ∧ 2 ≤ p ∧ p ≤ 3) → M1 c p = m0 c p) → Sk b n (m0 1 2) q → M1 1 2 = q → M1 1 3 = q → q ≤ n → ¬ (q < n ∧ b q = v) → K 0 M1) : wp_X7_takesSign S m0 1 v K := by
  have t2 := ht.2.1
  have b2 := hm0.f_1_2
  refine u_X7_takesSign ?_
  refine ⟨hS.k1, ?_⟩
  refine ze_look hS hm0 ht hp (fun r q m1 hm1 f1 sk x1 x2 hq hr => ?_)
  have b21 := hm1.f_1_2
  refine g_if (fun w => ?_) (fun w => ?_)
  · have hq2 : q < n ∧ b q = v := by
      rcases hr with ⟨z1, z2⟩ | ⟨z1, z2⟩
      · have tb := ht.2.2 q (by omega) z1
        exact ⟨z1, (u8_eq tb.2.1 tb.2.2 v0 v1).mp (by omega)⟩
      · exfalso; omega
    refine g_getu 2 rfl hS.k1 (fun a ea => ?_)
    refine g_C ?_
    refine g_A (by omega) (by omega) ?_
    refine g_put 2 rfl hS.k1 (hm1.w_1_2 (by omega) (by omega)) (fun m2 e2 hm2 => ?_)
    have f2 : ∀ c p : Int, ¬ (c = 1 ∧ p = 2) → m2 c p = m1 c p := fun c p q => (congrFun (congrFun e2 _) _).trans (up_ne q)
    have y2 : m2 1 2 = a + 1 := (congrFun (congrFun e2 _) _).trans (up_at _ _ _ _)
    exact g_C ⟨by decide, h1 q m2 hm2 (fun c p z => (f2 c p (by first | exact fun y => absurd (y.1 ▸ z) (by decide) | exact fun y => absurd (y.1 ▸ q) (by decide) | exact z | exact q | exact z.1 | exact q.1 | exact z.2 | exact q.2 | omega)).trans (f1 c p z)) sk (by omega) ((f2 1 3 (by first | decide | exact fun z => absurd z.1 (by decide) | exact ⟨fun z => absurd z.1 (by decide), fun z => absurd z.1 (by decide)⟩ | omega)).trans x2) hq2.1 hq2.2⟩
  · refine g_C ⟨by decide, h0 q m1 hm1 f1 sk x1 x2 hq (fun z => w ?_)⟩
    rcases hr with ⟨z1, z2⟩ | ⟨z1, z2⟩
    · have tb := ht.2.2 q (by omega) z1
      rw [z2]
      exact (u8_eq tb.2.1 tb.2.2 v0 v1).mpr z.2
    · exfalso; omega
theorem ze_takesWord {X : Mm} {S : Sh} {m0 : Mm} {K : Int → Mm → Prop} {b : Int → Int} {n u : Int} (k : Nat) (hS : Shp S) (hm0 : Inv X S m0) (ht : TC X b n) (hp : m0 1 2 ≤ n) (hk : k < 17) (hu : u = -3 - (k : Int)) (h1 : ∀ (q : Int) (M1 : Mm), Inv X S M1 → (∀ c p : Int, ¬ (c = 1 ∧ 2 ≤ p ∧ p ≤ 3) → M1 c p = m0 c p) → Sk b n (m0 1 2) q → M1 1 2 = q + tl k → M1 1 3 = q → q + tl k ≤ n → Wk b n k q → K 1 M1) (h0 : ∀ (q : Int) (M1 : Mm), Inv X S M1 → (∀ c p : Int, ¬ (c = 1 ∧ 2 ≤ p ∧ p ≤ 3) → M1 c p = m0 c p) → Sk b n (m0 1 2) q → M1 1 2 = q → M1 1 3 = q → q ≤ n → ¬ Wk b n k q → K 0 M1) : wp_X7_takesWord S m0 1 u K := by
  have t2 := ht.2.1
  have b2 := hm0.f_1_2
  have tlr := tl_r k hk
  refine u_X7_takesWord ?_
  refine ⟨hS.k1, ?_⟩
  refine ze_look hS hm0 ht hp (fun r q m1 hm1 f1 sk x1 x2 hq hr => ?_)
  have b21 := hm1.f_1_2
  refine ⟨k, hk, hu, ?_⟩
  refine g_C ?_
  have L : ∀ (j : Nat) (i : Int), 0 ≤ i → i ≤ tl k → (∀ i' : Int, 0 ≤ i' → i' < i → q + i' < n ∧ b (q + i') = tw k i'.toNat) → tl k + 1 - i ≤ (j : Int) → wp_X7_takesWord_12 S K j 1 u (tl k) i m1 := by
    intro j
    induction j with
    | zero => intro i _ _ _ h; exfalso; omega
    | succ j ih =>
      intro i i0 i1 hi h
      refine u_X7_takesWord_12 ?_
      refine g_if (fun w => ?_) (fun w => ?_)
      · have hall : ∀ i' : Int, 0 ≤ i' → i' < tl k → q + i' < n ∧ b (q + i') = tw k i'.toNat := fun i' a c => hi i' a (by omega)
        have hle := hall (tl k - 1) (by omega) (by omega)
        refine g_getu 2 rfl hS.k1 (fun a ea => ?_)
        refine g_A (by omega) (by omega) ?_
        refine ⟨hS.k1, ?_⟩
        refine ze_byteAt hS hm1 ht (fun r2 hr2 => ?_)
        have ok : ¬ (q + tl k < n ∧ 97 ≤ b (q + tl k) ∧ b (q + tl k) ≤ 122) → wp_X7_takesWord_68 S K 1 (tl k) m1 := by
          intro hb
          refine u_X7_takesWord_68 ?_
          refine g_getu 2 rfl hS.k1 (fun a2 ea2 => ?_)
          refine g_A (by omega) (by omega) ?_
          refine g_put 2 rfl hS.k1 (hm1.w_1_2 (by omega) (by omega)) (fun m2 e2 hm2 => ?_)
          have f2 : ∀ c p : Int, ¬ (c = 1 ∧ p = 2) → m2 c p = m1 c p := fun c p q => (congrFun (congrFun e2 _) _).trans (up_ne q)
          have y2 : m2 1 2 = a2 + tl k := (congrFun (congrFun e2 _) _).trans (up_at _ _ _ _)
          exact g_C ⟨by decide, h1 q m2 hm2 (fun c p z => (f2 c p (by first | exact fun y => absurd (y.1 ▸ z) (by decide) | exact fun y => absurd (y.1 ▸ q) (by decide) | exact z | exact q | exact z.1 | exact q.1 | exact z.2 | exact q.2 | omega)).trans (f1 c p z)) sk (by omega) ((f2 1 3 (by first | decide | exact fun z => absurd z.1 (by decide) | exact ⟨fun z => absurd z.1 (by decide), fun z => absurd z.1 (by decide)⟩ | omega)).trans x2) (by omega) ⟨hall, hb⟩⟩
        have eq : a + tl k = q + tl k := by omega
        rw [eq] at hr2
        have lr : (97 ≤ r2 ∧ r2 ≤ 122) ↔ (q + tl k < n ∧ 97 ≤ b (q + tl k) ∧ b (q + tl k) ≤ 122) := by
          rcases hr2 with ⟨z0, z1, z2⟩ | ⟨z1, z2⟩
          · have tb := ht.2.2 (q + tl k) z0 z1
            rw [z2]
            unfold u8
            split <;> omega
          · omega
        refine g_C ?_
        refine g_if (fun w2 => ok (fun z => by have := lr.mpr z; omega)) (fun w2 => ?_)
        refine g_C ?_
        refine g_if (fun w3 => ok (fun z => by have := lr.mpr z; omega)) (fun w3 => ?_)
        exact g_C ⟨by decide, h0 q m1 hm1 f1 sk x1 x2 hq (fun z => z.2 (lr.mp (by omega)))⟩
      · refine g_getu 2 rfl hS.k1 (fun a ea => ?_)
        refine g_A (by omega) (by omega) ?_
        refine ⟨hS.k1, ?_⟩
        refine ze_byteAt hS hm1 ht (fun r2 hr2 => ?_)
        have eq : a + i = q + i := by omega
        rw [eq] at hr2
        have twr := tw_r k hk i.toNat (by omega)
        refine ⟨k, hk, hu, i0, by unfold tl at w; omega, ?_⟩
        refine g_if (fun w2 => ?_) (fun w2 => ?_)
        · have w3 : r2 = tw k i.toNat := w2
          have hb : q + i < n ∧ b (q + i) = tw k i.toNat := by
            rcases hr2 with ⟨z0, z1, z2⟩ | ⟨z1, z2⟩
            · have tb := ht.2.2 (q + i) z0 z1
              exact ⟨z1, (u8_eq tb.2.1 tb.2.2 (by omega) (by omega)).mp (by omega)⟩
            · exfalso; omega
          refine g_A (by omega) (by omega) ?_
          refine ih (i + 1) (by omega) (by omega) (fun i' a1 a2 => ?_) (by omega)
          by_cases e : i' = i
          · rw [e]; exact hb
          · exact hi i' a1 (by omega)
        · refine g_C ⟨by decide, h0 q m1 hm1 f1 sk x1 x2 hq (fun z => w2 ?_)⟩
          have zi := z.1 i i0 (by omega)
          show r2 = tw k i.toNat
          rcases hr2 with ⟨z0, z1, z2⟩ | ⟨z1, z2⟩
          · have tb := ht.2.2 (q + i) z0 z1
            rw [z2]
            exact (u8_eq tb.2.1 tb.2.2 (by omega) (by omega)).mpr zi.2
          · exfalso; omega
  exact ⟨(tl k + 1).toNat, L (tl k + 1).toNat 0 (by omega) (by omega) (fun i' a c => absurd c (by omega)) (by omega)⟩
theorem ze_refuse {X : Mm} {S : Sh} {m0 : Mm} {K : Int → Mm → Prop} {u : Int} (hS : Shp S) (hm0 : Inv X S m0) (u0 : 0 ≤ u) (u1 : u ≤ 4) (hk : ∀ M1 : Mm, Inv X S M1 → (∀ c p : Int, ¬ (c = 1 ∧ p = 4) → M1 c p = m0 c p) → ((¬ m0 1 4 = 0 ∧ M1 1 4 = m0 1 4) ∨ (m0 1 4 = 0 ∧ M1 1 4 = 1 + 8 * m0 1 3 + u)) → K 0 M1) : wp_X7_refuse S m0 1 u K := by
  have b3 := hm0.f_1_3
  refine u_X7_refuse ?_
  refine g_getu 4 rfl hS.k1 (fun v ev => ?_)
  refine g_if (fun w => g_C ⟨by decide, hk m0 hm0 (fun _ _ _ => rfl) (Or.inl ⟨by omega, rfl⟩)⟩) (fun w => ?_)
  refine g_C ?_
  refine g_C ?_
  refine g_getu 3 rfl hS.k1 (fun a ea => ?_)
  refine g_M (by omega) (by omega) ?_
  refine g_A (by omega) (by omega) ?_
  refine g_A (by omega) (by omega) ?_
  refine g_put 4 rfl hS.k1 (hm0.w_1_4 (by omega) (by omega)) (fun m1 e1 hm1 => ?_)
  have f1 : ∀ c p : Int, ¬ (c = 1 ∧ p = 4) → m1 c p = m0 c p := fun c p q => (congrFun (congrFun e1 _) _).trans (up_ne q)
  have y1 : m1 1 4 = 1 + 8 * a + u := (congrFun (congrFun e1 _) _).trans (up_at _ _ _ _)
  exact g_C ⟨by decide, hk m1 hm1 f1 (Or.inr ⟨by omega, by omega⟩)⟩
theorem zl_dig {S : Sh} {m : Mm} {K : Int → Mm → Prop} {x : Int} (h1 : 48 ≤ x → x ≤ 57 → K 1 m) (h0 : ¬ (48 ≤ x ∧ x ≤ 57) → K 0 m) : wp_X7_isDigit S m x K := by
  refine u_X7_isDigit ?_
  refine g_C ?_
  refine g_if (fun w => g_C ⟨by decide, h0 (by omega)⟩) (fun w => ?_)
  refine g_C ?_
  exact g_if (fun w2 => g_C ⟨by decide, h0 (by omega)⟩) (fun w2 => g_C ⟨by decide, h1 (by omega) (by omega)⟩)
theorem ze_isAtDigit {X : Mm} {S : Sh} {m0 : Mm} {K : Int → Mm → Prop} {b : Int → Int} {n : Int} (hS : Shp S) (hm0 : Inv X S m0) (ht : TC X b n) (hp : m0 1 2 ≤ n) (h1 : ∀ (q : Int) (M1 : Mm), Inv X S M1 → (∀ c p : Int, ¬ (c = 1 ∧ 2 ≤ p ∧ p ≤ 3) → M1 c p = m0 c p) → Sk b n (m0 1 2) q → M1 1 2 = q → M1 1 3 = q → q < n → Dg (b q) → K 1 M1) (h0 : ∀ (q : Int) (M1 : Mm), Inv X S M1 → (∀ c p : Int, ¬ (c = 1 ∧ 2 ≤ p ∧ p ≤ 3) → M1 c p = m0 c p) → Sk b n (m0 1 2) q → M1 1 2 = q → M1 1 3 = q → q ≤ n → ¬ (q < n ∧ Dg (b q)) → K 0 M1) : wp_X7_isAtDigit S m0 1 K := by
  have b2 := hm0.f_1_2
  refine u_X7_isAtDigit ?_
  refine ⟨hS.k1, ?_⟩
  refine ze_look hS hm0 ht hp (fun r q m1 hm1 f1 sk x1 x2 hq hr => ?_)
  have dr : (48 ≤ r ∧ r ≤ 57) ↔ (q < n ∧ Dg (b q)) := by
    unfold Dg
    rcases hr with ⟨z1, z2⟩ | ⟨z1, z2⟩
    · have tb := ht.2.2 q (by have := sk.1; omega) z1
      rw [z2]
      unfold u8
      split <;> omega
    · omega
  refine zl_dig (fun a c => ⟨by decide, ?_⟩) (fun a => ⟨by decide, h0 q m1 hm1 f1 sk x1 x2 hq (fun z => a (dr.mpr z))⟩)
  have z := dr.mp ⟨a, c⟩
  exact h1 q m1 hm1 f1 sk x1 x2 z.1 z.2
theorem ze_continues {X : Mm} {S : Sh} {m0 : Mm} {K : Int → Mm → Prop} {b : Int → Int} {n : Int} (hS : Shp S) (hm0 : Inv X S m0) (ht : TC X b n) (hp : m0 1 2 ≤ n) (h1 : ∀ M1 : Mm, Inv X S M1 → (∀ c p : Int, ¬ (c = 1 ∧ p = 2) → M1 c p = m0 c p) → M1 1 2 = m0 1 2 + 1 → m0 1 2 < n → b (m0 1 2) = 61 → K 1 M1) (h0 : ¬ (m0 1 2 < n ∧ b (m0 1 2) = 61) → K 0 m0) : wp_X7_continuesWith S m0 1 61 K := by
  have t2 := ht.2.1
  have b2 := hm0.f_1_2
  refine u_X7_continuesWith ?_
  refine g_getu 2 rfl hS.k1 (fun a ea => ?_)
  refine ⟨hS.k1, ?_⟩
  refine ze_byteAt hS hm0 ht (fun r hr => ?_)
  rw [ea] at hr
  have e : r = 61 ↔ (m0 1 2 < n ∧ b (m0 1 2) = 61) := by
    rcases hr with ⟨z0, z1, z2⟩ | ⟨z1, z2⟩
    · have tb := ht.2.2 (m0 1 2) z0 z1
      rw [z2, u8_eq tb.2.1 tb.2.2 (by decide) (by decide)]
      exact ⟨fun z => ⟨z1, z⟩, fun z => z.2⟩
    · omega
  refine g_if (fun w => ?_) (fun w => g_C ⟨by decide, h0 (fun z => w (e.mpr z))⟩)
  have z := e.mp w
  refine g_getu 2 rfl hS.k1 (fun a2 ea2 => ?_)
  refine g_C ?_
  refine g_A (by omega) (by omega) ?_
  refine g_put 2 rfl hS.k1 (hm0.w_1_2 (by omega) (by omega)) (fun m2 e2 hm2 => ?_)
  have f2 : ∀ c p : Int, ¬ (c = 1 ∧ p = 2) → m2 c p = m0 c p := fun c p q => (congrFun (congrFun e2 _) _).trans (up_ne q)
  have y2 : m2 1 2 = a2 + 1 := (congrFun (congrFun e2 _) _).trans (up_at _ _ _ _)
  exact g_C ⟨by decide, h1 m2 hm2 f2 (by omega) z.1 z.2⟩
end
section
/-! the class's pile of signs -/
def stk (f : Int → Int) : Nat → List Bool
  | 0 => []
  | n + 1 => if f n = -27 then true :: stk f n else if f n = -22 then false :: stk f n else stk f n
def hNt (f : Int → Int) : Nat → Prop
  | 0 => False
  | n + 1 => ¬ f n = -27 ∧ (f n = -22 ∨ hNt f n)
def okp (f : Int → Int) : Nat → Prop
  | 0 => True
  | n + 1 => okp f n ∧ ((f n = -23 ∨ f n = -24) → ¬ hNt f n)
def cnt : List Bool → Int
  | [] => 0
  | true :: s => cnt s + 1
  | false :: s => cnt s
theorem stk_same {f g : Int → Int} : ∀ n : Nat, (∀ j : Int, 0 ≤ j → j < n → f j = g j) → stk f n = stk g n ∧ hNt f n = hNt g n ∧ okp f n = okp g n := by
  intro n
  induction n with
  | zero => intro _; exact ⟨rfl, rfl, rfl⟩
  | succ n ih =>
    intro h
    obtain ⟨h1, h2, h3⟩ := ih (fun j a c => h j a (by omega))
    have e := h n (by omega) (by omega)
    refine ⟨?_, ?_, ?_⟩
    · simp only [stk, e, h1]
    · simp only [hNt, e, h2]
    · simp only [okp, e, h2, h3]
def CP (M : Mm) (st : List Bool) : Prop := stk (M 54) (M 52 5).toNat = st ∧ M 52 6 = (st.length : Int) ∧ okp (M 54) (M 52 5).toNat ∧ ∀ j : Int, 0 ≤ j → j < M 52 5 → (-24 ≤ M 54 j ∧ M 54 j ≤ -12) ∨ M 54 j = -27
theorem CP.same {m m1 : Mm} {st : List Bool} (h : CP m st) (f5 : m1 52 5 = m 52 5) (f6 : m1 52 6 = m 52 6) (f4 : ∀ p : Int, m1 54 p = m 54 p) : CP m1 st := by
  have e : m1 54 = m 54 := funext f4
  unfold CP
  rw [f5, f6, e]
  exact h
def bnd (x : Int) : Int := if x = -24 then 1 else if x = -23 then 2 else if x = -22 then 3 else if -21 ≤ x ∧ x ≤ -17 then 4 else if x = -16 ∨ x = -15 then 5 else if -14 ≤ x ∧ x ≤ -12 then 6 else 4
theorem zl_bnd {S : Sh} {m : Mm} {K : Int → Mm → Prop} {x : Int} (h : K (bnd x) m) : wp_X3_bindingOf S m x K := by
  have e : ∀ v : Int, bnd x = v → K v m := fun v z => by rw [← z]; exact h
  refine u_X3_bindingOf ?_
  refine g_if (fun w => g_C (e 1 (by unfold bnd; rw [if_pos w]))) (fun w1 => ?_)
  refine g_if (fun w => g_C (e 2 (by unfold bnd; rw [if_neg w1, if_pos w]))) (fun w2 => ?_)
  refine g_if (fun w => g_C (e 3 (by unfold bnd; rw [if_neg w1, if_neg w2, if_pos w]))) (fun w3 => ?_)
  refine g_if (fun w => g_C (e 4 (by unfold bnd; rw [if_neg w1, if_neg w2, if_neg w3, if_pos (by omega)]))) (fun w4 => ?_)
  refine g_if (fun w => g_C (e 4 (by unfold bnd; rw [if_neg w1, if_neg w2, if_neg w3, if_pos (by omega)]))) (fun w5 => ?_)
  refine g_if (fun w => g_C (e 4 (by unfold bnd; rw [if_neg w1, if_neg w2, if_neg w3, if_pos (by omega)]))) (fun w6 => ?_)
  refine g_if (fun w => g_C (e 4 (by unfold bnd; rw [if_neg w1, if_neg w2, if_neg w3, if_pos (by omega)]))) (fun w7 => ?_)
  refine g_if (fun w => g_C (e 4 (by unfold bnd; rw [if_neg w1, if_neg w2, if_neg w3, if_pos (by omega)]))) (fun w8 => ?_)
  have no : ¬ (-21 ≤ x ∧ x ≤ -17) := by omega
  refine g_if (fun w => g_C (e 5 (by unfold bnd; rw [if_neg w1, if_neg w2, if_neg w3, if_neg no, if_pos (by omega)]))) (fun w9 => ?_)
  refine g_if (fun w => g_C (e 5 (by unfold bnd; rw [if_neg w1, if_neg w2, if_neg w3, if_neg no, if_pos (by omega)]))) (fun w10 => ?_)
  have no2 : ¬ (x = -16 ∨ x = -15) := by omega
  refine g_if (fun w => g_C (e 6 (by unfold bnd; rw [if_neg w1, if_neg w2, if_neg w3, if_neg no, if_neg no2, if_pos (by omega)]))) (fun w11 => ?_)
  refine g_if (fun w => g_C (e 6 (by unfold bnd; rw [if_neg w1, if_neg w2, if_neg w3, if_neg no, if_neg no2, if_pos (by omega)]))) (fun w12 => ?_)
  refine g_if (fun w => g_C (e 6 (by unfold bnd; rw [if_neg w1, if_neg w2, if_neg w3, if_neg no, if_neg no2, if_pos (by omega)]))) (fun w13 => ?_)
  exact g_C (e 4 (by unfold bnd; rw [if_neg w1, if_neg w2, if_neg w3, if_neg no, if_neg no2, if_neg (by omega)]))
theorem ze_push {X : Mm} {S : Sh} {m0 : Mm} {K : Mm → Prop} {s : Int} (hS : Shp S) (hm0 : Inv X S m0) (hp : m0 52 5 ≤ 399) (hk : ∀ M1 : Mm, Inv X S M1 → (∀ c p : Int, ¬ (c = 52 ∧ p = 5) ∧ ¬ (c = 54 ∧ p = m0 52 5) → M1 c p = m0 c p) → M1 52 5 = m0 52 5 + 1 → M1 54 (m0 52 5) = s → K M1) : wp_X3_push S m0 52 s K := by
  have b5 := hm0.f_52_5
  refine u_X3_push ?_
  refine g_getu 5 rfl hS.k52 (fun v ev => ?_)
  refine g_C ?_
  refine g_ifF (by first | decide | omega) ?_
  refine g_getr 4 54 rfl hS.k52 hm0.f_52_4 (by decide) ?_
  refine g_getu 5 rfl hS.k52 (fun v2 ev2 => ?_)
  refine g_st hS.k54 hS.l54 (by omega) (by omega) (hm0.wa_54 (by omega) (by omega)) (fun m1 e1 hm1 => ?_)
  have f1 : ∀ c p : Int, ¬ (c = 54 ∧ p = v2) → m1 c p = m0 c p := fun c p q => (congrFun (congrFun e1 _) _).trans (up_ne q)
  have y1 : m1 54 v2 = s := (congrFun (congrFun e1 _) _).trans (up_at _ _ _ _)
  refine g_getu 5 rfl hS.k52 (fun v3 ev3 => ?_)
  rw [f1 52 5 (by first | decide | exact fun z => absurd z.1 (by decide) | exact ⟨fun z => absurd z.1 (by decide), fun z => absurd z.1 (by decide)⟩ | omega)] at ev3
  refine g_C ?_
  refine g_A (by omega) (by omega) ?_
  refine g_put 5 rfl hS.k52 (hm1.w_52_5 (by omega) (by omega)) (fun m2 e2 hm2 => ?_)
  have f2 : ∀ c p : Int, ¬ (c = 52 ∧ p = 5) → m2 c p = m1 c p := fun c p q => (congrFun (congrFun e2 _) _).trans (up_ne q)
  have y2 : m2 52 5 = v3 + 1 := (congrFun (congrFun e2 _) _).trans (up_at _ _ _ _)
  refine hk m2 hm2 (fun c p q => (f2 c p (by first | exact fun y => absurd (y.1 ▸ z) (by decide) | exact fun y => absurd (y.1 ▸ q) (by decide) | exact z | exact q | exact z.1 | exact q.1 | exact z.2 | exact q.2 | omega)).trans (f1 c p (by first | exact fun y => absurd (y.1 ▸ z) (by decide) | exact fun y => absurd (y.1 ▸ q) (by decide) | exact z | exact q | exact z.1 | exact q.1 | exact z.2 | exact q.2 | omega))) (by omega) ?_
  rw [f2 54 _ (by first | decide | exact fun z => absurd z.1 (by decide) | exact ⟨fun z => absurd z.1 (by decide), fun z => absurd z.1 (by decide)⟩ | omega), ← ev2]
  exact y1
theorem ze_dropTop {X : Mm} {S : Sh} {m0 : Mm} {K : Mm → Prop} (hS : Shp S) (hm0 : Inv X S m0) (hp : 1 ≤ m0 52 5) (hd : 0 ≤ m0 52 6) (hd2 : m0 52 6 ≤ 400) (hk : ∀ M1 : Mm, Inv X S M1 → (∀ c p : Int, ¬ (c = 52 ∧ (p = 5 ∨ p = 6)) → M1 c p = m0 c p) → M1 52 5 = m0 52 5 - 1 → (((m0 54 (m0 52 5 - 1) = -27 ∨ m0 54 (m0 52 5 - 1) = -22) ∧ M1 52 6 = m0 52 6 - 1) ∨ (¬ (m0 54 (m0 52 5 - 1) = -27 ∨ m0 54 (m0 52 5 - 1) = -22) ∧ M1 52 6 = m0 52 6)) → K M1) : wp_X3_dropTop S m0 52 K := by
  have b5 := hm0.f_52_5
  refine u_X3_dropTop ?_
  refine g_getu 5 rfl hS.k52 (fun v ev => ?_)
  refine g_ifF (by first | decide | omega) ?_
  refine g_getu 5 rfl hS.k52 (fun v2 ev2 => ?_)
  refine g_C ?_
  refine g_S (by omega) (by omega) ?_
  refine g_put 5 rfl hS.k52 (hm0.w_52_5 (by omega) (by omega)) (fun m1 e1 hm1 => ?_)
  have f1 : ∀ c p : Int, ¬ (c = 52 ∧ p = 5) → m1 c p = m0 c p := fun c p q => (congrFun (congrFun e1 _) _).trans (up_ne q)
  have y1 : m1 52 5 = v2 - 1 := (congrFun (congrFun e1 _) _).trans (up_at _ _ _ _)
  have go : (m0 54 (m0 52 5 - 1) = -27 ∨ m0 54 (m0 52 5 - 1) = -22) → wp_X3_dropTop_45 S K 52 m1 := by
    intro hh
    refine u_X3_dropTop_45 ?_
    refine g_getu 6 rfl hS.k52 (fun d ed => ?_)
    rw [f1 52 6 (by first | decide | exact fun z => absurd z.1 (by decide) | exact ⟨fun z => absurd z.1 (by decide), fun z => absurd z.1 (by decide)⟩ | omega)] at ed
    refine g_C ?_
    refine g_S (by omega) (by omega) ?_
    refine g_put 6 rfl hS.k52 (hm1.w_52_6 (by omega) (by omega)) (fun m2 e2 hm2 => ?_)
    have f2 : ∀ c p : Int, ¬ (c = 52 ∧ p = 6) → m2 c p = m1 c p := fun c p q => (congrFun (congrFun e2 _) _).trans (up_ne q)
    have y2 : m2 52 6 = d - 1 := (congrFun (congrFun e2 _) _).trans (up_at _ _ _ _)
    exact hk m2 hm2 (fun c p q => (f2 c p (by first | exact fun y => absurd (y.1 ▸ z) (by decide) | exact fun y => absurd (y.1 ▸ q) (by decide) | exact z | exact q | exact z.1 | exact q.1 | exact z.2 | exact q.2 | omega)).trans (f1 c p (by first | exact fun y => absurd (y.1 ▸ z) (by decide) | exact fun y => absurd (y.1 ▸ q) (by decide) | exact z | exact q | exact z.1 | exact q.1 | exact z.2 | exact q.2 | omega))) (by rw [f2 52 5 (by first | decide | exact fun z => absurd z.1 (by decide) | exact ⟨fun z => absurd z.1 (by decide), fun z => absurd z.1 (by decide)⟩ | omega)]; omega) (Or.inl ⟨hh, by omega⟩)
  refine g_getr 4 54 rfl hS.k52 hm1.f_52_4 (by decide) ?_
  refine g_getu 5 rfl hS.k52 (fun v3 ev3 => ?_)
  refine g_ldu hS.k54 hS.l54 (by omega) (by omega) (fun x ex => ?_)
  have ex2 : x = m0 54 (m0 52 5 - 1) := by
    rw [ex, f1 54 _ (by first | decide | exact fun z => absurd z.1 (by decide) | exact ⟨fun z => absurd z.1 (by decide), fun z => absurd z.1 (by decide)⟩ | omega)]
    congr 1
    omega
  refine g_C ?_
  refine g_if (fun w => go (by omega)) (fun w => ?_)
  refine g_getr 4 54 rfl hS.k52 hm1.f_52_4 (by decide) ?_
  refine g_getu 5 rfl hS.k52 (fun v4 ev4 => ?_)
  refine g_ldu hS.k54 hS.l54 (by omega) (by omega) (fun y ey => ?_)
  have ey2 : y = m0 54 (m0 52 5 - 1) := by
    rw [ey, f1 54 _ (by first | decide | exact fun z => absurd z.1 (by decide) | exact ⟨fun z => absurd z.1 (by decide), fun z => absurd z.1 (by decide)⟩ | omega)]
    congr 1
    omega
  refine g_C ?_
  refine g_if (fun w2 => ?_) (fun w2 => go (by omega))
  exact hk m1 hm1 (fun c p q => f1 c p (by first | exact fun y => absurd (y.1 ▸ z) (by decide) | exact fun y => absurd (y.1 ▸ q) (by decide) | exact z | exact q | exact z.1 | exact q.1 | exact z.2 | exact q.2 | omega)) (by omega) (Or.inr ⟨by omega, f1 52 6 (by first | decide | exact fun z => absurd z.1 (by decide) | exact ⟨fun z => absurd z.1 (by decide), fun z => absurd z.1 (by decide)⟩ | omega)⟩)
end
section
/-! the class's rule reader, held against Acc -/
theorem Acc.back {b : Int → Int} {n m p q c : Int} {st : List Bool} {k f : Int} (hs : Sk b n p q) (h : Acc b n m q c st k f) : Acc b n m p c st k f := by
  obtain ⟨N, h⟩ := h
  cases N with
  | zero => exact h.elim
  | succ N =>
    obtain ⟨r, hr, h⟩ := h
    have e := hr.uniq hs.idem
    subst e
    exact ⟨N + 1, r, hs, h⟩
/-- the class has come so far: T is how it must end -/
def Lk (b : Int → Int) (n : Int) (T : Int → Prop) (M : Mm) (m : Int) (st : List Bool) (k : Int) : Prop := (∀ f : Int, Acc b n m (M 1 2) (M 52 3) st k f → T f) ∧ M 1 4 = 0 ∧ M 1 2 ≤ n ∧ M 52 2 + M 52 5 + 2 ≤ M 1 2 ∧ M 52 3 ≤ 60 ∧ st.length ≤ 10 ∧ CP M st ∧ M 52 7 = cnt st
theorem Lk.move {b : Int → Int} {n : Int} {T : Int → Prop} {M M1 : Mm} {m k q : Int} {st : List Bool} (h : Lk b n T M m st k) (f : ∀ c p : Int, ¬ (c = 1 ∧ 2 ≤ p ∧ p ≤ 3) → M1 c p = M c p) (hs : Sk b n (M 1 2) q) (hq : M1 1 2 = q) (hn : q ≤ n) : Lk b n T M1 m st k := by
  obtain ⟨h1, h2, h3, h4, h5, h6, h7, h8⟩ := h
  refine ⟨fun g z => h1 g ?_, (f 1 4 (by first | decide | exact fun z => absurd z.1 (by decide) | exact ⟨fun z => absurd z.1 (by decide), fun z => absurd z.1 (by decide)⟩ | omega)).trans h2, by omega, ?_, by rw [f 52 3 (by first | decide | exact fun z => absurd z.1 (by decide) | exact ⟨fun z => absurd z.1 (by decide), fun z => absurd z.1 (by decide)⟩ | omega)]; exact h5, h6, h7.same (f 52 5 (by first | decide | exact fun z => absurd z.1 (by decide) | exact ⟨fun z => absurd z.1 (by decide), fun z => absurd z.1 (by decide)⟩ | omega)) (f 52 6 (by first | decide | exact fun z => absurd z.1 (by decide) | exact ⟨fun z => absurd z.1 (by decide), fun z => absurd z.1 (by decide)⟩ | omega)) (fun p => f 54 p (by first | decide | exact fun z => absurd z.1 (by decide) | exact ⟨fun z => absurd z.1 (by decide), fun z => absurd z.1 (by decide)⟩ | omega)), (f 52 7 (by first | decide | exact fun z => absurd z.1 (by decide) | exact ⟨fun z => absurd z.1 (by decide), fun z => absurd z.1 (by decide)⟩ | omega)).trans h8⟩
  · rw [hq, f 52 3 (by first | decide | exact fun z => absurd z.1 (by decide) | exact ⟨fun z => absurd z.1 (by decide), fun z => absurd z.1 (by decide)⟩ | omega)] at z
    exact Acc.back hs z
  · rw [f 52 2 (by first | decide | exact fun z => absurd z.1 (by decide) | exact ⟨fun z => absurd z.1 (by decide), fun z => absurd z.1 (by decide)⟩ | omega), f 52 5 (by first | decide | exact fun z => absurd z.1 (by decide) | exact ⟨fun z => absurd z.1 (by decide), fun z => absurd z.1 (by decide)⟩ | omega)]
    have := hs.1
    omega
theorem vws_t : ∀ i : Nat, i < 10 → vws.getD i 0 < 17 := by decide
end
