theorem z_X12_turnedIn {X : Mm} {S : Sh} {m0 : Mm} {K : Int → Mm → Prop} {u1 u2 : Int} (hS : Shp S) (hm0 : Inv X S m0) (l_u1 : 1 ≤ u1) (h_u1 : u1 ≤ 60) (l_u2 : 0 ≤ u2) (h_u2 : u2 ≤ 1) (hk : ∀ (r : Int) (M1 : Mm), Inv X S M1 → (-2147483648) ≤ r → r ≤ 2147483647 → K r M1) : wp_X12_turnedIn S m0 336 u1 u2 K := by
  refine u_X12_turnedIn ?_
  refine ⟨hS.k336, ?_⟩
  refine z_X12_keeps hS hm0 (fun m1 hm1 fm1 => ?_)
  refine g_putz 23 rfl hS.k336 (by omega) (hm1.w_336_23 (by omega) (by omega)) (fun m2 em2 hm2 => ?_)
  refine g_C ?_
  have L_n_l99 : ∀ (n_l99 : Nat) (u5 : Int) (m6 : Mm), Inv (up X (-1) 0 1) S m6 → 0 ≤ u5 → u5 ≤ 60 → 61 - u5 ≤ (n_l99 : Int) → wp_X12_turnedIn_11 S K n_l99 336 u1 u5 m6 := by
    intro n_l99
    induction n_l99 with
    | zero => intro u5 m6 hm6 bu5 cu5 zn_l99; exfalso; omega
    | succ n_l99 ih_n_l99 =>
      intro u5 m6 hm6 bu5 cu5 zn_l99
      refine u_X12_turnedIn_11 ?_
      refine g_if (fun w100 => ?_) (fun w100 => ?_)
      · refine g_C ?_
        refine g_putz 23 rfl hS.k336 (by omega) (hm6.w_336_23 (by omega) (by omega)) (fun m101 em101 hm101 => ?_)
        refine ⟨hS.k336, ?_⟩
        refine z_X12_turnedAll hS hm101 (fun v102 bv102 cv102 => ?_)
        refine ⟨hS.k336, ?_⟩
        refine z_X12_laysBack hS hm101 (up_at _ _ _ _) (fun m103 hm103 => ?_)
        exact hk v102 m103 hm103.unflag (by omega) (by omega)
      · refine ⟨hS.k336, ?_⟩
        refine z_X12_passes hS hm6 (fun v104 m105 hm105 bv104 cv104 => ?_)
        refine g_A (by omega) (by omega) ?_
        exact ih_n_l99 (u5 + 1) m105 hm105 (by omega) (by omega) (by omega)
  exact ⟨61, L_n_l99 61 0 m2 hm2 (by omega) (by omega) (by omega)⟩
theorem z_X12_ice {X : Mm} {S : Sh} {m0 : Mm} {K : Int → Mm → Prop} {u1 : Int} (hS : Shp S) (hm0 : Inv X S m0) (l_u1 : (-2147483648) ≤ u1) (h_u1 : u1 ≤ 2147483647) (hk : ∀ (r : Int) (M1 : Mm), Inv X S M1 → (-2147483648) ≤ r → r ≤ 2147483647 → K r M1) : wp_X12_ice S m0 336 u1 K := by
  refine u_X12_ice ?_
  refine ⟨hS.k336, ?_⟩
  refine u_X12_isDairy ?_
  refine g_getr 20 346 rfl hS.k336 hm0.f_336_20 (by decide) ?_
  refine g_C ?_
  refine g_ld (0) (6) hS.k346 hS.l346 (by omega) (by omega) (hm0.f_346_0) (fun v1 ev1 bv1 cv1 => ?_)
  refine g_if (fun w2 => ?_) (fun w2 => ?_)
  · refine g_C ?_
    refine ⟨by omega, ?_⟩
    refine g_ifT (by omega) ?_
    refine g_C ?_
    exact hk (-1) m0 hm0 (by omega) (by omega)
  · refine g_C ?_
    refine ⟨by omega, ?_⟩
    refine g_ifF (by omega) ?_
    refine g_C ?_
    refine g_C ?_
    refine g_C ?_
    refine z_in (fun aw3 bw3 => ?_) (fun cw3 => ?_)
    · refine g_ifF (by omega) ?_
      refine g_C ?_
      refine ⟨hS.k336, ?_⟩
      refine z_X12_turnedIn hS hm0 (by omega) (by omega) (by omega) (by omega) (fun v4 m5 hm5 bv4 cv4 => ?_)
      refine g_C ?_
      refine ⟨hS.k336, ?_⟩
      refine z_X12_turnedIn hS hm5 (by omega) (by omega) (by omega) (by omega) (fun v6 m7 hm7 bv6 cv6 => ?_)
      refine g_Sw (fun v8 bv8 cv8 => ?_)
      exact hk v8 m7 hm7 (by omega) (by omega)
    · refine g_ifT (by omega) ?_
      refine g_C ?_
      exact hk (-1) m0 hm0 (by omega) (by omega)
theorem z_X12_jug {X : Mm} {S : Sh} {m0 : Mm} {K : Int → Mm → Prop} {u1 u2 : Int} (hS : Shp S) (hm0 : Inv X S m0) (l_u1 : (-2147483648) ≤ u1) (h_u1 : u1 ≤ 2147483647) (l_u2 : (-2147483648) ≤ u2) (h_u2 : u2 ≤ 2147483647) (hk : ∀ (r : Int), K r m0) : wp_X12_jug S m0 336 u1 u2 K := by
  refine u_X12_jug ?_
  refine ⟨hS.k336, ?_⟩
  refine u_X12_isJug ?_
  refine g_if (fun w1 => ?_) (fun w1 => ?_)
  · refine g_C ?_
    refine ⟨by omega, ?_⟩
    refine g_ifF (by omega) ?_
    refine g_C ?_
    exact hk (-2)
  · refine g_getr 20 346 rfl hS.k336 hm0.f_336_20 (by decide) ?_
    refine g_C ?_
    refine g_ld (0) (4) hS.k346 hS.l346 (by omega) (by omega) (hm0.f_346_5) (fun v2 ev2 bv2 cv2 => ?_)
    refine g_if (fun w3 => ?_) (fun w3 => ?_)
    · refine g_C ?_
      refine ⟨by omega, ?_⟩
      refine g_ifF (by omega) ?_
      refine g_C ?_
      exact hk (-2)
    · refine g_C ?_
      refine ⟨by omega, ?_⟩
      refine g_ifT (by omega) ?_
      refine g_if (fun w4 => ?_) (fun w4 => ?_)
      · refine ⟨hS.k336, ?_⟩
        refine u_X12_stands ?_
        refine g_C ?_
        refine ⟨hS.k336, ?_⟩
        refine u_X12_jugOf ?_
        refine g_getr 20 346 rfl hS.k336 hm0.f_336_20 (by decide) ?_
        refine g_C ?_
        refine g_C ?_
        refine g_M (by omega) (by omega) ?_
        refine g_A (by omega) (by omega) ?_
        refine g_A (by omega) (by omega) ?_
        refine g_ld (-1) (4) hS.k346 hS.l346 (by omega) (by omega) (fam_346_36_4_0_3 hm0 (a := u1) (by omega) (by omega) (by omega)) (fun v5 ev5 bv5 cv5 => ?_)
        refine g_if (fun w6 => ?_) (fun w6 => ?_)
        · refine g_C ?_
          refine ⟨by omega, ?_⟩
          refine g_ifT (by omega) ?_
          refine g_C ?_
          exact hk (-1)
        · refine g_C ?_
          refine ⟨hS.k336, ?_⟩
          refine u_X12_jugOf ?_
          refine g_getr 20 346 rfl hS.k336 hm0.f_336_20 (by decide) ?_
          refine g_C ?_
          refine g_C ?_
          refine g_M (by omega) (by omega) ?_
          refine g_A (by omega) (by omega) ?_
          refine g_A (by omega) (by omega) ?_
          refine g_ld (0) (1) hS.k346 hS.l346 (by omega) (by omega) (fam_346_38_4_0_3 hm0 (a := u1) (by omega) (by omega) (by omega)) (fun v7 ev7 bv7 cv7 => ?_)
          refine g_if (fun w8 => ?_) (fun w8 => ?_)
          · refine g_C ?_
            refine ⟨by omega, ?_⟩
            refine g_ifT (by omega) ?_
            refine g_C ?_
            exact hk (-1)
          · refine g_C ?_
            refine ⟨by omega, ?_⟩
            refine g_ifF (by omega) ?_
            refine g_C ?_
            refine ⟨hS.k336, ?_⟩
            refine u_X12_jugOf ?_
            refine g_getr 20 346 rfl hS.k336 hm0.f_336_20 (by decide) ?_
            refine g_C ?_
            refine g_C ?_
            refine g_M (by omega) (by omega) ?_
            refine g_A (by omega) (by omega) ?_
            refine g_A (by omega) (by omega) ?_
            refine g_ld (0) (5) hS.k346 hS.l346 (by omega) (by omega) (fam_346_35_4_0_3 hm0 (a := u1) (by omega) (by omega) (by omega)) (fun v9 ev9 bv9 cv9 => ?_)
            exact hk v9
      · refine g_if (fun w10 => ?_) (fun w10 => ?_)
        · refine ⟨hS.k336, ?_⟩
          refine u_X12_jugOf ?_
          refine g_getr 20 346 rfl hS.k336 hm0.f_336_20 (by decide) ?_
          refine g_C ?_
          refine g_C ?_
          refine g_M (by omega) (by omega) ?_
          refine g_A (by omega) (by omega) ?_
          refine g_A (by omega) (by omega) ?_
          refine g_ldu hS.k346 hS.l346 (by omega) (by omega) (fun v11 ev11 => ?_)
          exact hk v11
        · refine g_if (fun w12 => ?_) (fun w12 => ?_)
          · refine ⟨hS.k336, ?_⟩
            refine u_X12_jugOf ?_
            refine g_getr 20 346 rfl hS.k336 hm0.f_336_20 (by decide) ?_
            refine g_C ?_
            refine g_C ?_
            refine g_M (by omega) (by omega) ?_
            refine g_A (by omega) (by omega) ?_
            refine g_A (by omega) (by omega) ?_
            refine g_ldu hS.k346 hS.l346 (by omega) (by omega) (fun v13 ev13 => ?_)
            exact hk v13
          · refine g_if (fun w14 => ?_) (fun w14 => ?_)
            · refine g_C ?_
              refine ⟨hS.k336, ?_⟩
              refine u_X12_jugOf ?_
              refine g_getr 20 346 rfl hS.k336 hm0.f_336_20 (by decide) ?_
              refine g_C ?_
              refine g_C ?_
              refine g_M (by omega) (by omega) ?_
              refine g_A (by omega) (by omega) ?_
              refine g_A (by omega) (by omega) ?_
              refine g_ld (-2147483648) (2147483647) hS.k346 hS.l346 (by omega) (by omega) (fam_346_37_4_0_3 hm0 (a := u1) (by omega) (by omega) (by omega)) (fun v15 ev15 bv15 cv15 => ?_)
              refine g_getr 20 346 rfl hS.k336 hm0.f_336_20 (by decide) ?_
              refine g_C ?_
              refine g_ld (0) (99) hS.k346 hS.l346 (by omega) (by omega) (hm0.f_346_2) (fun v16 ev16 bv16 cv16 => ?_)
              refine g_if (fun w17 => ?_) (fun w17 => ?_)
              · refine g_C ?_
                exact hk 0
              · refine g_C ?_
                exact hk 1
            · refine g_if (fun w18 => ?_) (fun w18 => ?_)
              · refine g_C ?_
                refine ⟨hS.k336, ?_⟩
                refine u_X12_jugOf ?_
                refine g_getr 20 346 rfl hS.k336 hm0.f_336_20 (by decide) ?_
                refine g_C ?_
                refine g_C ?_
                refine g_M (by omega) (by omega) ?_
                refine g_A (by omega) (by omega) ?_
                refine g_A (by omega) (by omega) ?_
                refine g_ld (0) (1) hS.k346 hS.l346 (by omega) (by omega) (fam_346_38_4_0_3 hm0 (a := u1) (by omega) (by omega) (by omega)) (fun v19 ev19 bv19 cv19 => ?_)
                exact hk v19
              · refine g_C ?_
                exact hk (-2)
theorem z_X12_power {X : Mm} {S : Sh} {m0 : Mm} {K : Int → Mm → Prop} {u0 u1 : Int} (hS : Shp S) (hm0 : Inv X S m0) (l_u0 : 0 ≤ u0) (h_u0 : u0 ≤ 5) (l_u1 : (-6) ≤ u1) (h_u1 : u1 ≤ 6) (p0 : 1 ≤ u0 ∨ u1 ≤ 0) (hk : ∀ (r : Int), 1 ≤ r → r ≤ 15625 → K r m0) : wp_X12_power S m0 u0 u1 K := by
  have p5 : ∀ j : Nat, j ≤ 6 → (5 : Int) ^ j ≤ 15625 := by decide
  refine u_X12_power ?_
  refine g_C ?_
  refine g_C ?_
  have L : ∀ (n : Nat) (v k : Int), 0 ≤ k → (k ≤ u1 ∨ k = 0) → 1 ≤ v → v ≤ 5 ^ k.toNat → 7 - k ≤ (n : Int) → wp_X12_power_4 S K n u0 u1 v k m0 := by
    intro n
    induction n with
    | zero => intro v k a1 a2 a3 a4 a5; exfalso; omega
    | succ n ih =>
      intro v k a1 a2 a3 a4 a5
      refine u_X12_power_4 ?_
      have a6 := p5 k.toNat (by omega)
      refine g_if (fun w => hk v a3 (by omega)) (fun w => ?_)
      have q : v * u0 ≤ 5 ^ k.toNat * 5 := Int.mul_le_mul a4 h_u0 l_u0 (by omega)
      have q1 : 1 * 1 ≤ v * u0 := Int.mul_le_mul a3 (by omega) (by decide) (by omega)
      have e : (k + 1).toNat = k.toNat + 1 := by omega
      have q2 : (5 : Int) ^ (k + 1).toNat = 5 ^ k.toNat * 5 := by rw [e, Int.pow_succ]
      have a7 := p5 (k + 1).toNat (by omega)
      refine g_M (by omega) (by omega) ?_
      refine g_A (by omega) (by omega) ?_
      exact ih (v * u0) (k + 1) (by omega) (by omega) (by omega) (by omega) (by omega)
  exact ⟨7, L 7 1 0 (by omega) (by omega) (by omega) (by decide) (by omega)⟩
theorem z_X12_payBy {X : Mm} {S : Sh} {m0 : Mm} {K : Int → Mm → Prop} {u1 : Int} (hS : Shp S) (hm0 : Inv X S m0) (l_u1 : 1 ≤ u1) (h_u1 : u1 ≤ 15624) (hk : ∀ (r : Int), (-2147483648) ≤ r → r ≤ 2147483647 → K r m0) : wp_X12_payBy S m0 336 u1 K := by
  refine u_X12_payBy ?_
  refine g_C ?_
  refine g_C ?_
  refine g_C ?_
  have L_n_l400 : ∀ (n_l400 : Nat) (u3 : Int) (u4 : Int) (u5 : Int), 0 ≤ u3 → u3 ≤ 15 → (-2147483648) ≤ u4 → u4 ≤ 2147483647 → 0 ≤ u5 → u5 ≤ 6 → 7 - u5 ≤ (n_l400 : Int) → wp_X12_payBy_7 S K n_l400 336 u1 u3 u4 u5 m0 := by
    intro n_l400
    induction n_l400 with
    | zero => intro u3 u4 u5 bu3 cu3 bu4 cu4 bu5 cu5 zn_l400; exfalso; omega
    | succ n_l400 ih_n_l400 =>
      intro u3 u4 u5 bu3 cu3 bu4 cu4 bu5 cu5 zn_l400
      refine u_X12_payBy_7 ?_
      refine g_getr 20 346 rfl hS.k336 hm0.f_336_20 (by decide) ?_
      refine g_C ?_
      refine g_ld (0) (6) hS.k346 hS.l346 (by omega) (by omega) (hm0.f_346_6) (fun v401 ev401 bv401 cv401 => ?_)
      refine g_if (fun w402 => ?_) (fun w402 => ?_)
      · exact hk u4 (by omega) (by omega)
      · refine ⟨hS.k336, ?_⟩
        refine u_X12_jugIn ?_
        refine g_getr 20 346 rfl hS.k336 hm0.f_336_20 (by decide) ?_
        refine g_C ?_
        refine g_ld (0) (4) hS.k346 hS.l346 (by omega) (by omega) (hm0.f_346_5) (fun v403 ev403 bv403 cv403 => ?_)
        refine g_C ?_
        refine g_A (by omega) (by omega) ?_
        refine g_getr 20 346 rfl hS.k336 hm0.f_336_20 (by decide) ?_
        refine g_C ?_
        refine g_ld (0) (6) hS.k346 hS.l346 (by omega) (by omega) (hm0.f_346_6) (fun v404 ev404 bv404 cv404 => ?_)
        have qv404 : v404 = v401 := (ev404.trans (hm0.g (by decide))).trans ((ev401.trans (hm0.g (by decide))).symm)
        refine g_C ?_
        refine g_S (by omega) (by omega) ?_
        refine g_S (by omega) (by omega) ?_
        refine z_X12_power hS hm0 (by omega) (by omega) (by omega) (by omega) (by omega) (fun v405 bv405 cv405 => ?_)
        refine g_iDiv (by omega) (by omega) (by omega) (by omega) (fun v406 bv406 cv406 => ?_)
        refine g_getr 20 346 rfl hS.k336 hm0.f_336_20 (by decide) ?_
        refine g_C ?_
        refine g_ld (0) (4) hS.k346 hS.l346 (by omega) (by omega) (hm0.f_346_5) (fun v407 ev407 bv407 cv407 => ?_)
        have qv407 : v407 = v403 := (ev407.trans (hm0.g (by decide))).trans ((ev403.trans (hm0.g (by decide))).symm)
        refine g_C ?_
        refine g_A (by omega) (by omega) ?_
        refine g_iRem (by omega) (by omega) (by omega) (by omega) (fun v408 bv408 cv408 => ?_)
        refine g_C ?_
        refine g_S (by omega) (by omega) ?_
        refine g_if (fun w409 => ?_) (fun w409 => ?_)
        · refine g_getr 20 346 rfl hS.k336 hm0.f_336_20 (by decide) ?_
          refine g_C ?_
          refine g_A (by omega) (by omega) ?_
          refine g_ld (-2147483648) (2147483647) hS.k346 hS.l346 (by omega) (by omega) (fam_346_51_1_0_5 hm0 (a := u5) (by omega) (by omega) (by omega)) (fun v410 ev410 bv410 cv410 => ?_)
          refine g_if (fun w411 => ?_) (fun w411 => ?_)
          · refine g_C ?_
            exact hk (-1) (by omega) (by omega)
          · refine g_C ?_
            refine ⟨hS.k336, ?_⟩
            refine u_X12_jugOf ?_
            refine g_getr 20 346 rfl hS.k336 hm0.f_336_20 (by decide) ?_
            refine g_C ?_
            refine g_C ?_
            refine g_M (by omega) (by omega) ?_
            refine g_A (by omega) (by omega) ?_
            refine g_A (by omega) (by omega) ?_
            refine g_ld (0) (1) hS.k346 hS.l346 (by omega) (by omega) (fam_346_34_4_1_4 hm0 (a := v408) (by omega) (by omega) (by omega)) (fun v412 ev412 bv412 cv412 => ?_)
            refine g_C ?_
            refine g_if (fun w413 => ?_) (fun w413 => ?_)
            · refine g_C ?_
              exact hk (-1) (by omega) (by omega)
            · refine u_X12_isOf ?_
              refine g_iShr (by omega) (by omega) (fun v414 bv414 cv414 => ?_)
              refine g_C ?_
              refine g_iAndR (by omega) (by omega) (fun v415 dv415 bv415 cv415 => ?_)
              refine g_C ?_
              refine g_if (fun w416 => ?_) (fun w416 => ?_)
              · refine g_C ?_
                refine ⟨by omega, ?_⟩
                refine g_ifF (by omega) ?_
                refine g_C ?_
                refine ⟨hS.k336, ?_⟩
                refine u_X12_jugOf ?_
                refine g_getr 20 346 rfl hS.k336 hm0.f_336_20 (by decide) ?_
                refine g_C ?_
                refine g_C ?_
                refine g_M (by omega) (by omega) ?_
                refine g_A (by omega) (by omega) ?_
                refine g_A (by omega) (by omega) ?_
                refine g_ld (-2147483648) (2147483647) hS.k346 hS.l346 (by omega) (by omega) (fam_346_33_4_1_4 hm0 (a := v408) (by omega) (by omega) (by omega)) (fun v417 ev417 bv417 cv417 => ?_)
                refine g_C ?_
                refine g_C ?_
                refine ⟨hS.k336, ?_⟩
                refine u_X12_wantOf ?_
                refine g_getr 20 346 rfl hS.k336 hm0.f_336_20 (by decide) ?_
                refine g_C ?_
                refine g_C ?_
                refine g_M (by omega) (by omega) ?_
                refine g_A (by omega) (by omega) ?_
                refine g_A (by omega) (by omega) ?_
                refine g_ld (0) (99) hS.k346 hS.l346 (by omega) (by omega) (fam_346_94_4_0_5 hm0 (a := u5) (by omega) (by omega) (by omega)) (fun v418 ev418 bv418 cv418 => ?_)
                refine g_C ?_
                refine g_C ?_
                refine ⟨hS.k336, ?_⟩
                refine u_X12_wantOf ?_
                refine g_getr 20 346 rfl hS.k336 hm0.f_336_20 (by decide) ?_
                refine g_C ?_
                refine g_C ?_
                refine g_M (by omega) (by omega) ?_
                refine g_A (by omega) (by omega) ?_
                refine g_A (by omega) (by omega) ?_
                refine g_ld (0) (99) hS.k346 hS.l346 (by omega) (by omega) (fam_346_95_4_0_5 hm0 (a := u5) (by omega) (by omega) (by omega)) (fun v419 ev419 bv419 cv419 => ?_)
                refine g_C ?_
                refine z_in (fun aw420 bw420 => ?_) (fun cw420 => ?_)
                · refine g_ifT (by omega) ?_
                  refine g_C ?_
                  refine g_iShl 3 (by omega) (by omega) (by decide) (fun v421 bv421 cv421 => ?_)
                  refine g_iOr 4 (by omega) (by omega) (by omega) (by omega) (by decide) (fun v422 bv422 cv422 => ?_)
                  refine g_C ?_
                  refine ⟨hS.k336, ?_⟩
                  refine u_X12_wantOf ?_
                  refine g_getr 20 346 rfl hS.k336 hm0.f_336_20 (by decide) ?_
                  refine g_C ?_
                  refine g_C ?_
                  refine g_M (by omega) (by omega) ?_
                  refine g_A (by omega) (by omega) ?_
                  refine g_A (by omega) (by omega) ?_
                  refine g_ld (0) (50) hS.k346 hS.l346 (by omega) (by omega) (fam_346_96_4_0_5 hm0 (a := u5) (by omega) (by omega) (by omega)) (fun v423 ev423 bv423 cv423 => ?_)
                  refine g_Aw (fun v424 bv424 cv424 => ?_)
                  refine u_X12_payBy_118 ?_
                  refine g_A (by omega) (by omega) ?_
                  exact ih_n_l400 v422 v424 (u5 + 1) (by omega) (by omega) (by omega) (by omega) (by omega) (by omega) (by omega)
                · refine g_ifF (by omega) ?_
                  refine g_C ?_
                  exact hk (-1) (by omega) (by omega)
              · refine g_C ?_
                refine ⟨by omega, ?_⟩
                refine g_ifT (by omega) ?_
                refine g_C ?_
                exact hk (-1) (by omega) (by omega)
        · refine u_X12_payBy_118 ?_
          refine g_A (by omega) (by omega) ?_
          exact ih_n_l400 u3 u4 (u5 + 1) (by omega) (by omega) (by omega) (by omega) (by omega) (by omega) (by omega)
  exact ⟨7, L_n_l400 7 0 0 0 (by omega) (by omega) (by omega) (by omega) (by omega) (by omega) (by omega)⟩
theorem z_X12_match {X : Mm} {S : Sh} {m0 : Mm} {K : Int → Mm → Prop} {u1 : Int} (hS : Shp S) (hm0 : Inv X S m0) (l_u1 : (-2147483648) ≤ u1) (h_u1 : u1 ≤ 2147483647) (hk : ∀ (r : Int), (-3) ≤ r → r ≤ 2147483647 → K r m0) : wp_X12_match S m0 336 u1 K := by
  refine u_X12_match ?_
  refine ⟨hS.k336, ?_⟩
  refine u_X12_isDairy ?_
  refine g_getr 20 346 rfl hS.k336 hm0.f_336_20 (by decide) ?_
  refine g_C ?_
  refine g_ld (0) (6) hS.k346 hS.l346 (by omega) (by omega) (hm0.f_346_0) (fun v1 ev1 bv1 cv1 => ?_)
  refine g_if (fun w2 => ?_) (fun w2 => ?_)
  · refine g_C ?_
    refine ⟨by omega, ?_⟩
    refine g_ifT (by omega) ?_
    refine g_C ?_
    exact hk (-3) (by omega) (by omega)
  · refine g_C ?_
    refine ⟨by omega, ?_⟩
    refine g_ifF (by omega) ?_
    refine g_C ?_
    refine g_C ?_
    refine g_C ?_
    refine z_in (fun aw3 bw3 => ?_) (fun cw3 => ?_)
    · refine g_ifT (by omega) ?_
      refine g_C ?_
      refine g_C ?_
      refine g_C ?_
      have L_n_l355 : ∀ (n_l355 : Nat) (u6 : Int) (u7 : Int) (u8 : Int), 0 ≤ u6 → u6 ≤ 65536 → 0 ≤ u7 → u7 ≤ 2147483647 → 1 ≤ u8 → u8 ≤ 15625 → 15626 - u8 ≤ (n_l355 : Int) → wp_X12_match_29 S K n_l355 336 u1 u6 u7 u8 m0 := by
        intro n_l355
        induction n_l355 with
        | zero => intro u6 u7 u8 bu6 cu6 bu7 cu7 bu8 cu8 zn_l355; exfalso; omega
        | succ n_l355 ih_n_l355 =>
          intro u6 u7 u8 bu6 cu6 bu7 cu7 bu8 cu8 zn_l355
          refine u_X12_match_29 ?_
          refine g_getr 20 346 rfl hS.k336 hm0.f_336_20 (by decide) ?_
          refine g_C ?_
          refine g_ld (0) (4) hS.k346 hS.l346 (by omega) (by omega) (hm0.f_346_5) (fun v356 ev356 bv356 cv356 => ?_)
          refine g_C ?_
          refine g_A (by omega) (by omega) ?_
          refine g_getr 20 346 rfl hS.k336 hm0.f_336_20 (by decide) ?_
          refine g_C ?_
          refine g_ld (0) (6) hS.k346 hS.l346 (by omega) (by omega) (hm0.f_346_6) (fun v357 ev357 bv357 cv357 => ?_)
          refine z_X12_power hS hm0 (by omega) (by omega) (by omega) (by omega) (by omega) (fun v358 bv358 cv358 => ?_)
          refine g_if (fun w359 => ?_) (fun w359 => ?_)
          · refine g_if (fun w360 => ?_) (fun w360 => ?_)
            · refine g_getr 20 346 rfl hS.k336 hm0.f_336_20 (by decide) ?_
              refine g_C ?_
              refine g_ld (0) (6) hS.k346 hS.l346 (by omega) (by omega) (hm0.f_346_6) (fun v361 ev361 bv361 cv361 => ?_)
              have qv361 : v361 = v357 := (ev361.trans (hm0.g (by decide))).trans ((ev357.trans (hm0.g (by decide))).symm)
              refine g_if (fun w362 => ?_) (fun w362 => ?_)
              · refine g_C ?_
                refine g_S (by omega) (by omega) ?_
                refine ⟨hS.k336, ?_⟩
                refine u_X12_jugIn ?_
                refine g_getr 20 346 rfl hS.k336 hm0.f_336_20 (by decide) ?_
                refine g_C ?_
                refine g_ld (0) (4) hS.k346 hS.l346 (by omega) (by omega) (hm0.f_346_5) (fun v363 ev363 bv363 cv363 => ?_)
                have qv363 : v363 = v356 := (ev363.trans (hm0.g (by decide))).trans ((ev356.trans (hm0.g (by decide))).symm)
                refine g_C ?_
                refine g_A (by omega) (by omega) ?_
                refine g_getr 20 346 rfl hS.k336 hm0.f_336_20 (by decide) ?_
                refine g_C ?_
                refine g_ld (0) (6) hS.k346 hS.l346 (by omega) (by omega) (hm0.f_346_6) (fun v364 ev364 bv364 cv364 => ?_)
                have qv364 : v364 = v357 := (ev364.trans (hm0.g (by decide))).trans ((ev357.trans (hm0.g (by decide))).symm)
                refine g_C ?_
                refine g_S (by omega) (by omega) ?_
                refine g_S (by omega) (by omega) ?_
                refine z_X12_power hS hm0 (by omega) (by omega) (by omega) (by omega) (by omega) (fun v365 bv365 cv365 => ?_)
                refine g_iDiv (by omega) (by omega) (by omega) (by omega) (fun v366 bv366 cv366 => ?_)
                refine g_getr 20 346 rfl hS.k336 hm0.f_336_20 (by decide) ?_
                refine g_C ?_
                refine g_ld (0) (4) hS.k346 hS.l346 (by omega) (by omega) (hm0.f_346_5) (fun v367 ev367 bv367 cv367 => ?_)
                have qv367 : v367 = v356 := (ev367.trans (hm0.g (by decide))).trans ((ev356.trans (hm0.g (by decide))).symm)
                refine g_C ?_
                refine g_A (by omega) (by omega) ?_
                refine g_iRem (by omega) (by omega) (by omega) (by omega) (fun v368 bv368 cv368 => ?_)
                refine g_C ?_
                refine g_S (by omega) (by omega) ?_
                exact hk (v368 - 1) (by omega) (by omega)
              · refine g_C ?_
                exact hk (-2) (by omega) (by omega)
            · exact hk u7 (by omega) (by omega)
          · refine ⟨hS.k336, ?_⟩
            refine z_X12_payBy hS hm0 (by omega) (by omega) (fun v369 bv369 cv369 => ?_)
            refine g_if (fun w370 => ?_) (fun w370 => ?_)
            · refine u_X12_match_75 ?_
              refine g_A (by omega) (by omega) ?_
              exact ih_n_l355 u8 v369 (u8 + 1) (by omega) (by omega) (by omega) (by omega) (by omega) (by omega) (by omega)
            · refine u_X12_match_75 ?_
              refine g_A (by omega) (by omega) ?_
              exact ih_n_l355 u6 u7 (u8 + 1) (by omega) (by omega) (by omega) (by omega) (by omega) (by omega) (by omega)
      exact ⟨15625, L_n_l355 15625 0 0 1 (by omega) (by omega) (by omega) (by omega) (by omega) (by omega) (by omega)⟩
    · refine g_ifF (by omega) ?_
      refine g_C ?_
      exact hk (-3) (by omega) (by omega)
theorem z_X12_meet {X : Mm} {S : Sh} {m0 : Mm} {K : Int → Mm → Prop} {u1 : Int} (hS : Shp S) (hm0 : Inv X S m0) (l_u1 : (-2147483648) ≤ u1) (h_u1 : u1 ≤ 2147483647) (hk : ∀ (r : Int) (M1 : Mm), Inv X S M1 → (-1) ≤ r → r ≤ 3 → K r M1) : wp_X12_meet S m0 336 u1 K := by
  refine u_X12_meet ?_
  refine ⟨hS.k336, ?_⟩
  refine u_X12_isWant ?_
  refine g_if (fun w1 => ?_) (fun w1 => ?_)
  · refine g_C ?_
    refine ⟨by omega, ?_⟩
    refine g_ifF (by omega) ?_
    refine g_C ?_
    exact hk (-1) m0 hm0 (by omega) (by omega)
  · refine g_getr 20 346 rfl hS.k336 hm0.f_336_20 (by decide) ?_
    refine g_C ?_
    refine g_ld (0) (6) hS.k346 hS.l346 (by omega) (by omega) (hm0.f_346_6) (fun v2 ev2 bv2 cv2 => ?_)
    refine g_if (fun w3 => ?_) (fun w3 => ?_)
    · refine g_C ?_
      refine ⟨by omega, ?_⟩
      refine g_ifF (by omega) ?_
      refine g_C ?_
      exact hk (-1) m0 hm0 (by omega) (by omega)
    · refine g_C ?_
      refine ⟨by omega, ?_⟩
      refine g_ifT (by omega) ?_
      refine ⟨hS.k336, ?_⟩
      refine z_X12_firstFor hS hm0 (by omega) (by omega) (fun v4 bv4 cv4 => ?_)
      refine g_if (fun w5 => ?_) (fun w5 => ?_)
      · refine ⟨hS.k336, ?_⟩
        refine z_X12_keepsAct hS hm0 (fun m6 hm6 => ?_)
        refine g_getr 20 346 rfl hS.k336 hm6.f_336_20 (by decide) ?_
        refine g_C ?_
        refine g_C ?_
        refine g_M (by omega) (by omega) ?_
        refine g_A (by omega) (by omega) ?_
        refine g_C ?_
        refine g_A (by omega) (by omega) ?_
        refine g_C ?_
        refine g_st hS.k346 hS.l346 (by omega) (by omega) (wfm_346_38_4_0_3 hm6 (a := v4) (by omega) (by omega) (by omega) (by omega) (by omega)) (fun m7 em7 hm7 => ?_)
        refine g_getr 20 346 rfl hS.k336 hm7.f_336_20 (by decide) ?_
        refine g_C ?_
        refine g_A (by omega) (by omega) ?_
        refine g_getr 20 346 rfl hS.k336 hm7.f_336_20 (by decide) ?_
        refine g_C ?_
        refine g_ld (-2147483648) (2147483647) hS.k346 hS.l346 (by omega) (by omega) (hm7.f_346_7) (fun v8 ev8 bv8 cv8 => ?_)
        refine g_st hS.k346 hS.l346 (by omega) (by omega) (wfm_346_51_1_0_5 hm7 (a := u1) (by omega) (by omega) (by omega) (by omega) (by omega)) (fun m9 em9 hm9 => ?_)
        refine g_getr 20 346 rfl hS.k336 hm9.f_336_20 (by decide) ?_
        refine g_C ?_
        refine g_ld (-2147483648) (2147483647) hS.k346 hS.l346 (by omega) (by omega) (hm9.f_346_8) (fun v10 ev10 bv10 cv10 => ?_)
        refine g_C ?_
        refine ⟨hS.k336, ?_⟩
        refine u_X12_wantOf ?_
        refine g_getr 20 346 rfl hS.k336 hm9.f_336_20 (by decide) ?_
        refine g_C ?_
        refine g_C ?_
        refine g_M (by omega) (by omega) ?_
        refine g_A (by omega) (by omega) ?_
        refine g_A (by omega) (by omega) ?_
        refine g_ld (0) (50) hS.k346 hS.l346 (by omega) (by omega) (fam_346_96_4_0_5 hm9 (a := u1) (by omega) (by omega) (by omega)) (fun v11 ev11 bv11 cv11 => ?_)
        refine g_Aw (fun v12 bv12 cv12 => ?_)
        refine g_st hS.k346 hS.l346 (by omega) (by omega) (hm9.w_346_8 (by omega) (by omega)) (fun m13 em13 hm13 => ?_)
        exact hk v4 m13 hm13 (by omega) (by omega)
      · refine g_C ?_
        exact hk (-1) m0 hm0 (by omega) (by omega)
theorem z_X12_probe {X : Mm} {S : Sh} {m0 : Mm} {K : Int → Mm → Prop} {u1 : Int} (hS : Shp S) (hm0 : Inv X S m0) (l_u1 : (-2147483648) ≤ u1) (h_u1 : u1 ≤ 2147483647) (hk : ∀ (r : Int) (M1 : Mm), Inv X S M1 → (-2) ≤ r → r ≤ 2147483647 → K r M1) : wp_X12_probe S m0 336 u1 K := by
  refine u_X12_probe ?_
  refine ⟨hS.k336, ?_⟩
  refine u_X12_isDairy ?_
  refine g_getr 20 346 rfl hS.k336 hm0.f_336_20 (by decide) ?_
  refine g_C ?_
  refine g_ld (0) (6) hS.k346 hS.l346 (by omega) (by omega) (hm0.f_346_0) (fun v1 ev1 bv1 cv1 => ?_)
  refine g_if (fun w2 => ?_) (fun w2 => ?_)
  · refine g_C ?_
    refine ⟨by omega, ?_⟩
    refine g_ifT (by omega) ?_
    refine g_C ?_
    exact hk (-1) m0 hm0 (by omega) (by omega)
  · refine g_C ?_
    refine ⟨by omega, ?_⟩
    refine g_ifF (by omega) ?_
    refine g_C ?_
    refine g_C ?_
    refine g_C ?_
    refine z_in (fun aw3 bw3 => ?_) (fun cw3 => ?_)
    · refine g_ifT (by omega) ?_
      refine ⟨hS.k336, ?_⟩
      refine z_X12_fitting hS hm0 (fun v4 m5 hm5 bv4 cv4 => ?_)
      refine g_if (fun w6 => ?_) (fun w6 => ?_)
      · refine g_C ?_
        refine g_C ?_
        have L_n_l106 : ∀ (n_l106 : Nat) (u10 : Int) (u11 : Int) (m12 : Mm), Inv X S m12 → 1 ≤ u10 → u10 ≤ 20 → 2 ≤ u11 → u11 ≤ 21 → 22 - u11 ≤ (n_l106 : Int) → wp_X12_probe_36 S K n_l106 336 u1 v4 u10 u11 m12 := by
          intro n_l106
          induction n_l106 with
          | zero => intro u10 u11 m12 hm12 bu10 cu10 bu11 cu11 zn_l106; exfalso; omega
          | succ n_l106 ih_n_l106 =>
            intro u10 u11 m12 hm12 bu10 cu10 bu11 cu11 zn_l106
            refine u_X12_probe_36 ?_
            refine g_C ?_
            refine g_if (fun w107 => ?_) (fun w107 => ?_)
            · refine g_if (fun w108 => ?_) (fun w108 => ?_)
              · refine ⟨hS.k336, ?_⟩
                refine z_X12_alikeBy hS hm12 (by omega) (by omega) (by omega) (by omega) (fun v109 m110 hm110 bv109 cv109 => ?_)
                exact hk v109 m110 hm110 (by omega) (by omega)
              · exact hk u10 m12 hm12 (by omega) (by omega)
            · refine ⟨hS.k336, ?_⟩
              refine z_X12_alikeBy hS hm12 (by omega) (by omega) (by omega) (by omega) (fun v111 m112 hm112 bv111 cv111 => ?_)
              refine ⟨hS.k336, ?_⟩
              refine z_X12_alikeBy hS hm112 (by omega) (by omega) (by omega) (by omega) (fun v113 m114 hm114 bv113 cv113 => ?_)
              refine g_if (fun w115 => ?_) (fun w115 => ?_)
              · refine u_X12_probe_62 ?_
                refine g_A (by omega) (by omega) ?_
                exact ih_n_l106 u10 (u11 + 1) m114 hm114 (by omega) (by omega) (by omega) (by omega) (by omega)
              · refine u_X12_probe_62 ?_
                refine g_A (by omega) (by omega) ?_
                exact ih_n_l106 u11 (u11 + 1) m114 hm114 (by omega) (by omega) (by omega) (by omega) (by omega)
        exact ⟨20, L_n_l106 20 1 2 m5 hm5 (by omega) (by omega) (by omega) (by omega) (by omega)⟩
      · refine g_C ?_
        exact hk (-2) m5 hm5 (by omega) (by omega)
    · refine g_ifF (by omega) ?_
      refine g_C ?_
      exact hk (-1) m0 hm0 (by omega) (by omega)
theorem z_X12_put {X : Mm} {S : Sh} {m0 : Mm} {K : Int → Mm → Prop} {u1 u2 : Int} (hS : Shp S) (hm0 : Inv X S m0) (l_u1 : (-2147483648) ≤ u1) (h_u1 : u1 ≤ 2147483647) (l_u2 : (-2147483648) ≤ u2) (h_u2 : u2 ≤ 2147483647) (hk : ∀ (r : Int) (M1 : Mm), Inv X S M1 → (-1) ≤ r → r ≤ 5 → K r M1) : wp_X12_put S m0 336 u1 u2 K := by
  refine u_X12_put ?_
  refine ⟨hS.k336, ?_⟩
  refine u_X12_isHand ?_
  refine g_if (fun w1 => ?_) (fun w1 => ?_)
  · refine g_C ?_
    refine ⟨by omega, ?_⟩
    refine g_ifT (by omega) ?_
    refine g_C ?_
    have zb2 := hm0.f_346_0
    have q3 : m0 346 0 = (m0 346 0) := (hm0.g (by decide)).trans (((Eq.refl (m0 346 0)).trans (hm0.g (by decide))).symm)
    have zb4 := hm0.f_346_4
    have q5 : m0 346 4 = (m0 346 4) := (hm0.g (by decide)).trans (((Eq.refl (m0 346 4)).trans (hm0.g (by decide))).symm)
    exact hk (-1) m0 hm0 (by omega) (by omega)
  · refine g_getr 20 346 rfl hS.k336 hm0.f_336_20 (by decide) ?_
    refine g_C ?_
    refine g_ld (0) (5) hS.k346 hS.l346 (by omega) (by omega) (hm0.f_346_4) (fun v6 ev6 bv6 cv6 => ?_)
    have qv6 : v6 = (m0 346 4) := (ev6.trans (hm0.g (by decide))).trans (((Eq.refl (m0 346 4)).trans (hm0.g (by decide))).symm)
    refine g_if (fun w7 => ?_) (fun w7 => ?_)
    · refine g_C ?_
      refine ⟨by omega, ?_⟩
      refine g_ifT (by omega) ?_
      refine g_C ?_
      have zb8 := hm0.f_346_0
      have q9 : m0 346 0 = (m0 346 0) := (hm0.g (by decide)).trans (((Eq.refl (m0 346 0)).trans (hm0.g (by decide))).symm)
      have zb10 := hm0.f_346_4
      have q11 : m0 346 4 = (m0 346 4) := (hm0.g (by decide)).trans (((Eq.refl (m0 346 4)).trans (hm0.g (by decide))).symm)
      exact hk (-1) m0 hm0 (by omega) (by omega)
    · refine g_C ?_
      refine ⟨by omega, ?_⟩
      refine g_ifF (by omega) ?_
      refine ⟨hS.k336, ?_⟩
      refine u_X12_isJug ?_
      refine g_if (fun w12 => ?_) (fun w12 => ?_)
      · refine g_C ?_
        refine ⟨by omega, ?_⟩
        refine g_ifT (by omega) ?_
        refine g_C ?_
        have zb13 := hm0.f_346_0
        have q14 : m0 346 0 = (m0 346 0) := (hm0.g (by decide)).trans (((Eq.refl (m0 346 0)).trans (hm0.g (by decide))).symm)
        have zb15 := hm0.f_346_4
        have q16 : m0 346 4 = (m0 346 4) := (hm0.g (by decide)).trans (((Eq.refl (m0 346 4)).trans (hm0.g (by decide))).symm)
        exact hk (-1) m0 hm0 (by omega) (by omega)
      · refine g_getr 20 346 rfl hS.k336 hm0.f_336_20 (by decide) ?_
        refine g_C ?_
        refine g_ld (0) (4) hS.k346 hS.l346 (by omega) (by omega) (hm0.f_346_5) (fun v17 ev17 bv17 cv17 => ?_)
        refine g_if (fun w18 => ?_) (fun w18 => ?_)
        · refine g_C ?_
          refine ⟨by omega, ?_⟩
          refine g_ifT (by omega) ?_
          refine g_C ?_
          have zb19 := hm0.f_346_0
          have q20 : m0 346 0 = (m0 346 0) := (hm0.g (by decide)).trans (((Eq.refl (m0 346 0)).trans (hm0.g (by decide))).symm)
          have zb21 := hm0.f_346_4
          have q22 : m0 346 4 = (m0 346 4) := (hm0.g (by decide)).trans (((Eq.refl (m0 346 4)).trans (hm0.g (by decide))).symm)
          exact hk (-1) m0 hm0 (by omega) (by omega)
        · refine g_C ?_
          refine ⟨by omega, ?_⟩
          refine g_ifF (by omega) ?_
          refine g_C ?_
          refine ⟨hS.k336, ?_⟩
          refine u_X12_jugOf ?_
          refine g_getr 20 346 rfl hS.k336 hm0.f_336_20 (by decide) ?_
          refine g_C ?_
          refine g_C ?_
          refine g_M (by omega) (by omega) ?_
          refine g_A (by omega) (by omega) ?_
          refine g_A (by omega) (by omega) ?_
          refine g_ld (-1) (4) hS.k346 hS.l346 (by omega) (by omega) (fam_346_36_4_0_3 hm0 (a := u2) (by omega) (by omega) (by omega)) (fun v23 ev23 bv23 cv23 => ?_)
          refine g_if (fun w24 => ?_) (fun w24 => ?_)
          · refine g_C ?_
            have zb25 := hm0.f_346_0
            have q26 : m0 346 0 = (m0 346 0) := (hm0.g (by decide)).trans (((Eq.refl (m0 346 0)).trans (hm0.g (by decide))).symm)
            have zb27 := hm0.f_346_4
            have q28 : m0 346 4 = (m0 346 4) := (hm0.g (by decide)).trans (((Eq.refl (m0 346 4)).trans (hm0.g (by decide))).symm)
            exact hk (-1) m0 hm0 (by omega) (by omega)
          · refine ⟨hS.k336, ?_⟩
            refine u_X12_isAtPlace ?_
            refine g_C ?_
            refine ⟨hS.k336, ?_⟩
            refine u_X12_handOf ?_
            refine g_getr 20 346 rfl hS.k336 hm0.f_336_20 (by decide) ?_
            refine g_C ?_
            refine g_C ?_
            refine g_M (by omega) (by omega) ?_
            refine g_A (by omega) (by omega) ?_
            refine g_A (by omega) (by omega) ?_
            refine g_ld (0) (5) hS.k346 hS.l346 (by omega) (by omega) (fam_346_11_5_0_4 hm0 (a := u1) (by omega) (by omega) (by omega)) (fun v29 ev29 bv29 cv29 => ?_)
            refine g_if (fun w30 => ?_) (fun w30 => ?_)
            · refine g_C ?_
              refine ⟨by omega, ?_⟩
              refine g_ifF (by omega) ?_
              refine g_C ?_
              have zb31 := hm0.f_346_0
              have q32 : m0 346 0 = (m0 346 0) := (hm0.g (by decide)).trans (((Eq.refl (m0 346 0)).trans (hm0.g (by decide))).symm)
              have zb33 := hm0.f_346_4
              have q34 : m0 346 4 = (m0 346 4) := (hm0.g (by decide)).trans (((Eq.refl (m0 346 4)).trans (hm0.g (by decide))).symm)
              exact hk (-1) m0 hm0 (by omega) (by omega)
            · refine g_C ?_
              refine ⟨by omega, ?_⟩
              refine g_ifT (by omega) ?_
              refine ⟨hS.k336, ?_⟩
              refine z_X12_keepsAct hS hm0 (fun m35 hm35 => ?_)
              have zb36 := hm35.f_346_0
              have zb37 := hm35.f_346_4
              refine g_getr 20 346 rfl hS.k336 hm35.f_336_20 (by decide) ?_
              refine g_C ?_
              refine g_C ?_
              refine g_M (by omega) (by omega) ?_
              refine g_A (by omega) (by omega) ?_
              refine g_C ?_
              refine g_A (by omega) (by omega) ?_
              refine g_C ?_
              refine g_st hS.k346 hS.l346 (by omega) (by omega) (wfm_346_36_4_0_3 hm35 (a := u2) (by omega) (by omega) (by omega) (by omega) (by omega)) (fun m38 em38 hm38 => ?_)
              refine g_getr 20 346 rfl hS.k336 hm38.f_336_20 (by decide) ?_
              refine g_C ?_
              refine g_C ?_
              refine g_M (by omega) (by omega) ?_
              refine g_A (by omega) (by omega) ?_
              refine g_C ?_
              refine ⟨hS.k336, ?_⟩
              refine u_X12_handOf ?_
              refine g_getr 20 346 rfl hS.k336 hm38.f_336_20 (by decide) ?_
              refine g_C ?_
              refine g_C ?_
              refine g_M (by omega) (by omega) ?_
              refine g_A (by omega) (by omega) ?_
              refine g_A (by omega) (by omega) ?_
              refine g_ld (0) (5) hS.k346 hS.l346 (by omega) (by omega) (fam_346_10_5_0_4 hm38 (a := u1) (by omega) (by omega) (by omega)) (fun v39 ev39 bv39 cv39 => ?_)
              have gp41 := hm38.g (c := 346) (p := 0) (by decide)
              have gp42 := hm38.g (c := 346) (p := 4) (by decide)
              have gp43 := hm0.g (c := 346) (p := 4) (by decide)
              have gp44 := hm38.pl.1.1 u1 (by omega) (by omega)
              have gp45 : m38 346 (10 + 5 * u1 + 0) = m38 346 (10 + 5 * u1) := congrArg (m38 346) (by omega)
              refine g_st hS.k346 hS.l346 (by omega) (by omega) (wfm_346_35_4_0_3 hm38 (a := u2) (by omega) (by omega) (by omega) (by omega) (by omega) (by omega)) (fun m40 em40 hm40 => ?_)
              refine g_C ?_
              refine ⟨hS.k336, ?_⟩
              refine u_X12_handOf ?_
              refine g_getr 20 346 rfl hS.k336 hm40.f_336_20 (by decide) ?_
              refine g_C ?_
              refine g_C ?_
              refine g_M (by omega) (by omega) ?_
              refine g_A (by omega) (by omega) ?_
              refine g_A (by omega) (by omega) ?_
              refine g_ld (0) (5) hS.k346 hS.l346 (by omega) (by omega) (fam_346_10_5_0_4 hm40 (a := u1) (by omega) (by omega) (by omega)) (fun v46 ev46 bv46 cv46 => ?_)
              have qv46 : v46 = v39 := ev46.trans ((congrFun (congrFun em40 _) _).trans ((up_ne (by omega)).trans ev39.symm))
              have zb47 := hm40.f_346_0
              have q48 : m40 346 0 = (m0 346 0) := (hm40.g (by decide)).trans (((Eq.refl (m0 346 0)).trans (hm0.g (by decide))).symm)
              have zb49 := hm40.f_346_4
              have q50 : m40 346 4 = (m0 346 4) := (hm40.g (by decide)).trans (((Eq.refl (m0 346 4)).trans (hm0.g (by decide))).symm)
              exact hk v46 m40 hm40 (by omega) (by omega)
