theorem z_X12_probe {X : Mm} {S : Sh} {m0 : Mm} {K : Int → Mm → Prop} {u1 : Int} (hS : Shp S) (hm0 : Inv X S m0) (l_u1 : (-2147483648) ≤ u1) (h_u1 : u1 ≤ 2147483647) (hk : ∀ (r : Int) (M1 : Mm), Inv X S M1 → (-2) ≤ r → r ≤ 2147483647 → K r M1) : wp_X12_probe S m0 336 u1 K := by
  refine u_X12_probe ?_
  refine ⟨hS.k336, ?_⟩
  refine u_X12_isDairy ?_
  refine g_getr 20 346 rfl hS.k336 hm0.f_336_20 (by decide) ?_
  refine g_C ?_
  refine g_ld (0) (6) hS.k346 hS.l346 (by omega) (by omega) (hm0.f_346_0) (fun v1 ev1 bv1 cv1 => ?_)
  refine g_if (fun w2 => ?_) (fun w2 => ?_)
  · refine g_C ?_
    refine ⟨by omega, ?_⟩
    refine g_ifT (by omega) ?_
    refine g_C ?_
    exact hk (-1) m0 hm0 (by omega) (by omega)
  · refine g_C ?_
    refine ⟨by omega, ?_⟩
    refine g_ifF (by omega) ?_
    refine g_C ?_
    refine g_C ?_
    refine g_C ?_
    refine z_in (fun aw3 bw3 => ?_) (fun cw3 => ?_)
    · refine g_ifT (by omega) ?_
      refine ⟨hS.k336, ?_⟩
      refine z_X12_fitting hS hm0 (fun v4 m5 hm5 bv4 cv4 => ?_)
      refine g_if (fun w6 => ?_) (fun w6 => ?_)
      · refine g_C ?_
        refine g_C ?_
        have L_n_l106 : ∀ (n_l106 : Nat) (u10 : Int) (u11 : Int) (m12 : Mm), Inv X S m12 → 1 ≤ u10 → u10 ≤ 20 → 2 ≤ u11 → u11 ≤ 21 → 22 - u11 ≤ (n_l106 : Int) → wp_X12_probe_36 S K n_l106 336 u1 v4 u10 u11 m12 := by
          intro n_l106
          induction n_l106 with
          | zero => intro u10 u11 m12 hm12 bu10 cu10 bu11 cu11 zn_l106; exfalso; omega
          | succ n_l106 ih_n_l106 =>
            intro u10 u11 m12 hm12 bu10 cu10 bu11 cu11 zn_l106
            refine u_X12_probe_36 ?_
            refine g_C ?_
            refine g_if (fun w107 => ?_) (fun w107 => ?_)
            · refine g_if (fun w108 => ?_) (fun w108 => ?_)
              · refine ⟨hS.k336, ?_⟩
                refine z_X12_alikeBy hS hm12 (by omega) (by omega) (by omega) (by omega) (fun v109 m110 hm110 bv109 cv109 => ?_)
                exact hk v109 m110 hm110 (by omega) (by omega)
              · exact hk u10 m12 hm12 (by omega) (by omega)
            · refine ⟨hS.k336, ?_⟩
              refine z_X12_alikeBy hS hm12 (by omega) (by omega) (by omega) (by omega) (fun v111 m112 hm112 bv111 cv111 => ?_)
              refine ⟨hS.k336, ?_⟩
              refine z_X12_alikeBy hS hm112 (by omega) (by omega) (by omega) (by omega) (fun v113 m114 hm114 bv113 cv113 => ?_)
              refine g_if (fun w115 => ?_) (fun w115 => ?_)
              · refine u_X12_probe_62 ?_
                refine g_A (by omega) (by omega) ?_
                exact ih_n_l106 u10 (u11 + 1) m114 hm114 (by omega) (by omega) (by omega) (by omega) (by omega)
              · refine u_X12_probe_62 ?_
                refine g_A (by omega) (by omega) ?_
                exact ih_n_l106 u11 (u11 + 1) m114 hm114 (by omega) (by omega) (by omega) (by omega) (by omega)
        exact ⟨20, L_n_l106 20 1 2 m5 hm5 (by omega) (by omega) (by omega) (by omega) (by omega)⟩
      · refine g_C ?_
        exact hk (-2) m5 hm5 (by omega) (by omega)
    · refine g_ifF (by omega) ?_
      refine g_C ?_
      exact hk (-1) m0 hm0 (by omega) (by omega)
theorem z_X12_put {X : Mm} {S : Sh} {m0 : Mm} {K : Int → Mm → Prop} {u1 u2 : Int} (hS : Shp S) (hm0 : Inv X S m0) (l_u1 : (-2147483648) ≤ u1) (h_u1 : u1 ≤ 2147483647) (l_u2 : (-2147483648) ≤ u2) (h_u2 : u2 ≤ 2147483647) (hk : ∀ (r : Int) (M1 : Mm), Inv X S M1 → (-1) ≤ r → r ≤ 5 → K r M1) : wp_X12_put S m0 336 u1 u2 K := by
  refine u_X12_put ?_
  refine ⟨hS.k336, ?_⟩
  refine u_X12_isHand ?_
  refine g_if (fun w1 => ?_) (fun w1 => ?_)
  · refine g_C ?_
    refine ⟨by omega, ?_⟩
    refine g_ifT (by omega) ?_
    refine g_C ?_
    exact hk (-1) m0 hm0 (by omega) (by omega)
  · refine g_getr 20 346 rfl hS.k336 hm0.f_336_20 (by decide) ?_
    refine g_C ?_
    refine g_ld (0) (5) hS.k346 hS.l346 (by omega) (by omega) (hm0.f_346_4) (fun v2 ev2 bv2 cv2 => ?_)
    refine g_if (fun w3 => ?_) (fun w3 => ?_)
    · refine g_C ?_
      refine ⟨by omega, ?_⟩
      refine g_ifT (by omega) ?_
      refine g_C ?_
      exact hk (-1) m0 hm0 (by omega) (by omega)
    · refine g_C ?_
      refine ⟨by omega, ?_⟩
      refine g_ifF (by omega) ?_
      refine ⟨hS.k336, ?_⟩
      refine u_X12_isJug ?_
      refine g_if (fun w4 => ?_) (fun w4 => ?_)
      · refine g_C ?_
        refine ⟨by omega, ?_⟩
        refine g_ifT (by omega) ?_
        refine g_C ?_
        exact hk (-1) m0 hm0 (by omega) (by omega)
      · refine g_getr 20 346 rfl hS.k336 hm0.f_336_20 (by decide) ?_
        refine g_C ?_
        refine g_ld (0) (4) hS.k346 hS.l346 (by omega) (by omega) (hm0.f_346_5) (fun v5 ev5 bv5 cv5 => ?_)
        refine g_if (fun w6 => ?_) (fun w6 => ?_)
        · refine g_C ?_
          refine ⟨by omega, ?_⟩
          refine g_ifT (by omega) ?_
          refine g_C ?_
          exact hk (-1) m0 hm0 (by omega) (by omega)
        · refine g_C ?_
          refine ⟨by omega, ?_⟩
          refine g_ifF (by omega) ?_
          refine g_C ?_
          refine ⟨hS.k336, ?_⟩
          refine u_X12_jugOf ?_
          refine g_getr 20 346 rfl hS.k336 hm0.f_336_20 (by decide) ?_
          refine g_C ?_
          refine g_C ?_
          refine g_M (by omega) (by omega) ?_
          refine g_A (by omega) (by omega) ?_
          refine g_A (by omega) (by omega) ?_
          refine g_ld (-1) (4) hS.k346 hS.l346 (by omega) (by omega) (fam_346_36_4_0_3 hm0 (a := u2) (by omega) (by omega) (by omega)) (fun v7 ev7 bv7 cv7 => ?_)
          refine g_if (fun w8 => ?_) (fun w8 => ?_)
          · refine g_C ?_
            exact hk (-1) m0 hm0 (by omega) (by omega)
          · refine ⟨hS.k336, ?_⟩
            refine u_X12_isAtPlace ?_
            refine g_C ?_
            refine ⟨hS.k336, ?_⟩
            refine u_X12_handOf ?_
            refine g_getr 20 346 rfl hS.k336 hm0.f_336_20 (by decide) ?_
            refine g_C ?_
            refine g_C ?_
            refine g_M (by omega) (by omega) ?_
            refine g_A (by omega) (by omega) ?_
            refine g_A (by omega) (by omega) ?_
            refine g_ld (0) (5) hS.k346 hS.l346 (by omega) (by omega) (fam_346_11_5_0_4 hm0 (a := u1) (by omega) (by omega) (by omega)) (fun v9 ev9 bv9 cv9 => ?_)
            refine g_if (fun w10 => ?_) (fun w10 => ?_)
            · refine g_C ?_
              refine ⟨by omega, ?_⟩
              refine g_ifF (by omega) ?_
              refine g_C ?_
              exact hk (-1) m0 hm0 (by omega) (by omega)
            · refine g_C ?_
              refine ⟨by omega, ?_⟩
              refine g_ifT (by omega) ?_
              refine ⟨hS.k336, ?_⟩
              refine z_X12_keepsAct hS hm0 (fun m11 hm11 => ?_)
              refine g_getr 20 346 rfl hS.k336 hm11.f_336_20 (by decide) ?_
              refine g_C ?_
              refine g_C ?_
              refine g_M (by omega) (by omega) ?_
              refine g_A (by omega) (by omega) ?_
              refine g_C ?_
              refine g_A (by omega) (by omega) ?_
              refine g_C ?_
              refine g_st hS.k346 hS.l346 (by omega) (by omega) (wfm_346_36_4_0_3 hm11 (a := u2) (by omega) (by omega) (by omega) (by omega) (by omega)) (fun m12 em12 hm12 => ?_)
              refine g_getr 20 346 rfl hS.k336 hm12.f_336_20 (by decide) ?_
              refine g_C ?_
              refine g_C ?_
              refine g_M (by omega) (by omega) ?_
              refine g_A (by omega) (by omega) ?_
              refine g_C ?_
              refine ⟨hS.k336, ?_⟩
              refine u_X12_handOf ?_
              refine g_getr 20 346 rfl hS.k336 hm12.f_336_20 (by decide) ?_
              refine g_C ?_
              refine g_C ?_
              refine g_M (by omega) (by omega) ?_
              refine g_A (by omega) (by omega) ?_
              refine g_A (by omega) (by omega) ?_
              refine g_ld (0) (5) hS.k346 hS.l346 (by omega) (by omega) (fam_346_10_5_0_4 hm12 (a := u1) (by omega) (by omega) (by omega)) (fun v13 ev13 bv13 cv13 => ?_)
              refine g_st hS.k346 hS.l346 (by omega) (by omega) (wfm_346_35_4_0_3 hm12 (a := u2) (by omega) (by omega) (by omega) (by omega) (by omega)) (fun m14 em14 hm14 => ?_)
              refine g_C ?_
              refine ⟨hS.k336, ?_⟩
              refine u_X12_handOf ?_
              refine g_getr 20 346 rfl hS.k336 hm14.f_336_20 (by decide) ?_
              refine g_C ?_
              refine g_C ?_
              refine g_M (by omega) (by omega) ?_
              refine g_A (by omega) (by omega) ?_
              refine g_A (by omega) (by omega) ?_
              refine g_ld (0) (5) hS.k346 hS.l346 (by omega) (by omega) (fam_346_10_5_0_4 hm14 (a := u1) (by omega) (by omega) (by omega)) (fun v15 ev15 bv15 cv15 => ?_)
              have qv15 : v15 = v13 := ev15.trans ((congrFun (congrFun em14 _) _).trans ((up_ne (by omega)).trans ev13.symm))
              exact hk v15 m14 hm14 (by omega) (by omega)
theorem z_X12_turnedByRow {X : Mm} {S : Sh} {m0 : Mm} {K : Int → Mm → Prop} {u1 u2 : Int} (hS : Shp S) (hm0 : Inv X S m0) (l_u1 : 0 ≤ u1) (h_u1 : u1 ≤ 3) (l_u2 : 0 ≤ u2) (h_u2 : u2 ≤ 15624) (p0 : m0 336 29 = 0 ∨ 1 ≤ m0 346 4) (hk : ∀ (r : Int) (M1 : Mm), Inv X S M1 → (∀ c p : Int, ¬ c = 344 ∧ ¬ c = 345 ∧ ¬ (c = 336 ∧ 18 ≤ p ∧ p ≤ 18) → M1 c p = m0 c p) → (-2147483648) ≤ r → r ≤ 2147483647 → K r M1) : wp_X12_turnedByRow S m0 336 u1 u2 K := by
  have Fm0 : ∀ c p : Int, ¬ c = 344 ∧ ¬ c = 345 ∧ ¬ (c = 336 ∧ 18 ≤ p ∧ p ≤ 18) → m0 c p = m0 c p := fun c p _ => rfl
  refine u_X12_turnedByRow ?_
  refine g_C ?_
  refine ⟨hS.k336, ?_⟩
  refine u_X12_jugOf ?_
  refine g_getr 20 346 rfl hS.k336 hm0.f_336_20 (by decide) ?_
  refine g_C ?_
  refine g_C ?_
  refine g_M (by omega) (by omega) ?_
  refine g_A (by omega) (by omega) ?_
  refine g_A (by omega) (by omega) ?_
  refine g_ld (-2147483648) (2147483647) hS.k346 hS.l346 (by omega) (by omega) (fam_346_37_4_0_3 hm0 (a := u1) (by omega) (by omega) (by omega)) (fun v1 ev1 bv1 cv1 => ?_)
  refine g_getr 20 346 rfl hS.k336 hm0.f_336_20 (by decide) ?_
  refine g_C ?_
  refine g_ld (-2147483648) (2147483647) hS.k346 hS.l346 (by omega) (by omega) (hm0.f_346_7) (fun v2 ev2 bv2 cv2 => ?_)
  refine g_C ?_
  have L_n_l101 : ∀ (n_l101 : Nat) (u6 : Int) (u7 : Int) (u8 : Int) (m9 : Mm), Inv X S m9 → (∀ c p : Int, ¬ c = 344 ∧ ¬ c = 345 ∧ ¬ (c = 336 ∧ 18 ≤ p ∧ p ≤ 18) → m9 c p = m0 c p) → (-2147483648) ≤ u6 → u6 ≤ 2147483647 → (-2147483648) ≤ u7 → u7 ≤ 2147483647 → 0 ≤ u8 → u8 ≤ 6 → 7 - u8 ≤ (n_l101 : Int) → wp_X12_turnedByRow_19 S K n_l101 336 u1 u2 u6 u7 u8 m9 := by
    intro n_l101
    induction n_l101 with
    | zero => intro u6 u7 u8 m9 hm9 Fm9 bu6 cu6 bu7 cu7 bu8 cu8 zn_l101; exfalso; omega
    | succ n_l101 ih_n_l101 =>
      intro u6 u7 u8 m9 hm9 Fm9 bu6 cu6 bu7 cu7 bu8 cu8 zn_l101
      refine u_X12_turnedByRow_19 ?_
      refine g_get 29 (0) (6) rfl hS.k336 hm9.f_336_29 (fun v102 ev102 bv102 cv102 => ?_)
      have qv102 : v102 = (m0 336 29) := ev102.trans ((Fm9 _ _ (by omega)).trans (Eq.refl (m0 336 29)).symm)
      refine g_if (fun w103 => ?_) (fun w103 => ?_)
      · have zb104 := hm9.f_336_29
        have q105 : m9 336 29 = (m0 336 29) := (Eq.refl (m9 336 29)).trans ((Fm9 _ _ (by omega)).trans (Eq.refl (m0 336 29)).symm)
        have zb106 := hm9.f_346_4
        have q107 : m9 346 4 = (m0 346 4) := (hm9.g (by decide)).trans (((Eq.refl (m0 346 4)).trans (hm0.g (by decide))).symm)
        exact hk u6 m9 hm9 Fm9 (by omega) (by omega)
      · refine ⟨hS.k336, ?_⟩
        refine u_X12_handIn ?_
        refine g_getr 20 346 rfl hS.k336 hm9.f_336_20 (by decide) ?_
        refine g_C ?_
        refine g_ld (0) (5) hS.k346 hS.l346 (by omega) (by omega) (hm9.f_346_4) (fun v108 ev108 bv108 cv108 => ?_)
        have qv108 : v108 = (m0 346 4) := (ev108.trans (hm9.g (by decide))).trans (((Eq.refl (m0 346 4)).trans (hm0.g (by decide))).symm)
        refine g_get 29 (0) (6) rfl hS.k336 hm9.f_336_29 (fun v109 ev109 bv109 cv109 => ?_)
        have qv109 : v109 = (m0 336 29) := ev109.trans ((Fm9 _ _ (by omega)).trans (Eq.refl (m0 336 29)).symm)
        refine g_C ?_
        refine g_S (by omega) (by omega) ?_
        refine g_S (by omega) (by omega) ?_
        have zb110 := hm9.f_336_29
        have q111 : m9 336 29 = (m0 336 29) := (Eq.refl (m9 336 29)).trans ((Fm9 _ _ (by omega)).trans (Eq.refl (m0 336 29)).symm)
        have zb112 := hm9.f_346_4
        have q113 : m9 346 4 = (m0 346 4) := (hm9.g (by decide)).trans (((Eq.refl (m0 346 4)).trans (hm0.g (by decide))).symm)
        refine z_X12_power hS hm9 (by omega) (by omega) (by omega) (by omega) (by omega) (fun v114 bv114 cv114 => ?_)
        refine g_iDiv (by omega) (by omega) (by omega) (by omega) (fun v115 bv115 cv115 => ?_)
        refine g_getr 20 346 rfl hS.k336 hm9.f_336_20 (by decide) ?_
        refine g_C ?_
        refine g_ld (0) (5) hS.k346 hS.l346 (by omega) (by omega) (hm9.f_346_4) (fun v116 ev116 bv116 cv116 => ?_)
        have qv116 : v116 = (m0 346 4) := (ev116.trans (hm9.g (by decide))).trans (((Eq.refl (m0 346 4)).trans (hm0.g (by decide))).symm)
        refine g_iRem (by omega) (by omega) (by omega) (by omega) (fun v117 bv117 cv117 => ?_)
        refine g_getr 28 350 rfl hS.k336 hm9.f_336_28 (by decide) ?_
        refine g_ld (0) (5) hS.k350 hS.l350 (by omega) (by omega) (hm9.a_350 (by omega) (by omega)) (fun v118 ev118 bv118 cv118 => ?_)
        refine g_C ?_
        refine ⟨hS.k336, ?_⟩
        refine z_X12_turnedBy hS hm9 (by omega) (by omega) (by omega) (by omega) (by omega) (by omega) (by omega) (by omega) (by omega) (by omega) (by omega) (by omega) (fun v119 m120 hm120 fm120 bv119 cv119 => ?_)
        have zb121 := hm120.f_336_29
        have zb122 := hm120.f_346_4
        have Fm120 : ∀ c p : Int, ¬ c = 344 ∧ ¬ c = 345 ∧ ¬ (c = 336 ∧ 18 ≤ p ∧ p ≤ 18) → m120 c p = m0 c p := fun c p h => (fm120 c p (by omega)).trans (Fm9 c p h)
        refine g_getr 28 350 rfl hS.k336 hm120.f_336_28 (by decide) ?_
        refine g_ld (0) (5) hS.k350 hS.l350 (by omega) (by omega) (hm120.a_350 (by omega) (by omega)) (fun v123 ev123 bv123 cv123 => ?_)
        refine g_Aw (fun v124 bv124 cv124 => ?_)
        refine g_A (by omega) (by omega) ?_
        have zb125 := hm120.f_336_29
        have q126 : m120 336 29 = (m0 336 29) := (Eq.refl (m120 336 29)).trans ((fm120 _ _ (by omega)).trans ((Fm9 _ _ (by omega)).trans (Eq.refl (m0 336 29)).symm))
        have zb127 := hm120.f_346_4
        have q128 : m120 346 4 = (m0 346 4) := (hm120.g (by decide)).trans (((Eq.refl (m0 346 4)).trans (hm0.g (by decide))).symm)
        exact ih_n_l101 v119 v124 (u8 + 1) m120 hm120 Fm120 (by omega) (by omega) (by omega) (by omega) (by omega) (by omega) (by omega)
  have zb129 := hm0.f_336_29
  have zb131 := hm0.f_346_4
  have q132 : m0 346 4 = (m0 346 4) := (hm0.g (by decide)).trans (((Eq.refl (m0 346 4)).trans (hm0.g (by decide))).symm)
  exact ⟨7, L_n_l101 7 v1 v2 0 m0 hm0 Fm0 (by omega) (by omega) (by omega) (by omega) (by omega) (by omega) (by omega)⟩
theorem z_X12_relay {X : Mm} {S : Sh} {m0 : Mm} {K : Int → Mm → Prop} {u1 u2 u3 u4 u5 : Int} (hS : Shp S) (hm0 : Inv X S m0) (l_u1 : (-2147483648) ≤ u1) (h_u1 : u1 ≤ 2147483647) (l_u2 : (-2147483648) ≤ u2) (h_u2 : u2 ≤ 2147483647) (l_u3 : (-2147483648) ≤ u3) (h_u3 : u3 ≤ 2147483647) (l_u4 : (-2147483648) ≤ u4) (h_u4 : u4 ≤ 2147483647) (l_u5 : (-2147483648) ≤ u5) (h_u5 : u5 ≤ 2147483647) (hk : ∀ (r : Int) (M1 : Mm), Inv X S M1 → (-2147483648) ≤ r → r ≤ 2147483647 → K r M1) : wp_X12_relay S m0 336 u1 u2 u3 u4 u5 K := by
  refine u_X12_relay ?_
  refine ⟨hS.k336, ?_⟩
  refine u_X12_isJug ?_
  refine g_if (fun w1 => ?_) (fun w1 => ?_)
  · refine g_C ?_
    refine ⟨by omega, ?_⟩
    refine g_ifT (by omega) ?_
    refine g_C ?_
    have zb2 := hm0.f_336_29
    have zb4 := hm0.f_346_4
    have q5 : m0 346 4 = (m0 346 4) := (hm0.g (by decide)).trans (((Eq.refl (m0 346 4)).trans (hm0.g (by decide))).symm)
    exact hk (-3) m0 hm0 (by omega) (by omega)
  · refine g_getr 20 346 rfl hS.k336 hm0.f_336_20 (by decide) ?_
    refine g_C ?_
    refine g_ld (0) (4) hS.k346 hS.l346 (by omega) (by omega) (hm0.f_346_5) (fun v6 ev6 bv6 cv6 => ?_)
    refine g_if (fun w7 => ?_) (fun w7 => ?_)
    · refine g_C ?_
      refine ⟨by omega, ?_⟩
      refine g_ifT (by omega) ?_
      refine g_C ?_
      have zb8 := hm0.f_336_29
      have zb10 := hm0.f_346_4
      have q11 : m0 346 4 = (m0 346 4) := (hm0.g (by decide)).trans (((Eq.refl (m0 346 4)).trans (hm0.g (by decide))).symm)
      exact hk (-3) m0 hm0 (by omega) (by omega)
    · refine g_C ?_
      refine ⟨by omega, ?_⟩
      refine g_ifF (by omega) ?_
      refine ⟨hS.k336, ?_⟩
      refine u_X12_stands ?_
      refine g_C ?_
      refine ⟨hS.k336, ?_⟩
      refine u_X12_jugOf ?_
      refine g_getr 20 346 rfl hS.k336 hm0.f_336_20 (by decide) ?_
      refine g_C ?_
      refine g_C ?_
      refine g_M (by omega) (by omega) ?_
      refine g_A (by omega) (by omega) ?_
      refine g_A (by omega) (by omega) ?_
      refine g_ld (-1) (4) hS.k346 hS.l346 (by omega) (by omega) (fam_346_36_4_0_3 hm0 (a := u1) (by omega) (by omega) (by omega)) (fun v12 ev12 bv12 cv12 => ?_)
      refine g_if (fun w13 => ?_) (fun w13 => ?_)
      · refine g_C ?_
        refine ⟨by omega, ?_⟩
        refine g_ifT (by omega) ?_
        refine g_C ?_
        have zb14 := hm0.f_336_29
        have zb16 := hm0.f_346_4
        have q17 : m0 346 4 = (m0 346 4) := (hm0.g (by decide)).trans (((Eq.refl (m0 346 4)).trans (hm0.g (by decide))).symm)
        exact hk (-3) m0 hm0 (by omega) (by omega)
      · refine g_C ?_
        refine ⟨hS.k336, ?_⟩
        refine u_X12_jugOf ?_
        refine g_getr 20 346 rfl hS.k336 hm0.f_336_20 (by decide) ?_
        refine g_C ?_
        refine g_C ?_
        refine g_M (by omega) (by omega) ?_
        refine g_A (by omega) (by omega) ?_
        refine g_A (by omega) (by omega) ?_
        refine g_ld (0) (1) hS.k346 hS.l346 (by omega) (by omega) (fam_346_38_4_0_3 hm0 (a := u1) (by omega) (by omega) (by omega)) (fun v18 ev18 bv18 cv18 => ?_)
        refine g_if (fun w19 => ?_) (fun w19 => ?_)
        · refine g_C ?_
          refine ⟨by omega, ?_⟩
          refine g_ifT (by omega) ?_
          refine g_C ?_
          have zb20 := hm0.f_336_29
          have zb22 := hm0.f_346_4
          have q23 : m0 346 4 = (m0 346 4) := (hm0.g (by decide)).trans (((Eq.refl (m0 346 4)).trans (hm0.g (by decide))).symm)
          exact hk (-3) m0 hm0 (by omega) (by omega)
        · refine g_C ?_
          refine ⟨by omega, ?_⟩
          refine g_ifF (by omega) ?_
          refine ⟨hS.k336, ?_⟩
          refine u_X12_isPlace ?_
          refine g_if (fun w24 => ?_) (fun w24 => ?_)
          · refine g_C ?_
            refine ⟨by omega, ?_⟩
            refine g_ifT (by omega) ?_
            refine g_C ?_
            have zb25 := hm0.f_336_29
            have zb27 := hm0.f_346_4
            have q28 : m0 346 4 = (m0 346 4) := (hm0.g (by decide)).trans (((Eq.refl (m0 346 4)).trans (hm0.g (by decide))).symm)
            exact hk (-3) m0 hm0 (by omega) (by omega)
          · refine g_getr 20 346 rfl hS.k336 hm0.f_336_20 (by decide) ?_
            refine g_C ?_
            refine g_ld (0) (6) hS.k346 hS.l346 (by omega) (by omega) (hm0.f_346_0) (fun v29 ev29 bv29 cv29 => ?_)
            refine g_if (fun w30 => ?_) (fun w30 => ?_)
            · refine g_C ?_
              refine ⟨by omega, ?_⟩
              refine g_ifT (by omega) ?_
              refine g_C ?_
              have zb31 := hm0.f_336_29
              have zb33 := hm0.f_346_4
              have q34 : m0 346 4 = (m0 346 4) := (hm0.g (by decide)).trans (((Eq.refl (m0 346 4)).trans (hm0.g (by decide))).symm)
              exact hk (-3) m0 hm0 (by omega) (by omega)
            · refine g_C ?_
              refine ⟨by omega, ?_⟩
              refine g_ifF (by omega) ?_
              refine g_C ?_
              refine g_C ?_
              refine g_C ?_
              refine z_in (fun aw35 bw35 => ?_) (fun cw35 => ?_)
              · refine g_ifF (by omega) ?_
                refine g_C ?_
                refine g_C ?_
                refine g_C ?_
                refine z_in (fun aw36 bw36 => ?_) (fun cw36 => ?_)
                · refine g_ifF (by omega) ?_
                  refine g_C ?_
                  refine g_C ?_
                  refine g_C ?_
                  refine z_in (fun aw37 bw37 => ?_) (fun cw37 => ?_)
                  · refine g_ifT (by omega) ?_
                    refine ⟨hS.k336, ?_⟩
                    refine z_X12_fillsHours hS hm0 (by omega) (by omega) (fun m38 hm38 => ?_)
                    have zb39 := hm38.f_336_29
                    have zb40 := hm38.f_346_4
                    refine g_getr 27 349 rfl hS.k336 hm38.f_336_27 (by decide) ?_
                    refine g_C ?_
                    refine ⟨hS.k336, ?_⟩
                    refine u_X12_jugOf ?_
                    refine g_getr 20 346 rfl hS.k336 hm38.f_336_20 (by decide) ?_
                    refine g_C ?_
                    refine g_C ?_
                    refine g_M (by omega) (by omega) ?_
                    refine g_A (by omega) (by omega) ?_
                    refine g_A (by omega) (by omega) ?_
                    refine g_ld (0) (5) hS.k346 hS.l346 (by omega) (by omega) (fam_346_35_4_0_3 hm38 (a := u1) (by omega) (by omega) (by omega)) (fun v41 ev41 bv41 cv41 => ?_)
                    refine g_ld (0) (99) hS.k349 hS.l349 (by omega) (by omega) (hm38.a_349 (by omega) (by omega)) (fun v42 ev42 bv42 cv42 => ?_)
                    refine g_C ?_
                    refine g_if (fun w43 => ?_) (fun w43 => ?_)
                    · refine g_C ?_
                      refine ⟨hS.k336, ?_⟩
                      refine u_X12_jugOf ?_
                      refine g_getr 20 346 rfl hS.k336 hm38.f_336_20 (by decide) ?_
                      refine g_C ?_
                      refine g_C ?_
                      refine g_M (by omega) (by omega) ?_
                      refine g_A (by omega) (by omega) ?_
                      refine g_A (by omega) (by omega) ?_
                      refine g_ld (0) (5) hS.k346 hS.l346 (by omega) (by omega) (fam_346_35_4_0_3 hm38 (a := u1) (by omega) (by omega) (by omega)) (fun v44 ev44 bv44 cv44 => ?_)
                      have qv44 : v44 = v41 := ev44.trans ev41.symm
                      refine ⟨hS.k336, ?_⟩
                      refine z_X12_fillsRoads hS hm38 (by omega) (by omega) (by omega) (by omega) (fun m45 hm45 => ?_)
                      have zb46 := hm45.f_336_29
                      have zb47 := hm45.f_346_4
                      refine g_get 29 (0) (6) rfl hS.k336 hm45.f_336_29 (fun v48 ev48 bv48 cv48 => ?_)
                      have qv48 : v48 = (m45 336 29) := ev48.trans (Eq.refl (m45 336 29)).symm
                      refine g_if (fun w49 => ?_) (fun w49 => ?_)
                      · refine u_X12_relay_120 ?_
                        refine g_C ?_
                        refine g_C ?_
                        refine g_C ?_
                        refine g_C ?_
                        have L_n_l650 : ∀ (n_l650 : Nat) (u55 : Int) (u56 : Int) (u57 : Int) (u58 : Int) (m59 : Mm), Inv X S m59 → (-2147483648) ≤ u55 → u55 ≤ 2147483647 → (-1) ≤ u56 → u56 ≤ 65536 → (-2147483648) ≤ u57 → u57 ≤ 2147483647 → 0 ≤ u58 → u58 ≤ 15625 → (m59 336 29 = 0 ∨ 1 ≤ m59 346 4) → 15626 - u58 ≤ (n_l650 : Int) → wp_X12_relay_132 S K n_l650 336 u1 u3 u4 u5 u55 u56 u57 u58 m59 := by
                          intro n_l650
                          induction n_l650 with
                          | zero => intro u55 u56 u57 u58 m59 hm59 bu55 cu55 bu56 cu56 bu57 cu57 bu58 cu58 xn_l650_0 zn_l650; exfalso; omega
                          | succ n_l650 ih_n_l650 =>
                            intro u55 u56 u57 u58 m59 hm59 bu55 cu55 bu56 cu56 bu57 cu57 bu58 cu58 xn_l650_0 zn_l650
                            refine u_X12_relay_132 ?_
                            refine g_getr 20 346 rfl hS.k336 hm59.f_336_20 (by decide) ?_
                            refine g_C ?_
                            refine g_ld (0) (5) hS.k346 hS.l346 (by omega) (by omega) (hm59.f_346_4) (fun v651 ev651 bv651 cv651 => ?_)
                            have qv651 : v651 = (m0 346 4) := (ev651.trans (hm59.g (by decide))).trans (((Eq.refl (m0 346 4)).trans (hm0.g (by decide))).symm)
                            refine g_get 29 (0) (6) rfl hS.k336 hm59.f_336_29 (fun v652 ev652 bv652 cv652 => ?_)
                            have zb653 := hm59.f_336_29
                            have zb655 := hm59.f_346_4
                            have q656 : m59 346 4 = (m0 346 4) := (hm59.g (by decide)).trans (((Eq.refl (m0 346 4)).trans (hm0.g (by decide))).symm)
                            refine z_X12_power hS hm59 (by omega) (by omega) (by omega) (by omega) (by omega) (fun v657 bv657 cv657 => ?_)
                            refine g_if (fun w658 => ?_) (fun w658 => ?_)
                            · refine g_C ?_
                              refine g_if (fun w659 => ?_) (fun w659 => ?_)
                              · refine g_if (fun w660 => ?_) (fun w660 => ?_)
                                · refine u_X12_relay_250 ?_
                                  refine g_C ?_
                                  have zb661 := hm59.f_336_29
                                  have zb663 := hm59.f_346_4
                                  have q664 : m59 346 4 = (m0 346 4) := (hm59.g (by decide)).trans (((Eq.refl (m0 346 4)).trans (hm0.g (by decide))).symm)
                                  exact hk (-2) m59 hm59 (by omega) (by omega)
                                · refine g_C ?_
                                  refine g_S (by omega) (by omega) ?_
                                  refine g_get 29 (0) (6) rfl hS.k336 hm59.f_336_29 (fun v665 ev665 bv665 cv665 => ?_)
                                  have qv665 : v665 = v652 := ev665.trans ev652.symm
                                  refine g_if (fun w666 => ?_) (fun w666 => ?_)
                                  · refine g_C ?_
                                    refine g_S (by omega) (by omega) ?_
                                    refine ⟨hS.k336, ?_⟩
                                    refine u_X12_handIn ?_
                                    refine g_getr 20 346 rfl hS.k336 hm59.f_336_20 (by decide) ?_
                                    refine g_C ?_
                                    refine g_ld (0) (5) hS.k346 hS.l346 (by omega) (by omega) (hm59.f_346_4) (fun v667 ev667 bv667 cv667 => ?_)
                                    have qv667 : v667 = (m0 346 4) := (ev667.trans (hm59.g (by decide))).trans (((Eq.refl (m0 346 4)).trans (hm0.g (by decide))).symm)
                                    refine g_get 29 (0) (6) rfl hS.k336 hm59.f_336_29 (fun v668 ev668 bv668 cv668 => ?_)
                                    have qv668 : v668 = v652 := ev668.trans ev652.symm
                                    refine g_C ?_
                                    refine g_S (by omega) (by omega) ?_
                                    refine g_S (by omega) (by omega) ?_
                                    have zb669 := hm59.f_336_29
                                    have zb671 := hm59.f_346_4
                                    have q672 : m59 346 4 = (m0 346 4) := (hm59.g (by decide)).trans (((Eq.refl (m0 346 4)).trans (hm0.g (by decide))).symm)
                                    refine z_X12_power hS hm59 (by omega) (by omega) (by omega) (by omega) (by omega) (fun v673 bv673 cv673 => ?_)
                                    refine g_iDiv (by omega) (by omega) (by omega) (by omega) (fun v674 bv674 cv674 => ?_)
                                    refine g_getr 20 346 rfl hS.k336 hm59.f_336_20 (by decide) ?_
                                    refine g_C ?_
                                    refine g_ld (0) (5) hS.k346 hS.l346 (by omega) (by omega) (hm59.f_346_4) (fun v675 ev675 bv675 cv675 => ?_)
                                    have qv675 : v675 = (m0 346 4) := (ev675.trans (hm59.g (by decide))).trans (((Eq.refl (m0 346 4)).trans (hm0.g (by decide))).symm)
                                    refine g_iRem (by omega) (by omega) (by omega) (by omega) (fun v676 bv676 cv676 => ?_)
                                    have zb677 := hm59.f_336_29
                                    have zb679 := hm59.f_346_4
                                    have q680 : m59 346 4 = (m0 346 4) := (hm59.g (by decide)).trans (((Eq.refl (m0 346 4)).trans (hm0.g (by decide))).symm)
                                    exact hk v676 m59 hm59 (by omega) (by omega)
                                  · refine u_X12_relay_250 ?_
                                    refine g_C ?_
                                    have zb681 := hm59.f_336_29
                                    have zb683 := hm59.f_346_4
                                    have q684 : m59 346 4 = (m0 346 4) := (hm59.g (by decide)).trans (((Eq.refl (m0 346 4)).trans (hm0.g (by decide))).symm)
                                    exact hk (-2) m59 hm59 (by omega) (by omega)
                              · refine g_if (fun w685 => ?_) (fun w685 => ?_)
                                · have zb686 := hm59.f_336_29
                                  have zb688 := hm59.f_346_4
                                  have q689 : m59 346 4 = (m0 346 4) := (hm59.g (by decide)).trans (((Eq.refl (m0 346 4)).trans (hm0.g (by decide))).symm)
                                  exact hk u57 m59 hm59 (by omega) (by omega)
                                · have zb690 := hm59.f_336_29
                                  have zb692 := hm59.f_346_4
                                  have q693 : m59 346 4 = (m0 346 4) := (hm59.g (by decide)).trans (((Eq.refl (m0 346 4)).trans (hm0.g (by decide))).symm)
                                  exact hk u55 m59 hm59 (by omega) (by omega)
                            · refine ⟨hS.k336, ?_⟩
                              have zb694 := hm59.f_336_29
                              have zb696 := hm59.f_346_4
                              have q697 : m59 346 4 = (m0 346 4) := (hm59.g (by decide)).trans (((Eq.refl (m0 346 4)).trans (hm0.g (by decide))).symm)
                              refine z_X12_turnedByRow hS hm59 (by omega) (by omega) (by omega) (by omega) (by omega) (fun v698 m699 hm699 fm699 bv698 cv698 => ?_)
                              have zb700 := hm699.f_336_29
                              have zb701 := hm699.f_346_4
                              refine g_if (fun w702 => ?_) (fun w702 => ?_)
                              · refine u_X12_relay_171 ?_
                                refine u_X12_relay_178 ?_
                                refine g_C ?_
                                refine g_C ?_
                                refine g_C ?_
                                refine z_in (fun aw703 bw703 => ?_) (fun cw703 => ?_)
                                · refine g_ifT (by omega) ?_
                                  refine g_if (fun w704 => ?_) (fun w704 => ?_)
                                  · refine u_X12_relay_206 ?_
                                    refine g_Aw (fun v705 bv705 cv705 => ?_)
                                    refine u_X12_relay_209 ?_
                                    refine g_A (by omega) (by omega) ?_
                                    have zb706 := hm699.f_336_29
                                    have q707 : m699 336 29 = v652 := (Eq.refl (m699 336 29)).trans ((fm699 _ _ (by omega)).trans ev652.symm)
                                    have zb708 := hm699.f_346_4
                                    have q709 : m699 346 4 = (m0 346 4) := (hm699.g (by decide)).trans (((Eq.refl (m0 346 4)).trans (hm0.g (by decide))).symm)
                                    exact ih_n_l650 v705 u56 v698 (u58 + 1) m699 hm699 (by omega) (by omega) (by omega) (by omega) (by omega) (by omega) (by omega) (by omega) (by omega) (by omega)
                                  · refine u_X12_relay_206 ?_
                                    refine g_A (by omega) (by omega) ?_
                                    refine u_X12_relay_209 ?_
                                    refine g_A (by omega) (by omega) ?_
                                    have zb710 := hm699.f_336_29
                                    have q711 : m699 336 29 = v652 := (Eq.refl (m699 336 29)).trans ((fm699 _ _ (by omega)).trans ev652.symm)
                                    have zb712 := hm699.f_346_4
                                    have q713 : m699 346 4 = (m0 346 4) := (hm699.g (by decide)).trans (((Eq.refl (m0 346 4)).trans (hm0.g (by decide))).symm)
                                    exact ih_n_l650 (u55 + 1) u58 v698 (u58 + 1) m699 hm699 (by omega) (by omega) (by omega) (by omega) (by omega) (by omega) (by omega) (by omega) (by omega) (by omega)
                                · refine g_ifF (by omega) ?_
                                  refine u_X12_relay_209 ?_
                                  refine g_A (by omega) (by omega) ?_
                                  have zb714 := hm699.f_336_29
                                  have q715 : m699 336 29 = v652 := (Eq.refl (m699 336 29)).trans ((fm699 _ _ (by omega)).trans ev652.symm)
                                  have zb716 := hm699.f_346_4
                                  have q717 : m699 346 4 = (m0 346 4) := (hm699.g (by decide)).trans (((Eq.refl (m0 346 4)).trans (hm0.g (by decide))).symm)
                                  exact ih_n_l650 u55 u56 v698 (u58 + 1) m699 hm699 (by omega) (by omega) (by omega) (by omega) (by omega) (by omega) (by omega) (by omega) (by omega) (by omega)
                              · refine g_if (fun w718 => ?_) (fun w718 => ?_)
                                · refine u_X12_relay_178 ?_
                                  refine g_C ?_
                                  refine g_C ?_
                                  refine g_C ?_
                                  refine z_in (fun aw719 bw719 => ?_) (fun cw719 => ?_)
                                  · refine g_ifT (by omega) ?_
                                    refine g_if (fun w720 => ?_) (fun w720 => ?_)
                                    · refine u_X12_relay_206 ?_
                                      refine g_Aw (fun v721 bv721 cv721 => ?_)
                                      refine u_X12_relay_209 ?_
                                      refine g_A (by omega) (by omega) ?_
                                      have zb722 := hm699.f_336_29
                                      have q723 : m699 336 29 = v652 := (Eq.refl (m699 336 29)).trans ((fm699 _ _ (by omega)).trans ev652.symm)
                                      have zb724 := hm699.f_346_4
                                      have q725 : m699 346 4 = (m0 346 4) := (hm699.g (by decide)).trans (((Eq.refl (m0 346 4)).trans (hm0.g (by decide))).symm)
                                      exact ih_n_l650 v721 u56 u57 (u58 + 1) m699 hm699 (by omega) (by omega) (by omega) (by omega) (by omega) (by omega) (by omega) (by omega) (by omega) (by omega)
                                    · refine u_X12_relay_206 ?_
                                      refine g_A (by omega) (by omega) ?_
                                      refine u_X12_relay_209 ?_
                                      refine g_A (by omega) (by omega) ?_
                                      have zb726 := hm699.f_336_29
                                      have q727 : m699 336 29 = v652 := (Eq.refl (m699 336 29)).trans ((fm699 _ _ (by omega)).trans ev652.symm)
                                      have zb728 := hm699.f_346_4
                                      have q729 : m699 346 4 = (m0 346 4) := (hm699.g (by decide)).trans (((Eq.refl (m0 346 4)).trans (hm0.g (by decide))).symm)
                                      exact ih_n_l650 (u55 + 1) u58 u57 (u58 + 1) m699 hm699 (by omega) (by omega) (by omega) (by omega) (by omega) (by omega) (by omega) (by omega) (by omega) (by omega)
                                  · refine g_ifF (by omega) ?_
                                    refine u_X12_relay_209 ?_
                                    refine g_A (by omega) (by omega) ?_
                                    have zb730 := hm699.f_336_29
                                    have q731 : m699 336 29 = v652 := (Eq.refl (m699 336 29)).trans ((fm699 _ _ (by omega)).trans ev652.symm)
                                    have zb732 := hm699.f_346_4
                                    have q733 : m699 346 4 = (m0 346 4) := (hm699.g (by decide)).trans (((Eq.refl (m0 346 4)).trans (hm0.g (by decide))).symm)
                                    exact ih_n_l650 u55 u56 u57 (u58 + 1) m699 hm699 (by omega) (by omega) (by omega) (by omega) (by omega) (by omega) (by omega) (by omega) (by omega) (by omega)
                                · refine u_X12_relay_171 ?_
                                  refine u_X12_relay_178 ?_
                                  refine g_C ?_
                                  refine g_C ?_
                                  refine g_C ?_
                                  refine z_in (fun aw734 bw734 => ?_) (fun cw734 => ?_)
                                  · refine g_ifT (by omega) ?_
                                    refine g_if (fun w735 => ?_) (fun w735 => ?_)
                                    · refine u_X12_relay_206 ?_
                                      refine g_Aw (fun v736 bv736 cv736 => ?_)
                                      refine u_X12_relay_209 ?_
                                      refine g_A (by omega) (by omega) ?_
                                      have zb737 := hm699.f_336_29
                                      have q738 : m699 336 29 = v652 := (Eq.refl (m699 336 29)).trans ((fm699 _ _ (by omega)).trans ev652.symm)
                                      have zb739 := hm699.f_346_4
                                      have q740 : m699 346 4 = (m0 346 4) := (hm699.g (by decide)).trans (((Eq.refl (m0 346 4)).trans (hm0.g (by decide))).symm)
                                      exact ih_n_l650 v736 u56 v698 (u58 + 1) m699 hm699 (by omega) (by omega) (by omega) (by omega) (by omega) (by omega) (by omega) (by omega) (by omega) (by omega)
                                    · refine u_X12_relay_206 ?_
                                      refine g_A (by omega) (by omega) ?_
                                      refine u_X12_relay_209 ?_
                                      refine g_A (by omega) (by omega) ?_
                                      have zb741 := hm699.f_336_29
                                      have q742 : m699 336 29 = v652 := (Eq.refl (m699 336 29)).trans ((fm699 _ _ (by omega)).trans ev652.symm)
                                      have zb743 := hm699.f_346_4
                                      have q744 : m699 346 4 = (m0 346 4) := (hm699.g (by decide)).trans (((Eq.refl (m0 346 4)).trans (hm0.g (by decide))).symm)
                                      exact ih_n_l650 (u55 + 1) u58 v698 (u58 + 1) m699 hm699 (by omega) (by omega) (by omega) (by omega) (by omega) (by omega) (by omega) (by omega) (by omega) (by omega)
                                  · refine g_ifF (by omega) ?_
                                    refine u_X12_relay_209 ?_
                                    refine g_A (by omega) (by omega) ?_
                                    have zb745 := hm699.f_336_29
                                    have q746 : m699 336 29 = v652 := (Eq.refl (m699 336 29)).trans ((fm699 _ _ (by omega)).trans ev652.symm)
                                    have zb747 := hm699.f_346_4
                                    have q748 : m699 346 4 = (m0 346 4) := (hm699.g (by decide)).trans (((Eq.refl (m0 346 4)).trans (hm0.g (by decide))).symm)
                                    exact ih_n_l650 u55 u56 v698 (u58 + 1) m699 hm699 (by omega) (by omega) (by omega) (by omega) (by omega) (by omega) (by omega) (by omega) (by omega) (by omega)
                        have zb749 := hm45.f_336_29
                        have zb751 := hm45.f_346_4
                        have q752 : m45 346 4 = (m0 346 4) := (hm45.g (by decide)).trans (((Eq.refl (m0 346 4)).trans (hm0.g (by decide))).symm)
                        exact ⟨15626, L_n_l650 15626 0 (-1) (-1) 0 m45 hm45 (by omega) (by omega) (by omega) (by omega) (by omega) (by omega) (by omega) (by omega) (by omega) (by omega)⟩
                      · refine g_getr 20 346 rfl hS.k336 hm45.f_336_20 (by decide) ?_
                        refine g_C ?_
                        refine g_ld (0) (5) hS.k346 hS.l346 (by omega) (by omega) (hm45.f_346_4) (fun v753 ev753 bv753 cv753 => ?_)
                        have qv753 : v753 = (m0 346 4) := (ev753.trans (hm45.g (by decide))).trans (((Eq.refl (m0 346 4)).trans (hm0.g (by decide))).symm)
                        refine g_if (fun w754 => ?_) (fun w754 => ?_)
                        · refine u_X12_relay_120 ?_
                          refine g_C ?_
                          refine g_C ?_
                          refine g_C ?_
                          refine g_C ?_
                          have L_n_l1355 : ∀ (n_l1355 : Nat) (u760 : Int) (u761 : Int) (u762 : Int) (u763 : Int) (m764 : Mm), Inv X S m764 → (-2147483648) ≤ u760 → u760 ≤ 2147483647 → (-1) ≤ u761 → u761 ≤ 65536 → (-2147483648) ≤ u762 → u762 ≤ 2147483647 → 0 ≤ u763 → u763 ≤ 15625 → (m764 336 29 = 0 ∨ 1 ≤ m764 346 4) → 15626 - u763 ≤ (n_l1355 : Int) → wp_X12_relay_132 S K n_l1355 336 u1 u3 u4 u5 u760 u761 u762 u763 m764 := by
                            intro n_l1355
                            induction n_l1355 with
                            | zero => intro u760 u761 u762 u763 m764 hm764 bu760 cu760 bu761 cu761 bu762 cu762 bu763 cu763 xn_l1355_0 zn_l1355; exfalso; omega
                            | succ n_l1355 ih_n_l1355 =>
                              intro u760 u761 u762 u763 m764 hm764 bu760 cu760 bu761 cu761 bu762 cu762 bu763 cu763 xn_l1355_0 zn_l1355
                              refine u_X12_relay_132 ?_
                              refine g_getr 20 346 rfl hS.k336 hm764.f_336_20 (by decide) ?_
                              refine g_C ?_
                              refine g_ld (0) (5) hS.k346 hS.l346 (by omega) (by omega) (hm764.f_346_4) (fun v1356 ev1356 bv1356 cv1356 => ?_)
                              have qv1356 : v1356 = (m0 346 4) := (ev1356.trans (hm764.g (by decide))).trans (((Eq.refl (m0 346 4)).trans (hm0.g (by decide))).symm)
                              refine g_get 29 (0) (6) rfl hS.k336 hm764.f_336_29 (fun v1357 ev1357 bv1357 cv1357 => ?_)
                              have zb1358 := hm764.f_336_29
                              have zb1360 := hm764.f_346_4
                              have q1361 : m764 346 4 = (m0 346 4) := (hm764.g (by decide)).trans (((Eq.refl (m0 346 4)).trans (hm0.g (by decide))).symm)
                              refine z_X12_power hS hm764 (by omega) (by omega) (by omega) (by omega) (by omega) (fun v1362 bv1362 cv1362 => ?_)
                              refine g_if (fun w1363 => ?_) (fun w1363 => ?_)
                              · refine g_C ?_
                                refine g_if (fun w1364 => ?_) (fun w1364 => ?_)
                                · refine g_if (fun w1365 => ?_) (fun w1365 => ?_)
                                  · refine u_X12_relay_250 ?_
                                    refine g_C ?_
                                    have zb1366 := hm764.f_336_29
                                    have zb1368 := hm764.f_346_4
                                    have q1369 : m764 346 4 = (m0 346 4) := (hm764.g (by decide)).trans (((Eq.refl (m0 346 4)).trans (hm0.g (by decide))).symm)
                                    exact hk (-2) m764 hm764 (by omega) (by omega)
                                  · refine g_C ?_
                                    refine g_S (by omega) (by omega) ?_
                                    refine g_get 29 (0) (6) rfl hS.k336 hm764.f_336_29 (fun v1370 ev1370 bv1370 cv1370 => ?_)
                                    have qv1370 : v1370 = v1357 := ev1370.trans ev1357.symm
                                    refine g_if (fun w1371 => ?_) (fun w1371 => ?_)
                                    · refine g_C ?_
                                      refine g_S (by omega) (by omega) ?_
                                      refine ⟨hS.k336, ?_⟩
                                      refine u_X12_handIn ?_
                                      refine g_getr 20 346 rfl hS.k336 hm764.f_336_20 (by decide) ?_
                                      refine g_C ?_
                                      refine g_ld (0) (5) hS.k346 hS.l346 (by omega) (by omega) (hm764.f_346_4) (fun v1372 ev1372 bv1372 cv1372 => ?_)
                                      have qv1372 : v1372 = (m0 346 4) := (ev1372.trans (hm764.g (by decide))).trans (((Eq.refl (m0 346 4)).trans (hm0.g (by decide))).symm)
                                      refine g_get 29 (0) (6) rfl hS.k336 hm764.f_336_29 (fun v1373 ev1373 bv1373 cv1373 => ?_)
                                      have qv1373 : v1373 = v1357 := ev1373.trans ev1357.symm
                                      refine g_C ?_
                                      refine g_S (by omega) (by omega) ?_
                                      refine g_S (by omega) (by omega) ?_
                                      have zb1374 := hm764.f_336_29
                                      have zb1376 := hm764.f_346_4
                                      have q1377 : m764 346 4 = (m0 346 4) := (hm764.g (by decide)).trans (((Eq.refl (m0 346 4)).trans (hm0.g (by decide))).symm)
                                      refine z_X12_power hS hm764 (by omega) (by omega) (by omega) (by omega) (by omega) (fun v1378 bv1378 cv1378 => ?_)
                                      refine g_iDiv (by omega) (by omega) (by omega) (by omega) (fun v1379 bv1379 cv1379 => ?_)
                                      refine g_getr 20 346 rfl hS.k336 hm764.f_336_20 (by decide) ?_
                                      refine g_C ?_
                                      refine g_ld (0) (5) hS.k346 hS.l346 (by omega) (by omega) (hm764.f_346_4) (fun v1380 ev1380 bv1380 cv1380 => ?_)
                                      have qv1380 : v1380 = (m0 346 4) := (ev1380.trans (hm764.g (by decide))).trans (((Eq.refl (m0 346 4)).trans (hm0.g (by decide))).symm)
                                      refine g_iRem (by omega) (by omega) (by omega) (by omega) (fun v1381 bv1381 cv1381 => ?_)
                                      have zb1382 := hm764.f_336_29
                                      have zb1384 := hm764.f_346_4
                                      have q1385 : m764 346 4 = (m0 346 4) := (hm764.g (by decide)).trans (((Eq.refl (m0 346 4)).trans (hm0.g (by decide))).symm)
                                      exact hk v1381 m764 hm764 (by omega) (by omega)
                                    · refine u_X12_relay_250 ?_
                                      refine g_C ?_
                                      have zb1386 := hm764.f_336_29
                                      have zb1388 := hm764.f_346_4
                                      have q1389 : m764 346 4 = (m0 346 4) := (hm764.g (by decide)).trans (((Eq.refl (m0 346 4)).trans (hm0.g (by decide))).symm)
                                      exact hk (-2) m764 hm764 (by omega) (by omega)
                                · refine g_if (fun w1390 => ?_) (fun w1390 => ?_)
                                  · have zb1391 := hm764.f_336_29
                                    have zb1393 := hm764.f_346_4
                                    have q1394 : m764 346 4 = (m0 346 4) := (hm764.g (by decide)).trans (((Eq.refl (m0 346 4)).trans (hm0.g (by decide))).symm)
                                    exact hk u762 m764 hm764 (by omega) (by omega)
                                  · have zb1395 := hm764.f_336_29
                                    have zb1397 := hm764.f_346_4
                                    have q1398 : m764 346 4 = (m0 346 4) := (hm764.g (by decide)).trans (((Eq.refl (m0 346 4)).trans (hm0.g (by decide))).symm)
                                    exact hk u760 m764 hm764 (by omega) (by omega)
                              · refine ⟨hS.k336, ?_⟩
                                have zb1399 := hm764.f_336_29
                                have zb1401 := hm764.f_346_4
                                have q1402 : m764 346 4 = (m0 346 4) := (hm764.g (by decide)).trans (((Eq.refl (m0 346 4)).trans (hm0.g (by decide))).symm)
                                refine z_X12_turnedByRow hS hm764 (by omega) (by omega) (by omega) (by omega) (by omega) (fun v1403 m1404 hm1404 fm1404 bv1403 cv1403 => ?_)
                                have zb1405 := hm1404.f_336_29
                                have zb1406 := hm1404.f_346_4
                                refine g_if (fun w1407 => ?_) (fun w1407 => ?_)
                                · refine u_X12_relay_171 ?_
                                  refine u_X12_relay_178 ?_
                                  refine g_C ?_
                                  refine g_C ?_
                                  refine g_C ?_
                                  refine z_in (fun aw1408 bw1408 => ?_) (fun cw1408 => ?_)
                                  · refine g_ifT (by omega) ?_
                                    refine g_if (fun w1409 => ?_) (fun w1409 => ?_)
                                    · refine u_X12_relay_206 ?_
                                      refine g_Aw (fun v1410 bv1410 cv1410 => ?_)
                                      refine u_X12_relay_209 ?_
                                      refine g_A (by omega) (by omega) ?_
                                      have zb1411 := hm1404.f_336_29
                                      have q1412 : m1404 336 29 = v1357 := (Eq.refl (m1404 336 29)).trans ((fm1404 _ _ (by omega)).trans ev1357.symm)
                                      have zb1413 := hm1404.f_346_4
                                      have q1414 : m1404 346 4 = (m0 346 4) := (hm1404.g (by decide)).trans (((Eq.refl (m0 346 4)).trans (hm0.g (by decide))).symm)
                                      exact ih_n_l1355 v1410 u761 v1403 (u763 + 1) m1404 hm1404 (by omega) (by omega) (by omega) (by omega) (by omega) (by omega) (by omega) (by omega) (by omega) (by omega)
                                    · refine u_X12_relay_206 ?_
                                      refine g_A (by omega) (by omega) ?_
                                      refine u_X12_relay_209 ?_
                                      refine g_A (by omega) (by omega) ?_
                                      have zb1415 := hm1404.f_336_29
                                      have q1416 : m1404 336 29 = v1357 := (Eq.refl (m1404 336 29)).trans ((fm1404 _ _ (by omega)).trans ev1357.symm)
                                      have zb1417 := hm1404.f_346_4
                                      have q1418 : m1404 346 4 = (m0 346 4) := (hm1404.g (by decide)).trans (((Eq.refl (m0 346 4)).trans (hm0.g (by decide))).symm)
                                      exact ih_n_l1355 (u760 + 1) u763 v1403 (u763 + 1) m1404 hm1404 (by omega) (by omega) (by omega) (by omega) (by omega) (by omega) (by omega) (by omega) (by omega) (by omega)
                                  · refine g_ifF (by omega) ?_
                                    refine u_X12_relay_209 ?_
                                    refine g_A (by omega) (by omega) ?_
                                    have zb1419 := hm1404.f_336_29
                                    have q1420 : m1404 336 29 = v1357 := (Eq.refl (m1404 336 29)).trans ((fm1404 _ _ (by omega)).trans ev1357.symm)
                                    have zb1421 := hm1404.f_346_4
                                    have q1422 : m1404 346 4 = (m0 346 4) := (hm1404.g (by decide)).trans (((Eq.refl (m0 346 4)).trans (hm0.g (by decide))).symm)
                                    exact ih_n_l1355 u760 u761 v1403 (u763 + 1) m1404 hm1404 (by omega) (by omega) (by omega) (by omega) (by omega) (by omega) (by omega) (by omega) (by omega) (by omega)
                                · refine g_if (fun w1423 => ?_) (fun w1423 => ?_)
                                  · refine u_X12_relay_178 ?_
                                    refine g_C ?_
                                    refine g_C ?_
                                    refine g_C ?_
                                    refine z_in (fun aw1424 bw1424 => ?_) (fun cw1424 => ?_)
                                    · refine g_ifT (by omega) ?_
                                      refine g_if (fun w1425 => ?_) (fun w1425 => ?_)
                                      · refine u_X12_relay_206 ?_
                                        refine g_Aw (fun v1426 bv1426 cv1426 => ?_)
                                        refine u_X12_relay_209 ?_
                                        refine g_A (by omega) (by omega) ?_
                                        have zb1427 := hm1404.f_336_29
                                        have q1428 : m1404 336 29 = v1357 := (Eq.refl (m1404 336 29)).trans ((fm1404 _ _ (by omega)).trans ev1357.symm)
                                        have zb1429 := hm1404.f_346_4
                                        have q1430 : m1404 346 4 = (m0 346 4) := (hm1404.g (by decide)).trans (((Eq.refl (m0 346 4)).trans (hm0.g (by decide))).symm)
                                        exact ih_n_l1355 v1426 u761 u762 (u763 + 1) m1404 hm1404 (by omega) (by omega) (by omega) (by omega) (by omega) (by omega) (by omega) (by omega) (by omega) (by omega)
                                      · refine u_X12_relay_206 ?_
                                        refine g_A (by omega) (by omega) ?_
                                        refine u_X12_relay_209 ?_
                                        refine g_A (by omega) (by omega) ?_
                                        have zb1431 := hm1404.f_336_29
                                        have q1432 : m1404 336 29 = v1357 := (Eq.refl (m1404 336 29)).trans ((fm1404 _ _ (by omega)).trans ev1357.symm)
                                        have zb1433 := hm1404.f_346_4
                                        have q1434 : m1404 346 4 = (m0 346 4) := (hm1404.g (by decide)).trans (((Eq.refl (m0 346 4)).trans (hm0.g (by decide))).symm)
                                        exact ih_n_l1355 (u760 + 1) u763 u762 (u763 + 1) m1404 hm1404 (by omega) (by omega) (by omega) (by omega) (by omega) (by omega) (by omega) (by omega) (by omega) (by omega)
                                    · refine g_ifF (by omega) ?_
                                      refine u_X12_relay_209 ?_
                                      refine g_A (by omega) (by omega) ?_
                                      have zb1435 := hm1404.f_336_29
                                      have q1436 : m1404 336 29 = v1357 := (Eq.refl (m1404 336 29)).trans ((fm1404 _ _ (by omega)).trans ev1357.symm)
                                      have zb1437 := hm1404.f_346_4
                                      have q1438 : m1404 346 4 = (m0 346 4) := (hm1404.g (by decide)).trans (((Eq.refl (m0 346 4)).trans (hm0.g (by decide))).symm)
                                      exact ih_n_l1355 u760 u761 u762 (u763 + 1) m1404 hm1404 (by omega) (by omega) (by omega) (by omega) (by omega) (by omega) (by omega) (by omega) (by omega) (by omega)
                                  · refine u_X12_relay_171 ?_
                                    refine u_X12_relay_178 ?_
                                    refine g_C ?_
                                    refine g_C ?_
                                    refine g_C ?_
                                    refine z_in (fun aw1439 bw1439 => ?_) (fun cw1439 => ?_)
                                    · refine g_ifT (by omega) ?_
                                      refine g_if (fun w1440 => ?_) (fun w1440 => ?_)
                                      · refine u_X12_relay_206 ?_
                                        refine g_Aw (fun v1441 bv1441 cv1441 => ?_)
                                        refine u_X12_relay_209 ?_
                                        refine g_A (by omega) (by omega) ?_
                                        have zb1442 := hm1404.f_336_29
                                        have q1443 : m1404 336 29 = v1357 := (Eq.refl (m1404 336 29)).trans ((fm1404 _ _ (by omega)).trans ev1357.symm)
                                        have zb1444 := hm1404.f_346_4
                                        have q1445 : m1404 346 4 = (m0 346 4) := (hm1404.g (by decide)).trans (((Eq.refl (m0 346 4)).trans (hm0.g (by decide))).symm)
                                        exact ih_n_l1355 v1441 u761 v1403 (u763 + 1) m1404 hm1404 (by omega) (by omega) (by omega) (by omega) (by omega) (by omega) (by omega) (by omega) (by omega) (by omega)
                                      · refine u_X12_relay_206 ?_
                                        refine g_A (by omega) (by omega) ?_
                                        refine u_X12_relay_209 ?_
                                        refine g_A (by omega) (by omega) ?_
                                        have zb1446 := hm1404.f_336_29
                                        have q1447 : m1404 336 29 = v1357 := (Eq.refl (m1404 336 29)).trans ((fm1404 _ _ (by omega)).trans ev1357.symm)
                                        have zb1448 := hm1404.f_346_4
                                        have q1449 : m1404 346 4 = (m0 346 4) := (hm1404.g (by decide)).trans (((Eq.refl (m0 346 4)).trans (hm0.g (by decide))).symm)
                                        exact ih_n_l1355 (u760 + 1) u763 v1403 (u763 + 1) m1404 hm1404 (by omega) (by omega) (by omega) (by omega) (by omega) (by omega) (by omega) (by omega) (by omega) (by omega)
                                    · refine g_ifF (by omega) ?_
                                      refine u_X12_relay_209 ?_
                                      refine g_A (by omega) (by omega) ?_
                                      have zb1450 := hm1404.f_336_29
                                      have q1451 : m1404 336 29 = v1357 := (Eq.refl (m1404 336 29)).trans ((fm1404 _ _ (by omega)).trans ev1357.symm)
                                      have zb1452 := hm1404.f_346_4
                                      have q1453 : m1404 346 4 = (m0 346 4) := (hm1404.g (by decide)).trans (((Eq.refl (m0 346 4)).trans (hm0.g (by decide))).symm)
                                      exact ih_n_l1355 u760 u761 v1403 (u763 + 1) m1404 hm1404 (by omega) (by omega) (by omega) (by omega) (by omega) (by omega) (by omega) (by omega) (by omega) (by omega)
                          have zb1454 := hm45.f_336_29
                          have zb1456 := hm45.f_346_4
                          have q1457 : m45 346 4 = (m0 346 4) := (hm45.g (by decide)).trans (((Eq.refl (m0 346 4)).trans (hm0.g (by decide))).symm)
                          exact ⟨15626, L_n_l1355 15626 0 (-1) (-1) 0 m45 hm45 (by omega) (by omega) (by omega) (by omega) (by omega) (by omega) (by omega) (by omega) (by omega) (by omega)⟩
                        · refine g_C ?_
                          have zb1458 := hm45.f_336_29
                          have zb1460 := hm45.f_346_4
                          have q1461 : m45 346 4 = (m0 346 4) := (hm45.g (by decide)).trans (((Eq.refl (m0 346 4)).trans (hm0.g (by decide))).symm)
                          exact hk (-2) m45 hm45 (by omega) (by omega)
                    · refine g_C ?_
                      have zb1462 := hm38.f_336_29
                      have zb1464 := hm38.f_346_4
                      have q1465 : m38 346 4 = (m0 346 4) := (hm38.g (by decide)).trans (((Eq.refl (m0 346 4)).trans (hm0.g (by decide))).symm)
                      exact hk (-2) m38 hm38 (by omega) (by omega)
                  · refine g_ifF (by omega) ?_
                    refine g_C ?_
                    have zb1466 := hm0.f_336_29
                    have zb1468 := hm0.f_346_4
                    have q1469 : m0 346 4 = (m0 346 4) := (hm0.g (by decide)).trans (((Eq.refl (m0 346 4)).trans (hm0.g (by decide))).symm)
                    exact hk (-3) m0 hm0 (by omega) (by omega)
                · refine g_ifT (by omega) ?_
                  refine g_C ?_
                  have zb1470 := hm0.f_336_29
                  have zb1472 := hm0.f_346_4
                  have q1473 : m0 346 4 = (m0 346 4) := (hm0.g (by decide)).trans (((Eq.refl (m0 346 4)).trans (hm0.g (by decide))).symm)
                  exact hk (-3) m0 hm0 (by omega) (by omega)
              · refine g_ifT (by omega) ?_
                refine g_C ?_
                have zb1474 := hm0.f_336_29
                have zb1476 := hm0.f_346_4
                have q1477 : m0 346 4 = (m0 346 4) := (hm0.g (by decide)).trans (((Eq.refl (m0 346 4)).trans (hm0.g (by decide))).symm)
                exact hk (-3) m0 hm0 (by omega) (by omega)
