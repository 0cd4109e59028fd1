theorem z_X12_probe {X : Mm} {S : Sh} {m0 : Mm} {K : Int → Mm → Prop} {u1 : Int} (hS : Shp S) (hm0 : Inv X S m0)  (hk : ∀ (r : Int) (M1 : Mm), Inv X S M1 → (-2) ≤ r → r ≤ 2147483647 → K r M1) : wp_X12_probe S m0 336 u1 K := by
  refine u_X12_probe ?_
  refine ⟨hS.k336, ?_⟩
  refine u_X12_isDairy ?_
  refine g_getr 20 346 rfl hS.k336 hm0.f_336_20 (by decide) ?_
  refine g_C ?_
  refine g_ld (0) (6) hS.k346 hS.l346 (by omega) (by omega) (hm0.f_346_0) (fun v1 ev1 bv1 cv1 => ?_)
  refine g_if (fun w2 => ?_) (fun w2 => ?_)
  · refine g_C ?_
    refine ⟨by omega, ?_⟩
    refine g_ifT (by omega) ?_
    refine g_C ?_
    exact hk (-1) m0 hm0 (by omega) (by omega)
  · refine g_C ?_
    refine ⟨by omega, ?_⟩
    refine g_ifF (by omega) ?_
    refine g_C ?_
    refine g_C ?_
    refine g_C ?_
    refine z_in (fun aw3 bw3 => ?_) (fun cw3 => ?_)
    · refine g_ifT (by omega) ?_
      refine ⟨hS.k336, ?_⟩
      refine z_X12_fitting hS hm0 (fun v4 m5 hm5 bv4 cv4 => ?_)
      refine g_if (fun w6 => ?_) (fun w6 => ?_)
      · refine g_C ?_
        refine g_C ?_
        have L_n_l106 : ∀ (n_l106 : Nat) (u10 : Int) (u11 : Int) (m12 : Mm), Inv X S m12 → 1 ≤ u10 → u10 ≤ 20 → 2 ≤ u11 → u11 ≤ 21 → 22 - u11 ≤ (n_l106 : Int) → wp_X12_probe_36 S K n_l106 336 u1 v4 u10 u11 m12 := by
          intro n_l106
          induction n_l106 with
          | zero => intro u10 u11 m12 hm12 bu10 cu10 bu11 cu11 zn_l106; exfalso; omega
          | succ n_l106 ih_n_l106 =>
            intro u10 u11 m12 hm12 bu10 cu10 bu11 cu11 zn_l106
            refine u_X12_probe_36 ?_
            refine g_C ?_
            refine g_if (fun w107 => ?_) (fun w107 => ?_)
            · refine g_if (fun w108 => ?_) (fun w108 => ?_)
              · refine ⟨hS.k336, ?_⟩
                refine z_X12_alikeBy hS hm12 (by omega) (by omega) (by omega) (by omega) (fun v109 m110 hm110 bv109 cv109 => ?_)
                exact hk v109 m110 hm110 (by omega) (by omega)
              · exact hk u10 m12 hm12 (by omega) (by omega)
            · refine ⟨hS.k336, ?_⟩
              refine z_X12_alikeBy hS hm12 (by omega) (by omega) (by omega) (by omega) (fun v111 m112 hm112 bv111 cv111 => ?_)
              refine ⟨hS.k336, ?_⟩
              refine z_X12_alikeBy hS hm112 (by omega) (by omega) (by omega) (by omega) (fun v113 m114 hm114 bv113 cv113 => ?_)
              refine g_if (fun w115 => ?_) (fun w115 => ?_)
              · refine u_X12_probe_62 ?_
                refine g_A (by omega) (by omega) ?_
                exact ih_n_l106 u10 (u11 + 1) m114 hm114 (by omega) (by omega) (by omega) (by omega) (by omega)
              · refine u_X12_probe_62 ?_
                refine g_A (by omega) (by omega) ?_
                exact ih_n_l106 u11 (u11 + 1) m114 hm114 (by omega) (by omega) (by omega) (by omega) (by omega)
        exact ⟨20, L_n_l106 20 1 2 m5 hm5 (by omega) (by omega) (by omega) (by omega) (by omega)⟩
      · refine g_C ?_
        exact hk (-2) m5 hm5 (by omega) (by omega)
    · refine g_ifF (by omega) ?_
      refine g_C ?_
      exact hk (-1) m0 hm0 (by omega) (by omega)
theorem z_X12_put {X : Mm} {S : Sh} {m0 : Mm} {K : Int → Mm → Prop} {u1 u2 : Int} (hS : Shp S) (hm0 : Inv X S m0)  (hk : ∀ (r : Int) (M1 : Mm), Inv X S M1 → (-1) ≤ r → r ≤ 5 → K r M1) : wp_X12_put S m0 336 u1 u2 K := by
  refine u_X12_put ?_
  refine ⟨hS.k336, ?_⟩
  refine u_X12_isHand ?_
  refine g_if (fun w1 => ?_) (fun w1 => ?_)
  · refine g_C ?_
    refine ⟨by omega, ?_⟩
    refine g_ifT (by omega) ?_
    refine g_C ?_
    exact hk (-1) m0 hm0 (by omega) (by omega)
  · refine g_getr 20 346 rfl hS.k336 hm0.f_336_20 (by decide) ?_
    refine g_C ?_
    refine g_ld (0) (5) hS.k346 hS.l346 (by omega) (by omega) (hm0.f_346_4) (fun v2 ev2 bv2 cv2 => ?_)
    refine g_if (fun w3 => ?_) (fun w3 => ?_)
    · refine g_C ?_
      refine ⟨by omega, ?_⟩
      refine g_ifT (by omega) ?_
      refine g_C ?_
      exact hk (-1) m0 hm0 (by omega) (by omega)
    · refine g_C ?_
      refine ⟨by omega, ?_⟩
      refine g_ifF (by omega) ?_
      refine ⟨hS.k336, ?_⟩
      refine u_X12_isJug ?_
      refine g_if (fun w4 => ?_) (fun w4 => ?_)
      · refine g_C ?_
        refine ⟨by omega, ?_⟩
        refine g_ifT (by omega) ?_
        refine g_C ?_
        exact hk (-1) m0 hm0 (by omega) (by omega)
      · refine g_getr 20 346 rfl hS.k336 hm0.f_336_20 (by decide) ?_
        refine g_C ?_
        refine g_ld (0) (4) hS.k346 hS.l346 (by omega) (by omega) (hm0.f_346_5) (fun v5 ev5 bv5 cv5 => ?_)
        refine g_if (fun w6 => ?_) (fun w6 => ?_)
        · refine g_C ?_
          refine ⟨by omega, ?_⟩
          refine g_ifT (by omega) ?_
          refine g_C ?_
          exact hk (-1) m0 hm0 (by omega) (by omega)
        · refine g_C ?_
          refine ⟨by omega, ?_⟩
          refine g_ifF (by omega) ?_
          refine g_C ?_
          refine ⟨hS.k336, ?_⟩
          refine u_X12_jugOf ?_
          refine g_getr 20 346 rfl hS.k336 hm0.f_336_20 (by decide) ?_
          refine g_C ?_
          refine g_C ?_
          refine g_M (by omega) (by omega) ?_
          refine g_A (by omega) (by omega) ?_
          refine g_A (by omega) (by omega) ?_
          refine g_ld (-1) (4) hS.k346 hS.l346 (by omega) (by omega) (fam_346_36_4_0_3 hm0 (a := u2) (by omega) (by omega) (by omega)) (fun v7 ev7 bv7 cv7 => ?_)
          refine g_if (fun w8 => ?_) (fun w8 => ?_)
          · refine g_C ?_
            exact hk (-1) m0 hm0 (by omega) (by omega)
          · refine ⟨hS.k336, ?_⟩
            refine u_X12_isAtPlace ?_
            refine g_C ?_
            refine ⟨hS.k336, ?_⟩
            refine u_X12_handOf ?_
            refine g_getr 20 346 rfl hS.k336 hm0.f_336_20 (by decide) ?_
            refine g_C ?_
            refine g_C ?_
            refine g_M (by omega) (by omega) ?_
            refine g_A (by omega) (by omega) ?_
            refine g_A (by omega) (by omega) ?_
            refine g_ld (0) (5) hS.k346 hS.l346 (by omega) (by omega) (fam_346_11_5_0_4 hm0 (a := u1) (by omega) (by omega) (by omega)) (fun v9 ev9 bv9 cv9 => ?_)
            refine g_if (fun w10 => ?_) (fun w10 => ?_)
            · refine g_C ?_
              refine ⟨by omega, ?_⟩
              refine g_ifF (by omega) ?_
              refine g_C ?_
              exact hk (-1) m0 hm0 (by omega) (by omega)
            · refine g_C ?_
              refine ⟨by omega, ?_⟩
              refine g_ifT (by omega) ?_
              refine ⟨hS.k336, ?_⟩
              refine z_X12_keepsAct hS hm0 (fun m11 hm11 => ?_)
              refine g_getr 20 346 rfl hS.k336 hm11.f_336_20 (by decide) ?_
              refine g_C ?_
              refine g_C ?_
              refine g_M (by omega) (by omega) ?_
              refine g_A (by omega) (by omega) ?_
              refine g_C ?_
              refine g_A (by omega) (by omega) ?_
              refine g_C ?_
              refine g_st hS.k346 hS.l346 (by omega) (by omega) (wfm_346_36_4_0_3 hm11 (a := u2) (by omega) (by omega) (by omega) (by omega) (by omega)) (fun m12 em12 hm12 => ?_)
              refine g_getr 20 346 rfl hS.k336 hm12.f_336_20 (by decide) ?_
              refine g_C ?_
              refine g_C ?_
              refine g_M (by omega) (by omega) ?_
              refine g_A (by omega) (by omega) ?_
              refine g_C ?_
              refine ⟨hS.k336, ?_⟩
              refine u_X12_handOf ?_
              refine g_getr 20 346 rfl hS.k336 hm12.f_336_20 (by decide) ?_
              refine g_C ?_
              refine g_C ?_
              refine g_M (by omega) (by omega) ?_
              refine g_A (by omega) (by omega) ?_
              refine g_A (by omega) (by omega) ?_
              refine g_ld (0) (5) hS.k346 hS.l346 (by omega) (by omega) (fam_346_10_5_0_4 hm12 (a := u1) (by omega) (by omega) (by omega)) (fun v13 ev13 bv13 cv13 => ?_)
              refine g_st hS.k346 hS.l346 (by omega) (by omega) (wfm_346_35_4_0_3 hm12 (a := u2) (by omega) (by omega) (by omega) (by omega) (by omega)) (fun m14 em14 hm14 => ?_)
              refine g_C ?_
              refine ⟨hS.k336, ?_⟩
              refine u_X12_handOf ?_
              refine g_getr 20 346 rfl hS.k336 hm14.f_336_20 (by decide) ?_
              refine g_C ?_
              refine g_C ?_
              refine g_M (by omega) (by omega) ?_
              refine g_A (by omega) (by omega) ?_
              refine g_A (by omega) (by omega) ?_
              refine g_ld (0) (5) hS.k346 hS.l346 (by omega) (by omega) (fam_346_10_5_0_4 hm14 (a := u1) (by omega) (by omega) (by omega)) (fun v15 ev15 bv15 cv15 => ?_)
              have qv15 : v15 = v13 := ev15.trans ((congrFun (congrFun em14 _) _).trans ((up_ne (by omega)).trans ev13.symm))
              exact hk v15 m14 hm14 (by omega) (by omega)
theorem z_X12_turnedByRow {X : Mm} {S : Sh} {m0 : Mm} {K : Int → Mm → Prop} {u1 u2 : Int} (hS : Shp S) (hm0 : Inv X S m0) (l_u1 : 0 ≤ u1) (h_u1 : u1 ≤ 3) (l_u2 : 0 ≤ u2) (h_u2 : u2 ≤ 15624) (p0 : m0 336 29 = 0 ∨ 1 ≤ m0 346 4) (hk : ∀ (r : Int) (M1 : Mm), Inv X S M1 → (∀ c p : Int, ¬ c = 344 ∧ ¬ c = 345 ∧ ¬ (c = 336 ∧ 18 ≤ p ∧ p ≤ 18) → M1 c p = m0 c p) → (-2147483648) ≤ r → r ≤ 2147483647 → K r M1) : wp_X12_turnedByRow S m0 336 u1 u2 K := by
  have Fm0 : ∀ c p : Int, ¬ c = 344 ∧ ¬ c = 345 ∧ ¬ (c = 336 ∧ 18 ≤ p ∧ p ≤ 18) → m0 c p = m0 c p := fun c p _ => rfl
  refine u_X12_turnedByRow ?_
  refine g_C ?_
  refine ⟨hS.k336, ?_⟩
  refine u_X12_jugOf ?_
  refine g_getr 20 346 rfl hS.k336 hm0.f_336_20 (by decide) ?_
  refine g_C ?_
  refine g_C ?_
  refine g_M (by omega) (by omega) ?_
  refine g_A (by omega) (by omega) ?_
  refine g_A (by omega) (by omega) ?_
  refine g_ld (-2147483648) (2147483647) hS.k346 hS.l346 (by omega) (by omega) (fam_346_37_4_0_3 hm0 (a := u1) (by omega) (by omega) (by omega)) (fun v1 ev1 bv1 cv1 => ?_)
  refine g_getr 20 346 rfl hS.k336 hm0.f_336_20 (by decide) ?_
  refine g_C ?_
  refine g_ld (-2147483648) (2147483647) hS.k346 hS.l346 (by omega) (by omega) (hm0.f_346_7) (fun v2 ev2 bv2 cv2 => ?_)
  refine g_C ?_
  have L_n_l101 : ∀ (n_l101 : Nat) (u6 : Int) (u7 : Int) (u8 : Int) (m9 : Mm), Inv X S m9 → (∀ c p : Int, ¬ c = 344 ∧ ¬ c = 345 ∧ ¬ (c = 336 ∧ 18 ≤ p ∧ p ≤ 18) → m9 c p = m0 c p) → (-2147483648) ≤ u6 → u6 ≤ 2147483647 → (-2147483648) ≤ u7 → u7 ≤ 2147483647 → 0 ≤ u8 → u8 ≤ 6 → 7 - u8 ≤ (n_l101 : Int) → wp_X12_turnedByRow_19 S K n_l101 336 u1 u2 u6 u7 u8 m9 := by
    intro n_l101
    induction n_l101 with
    | zero => intro u6 u7 u8 m9 hm9 Fm9 bu6 cu6 bu7 cu7 bu8 cu8 zn_l101; exfalso; omega
    | succ n_l101 ih_n_l101 =>
      intro u6 u7 u8 m9 hm9 Fm9 bu6 cu6 bu7 cu7 bu8 cu8 zn_l101
      refine u_X12_turnedByRow_19 ?_
      refine g_get 29 (0) (6) rfl hS.k336 hm9.f_336_29 (fun v102 ev102 bv102 cv102 => ?_)
      have qv102 : v102 = (m0 336 29) := ev102.trans ((Fm9 _ _ (by omega)).trans (Eq.refl (m0 336 29)).symm)
      refine g_if (fun w103 => ?_) (fun w103 => ?_)
      · have zb104 := hm9.f_336_29
        have q105 : m9 336 29 = (m0 336 29) := (Eq.refl (m9 336 29)).trans ((Fm9 _ _ (by omega)).trans (Eq.refl (m0 336 29)).symm)
        have zb106 := hm9.f_346_4
        have q107 : m9 346 4 = (m0 346 4) := (Eq.refl (m9 346 4)).trans ((Fm9 _ _ (by omega)).trans (Eq.refl (m0 346 4)).symm)
        exact hk u6 m9 hm9 Fm9 (by omega) (by omega)
      · refine ⟨hS.k336, ?_⟩
        refine u_X12_handIn ?_
        refine g_getr 20 346 rfl hS.k336 hm9.f_336_20 (by decide) ?_
        refine g_C ?_
        refine g_ld (0) (5) hS.k346 hS.l346 (by omega) (by omega) (hm9.f_346_4) (fun v108 ev108 bv108 cv108 => ?_)
        have qv108 : v108 = (m0 346 4) := (ev108.trans (hm9.g (by decide))).trans (((Eq.refl (m0 346 4)).trans (hm0.g (by decide))).symm)
        refine g_get 29 (0) (6) rfl hS.k336 hm9.f_336_29 (fun v109 ev109 bv109 cv109 => ?_)
        have qv109 : v109 = (m0 336 29) := ev109.trans ((Fm9 _ _ (by omega)).trans (Eq.refl (m0 336 29)).symm)
        refine g_C ?_
        refine g_S (by omega) (by omega) ?_
        refine g_S (by omega) (by omega) ?_
        have zb110 := hm9.f_336_29
        have q111 : m9 336 29 = (m0 336 29) := (Eq.refl (m9 336 29)).trans ((Fm9 _ _ (by omega)).trans (Eq.refl (m0 336 29)).symm)
        have zb112 := hm9.f_346_4
        have q113 : m9 346 4 = (m0 346 4) := (Eq.refl (m9 346 4)).trans ((Fm9 _ _ (by omega)).trans (Eq.refl (m0 346 4)).symm)
        refine z_X12_power hS hm9 (by omega) (by omega) (by omega) (by omega) (by omega) (fun v114 bv114 cv114 => ?_)
        refine g_iDiv (by omega) (by omega) (by omega) (by omega) (fun v115 bv115 cv115 => ?_)
        refine g_getr 20 346 rfl hS.k336 hm9.f_336_20 (by decide) ?_
        refine g_C ?_
        refine g_ld (0) (5) hS.k346 hS.l346 (by omega) (by omega) (hm9.f_346_4) (fun v116 ev116 bv116 cv116 => ?_)
        have qv116 : v116 = (m0 346 4) := (ev116.trans (hm9.g (by decide))).trans (((Eq.refl (m0 346 4)).trans (hm0.g (by decide))).symm)
        refine g_iRem (by omega) (by omega) (by omega) (by omega) (fun v117 bv117 cv117 => ?_)
        refine g_getr 28 350 rfl hS.k336 hm9.f_336_28 (by decide) ?_
        refine g_ld (0) (5) hS.k350 hS.l350 (by omega) (by omega) (hm9.a_350 (by omega) (by omega)) (fun v118 ev118 bv118 cv118 => ?_)
        refine g_C ?_
        refine ⟨hS.k336, ?_⟩
        refine z_X12_turnedBy hS hm9 (by omega) (by omega) (by omega) (by omega) (by omega) (by omega) (by omega) (by omega) (fun v119 m120 hm120 fm120 bv119 cv119 => ?_)
        have zb121 := hm120.f_336_29
        have zb122 := hm120.f_346_4
        have Fm120 : ∀ c p : Int, ¬ c = 344 ∧ ¬ c = 345 ∧ ¬ (c = 336 ∧ 18 ≤ p ∧ p ≤ 18) → m120 c p = m0 c p := fun c p h => (fm120 c p (by omega)).trans (Fm9 c p h)
        refine g_getr 28 350 rfl hS.k336 hm120.f_336_28 (by decide) ?_
        refine g_ld (0) (5) hS.k350 hS.l350 (by omega) (by omega) (hm120.a_350 (by omega) (by omega)) (fun v123 ev123 bv123 cv123 => ?_)
        refine g_Aw (fun v124 bv124 cv124 => ?_)
        refine g_A (by omega) (by omega) ?_
        have zb125 := hm120.f_336_29
        have q126 : m120 336 29 = (m0 336 29) := (Eq.refl (m120 336 29)).trans ((fm120 _ _ (by omega)).trans ((Fm9 _ _ (by omega)).trans (Eq.refl (m0 336 29)).symm))
        have zb127 := hm120.f_346_4
        have q128 : m120 346 4 = (m0 346 4) := (Eq.refl (m120 346 4)).trans ((fm120 _ _ (by omega)).trans ((Fm9 _ _ (by omega)).trans (Eq.refl (m0 346 4)).symm))
        exact ih_n_l101 v119 v124 (u8 + 1) m120 hm120 Fm120 (by omega) (by omega) (by omega) (by omega) (by omega) (by omega) (by omega)
  have zb129 := hm0.f_336_29
  have zb131 := hm0.f_346_4
  exact ⟨7, L_n_l101 7 v1 v2 0 m0 hm0 Fm0 (by omega) (by omega) (by omega) (by omega) (by omega) (by omega) (by omega)⟩
theorem z_X12_relay {X : Mm} {S : Sh} {m0 : Mm} {K : Int → Mm → Prop} {u1 u2 u3 u4 u5 : Int} (hS : Shp S) (hm0 : Inv X S m0)  (hk : ∀ (r : Int) (M1 : Mm), Inv X S M1 → (-2147483648) ≤ r → r ≤ 2147483647 → K r M1) : wp_X12_relay S m0 336 u1 u2 u3 u4 u5 K := by
  refine u_X12_relay ?_
  refine ⟨hS.k336, ?_⟩
  refine u_X12_isJug ?_
  refine g_if (fun w1 => ?_) (fun w1 => ?_)
  · refine g_C ?_
    refine ⟨by omega, ?_⟩
    refine g_ifT (by omega) ?_
    refine g_C ?_
    have zb2 := hm0.f_336_29
    have zb4 := hm0.f_346_4
    exact hk (-3) m0 hm0 (by omega) (by omega)
  · refine g_getr 20 346 rfl hS.k336 hm0.f_336_20 (by decide) ?_
    refine g_C ?_
    refine g_ld (0) (4) hS.k346 hS.l346 (by omega) (by omega) (hm0.f_346_5) (fun v6 ev6 bv6 cv6 => ?_)
    refine g_if (fun w7 => ?_) (fun w7 => ?_)
    · refine g_C ?_
      refine ⟨by omega, ?_⟩
      refine g_ifT (by omega) ?_
      refine g_C ?_
      have zb8 := hm0.f_336_29
      have zb10 := hm0.f_346_4
      exact hk (-3) m0 hm0 (by omega) (by omega)
    · refine g_C ?_
      refine ⟨by omega, ?_⟩
      refine g_ifF (by omega) ?_
      refine ⟨hS.k336, ?_⟩
      refine u_X12_stands ?_
      refine g_C ?_
      refine ⟨hS.k336, ?_⟩
      refine u_X12_jugOf ?_
      refine g_getr 20 346 rfl hS.k336 hm0.f_336_20 (by decide) ?_
      refine g_C ?_
      refine g_C ?_
      refine g_M (by omega) (by omega) ?_
      refine g_A (by omega) (by omega) ?_
      refine g_A (by omega) (by omega) ?_
      refine g_ld (-1) (4) hS.k346 hS.l346 (by omega) (by omega) (fam_346_36_4_0_3 hm0 (a := u1) (by omega) (by omega) (by omega)) (fun v12 ev12 bv12 cv12 => ?_)
      refine g_if (fun w13 => ?_) (fun w13 => ?_)
      · refine g_C ?_
        refine ⟨by omega, ?_⟩
        refine g_ifT (by omega) ?_
        refine g_C ?_
        have zb14 := hm0.f_336_29
        have zb16 := hm0.f_346_4
        exact hk (-3) m0 hm0 (by omega) (by omega)
      · refine g_C ?_
        refine ⟨hS.k336, ?_⟩
        refine u_X12_jugOf ?_
        refine g_getr 20 346 rfl hS.k336 hm0.f_336_20 (by decide) ?_
        refine g_C ?_
        refine g_C ?_
        refine g_M (by omega) (by omega) ?_
        refine g_A (by omega) (by omega) ?_
        refine g_A (by omega) (by omega) ?_
        refine g_ld (0) (1) hS.k346 hS.l346 (by omega) (by omega) (fam_346_38_4_0_3 hm0 (a := u1) (by omega) (by omega) (by omega)) (fun v18 ev18 bv18 cv18 => ?_)
        refine g_if (fun w19 => ?_) (fun w19 => ?_)
        · refine g_C ?_
          refine ⟨by omega, ?_⟩
          refine g_ifT (by omega) ?_
          refine g_C ?_
          have zb20 := hm0.f_336_29
          have zb22 := hm0.f_346_4
          exact hk (-3) m0 hm0 (by omega) (by omega)
        · refine g_C ?_
          refine ⟨by omega, ?_⟩
          refine g_ifF (by omega) ?_
          refine ⟨hS.k336, ?_⟩
          refine u_X12_isPlace ?_
          refine g_if (fun w24 => ?_) (fun w24 => ?_)
          · refine g_C ?_
            refine ⟨by omega, ?_⟩
            refine g_ifT (by omega) ?_
            refine g_C ?_
            have zb25 := hm0.f_336_29
            have zb27 := hm0.f_346_4
            exact hk (-3) m0 hm0 (by omega) (by omega)
          · refine g_getr 20 346 rfl hS.k336 hm0.f_336_20 (by decide) ?_
            refine g_C ?_
            refine g_ld (0) (6) hS.k346 hS.l346 (by omega) (by omega) (hm0.f_346_0) (fun v29 ev29 bv29 cv29 => ?_)
            refine g_if (fun w30 => ?_) (fun w30 => ?_)
            · refine g_C ?_
              refine ⟨by omega, ?_⟩
              refine g_ifT (by omega) ?_
              refine g_C ?_
              have zb31 := hm0.f_336_29
              have zb33 := hm0.f_346_4
              exact hk (-3) m0 hm0 (by omega) (by omega)
            · refine g_C ?_
              refine ⟨by omega, ?_⟩
              refine g_ifF (by omega) ?_
              refine g_C ?_
              refine g_C ?_
              refine g_C ?_
              refine z_in (fun aw35 bw35 => ?_) (fun cw35 => ?_)
              · refine g_ifF (by omega) ?_
                refine g_C ?_
                refine g_C ?_
                refine g_C ?_
                refine z_in (fun aw36 bw36 => ?_) (fun cw36 => ?_)
                · refine g_ifF (by omega) ?_
                  refine g_C ?_
                  refine g_C ?_
                  refine g_C ?_
                  refine z_in (fun aw37 bw37 => ?_) (fun cw37 => ?_)
                  · refine g_ifT (by omega) ?_
                    refine ⟨hS.k336, ?_⟩
                    refine z_X12_fillsHours hS hm0 (by omega) (by omega) (fun m38 hm38 => ?_)
                    have zb39 := hm38.f_336_29
                    have zb40 := hm38.f_346_4
                    refine g_getr 27 349 rfl hS.k336 hm38.f_336_27 (by decide) ?_
                    refine g_C ?_
                    refine ⟨hS.k336, ?_⟩
                    refine u_X12_jugOf ?_
                    refine g_getr 20 346 rfl hS.k336 hm38.f_336_20 (by decide) ?_
                    refine g_C ?_
                    refine g_C ?_
                    refine g_M (by omega) (by omega) ?_
                    refine g_A (by omega) (by omega) ?_
                    refine g_A (by omega) (by omega) ?_
                    refine g_ld (0) (5) hS.k346 hS.l346 (by omega) (by omega) (fam_346_35_4_0_3 hm38 (a := u1) (by omega) (by omega) (by omega)) (fun v41 ev41 bv41 cv41 => ?_)
                    refine g_ld (0) (99) hS.k349 hS.l349 (by omega) (by omega) (hm38.a_349 (by omega) (by omega)) (fun v42 ev42 bv42 cv42 => ?_)
                    refine g_C ?_
                    refine g_if (fun w43 => ?_) (fun w43 => ?_)
                    · refine g_C ?_
                      refine ⟨hS.k336, ?_⟩
                      refine u_X12_jugOf ?_
                      refine g_getr 20 346 rfl hS.k336 hm38.f_336_20 (by decide) ?_
                      refine g_C ?_
                      refine g_C ?_
                      refine g_M (by omega) (by omega) ?_
                      refine g_A (by omega) (by omega) ?_
                      refine g_A (by omega) (by omega) ?_
                      refine g_ld (0) (5) hS.k346 hS.l346 (by omega) (by omega) (fam_346_35_4_0_3 hm38 (a := u1) (by omega) (by omega) (by omega)) (fun v44 ev44 bv44 cv44 => ?_)
                      have qv44 : v44 = v41 := ev44.trans ev41.symm
                      refine ⟨hS.k336, ?_⟩
                      refine z_X12_fillsRoads hS hm38 (by omega) (by omega) (by omega) (by omega) (fun m45 hm45 => ?_)
                      have zb46 := hm45.f_336_29
                      have zb47 := hm45.f_346_4
                      refine g_get 29 (0) (6) rfl hS.k336 hm45.f_336_29 (fun v48 ev48 bv48 cv48 => ?_)
                      have qv48 : v48 = (m45 336 29) := ev48.trans (Eq.refl (m45 336 29)).symm
                      refine g_if (fun w49 => ?_) (fun w49 => ?_)
                      · refine u_X12_relay_120 ?_
                        refine g_C ?_
                        refine g_C ?_
                        refine g_C ?_
                        refine g_C ?_
                        have L_n_l650 : ∀ (n_l650 : Nat) (u55 : Int) (u56 : Int) (u57 : Int) (u58 : Int) (m59 : Mm), Inv X S m59 → (-2147483648) ≤ u55 → u55 ≤ 2147483647 → (-1) ≤ u56 → u56 ≤ 65536 → (-2147483648) ≤ u57 → u57 ≤ 2147483647 → 0 ≤ u58 → u58 ≤ 15625 → (m59 336 29 = 0 ∨ 1 ≤ m59 346 4) → 15626 - u58 ≤ (n_l650 : Int) → wp_X12_relay_132 S K n_l650 336 u1 u3 u4 u5 u55 u56 u57 u58 m59 := by
                          intro n_l650
                          induction n_l650 with
                          | zero => intro u55 u56 u57 u58 m59 hm59 bu55 cu55 bu56 cu56 bu57 cu57 bu58 cu58 xn_l650_0 zn_l650; exfalso; omega
                          | succ n_l650 ih_n_l650 =>
                            intro u55 u56 u57 u58 m59 hm59 bu55 cu55 bu56 cu56 bu57 cu57 bu58 cu58 xn_l650_0 zn_l650
                            refine u_X12_relay_132 ?_
                            refine g_getr 20 346 rfl hS.k336 hm59.f_336_20 (by decide) ?_
                            refine g_C ?_
                            refine g_ld (0) (5) hS.k346 hS.l346 (by omega) (by omega) (hm59.f_346_4) (fun v651 ev651 bv651 cv651 => ?_)
                            have qv651 : v651 = (m0 346 4) := (ev651.trans (hm59.g (by decide))).trans (((Eq.refl (m0 346 4)).trans (hm0.g (by decide))).symm)
                            refine g_get 29 (0) (6) rfl hS.k336 hm59.f_336_29 (fun v652 ev652 bv652 cv652 => ?_)
                            have zb653 := hm59.f_336_29
                            have zb655 := hm59.f_346_4
                            refine z_X12_power hS hm59 (by omega) (by omega) (by omega) (by omega) (by omega) (fun v656 bv656 cv656 => ?_)
                            refine g_if (fun w657 => ?_) (fun w657 => ?_)
                            · refine g_C ?_
                              refine g_if (fun w658 => ?_) (fun w658 => ?_)
                              · refine g_if (fun w659 => ?_) (fun w659 => ?_)
                                · refine u_X12_relay_250 ?_
                                  refine g_C ?_
                                  have zb660 := hm59.f_336_29
                                  have zb662 := hm59.f_346_4
                                  exact hk (-2) m59 hm59 (by omega) (by omega)
                                · refine g_C ?_
                                  refine g_S (by omega) (by omega) ?_
                                  refine g_get 29 (0) (6) rfl hS.k336 hm59.f_336_29 (fun v663 ev663 bv663 cv663 => ?_)
                                  have qv663 : v663 = v652 := ev663.trans ev652.symm
                                  refine g_if (fun w664 => ?_) (fun w664 => ?_)
                                  · refine g_C ?_
                                    refine g_S (by omega) (by omega) ?_
                                    refine ⟨hS.k336, ?_⟩
                                    refine u_X12_handIn ?_
                                    refine g_getr 20 346 rfl hS.k336 hm59.f_336_20 (by decide) ?_
                                    refine g_C ?_
                                    refine g_ld (0) (5) hS.k346 hS.l346 (by omega) (by omega) (hm59.f_346_4) (fun v665 ev665 bv665 cv665 => ?_)
                                    have qv665 : v665 = (m0 346 4) := (ev665.trans (hm59.g (by decide))).trans (((Eq.refl (m0 346 4)).trans (hm0.g (by decide))).symm)
                                    refine g_get 29 (0) (6) rfl hS.k336 hm59.f_336_29 (fun v666 ev666 bv666 cv666 => ?_)
                                    have qv666 : v666 = v652 := ev666.trans ev652.symm
                                    refine g_C ?_
                                    refine g_S (by omega) (by omega) ?_
                                    refine g_S (by omega) (by omega) ?_
                                    have zb667 := hm59.f_336_29
                                    have zb669 := hm59.f_346_4
                                    refine z_X12_power hS hm59 (by omega) (by omega) (by omega) (by omega) (by omega) (fun v670 bv670 cv670 => ?_)
                                    refine g_iDiv (by omega) (by omega) (by omega) (by omega) (fun v671 bv671 cv671 => ?_)
                                    refine g_getr 20 346 rfl hS.k336 hm59.f_336_20 (by decide) ?_
                                    refine g_C ?_
                                    refine g_ld (0) (5) hS.k346 hS.l346 (by omega) (by omega) (hm59.f_346_4) (fun v672 ev672 bv672 cv672 => ?_)
                                    have qv672 : v672 = (m0 346 4) := (ev672.trans (hm59.g (by decide))).trans (((Eq.refl (m0 346 4)).trans (hm0.g (by decide))).symm)
                                    refine g_iRem (by omega) (by omega) (by omega) (by omega) (fun v673 bv673 cv673 => ?_)
                                    have zb674 := hm59.f_336_29
                                    have zb676 := hm59.f_346_4
                                    exact hk v673 m59 hm59 (by omega) (by omega)
                                  · refine u_X12_relay_250 ?_
                                    refine g_C ?_
                                    have zb677 := hm59.f_336_29
                                    have zb679 := hm59.f_346_4
                                    exact hk (-2) m59 hm59 (by omega) (by omega)
                              · refine g_if (fun w680 => ?_) (fun w680 => ?_)
                                · have zb681 := hm59.f_336_29
                                  have zb683 := hm59.f_346_4
                                  exact hk u57 m59 hm59 (by omega) (by omega)
                                · have zb684 := hm59.f_336_29
                                  have zb686 := hm59.f_346_4
                                  exact hk u55 m59 hm59 (by omega) (by omega)
                            · refine ⟨hS.k336, ?_⟩
                              have zb687 := hm59.f_336_29
                              have zb689 := hm59.f_346_4
                              refine z_X12_turnedByRow hS hm59 (by omega) (by omega) (by omega) (by omega) (by omega) (fun v690 m691 hm691 fm691 bv690 cv690 => ?_)
                              have zb692 := hm691.f_336_29
                              have zb693 := hm691.f_346_4
                              refine g_if (fun w694 => ?_) (fun w694 => ?_)
                              · refine u_X12_relay_171 ?_
                                refine u_X12_relay_178 ?_
                                refine g_C ?_
                                refine g_C ?_
                                refine g_C ?_
                                refine z_in (fun aw695 bw695 => ?_) (fun cw695 => ?_)
                                · refine g_ifT (by omega) ?_
                                  refine g_if (fun w696 => ?_) (fun w696 => ?_)
                                  · refine u_X12_relay_206 ?_
                                    refine g_Aw (fun v697 bv697 cv697 => ?_)
                                    refine u_X12_relay_209 ?_
                                    refine g_A (by omega) (by omega) ?_
                                    have zb698 := hm691.f_336_29
                                    have q699 : m691 336 29 = v652 := (Eq.refl (m691 336 29)).trans ((fm691 _ _ (by omega)).trans ev652.symm)
                                    have zb700 := hm691.f_346_4
                                    exact ih_n_l650 v697 u56 v690 (u58 + 1) m691 hm691 (by omega) (by omega) (by omega) (by omega) (by omega) (by omega) (by omega) (by omega) (by omega) (by omega)
                                  · refine u_X12_relay_206 ?_
                                    refine g_A (by omega) (by omega) ?_
                                    refine u_X12_relay_209 ?_
                                    refine g_A (by omega) (by omega) ?_
                                    have zb701 := hm691.f_336_29
                                    have q702 : m691 336 29 = v652 := (Eq.refl (m691 336 29)).trans ((fm691 _ _ (by omega)).trans ev652.symm)
                                    have zb703 := hm691.f_346_4
                                    exact ih_n_l650 (u55 + 1) u58 v690 (u58 + 1) m691 hm691 (by omega) (by omega) (by omega) (by omega) (by omega) (by omega) (by omega) (by omega) (by omega) (by omega)
                                · refine g_ifF (by omega) ?_
                                  refine u_X12_relay_209 ?_
                                  refine g_A (by omega) (by omega) ?_
                                  have zb704 := hm691.f_336_29
                                  have q705 : m691 336 29 = v652 := (Eq.refl (m691 336 29)).trans ((fm691 _ _ (by omega)).trans ev652.symm)
                                  have zb706 := hm691.f_346_4
                                  exact ih_n_l650 u55 u56 v690 (u58 + 1) m691 hm691 (by omega) (by omega) (by omega) (by omega) (by omega) (by omega) (by omega) (by omega) (by omega) (by omega)
                              · refine g_if (fun w707 => ?_) (fun w707 => ?_)
                                · refine u_X12_relay_178 ?_
                                  refine g_C ?_
                                  refine g_C ?_
                                  refine g_C ?_
                                  refine z_in (fun aw708 bw708 => ?_) (fun cw708 => ?_)
                                  · refine g_ifT (by omega) ?_
                                    refine g_if (fun w709 => ?_) (fun w709 => ?_)
                                    · refine u_X12_relay_206 ?_
                                      refine g_Aw (fun v710 bv710 cv710 => ?_)
                                      refine u_X12_relay_209 ?_
                                      refine g_A (by omega) (by omega) ?_
                                      have zb711 := hm691.f_336_29
                                      have q712 : m691 336 29 = v652 := (Eq.refl (m691 336 29)).trans ((fm691 _ _ (by omega)).trans ev652.symm)
                                      have zb713 := hm691.f_346_4
                                      exact ih_n_l650 v710 u56 u57 (u58 + 1) m691 hm691 (by omega) (by omega) (by omega) (by omega) (by omega) (by omega) (by omega) (by omega) (by omega) (by omega)
                                    · refine u_X12_relay_206 ?_
                                      refine g_A (by omega) (by omega) ?_
                                      refine u_X12_relay_209 ?_
                                      refine g_A (by omega) (by omega) ?_
                                      have zb714 := hm691.f_336_29
                                      have q715 : m691 336 29 = v652 := (Eq.refl (m691 336 29)).trans ((fm691 _ _ (by omega)).trans ev652.symm)
                                      have zb716 := hm691.f_346_4
                                      exact ih_n_l650 (u55 + 1) u58 u57 (u58 + 1) m691 hm691 (by omega) (by omega) (by omega) (by omega) (by omega) (by omega) (by omega) (by omega) (by omega) (by omega)
                                  · refine g_ifF (by omega) ?_
                                    refine u_X12_relay_209 ?_
                                    refine g_A (by omega) (by omega) ?_
                                    have zb717 := hm691.f_336_29
                                    have q718 : m691 336 29 = v652 := (Eq.refl (m691 336 29)).trans ((fm691 _ _ (by omega)).trans ev652.symm)
                                    have zb719 := hm691.f_346_4
                                    exact ih_n_l650 u55 u56 u57 (u58 + 1) m691 hm691 (by omega) (by omega) (by omega) (by omega) (by omega) (by omega) (by omega) (by omega) (by omega) (by omega)
                                · refine u_X12_relay_171 ?_
                                  refine u_X12_relay_178 ?_
                                  refine g_C ?_
                                  refine g_C ?_
                                  refine g_C ?_
                                  refine z_in (fun aw720 bw720 => ?_) (fun cw720 => ?_)
                                  · refine g_ifT (by omega) ?_
                                    refine g_if (fun w721 => ?_) (fun w721 => ?_)
                                    · refine u_X12_relay_206 ?_
                                      refine g_Aw (fun v722 bv722 cv722 => ?_)
                                      refine u_X12_relay_209 ?_
                                      refine g_A (by omega) (by omega) ?_
                                      have zb723 := hm691.f_336_29
                                      have q724 : m691 336 29 = v652 := (Eq.refl (m691 336 29)).trans ((fm691 _ _ (by omega)).trans ev652.symm)
                                      have zb725 := hm691.f_346_4
                                      exact ih_n_l650 v722 u56 v690 (u58 + 1) m691 hm691 (by omega) (by omega) (by omega) (by omega) (by omega) (by omega) (by omega) (by omega) (by omega) (by omega)
                                    · refine u_X12_relay_206 ?_
                                      refine g_A (by omega) (by omega) ?_
                                      refine u_X12_relay_209 ?_
                                      refine g_A (by omega) (by omega) ?_
                                      have zb726 := hm691.f_336_29
                                      have q727 : m691 336 29 = v652 := (Eq.refl (m691 336 29)).trans ((fm691 _ _ (by omega)).trans ev652.symm)
                                      have zb728 := hm691.f_346_4
                                      exact ih_n_l650 (u55 + 1) u58 v690 (u58 + 1) m691 hm691 (by omega) (by omega) (by omega) (by omega) (by omega) (by omega) (by omega) (by omega) (by omega) (by omega)
                                  · refine g_ifF (by omega) ?_
                                    refine u_X12_relay_209 ?_
                                    refine g_A (by omega) (by omega) ?_
                                    have zb729 := hm691.f_336_29
                                    have q730 : m691 336 29 = v652 := (Eq.refl (m691 336 29)).trans ((fm691 _ _ (by omega)).trans ev652.symm)
                                    have zb731 := hm691.f_346_4
                                    exact ih_n_l650 u55 u56 v690 (u58 + 1) m691 hm691 (by omega) (by omega) (by omega) (by omega) (by omega) (by omega) (by omega) (by omega) (by omega) (by omega)
                        have zb732 := hm45.f_336_29
                        have zb734 := hm45.f_346_4
                        exact ⟨15626, L_n_l650 15626 0 (-1) (-1) 0 m45 hm45 (by omega) (by omega) (by omega) (by omega) (by omega) (by omega) (by omega) (by omega) (by omega) (by omega)⟩
                      · refine g_getr 20 346 rfl hS.k336 hm45.f_336_20 (by decide) ?_
                        refine g_C ?_
                        refine g_ld (0) (5) hS.k346 hS.l346 (by omega) (by omega) (hm45.f_346_4) (fun v735 ev735 bv735 cv735 => ?_)
                        have qv735 : v735 = (m0 346 4) := (ev735.trans (hm45.g (by decide))).trans (((Eq.refl (m0 346 4)).trans (hm0.g (by decide))).symm)
                        refine g_if (fun w736 => ?_) (fun w736 => ?_)
                        · refine u_X12_relay_120 ?_
                          refine g_C ?_
                          refine g_C ?_
                          refine g_C ?_
                          refine g_C ?_
                          have L_n_l1337 : ∀ (n_l1337 : Nat) (u742 : Int) (u743 : Int) (u744 : Int) (u745 : Int) (m746 : Mm), Inv X S m746 → (-2147483648) ≤ u742 → u742 ≤ 2147483647 → (-1) ≤ u743 → u743 ≤ 65536 → (-2147483648) ≤ u744 → u744 ≤ 2147483647 → 0 ≤ u745 → u745 ≤ 15625 → (m746 336 29 = 0 ∨ 1 ≤ m746 346 4) → 15626 - u745 ≤ (n_l1337 : Int) → wp_X12_relay_132 S K n_l1337 336 u1 u3 u4 u5 u742 u743 u744 u745 m746 := by
                            intro n_l1337
                            induction n_l1337 with
                            | zero => intro u742 u743 u744 u745 m746 hm746 bu742 cu742 bu743 cu743 bu744 cu744 bu745 cu745 xn_l1337_0 zn_l1337; exfalso; omega
                            | succ n_l1337 ih_n_l1337 =>
                              intro u742 u743 u744 u745 m746 hm746 bu742 cu742 bu743 cu743 bu744 cu744 bu745 cu745 xn_l1337_0 zn_l1337
                              refine u_X12_relay_132 ?_
                              refine g_getr 20 346 rfl hS.k336 hm746.f_336_20 (by decide) ?_
                              refine g_C ?_
                              refine g_ld (0) (5) hS.k346 hS.l346 (by omega) (by omega) (hm746.f_346_4) (fun v1338 ev1338 bv1338 cv1338 => ?_)
                              have qv1338 : v1338 = (m0 346 4) := (ev1338.trans (hm746.g (by decide))).trans (((Eq.refl (m0 346 4)).trans (hm0.g (by decide))).symm)
                              refine g_get 29 (0) (6) rfl hS.k336 hm746.f_336_29 (fun v1339 ev1339 bv1339 cv1339 => ?_)
                              have zb1340 := hm746.f_336_29
                              have zb1342 := hm746.f_346_4
                              refine z_X12_power hS hm746 (by omega) (by omega) (by omega) (by omega) (by omega) (fun v1343 bv1343 cv1343 => ?_)
                              refine g_if (fun w1344 => ?_) (fun w1344 => ?_)
                              · refine g_C ?_
                                refine g_if (fun w1345 => ?_) (fun w1345 => ?_)
                                · refine g_if (fun w1346 => ?_) (fun w1346 => ?_)
                                  · refine u_X12_relay_250 ?_
                                    refine g_C ?_
                                    have zb1347 := hm746.f_336_29
                                    have zb1349 := hm746.f_346_4
                                    exact hk (-2) m746 hm746 (by omega) (by omega)
                                  · refine g_C ?_
                                    refine g_S (by omega) (by omega) ?_
                                    refine g_get 29 (0) (6) rfl hS.k336 hm746.f_336_29 (fun v1350 ev1350 bv1350 cv1350 => ?_)
                                    have qv1350 : v1350 = v1339 := ev1350.trans ev1339.symm
                                    refine g_if (fun w1351 => ?_) (fun w1351 => ?_)
                                    · refine g_C ?_
                                      refine g_S (by omega) (by omega) ?_
                                      refine ⟨hS.k336, ?_⟩
                                      refine u_X12_handIn ?_
                                      refine g_getr 20 346 rfl hS.k336 hm746.f_336_20 (by decide) ?_
                                      refine g_C ?_
                                      refine g_ld (0) (5) hS.k346 hS.l346 (by omega) (by omega) (hm746.f_346_4) (fun v1352 ev1352 bv1352 cv1352 => ?_)
                                      have qv1352 : v1352 = (m0 346 4) := (ev1352.trans (hm746.g (by decide))).trans (((Eq.refl (m0 346 4)).trans (hm0.g (by decide))).symm)
                                      refine g_get 29 (0) (6) rfl hS.k336 hm746.f_336_29 (fun v1353 ev1353 bv1353 cv1353 => ?_)
                                      have qv1353 : v1353 = v1339 := ev1353.trans ev1339.symm
                                      refine g_C ?_
                                      refine g_S (by omega) (by omega) ?_
                                      refine g_S (by omega) (by omega) ?_
                                      have zb1354 := hm746.f_336_29
                                      have zb1356 := hm746.f_346_4
                                      refine z_X12_power hS hm746 (by omega) (by omega) (by omega) (by omega) (by omega) (fun v1357 bv1357 cv1357 => ?_)
                                      refine g_iDiv (by omega) (by omega) (by omega) (by omega) (fun v1358 bv1358 cv1358 => ?_)
                                      refine g_getr 20 346 rfl hS.k336 hm746.f_336_20 (by decide) ?_
                                      refine g_C ?_
                                      refine g_ld (0) (5) hS.k346 hS.l346 (by omega) (by omega) (hm746.f_346_4) (fun v1359 ev1359 bv1359 cv1359 => ?_)
                                      have qv1359 : v1359 = (m0 346 4) := (ev1359.trans (hm746.g (by decide))).trans (((Eq.refl (m0 346 4)).trans (hm0.g (by decide))).symm)
                                      refine g_iRem (by omega) (by omega) (by omega) (by omega) (fun v1360 bv1360 cv1360 => ?_)
                                      have zb1361 := hm746.f_336_29
                                      have zb1363 := hm746.f_346_4
                                      exact hk v1360 m746 hm746 (by omega) (by omega)
                                    · refine u_X12_relay_250 ?_
                                      refine g_C ?_
                                      have zb1364 := hm746.f_336_29
                                      have zb1366 := hm746.f_346_4
                                      exact hk (-2) m746 hm746 (by omega) (by omega)
                                · refine g_if (fun w1367 => ?_) (fun w1367 => ?_)
                                  · have zb1368 := hm746.f_336_29
                                    have zb1370 := hm746.f_346_4
                                    exact hk u744 m746 hm746 (by omega) (by omega)
                                  · have zb1371 := hm746.f_336_29
                                    have zb1373 := hm746.f_346_4
                                    exact hk u742 m746 hm746 (by omega) (by omega)
                              · refine ⟨hS.k336, ?_⟩
                                have zb1374 := hm746.f_336_29
                                have zb1376 := hm746.f_346_4
                                refine z_X12_turnedByRow hS hm746 (by omega) (by omega) (by omega) (by omega) (by omega) (fun v1377 m1378 hm1378 fm1378 bv1377 cv1377 => ?_)
                                have zb1379 := hm1378.f_336_29
                                have zb1380 := hm1378.f_346_4
                                refine g_if (fun w1381 => ?_) (fun w1381 => ?_)
                                · refine u_X12_relay_171 ?_
                                  refine u_X12_relay_178 ?_
                                  refine g_C ?_
                                  refine g_C ?_
                                  refine g_C ?_
                                  refine z_in (fun aw1382 bw1382 => ?_) (fun cw1382 => ?_)
                                  · refine g_ifT (by omega) ?_
                                    refine g_if (fun w1383 => ?_) (fun w1383 => ?_)
                                    · refine u_X12_relay_206 ?_
                                      refine g_Aw (fun v1384 bv1384 cv1384 => ?_)
                                      refine u_X12_relay_209 ?_
                                      refine g_A (by omega) (by omega) ?_
                                      have zb1385 := hm1378.f_336_29
                                      have q1386 : m1378 336 29 = v1339 := (Eq.refl (m1378 336 29)).trans ((fm1378 _ _ (by omega)).trans ev1339.symm)
                                      have zb1387 := hm1378.f_346_4
                                      exact ih_n_l1337 v1384 u743 v1377 (u745 + 1) m1378 hm1378 (by omega) (by omega) (by omega) (by omega) (by omega) (by omega) (by omega) (by omega) (by omega) (by omega)
                                    · refine u_X12_relay_206 ?_
                                      refine g_A (by omega) (by omega) ?_
                                      refine u_X12_relay_209 ?_
                                      refine g_A (by omega) (by omega) ?_
                                      have zb1388 := hm1378.f_336_29
                                      have q1389 : m1378 336 29 = v1339 := (Eq.refl (m1378 336 29)).trans ((fm1378 _ _ (by omega)).trans ev1339.symm)
                                      have zb1390 := hm1378.f_346_4
                                      exact ih_n_l1337 (u742 + 1) u745 v1377 (u745 + 1) m1378 hm1378 (by omega) (by omega) (by omega) (by omega) (by omega) (by omega) (by omega) (by omega) (by omega) (by omega)
                                  · refine g_ifF (by omega) ?_
                                    refine u_X12_relay_209 ?_
                                    refine g_A (by omega) (by omega) ?_
                                    have zb1391 := hm1378.f_336_29
                                    have q1392 : m1378 336 29 = v1339 := (Eq.refl (m1378 336 29)).trans ((fm1378 _ _ (by omega)).trans ev1339.symm)
                                    have zb1393 := hm1378.f_346_4
                                    exact ih_n_l1337 u742 u743 v1377 (u745 + 1) m1378 hm1378 (by omega) (by omega) (by omega) (by omega) (by omega) (by omega) (by omega) (by omega) (by omega) (by omega)
                                · refine g_if (fun w1394 => ?_) (fun w1394 => ?_)
                                  · refine u_X12_relay_178 ?_
                                    refine g_C ?_
                                    refine g_C ?_
                                    refine g_C ?_
                                    refine z_in (fun aw1395 bw1395 => ?_) (fun cw1395 => ?_)
                                    · refine g_ifT (by omega) ?_
                                      refine g_if (fun w1396 => ?_) (fun w1396 => ?_)
                                      · refine u_X12_relay_206 ?_
                                        refine g_Aw (fun v1397 bv1397 cv1397 => ?_)
                                        refine u_X12_relay_209 ?_
                                        refine g_A (by omega) (by omega) ?_
                                        have zb1398 := hm1378.f_336_29
                                        have q1399 : m1378 336 29 = v1339 := (Eq.refl (m1378 336 29)).trans ((fm1378 _ _ (by omega)).trans ev1339.symm)
                                        have zb1400 := hm1378.f_346_4
                                        exact ih_n_l1337 v1397 u743 u744 (u745 + 1) m1378 hm1378 (by omega) (by omega) (by omega) (by omega) (by omega) (by omega) (by omega) (by omega) (by omega) (by omega)
                                      · refine u_X12_relay_206 ?_
                                        refine g_A (by omega) (by omega) ?_
                                        refine u_X12_relay_209 ?_
                                        refine g_A (by omega) (by omega) ?_
                                        have zb1401 := hm1378.f_336_29
                                        have q1402 : m1378 336 29 = v1339 := (Eq.refl (m1378 336 29)).trans ((fm1378 _ _ (by omega)).trans ev1339.symm)
                                        have zb1403 := hm1378.f_346_4
                                        exact ih_n_l1337 (u742 + 1) u745 u744 (u745 + 1) m1378 hm1378 (by omega) (by omega) (by omega) (by omega) (by omega) (by omega) (by omega) (by omega) (by omega) (by omega)
                                    · refine g_ifF (by omega) ?_
                                      refine u_X12_relay_209 ?_
                                      refine g_A (by omega) (by omega) ?_
                                      have zb1404 := hm1378.f_336_29
                                      have q1405 : m1378 336 29 = v1339 := (Eq.refl (m1378 336 29)).trans ((fm1378 _ _ (by omega)).trans ev1339.symm)
                                      have zb1406 := hm1378.f_346_4
                                      exact ih_n_l1337 u742 u743 u744 (u745 + 1) m1378 hm1378 (by omega) (by omega) (by omega) (by omega) (by omega) (by omega) (by omega) (by omega) (by omega) (by omega)
                                  · refine u_X12_relay_171 ?_
                                    refine u_X12_relay_178 ?_
                                    refine g_C ?_
                                    refine g_C ?_
                                    refine g_C ?_
                                    refine z_in (fun aw1407 bw1407 => ?_) (fun cw1407 => ?_)
                                    · refine g_ifT (by omega) ?_
                                      refine g_if (fun w1408 => ?_) (fun w1408 => ?_)
                                      · refine u_X12_relay_206 ?_
                                        refine g_Aw (fun v1409 bv1409 cv1409 => ?_)
                                        refine u_X12_relay_209 ?_
                                        refine g_A (by omega) (by omega) ?_
                                        have zb1410 := hm1378.f_336_29
                                        have q1411 : m1378 336 29 = v1339 := (Eq.refl (m1378 336 29)).trans ((fm1378 _ _ (by omega)).trans ev1339.symm)
                                        have zb1412 := hm1378.f_346_4
                                        exact ih_n_l1337 v1409 u743 v1377 (u745 + 1) m1378 hm1378 (by omega) (by omega) (by omega) (by omega) (by omega) (by omega) (by omega) (by omega) (by omega) (by omega)
                                      · refine u_X12_relay_206 ?_
                                        refine g_A (by omega) (by omega) ?_
                                        refine u_X12_relay_209 ?_
                                        refine g_A (by omega) (by omega) ?_
                                        have zb1413 := hm1378.f_336_29
                                        have q1414 : m1378 336 29 = v1339 := (Eq.refl (m1378 336 29)).trans ((fm1378 _ _ (by omega)).trans ev1339.symm)
                                        have zb1415 := hm1378.f_346_4
                                        exact ih_n_l1337 (u742 + 1) u745 v1377 (u745 + 1) m1378 hm1378 (by omega) (by omega) (by omega) (by omega) (by omega) (by omega) (by omega) (by omega) (by omega) (by omega)
                                    · refine g_ifF (by omega) ?_
                                      refine u_X12_relay_209 ?_
                                      refine g_A (by omega) (by omega) ?_
                                      have zb1416 := hm1378.f_336_29
                                      have q1417 : m1378 336 29 = v1339 := (Eq.refl (m1378 336 29)).trans ((fm1378 _ _ (by omega)).trans ev1339.symm)
                                      have zb1418 := hm1378.f_346_4
                                      exact ih_n_l1337 u742 u743 v1377 (u745 + 1) m1378 hm1378 (by omega) (by omega) (by omega) (by omega) (by omega) (by omega) (by omega) (by omega) (by omega) (by omega)
                          have zb1419 := hm45.f_336_29
                          have zb1421 := hm45.f_346_4
                          exact ⟨15626, L_n_l1337 15626 0 (-1) (-1) 0 m45 hm45 (by omega) (by omega) (by omega) (by omega) (by omega) (by omega) (by omega) (by omega) (by omega) (by omega)⟩
                        · refine g_C ?_
                          have zb1422 := hm45.f_336_29
                          have zb1424 := hm45.f_346_4
                          exact hk (-2) m45 hm45 (by omega) (by omega)
                    · refine g_C ?_
                      have zb1425 := hm38.f_336_29
                      have zb1427 := hm38.f_346_4
                      exact hk (-2) m38 hm38 (by omega) (by omega)
                  · refine g_ifF (by omega) ?_
                    refine g_C ?_
                    have zb1428 := hm0.f_336_29
                    have zb1430 := hm0.f_346_4
                    exact hk (-3) m0 hm0 (by omega) (by omega)
                · refine g_ifT (by omega) ?_
                  refine g_C ?_
                  have zb1432 := hm0.f_336_29
                  have zb1434 := hm0.f_346_4
                  exact hk (-3) m0 hm0 (by omega) (by omega)
              · refine g_ifT (by omega) ?_
                refine g_C ?_
                have zb1436 := hm0.f_336_29
                have zb1438 := hm0.f_346_4
                exact hk (-3) m0 hm0 (by omega) (by omega)
