theorem z_X11_dairy {X : Mm} {S : Sh} {m0 : Mm} {K : Int → Mm → Prop} (hS : Shp S) (hm0 : Inv X S m0)  (hk : ∀ (r : Int) (M1 : Mm), Inv X S M1 → (-4002) ≤ r → r ≤ 4 → K r M1) : wp_X11_dairy S m0 0 K := by
  refine u_X11_dairy ?_
  refine g_getr 8 31 rfl hS.k0 hm0.f_0_8 (by decide) ?_
  refine ⟨hS.k31, ?_⟩
  refine z_X0_read hS hm0 (fun v1 m2 hm2 bv1 cv1 => ?_)
  refine g_getr 0 1 rfl hS.k0 hm2.f_0_0 (by decide) ?_
  refine g_C ?_
  refine g_put 1 rfl hS.k1 (hm2.w_1_1 (by omega) (by omega)) (fun m3 em3 hm3 => ?_)
  refine g_if (fun w4 => ?_) (fun w4 => ?_)
  · refine g_getr 1 3 rfl hS.k0 hm3.f_0_1 (by decide) ?_
    refine g_getr 0 4 rfl hS.k3 hm3.f_3_0 (by decide) ?_
    refine g_getr 8 31 rfl hS.k0 hm3.f_0_8 (by decide) ?_
    refine g_getr 1 32 rfl hS.k31 hm3.f_31_1 (by decide) ?_
    refine ⟨hS.k4, ?_⟩
    refine z_X8_become hS hm3 (by decide) (by decide) (fun m5 hm5 => ?_)
    refine g_getr 1 3 rfl hS.k0 hm5.f_0_1 (by decide) ?_
    refine g_getr 1 16 rfl hS.k3 hm5.f_3_1 (by decide) ?_
    refine g_getr 8 31 rfl hS.k0 hm5.f_0_8 (by decide) ?_
    refine g_getr 2 44 rfl hS.k31 hm5.f_31_2 (by decide) ?_
    refine ⟨hS.k16, ?_⟩
    refine z_X5_become hS hm5 (by decide) (by decide) (fun m6 hm6 => ?_)
    refine g_getr 1 3 rfl hS.k0 hm6.f_0_1 (by decide) ?_
    refine g_C ?_
    refine g_put 4 rfl hS.k3 (hm6.w_3_4 (by omega) (by omega)) (fun m7 em7 hm7 => ?_)
    refine g_C ?_
    refine g_put 5 rfl hS.k0 (hm7.w_0_5 (by omega) (by omega)) (fun m8 em8 hm8 => ?_)
    refine g_getr 1 3 rfl hS.k0 hm8.f_0_1 (by decide) ?_
    refine g_getr 0 4 rfl hS.k3 hm8.f_3_0 (by decide) ?_
    refine g_get 5 (0) (4) rfl hS.k4 hm8.f_4_5 (fun v9 ev9 bv9 cv9 => ?_)
    exact hk v9 m8 hm8 (by omega) (by omega)
  · refine g_C ?_
    refine g_getr 0 1 rfl hS.k0 hm3.f_0_0 (by decide) ?_
    refine g_get 4 (0) (4000) rfl hS.k1 hm3.f_1_4 (fun v10 ev10 bv10 cv10 => ?_)
    refine g_S (by omega) (by omega) ?_
    exact hk ((-2) - v10) m3 hm3 (by omega) (by omega)
theorem z_X11_enforce {X : Mm} {S : Sh} {m0 : Mm} {K : Mm → Prop} (hS : Shp S) (hm0 : Inv X S m0)  (hk : ∀ (M1 : Mm), Inv X S M1 → K M1) : wp_X11_enforce S m0 0 K := by
  refine u_X11_enforce ?_
  refine g_getr 1 3 rfl hS.k0 hm0.f_0_1 (by decide) ?_
  refine g_get 2 (-1) (5) rfl hS.k3 hm0.f_3_2 (fun v1 ev1 bv1 cv1 => ?_)
  refine g_if (fun w2 => ?_) (fun w2 => ?_)
  · refine u_X11_enforce_26 ?_
    refine g_C ?_
    refine u_X11_enforce_27 ?_
    refine g_getr 10 55 rfl hS.k0 hm0.f_0_10 (by decide) ?_
    refine g_ifT (by omega) ?_
    refine g_C ?_
    refine g_putr 1 rfl hS.k55 (rowv_ne (S := S) (Or.inl rfl)) (hm0.wrow55 (Or.inl rfl)) (fun m3 em3 hm3 => ?_)
    exact hk m3 hm3
  · refine g_getr 1 3 rfl hS.k0 hm0.f_0_1 (by decide) ?_
    refine g_get 2 (-1) (5) rfl hS.k3 hm0.f_3_2 (fun v4 ev4 bv4 cv4 => ?_)
    have qv4 : v4 = v1 := ev4.trans ev1.symm
    refine g_C ?_
    refine g_ifF (by omega) ?_
    refine g_C ?_
    refine u_X11_enforce_27 ?_
    refine g_getr 10 55 rfl hS.k0 hm0.f_0_10 (by decide) ?_
    refine g_ifF (by omega) ?_
    refine g_getr 6 30 rfl hS.k0 hm0.f_0_6 (by decide) ?_
    refine g_getr 1 3 rfl hS.k0 hm0.f_0_1 (by decide) ?_
    refine g_get 2 (-1) (5) rfl hS.k3 hm0.f_3_2 (fun v5 ev5 bv5 cv5 => ?_)
    have qv5 : v5 = v1 := ev5.trans ev1.symm
    refine g_ldr19 hS.k30 hS.l30 (by omega) (by omega) (hm0.row30 (by omega) (by omega)) (fun v6 hr_v6 => ?_)
    refine g_putr 1 rfl hS.k55 (rowv_ne (S := S) hr_v6) (hm0.wrow55 hr_v6) (fun m7 em7 hm7 => ?_)
    exact hk m7 hm7
theorem z_X7_add {X : Mm} {S : Sh} {m0 : Mm} {K : Mm → Prop} {u1 : Int} (hS : Shp S) (hm0 : Inv X S m0) (l_u1 : (-2147483648) ≤ u1) (h_u1 : u1 ≤ 2147483647) (hk : ∀ (M1 : Mm), Inv X S M1 → K M1) : wp_X7_add S m0 1 u1 K := by
  refine u_X7_add ?_
  refine g_C ?_
  have L_n_l46 : ∀ (n_l46 : Nat) (u3 : Int) (m4 : Mm), Inv X S m4 → (-8) ≤ u3 → u3 ≤ 24 → u3 - (-9) ≤ (n_l46 : Int) → wp_X7_add_3 S K n_l46 1 u1 u3 m4 := by
    intro n_l46
    induction n_l46 with
    | zero => intro u3 m4 hm4 bu3 cu3 zn_l46; exfalso; omega
    | succ n_l46 ih_n_l46 =>
      intro u3 m4 hm4 bu3 cu3 zn_l46
      refine u_X7_add_3 ?_
      refine g_if (fun w47 => ?_) (fun w47 => ?_)
      · exact hk m4 hm4
      · refine g_get 1 (0) (400) rfl hS.k1 hm4.f_1_1 (fun v48 ev48 bv48 cv48 => ?_)
        refine g_C ?_
        refine g_if (fun w49 => ?_) (fun w49 => ?_)
        · refine u_X7_add_40 ?_
          refine g_A (by omega) (by omega) ?_
          exact ih_n_l46 (u3 + (-8)) m4 hm4 (by omega) (by omega) (by omega)
        · refine g_getr 0 2 rfl hS.k1 hm4.f_1_0 (by decide) ?_
          refine g_get 1 (0) (400) rfl hS.k1 hm4.f_1_1 (fun v50 ev50 bv50 cv50 => ?_)
          have qv50 : v50 = v48 := ev50.trans ev48.symm
          refine g_o32 (fun v51 bv51 cv51 => ?_)
          refine g_i2b (fun v52 bv52 cv52 => ?_)
          refine g_stb hS.k2 hS.l2 (by omega) (by omega) (by omega) (hm4.wa_2 (by omega) (by omega) (by omega) (by omega)) (fun m53 em53 hm53 => ?_)
          refine g_get 1 (0) (400) rfl hS.k1 hm53.f_1_1 (fun v54 ev54 bv54 cv54 => ?_)
          have qv54 : v54 = v48 := ev54.trans ((congrFun (congrFun em53 _) _).trans ((up_ne (by omega)).trans ev48.symm))
          refine g_C ?_
          refine g_A (by omega) (by omega) ?_
          refine g_put 1 rfl hS.k1 (hm53.w_1_1 (by omega) (by omega)) (fun m55 em55 hm55 => ?_)
          refine u_X7_add_40 ?_
          refine g_A (by omega) (by omega) ?_
          exact ih_n_l46 (u3 + (-8)) m55 hm55 (by omega) (by omega) (by omega)
  exact ⟨33, L_n_l46 33 24 m0 hm0 (by omega) (by omega) (by omega)⟩
theorem z_X11_feed {X : Mm} {S : Sh} {m0 : Mm} {K : Int → Mm → Prop} {u1 u2 u3 u4 u5 : Int} (hS : Shp S) (hm0 : Inv X S m0) (l_u1 : (-2147483648) ≤ u1) (h_u1 : u1 ≤ 2147483647) (l_u2 : (-2147483648) ≤ u2) (h_u2 : u2 ≤ 2147483647) (l_u3 : (-2147483648) ≤ u3) (h_u3 : u3 ≤ 2147483647) (l_u4 : (-2147483648) ≤ u4) (h_u4 : u4 ≤ 2147483647) (l_u5 : (-2147483648) ≤ u5) (h_u5 : u5 ≤ 2147483647) (hk : ∀ (r : Int) (M1 : Mm), Inv X S M1 → (-1) ≤ r → r ≤ 400 → K r M1) : wp_X11_feed S m0 0 u1 u2 u3 u4 u5 K := by
  refine u_X11_feed ?_
  refine g_getr 0 1 rfl hS.k0 hm0.f_0_0 (by decide) ?_
  refine g_C ?_
  refine ⟨hS.k1, ?_⟩
  refine u_X7_hasRoomFor ?_
  refine g_get 1 (0) (400) rfl hS.k1 hm0.f_1_1 (fun v1 ev1 bv1 cv1 => ?_)
  refine g_A (by omega) (by omega) ?_
  refine g_C ?_
  refine g_if (fun w2 => ?_) (fun w2 => ?_)
  · refine g_C ?_
    refine ⟨by omega, ?_⟩
    refine g_ifF (by omega) ?_
    refine g_C ?_
    exact hk (-1) m0 hm0 (by omega) (by omega)
  · refine g_C ?_
    refine ⟨by omega, ?_⟩
    refine g_ifT (by omega) ?_
    refine g_getr 0 1 rfl hS.k0 hm0.f_0_0 (by decide) ?_
    refine ⟨hS.k1, ?_⟩
    refine z_X7_add hS hm0 (by omega) (by omega) (fun m3 hm3 => ?_)
    refine g_getr 0 1 rfl hS.k0 hm3.f_0_0 (by decide) ?_
    refine ⟨hS.k1, ?_⟩
    refine z_X7_add hS hm3 (by omega) (by omega) (fun m4 hm4 => ?_)
    refine g_getr 0 1 rfl hS.k0 hm4.f_0_0 (by decide) ?_
    refine ⟨hS.k1, ?_⟩
    refine z_X7_add hS hm4 (by omega) (by omega) (fun m5 hm5 => ?_)
    refine g_getr 0 1 rfl hS.k0 hm5.f_0_0 (by decide) ?_
    refine ⟨hS.k1, ?_⟩
    refine z_X7_add hS hm5 (by omega) (by omega) (fun m6 hm6 => ?_)
    refine g_getr 0 1 rfl hS.k0 hm6.f_0_0 (by decide) ?_
    refine ⟨hS.k1, ?_⟩
    refine z_X7_add hS hm6 (by omega) (by omega) (fun m7 hm7 => ?_)
    refine g_getr 0 1 rfl hS.k0 hm7.f_0_0 (by decide) ?_
    refine g_get 1 (0) (400) rfl hS.k1 hm7.f_1_1 (fun v8 ev8 bv8 cv8 => ?_)
    exact hk v8 m7 hm7 (by omega) (by omega)
theorem z_X11_keepPast {X : Mm} {S : Sh} {m0 : Mm} {K : Mm → Prop} (hS : Shp S) (hm0 : Inv X S m0)  (hk : ∀ (M1 : Mm), Inv X S M1 → K M1) : wp_X11_keepPast S m0 0 K := by
  refine u_X11_keepPast ?_
  refine g_getr 3 29 rfl hS.k0 hm0.f_0_3 (by decide) ?_
  refine g_get 4 (0) (19) rfl hS.k0 hm0.f_0_4 (fun v1 ev1 bv1 cv1 => ?_)
  refine g_ldrB (P := isSt) (fun c hc => (ck_5_0 c hc).1) hS.k29 hS.l29 (by omega) (by omega) (hm0.arB_29 (by omega) (by omega)) (fun v2 ev2 hb_v2 => ?_)
  refine g_getr 1 3 rfl hS.k0 hm0.f_0_1 (by decide) ?_
  refine g_getr 1 16 rfl hS.k3 hm0.f_3_1 (by decide) ?_
  refine ⟨(hS.kB_5_0 hb_v2), ?_⟩
  refine z_X5_become hS hm0 hb_v2 (by decide) (fun m3 hm3 => ?_)
  refine g_get 4 (0) (19) rfl hS.k0 hm3.f_0_4 (fun v4 ev4 bv4 cv4 => ?_)
  refine g_C ?_
  refine g_A (by omega) (by omega) ?_
  refine g_C ?_
  refine g_iRem (by omega) (by omega) (by omega) (by omega) (fun v5 bv5 cv5 => ?_)
  refine g_put 4 rfl hS.k0 (hm3.w_0_4 (by omega) (by omega)) (fun m6 em6 hm6 => ?_)
  refine g_C ?_
  refine g_get 5 (0) (20) rfl hS.k0 hm6.f_0_5 (fun v7 ev7 bv7 cv7 => ?_)
  refine g_C ?_
  refine g_A (by omega) (by omega) ?_
  refine g_min (fun v8 bv8 cv8 dv8 => ?_)
  refine g_put 5 rfl hS.k0 (hm6.w_0_5 (by omega) (by omega)) (fun m9 em9 hm9 => ?_)
  exact hk m9 hm9
theorem z_X11_go {X : Mm} {S : Sh} {m0 : Mm} {K : Int → Mm → Prop} {u1 u2 : Int} (hS : Shp S) (hm0 : Inv X S m0) (l_u1 : (-2147483648) ≤ u1) (h_u1 : u1 ≤ 2147483647) (l_u2 : (-2147483648) ≤ u2) (h_u2 : u2 ≤ 2147483647) (hk : ∀ (r : Int) (M1 : Mm), Inv X S M1 → (-1) ≤ r → r ≤ 5 → K r M1) : wp_X11_go S m0 0 u1 u2 K := by
  refine u_X11_go ?_
  refine ⟨hS.k0, ?_⟩
  refine u_X11_isHand ?_
  refine g_if (fun w1 => ?_) (fun w1 => ?_)
  · refine g_C ?_
    refine ⟨by omega, ?_⟩
    refine g_ifT (by omega) ?_
    refine g_C ?_
    exact hk (-1) m0 hm0 (by omega) (by omega)
  · refine g_getr 1 3 rfl hS.k0 hm0.f_0_1 (by decide) ?_
    refine g_getr 0 4 rfl hS.k3 hm0.f_3_0 (by decide) ?_
    refine g_get 4 (0) (5) rfl hS.k4 hm0.f_4_4 (fun v2 ev2 bv2 cv2 => ?_)
    refine g_if (fun w3 => ?_) (fun w3 => ?_)
    · refine g_C ?_
      refine ⟨by omega, ?_⟩
      refine g_ifT (by omega) ?_
      refine g_C ?_
      exact hk (-1) m0 hm0 (by omega) (by omega)
    · refine g_C ?_
      refine ⟨by omega, ?_⟩
      refine g_ifF (by omega) ?_
      refine ⟨hS.k0, ?_⟩
      refine u_X11_isPlace ?_
      refine g_if (fun w4 => ?_) (fun w4 => ?_)
      · refine g_C ?_
        refine ⟨by omega, ?_⟩
        refine g_ifF (by omega) ?_
        refine g_C ?_
        exact hk (-1) m0 hm0 (by omega) (by omega)
      · refine g_getr 1 3 rfl hS.k0 hm0.f_0_1 (by decide) ?_
        refine g_getr 0 4 rfl hS.k3 hm0.f_3_0 (by decide) ?_
        refine g_get 0 (0) (6) rfl hS.k4 hm0.f_4_0 (fun v5 ev5 bv5 cv5 => ?_)
        refine g_if (fun w6 => ?_) (fun w6 => ?_)
        · refine g_C ?_
          refine ⟨by omega, ?_⟩
          refine g_ifF (by omega) ?_
          refine g_C ?_
          exact hk (-1) m0 hm0 (by omega) (by omega)
        · refine g_C ?_
          refine ⟨by omega, ?_⟩
          refine g_ifT (by omega) ?_
          refine g_getr 1 3 rfl hS.k0 hm0.f_0_1 (by decide) ?_
          refine g_getr 1 16 rfl hS.k3 hm0.f_3_1 (by decide) ?_
          refine g_getr 1 3 rfl hS.k0 hm0.f_0_1 (by decide) ?_
          refine g_getr 0 4 rfl hS.k3 hm0.f_3_0 (by decide) ?_
          refine ⟨hS.k16, ?_⟩
          refine u_X5_roadFor ?_
          refine ⟨hS.k16, ?_⟩
          refine u_X5_isAtPlace ?_
          refine g_getr 3 18 rfl hS.k16 hm0.f_16_3 (by decide) ?_
          refine g_ld (0) (5) hS.k18 hS.l18 (by omega) (by omega) (hm0.a_18 (by omega) (by omega)) (fun v7 ev7 bv7 cv7 => ?_)
          refine g_if (fun w8 => ?_) (fun w8 => ?_)
          · refine g_C ?_
            refine ⟨by omega, ?_⟩
            refine g_ifT (by omega) ?_
            refine g_C ?_
            refine g_ifF (by omega) ?_
            refine g_C ?_
            exact hk (-1) m0 hm0 (by omega) (by omega)
          · refine g_C ?_
            refine ⟨by omega, ?_⟩
            refine g_ifF (by omega) ?_
            refine g_getr 2 17 rfl hS.k16 hm0.f_16_2 (by decide) ?_
            refine g_ld (0) (5) hS.k17 hS.l17 (by omega) (by omega) (hm0.a_17 (by omega) (by omega)) (fun v9 ev9 bv9 cv9 => ?_)
            refine ⟨hS.k4, ?_⟩
            refine u_X8_roadHours ?_
            refine g_getr 8 5 rfl hS.k4 hm0.f_4_8 (by decide) ?_
            refine u_X8_pair ?_
            refine g_C ?_
            refine g_M (by omega) (by omega) ?_
            refine g_A (by omega) (by omega) ?_
            refine g_ld (0) (5) hS.k5 hS.l5 (by omega) (by omega) (hm0.a_5 (by omega) (by omega)) (fun v10 ev10 bv10 cv10 => ?_)
            refine g_if (fun w11 => ?_) (fun w11 => ?_)
            · refine ⟨hS.k0, ?_⟩
              refine z_X11_keepPast hS hm0 (fun m12 hm12 => ?_)
              refine g_getr 1 3 rfl hS.k0 hm12.f_0_1 (by decide) ?_
              refine g_getr 1 16 rfl hS.k3 hm12.f_3_1 (by decide) ?_
              refine ⟨hS.k16, ?_⟩
              refine u_X5_setOut ?_
              refine g_getr 2 17 rfl hS.k16 hm12.f_16_2 (by decide) ?_
              refine g_st hS.k17 hS.l17 (by omega) (by omega) (hm12.wa_17 (by omega) (by omega) (by omega) (by omega)) (fun m13 em13 hm13 => ?_)
              refine g_getr 3 18 rfl hS.k16 hm13.f_16_3 (by decide) ?_
              refine g_st hS.k18 hS.l18 (by omega) (by omega) (hm13.wa_18 (by omega) (by omega) (by omega) (by omega)) (fun m14 em14 hm14 => ?_)
              exact hk v10 m14 hm14 (by omega) (by omega)
            · refine g_C ?_
              exact hk (-1) m0 hm0 (by omega) (by omega)
theorem z_X11_hand {X : Mm} {S : Sh} {m0 : Mm} {K : Int → Mm → Prop} {u1 u2 : Int} (hS : Shp S) (hm0 : Inv X S m0) (l_u1 : (-2147483648) ≤ u1) (h_u1 : u1 ≤ 2147483647) (l_u2 : (-2147483648) ≤ u2) (h_u2 : u2 ≤ 2147483647) (hk : ∀ (r : Int), (-1) ≤ r → r ≤ 99 → K r m0) : wp_X11_hand S m0 0 u1 u2 K := by
  refine u_X11_hand ?_
  refine ⟨hS.k0, ?_⟩
  refine u_X11_isHand ?_
  refine g_if (fun w1 => ?_) (fun w1 => ?_)
  · refine g_C ?_
    refine ⟨by omega, ?_⟩
    refine g_ifF (by omega) ?_
    refine g_C ?_
    exact hk (-1) (by omega) (by omega)
  · refine g_getr 1 3 rfl hS.k0 hm0.f_0_1 (by decide) ?_
    refine g_getr 0 4 rfl hS.k3 hm0.f_3_0 (by decide) ?_
    refine g_get 4 (0) (5) rfl hS.k4 hm0.f_4_4 (fun v2 ev2 bv2 cv2 => ?_)
    refine g_if (fun w3 => ?_) (fun w3 => ?_)
    · refine g_C ?_
      refine ⟨by omega, ?_⟩
      refine g_ifF (by omega) ?_
      refine g_C ?_
      exact hk (-1) (by omega) (by omega)
    · refine g_C ?_
      refine ⟨by omega, ?_⟩
      refine g_ifT (by omega) ?_
      refine g_if (fun w4 => ?_) (fun w4 => ?_)
      · refine g_getr 1 3 rfl hS.k0 hm0.f_0_1 (by decide) ?_
        refine g_getr 1 16 rfl hS.k3 hm0.f_3_1 (by decide) ?_
        refine g_getr 2 17 rfl hS.k16 hm0.f_16_2 (by decide) ?_
        refine g_ld (0) (5) hS.k17 hS.l17 (by omega) (by omega) (hm0.a_17 (by omega) (by omega)) (fun v5 ev5 bv5 cv5 => ?_)
        exact hk v5 (by omega) (by omega)
      · refine g_if (fun w6 => ?_) (fun w6 => ?_)
        · refine g_getr 1 3 rfl hS.k0 hm0.f_0_1 (by decide) ?_
          refine g_getr 1 16 rfl hS.k3 hm0.f_3_1 (by decide) ?_
          refine g_getr 3 18 rfl hS.k16 hm0.f_16_3 (by decide) ?_
          refine g_ld (0) (5) hS.k18 hS.l18 (by omega) (by omega) (hm0.a_18 (by omega) (by omega)) (fun v7 ev7 bv7 cv7 => ?_)
          exact hk v7 (by omega) (by omega)
        · refine g_if (fun w8 => ?_) (fun w8 => ?_)
          · refine g_getr 1 3 rfl hS.k0 hm0.f_0_1 (by decide) ?_
            refine g_getr 1 16 rfl hS.k3 hm0.f_3_1 (by decide) ?_
            refine g_getr 4 19 rfl hS.k16 hm0.f_16_4 (by decide) ?_
            refine g_ld (0) (99) hS.k19 hS.l19 (by omega) (by omega) (hm0.a_19 (by omega) (by omega)) (fun v9 ev9 bv9 cv9 => ?_)
            exact hk v9 (by omega) (by omega)
          · refine g_if (fun w10 => ?_) (fun w10 => ?_)
            · refine g_getr 1 3 rfl hS.k0 hm0.f_0_1 (by decide) ?_
              refine g_getr 1 16 rfl hS.k3 hm0.f_3_1 (by decide) ?_
              refine ⟨hS.k16, ?_⟩
              refine z_X5_heldBits hS hm0 (by decide) (by omega) (by omega) (fun v11 bv11 cv11 => ?_)
              exact hk v11 (by omega) (by omega)
            · refine g_if (fun w12 => ?_) (fun w12 => ?_)
              · refine g_getr 1 3 rfl hS.k0 hm0.f_0_1 (by decide) ?_
                refine g_getr 0 4 rfl hS.k3 hm0.f_3_0 (by decide) ?_
                refine g_getr 10 7 rfl hS.k4 hm0.f_4_10 (by decide) ?_
                refine g_ld (0) (20) hS.k7 hS.l7 (by omega) (by omega) (hm0.a_7 (by omega) (by omega)) (fun v13 ev13 bv13 cv13 => ?_)
                exact hk v13 (by omega) (by omega)
              · refine g_if (fun w14 => ?_) (fun w14 => ?_)
                · refine g_getr 1 3 rfl hS.k0 hm0.f_0_1 (by decide) ?_
                  refine g_getr 0 4 rfl hS.k3 hm0.f_3_0 (by decide) ?_
                  refine g_getr 11 8 rfl hS.k4 hm0.f_4_11 (by decide) ?_
                  refine g_ld (0) (5) hS.k8 hS.l8 (by omega) (by omega) (hm0.a_8 (by omega) (by omega)) (fun v15 ev15 bv15 cv15 => ?_)
                  exact hk v15 (by omega) (by omega)
                · refine g_C ?_
                  exact hk (-1) (by omega) (by omega)
theorem z_X11_handOn {X : Mm} {S : Sh} {m0 : Mm} {K : Int → Mm → Prop} {u1 u2 : Int} (hS : Shp S) (hm0 : Inv X S m0) (l_u1 : (-2147483648) ≤ u1) (h_u1 : u1 ≤ 2147483647) (l_u2 : (-2147483648) ≤ u2) (h_u2 : u2 ≤ 2147483647) (hk : ∀ (r : Int) (M1 : Mm), Inv X S M1 → (-1) ≤ r → r ≤ 4 → K r M1) : wp_X11_handOn S m0 0 u1 u2 K := by
  refine u_X11_handOn ?_
  refine ⟨hS.k0, ?_⟩
  refine u_X11_isHand ?_
  refine g_if (fun w1 => ?_) (fun w1 => ?_)
  · refine g_C ?_
    refine ⟨by omega, ?_⟩
    refine g_ifT (by omega) ?_
    refine g_C ?_
    exact hk (-1) m0 hm0 (by omega) (by omega)
  · refine g_getr 1 3 rfl hS.k0 hm0.f_0_1 (by decide) ?_
    refine g_getr 0 4 rfl hS.k3 hm0.f_3_0 (by decide) ?_
    refine g_get 4 (0) (5) rfl hS.k4 hm0.f_4_4 (fun v2 ev2 bv2 cv2 => ?_)
    refine g_if (fun w3 => ?_) (fun w3 => ?_)
    · refine g_C ?_
      refine ⟨by omega, ?_⟩
      refine g_ifT (by omega) ?_
      refine g_C ?_
      exact hk (-1) m0 hm0 (by omega) (by omega)
    · refine g_C ?_
      refine ⟨by omega, ?_⟩
      refine g_ifF (by omega) ?_
      refine ⟨hS.k0, ?_⟩
      refine u_X11_isJug ?_
      refine g_if (fun w4 => ?_) (fun w4 => ?_)
      · refine g_C ?_
        refine ⟨by omega, ?_⟩
        refine g_ifF (by omega) ?_
        refine g_C ?_
        exact hk (-1) m0 hm0 (by omega) (by omega)
      · refine g_getr 1 3 rfl hS.k0 hm0.f_0_1 (by decide) ?_
        refine g_getr 0 4 rfl hS.k3 hm0.f_3_0 (by decide) ?_
        refine g_get 5 (0) (4) rfl hS.k4 hm0.f_4_5 (fun v5 ev5 bv5 cv5 => ?_)
        refine g_if (fun w6 => ?_) (fun w6 => ?_)
        · refine g_C ?_
          refine ⟨by omega, ?_⟩
          refine g_ifF (by omega) ?_
          refine g_C ?_
          exact hk (-1) m0 hm0 (by omega) (by omega)
        · refine g_C ?_
          refine ⟨by omega, ?_⟩
          refine g_ifT (by omega) ?_
          refine g_getr 1 3 rfl hS.k0 hm0.f_0_1 (by decide) ?_
          refine g_getr 1 16 rfl hS.k3 hm0.f_3_1 (by decide) ?_
          refine g_getr 6 21 rfl hS.k16 hm0.f_16_6 (by decide) ?_
          refine g_ld (-1) (4) hS.k21 hS.l21 (by omega) (by omega) (hm0.a_21 (by omega) (by omega)) (fun v7 ev7 bv7 cv7 => ?_)
          refine ⟨hS.k0, ?_⟩
          refine u_X11_isHand ?_
          refine g_if (fun w8 => ?_) (fun w8 => ?_)
          · refine g_C ?_
            refine ⟨by omega, ?_⟩
            refine g_ifT (by omega) ?_
            refine g_C ?_
            exact hk (-1) m0 hm0 (by omega) (by omega)
          · refine g_getr 1 3 rfl hS.k0 hm0.f_0_1 (by decide) ?_
            refine g_getr 0 4 rfl hS.k3 hm0.f_3_0 (by decide) ?_
            refine g_get 4 (0) (5) rfl hS.k4 hm0.f_4_4 (fun v9 ev9 bv9 cv9 => ?_)
            have qv9 : v9 = v2 := ev9.trans ev2.symm
            refine g_if (fun w10 => ?_) (fun w10 => ?_)
            · refine g_C ?_
              refine ⟨by omega, ?_⟩
              refine g_ifT (by omega) ?_
              refine g_C ?_
              exact hk (-1) m0 hm0 (by omega) (by omega)
            · refine g_C ?_
              refine ⟨by omega, ?_⟩
              refine g_ifF (by omega) ?_
              refine g_if (fun w11 => ?_) (fun w11 => ?_)
              · refine g_C ?_
                exact hk (-1) m0 hm0 (by omega) (by omega)
              · refine g_getr 1 3 rfl hS.k0 hm0.f_0_1 (by decide) ?_
                refine g_getr 1 16 rfl hS.k3 hm0.f_3_1 (by decide) ?_
                refine ⟨hS.k16, ?_⟩
                refine u_X5_canGive ?_
                refine ⟨hS.k16, ?_⟩
                refine u_X5_isAtPlace ?_
                refine g_getr 3 18 rfl hS.k16 hm0.f_16_3 (by decide) ?_
                refine g_ld (0) (5) hS.k18 hS.l18 (by omega) (by omega) (hm0.a_18 (by omega) (by omega)) (fun v12 ev12 bv12 cv12 => ?_)
                refine g_if (fun w13 => ?_) (fun w13 => ?_)
                · refine g_C ?_
                  refine ⟨by omega, ?_⟩
                  refine g_ifT (by omega) ?_
                  refine g_C ?_
                  refine ⟨by omega, ?_⟩
                  refine g_ifF (by omega) ?_
                  refine g_C ?_
                  exact hk (-1) m0 hm0 (by omega) (by omega)
                · refine g_C ?_
                  refine ⟨by omega, ?_⟩
                  refine g_ifF (by omega) ?_
                  refine g_getr 2 17 rfl hS.k16 hm0.f_16_2 (by decide) ?_
                  refine g_ld (0) (5) hS.k17 hS.l17 (by omega) (by omega) (hm0.a_17 (by omega) (by omega)) (fun v14 ev14 bv14 cv14 => ?_)
                  refine g_getr 2 17 rfl hS.k16 hm0.f_16_2 (by decide) ?_
                  refine g_ld (0) (5) hS.k17 hS.l17 (by omega) (by omega) (hm0.a_17 (by omega) (by omega)) (fun v15 ev15 bv15 cv15 => ?_)
                  refine g_if (fun w16 => ?_) (fun w16 => ?_)
                  · refine g_C ?_
                    refine ⟨by omega, ?_⟩
                    refine g_ifF (by omega) ?_
                    refine g_C ?_
                    exact hk (-1) m0 hm0 (by omega) (by omega)
                  · refine ⟨hS.k16, ?_⟩
                    refine u_X5_canHoldMore ?_
                    refine ⟨hS.k16, ?_⟩
                    refine u_X5_isAtPlace ?_
                    refine g_getr 3 18 rfl hS.k16 hm0.f_16_3 (by decide) ?_
                    refine g_ld (0) (5) hS.k18 hS.l18 (by omega) (by omega) (hm0.a_18 (by omega) (by omega)) (fun v17 ev17 bv17 cv17 => ?_)
                    refine g_if (fun w18 => ?_) (fun w18 => ?_)
                    · refine g_C ?_
                      refine ⟨by omega, ?_⟩
                      refine g_ifT (by omega) ?_
                      refine g_C ?_
                      refine ⟨by omega, ?_⟩
                      refine g_ifT (by omega) ?_
                      refine g_C ?_
                      refine ⟨by omega, ?_⟩
                      refine g_ifF (by omega) ?_
                      refine g_C ?_
                      exact hk (-1) m0 hm0 (by omega) (by omega)
                    · refine g_C ?_
                      refine ⟨by omega, ?_⟩
                      refine g_ifF (by omega) ?_
                      refine ⟨hS.k16, ?_⟩
                      refine u_X5_howManyHeld ?_
                      refine ⟨hS.k16, ?_⟩
                      refine z_X5_heldBits hS hm0 (by decide) (by omega) (by omega) (fun v19 bv19 cv19 => ?_)
                      refine z_J6_bitCount_0f7a4 hS hm0 (by omega) (by omega) (fun v20 bv20 cv20 => ?_)
                      refine g_C ?_
                      refine g_if (fun w21 => ?_) (fun w21 => ?_)
                      · refine g_C ?_
                        refine ⟨by omega, ?_⟩
                        refine g_ifT (by omega) ?_
                        refine g_C ?_
                        refine ⟨by omega, ?_⟩
                        refine g_ifF (by omega) ?_
                        refine g_C ?_
                        exact hk (-1) m0 hm0 (by omega) (by omega)
                      · refine g_C ?_
                        refine ⟨by omega, ?_⟩
                        refine g_ifF (by omega) ?_
                        refine g_C ?_
                        refine ⟨by omega, ?_⟩
                        refine g_ifT (by omega) ?_
                        refine ⟨hS.k0, ?_⟩
                        refine z_X11_keepPast hS hm0 (fun m22 hm22 => ?_)
                        refine g_getr 1 3 rfl hS.k0 hm22.f_0_1 (by decide) ?_
                        refine g_getr 1 16 rfl hS.k3 hm22.f_3_1 (by decide) ?_
                        refine ⟨hS.k16, ?_⟩
                        refine u_X5_giveTo ?_
                        refine g_getr 6 21 rfl hS.k16 hm22.f_16_6 (by decide) ?_
                        refine g_st hS.k21 hS.l21 (by omega) (by omega) (hm22.wa_21 (by omega) (by omega) (by omega) (by omega)) (fun m23 em23 hm23 => ?_)
                        refine g_getr 5 20 rfl hS.k16 hm23.f_16_5 (by decide) ?_
                        refine g_C ?_
                        refine g_st hS.k20 hS.l20 (by omega) (by omega) (hm23.wa_20 (by omega) (by omega) (by omega) (by omega)) (fun m24 em24 hm24 => ?_)
                        exact hk v7 m24 hm24 (by omega) (by omega)
theorem z_X11_hour {X : Mm} {S : Sh} {m0 : Mm} {K : Int → Mm → Prop} (hS : Shp S) (hm0 : Inv X S m0)  (hk : ∀ (r : Int) (M1 : Mm), Inv X S M1 → (-2147483648) ≤ r → r ≤ 2147483647 → K r M1) : wp_X11_hour S m0 0 K := by
  refine u_X11_hour ?_
  refine g_getr 1 3 rfl hS.k0 hm0.f_0_1 (by decide) ?_
  refine g_getr 0 4 rfl hS.k3 hm0.f_3_0 (by decide) ?_
  refine g_get 0 (0) (6) rfl hS.k4 hm0.f_4_0 (fun v1 ev1 bv1 cv1 => ?_)
  refine g_if (fun w2 => ?_) (fun w2 => ?_)
  · refine g_C ?_
    exact hk (-1) m0 hm0 (by omega) (by omega)
  · refine g_getr 1 3 rfl hS.k0 hm0.f_0_1 (by decide) ?_
    refine g_getr 1 16 rfl hS.k3 hm0.f_3_1 (by decide) ?_
    refine g_get 0 (0) (999) rfl hS.k16 hm0.f_16_0 (fun v3 ev3 bv3 cv3 => ?_)
    refine g_C ?_
    refine g_if (fun w4 => ?_) (fun w4 => ?_)
    · refine ⟨hS.k0, ?_⟩
      refine z_X11_keepPast hS hm0 (fun m5 hm5 => ?_)
      refine g_getr 11 57 rfl hS.k0 hm5.f_0_11 (by decide) ?_
      refine g_getr 1 3 rfl hS.k0 hm5.f_0_1 (by decide) ?_
      refine g_getr 1 16 rfl hS.k3 hm5.f_3_1 (by decide) ?_
      refine ⟨hS.k57, ?_⟩
      refine z_X1_pass hS hm5 (by decide) (fun v6 m7 hm7 bv6 cv6 => ?_)
      exact hk v6 m7 hm7 (by omega) (by omega)
    · refine g_C ?_
      exact hk (-1) m0 hm0 (by omega) (by omega)
theorem z_X5_turnedTogether {X : Mm} {S : Sh} {m0 : Mm} {K : Int → Mm → Prop} (hS : Shp S) (hm0 : Inv X S m0)  (hk : ∀ (r : Int), (-2147483648) ≤ r → r ≤ 2147483647 → K r m0) : wp_X5_turnedTogether S m0 68 K := by
  refine u_X5_turnedTogether ?_
  refine g_C ?_
  refine g_C ?_
  have L_n_l82 : ∀ (n_l82 : Nat) (u2 : Int) (u3 : Int), (-2147483648) ≤ u2 → u2 ≤ 2147483647 → 0 ≤ u3 → u3 ≤ 4 → 5 - u3 ≤ (n_l82 : Int) → wp_X5_turnedTogether_4 S K n_l82 68 u2 u3 m0 := by
    intro n_l82
    induction n_l82 with
    | zero => intro u2 u3 bu2 cu2 bu3 cu3 zn_l82; exfalso; omega
    | succ n_l82 ih_n_l82 =>
      intro u2 u3 bu2 cu2 bu3 cu3 zn_l82
      refine u_X5_turnedTogether_4 ?_
      refine g_C ?_
      refine g_if (fun w83 => ?_) (fun w83 => ?_)
      · exact hk u2 (by omega) (by omega)
      · refine ⟨hS.k68, ?_⟩
        refine u_X5_isGone ?_
        refine g_getr 5 72 rfl hS.k68 hm0.f_68_5 (by decide) ?_
        refine g_ld (-1) (5) hS.k72 hS.l72 (by omega) (by omega) (hm0.a_72 (by omega) (by omega)) (fun v84 ev84 bv84 cv84 => ?_)
        refine g_C ?_
        refine g_if (fun w85 => ?_) (fun w85 => ?_)
        · refine g_C ?_
          refine ⟨by omega, ?_⟩
          refine g_ifT (by omega) ?_
          refine g_getr 7 74 rfl hS.k68 hm0.f_68_7 (by decide) ?_
          refine g_ld (0) (999) hS.k74 hS.l74 (by omega) (by omega) (hm0.a_74 (by omega) (by omega)) (fun v86 ev86 bv86 cv86 => ?_)
          refine u_X5_turnedTogether_28 ?_
          refine g_Aw (fun v87 bv87 cv87 => ?_)
          refine g_A (by omega) (by omega) ?_
          exact ih_n_l82 v87 (u3 + 1) (by omega) (by omega) (by omega) (by omega) (by omega)
        · refine g_getr 6 73 rfl hS.k68 hm0.f_68_6 (by decide) ?_
          refine g_ld (-1) (4) hS.k73 hS.l73 (by omega) (by omega) (hm0.a_73 (by omega) (by omega)) (fun v88 ev88 bv88 cv88 => ?_)
          refine g_C ?_
          refine g_if (fun w89 => ?_) (fun w89 => ?_)
          · refine g_C ?_
            refine ⟨by omega, ?_⟩
            refine g_ifT (by omega) ?_
            refine g_getr 7 74 rfl hS.k68 hm0.f_68_7 (by decide) ?_
            refine g_ld (0) (999) hS.k74 hS.l74 (by omega) (by omega) (hm0.a_74 (by omega) (by omega)) (fun v90 ev90 bv90 cv90 => ?_)
            refine u_X5_turnedTogether_28 ?_
            refine g_Aw (fun v91 bv91 cv91 => ?_)
            refine g_A (by omega) (by omega) ?_
            exact ih_n_l82 v91 (u3 + 1) (by omega) (by omega) (by omega) (by omega) (by omega)
          · refine g_C ?_
            refine ⟨by omega, ?_⟩
            refine g_ifF (by omega) ?_
            refine g_C ?_
            refine u_X5_turnedTogether_28 ?_
            refine g_A (by omega) (by omega) ?_
            refine g_A (by omega) (by omega) ?_
            exact ih_n_l82 (u2 + 0) (u3 + 1) (by omega) (by omega) (by omega) (by omega) (by omega)
  exact ⟨5, L_n_l82 5 0 0 (by omega) (by omega) (by omega) (by omega) (by omega)⟩
theorem z_X11_ice {X : Mm} {S : Sh} {m0 : Mm} {K : Int → Mm → Prop} {u1 : Int} (hS : Shp S) (hm0 : Inv X S m0) (l_u1 : (-2147483648) ≤ u1) (h_u1 : u1 ≤ 2147483647) (hk : ∀ (r : Int) (M1 : Mm), Inv X S M1 → (-2147483648) ≤ r → r ≤ 2147483647 → K r M1) : wp_X11_ice S m0 0 u1 K := by
  refine u_X11_ice ?_
  refine g_getr 1 3 rfl hS.k0 hm0.f_0_1 (by decide) ?_
  refine g_getr 0 4 rfl hS.k3 hm0.f_3_0 (by decide) ?_
  refine g_get 0 (0) (6) rfl hS.k4 hm0.f_4_0 (fun v1 ev1 bv1 cv1 => ?_)
  refine g_if (fun w2 => ?_) (fun w2 => ?_)
  · refine g_C ?_
    exact hk (-1) m0 hm0 (by omega) (by omega)
  · refine g_C ?_
    refine g_if (fun w3 => ?_) (fun w3 => ?_)
    · refine g_C ?_
      exact hk (-1) m0 hm0 (by omega) (by omega)
    · refine g_C ?_
      refine g_if (fun w4 => ?_) (fun w4 => ?_)
      · refine g_getr 15 68 rfl hS.k0 hm0.f_0_15 (by decide) ?_
        refine g_getr 1 3 rfl hS.k0 hm0.f_0_1 (by decide) ?_
        refine g_getr 1 16 rfl hS.k3 hm0.f_3_1 (by decide) ?_
        refine ⟨hS.k68, ?_⟩
        refine z_X5_become hS hm0 (by decide) (by decide) (fun m5 hm5 => ?_)
        refine g_getr 11 57 rfl hS.k0 hm5.f_0_11 (by decide) ?_
        refine g_getr 15 68 rfl hS.k0 hm5.f_0_15 (by decide) ?_
        refine ⟨hS.k57, ?_⟩
        refine z_X1_passSeveral hS hm5 (by omega) (by omega) (fun m6 hm6 => ?_)
        refine g_getr 15 68 rfl hS.k0 hm6.f_0_15 (by decide) ?_
        refine ⟨hS.k68, ?_⟩
        refine z_X5_turnedTogether hS hm6 (fun v7 bv7 cv7 => ?_)
        refine g_getr 15 68 rfl hS.k0 hm6.f_0_15 (by decide) ?_
        refine g_getr 1 3 rfl hS.k0 hm6.f_0_1 (by decide) ?_
        refine g_getr 1 16 rfl hS.k3 hm6.f_3_1 (by decide) ?_
        refine ⟨hS.k68, ?_⟩
        refine z_X5_become hS hm6 (by decide) (by decide) (fun m8 hm8 => ?_)
        refine g_getr 10 55 rfl hS.k0 hm8.f_0_10 (by decide) ?_
        refine g_C ?_
        refine g_putz 2 rfl hS.k55 (by omega) (hm8.w_55_2 (by omega) (by omega)) (fun m9 em9 hm9 => ?_)
        refine g_getr 11 57 rfl hS.k0 hm9.f_0_11 (by decide) ?_
        refine g_getr 15 68 rfl hS.k0 hm9.f_0_15 (by decide) ?_
        refine ⟨hS.k57, ?_⟩
        refine z_X1_passSeveral hS hm9 (by omega) (by omega) (fun m10 hm10 => ?_)
        refine g_getr 10 55 rfl hS.k0 hm10.f_0_10 (by decide) ?_
        refine g_C ?_
        refine g_putz 2 rfl hS.k55 (by omega) (hm10.w_55_2 (by omega) (by omega)) (fun m11 em11 hm11 => ?_)
        refine g_getr 15 68 rfl hS.k0 hm11.f_0_15 (by decide) ?_
        refine ⟨hS.k68, ?_⟩
        refine z_X5_turnedTogether hS hm11 (fun v12 bv12 cv12 => ?_)
        refine g_Sw (fun v13 bv13 cv13 => ?_)
        exact hk v13 m11 hm11 (by omega) (by omega)
      · refine g_C ?_
        exact hk (-1) m0 hm0 (by omega) (by omega)
theorem z_X11_jug {X : Mm} {S : Sh} {m0 : Mm} {K : Int → Mm → Prop} {u1 u2 : Int} (hS : Shp S) (hm0 : Inv X S m0) (l_u1 : (-2147483648) ≤ u1) (h_u1 : u1 ≤ 2147483647) (l_u2 : (-2147483648) ≤ u2) (h_u2 : u2 ≤ 2147483647) (hk : ∀ (r : Int), (-2) ≤ r → r ≤ 999 → K r m0) : wp_X11_jug S m0 0 u1 u2 K := by
  refine u_X11_jug ?_
  refine ⟨hS.k0, ?_⟩
  refine u_X11_isJug ?_
  refine g_if (fun w1 => ?_) (fun w1 => ?_)
  · refine g_C ?_
    refine ⟨by omega, ?_⟩
    refine g_ifF (by omega) ?_
    refine g_C ?_
    exact hk (-2) (by omega) (by omega)
  · refine g_getr 1 3 rfl hS.k0 hm0.f_0_1 (by decide) ?_
    refine g_getr 0 4 rfl hS.k3 hm0.f_3_0 (by decide) ?_
    refine g_get 5 (0) (4) rfl hS.k4 hm0.f_4_5 (fun v2 ev2 bv2 cv2 => ?_)
    refine g_if (fun w3 => ?_) (fun w3 => ?_)
    · refine g_C ?_
      refine ⟨by omega, ?_⟩
      refine g_ifF (by omega) ?_
      refine g_C ?_
      exact hk (-2) (by omega) (by omega)
    · refine g_C ?_
      refine ⟨by omega, ?_⟩
      refine g_ifT (by omega) ?_
      refine g_if (fun w4 => ?_) (fun w4 => ?_)
      · refine g_getr 1 3 rfl hS.k0 hm0.f_0_1 (by decide) ?_
        refine g_getr 1 16 rfl hS.k3 hm0.f_3_1 (by decide) ?_
        refine g_getr 5 20 rfl hS.k16 hm0.f_16_5 (by decide) ?_
        refine g_ld (-1) (5) hS.k20 hS.l20 (by omega) (by omega) (hm0.a_20 (by omega) (by omega)) (fun v5 ev5 bv5 cv5 => ?_)
        exact hk v5 (by omega) (by omega)
      · refine g_if (fun w6 => ?_) (fun w6 => ?_)
        · refine g_getr 1 3 rfl hS.k0 hm0.f_0_1 (by decide) ?_
          refine g_getr 1 16 rfl hS.k3 hm0.f_3_1 (by decide) ?_
          refine g_getr 6 21 rfl hS.k16 hm0.f_16_6 (by decide) ?_
          refine g_ld (-1) (4) hS.k21 hS.l21 (by omega) (by omega) (hm0.a_21 (by omega) (by omega)) (fun v7 ev7 bv7 cv7 => ?_)
          exact hk v7 (by omega) (by omega)
        · refine g_if (fun w8 => ?_) (fun w8 => ?_)
          · refine g_getr 1 3 rfl hS.k0 hm0.f_0_1 (by decide) ?_
            refine g_getr 1 16 rfl hS.k3 hm0.f_3_1 (by decide) ?_
            refine g_getr 7 22 rfl hS.k16 hm0.f_16_7 (by decide) ?_
            refine g_ld (0) (999) hS.k22 hS.l22 (by omega) (by omega) (hm0.a_22 (by omega) (by omega)) (fun v9 ev9 bv9 cv9 => ?_)
            exact hk v9 (by omega) (by omega)
          · refine g_if (fun w10 => ?_) (fun w10 => ?_)
            · refine g_getr 1 3 rfl hS.k0 hm0.f_0_1 (by decide) ?_
              refine g_getr 1 16 rfl hS.k3 hm0.f_3_1 (by decide) ?_
              refine g_getr 7 22 rfl hS.k16 hm0.f_16_7 (by decide) ?_
              refine g_ld (0) (999) hS.k22 hS.l22 (by omega) (by omega) (hm0.a_22 (by omega) (by omega)) (fun v11 ev11 bv11 cv11 => ?_)
              refine g_getr 1 3 rfl hS.k0 hm0.f_0_1 (by decide) ?_
              refine g_getr 0 4 rfl hS.k3 hm0.f_3_0 (by decide) ?_
              refine g_get 2 (0) (99) rfl hS.k4 hm0.f_4_2 (fun v12 ev12 bv12 cv12 => ?_)
              refine g_if (fun w13 => ?_) (fun w13 => ?_)
              · refine g_C ?_
                exact hk 0 (by omega) (by omega)
              · refine g_C ?_
                exact hk 1 (by omega) (by omega)
            · refine g_if (fun w14 => ?_) (fun w14 => ?_)
              · refine g_getr 1 3 rfl hS.k0 hm0.f_0_1 (by decide) ?_
                refine g_getr 1 16 rfl hS.k3 hm0.f_3_1 (by decide) ?_
                refine ⟨hS.k16, ?_⟩
                refine u_X5_isGone ?_
                refine g_getr 5 20 rfl hS.k16 hm0.f_16_5 (by decide) ?_
                refine g_ld (-1) (5) hS.k20 hS.l20 (by omega) (by omega) (hm0.a_20 (by omega) (by omega)) (fun v15 ev15 bv15 cv15 => ?_)
                refine g_C ?_
                refine g_if (fun w16 => ?_) (fun w16 => ?_)
                · refine g_C ?_
                  refine ⟨by omega, ?_⟩
                  refine g_ifT (by omega) ?_
                  refine g_C ?_
                  exact hk 0 (by omega) (by omega)
                · refine g_getr 6 21 rfl hS.k16 hm0.f_16_6 (by decide) ?_
                  refine g_ld (-1) (4) hS.k21 hS.l21 (by omega) (by omega) (hm0.a_21 (by omega) (by omega)) (fun v17 ev17 bv17 cv17 => ?_)
                  refine g_C ?_
                  refine g_if (fun w18 => ?_) (fun w18 => ?_)
                  · refine g_C ?_
                    refine ⟨by omega, ?_⟩
                    refine g_ifT (by omega) ?_
                    refine g_C ?_
                    exact hk 0 (by omega) (by omega)
                  · refine g_C ?_
                    refine ⟨by omega, ?_⟩
                    refine g_ifF (by omega) ?_
                    refine g_C ?_
                    exact hk 1 (by omega) (by omega)
              · refine g_C ?_
                exact hk (-2) (by omega) (by omega)
theorem z_X11_jugFor {X : Mm} {S : Sh} {m0 : Mm} {K : Int → Mm → Prop} {u1 : Int} (hS : Shp S) (hm0 : Inv X S m0) (l_u1 : 0 ≤ u1) (h_u1 : u1 ≤ 5) (hk : ∀ (r : Int), (-1) ≤ r → r ≤ 3 → K r m0) : wp_X11_jugFor S m0 0 u1 K := by
  refine u_X11_jugFor ?_
  refine g_getr 1 3 rfl hS.k0 hm0.f_0_1 (by decide) ?_
  refine g_getr 1 16 rfl hS.k3 hm0.f_3_1 (by decide) ?_
  refine g_getr 8 23 rfl hS.k16 hm0.f_16_8 (by decide) ?_
  refine g_ld (-1) (999) hS.k23 hS.l23 (by omega) (by omega) (hm0.a_23 (by omega) (by omega)) (fun v1 ev1 bv1 cv1 => ?_)
  refine g_C ?_
  refine g_if (fun w2 => ?_) (fun w2 => ?_)
  · refine g_C ?_
    have L_n_l57 : ∀ (n_l57 : Nat) (u5 : Int), 0 ≤ u5 → u5 ≤ 4 → 5 - u5 ≤ (n_l57 : Int) → wp_X11_jugFor_20 S K n_l57 0 u1 u5 m0 := by
      intro n_l57
      induction n_l57 with
      | zero => intro u5 bu5 cu5 zn_l57; exfalso; omega
      | succ n_l57 ih_n_l57 =>
        intro u5 bu5 cu5 zn_l57
        refine u_X11_jugFor_20 ?_
        refine g_getr 1 3 rfl hS.k0 hm0.f_0_1 (by decide) ?_
        refine g_getr 0 4 rfl hS.k3 hm0.f_3_0 (by decide) ?_
        refine g_get 5 (0) (4) rfl hS.k4 hm0.f_4_5 (fun v58 ev58 bv58 cv58 => ?_)
        refine g_if (fun w59 => ?_) (fun w59 => ?_)
        · refine g_C ?_
          exact hk (-1) (by omega) (by omega)
        · refine g_getr 1 3 rfl hS.k0 hm0.f_0_1 (by decide) ?_
          refine g_getr 1 16 rfl hS.k3 hm0.f_3_1 (by decide) ?_
          refine g_getr 5 20 rfl hS.k16 hm0.f_16_5 (by decide) ?_
          refine g_ld (-1) (5) hS.k20 hS.l20 (by omega) (by omega) (hm0.a_20 (by omega) (by omega)) (fun v60 ev60 bv60 cv60 => ?_)
          refine g_getr 1 3 rfl hS.k0 hm0.f_0_1 (by decide) ?_
          refine g_getr 0 4 rfl hS.k3 hm0.f_3_0 (by decide) ?_
          refine g_getr 15 12 rfl hS.k4 hm0.f_4_15 (by decide) ?_
          refine g_ld (0) (5) hS.k12 hS.l12 (by omega) (by omega) (hm0.a_12 (by omega) (by omega)) (fun v61 ev61 bv61 cv61 => ?_)
          refine g_if (fun w62 => ?_) (fun w62 => ?_)
          · refine g_C ?_
            refine u_X11_jugFor_66 ?_
            refine g_ifT (by omega) ?_
            refine u_X11_jugFor_99 ?_
            refine g_A (by omega) (by omega) ?_
            exact ih_n_l57 (u5 + 1) (by omega) (by omega) (by omega)
          · refine g_C ?_
            refine u_X11_jugFor_66 ?_
            refine g_ifF (by omega) ?_
            refine g_getr 1 3 rfl hS.k0 hm0.f_0_1 (by decide) ?_
            refine g_getr 0 4 rfl hS.k3 hm0.f_3_0 (by decide) ?_
            refine g_getr 1 3 rfl hS.k0 hm0.f_0_1 (by decide) ?_
            refine g_getr 1 16 rfl hS.k3 hm0.f_3_1 (by decide) ?_
            refine g_getr 7 22 rfl hS.k16 hm0.f_16_7 (by decide) ?_
            refine g_ld (0) (999) hS.k22 hS.l22 (by omega) (by omega) (hm0.a_22 (by omega) (by omega)) (fun v63 ev63 bv63 cv63 => ?_)
            refine ⟨hS.k4, ?_⟩
            refine u_X8_suits ?_
            refine g_getr 16 13 rfl hS.k4 hm0.f_4_16 (by decide) ?_
            refine g_ld (0) (99) hS.k13 hS.l13 (by omega) (by omega) (hm0.a_13 (by omega) (by omega)) (fun v64 ev64 bv64 cv64 => ?_)
            refine g_if (fun w65 => ?_) (fun w65 => ?_)
            · refine g_C ?_
              refine ⟨by omega, ?_⟩
              refine g_ifT (by omega) ?_
              refine u_X11_jugFor_99 ?_
              refine g_A (by omega) (by omega) ?_
              exact ih_n_l57 (u5 + 1) (by omega) (by omega) (by omega)
            · refine g_getr 17 14 rfl hS.k4 hm0.f_4_17 (by decide) ?_
              refine g_ld (0) (99) hS.k14 hS.l14 (by omega) (by omega) (hm0.a_14 (by omega) (by omega)) (fun v66 ev66 bv66 cv66 => ?_)
              refine g_if (fun w67 => ?_) (fun w67 => ?_)
              · refine g_C ?_
                refine ⟨by omega, ?_⟩
                refine g_ifT (by omega) ?_
                refine u_X11_jugFor_99 ?_
                refine g_A (by omega) (by omega) ?_
                exact ih_n_l57 (u5 + 1) (by omega) (by omega) (by omega)
              · refine g_C ?_
                refine ⟨by omega, ?_⟩
                refine g_ifF (by omega) ?_
                exact hk u5 (by omega) (by omega)
    exact ⟨5, L_n_l57 5 0 (by omega) (by omega) (by omega)⟩
  · refine g_C ?_
    exact hk (-1) (by omega) (by omega)
