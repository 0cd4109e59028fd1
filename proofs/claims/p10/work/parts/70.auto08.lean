theorem z_X11_way {X : Mm} {S : Sh} {m0 : Mm} {K : Int → Mm → Prop} {u1 u2 u3 : Int} (hS : Shp S) (hm0 : Inv X S m0) (l_u1 : (-2147483648) ≤ u1) (h_u1 : u1 ≤ 2147483647) (l_u2 : (-2147483648) ≤ u2) (h_u2 : u2 ≤ 2147483647) (l_u3 : (-2147483648) ≤ u3) (h_u3 : u3 ≤ 2147483647) (hk : ∀ (r : Int), (-3) ≤ r → r ≤ 999 → K r m0) : wp_X11_way S m0 0 u1 u2 u3 K := by
  refine u_X11_way ?_
  refine ⟨hS.k0, ?_⟩
  refine u_X11_isPlace ?_
  refine g_if (fun w1 => ?_) (fun w1 => ?_)
  · refine g_C ?_
    refine ⟨by omega, ?_⟩
    refine g_ifT (by omega) ?_
    refine g_C ?_
    exact hk (-3) (by omega) (by omega)
  · refine g_getr 1 3 rfl hS.k0 hm0.f_0_1 (by decide) ?_
    refine g_getr 0 4 rfl hS.k3 hm0.f_3_0 (by decide) ?_
    refine g_get 0 (0) (6) rfl hS.k4 hm0.f_4_0 (fun v2 ev2 bv2 cv2 => ?_)
    refine g_if (fun w3 => ?_) (fun w3 => ?_)
    · refine g_C ?_
      refine ⟨by omega, ?_⟩
      refine g_ifT (by omega) ?_
      refine g_C ?_
      exact hk (-3) (by omega) (by omega)
    · refine g_C ?_
      refine ⟨by omega, ?_⟩
      refine g_ifF (by omega) ?_
      refine ⟨hS.k0, ?_⟩
      refine u_X11_isPlace ?_
      refine g_if (fun w4 => ?_) (fun w4 => ?_)
      · refine g_C ?_
        refine ⟨by omega, ?_⟩
        refine g_ifT (by omega) ?_
        refine g_C ?_
        exact hk (-3) (by omega) (by omega)
      · refine g_getr 1 3 rfl hS.k0 hm0.f_0_1 (by decide) ?_
        refine g_getr 0 4 rfl hS.k3 hm0.f_3_0 (by decide) ?_
        refine g_get 0 (0) (6) rfl hS.k4 hm0.f_4_0 (fun v5 ev5 bv5 cv5 => ?_)
        have qv5 : v5 = v2 := ev5.trans ev2.symm
        refine g_if (fun w6 => ?_) (fun w6 => ?_)
        · refine g_C ?_
          refine ⟨by omega, ?_⟩
          refine g_ifT (by omega) ?_
          refine g_C ?_
          exact hk (-3) (by omega) (by omega)
        · refine g_C ?_
          refine ⟨by omega, ?_⟩
          refine g_ifF (by omega) ?_
          refine g_if (fun w7 => ?_) (fun w7 => ?_)
          · refine g_C ?_
            exact hk (-3) (by omega) (by omega)
          · refine g_C ?_
            refine g_if (fun w8 => ?_) (fun w8 => ?_)
            · refine g_getr 1 3 rfl hS.k0 hm0.f_0_1 (by decide) ?_
              refine g_getr 0 4 rfl hS.k3 hm0.f_3_0 (by decide) ?_
              refine ⟨hS.k4, ?_⟩
              refine u_X8_hasWay ?_
              refine g_getr 9 6 rfl hS.k4 hm0.f_4_9 (by decide) ?_
              refine u_X8_pair ?_
              refine g_C ?_
              refine g_M (by omega) (by omega) ?_
              refine g_A (by omega) (by omega) ?_
              refine g_ld (0) (1000) hS.k6 hS.l6 (by omega) (by omega) (hm0.a_6 (by omega) (by omega)) (fun v9 ev9 bv9 cv9 => ?_)
              refine g_C ?_
              refine g_if (fun w10 => ?_) (fun w10 => ?_)
              · refine g_C ?_
                refine ⟨by omega, ?_⟩
                refine g_ifF (by omega) ?_
                refine g_C ?_
                exact hk (-2) (by omega) (by omega)
              · refine g_C ?_
                refine ⟨by omega, ?_⟩
                refine g_ifT (by omega) ?_
                refine g_if (fun w11 => ?_) (fun w11 => ?_)
                · refine g_getr 1 3 rfl hS.k0 hm0.f_0_1 (by decide) ?_
                  refine g_getr 0 4 rfl hS.k3 hm0.f_3_0 (by decide) ?_
                  refine ⟨hS.k4, ?_⟩
                  refine z_X8_nextPlace hS hm0 (by omega) (by omega) (by omega) (by omega) (fun v12 bv12 cv12 => ?_)
                  exact hk v12 (by omega) (by omega)
                · refine g_getr 1 3 rfl hS.k0 hm0.f_0_1 (by decide) ?_
                  refine g_getr 0 4 rfl hS.k3 hm0.f_3_0 (by decide) ?_
                  refine ⟨hS.k4, ?_⟩
                  refine u_X8_wayHours ?_
                  refine g_getr 9 6 rfl hS.k4 hm0.f_4_9 (by decide) ?_
                  refine u_X8_pair ?_
                  refine g_C ?_
                  refine g_M (by omega) (by omega) ?_
                  refine g_A (by omega) (by omega) ?_
                  refine g_ld (0) (1000) hS.k6 hS.l6 (by omega) (by omega) (hm0.a_6 (by omega) (by omega)) (fun v13 ev13 bv13 cv13 => ?_)
                  have qv13 : v13 = v9 := ev13.trans ev9.symm
                  exact hk v13 (by omega) (by omega)
            · refine g_C ?_
              exact hk (-3) (by omega) (by omega)
theorem z_X11_who {X : Mm} {S : Sh} {m0 : Mm} {K : Int → Mm → Prop} {u1 : Int} (hS : Shp S) (hm0 : Inv X S m0) (l_u1 : (-2147483648) ≤ u1) (h_u1 : u1 ≤ 2147483647) (hk : ∀ (r : Int) (M1 : Mm), Inv X S M1 → (-2147483648) ≤ r → r ≤ 2147483647 → K r M1) : wp_X11_who S m0 0 u1 K := by
  refine u_X11_who ?_
  refine g_getr 1 3 rfl hS.k0 hm0.f_0_1 (by decide) ?_
  refine g_getr 0 4 rfl hS.k3 hm0.f_3_0 (by decide) ?_
  refine g_get 0 (0) (6) rfl hS.k4 hm0.f_4_0 (fun v1 ev1 bv1 cv1 => ?_)
  refine g_if (fun w2 => ?_) (fun w2 => ?_)
  · refine g_C ?_
    exact hk (-1) m0 hm0 (by omega) (by omega)
  · refine g_if (fun w3 => ?_) (fun w3 => ?_)
    · refine g_C ?_
      exact hk (-1) m0 hm0 (by omega) (by omega)
    · refine g_C ?_
      refine g_if (fun w4 => ?_) (fun w4 => ?_)
      · refine g_getr 14 66 rfl hS.k0 hm0.f_0_14 (by decide) ?_
        refine ⟨hS.k66, ?_⟩
        refine z_X9_handsByTests hS hm0 (fun v5 m6 hm6 bv5 cv5 => ?_)
        refine g_if (fun w7 => ?_) (fun w7 => ?_)
        · refine z_J6_bitCount_0f7a4 hS hm6 (by omega) (by omega) (fun v8 bv8 cv8 => ?_)
          exact hk v8 m6 hm6 (by omega) (by omega)
        · refine g_if (fun w9 => ?_) (fun w9 => ?_)
          · refine g_if (fun w10 => ?_) (fun w10 => ?_)
            · refine z_J6_numberOfTrailingZeros_0f7a4 hS hm6 (by omega) (by omega) (fun v11 bv11 cv11 => ?_)
              exact hk v11 m6 hm6 (by omega) (by omega)
            · refine g_C ?_
              exact hk (-2) m6 hm6 (by omega) (by omega)
          · exact hk v5 m6 hm6 (by omega) (by omega)
      · refine g_C ?_
        exact hk (-1) m0 hm0 (by omega) (by omega)
theorem z_X1_drawHolders {X : Mm} {S : Sh} {m0 : Mm} {K : Mm → Prop} (hS : Shp S) (hm0 : Inv X S m0)  (hk : ∀ (M1 : Mm), Inv X S M1 → K M1) : wp_X1_drawHolders S m0 57 68 K := by
  refine u_X1_drawHolders ?_
  refine g_C ?_
  have L_n_l130 : ∀ (n_l130 : Nat) (u3 : Int) (m4 : Mm), Inv X S m4 → 0 ≤ u3 → u3 ≤ 4 → 5 - u3 ≤ (n_l130 : Int) → wp_X1_drawHolders_2 S K n_l130 57 68 u3 m4 := by
    intro n_l130
    induction n_l130 with
    | zero => intro u3 m4 hm4 bu3 cu3 zn_l130; exfalso; omega
    | succ n_l130 ih_n_l130 =>
      intro u3 m4 hm4 bu3 cu3 zn_l130
      refine u_X1_drawHolders_2 ?_
      refine g_getr 1 4 rfl hS.k57 hm4.f_57_1 (by decide) ?_
      refine g_get 5 (0) (4) rfl hS.k4 hm4.f_4_5 (fun v131 ev131 bv131 cv131 => ?_)
      refine g_if (fun w132 => ?_) (fun w132 => ?_)
      · exact hk m4 hm4
      · refine ⟨hS.k68, ?_⟩
        refine u_X5_stands ?_
        refine g_getr 5 72 rfl hS.k68 hm4.f_68_5 (by decide) ?_
        refine g_ld (-1) (5) hS.k72 hS.l72 (by omega) (by omega) (hm4.a_72 (by omega) (by omega)) (fun v133 ev133 bv133 cv133 => ?_)
        refine g_C ?_
        refine g_if (fun w134 => ?_) (fun w134 => ?_)
        · refine g_C ?_
          refine ⟨by omega, ?_⟩
          refine g_ifT (by omega) ?_
          refine u_X1_drawHolders_59 ?_
          refine g_A (by omega) (by omega) ?_
          exact ih_n_l130 (u3 + 1) m4 hm4 (by omega) (by omega) (by omega)
        · refine g_C ?_
          refine ⟨by omega, ?_⟩
          refine g_ifF (by omega) ?_
          refine g_getr 1 4 rfl hS.k57 hm4.f_57_1 (by decide) ?_
          refine g_get 4 (0) (5) rfl hS.k4 hm4.f_4_4 (fun v135 ev135 bv135 cv135 => ?_)
          refine g_if (fun w136 => ?_) (fun w136 => ?_)
          · refine u_X1_drawHolders_59 ?_
            refine g_A (by omega) (by omega) ?_
            exact ih_n_l130 (u3 + 1) m4 hm4 (by omega) (by omega) (by omega)
          · refine ⟨hS.k57, ?_⟩
            refine u_X1_draw ?_
            refine g_get 2 (0) (2147483647) rfl hS.k57 hm4.f_57_2 (fun v137 ev137 bv137 cv137 => ?_)
            refine g_C ?_
            refine g_C ?_
            refine g_LM (by omega) (by omega) ?_
            refine g_C ?_
            refine g_LA (by omega) (by omega) ?_
            refine g_C ?_
            refine g_lAndM (fun v138 bv138 cv138 => ?_)
            refine g_w32 (by omega) (by omega) ?_
            refine g_put 2 rfl hS.k57 (hm4.w_57_2 (by omega) (by omega)) (fun m140 em140 hm140 => ?_)
            refine g_get 2 (0) (2147483647) rfl hS.k57 hm140.f_57_2 (fun v141 ev141 bv141 cv141 => ?_)
            have qv141 : v141 = v138 := ev141.trans ((congrFun (congrFun em140 _) _).trans (up_ate (by omega)))
            refine g_C ?_
            refine g_iDivc (d := 65536) (by omega) (by omega) (by decide) (fun v142 bv142 cv142 => ?_)
            refine g_getr 1 4 rfl hS.k57 hm140.f_57_1 (by decide) ?_
            refine g_get 4 (0) (5) rfl hS.k4 hm140.f_4_4 (fun v143 ev143 bv143 cv143 => ?_)
            have qv143 : v143 = v135 := ev143.trans ((congrFun (congrFun em140 _) _).trans ((up_ne (by omega)).trans ev135.symm))
            refine g_iRem (by omega) (by omega) (by omega) (by omega) (fun v144 bv144 cv144 => ?_)
            refine ⟨hS.k68, ?_⟩
            refine u_X5_canTake ?_
            refine ⟨hS.k68, ?_⟩
            refine u_X5_stands ?_
            refine g_getr 5 72 rfl hS.k68 hm140.f_68_5 (by decide) ?_
            refine g_ld (-1) (5) hS.k72 hS.l72 (by omega) (by omega) (hm140.a_72 (by omega) (by omega)) (fun v145 ev145 bv145 cv145 => ?_)
            have qv145 : v145 = v133 := ev145.trans ((congrFun (congrFun em140 _) _).trans ((up_ne (by omega)).trans ev133.symm))
            refine g_C ?_
            refine g_ifF (by omega) ?_
            refine g_C ?_
            refine ⟨by omega, ?_⟩
            refine g_ifF (by omega) ?_
            refine g_getr 5 72 rfl hS.k68 hm140.f_68_5 (by decide) ?_
            refine g_ld (-1) (5) hS.k72 hS.l72 (by omega) (by omega) (hm140.a_72 (by omega) (by omega)) (fun v146 ev146 bv146 cv146 => ?_)
            have qv146 : v146 = v133 := ev146.trans ((congrFun (congrFun em140 _) _).trans ((up_ne (by omega)).trans ev133.symm))
            refine g_getr 2 69 rfl hS.k68 hm140.f_68_2 (by decide) ?_
            refine g_ld (0) (5) hS.k69 hS.l69 (by omega) (by omega) (hm140.a_69 (by omega) (by omega)) (fun v147 ev147 bv147 cv147 => ?_)
            refine g_if (fun w148 => ?_) (fun w148 => ?_)
            · refine g_C ?_
              refine ⟨by omega, ?_⟩
              refine g_ifT (by omega) ?_
              refine u_X1_drawHolders_59 ?_
              refine g_A (by omega) (by omega) ?_
              exact ih_n_l130 (u3 + 1) m140 hm140 (by omega) (by omega) (by omega)
            · refine ⟨hS.k68, ?_⟩
              refine u_X5_canHoldMore ?_
              refine ⟨hS.k68, ?_⟩
              refine u_X5_isAtPlace ?_
              refine g_getr 3 70 rfl hS.k68 hm140.f_68_3 (by decide) ?_
              refine g_ld (0) (5) hS.k70 hS.l70 (by omega) (by omega) (hm140.a_70 (by omega) (by omega)) (fun v149 ev149 bv149 cv149 => ?_)
              refine g_if (fun w150 => ?_) (fun w150 => ?_)
              · refine g_C ?_
                refine ⟨by omega, ?_⟩
                refine g_ifT (by omega) ?_
                refine g_C ?_
                refine ⟨by omega, ?_⟩
                refine g_ifT (by omega) ?_
                refine g_C ?_
                refine ⟨by omega, ?_⟩
                refine g_ifT (by omega) ?_
                refine u_X1_drawHolders_59 ?_
                refine g_A (by omega) (by omega) ?_
                exact ih_n_l130 (u3 + 1) m140 hm140 (by omega) (by omega) (by omega)
              · refine g_C ?_
                refine ⟨by omega, ?_⟩
                refine g_ifF (by omega) ?_
                refine ⟨hS.k68, ?_⟩
                refine u_X5_howManyHeld ?_
                refine ⟨hS.k68, ?_⟩
                refine z_X5_heldBits hS hm140 (by decide) (by omega) (by omega) (fun v151 bv151 cv151 => ?_)
                refine z_J6_bitCount_0f7a4 hS hm140 (by omega) (by omega) (fun v152 bv152 cv152 => ?_)
                refine g_C ?_
                refine g_if (fun w153 => ?_) (fun w153 => ?_)
                · refine g_C ?_
                  refine ⟨by omega, ?_⟩
                  refine g_ifT (by omega) ?_
                  refine g_C ?_
                  refine ⟨by omega, ?_⟩
                  refine g_ifT (by omega) ?_
                  refine u_X1_drawHolders_59 ?_
                  refine g_A (by omega) (by omega) ?_
                  exact ih_n_l130 (u3 + 1) m140 hm140 (by omega) (by omega) (by omega)
                · refine g_C ?_
                  refine ⟨by omega, ?_⟩
                  refine g_ifF (by omega) ?_
                  refine g_C ?_
                  refine ⟨by omega, ?_⟩
                  refine g_ifF (by omega) ?_
                  refine ⟨hS.k68, ?_⟩
                  refine u_X5_giveTo ?_
                  refine g_getr 6 73 rfl hS.k68 hm140.f_68_6 (by decide) ?_
                  refine g_st hS.k73 hS.l73 (by omega) (by omega) (hm140.wa_73 (by omega) (by omega) (by omega) (by omega)) (fun m154 em154 hm154 => ?_)
                  refine g_getr 5 72 rfl hS.k68 hm154.f_68_5 (by decide) ?_
                  refine g_C ?_
                  refine g_st hS.k72 hS.l72 (by omega) (by omega) (hm154.wa_72 (by omega) (by omega) (by omega) (by omega)) (fun m155 em155 hm155 => ?_)
                  refine u_X1_drawHolders_59 ?_
                  refine g_A (by omega) (by omega) ?_
                  exact ih_n_l130 (u3 + 1) m155 hm155 (by omega) (by omega) (by omega)
  exact ⟨5, L_n_l130 5 0 m0 hm0 (by omega) (by omega) (by omega)⟩
theorem z_X1_drawRoads {X : Mm} {S : Sh} {m0 : Mm} {K : Mm → Prop} (hS : Shp S) (hm0 : Inv X S m0)  (hk : ∀ (M1 : Mm), Inv X S M1 → K M1) : wp_X1_drawRoads S m0 57 68 K := by
  refine u_X1_drawRoads ?_
  refine g_C ?_
  have L_n_l125 : ∀ (n_l125 : Nat) (u3 : Int) (m4 : Mm), Inv X S m4 → 0 ≤ u3 → u3 ≤ 5 → 6 - u3 ≤ (n_l125 : Int) → wp_X1_drawRoads_2 S K n_l125 57 68 u3 m4 := by
    intro n_l125
    induction n_l125 with
    | zero => intro u3 m4 hm4 bu3 cu3 zn_l125; exfalso; omega
    | succ n_l125 ih_n_l125 =>
      intro u3 m4 hm4 bu3 cu3 zn_l125
      refine u_X1_drawRoads_2 ?_
      refine g_getr 1 4 rfl hS.k57 hm4.f_57_1 (by decide) ?_
      refine g_get 4 (0) (5) rfl hS.k4 hm4.f_4_4 (fun v126 ev126 bv126 cv126 => ?_)
      refine g_if (fun w127 => ?_) (fun w127 => ?_)
      · exact hk m4 hm4
      · refine ⟨hS.k68, ?_⟩
        refine u_X5_isAtPlace ?_
        refine g_getr 3 70 rfl hS.k68 hm4.f_68_3 (by decide) ?_
        refine g_ld (0) (5) hS.k70 hS.l70 (by omega) (by omega) (hm4.a_70 (by omega) (by omega)) (fun v128 ev128 bv128 cv128 => ?_)
        refine g_if (fun w129 => ?_) (fun w129 => ?_)
        · refine g_C ?_
          refine ⟨by omega, ?_⟩
          refine g_ifT (by omega) ?_
          refine u_X1_drawRoads_69 ?_
          refine g_A (by omega) (by omega) ?_
          exact ih_n_l125 (u3 + 1) m4 hm4 (by omega) (by omega) (by omega)
        · refine g_C ?_
          refine ⟨by omega, ?_⟩
          refine g_ifF (by omega) ?_
          refine g_getr 1 4 rfl hS.k57 hm4.f_57_1 (by decide) ?_
          refine g_get 0 (0) (6) rfl hS.k4 hm4.f_4_0 (fun v130 ev130 bv130 cv130 => ?_)
          refine g_if (fun w131 => ?_) (fun w131 => ?_)
          · refine u_X1_drawRoads_69 ?_
            refine g_A (by omega) (by omega) ?_
            exact ih_n_l125 (u3 + 1) m4 hm4 (by omega) (by omega) (by omega)
          · refine ⟨hS.k57, ?_⟩
            refine u_X1_draw ?_
            refine g_get 2 (0) (2147483647) rfl hS.k57 hm4.f_57_2 (fun v132 ev132 bv132 cv132 => ?_)
            refine g_C ?_
            refine g_C ?_
            refine g_LM (by omega) (by omega) ?_
            refine g_C ?_
            refine g_LA (by omega) (by omega) ?_
            refine g_C ?_
            refine g_lAndM (fun v133 bv133 cv133 => ?_)
            refine g_w32 (by omega) (by omega) ?_
            refine g_put 2 rfl hS.k57 (hm4.w_57_2 (by omega) (by omega)) (fun m135 em135 hm135 => ?_)
            refine g_get 2 (0) (2147483647) rfl hS.k57 hm135.f_57_2 (fun v136 ev136 bv136 cv136 => ?_)
            have qv136 : v136 = v133 := ev136.trans ((congrFun (congrFun em135 _) _).trans (up_ate (by omega)))
            refine g_C ?_
            refine g_iDivc (d := 65536) (by omega) (by omega) (by decide) (fun v137 bv137 cv137 => ?_)
            refine g_getr 1 4 rfl hS.k57 hm135.f_57_1 (by decide) ?_
            refine g_get 0 (0) (6) rfl hS.k4 hm135.f_4_0 (fun v138 ev138 bv138 cv138 => ?_)
            have qv138 : v138 = v130 := ev138.trans ((congrFun (congrFun em135 _) _).trans ((up_ne (by omega)).trans ev130.symm))
            refine g_iRem (by omega) (by omega) (by omega) (by omega) (fun v139 bv139 cv139 => ?_)
            refine g_getr 1 4 rfl hS.k57 hm135.f_57_1 (by decide) ?_
            refine ⟨hS.k68, ?_⟩
            refine u_X5_roadFor ?_
            refine ⟨hS.k68, ?_⟩
            refine u_X5_isAtPlace ?_
            refine g_getr 3 70 rfl hS.k68 hm135.f_68_3 (by decide) ?_
            refine g_ld (0) (5) hS.k70 hS.l70 (by omega) (by omega) (hm135.a_70 (by omega) (by omega)) (fun v140 ev140 bv140 cv140 => ?_)
            have qv140 : v140 = v128 := ev140.trans ((congrFun (congrFun em135 _) _).trans ((up_ne (by omega)).trans ev128.symm))
            refine g_ifF (by omega) ?_
            refine g_C ?_
            refine ⟨by omega, ?_⟩
            refine g_ifF (by omega) ?_
            refine g_getr 2 69 rfl hS.k68 hm135.f_68_2 (by decide) ?_
            refine g_ld (0) (5) hS.k69 hS.l69 (by omega) (by omega) (hm135.a_69 (by omega) (by omega)) (fun v141 ev141 bv141 cv141 => ?_)
            refine ⟨hS.k4, ?_⟩
            refine u_X8_roadHours ?_
            refine g_getr 8 5 rfl hS.k4 hm135.f_4_8 (by decide) ?_
            refine u_X8_pair ?_
            refine g_C ?_
            refine g_M (by omega) (by omega) ?_
            refine g_A (by omega) (by omega) ?_
            refine g_ld (0) (5) hS.k5 hS.l5 (by omega) (by omega) (hm135.a_5 (by omega) (by omega)) (fun v142 ev142 bv142 cv142 => ?_)
            refine g_if (fun w143 => ?_) (fun w143 => ?_)
            · refine u_X1_drawRoads_69 ?_
              refine g_A (by omega) (by omega) ?_
              exact ih_n_l125 (u3 + 1) m135 hm135 (by omega) (by omega) (by omega)
            · refine ⟨hS.k68, ?_⟩
              refine u_X5_setOut ?_
              refine g_getr 2 69 rfl hS.k68 hm135.f_68_2 (by decide) ?_
              refine g_st hS.k69 hS.l69 (by omega) (by omega) (hm135.wa_69 (by omega) (by omega) (by omega) (by omega)) (fun m144 em144 hm144 => ?_)
              refine g_getr 3 70 rfl hS.k68 hm144.f_68_3 (by decide) ?_
              refine g_st hS.k70 hS.l70 (by omega) (by omega) (hm144.wa_70 (by omega) (by omega) (by omega) (by omega)) (fun m145 em145 hm145 => ?_)
              refine u_X1_drawRoads_69 ?_
              refine g_A (by omega) (by omega) ?_
              exact ih_n_l125 (u3 + 1) m145 hm145 (by omega) (by omega) (by omega)
  exact ⟨6, L_n_l125 6 0 m0 hm0 (by omega) (by omega) (by omega)⟩
theorem z_X1_passByDraws {X : Mm} {S : Sh} {m0 : Mm} {K : Mm → Prop} {u2 : Int} (hS : Shp S) (hm0 : Inv X S m0) (l_u2 : 1 ≤ u2) (h_u2 : u2 ≤ 60) (hk : ∀ (M1 : Mm), Inv X S M1 → K M1) : wp_X1_passByDraws S m0 57 68 u2 K := by
  refine u_X1_passByDraws ?_
  refine g_C ?_
  have L_n_l85 : ∀ (n_l85 : Nat) (u4 : Int) (m5 : Mm), Inv X S m5 → 0 ≤ u4 → u4 ≤ 60 → 61 - u4 ≤ (n_l85 : Int) → wp_X1_passByDraws_2 S K n_l85 57 68 u2 u4 m5 := by
    intro n_l85
    induction n_l85 with
    | zero => intro u4 m5 hm5 bu4 cu4 zn_l85; exfalso; omega
    | succ n_l85 ih_n_l85 =>
      intro u4 m5 hm5 bu4 cu4 zn_l85
      refine u_X1_passByDraws_2 ?_
      refine g_if (fun w86 => ?_) (fun w86 => ?_)
      · exact hk m5 hm5
      · refine ⟨hS.k57, ?_⟩
        refine z_X1_drawRoads hS hm5 (fun m87 hm87 => ?_)
        refine ⟨hS.k57, ?_⟩
        refine z_X1_drawHolders hS hm87 (fun m88 hm88 => ?_)
        refine ⟨hS.k57, ?_⟩
        refine z_X1_pass hS hm88 (by decide) (fun v89 m90 hm90 bv89 cv89 => ?_)
        refine g_A (by omega) (by omega) ?_
        exact ih_n_l85 (u4 + 1) m90 hm90 (by omega) (by omega) (by omega)
  exact ⟨61, L_n_l85 61 0 m0 hm0 (by omega) (by omega) (by omega)⟩
theorem z_X5_howManySour {X : Mm} {S : Sh} {m0 : Mm} {K : Int → Mm → Prop} {u1 : Int} (hS : Shp S) (hm0 : Inv X S m0) (l_u1 : 0 ≤ u1) (h_u1 : u1 ≤ 99) (hk : ∀ (r : Int), (-2147483648) ≤ r → r ≤ 2147483647 → K r m0) : wp_X5_howManySour S m0 68 u1 K := by
  refine u_X5_howManySour ?_
  refine g_C ?_
  refine g_C ?_
  have L_n_l213 : ∀ (n_l213 : Nat) (u3 : Int) (u4 : Int), (-2147483648) ≤ u3 → u3 ≤ 2147483647 → 0 ≤ u4 → u4 ≤ 4 → 5 - u4 ≤ (n_l213 : Int) → wp_X5_howManySour_4 S K n_l213 68 u1 u3 u4 m0 := by
    intro n_l213
    induction n_l213 with
    | zero => intro u3 u4 bu3 cu3 bu4 cu4 zn_l213; exfalso; omega
    | succ n_l213 ih_n_l213 =>
      intro u3 u4 bu3 cu3 bu4 cu4 zn_l213
      refine u_X5_howManySour_4 ?_
      refine g_C ?_
      refine g_if (fun w214 => ?_) (fun w214 => ?_)
      · exact hk u3 (by omega) (by omega)
      · refine ⟨hS.k68, ?_⟩
        refine u_X5_isGone ?_
        refine g_getr 5 72 rfl hS.k68 hm0.f_68_5 (by decide) ?_
        refine g_ld (-1) (5) hS.k72 hS.l72 (by omega) (by omega) (hm0.a_72 (by omega) (by omega)) (fun v215 ev215 bv215 cv215 => ?_)
        refine g_C ?_
        refine g_if (fun w216 => ?_) (fun w216 => ?_)
        · refine g_C ?_
          refine ⟨by omega, ?_⟩
          refine g_ifF (by omega) ?_
          refine g_getr 7 74 rfl hS.k68 hm0.f_68_7 (by decide) ?_
          refine g_ld (0) (999) hS.k74 hS.l74 (by omega) (by omega) (hm0.a_74 (by omega) (by omega)) (fun v217 ev217 bv217 cv217 => ?_)
          refine g_if (fun w218 => ?_) (fun w218 => ?_)
          · refine u_X5_howManySour_32 ?_
            refine g_C ?_
            refine u_X5_howManySour_33 ?_
            refine g_A (by omega) (by omega) ?_
            refine g_A (by omega) (by omega) ?_
            exact ih_n_l213 (u3 + 0) (u4 + 1) (by omega) (by omega) (by omega) (by omega) (by omega)
          · refine g_C ?_
            refine u_X5_howManySour_33 ?_
            refine g_Aw (fun v219 bv219 cv219 => ?_)
            refine g_A (by omega) (by omega) ?_
            exact ih_n_l213 v219 (u4 + 1) (by omega) (by omega) (by omega) (by omega) (by omega)
        · refine g_getr 6 73 rfl hS.k68 hm0.f_68_6 (by decide) ?_
          refine g_ld (-1) (4) hS.k73 hS.l73 (by omega) (by omega) (hm0.a_73 (by omega) (by omega)) (fun v220 ev220 bv220 cv220 => ?_)
          refine g_C ?_
          refine g_if (fun w221 => ?_) (fun w221 => ?_)
          · refine g_C ?_
            refine ⟨by omega, ?_⟩
            refine g_ifF (by omega) ?_
            refine g_getr 7 74 rfl hS.k68 hm0.f_68_7 (by decide) ?_
            refine g_ld (0) (999) hS.k74 hS.l74 (by omega) (by omega) (hm0.a_74 (by omega) (by omega)) (fun v222 ev222 bv222 cv222 => ?_)
            refine g_if (fun w223 => ?_) (fun w223 => ?_)
            · refine u_X5_howManySour_32 ?_
              refine g_C ?_
              refine u_X5_howManySour_33 ?_
              refine g_A (by omega) (by omega) ?_
              refine g_A (by omega) (by omega) ?_
              exact ih_n_l213 (u3 + 0) (u4 + 1) (by omega) (by omega) (by omega) (by omega) (by omega)
            · refine g_C ?_
              refine u_X5_howManySour_33 ?_
              refine g_Aw (fun v224 bv224 cv224 => ?_)
              refine g_A (by omega) (by omega) ?_
              exact ih_n_l213 v224 (u4 + 1) (by omega) (by omega) (by omega) (by omega) (by omega)
          · refine g_C ?_
            refine ⟨by omega, ?_⟩
            refine g_ifT (by omega) ?_
            refine u_X5_howManySour_32 ?_
            refine g_C ?_
            refine u_X5_howManySour_33 ?_
            refine g_A (by omega) (by omega) ?_
            refine g_A (by omega) (by omega) ?_
            exact ih_n_l213 (u3 + 0) (u4 + 1) (by omega) (by omega) (by omega) (by omega) (by omega)
  exact ⟨5, L_n_l213 5 0 0 (by omega) (by omega) (by omega) (by omega) (by omega)⟩
theorem z_X11_years {X : Mm} {S : Sh} {m0 : Mm} {K : Int → Mm → Prop} {u1 u2 u3 : Int} (hS : Shp S) (hm0 : Inv X S m0) (l_u1 : (-2147483648) ≤ u1) (h_u1 : u1 ≤ 2147483647) (l_u2 : (-2147483648) ≤ u2) (h_u2 : u2 ≤ 2147483647) (l_u3 : (-2147483648) ≤ u3) (h_u3 : u3 ≤ 2147483647) (hk : ∀ (r : Int) (M1 : Mm), Inv X S M1 → (-2147483648) ≤ r → r ≤ 2147483647 → K r M1) : wp_X11_years S m0 0 u1 u2 u3 K := by
  refine u_X11_years ?_
  refine g_getr 1 3 rfl hS.k0 hm0.f_0_1 (by decide) ?_
  refine g_getr 0 4 rfl hS.k3 hm0.f_3_0 (by decide) ?_
  refine g_get 0 (0) (6) rfl hS.k4 hm0.f_4_0 (fun v1 ev1 bv1 cv1 => ?_)
  refine g_if (fun w2 => ?_) (fun w2 => ?_)
  · refine g_C ?_
    exact hk (-1) m0 hm0 (by omega) (by omega)
  · refine g_C ?_
    refine g_if (fun w3 => ?_) (fun w3 => ?_)
    · refine g_C ?_
      exact hk (-1) m0 hm0 (by omega) (by omega)
    · refine g_C ?_
      refine g_if (fun w4 => ?_) (fun w4 => ?_)
      · refine g_C ?_
        exact hk (-1) m0 hm0 (by omega) (by omega)
      · refine g_C ?_
        refine g_if (fun w5 => ?_) (fun w5 => ?_)
        · refine g_C ?_
          exact hk (-1) m0 hm0 (by omega) (by omega)
        · refine g_C ?_
          refine g_if (fun w6 => ?_) (fun w6 => ?_)
          · refine g_C ?_
            exact hk (-1) m0 hm0 (by omega) (by omega)
          · refine g_if (fun w7 => ?_) (fun w7 => ?_)
            · refine g_C ?_
              exact hk (-1) m0 hm0 (by omega) (by omega)
            · refine g_C ?_
              refine g_if (fun w8 => ?_) (fun w8 => ?_)
              · refine g_C ?_
                refine g_getr 11 57 rfl hS.k0 hm0.f_0_11 (by decide) ?_
                refine g_getr 1 3 rfl hS.k0 hm0.f_0_1 (by decide) ?_
                refine g_get 3 (0) (2147483647) rfl hS.k3 hm0.f_3_3 (fun v9 ev9 bv9 cv9 => ?_)
                refine g_put 2 rfl hS.k57 (hm0.w_57_2 (by omega) (by omega)) (fun m10 em10 hm10 => ?_)
                refine g_C ?_
                have L_n_l114 : ∀ (n_l114 : Nat) (u15 : Int) (u16 : Int) (m17 : Mm), Inv X S m17 → (-2147483648) ≤ u15 → u15 ≤ 2147483647 → 0 ≤ u16 → u16 ≤ 10 → 11 - u16 ≤ (n_l114 : Int) → wp_X11_years_66 S K n_l114 0 u1 u2 u3 u15 u16 m17 := by
                  intro n_l114
                  induction n_l114 with
                  | zero => intro u15 u16 m17 hm17 bu15 cu15 bu16 cu16 zn_l114; exfalso; omega
                  | succ n_l114 ih_n_l114 =>
                    intro u15 u16 m17 hm17 bu15 cu15 bu16 cu16 zn_l114
                    refine u_X11_years_66 ?_
                    refine g_if (fun w115 => ?_) (fun w115 => ?_)
                    · exact hk u15 m17 hm17 (by omega) (by omega)
                    · refine g_getr 15 68 rfl hS.k0 hm17.f_0_15 (by decide) ?_
                      refine g_getr 1 3 rfl hS.k0 hm17.f_0_1 (by decide) ?_
                      refine g_getr 1 16 rfl hS.k3 hm17.f_3_1 (by decide) ?_
                      refine ⟨hS.k68, ?_⟩
                      refine z_X5_become hS hm17 (by decide) (by decide) (fun m116 hm116 => ?_)
                      refine g_getr 11 57 rfl hS.k0 hm116.f_0_11 (by decide) ?_
                      refine g_getr 15 68 rfl hS.k0 hm116.f_0_15 (by decide) ?_
                      refine ⟨hS.k57, ?_⟩
                      refine z_X1_passByDraws hS hm116 (by omega) (by omega) (fun m117 hm117 => ?_)
                      refine g_if (fun w118 => ?_) (fun w118 => ?_)
                      · refine g_getr 15 68 rfl hS.k0 hm117.f_0_15 (by decide) ?_
                        refine ⟨hS.k68, ?_⟩
                        refine z_X5_turnedTogether hS hm117 (fun v119 bv119 cv119 => ?_)
                        refine u_X11_years_131 ?_
                        refine g_Aw (fun v120 bv120 cv120 => ?_)
                        refine g_A (by omega) (by omega) ?_
                        exact ih_n_l114 v120 (u16 + 1) m117 hm117 (by omega) (by omega) (by omega) (by omega) (by omega)
                      · refine g_getr 15 68 rfl hS.k0 hm117.f_0_15 (by decide) ?_
                        refine g_getr 1 3 rfl hS.k0 hm117.f_0_1 (by decide) ?_
                        refine g_getr 0 4 rfl hS.k3 hm117.f_3_0 (by decide) ?_
                        refine g_get 2 (0) (99) rfl hS.k4 hm117.f_4_2 (fun v121 ev121 bv121 cv121 => ?_)
                        refine ⟨hS.k68, ?_⟩
                        refine z_X5_howManySour hS hm117 (by omega) (by omega) (fun v122 bv122 cv122 => ?_)
                        refine u_X11_years_131 ?_
                        refine g_Aw (fun v123 bv123 cv123 => ?_)
                        refine g_A (by omega) (by omega) ?_
                        exact ih_n_l114 v123 (u16 + 1) m117 hm117 (by omega) (by omega) (by omega) (by omega) (by omega)
                exact ⟨11, L_n_l114 11 0 0 m10 hm10 (by omega) (by omega) (by omega) (by omega) (by omega)⟩
              · refine g_C ?_
                exact hk (-1) m0 hm0 (by omega) (by omega)
theorem z_X12_roadOf {X : Mm} {S : Sh} {m0 : Mm} {K : Int → Mm → Prop} {u1 u2 : Int} (hS : Shp S) (hm0 : Inv X S m0) (l_u1 : 0 ≤ u1) (h_u1 : u1 ≤ 5) (l_u2 : 0 ≤ u2) (h_u2 : u2 ≤ 5) (hk : ∀ (r : Int), 0 ≤ r → r ≤ 5 → K r m0) : wp_X12_roadOf S m0 336 u1 u2 K := by
  refine u_X12_roadOf ?_
  refine g_C ?_
  have L_n_l159 : ∀ (n_l159 : Nat) (u4 : Int), 0 ≤ u4 → u4 ≤ 8 → 9 - u4 ≤ (n_l159 : Int) → wp_X12_roadOf_2 S K n_l159 336 u1 u2 u4 m0 := by
    intro n_l159
    induction n_l159 with
    | zero => intro u4 bu4 cu4 zn_l159; exfalso; omega
    | succ n_l159 ih_n_l159 =>
      intro u4 bu4 cu4 zn_l159
      refine u_X12_roadOf_2 ?_
      refine g_getr 20 346 rfl hS.k336 hm0.f_336_20 (by decide) ?_
      refine g_C ?_
      refine g_ld (0) (8) hS.k346 hS.l346 (by omega) (by omega) (hm0.f_346_3) (fun v160 ev160 bv160 cv160 => ?_)
      refine g_if (fun w161 => ?_) (fun w161 => ?_)
      · refine g_C ?_
        exact hk 0 (by omega) (by omega)
      · refine g_C ?_
        refine g_C ?_
        refine g_M (by omega) (by omega) ?_
        refine g_A (by omega) (by omega) ?_
        refine g_getr 20 346 rfl hS.k336 hm0.f_336_20 (by decide) ?_
        refine g_ld (0) (5) hS.k346 hS.l346 (by omega) (by omega) (fam_346_57_3_0_7 hm0 (a := u4) (by omega) (by omega) (by omega)) (fun v162 ev162 bv162 cv162 => ?_)
        refine g_if (fun w163 => ?_) (fun w163 => ?_)
        · refine u_X12_roadOf_44 ?_
          refine g_getr 20 346 rfl hS.k336 hm0.f_336_20 (by decide) ?_
          refine g_ld (0) (5) hS.k346 hS.l346 (by omega) (by omega) (fam_346_57_3_0_7 hm0 (a := u4) (by omega) (by omega) (by omega)) (fun v164 ev164 bv164 cv164 => ?_)
          have qv164 : v164 = v162 := ev164.trans ev162.symm
          refine g_if (fun w165 => ?_) (fun w165 => ?_)
          · refine u_X12_roadOf_78 ?_
            refine g_A (by omega) (by omega) ?_
            exact ih_n_l159 (u4 + 1) (by omega) (by omega) (by omega)
          · refine g_getr 20 346 rfl hS.k336 hm0.f_336_20 (by decide) ?_
            refine g_C ?_
            refine g_A (by omega) (by omega) ?_
            refine g_ld (0) (5) hS.k346 hS.l346 (by omega) (by omega) (fam_346_58_3_0_7 hm0 (a := u4) (by omega) (by omega) (by omega)) (fun v166 ev166 bv166 cv166 => ?_)
            refine g_if (fun w167 => ?_) (fun w167 => ?_)
            · refine u_X12_roadOf_78 ?_
              refine g_A (by omega) (by omega) ?_
              exact ih_n_l159 (u4 + 1) (by omega) (by omega) (by omega)
            · refine u_X12_roadOf_68 ?_
              refine g_getr 20 346 rfl hS.k336 hm0.f_336_20 (by decide) ?_
              refine g_C ?_
              refine g_A (by omega) (by omega) ?_
              refine g_ld (0) (5) hS.k346 hS.l346 (by omega) (by omega) (fam_346_59_3_0_7 hm0 (a := u4) (by omega) (by omega) (by omega)) (fun v168 ev168 bv168 cv168 => ?_)
              exact hk v168 (by omega) (by omega)
        · refine g_getr 20 346 rfl hS.k336 hm0.f_336_20 (by decide) ?_
          refine g_C ?_
          refine g_A (by omega) (by omega) ?_
          refine g_ld (0) (5) hS.k346 hS.l346 (by omega) (by omega) (fam_346_58_3_0_7 hm0 (a := u4) (by omega) (by omega) (by omega)) (fun v169 ev169 bv169 cv169 => ?_)
          refine g_if (fun w170 => ?_) (fun w170 => ?_)
          · refine u_X12_roadOf_68 ?_
            refine g_getr 20 346 rfl hS.k336 hm0.f_336_20 (by decide) ?_
            refine g_C ?_
            refine g_A (by omega) (by omega) ?_
            refine g_ld (0) (5) hS.k346 hS.l346 (by omega) (by omega) (fam_346_59_3_0_7 hm0 (a := u4) (by omega) (by omega) (by omega)) (fun v171 ev171 bv171 cv171 => ?_)
            exact hk v171 (by omega) (by omega)
          · refine u_X12_roadOf_44 ?_
            refine g_getr 20 346 rfl hS.k336 hm0.f_336_20 (by decide) ?_
            refine g_ld (0) (5) hS.k346 hS.l346 (by omega) (by omega) (fam_346_57_3_0_7 hm0 (a := u4) (by omega) (by omega) (by omega)) (fun v172 ev172 bv172 cv172 => ?_)
            have qv172 : v172 = v162 := ev172.trans ev162.symm
            refine g_if (fun w173 => ?_) (fun w173 => ?_)
            · refine u_X12_roadOf_78 ?_
              refine g_A (by omega) (by omega) ?_
              exact ih_n_l159 (u4 + 1) (by omega) (by omega) (by omega)
            · refine g_getr 20 346 rfl hS.k336 hm0.f_336_20 (by decide) ?_
              refine g_C ?_
              refine g_A (by omega) (by omega) ?_
              refine g_ld (0) (5) hS.k346 hS.l346 (by omega) (by omega) (fam_346_58_3_0_7 hm0 (a := u4) (by omega) (by omega) (by omega)) (fun v174 ev174 bv174 cv174 => ?_)
              have qv174 : v174 = v169 := ev174.trans ev169.symm
              refine g_if (fun w175 => ?_) (fun w175 => ?_)
              · refine u_X12_roadOf_78 ?_
                refine g_A (by omega) (by omega) ?_
                exact ih_n_l159 (u4 + 1) (by omega) (by omega) (by omega)
              · refine u_X12_roadOf_68 ?_
                refine g_getr 20 346 rfl hS.k336 hm0.f_336_20 (by decide) ?_
                refine g_C ?_
                refine g_A (by omega) (by omega) ?_
                refine g_ld (0) (5) hS.k346 hS.l346 (by omega) (by omega) (fam_346_59_3_0_7 hm0 (a := u4) (by omega) (by omega) (by omega)) (fun v176 ev176 bv176 cv176 => ?_)
                exact hk v176 (by omega) (by omega)
  exact ⟨9, L_n_l159 9 0 (by omega) (by omega) (by omega)⟩
theorem z_X12_bits {X : Mm} {S : Sh} {m0 : Mm} {K : Int → Mm → Prop} {u0 : Int} (hS : Shp S) (hm0 : Inv X S m0) (l_u0 : 0 ≤ u0) (h_u0 : u0 ≤ 1023) (hk : ∀ (r : Int), 0 ≤ r → r ≤ 1024 → K r m0) : wp_X12_bits S m0 u0 K := s_X12_bits ⟨l_u0, by omega⟩ (fun r hr => hk r hr.1 hr.2)
