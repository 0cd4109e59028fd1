theorem z_X5_turnedTogether {X : Mm} {S : Sh} {m0 : Mm} {K : Int → Mm → Prop} (hS : Shp S) (hm0 : Inv X S m0)  (hk : ∀ (r : Int), (-2147483648) ≤ r → r ≤ 2147483647 → K r m0) : wp_X5_turnedTogether S m0 68 K := by
  refine u_X5_turnedTogether ?_
  refine g_C ?_
  refine g_C ?_
  have L_n_l82 : ∀ (n_l82 : Nat) (u2 : Int) (u3 : Int), (-2147483648) ≤ u2 → u2 ≤ 2147483647 → 0 ≤ u3 → u3 ≤ 4 → 5 - u3 ≤ (n_l82 : Int) → wp_X5_turnedTogether_4 S K n_l82 68 u2 u3 m0 := by
    intro n_l82
    induction n_l82 with
    | zero => intro u2 u3 bu2 cu2 bu3 cu3 zn_l82; exfalso; omega
    | succ n_l82 ih_n_l82 =>
      intro u2 u3 bu2 cu2 bu3 cu3 zn_l82
      refine u_X5_turnedTogether_4 ?_
      refine g_C ?_
      refine g_if (fun w83 => ?_) (fun w83 => ?_)
      · exact hk u2 (by omega) (by omega)
      · refine ⟨hS.k68, ?_⟩
        refine u_X5_isGone ?_
        refine g_getr 5 72 rfl hS.k68 hm0.f_68_5 (by decide) ?_
        refine g_ld (-1) (5) hS.k72 hS.l72 (by omega) (by omega) (hm0.a_72 (by omega) (by omega)) (fun v84 ev84 bv84 cv84 => ?_)
        refine g_C ?_
        refine g_if (fun w85 => ?_) (fun w85 => ?_)
        · refine g_C ?_
          refine ⟨by omega, ?_⟩
          refine g_ifT (by omega) ?_
          refine g_getr 7 74 rfl hS.k68 hm0.f_68_7 (by decide) ?_
          refine g_ld (0) (999) hS.k74 hS.l74 (by omega) (by omega) (hm0.a_74 (by omega) (by omega)) (fun v86 ev86 bv86 cv86 => ?_)
          refine u_X5_turnedTogether_28 ?_
          refine g_Aw (fun v87 bv87 cv87 => ?_)
          refine g_A (by omega) (by omega) ?_
          exact ih_n_l82 v87 (u3 + 1) (by omega) (by omega) (by omega) (by omega) (by omega)
        · refine g_getr 6 73 rfl hS.k68 hm0.f_68_6 (by decide) ?_
          refine g_ld (-1) (4) hS.k73 hS.l73 (by omega) (by omega) (hm0.a_73 (by omega) (by omega)) (fun v88 ev88 bv88 cv88 => ?_)
          refine g_C ?_
          refine g_if (fun w89 => ?_) (fun w89 => ?_)
          · refine g_C ?_
            refine ⟨by omega, ?_⟩
            refine g_ifT (by omega) ?_
            refine g_getr 7 74 rfl hS.k68 hm0.f_68_7 (by decide) ?_
            refine g_ld (0) (999) hS.k74 hS.l74 (by omega) (by omega) (hm0.a_74 (by omega) (by omega)) (fun v90 ev90 bv90 cv90 => ?_)
            refine u_X5_turnedTogether_28 ?_
            refine g_Aw (fun v91 bv91 cv91 => ?_)
            refine g_A (by omega) (by omega) ?_
            exact ih_n_l82 v91 (u3 + 1) (by omega) (by omega) (by omega) (by omega) (by omega)
          · refine g_C ?_
            refine ⟨by omega, ?_⟩
            refine g_ifF (by omega) ?_
            refine g_C ?_
            refine u_X5_turnedTogether_28 ?_
            refine g_A (by omega) (by omega) ?_
            refine g_A (by omega) (by omega) ?_
            exact ih_n_l82 (u2 + 0) (u3 + 1) (by omega) (by omega) (by omega) (by omega) (by omega)
  exact ⟨5, L_n_l82 5 0 0 (by omega) (by omega) (by omega) (by omega) (by omega)⟩
theorem z_X6_payWith {X : Mm} {S : Sh} {m0 : Mm} {K : Int → Mm → Prop} {u2 u3 u4 : Int} (hS : Shp S) (hm0 : Inv X S m0) (l_u2 : 0 ≤ u2) (h_u2 : u2 ≤ 5) (l_u3 : 0 ≤ u3) (h_u3 : u3 ≤ 15) (l_u4 : (-1) ≤ u4) (h_u4 : u4 ≤ 3) (hk : ∀ (r : Int), (-2147483648) ≤ r → r ≤ 2147483647 → K r m0) : wp_X6_payWith S m0 63 16 u2 u3 u4 K := by
  refine u_X6_payWith ?_
  refine g_C ?_
  refine g_A (by omega) (by omega) ?_
  refine g_C ?_
  refine g_M (by omega) (by omega) ?_
  refine g_C ?_
  refine g_if (fun w1 => ?_) (fun w1 => ?_)
  · refine g_iShr (by omega) (by omega) (fun v2 bv2 cv2 => ?_)
    refine g_C ?_
    refine g_iAndR (by omega) (by omega) (fun v3 dv3 bv3 cv3 => ?_)
    refine g_if (fun w4 => ?_) (fun w4 => ?_)
    · refine u_X6_payWith_46 ?_
      refine g_C ?_
      refine u_X6_payWith_47 ?_
      refine g_ifT (by omega) ?_
      refine g_C ?_
      exact hk (-1) (by omega) (by omega)
    · refine ⟨hS.k16, ?_⟩
      refine u_X5_isGone ?_
      refine g_getr 5 20 rfl hS.k16 hm0.f_16_5 (by decide) ?_
      refine g_ld (-1) (5) hS.k20 hS.l20 (by omega) (by omega) (hm0.a_20 (by omega) (by omega)) (fun v5 ev5 bv5 cv5 => ?_)
      refine g_C ?_
      refine g_if (fun w6 => ?_) (fun w6 => ?_)
      · refine g_C ?_
        refine ⟨by omega, ?_⟩
        refine g_ifF (by omega) ?_
        refine g_C ?_
        refine u_X6_payWith_47 ?_
        refine g_ifF (by omega) ?_
        refine g_getr 8 23 rfl hS.k16 hm0.f_16_8 (by decide) ?_
        refine g_ld (-1) (999) hS.k23 hS.l23 (by omega) (by omega) (hm0.a_23 (by omega) (by omega)) (fun v7 ev7 bv7 cv7 => ?_)
        refine g_C ?_
        refine g_if (fun w8 => ?_) (fun w8 => ?_)
        · refine g_C ?_
          exact hk (-1) (by omega) (by omega)
        · refine g_getr 0 4 rfl hS.k63 hm0.f_63_0 (by decide) ?_
          refine g_getr 7 22 rfl hS.k16 hm0.f_16_7 (by decide) ?_
          refine g_ld (0) (999) hS.k22 hS.l22 (by omega) (by omega) (hm0.a_22 (by omega) (by omega)) (fun v9 ev9 bv9 cv9 => ?_)
          refine ⟨hS.k4, ?_⟩
          refine u_X8_suits ?_
          refine g_getr 16 13 rfl hS.k4 hm0.f_4_16 (by decide) ?_
          refine g_ld (0) (99) hS.k13 hS.l13 (by omega) (by omega) (hm0.a_13 (by omega) (by omega)) (fun v10 ev10 bv10 cv10 => ?_)
          refine g_if (fun w11 => ?_) (fun w11 => ?_)
          · refine g_C ?_
            refine ⟨by omega, ?_⟩
            refine g_ifF (by omega) ?_
            refine g_C ?_
            exact hk (-1) (by omega) (by omega)
          · refine g_getr 17 14 rfl hS.k4 hm0.f_4_17 (by decide) ?_
            refine g_ld (0) (99) hS.k14 hS.l14 (by omega) (by omega) (hm0.a_14 (by omega) (by omega)) (fun v12 ev12 bv12 cv12 => ?_)
            refine g_if (fun w13 => ?_) (fun w13 => ?_)
            · refine g_C ?_
              refine ⟨by omega, ?_⟩
              refine g_ifF (by omega) ?_
              refine g_C ?_
              exact hk (-1) (by omega) (by omega)
            · refine g_C ?_
              refine ⟨by omega, ?_⟩
              refine g_ifT (by omega) ?_
              refine g_getr 0 4 rfl hS.k63 hm0.f_63_0 (by decide) ?_
              refine g_getr 18 15 rfl hS.k4 hm0.f_4_18 (by decide) ?_
              refine g_ld (0) (50) hS.k15 hS.l15 (by omega) (by omega) (hm0.a_15 (by omega) (by omega)) (fun v14 ev14 bv14 cv14 => ?_)
              refine g_getr 1 64 rfl hS.k63 hm0.f_63_1 (by decide) ?_
              refine g_C ?_
              refine g_iShl 3 (by omega) (by omega) (by decide) (fun v15 bv15 cv15 => ?_)
              refine g_iOr 4 (by omega) (by omega) (by omega) (by omega) (by decide) (fun v16 bv16 cv16 => ?_)
              refine g_A (by omega) (by omega) ?_
              refine g_ld (-2147483648) (2147483647) hS.k64 hS.l64 (by omega) (by omega) (hm0.a_64 (by omega) (by omega)) (fun v17 ev17 bv17 cv17 => ?_)
              refine g_Aw (fun v18 bv18 cv18 => ?_)
              exact hk v18 (by omega) (by omega)
      · refine g_getr 6 21 rfl hS.k16 hm0.f_16_6 (by decide) ?_
        refine g_ld (-1) (4) hS.k21 hS.l21 (by omega) (by omega) (hm0.a_21 (by omega) (by omega)) (fun v19 ev19 bv19 cv19 => ?_)
        refine g_C ?_
        refine g_if (fun w20 => ?_) (fun w20 => ?_)
        · refine g_C ?_
          refine ⟨by omega, ?_⟩
          refine g_ifF (by omega) ?_
          refine g_C ?_
          refine u_X6_payWith_47 ?_
          refine g_ifF (by omega) ?_
          refine g_getr 8 23 rfl hS.k16 hm0.f_16_8 (by decide) ?_
          refine g_ld (-1) (999) hS.k23 hS.l23 (by omega) (by omega) (hm0.a_23 (by omega) (by omega)) (fun v21 ev21 bv21 cv21 => ?_)
          refine g_C ?_
          refine g_if (fun w22 => ?_) (fun w22 => ?_)
          · refine g_C ?_
            exact hk (-1) (by omega) (by omega)
          · refine g_getr 0 4 rfl hS.k63 hm0.f_63_0 (by decide) ?_
            refine g_getr 7 22 rfl hS.k16 hm0.f_16_7 (by decide) ?_
            refine g_ld (0) (999) hS.k22 hS.l22 (by omega) (by omega) (hm0.a_22 (by omega) (by omega)) (fun v23 ev23 bv23 cv23 => ?_)
            refine ⟨hS.k4, ?_⟩
            refine u_X8_suits ?_
            refine g_getr 16 13 rfl hS.k4 hm0.f_4_16 (by decide) ?_
            refine g_ld (0) (99) hS.k13 hS.l13 (by omega) (by omega) (hm0.a_13 (by omega) (by omega)) (fun v24 ev24 bv24 cv24 => ?_)
            refine g_if (fun w25 => ?_) (fun w25 => ?_)
            · refine g_C ?_
              refine ⟨by omega, ?_⟩
              refine g_ifF (by omega) ?_
              refine g_C ?_
              exact hk (-1) (by omega) (by omega)
            · refine g_getr 17 14 rfl hS.k4 hm0.f_4_17 (by decide) ?_
              refine g_ld (0) (99) hS.k14 hS.l14 (by omega) (by omega) (hm0.a_14 (by omega) (by omega)) (fun v26 ev26 bv26 cv26 => ?_)
              refine g_if (fun w27 => ?_) (fun w27 => ?_)
              · refine g_C ?_
                refine ⟨by omega, ?_⟩
                refine g_ifF (by omega) ?_
                refine g_C ?_
                exact hk (-1) (by omega) (by omega)
              · refine g_C ?_
                refine ⟨by omega, ?_⟩
                refine g_ifT (by omega) ?_
                refine g_getr 0 4 rfl hS.k63 hm0.f_63_0 (by decide) ?_
                refine g_getr 18 15 rfl hS.k4 hm0.f_4_18 (by decide) ?_
                refine g_ld (0) (50) hS.k15 hS.l15 (by omega) (by omega) (hm0.a_15 (by omega) (by omega)) (fun v28 ev28 bv28 cv28 => ?_)
                refine g_getr 1 64 rfl hS.k63 hm0.f_63_1 (by decide) ?_
                refine g_C ?_
                refine g_iShl 3 (by omega) (by omega) (by decide) (fun v29 bv29 cv29 => ?_)
                refine g_iOr 4 (by omega) (by omega) (by omega) (by omega) (by decide) (fun v30 bv30 cv30 => ?_)
                refine g_A (by omega) (by omega) ?_
                refine g_ld (-2147483648) (2147483647) hS.k64 hS.l64 (by omega) (by omega) (hm0.a_64 (by omega) (by omega)) (fun v31 ev31 bv31 cv31 => ?_)
                refine g_Aw (fun v32 bv32 cv32 => ?_)
                exact hk v32 (by omega) (by omega)
        · refine g_C ?_
          refine ⟨by omega, ?_⟩
          refine g_ifT (by omega) ?_
          refine u_X6_payWith_46 ?_
          refine g_C ?_
          refine u_X6_payWith_47 ?_
          refine g_ifT (by omega) ?_
          refine g_C ?_
          exact hk (-1) (by omega) (by omega)
  · refine g_getr 1 64 rfl hS.k63 hm0.f_63_1 (by decide) ?_
    refine g_A (by omega) (by omega) ?_
    refine g_ld (-2147483648) (2147483647) hS.k64 hS.l64 (by omega) (by omega) (hm0.a_64 (by omega) (by omega)) (fun v33 ev33 bv33 cv33 => ?_)
    exact hk v33 (by omega) (by omega)
theorem z_X6_firstBest {X : Mm} {S : Sh} {m0 : Mm} {K : Int → Mm → Prop} {u2 u3 : Int} (hS : Shp S) (hm0 : Inv X S m0) (l_u2 : 0 ≤ u2) (h_u2 : u2 ≤ 5) (l_u3 : 0 ≤ u3) (h_u3 : u3 ≤ 15) (hk : ∀ (r : Int), (-1) ≤ r → r ≤ 3 → K r m0) : wp_X6_firstBest S m0 63 16 u2 u3 K := by
  refine u_X6_firstBest ?_
  refine g_C ?_
  have L_n_l36 : ∀ (n_l36 : Nat) (u5 : Int), (-1) ≤ u5 → u5 ≤ 4 → 5 - u5 ≤ (n_l36 : Int) → wp_X6_firstBest_3 S K n_l36 63 16 u2 u3 u5 m0 := by
    intro n_l36
    induction n_l36 with
    | zero => intro u5 bu5 cu5 zn_l36; exfalso; omega
    | succ n_l36 ih_n_l36 =>
      intro u5 bu5 cu5 zn_l36
      refine u_X6_firstBest_3 ?_
      refine g_getr 0 4 rfl hS.k63 hm0.f_63_0 (by decide) ?_
      refine g_get 5 (0) (4) rfl hS.k4 hm0.f_4_5 (fun v37 ev37 bv37 cv37 => ?_)
      refine g_if (fun w38 => ?_) (fun w38 => ?_)
      · refine g_C ?_
        exact hk (-1) (by omega) (by omega)
      · refine ⟨hS.k63, ?_⟩
        refine z_X6_payWith hS hm0 (by omega) (by omega) (by omega) (by omega) (by omega) (by omega) (fun v39 bv39 cv39 => ?_)
        refine g_getr 1 64 rfl hS.k63 hm0.f_63_1 (by decide) ?_
        refine g_C ?_
        refine g_M (by omega) (by omega) ?_
        refine g_A (by omega) (by omega) ?_
        refine g_ld (-2147483648) (2147483647) hS.k64 hS.l64 (by omega) (by omega) (hm0.a_64 (by omega) (by omega)) (fun v40 ev40 bv40 cv40 => ?_)
        refine g_if (fun w41 => ?_) (fun w41 => ?_)
        · refine g_A (by omega) (by omega) ?_
          exact ih_n_l36 (u5 + 1) (by omega) (by omega) (by omega)
        · exact hk u5 (by omega) (by omega)
  exact ⟨6, L_n_l36 6 (-1) (by omega) (by omega) (by omega)⟩
theorem z_X6_jugOfWant {X : Mm} {S : Sh} {m0 : Mm} {K : Int → Mm → Prop} {u2 : Int} (hS : Shp S) (hm0 : Inv X S m0) (l_u2 : 0 ≤ u2) (h_u2 : u2 ≤ 5) (hk : ∀ (r : Int), (-1) ≤ r → r ≤ 3 → K r m0) : wp_X6_jugOfWant S m0 63 16 u2 K := by
  refine u_X6_jugOfWant ?_
  refine g_C ?_
  refine g_C ?_
  refine g_C ?_
  have L_n_l49 : ∀ (n_l49 : Nat) (u4 : Int) (u5 : Int) (u6 : Int), 0 ≤ u4 → u4 ≤ 15 → (-1) ≤ u5 → u5 ≤ 3 → 0 ≤ u6 → u6 ≤ 6 → 7 - u6 ≤ (n_l49 : Int) → wp_X6_jugOfWant_8 S K n_l49 63 16 u2 u4 u5 u6 m0 := by
    intro n_l49
    induction n_l49 with
    | zero => intro u4 u5 u6 bu4 cu4 bu5 cu5 bu6 cu6 zn_l49; exfalso; omega
    | succ n_l49 ih_n_l49 =>
      intro u4 u5 u6 bu4 cu4 bu5 cu5 bu6 cu6 zn_l49
      refine u_X6_jugOfWant_8 ?_
      refine g_if (fun w50 => ?_) (fun w50 => ?_)
      · exact hk u5 (by omega) (by omega)
      · refine ⟨hS.k63, ?_⟩
        refine z_X6_firstBest hS hm0 (by omega) (by omega) (by omega) (by omega) (fun v51 bv51 cv51 => ?_)
        refine g_C ?_
        refine g_if (fun w52 => ?_) (fun w52 => ?_)
        · refine g_C ?_
          refine g_iShl 3 (by omega) (by omega) (by decide) (fun v53 bv53 cv53 => ?_)
          refine u_X6_jugOfWant_39 ?_
          refine g_iOr 4 (by omega) (by omega) (by omega) (by omega) (by decide) (fun v54 bv54 cv54 => ?_)
          refine g_A (by omega) (by omega) ?_
          exact ih_n_l49 v54 v51 (u6 + 1) (by omega) (by omega) (by omega) (by omega) (by omega) (by omega) (by omega)
        · refine g_C ?_
          refine u_X6_jugOfWant_39 ?_
          refine g_iOr 4 (by omega) (by omega) (by omega) (by omega) (by decide) (fun v55 bv55 cv55 => ?_)
          refine g_A (by omega) (by omega) ?_
          exact ih_n_l49 v55 v51 (u6 + 1) (by omega) (by omega) (by omega) (by omega) (by omega) (by omega) (by omega)
  exact ⟨7, L_n_l49 7 0 (-1) 0 (by omega) (by omega) (by omega) (by omega) (by omega) (by omega) (by omega)⟩
theorem z_X6_matchWants {X : Mm} {S : Sh} {m0 : Mm} {K : Mm → Prop} (hS : Shp S) (hm0 : Inv X S m0)  (hk : ∀ (M1 : Mm), Inv X S M1 → K M1) : wp_X6_matchWants S m0 63 16 K := by
  refine u_X6_matchWants ?_
  refine g_getr 1 64 rfl hS.k63 hm0.f_63_1 (by decide) ?_
  refine g_C ?_
  refine s_fill hm0 hS.k64 hS.l64 (by decide) (fun M i h0 h1 h2 => h0.wa_64 h1 h2 (by omega) (by omega)) (fun m1 hm1 => ?_)
  refine g_getr 0 4 rfl hS.k63 hm1.f_63_0 (by decide) ?_
  refine g_get 7 (0) (6) rfl hS.k4 hm1.f_4_7 (fun v2 ev2 bv2 cv2 => ?_)
  refine g_C ?_
  refine g_S (by omega) (by omega) ?_
  have L_n_l1079 : ∀ (n_l1079 : Nat) (u5 : Int) (m6 : Mm), Inv X S m6 → (-1) ≤ u5 → u5 ≤ 5 → u5 - (-2) ≤ (n_l1079 : Int) → wp_X6_matchWants_18 S K n_l1079 63 16 u5 m6 := by
    intro n_l1079
    induction n_l1079 with
    | zero => intro u5 m6 hm6 bu5 cu5 zn_l1079; exfalso; omega
    | succ n_l1079 ih_n_l1079 =>
      intro u5 m6 hm6 bu5 cu5 zn_l1079
      refine u_X6_matchWants_18 ?_
      refine g_if (fun w1080 => ?_) (fun w1080 => ?_)
      · exact hk m6 hm6
      · refine g_C ?_
        have L_n_l1616 : ∀ (n_l1616 : Nat) (u1084 : Int) (m1085 : Mm), Inv X S m1085 → 0 ≤ u1084 → u1084 ≤ 16 → 17 - u1084 ≤ (n_l1616 : Int) → wp_X6_matchWants_24 S (fun a0 a1 a2 M => wp_X6_matchWants_18 S K n_l1079 a0 a1 a2 M) K n_l1616 63 16 u5 u1084 m1085 := by
          intro n_l1616
          induction n_l1616 with
          | zero => intro u1084 m1085 hm1085 bu1084 cu1084 zn_l1616; exfalso; omega
          | succ n_l1616 ih_n_l1616 =>
            intro u1084 m1085 hm1085 bu1084 cu1084 zn_l1616
            refine u_X6_matchWants_24 ?_
            refine g_C ?_
            refine g_if (fun w1617 => ?_) (fun w1617 => ?_)
            · refine g_A (by omega) (by omega) ?_
              exact ih_n_l1079 (u5 + (-1)) m1085 hm1085 (by omega) (by omega) (by omega)
            · refine g_C ?_
              refine ⟨hS.k63, ?_⟩
              refine z_X6_payWith hS hm1085 (by omega) (by omega) (by omega) (by omega) (by omega) (by omega) (fun v1618 bv1618 cv1618 => ?_)
              refine g_C ?_
              have L_n_l1651 : ∀ (n_l1651 : Nat) (u1623 : Int) (u1624 : Int), (-2147483648) ≤ u1623 → u1623 ≤ 2147483647 → 0 ≤ u1624 → u1624 ≤ 4 → 5 - u1624 ≤ (n_l1651 : Int) → wp_X6_matchWants_43 S (fun a0 a1 a2 M => wp_X6_matchWants_18 S K n_l1079 a0 a1 a2 M) (fun a0 a1 a2 a3 M => wp_X6_matchWants_24 S (fun a0 a1 a2 M => wp_X6_matchWants_18 S K n_l1079 a0 a1 a2 M) K n_l1616 a0 a1 a2 a3 M) K n_l1651 63 16 u5 u1084 u1623 u1624 m1085 := by
                intro n_l1651
                induction n_l1651 with
                | zero => intro u1623 u1624 bu1623 cu1623 bu1624 cu1624 zn_l1651; exfalso; omega
                | succ n_l1651 ih_n_l1651 =>
                  intro u1623 u1624 bu1623 cu1623 bu1624 cu1624 zn_l1651
                  refine u_X6_matchWants_43 ?_
                  refine g_getr 0 4 rfl hS.k63 hm1085.f_63_0 (by decide) ?_
                  refine g_get 5 (0) (4) rfl hS.k4 hm1085.f_4_5 (fun v1652 ev1652 bv1652 cv1652 => ?_)
                  refine g_if (fun w1653 => ?_) (fun w1653 => ?_)
                  · refine g_getr 1 64 rfl hS.k63 hm1085.f_63_1 (by decide) ?_
                    refine g_C ?_
                    refine g_M (by omega) (by omega) ?_
                    refine g_A (by omega) (by omega) ?_
                    refine g_st hS.k64 hS.l64 (by omega) (by omega) (hm1085.wa_64 (by omega) (by omega) (by omega) (by omega)) (fun m1654 em1654 hm1654 => ?_)
                    refine g_A (by omega) (by omega) ?_
                    exact ih_n_l1616 (u1084 + 1) m1654 hm1654 (by omega) (by omega) (by omega)
                  · refine ⟨hS.k63, ?_⟩
                    refine z_X6_payWith hS hm1085 (by omega) (by omega) (by omega) (by omega) (by omega) (by omega) (fun v1655 bv1655 cv1655 => ?_)
                    refine g_max (fun v1656 bv1656 cv1656 dv1656 => ?_)
                    refine g_A (by omega) (by omega) ?_
                    exact ih_n_l1651 v1656 (u1624 + 1) (by omega) (by omega) (by omega) (by omega) (by omega)
              exact ⟨5, L_n_l1651 5 v1618 0 (by omega) (by omega) (by omega) (by omega) (by omega)⟩
        exact ⟨17, L_n_l1616 17 0 m6 hm6 (by omega) (by omega) (by omega)⟩
  exact ⟨7, L_n_l1079 7 (v2 - 1) m1 hm1 (by omega) (by omega) (by omega)⟩
