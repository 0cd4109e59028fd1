theorem z_X2_carried {X : Mm} {S : Sh} {m0 : Mm} {K : Int → Mm → Prop} {u1 u2 u3 : Int} (hS : Shp S) (hm0 : Inv X S m0) (l_u1 : 0 ≤ u1) (h_u1 : u1 ≤ 4) (l_u2 : 0 ≤ u2) (h_u2 : u2 ≤ 4) (l_u3 : 0 ≤ u3) (h_u3 : u3 ≤ 999) (hk : ∀ (r : Int) (M1 : Mm), Inv X S M1 → 0 ≤ r → r ≤ 999 → K r M1) : wp_X2_carried S m0 58 u1 u2 u3 K := by
  refine u_X2_carried ?_
  refine g_getr 0 55 rfl hS.k58 hm0.f_58_0 (by decide) ?_
  refine g_get 7 (0) (3) rfl hS.k58 hm0.f_58_7 (fun v1 ev1 bv1 cv1 => ?_)
  refine g_getr 3 60 rfl hS.k58 hm0.f_58_3 (by decide) ?_
  refine g_ld (0) (999) hS.k60 hS.l60 (by omega) (by omega) (hm0.a_60 (by omega) (by omega)) (fun v2 ev2 bv2 cv2 => ?_)
  refine ⟨hS.k55, ?_⟩
  refine u_X10_suppose ?_
  refine g_put 4 rfl hS.k55 (hm0.w_55_4 (by omega) (by omega)) (fun m3 em3 hm3 => ?_)
  refine g_put 5 rfl hS.k55 (hm3.w_55_5 (by omega) (by omega)) (fun m4 em4 hm4 => ?_)
  refine g_put 6 rfl hS.k55 (hm4.w_55_6 (by omega) (by omega)) (fun m5 em5 hm5 => ?_)
  refine g_C ?_
  refine g_put 7 rfl hS.k55 (hm5.w_55_7 (by omega) (by omega)) (fun m6 em6 hm6 => ?_)
  refine g_put 8 rfl hS.k55 (hm6.w_55_8 (by omega) (by omega)) (fun m7 em7 hm7 => ?_)
  refine g_C ?_
  refine g_put 10 rfl hS.k55 (hm7.w_55_10 (by omega) (by omega)) (fun m8 em8 hm8 => ?_)
  refine g_C ?_
  refine g_put 11 rfl hS.k55 (hm8.w_55_11 (by omega) (by omega)) (fun m9 em9 hm9 => ?_)
  refine g_getr 0 55 rfl hS.k58 hm9.f_58_0 (by decide) ?_
  refine g_C ?_
  refine g_put 10 rfl hS.k55 (hm9.w_55_10 (by omega) (by omega)) (fun m10 em10 hm10 => ?_)
  refine g_getr 0 55 rfl hS.k58 hm10.f_58_0 (by decide) ?_
  refine g_getr 2 59 rfl hS.k58 hm10.f_58_2 (by decide) ?_
  refine g_ld (0) (5) hS.k59 hS.l59 (by omega) (by omega) (hm10.a_59 (by omega) (by omega)) (fun v11 ev11 bv11 cv11 => ?_)
  refine ⟨hS.k55, ?_⟩
  refine z_X10_holdFor hS hm10 (by omega) (by omega) (fun m12 hm12 => ?_)
  refine g_getr 0 55 rfl hS.k58 hm12.f_58_0 (by decide) ?_
  refine g_get 6 (0) (999) rfl hS.k55 hm12.f_55_6 (fun v13 ev13 bv13 cv13 => ?_)
  exact hk v13 m12 hm12 (by omega) (by omega)
theorem z_X2_firstHand {X : Mm} {S : Sh} {m0 : Mm} {K : Int → Mm → Prop} {u1 u2 : Int} (hS : Shp S) (hm0 : Inv X S m0) (l_u1 : 0 ≤ u1) (h_u1 : u1 ≤ 4) (l_u2 : 0 ≤ u2) (h_u2 : u2 ≤ 999) (hk : ∀ (r : Int) (M1 : Mm), Inv X S M1 → 0 ≤ r → r ≤ 4 → K r M1) : wp_X2_firstHand S m0 58 u1 u2 K := by
  refine u_X2_firstHand ?_
  refine g_C ?_
  have L_n_l42 : ∀ (n_l42 : Nat) (u4 : Int) (m5 : Mm), Inv X S m5 → 0 ≤ u4 → u4 ≤ 5 → 6 - u4 ≤ (n_l42 : Int) → wp_X2_firstHand_2 S K n_l42 58 u1 u2 u4 m5 := by
    intro n_l42
    induction n_l42 with
    | zero => intro u4 m5 hm5 bu4 cu4 zn_l42; exfalso; omega
    | succ n_l42 ih_n_l42 =>
      intro u4 m5 hm5 bu4 cu4 zn_l42
      refine u_X2_firstHand_2 ?_
      refine g_getr 1 4 rfl hS.k58 hm5.f_58_1 (by decide) ?_
      refine g_get 4 (0) (5) rfl hS.k4 hm5.f_4_4 (fun v43 ev43 bv43 cv43 => ?_)
      refine g_if (fun w44 => ?_) (fun w44 => ?_)
      · refine g_C ?_
        exact hk 0 m5 hm5 (by omega) (by omega)
      · refine g_getr 4 61 rfl hS.k58 hm5.f_58_4 (by decide) ?_
        refine g_C ?_
        refine g_A (by omega) (by omega) ?_
        refine g_C ?_
        refine g_M (by omega) (by omega) ?_
        refine ⟨hS.k58, ?_⟩
        refine z_X2_carried hS hm5 (by omega) (by omega) (by omega) (by omega) (by omega) (by omega) (fun v45 m46 hm46 bv45 cv45 => ?_)
        refine g_A (by omega) (by omega) ?_
        refine g_ld (-2147483648) (2147483647) hS.k61 hS.l61 (by omega) (by omega) (hm46.a_61 (by omega) (by omega)) (fun v47 ev47 bv47 cv47 => ?_)
        refine g_if (fun w48 => ?_) (fun w48 => ?_)
        · refine g_A (by omega) (by omega) ?_
          exact ih_n_l42 (u4 + 1) m46 hm46 (by omega) (by omega) (by omega)
        · exact hk u4 m46 hm46 (by omega) (by omega)
  exact ⟨6, L_n_l42 6 0 m0 hm0 (by omega) (by omega) (by omega)⟩
theorem z_X2_handOfFirst {X : Mm} {S : Sh} {m0 : Mm} {K : Int → Mm → Prop} {u1 : Int} (hS : Shp S) (hm0 : Inv X S m0) (l_u1 : 0 ≤ u1) (h_u1 : u1 ≤ 4) (hk : ∀ (r : Int) (M1 : Mm), Inv X S M1 → (-2) ≤ r → r ≤ 4 → K r M1) : wp_X2_handOfFirst S m0 58 u1 K := by
  refine u_X2_handOfFirst ?_
  refine g_get 6 (0) (5) rfl hS.k58 hm0.f_58_6 (fun v1 ev1 bv1 cv1 => ?_)
  refine g_if (fun w2 => ?_) (fun w2 => ?_)
  · refine g_C ?_
    exact hk (-2) m0 hm0 (by omega) (by omega)
  · refine ⟨hS.k58, ?_⟩
    refine u_X2_howMany ?_
    refine g_getr 4 61 rfl hS.k58 hm0.f_58_4 (by decide) ?_
    refine g_get 8 (0) (999) rfl hS.k58 hm0.f_58_8 (fun v3 ev3 bv3 cv3 => ?_)
    refine g_ld (-2147483648) (2147483647) hS.k61 hS.l61 (by omega) (by omega) (hm0.a_61 (by omega) (by omega)) (fun v4 ev4 bv4 cv4 => ?_)
    refine g_if (fun w5 => ?_) (fun w5 => ?_)
    · refine g_get 8 (0) (999) rfl hS.k58 hm0.f_58_8 (fun v6 ev6 bv6 cv6 => ?_)
      have qv6 : v6 = v3 := ev6.trans ev3.symm
      refine g_C ?_
      have L_n_l47 : ∀ (n_l47 : Nat) (u9 : Int) (u10 : Int) (m11 : Mm), Inv X S m11 → 0 ≤ u9 → u9 ≤ 999 → 0 ≤ u10 → u10 ≤ 4 → 5 - u10 ≤ (n_l47 : Int) → wp_X2_handOfFirst_25 S K n_l47 58 u1 u9 u10 m11 := by
        intro n_l47
        induction n_l47 with
        | zero => intro u9 u10 m11 hm11 bu9 cu9 bu10 cu10 zn_l47; exfalso; omega
        | succ n_l47 ih_n_l47 =>
          intro u9 u10 m11 hm11 bu9 cu9 bu10 cu10 zn_l47
          refine u_X2_handOfFirst_25 ?_
          refine g_if (fun w48 => ?_) (fun w48 => ?_)
          · refine ⟨hS.k58, ?_⟩
            refine z_X2_firstHand hS hm11 (by omega) (by omega) (by omega) (by omega) (fun v49 m50 hm50 bv49 cv49 => ?_)
            exact hk v49 m50 hm50 (by omega) (by omega)
          · refine ⟨hS.k58, ?_⟩
            refine z_X2_firstHand hS hm11 (by omega) (by omega) (by omega) (by omega) (fun v51 m52 hm52 bv51 cv51 => ?_)
            refine ⟨hS.k58, ?_⟩
            refine z_X2_carried hS hm52 (by omega) (by omega) (by omega) (by omega) (by omega) (by omega) (fun v53 m54 hm54 bv53 cv53 => ?_)
            refine g_A (by omega) (by omega) ?_
            exact ih_n_l47 v53 (u10 + 1) m54 hm54 (by omega) (by omega) (by omega) (by omega) (by omega)
      exact ⟨5, L_n_l47 5 v6 0 m0 hm0 (by omega) (by omega) (by omega) (by omega) (by omega)⟩
    · refine g_C ?_
      exact hk (-2) m0 hm0 (by omega) (by omega)
theorem z_X8_nextPlace {X : Mm} {S : Sh} {m0 : Mm} {K : Int → Mm → Prop} {u1 u2 : Int} (hS : Shp S) (hm0 : Inv X S m0) (l_u1 : 0 ≤ u1) (h_u1 : u1 ≤ 5) (l_u2 : 0 ≤ u2) (h_u2 : u2 ≤ 5) (hk : ∀ (r : Int), (-1) ≤ r → r ≤ 5 → K r m0) : wp_X8_nextPlace S m0 4 u1 u2 K := by
  refine u_X8_nextPlace ?_
  refine g_C ?_
  have L_n_l55 : ∀ (n_l55 : Nat) (u4 : Int), 0 ≤ u4 → u4 ≤ 6 → 7 - u4 ≤ (n_l55 : Int) → wp_X8_nextPlace_2 S K n_l55 4 u1 u2 u4 m0 := by
    intro n_l55
    induction n_l55 with
    | zero => intro u4 bu4 cu4 zn_l55; exfalso; omega
    | succ n_l55 ih_n_l55 =>
      intro u4 bu4 cu4 zn_l55
      refine u_X8_nextPlace_2 ?_
      refine g_get 0 (0) (6) rfl hS.k4 hm0.f_4_0 (fun v56 ev56 bv56 cv56 => ?_)
      refine g_if (fun w57 => ?_) (fun w57 => ?_)
      · refine g_C ?_
        exact hk (-1) (by omega) (by omega)
      · refine ⟨hS.k4, ?_⟩
        refine u_X8_roadHours ?_
        refine g_getr 8 5 rfl hS.k4 hm0.f_4_8 (by decide) ?_
        refine u_X8_pair ?_
        refine g_C ?_
        refine g_M (by omega) (by omega) ?_
        refine g_A (by omega) (by omega) ?_
        refine g_ld (0) (5) hS.k5 hS.l5 (by omega) (by omega) (hm0.a_5 (by omega) (by omega)) (fun v58 ev58 bv58 cv58 => ?_)
        refine g_if (fun w59 => ?_) (fun w59 => ?_)
        · refine u_X8_nextPlace_43 ?_
          refine g_A (by omega) (by omega) ?_
          exact ih_n_l55 (u4 + 1) (by omega) (by omega) (by omega)
        · refine ⟨hS.k4, ?_⟩
          refine u_X8_wayHours ?_
          refine g_getr 9 6 rfl hS.k4 hm0.f_4_9 (by decide) ?_
          refine u_X8_pair ?_
          refine g_C ?_
          refine g_M (by omega) (by omega) ?_
          refine g_A (by omega) (by omega) ?_
          refine g_ld (0) (1000) hS.k6 hS.l6 (by omega) (by omega) (hm0.a_6 (by omega) (by omega)) (fun v60 ev60 bv60 cv60 => ?_)
          refine g_A (by omega) (by omega) ?_
          refine ⟨hS.k4, ?_⟩
          refine u_X8_wayHours ?_
          refine g_getr 9 6 rfl hS.k4 hm0.f_4_9 (by decide) ?_
          refine u_X8_pair ?_
          refine g_C ?_
          refine g_M (by omega) (by omega) ?_
          refine g_A (by omega) (by omega) ?_
          refine g_ld (0) (1000) hS.k6 hS.l6 (by omega) (by omega) (hm0.a_6 (by omega) (by omega)) (fun v61 ev61 bv61 cv61 => ?_)
          refine g_if (fun w62 => ?_) (fun w62 => ?_)
          · refine u_X8_nextPlace_43 ?_
            refine g_A (by omega) (by omega) ?_
            exact ih_n_l55 (u4 + 1) (by omega) (by omega) (by omega)
          · exact hk u4 (by omega) (by omega)
  exact ⟨7, L_n_l55 7 0 (by omega) (by omega) (by omega)⟩
theorem z_X2_setOut {X : Mm} {S : Sh} {m0 : Mm} {K : Mm → Prop} {u1 u2 u3 u4 : Int} (hS : Shp S) (hm0 : Inv X S m0) (l_u1 : 0 ≤ u1) (h_u1 : u1 ≤ 3) (l_u2 : 0 ≤ u2) (h_u2 : u2 ≤ 5) (l_u3 : 0 ≤ u3) (h_u3 : u3 ≤ 5) (l_u4 : 0 ≤ u4) (h_u4 : u4 ≤ 999) (hk : ∀ (M1 : Mm), Inv X S M1 → K M1) : wp_X2_setOut S m0 58 u1 u2 u3 u4 K := by
  refine u_X2_setOut ?_
  refine g_put 7 rfl hS.k58 (hm0.w_58_7 (by omega) (by omega)) (fun m1 em1 hm1 => ?_)
  refine g_C ?_
  refine g_put 6 rfl hS.k58 (hm1.w_58_6 (by omega) (by omega)) (fun m2 em2 hm2 => ?_)
  have L_n_l37 : ∀ (n_l37 : Nat) (u5 : Int) (u6 : Int) (m7 : Mm), Inv X S m7 → 0 ≤ u5 → u5 ≤ 5 → 0 ≤ u6 → u6 ≤ 1029 → (u6 ≤ 999 + 5 * m7 58 6) → 6 - m7 58 6 ≤ (n_l37 : Int) → wp_X2_setOut_17 S K n_l37 58 u3 u5 u6 m7 := by
    intro n_l37
    induction n_l37 with
    | zero => intro u5 u6 m7 hm7 bu5 cu5 bu6 cu6 xn_l37_0 zn_l37; exfalso; have zz58_6 := hm7.f_58_6; omega
    | succ n_l37 ih_n_l37 =>
      intro u5 u6 m7 hm7 bu5 cu5 bu6 cu6 xn_l37_0 zn_l37
      refine u_X2_setOut_17 ?_
      refine g_get 6 (0) (5) rfl hS.k58 hm7.f_58_6 (fun v38 ev38 bv38 cv38 => ?_)
      refine g_C ?_
      refine g_if (fun w39 => ?_) (fun w39 => ?_)
      · have zb40 := hm7.f_58_6
        exact hk m7 hm7
      · refine g_if (fun w42 => ?_) (fun w42 => ?_)
        · have zb43 := hm7.f_58_6
          exact hk m7 hm7
        · refine g_getr 1 4 rfl hS.k58 hm7.f_58_1 (by decide) ?_
          refine ⟨hS.k4, ?_⟩
          refine z_X8_nextPlace hS hm7 (by omega) (by omega) (by omega) (by omega) (fun v45 bv45 cv45 => ?_)
          refine g_C ?_
          refine g_if (fun w46 => ?_) (fun w46 => ?_)
          · refine g_getr 2 59 rfl hS.k58 hm7.f_58_2 (by decide) ?_
            refine g_get 6 (0) (5) rfl hS.k58 hm7.f_58_6 (fun v47 ev47 bv47 cv47 => ?_)
            have qv47 : v47 = v38 := ev47.trans ev38.symm
            refine g_getr 1 4 rfl hS.k58 hm7.f_58_1 (by decide) ?_
            refine ⟨hS.k4, ?_⟩
            refine u_X8_roadHours ?_
            refine g_getr 8 5 rfl hS.k4 hm7.f_4_8 (by decide) ?_
            refine u_X8_pair ?_
            refine g_C ?_
            refine g_M (by omega) (by omega) ?_
            refine g_A (by omega) (by omega) ?_
            refine g_ld (0) (5) hS.k5 hS.l5 (by omega) (by omega) (hm7.a_5 (by omega) (by omega)) (fun v48 ev48 bv48 cv48 => ?_)
            refine g_st hS.k59 hS.l59 (by omega) (by omega) (hm7.wa_59 (by omega) (by omega) (by omega) (by omega)) (fun m49 em49 hm49 => ?_)
            refine g_getr 3 60 rfl hS.k58 hm49.f_58_3 (by decide) ?_
            refine g_get 6 (0) (5) rfl hS.k58 hm49.f_58_6 (fun v50 ev50 bv50 cv50 => ?_)
            have qv50 : v50 = v38 := ev50.trans ((congrFun (congrFun em49 _) _).trans ((up_ne (by omega)).trans ev38.symm))
            refine g_C ?_
            refine g_min (fun v51 bv51 cv51 dv51 => ?_)
            refine g_st hS.k60 hS.l60 (by omega) (by omega) (hm49.wa_60 (by omega) (by omega) (by omega) (by omega)) (fun m52 em52 hm52 => ?_)
            refine g_getr 2 59 rfl hS.k58 hm52.f_58_2 (by decide) ?_
            refine g_get 6 (0) (5) rfl hS.k58 hm52.f_58_6 (fun v53 ev53 bv53 cv53 => ?_)
            have qv53 : v53 = v38 := ev53.trans ((congrFun (congrFun em52 _) _).trans ((up_ne (by omega)).trans ((congrFun (congrFun em49 _) _).trans ((up_ne (by omega)).trans ev38.symm))))
            refine g_ld (0) (5) hS.k59 hS.l59 (by omega) (by omega) (hm52.a_59 (by omega) (by omega)) (fun v54 ev54 bv54 cv54 => ?_)
            have qv54 : v54 = v48 := ev54.trans ((congrFun (congrFun em52 _) _).trans ((up_ne (by omega)).trans ((congrFun (congrFun em49 _) _).trans (up_ate (by omega)))))
            refine g_A (by omega) (by omega) ?_
            refine g_get 6 (0) (5) rfl hS.k58 hm52.f_58_6 (fun v55 ev55 bv55 cv55 => ?_)
            have qv55 : v55 = v38 := ev55.trans ((congrFun (congrFun em52 _) _).trans ((up_ne (by omega)).trans ((congrFun (congrFun em49 _) _).trans ((up_ne (by omega)).trans ev38.symm))))
            refine g_C ?_
            refine g_A (by omega) (by omega) ?_
            refine g_put 6 rfl hS.k58 (hm52.w_58_6 (by omega) (by omega)) (fun m56 em56 hm56 => ?_)
            have zb57 := hm56.f_58_6
            have q58 : m56 58 6 = (v55 + 1) := (Eq.refl (m56 58 6)).trans ((congrFun (congrFun em56 _) _).trans (up_ate (by omega)))
            exact ih_n_l37 v45 (u6 + v54) m56 hm56 (by omega) (by omega) (by omega) (by omega) (by omega) (by omega)
          · have zb59 := hm7.f_58_6
            exact hk m7 hm7
  have zb61 := hm2.f_58_6
  have q62 : m2 58 6 = 0 := (Eq.refl (m2 58 6)).trans ((congrFun (congrFun em2 _) _).trans (up_ate (by omega)))
  exact ⟨6, L_n_l37 6 u2 u4 m2 hm2 (by omega) (by omega) (by omega) (by omega) (by omega) (by omega)⟩
theorem z_X2_visit_d0 {X : Mm} {S : Sh} {m0 : Mm} {K : Mm → Prop} {u1 u2 : Int} (hS : Shp S) (hm0 : Inv X S m0) (l_u1 : 5 ≤ u1) (h_u1 : u1 ≤ 5) (l_u2 : 0 ≤ u2) (h_u2 : u2 ≤ 999) (hk : ∀ (M1 : Mm), Inv X S M1 → K M1) : wp_X2_visit_d0 S m0 58 u1 u2 K := by
  refine u_X2_visit_d0 ?_
  refine g_C ?_
  refine g_M (by omega) (by omega) ?_
  refine g_A (by omega) (by omega) ?_
  refine g_C ?_
  refine g_ifF (by omega) ?_
  refine g_getr 4 61 rfl hS.k58 hm0.f_58_4 (by decide) ?_
  refine g_ld (-2147483648) (2147483647) hS.k61 hS.l61 (by omega) (by omega) (hm0.a_61 (by omega) (by omega)) (fun v1 ev1 bv1 cv1 => ?_)
  refine g_C ?_
  refine g_if (fun w2 => ?_) (fun w2 => ?_)
  · refine g_get 6 (0) (5) rfl hS.k58 hm0.f_58_6 (fun v3 ev3 bv3 cv3 => ?_)
    refine g_ifF (by omega) ?_
    refine g_getr 4 61 rfl hS.k58 hm0.f_58_4 (by decide) ?_
    refine g_get 9 (-2147483648) (2147483647) rfl hS.k58 hm0.f_58_9 (fun v4 ev4 bv4 cv4 => ?_)
    refine g_if (fun w5 => ?_) (fun w5 => ?_)
    · refine u_X2_visit_d0_57 ?_
      refine g_C ?_
      refine u_X2_visit_d0_58 ?_
      refine g_st hS.k61 hS.l61 (by omega) (by omega) (hm0.wa_61 (by omega) (by omega) (by omega) (by omega)) (fun m6 em6 hm6 => ?_)
      refine g_getr 5 62 rfl hS.k58 hm6.f_58_5 (by decide) ?_
      refine g_st hS.k62 hS.l62 (by omega) (by omega) (hm6.wa_62 (by omega) (by omega) (by omega) (by omega)) (fun m7 em7 hm7 => ?_)
      exact hk m7 hm7
    · refine g_get 10 (-2147483648) (2147483647) rfl hS.k58 hm0.f_58_10 (fun v8 ev8 bv8 cv8 => ?_)
      refine g_if (fun w9 => ?_) (fun w9 => ?_)
      · refine u_X2_visit_d0_57 ?_
        refine g_C ?_
        refine u_X2_visit_d0_58 ?_
        refine g_st hS.k61 hS.l61 (by omega) (by omega) (hm0.wa_61 (by omega) (by omega) (by omega) (by omega)) (fun m10 em10 hm10 => ?_)
        refine g_getr 5 62 rfl hS.k58 hm10.f_58_5 (by decide) ?_
        refine g_st hS.k62 hS.l62 (by omega) (by omega) (hm10.wa_62 (by omega) (by omega) (by omega) (by omega)) (fun m11 em11 hm11 => ?_)
        exact hk m11 hm11
      · refine g_C ?_
        refine u_X2_visit_d0_58 ?_
        refine g_st hS.k61 hS.l61 (by omega) (by omega) (hm0.wa_61 (by omega) (by omega) (by omega) (by omega)) (fun m12 em12 hm12 => ?_)
        refine g_getr 5 62 rfl hS.k58 hm12.f_58_5 (by decide) ?_
        refine g_st hS.k62 hS.l62 (by omega) (by omega) (hm12.wa_62 (by omega) (by omega) (by omega) (by omega)) (fun m13 em13 hm13 => ?_)
        exact hk m13 hm13
  · exact hk m0 hm0
theorem z_X2_visit_d1 {X : Mm} {S : Sh} {m0 : Mm} {K : Mm → Prop} {u1 u2 : Int} (hS : Shp S) (hm0 : Inv X S m0) (l_u1 : 4 ≤ u1) (h_u1 : u1 ≤ 4) (l_u2 : 0 ≤ u2) (h_u2 : u2 ≤ 999) (hk : ∀ (M1 : Mm), Inv X S M1 → K M1) : wp_X2_visit_d1 S m0 58 u1 u2 K := by
  refine u_X2_visit_d1 ?_
  refine g_C ?_
  refine g_M (by omega) (by omega) ?_
  refine g_A (by omega) (by omega) ?_
  refine g_C ?_
  refine g_ifF (by omega) ?_
  refine g_getr 4 61 rfl hS.k58 hm0.f_58_4 (by decide) ?_
  refine g_ld (-2147483648) (2147483647) hS.k61 hS.l61 (by omega) (by omega) (hm0.a_61 (by omega) (by omega)) (fun v1 ev1 bv1 cv1 => ?_)
  refine g_C ?_
  refine g_if (fun w2 => ?_) (fun w2 => ?_)
  · refine g_get 6 (0) (5) rfl hS.k58 hm0.f_58_6 (fun v3 ev3 bv3 cv3 => ?_)
    refine g_if (fun w4 => ?_) (fun w4 => ?_)
    · refine g_C ?_
      refine g_C ?_
      refine g_C ?_
      have L_n_l78 : ∀ (n_l78 : Nat) (u9 : Int) (u10 : Int) (u11 : Int) (m12 : Mm), Inv X S m12 → (-2147483648) ≤ u9 → u9 ≤ 2147483647 → (-2147483648) ≤ u10 → u10 ≤ 999 → 0 ≤ u11 → u11 ≤ 5 → 6 - u11 ≤ (n_l78 : Int) → wp_X2_visit_d1_78 S K n_l78 58 u1 u2 ((u1 * 1000) + u2) u9 u10 u11 m12 := by
        intro n_l78
        induction n_l78 with
        | zero => intro u9 u10 u11 m12 hm12 bu9 cu9 bu10 cu10 bu11 cu11 zn_l78; exfalso; omega
        | succ n_l78 ih_n_l78 =>
          intro u9 u10 u11 m12 hm12 bu9 cu9 bu10 cu10 bu11 cu11 zn_l78
          refine u_X2_visit_d1_78 ?_
          refine g_getr 1 4 rfl hS.k58 hm12.f_58_1 (by decide) ?_
          refine g_get 4 (0) (5) rfl hS.k4 hm12.f_4_4 (fun v79 ev79 bv79 cv79 => ?_)
          refine g_if (fun w80 => ?_) (fun w80 => ?_)
          · refine g_getr 4 61 rfl hS.k58 hm12.f_58_4 (by decide) ?_
            refine g_st hS.k61 hS.l61 (by omega) (by omega) (hm12.wa_61 (by omega) (by omega) (by omega) (by omega)) (fun m81 em81 hm81 => ?_)
            refine g_getr 5 62 rfl hS.k58 hm81.f_58_5 (by decide) ?_
            refine g_st hS.k62 hS.l62 (by omega) (by omega) (hm81.wa_62 (by omega) (by omega) (by omega) (by omega)) (fun m82 em82 hm82 => ?_)
            exact hk m82 hm82
          · refine ⟨hS.k58, ?_⟩
            refine z_X2_carried hS hm12 (by omega) (by omega) (by omega) (by omega) (by omega) (by omega) (fun v83 m84 hm84 bv83 cv83 => ?_)
            refine g_C ?_
            refine g_A (by omega) (by omega) ?_
            refine ⟨hS.k58, ?_⟩
            refine z_X2_visit_d0 hS hm84 (by omega) (by omega) (by omega) (by omega) (fun m85 hm85 => ?_)
            refine g_getr 4 61 rfl hS.k58 hm85.f_58_4 (by decide) ?_
            refine g_C ?_
            refine g_A (by omega) (by omega) ?_
            refine g_C ?_
            refine g_M (by omega) (by omega) ?_
            refine g_A (by omega) (by omega) ?_
            refine g_ld (-2147483648) (2147483647) hS.k61 hS.l61 (by omega) (by omega) (hm85.a_61 (by omega) (by omega)) (fun v86 ev86 bv86 cv86 => ?_)
            refine g_Aw (fun v87 bv87 cv87 => ?_)
            refine g_getr 5 62 rfl hS.k58 hm85.f_58_5 (by decide) ?_
            refine g_C ?_
            refine g_A (by omega) (by omega) ?_
            refine g_C ?_
            refine g_M (by omega) (by omega) ?_
            refine g_A (by omega) (by omega) ?_
            refine g_ld (-2147483648) (2147483647) hS.k62 hS.l62 (by omega) (by omega) (hm85.a_62 (by omega) (by omega)) (fun v88 ev88 bv88 cv88 => ?_)
            refine g_min (fun v89 bv89 cv89 dv89 => ?_)
            refine g_A (by omega) (by omega) ?_
            exact ih_n_l78 v87 v89 (u11 + 1) m85 hm85 (by omega) (by omega) (by omega) (by omega) (by omega) (by omega) (by omega)
      exact ⟨6, L_n_l78 6 0 999 0 m0 hm0 (by omega) (by omega) (by omega) (by omega) (by omega) (by omega) (by omega)⟩
    · refine g_getr 4 61 rfl hS.k58 hm0.f_58_4 (by decide) ?_
      refine g_get 9 (-2147483648) (2147483647) rfl hS.k58 hm0.f_58_9 (fun v90 ev90 bv90 cv90 => ?_)
      refine g_if (fun w91 => ?_) (fun w91 => ?_)
      · refine u_X2_visit_d1_57 ?_
        refine g_C ?_
        refine u_X2_visit_d1_58 ?_
        refine g_st hS.k61 hS.l61 (by omega) (by omega) (hm0.wa_61 (by omega) (by omega) (by omega) (by omega)) (fun m92 em92 hm92 => ?_)
        refine g_getr 5 62 rfl hS.k58 hm92.f_58_5 (by decide) ?_
        refine g_st hS.k62 hS.l62 (by omega) (by omega) (hm92.wa_62 (by omega) (by omega) (by omega) (by omega)) (fun m93 em93 hm93 => ?_)
        exact hk m93 hm93
      · refine g_get 10 (-2147483648) (2147483647) rfl hS.k58 hm0.f_58_10 (fun v94 ev94 bv94 cv94 => ?_)
        refine g_if (fun w95 => ?_) (fun w95 => ?_)
        · refine u_X2_visit_d1_57 ?_
          refine g_C ?_
          refine u_X2_visit_d1_58 ?_
          refine g_st hS.k61 hS.l61 (by omega) (by omega) (hm0.wa_61 (by omega) (by omega) (by omega) (by omega)) (fun m96 em96 hm96 => ?_)
          refine g_getr 5 62 rfl hS.k58 hm96.f_58_5 (by decide) ?_
          refine g_st hS.k62 hS.l62 (by omega) (by omega) (hm96.wa_62 (by omega) (by omega) (by omega) (by omega)) (fun m97 em97 hm97 => ?_)
          exact hk m97 hm97
        · refine g_C ?_
          refine u_X2_visit_d1_58 ?_
          refine g_st hS.k61 hS.l61 (by omega) (by omega) (hm0.wa_61 (by omega) (by omega) (by omega) (by omega)) (fun m98 em98 hm98 => ?_)
          refine g_getr 5 62 rfl hS.k58 hm98.f_58_5 (by decide) ?_
          refine g_st hS.k62 hS.l62 (by omega) (by omega) (hm98.wa_62 (by omega) (by omega) (by omega) (by omega)) (fun m99 em99 hm99 => ?_)
          exact hk m99 hm99
  · exact hk m0 hm0
theorem z_X2_visit_d2 {X : Mm} {S : Sh} {m0 : Mm} {K : Mm → Prop} {u1 u2 : Int} (hS : Shp S) (hm0 : Inv X S m0) (l_u1 : 3 ≤ u1) (h_u1 : u1 ≤ 3) (l_u2 : 0 ≤ u2) (h_u2 : u2 ≤ 999) (hk : ∀ (M1 : Mm), Inv X S M1 → K M1) : wp_X2_visit_d2 S m0 58 u1 u2 K := by
  refine u_X2_visit_d2 ?_
  refine g_C ?_
  refine g_M (by omega) (by omega) ?_
  refine g_A (by omega) (by omega) ?_
  refine g_C ?_
  refine g_ifF (by omega) ?_
  refine g_getr 4 61 rfl hS.k58 hm0.f_58_4 (by decide) ?_
  refine g_ld (-2147483648) (2147483647) hS.k61 hS.l61 (by omega) (by omega) (hm0.a_61 (by omega) (by omega)) (fun v1 ev1 bv1 cv1 => ?_)
  refine g_C ?_
  refine g_if (fun w2 => ?_) (fun w2 => ?_)
  · refine g_get 6 (0) (5) rfl hS.k58 hm0.f_58_6 (fun v3 ev3 bv3 cv3 => ?_)
    refine g_if (fun w4 => ?_) (fun w4 => ?_)
    · refine g_C ?_
      refine g_C ?_
      refine g_C ?_
      have L_n_l78 : ∀ (n_l78 : Nat) (u9 : Int) (u10 : Int) (u11 : Int) (m12 : Mm), Inv X S m12 → (-2147483648) ≤ u9 → u9 ≤ 2147483647 → (-2147483648) ≤ u10 → u10 ≤ 999 → 0 ≤ u11 → u11 ≤ 5 → 6 - u11 ≤ (n_l78 : Int) → wp_X2_visit_d2_78 S K n_l78 58 u1 u2 ((u1 * 1000) + u2) u9 u10 u11 m12 := by
        intro n_l78
        induction n_l78 with
        | zero => intro u9 u10 u11 m12 hm12 bu9 cu9 bu10 cu10 bu11 cu11 zn_l78; exfalso; omega
        | succ n_l78 ih_n_l78 =>
          intro u9 u10 u11 m12 hm12 bu9 cu9 bu10 cu10 bu11 cu11 zn_l78
          refine u_X2_visit_d2_78 ?_
          refine g_getr 1 4 rfl hS.k58 hm12.f_58_1 (by decide) ?_
          refine g_get 4 (0) (5) rfl hS.k4 hm12.f_4_4 (fun v79 ev79 bv79 cv79 => ?_)
          refine g_if (fun w80 => ?_) (fun w80 => ?_)
          · refine g_getr 4 61 rfl hS.k58 hm12.f_58_4 (by decide) ?_
            refine g_st hS.k61 hS.l61 (by omega) (by omega) (hm12.wa_61 (by omega) (by omega) (by omega) (by omega)) (fun m81 em81 hm81 => ?_)
            refine g_getr 5 62 rfl hS.k58 hm81.f_58_5 (by decide) ?_
            refine g_st hS.k62 hS.l62 (by omega) (by omega) (hm81.wa_62 (by omega) (by omega) (by omega) (by omega)) (fun m82 em82 hm82 => ?_)
            exact hk m82 hm82
          · refine ⟨hS.k58, ?_⟩
            refine z_X2_carried hS hm12 (by omega) (by omega) (by omega) (by omega) (by omega) (by omega) (fun v83 m84 hm84 bv83 cv83 => ?_)
            refine g_C ?_
            refine g_A (by omega) (by omega) ?_
            refine ⟨hS.k58, ?_⟩
            refine z_X2_visit_d1 hS hm84 (by omega) (by omega) (by omega) (by omega) (fun m85 hm85 => ?_)
            refine g_getr 4 61 rfl hS.k58 hm85.f_58_4 (by decide) ?_
            refine g_C ?_
            refine g_A (by omega) (by omega) ?_
            refine g_C ?_
            refine g_M (by omega) (by omega) ?_
            refine g_A (by omega) (by omega) ?_
            refine g_ld (-2147483648) (2147483647) hS.k61 hS.l61 (by omega) (by omega) (hm85.a_61 (by omega) (by omega)) (fun v86 ev86 bv86 cv86 => ?_)
            refine g_Aw (fun v87 bv87 cv87 => ?_)
            refine g_getr 5 62 rfl hS.k58 hm85.f_58_5 (by decide) ?_
            refine g_C ?_
            refine g_A (by omega) (by omega) ?_
            refine g_C ?_
            refine g_M (by omega) (by omega) ?_
            refine g_A (by omega) (by omega) ?_
            refine g_ld (-2147483648) (2147483647) hS.k62 hS.l62 (by omega) (by omega) (hm85.a_62 (by omega) (by omega)) (fun v88 ev88 bv88 cv88 => ?_)
            refine g_min (fun v89 bv89 cv89 dv89 => ?_)
            refine g_A (by omega) (by omega) ?_
            exact ih_n_l78 v87 v89 (u11 + 1) m85 hm85 (by omega) (by omega) (by omega) (by omega) (by omega) (by omega) (by omega)
      exact ⟨6, L_n_l78 6 0 999 0 m0 hm0 (by omega) (by omega) (by omega) (by omega) (by omega) (by omega) (by omega)⟩
    · refine g_getr 4 61 rfl hS.k58 hm0.f_58_4 (by decide) ?_
      refine g_get 9 (-2147483648) (2147483647) rfl hS.k58 hm0.f_58_9 (fun v90 ev90 bv90 cv90 => ?_)
      refine g_if (fun w91 => ?_) (fun w91 => ?_)
      · refine u_X2_visit_d2_57 ?_
        refine g_C ?_
        refine u_X2_visit_d2_58 ?_
        refine g_st hS.k61 hS.l61 (by omega) (by omega) (hm0.wa_61 (by omega) (by omega) (by omega) (by omega)) (fun m92 em92 hm92 => ?_)
        refine g_getr 5 62 rfl hS.k58 hm92.f_58_5 (by decide) ?_
        refine g_st hS.k62 hS.l62 (by omega) (by omega) (hm92.wa_62 (by omega) (by omega) (by omega) (by omega)) (fun m93 em93 hm93 => ?_)
        exact hk m93 hm93
      · refine g_get 10 (-2147483648) (2147483647) rfl hS.k58 hm0.f_58_10 (fun v94 ev94 bv94 cv94 => ?_)
        refine g_if (fun w95 => ?_) (fun w95 => ?_)
        · refine u_X2_visit_d2_57 ?_
          refine g_C ?_
          refine u_X2_visit_d2_58 ?_
          refine g_st hS.k61 hS.l61 (by omega) (by omega) (hm0.wa_61 (by omega) (by omega) (by omega) (by omega)) (fun m96 em96 hm96 => ?_)
          refine g_getr 5 62 rfl hS.k58 hm96.f_58_5 (by decide) ?_
          refine g_st hS.k62 hS.l62 (by omega) (by omega) (hm96.wa_62 (by omega) (by omega) (by omega) (by omega)) (fun m97 em97 hm97 => ?_)
          exact hk m97 hm97
        · refine g_C ?_
          refine u_X2_visit_d2_58 ?_
          refine g_st hS.k61 hS.l61 (by omega) (by omega) (hm0.wa_61 (by omega) (by omega) (by omega) (by omega)) (fun m98 em98 hm98 => ?_)
          refine g_getr 5 62 rfl hS.k58 hm98.f_58_5 (by decide) ?_
          refine g_st hS.k62 hS.l62 (by omega) (by omega) (hm98.wa_62 (by omega) (by omega) (by omega) (by omega)) (fun m99 em99 hm99 => ?_)
          exact hk m99 hm99
  · exact hk m0 hm0
theorem z_X2_visit_d3 {X : Mm} {S : Sh} {m0 : Mm} {K : Mm → Prop} {u1 u2 : Int} (hS : Shp S) (hm0 : Inv X S m0) (l_u1 : 2 ≤ u1) (h_u1 : u1 ≤ 2) (l_u2 : 0 ≤ u2) (h_u2 : u2 ≤ 999) (hk : ∀ (M1 : Mm), Inv X S M1 → K M1) : wp_X2_visit_d3 S m0 58 u1 u2 K := by
  refine u_X2_visit_d3 ?_
  refine g_C ?_
  refine g_M (by omega) (by omega) ?_
  refine g_A (by omega) (by omega) ?_
  refine g_C ?_
  refine g_ifF (by omega) ?_
  refine g_getr 4 61 rfl hS.k58 hm0.f_58_4 (by decide) ?_
  refine g_ld (-2147483648) (2147483647) hS.k61 hS.l61 (by omega) (by omega) (hm0.a_61 (by omega) (by omega)) (fun v1 ev1 bv1 cv1 => ?_)
  refine g_C ?_
  refine g_if (fun w2 => ?_) (fun w2 => ?_)
  · refine g_get 6 (0) (5) rfl hS.k58 hm0.f_58_6 (fun v3 ev3 bv3 cv3 => ?_)
    refine g_if (fun w4 => ?_) (fun w4 => ?_)
    · refine g_C ?_
      refine g_C ?_
      refine g_C ?_
      have L_n_l78 : ∀ (n_l78 : Nat) (u9 : Int) (u10 : Int) (u11 : Int) (m12 : Mm), Inv X S m12 → (-2147483648) ≤ u9 → u9 ≤ 2147483647 → (-2147483648) ≤ u10 → u10 ≤ 999 → 0 ≤ u11 → u11 ≤ 5 → 6 - u11 ≤ (n_l78 : Int) → wp_X2_visit_d3_78 S K n_l78 58 u1 u2 ((u1 * 1000) + u2) u9 u10 u11 m12 := by
        intro n_l78
        induction n_l78 with
        | zero => intro u9 u10 u11 m12 hm12 bu9 cu9 bu10 cu10 bu11 cu11 zn_l78; exfalso; omega
        | succ n_l78 ih_n_l78 =>
          intro u9 u10 u11 m12 hm12 bu9 cu9 bu10 cu10 bu11 cu11 zn_l78
          refine u_X2_visit_d3_78 ?_
          refine g_getr 1 4 rfl hS.k58 hm12.f_58_1 (by decide) ?_
          refine g_get 4 (0) (5) rfl hS.k4 hm12.f_4_4 (fun v79 ev79 bv79 cv79 => ?_)
          refine g_if (fun w80 => ?_) (fun w80 => ?_)
          · refine g_getr 4 61 rfl hS.k58 hm12.f_58_4 (by decide) ?_
            refine g_st hS.k61 hS.l61 (by omega) (by omega) (hm12.wa_61 (by omega) (by omega) (by omega) (by omega)) (fun m81 em81 hm81 => ?_)
            refine g_getr 5 62 rfl hS.k58 hm81.f_58_5 (by decide) ?_
            refine g_st hS.k62 hS.l62 (by omega) (by omega) (hm81.wa_62 (by omega) (by omega) (by omega) (by omega)) (fun m82 em82 hm82 => ?_)
            exact hk m82 hm82
          · refine ⟨hS.k58, ?_⟩
            refine z_X2_carried hS hm12 (by omega) (by omega) (by omega) (by omega) (by omega) (by omega) (fun v83 m84 hm84 bv83 cv83 => ?_)
            refine g_C ?_
            refine g_A (by omega) (by omega) ?_
            refine ⟨hS.k58, ?_⟩
            refine z_X2_visit_d2 hS hm84 (by omega) (by omega) (by omega) (by omega) (fun m85 hm85 => ?_)
            refine g_getr 4 61 rfl hS.k58 hm85.f_58_4 (by decide) ?_
            refine g_C ?_
            refine g_A (by omega) (by omega) ?_
            refine g_C ?_
            refine g_M (by omega) (by omega) ?_
            refine g_A (by omega) (by omega) ?_
            refine g_ld (-2147483648) (2147483647) hS.k61 hS.l61 (by omega) (by omega) (hm85.a_61 (by omega) (by omega)) (fun v86 ev86 bv86 cv86 => ?_)
            refine g_Aw (fun v87 bv87 cv87 => ?_)
            refine g_getr 5 62 rfl hS.k58 hm85.f_58_5 (by decide) ?_
            refine g_C ?_
            refine g_A (by omega) (by omega) ?_
            refine g_C ?_
            refine g_M (by omega) (by omega) ?_
            refine g_A (by omega) (by omega) ?_
            refine g_ld (-2147483648) (2147483647) hS.k62 hS.l62 (by omega) (by omega) (hm85.a_62 (by omega) (by omega)) (fun v88 ev88 bv88 cv88 => ?_)
            refine g_min (fun v89 bv89 cv89 dv89 => ?_)
            refine g_A (by omega) (by omega) ?_
            exact ih_n_l78 v87 v89 (u11 + 1) m85 hm85 (by omega) (by omega) (by omega) (by omega) (by omega) (by omega) (by omega)
      exact ⟨6, L_n_l78 6 0 999 0 m0 hm0 (by omega) (by omega) (by omega) (by omega) (by omega) (by omega) (by omega)⟩
    · refine g_getr 4 61 rfl hS.k58 hm0.f_58_4 (by decide) ?_
      refine g_get 9 (-2147483648) (2147483647) rfl hS.k58 hm0.f_58_9 (fun v90 ev90 bv90 cv90 => ?_)
      refine g_if (fun w91 => ?_) (fun w91 => ?_)
      · refine u_X2_visit_d3_57 ?_
        refine g_C ?_
        refine u_X2_visit_d3_58 ?_
        refine g_st hS.k61 hS.l61 (by omega) (by omega) (hm0.wa_61 (by omega) (by omega) (by omega) (by omega)) (fun m92 em92 hm92 => ?_)
        refine g_getr 5 62 rfl hS.k58 hm92.f_58_5 (by decide) ?_
        refine g_st hS.k62 hS.l62 (by omega) (by omega) (hm92.wa_62 (by omega) (by omega) (by omega) (by omega)) (fun m93 em93 hm93 => ?_)
        exact hk m93 hm93
      · refine g_get 10 (-2147483648) (2147483647) rfl hS.k58 hm0.f_58_10 (fun v94 ev94 bv94 cv94 => ?_)
        refine g_if (fun w95 => ?_) (fun w95 => ?_)
        · refine u_X2_visit_d3_57 ?_
          refine g_C ?_
          refine u_X2_visit_d3_58 ?_
          refine g_st hS.k61 hS.l61 (by omega) (by omega) (hm0.wa_61 (by omega) (by omega) (by omega) (by omega)) (fun m96 em96 hm96 => ?_)
          refine g_getr 5 62 rfl hS.k58 hm96.f_58_5 (by decide) ?_
          refine g_st hS.k62 hS.l62 (by omega) (by omega) (hm96.wa_62 (by omega) (by omega) (by omega) (by omega)) (fun m97 em97 hm97 => ?_)
          exact hk m97 hm97
        · refine g_C ?_
          refine u_X2_visit_d3_58 ?_
          refine g_st hS.k61 hS.l61 (by omega) (by omega) (hm0.wa_61 (by omega) (by omega) (by omega) (by omega)) (fun m98 em98 hm98 => ?_)
          refine g_getr 5 62 rfl hS.k58 hm98.f_58_5 (by decide) ?_
          refine g_st hS.k62 hS.l62 (by omega) (by omega) (hm98.wa_62 (by omega) (by omega) (by omega) (by omega)) (fun m99 em99 hm99 => ?_)
          exact hk m99 hm99
  · exact hk m0 hm0
theorem z_X2_visit_d4 {X : Mm} {S : Sh} {m0 : Mm} {K : Mm → Prop} {u1 u2 : Int} (hS : Shp S) (hm0 : Inv X S m0) (l_u1 : 1 ≤ u1) (h_u1 : u1 ≤ 1) (l_u2 : 0 ≤ u2) (h_u2 : u2 ≤ 999) (hk : ∀ (M1 : Mm), Inv X S M1 → K M1) : wp_X2_visit_d4 S m0 58 u1 u2 K := by
  refine u_X2_visit_d4 ?_
  refine g_C ?_
  refine g_M (by omega) (by omega) ?_
  refine g_A (by omega) (by omega) ?_
  refine g_C ?_
  refine g_ifF (by omega) ?_
  refine g_getr 4 61 rfl hS.k58 hm0.f_58_4 (by decide) ?_
  refine g_ld (-2147483648) (2147483647) hS.k61 hS.l61 (by omega) (by omega) (hm0.a_61 (by omega) (by omega)) (fun v1 ev1 bv1 cv1 => ?_)
  refine g_C ?_
  refine g_if (fun w2 => ?_) (fun w2 => ?_)
  · refine g_get 6 (0) (5) rfl hS.k58 hm0.f_58_6 (fun v3 ev3 bv3 cv3 => ?_)
    refine g_if (fun w4 => ?_) (fun w4 => ?_)
    · refine g_C ?_
      refine g_C ?_
      refine g_C ?_
      have L_n_l78 : ∀ (n_l78 : Nat) (u9 : Int) (u10 : Int) (u11 : Int) (m12 : Mm), Inv X S m12 → (-2147483648) ≤ u9 → u9 ≤ 2147483647 → (-2147483648) ≤ u10 → u10 ≤ 999 → 0 ≤ u11 → u11 ≤ 5 → 6 - u11 ≤ (n_l78 : Int) → wp_X2_visit_d4_78 S K n_l78 58 u1 u2 ((u1 * 1000) + u2) u9 u10 u11 m12 := by
        intro n_l78
        induction n_l78 with
        | zero => intro u9 u10 u11 m12 hm12 bu9 cu9 bu10 cu10 bu11 cu11 zn_l78; exfalso; omega
        | succ n_l78 ih_n_l78 =>
          intro u9 u10 u11 m12 hm12 bu9 cu9 bu10 cu10 bu11 cu11 zn_l78
          refine u_X2_visit_d4_78 ?_
          refine g_getr 1 4 rfl hS.k58 hm12.f_58_1 (by decide) ?_
          refine g_get 4 (0) (5) rfl hS.k4 hm12.f_4_4 (fun v79 ev79 bv79 cv79 => ?_)
          refine g_if (fun w80 => ?_) (fun w80 => ?_)
          · refine g_getr 4 61 rfl hS.k58 hm12.f_58_4 (by decide) ?_
            refine g_st hS.k61 hS.l61 (by omega) (by omega) (hm12.wa_61 (by omega) (by omega) (by omega) (by omega)) (fun m81 em81 hm81 => ?_)
            refine g_getr 5 62 rfl hS.k58 hm81.f_58_5 (by decide) ?_
            refine g_st hS.k62 hS.l62 (by omega) (by omega) (hm81.wa_62 (by omega) (by omega) (by omega) (by omega)) (fun m82 em82 hm82 => ?_)
            exact hk m82 hm82
          · refine ⟨hS.k58, ?_⟩
            refine z_X2_carried hS hm12 (by omega) (by omega) (by omega) (by omega) (by omega) (by omega) (fun v83 m84 hm84 bv83 cv83 => ?_)
            refine g_C ?_
            refine g_A (by omega) (by omega) ?_
            refine ⟨hS.k58, ?_⟩
            refine z_X2_visit_d3 hS hm84 (by omega) (by omega) (by omega) (by omega) (fun m85 hm85 => ?_)
            refine g_getr 4 61 rfl hS.k58 hm85.f_58_4 (by decide) ?_
            refine g_C ?_
            refine g_A (by omega) (by omega) ?_
            refine g_C ?_
            refine g_M (by omega) (by omega) ?_
            refine g_A (by omega) (by omega) ?_
            refine g_ld (-2147483648) (2147483647) hS.k61 hS.l61 (by omega) (by omega) (hm85.a_61 (by omega) (by omega)) (fun v86 ev86 bv86 cv86 => ?_)
            refine g_Aw (fun v87 bv87 cv87 => ?_)
            refine g_getr 5 62 rfl hS.k58 hm85.f_58_5 (by decide) ?_
            refine g_C ?_
            refine g_A (by omega) (by omega) ?_
            refine g_C ?_
            refine g_M (by omega) (by omega) ?_
            refine g_A (by omega) (by omega) ?_
            refine g_ld (-2147483648) (2147483647) hS.k62 hS.l62 (by omega) (by omega) (hm85.a_62 (by omega) (by omega)) (fun v88 ev88 bv88 cv88 => ?_)
            refine g_min (fun v89 bv89 cv89 dv89 => ?_)
            refine g_A (by omega) (by omega) ?_
            exact ih_n_l78 v87 v89 (u11 + 1) m85 hm85 (by omega) (by omega) (by omega) (by omega) (by omega) (by omega) (by omega)
      exact ⟨6, L_n_l78 6 0 999 0 m0 hm0 (by omega) (by omega) (by omega) (by omega) (by omega) (by omega) (by omega)⟩
    · refine g_getr 4 61 rfl hS.k58 hm0.f_58_4 (by decide) ?_
      refine g_get 9 (-2147483648) (2147483647) rfl hS.k58 hm0.f_58_9 (fun v90 ev90 bv90 cv90 => ?_)
      refine g_if (fun w91 => ?_) (fun w91 => ?_)
      · refine u_X2_visit_d4_57 ?_
        refine g_C ?_
        refine u_X2_visit_d4_58 ?_
        refine g_st hS.k61 hS.l61 (by omega) (by omega) (hm0.wa_61 (by omega) (by omega) (by omega) (by omega)) (fun m92 em92 hm92 => ?_)
        refine g_getr 5 62 rfl hS.k58 hm92.f_58_5 (by decide) ?_
        refine g_st hS.k62 hS.l62 (by omega) (by omega) (hm92.wa_62 (by omega) (by omega) (by omega) (by omega)) (fun m93 em93 hm93 => ?_)
        exact hk m93 hm93
      · refine g_get 10 (-2147483648) (2147483647) rfl hS.k58 hm0.f_58_10 (fun v94 ev94 bv94 cv94 => ?_)
        refine g_if (fun w95 => ?_) (fun w95 => ?_)
        · refine u_X2_visit_d4_57 ?_
          refine g_C ?_
          refine u_X2_visit_d4_58 ?_
          refine g_st hS.k61 hS.l61 (by omega) (by omega) (hm0.wa_61 (by omega) (by omega) (by omega) (by omega)) (fun m96 em96 hm96 => ?_)
          refine g_getr 5 62 rfl hS.k58 hm96.f_58_5 (by decide) ?_
          refine g_st hS.k62 hS.l62 (by omega) (by omega) (hm96.wa_62 (by omega) (by omega) (by omega) (by omega)) (fun m97 em97 hm97 => ?_)
          exact hk m97 hm97
        · refine g_C ?_
          refine u_X2_visit_d4_58 ?_
          refine g_st hS.k61 hS.l61 (by omega) (by omega) (hm0.wa_61 (by omega) (by omega) (by omega) (by omega)) (fun m98 em98 hm98 => ?_)
          refine g_getr 5 62 rfl hS.k58 hm98.f_58_5 (by decide) ?_
          refine g_st hS.k62 hS.l62 (by omega) (by omega) (hm98.wa_62 (by omega) (by omega) (by omega) (by omega)) (fun m99 em99 hm99 => ?_)
          exact hk m99 hm99
  · exact hk m0 hm0
theorem z_X2_visit_d5 {X : Mm} {S : Sh} {m0 : Mm} {K : Mm → Prop} {u1 u2 : Int} (hS : Shp S) (hm0 : Inv X S m0) (l_u1 : 0 ≤ u1) (h_u1 : u1 ≤ 0) (l_u2 : 0 ≤ u2) (h_u2 : u2 ≤ 999) (hk : ∀ (M1 : Mm), Inv X S M1 → K M1) : wp_X2_visit_d5 S m0 58 u1 u2 K := by
  refine u_X2_visit_d5 ?_
  refine g_C ?_
  refine g_M (by omega) (by omega) ?_
  refine g_A (by omega) (by omega) ?_
  refine g_C ?_
  refine g_ifF (by omega) ?_
  refine g_getr 4 61 rfl hS.k58 hm0.f_58_4 (by decide) ?_
  refine g_ld (-2147483648) (2147483647) hS.k61 hS.l61 (by omega) (by omega) (hm0.a_61 (by omega) (by omega)) (fun v1 ev1 bv1 cv1 => ?_)
  refine g_C ?_
  refine g_if (fun w2 => ?_) (fun w2 => ?_)
  · refine g_get 6 (0) (5) rfl hS.k58 hm0.f_58_6 (fun v3 ev3 bv3 cv3 => ?_)
    refine g_if (fun w4 => ?_) (fun w4 => ?_)
    · refine g_C ?_
      refine g_C ?_
      refine g_C ?_
      have L_n_l78 : ∀ (n_l78 : Nat) (u9 : Int) (u10 : Int) (u11 : Int) (m12 : Mm), Inv X S m12 → (-2147483648) ≤ u9 → u9 ≤ 2147483647 → (-2147483648) ≤ u10 → u10 ≤ 999 → 0 ≤ u11 → u11 ≤ 5 → 6 - u11 ≤ (n_l78 : Int) → wp_X2_visit_d5_78 S K n_l78 58 u1 u2 ((u1 * 1000) + u2) u9 u10 u11 m12 := by
        intro n_l78
        induction n_l78 with
        | zero => intro u9 u10 u11 m12 hm12 bu9 cu9 bu10 cu10 bu11 cu11 zn_l78; exfalso; omega
        | succ n_l78 ih_n_l78 =>
          intro u9 u10 u11 m12 hm12 bu9 cu9 bu10 cu10 bu11 cu11 zn_l78
          refine u_X2_visit_d5_78 ?_
          refine g_getr 1 4 rfl hS.k58 hm12.f_58_1 (by decide) ?_
          refine g_get 4 (0) (5) rfl hS.k4 hm12.f_4_4 (fun v79 ev79 bv79 cv79 => ?_)
          refine g_if (fun w80 => ?_) (fun w80 => ?_)
          · refine g_getr 4 61 rfl hS.k58 hm12.f_58_4 (by decide) ?_
            refine g_st hS.k61 hS.l61 (by omega) (by omega) (hm12.wa_61 (by omega) (by omega) (by omega) (by omega)) (fun m81 em81 hm81 => ?_)
            refine g_getr 5 62 rfl hS.k58 hm81.f_58_5 (by decide) ?_
            refine g_st hS.k62 hS.l62 (by omega) (by omega) (hm81.wa_62 (by omega) (by omega) (by omega) (by omega)) (fun m82 em82 hm82 => ?_)
            exact hk m82 hm82
          · refine ⟨hS.k58, ?_⟩
            refine z_X2_carried hS hm12 (by omega) (by omega) (by omega) (by omega) (by omega) (by omega) (fun v83 m84 hm84 bv83 cv83 => ?_)
            refine g_C ?_
            refine g_A (by omega) (by omega) ?_
            refine ⟨hS.k58, ?_⟩
            refine z_X2_visit_d4 hS hm84 (by omega) (by omega) (by omega) (by omega) (fun m85 hm85 => ?_)
            refine g_getr 4 61 rfl hS.k58 hm85.f_58_4 (by decide) ?_
            refine g_C ?_
            refine g_A (by omega) (by omega) ?_
            refine g_C ?_
            refine g_M (by omega) (by omega) ?_
            refine g_A (by omega) (by omega) ?_
            refine g_ld (-2147483648) (2147483647) hS.k61 hS.l61 (by omega) (by omega) (hm85.a_61 (by omega) (by omega)) (fun v86 ev86 bv86 cv86 => ?_)
            refine g_Aw (fun v87 bv87 cv87 => ?_)
            refine g_getr 5 62 rfl hS.k58 hm85.f_58_5 (by decide) ?_
            refine g_C ?_
            refine g_A (by omega) (by omega) ?_
            refine g_C ?_
            refine g_M (by omega) (by omega) ?_
            refine g_A (by omega) (by omega) ?_
            refine g_ld (-2147483648) (2147483647) hS.k62 hS.l62 (by omega) (by omega) (hm85.a_62 (by omega) (by omega)) (fun v88 ev88 bv88 cv88 => ?_)
            refine g_min (fun v89 bv89 cv89 dv89 => ?_)
            refine g_A (by omega) (by omega) ?_
            exact ih_n_l78 v87 v89 (u11 + 1) m85 hm85 (by omega) (by omega) (by omega) (by omega) (by omega) (by omega) (by omega)
      exact ⟨6, L_n_l78 6 0 999 0 m0 hm0 (by omega) (by omega) (by omega) (by omega) (by omega) (by omega) (by omega)⟩
    · refine g_getr 4 61 rfl hS.k58 hm0.f_58_4 (by decide) ?_
      refine g_get 9 (-2147483648) (2147483647) rfl hS.k58 hm0.f_58_9 (fun v90 ev90 bv90 cv90 => ?_)
      refine g_if (fun w91 => ?_) (fun w91 => ?_)
      · refine u_X2_visit_d5_57 ?_
        refine g_C ?_
        refine u_X2_visit_d5_58 ?_
        refine g_st hS.k61 hS.l61 (by omega) (by omega) (hm0.wa_61 (by omega) (by omega) (by omega) (by omega)) (fun m92 em92 hm92 => ?_)
        refine g_getr 5 62 rfl hS.k58 hm92.f_58_5 (by decide) ?_
        refine g_st hS.k62 hS.l62 (by omega) (by omega) (hm92.wa_62 (by omega) (by omega) (by omega) (by omega)) (fun m93 em93 hm93 => ?_)
        exact hk m93 hm93
      · refine g_get 10 (-2147483648) (2147483647) rfl hS.k58 hm0.f_58_10 (fun v94 ev94 bv94 cv94 => ?_)
        refine g_if (fun w95 => ?_) (fun w95 => ?_)
        · refine u_X2_visit_d5_57 ?_
          refine g_C ?_
          refine u_X2_visit_d5_58 ?_
          refine g_st hS.k61 hS.l61 (by omega) (by omega) (hm0.wa_61 (by omega) (by omega) (by omega) (by omega)) (fun m96 em96 hm96 => ?_)
          refine g_getr 5 62 rfl hS.k58 hm96.f_58_5 (by decide) ?_
          refine g_st hS.k62 hS.l62 (by omega) (by omega) (hm96.wa_62 (by omega) (by omega) (by omega) (by omega)) (fun m97 em97 hm97 => ?_)
          exact hk m97 hm97
        · refine g_C ?_
          refine u_X2_visit_d5_58 ?_
          refine g_st hS.k61 hS.l61 (by omega) (by omega) (hm0.wa_61 (by omega) (by omega) (by omega) (by omega)) (fun m98 em98 hm98 => ?_)
          refine g_getr 5 62 rfl hS.k58 hm98.f_58_5 (by decide) ?_
          refine g_st hS.k62 hS.l62 (by omega) (by omega) (hm98.wa_62 (by omega) (by omega) (by omega) (by omega)) (fun m99 em99 hm99 => ?_)
          exact hk m99 hm99
  · exact hk m0 hm0
theorem z_X11_relay {X : Mm} {S : Sh} {m0 : Mm} {K : Int → Mm → Prop} {u1 u2 u3 u4 u5 : Int} (hS : Shp S) (hm0 : Inv X S m0) (l_u1 : (-2147483648) ≤ u1) (h_u1 : u1 ≤ 2147483647) (l_u2 : (-2147483648) ≤ u2) (h_u2 : u2 ≤ 2147483647) (l_u3 : (-2147483648) ≤ u3) (h_u3 : u3 ≤ 2147483647) (l_u4 : (-2147483648) ≤ u4) (h_u4 : u4 ≤ 2147483647) (l_u5 : (-2147483648) ≤ u5) (h_u5 : u5 ≤ 2147483647) (hk : ∀ (r : Int) (M1 : Mm), Inv X S M1 → (-2147483648) ≤ r → r ≤ 2147483647 → K r M1) : wp_X11_relay S m0 0 u1 u2 u3 u4 u5 K := by
  refine u_X11_relay ?_
  refine ⟨hS.k0, ?_⟩
  refine u_X11_isStandingJug ?_
  refine ⟨hS.k0, ?_⟩
  refine u_X11_isJug ?_
  refine g_if (fun w1 => ?_) (fun w1 => ?_)
  · refine g_C ?_
    refine ⟨by omega, ?_⟩
    refine g_ifT (by omega) ?_
    refine g_C ?_
    refine ⟨by omega, ?_⟩
    refine g_ifT (by omega) ?_
    refine g_C ?_
    exact hk (-3) m0 hm0 (by omega) (by omega)
  · refine g_getr 1 3 rfl hS.k0 hm0.f_0_1 (by decide) ?_
    refine g_getr 0 4 rfl hS.k3 hm0.f_3_0 (by decide) ?_
    refine g_get 5 (0) (4) rfl hS.k4 hm0.f_4_5 (fun v2 ev2 bv2 cv2 => ?_)
    refine g_if (fun w3 => ?_) (fun w3 => ?_)
    · refine g_C ?_
      refine ⟨by omega, ?_⟩
      refine g_ifT (by omega) ?_
      refine g_C ?_
      refine ⟨by omega, ?_⟩
      refine g_ifT (by omega) ?_
      refine g_C ?_
      exact hk (-3) m0 hm0 (by omega) (by omega)
    · refine g_C ?_
      refine ⟨by omega, ?_⟩
      refine g_ifF (by omega) ?_
      refine g_getr 1 3 rfl hS.k0 hm0.f_0_1 (by decide) ?_
      refine g_getr 1 16 rfl hS.k3 hm0.f_3_1 (by decide) ?_
      refine ⟨hS.k16, ?_⟩
      refine u_X5_stands ?_
      refine g_getr 5 20 rfl hS.k16 hm0.f_16_5 (by decide) ?_
      refine g_ld (-1) (5) hS.k20 hS.l20 (by omega) (by omega) (hm0.a_20 (by omega) (by omega)) (fun v4 ev4 bv4 cv4 => ?_)
      refine g_C ?_
      refine g_if (fun w5 => ?_) (fun w5 => ?_)
      · refine g_C ?_
        refine ⟨by omega, ?_⟩
        refine g_ifT (by omega) ?_
        refine g_C ?_
        refine ⟨by omega, ?_⟩
        refine g_ifT (by omega) ?_
        refine g_C ?_
        exact hk (-3) m0 hm0 (by omega) (by omega)
      · refine g_C ?_
        refine ⟨by omega, ?_⟩
        refine g_ifF (by omega) ?_
        refine g_C ?_
        refine ⟨by omega, ?_⟩
        refine g_ifF (by omega) ?_
        refine ⟨hS.k0, ?_⟩
        refine u_X11_isPlace ?_
        refine g_if (fun w6 => ?_) (fun w6 => ?_)
        · refine g_C ?_
          refine ⟨by omega, ?_⟩
          refine g_ifT (by omega) ?_
          refine g_C ?_
          exact hk (-3) m0 hm0 (by omega) (by omega)
        · refine g_getr 1 3 rfl hS.k0 hm0.f_0_1 (by decide) ?_
          refine g_getr 0 4 rfl hS.k3 hm0.f_3_0 (by decide) ?_
          refine g_get 0 (0) (6) rfl hS.k4 hm0.f_4_0 (fun v7 ev7 bv7 cv7 => ?_)
          refine g_if (fun w8 => ?_) (fun w8 => ?_)
          · refine g_C ?_
            refine ⟨by omega, ?_⟩
            refine g_ifT (by omega) ?_
            refine g_C ?_
            exact hk (-3) m0 hm0 (by omega) (by omega)
          · refine g_C ?_
            refine ⟨by omega, ?_⟩
            refine g_ifF (by omega) ?_
            refine g_if (fun w9 => ?_) (fun w9 => ?_)
            · refine g_C ?_
              exact hk (-3) m0 hm0 (by omega) (by omega)
            · refine g_C ?_
              refine g_if (fun w10 => ?_) (fun w10 => ?_)
              · refine u_X11_isTurned ?_
                refine g_if (fun w11 => ?_) (fun w11 => ?_)
                · refine g_C ?_
                  refine ⟨by omega, ?_⟩
                  refine g_ifT (by omega) ?_
                  refine g_C ?_
                  exact hk (-3) m0 hm0 (by omega) (by omega)
                · refine g_C ?_
                  refine g_if (fun w12 => ?_) (fun w12 => ?_)
                  · refine g_C ?_
                    refine ⟨by omega, ?_⟩
                    refine g_ifT (by omega) ?_
                    refine g_C ?_
                    exact hk (-3) m0 hm0 (by omega) (by omega)
                  · refine g_C ?_
                    refine ⟨by omega, ?_⟩
                    refine g_ifF (by omega) ?_
                    refine u_X11_isTurned ?_
                    refine g_if (fun w13 => ?_) (fun w13 => ?_)
                    · refine g_C ?_
                      refine ⟨by omega, ?_⟩
                      refine g_ifT (by omega) ?_
                      refine g_C ?_
                      exact hk (-3) m0 hm0 (by omega) (by omega)
                    · refine g_C ?_
                      refine g_if (fun w14 => ?_) (fun w14 => ?_)
                      · refine g_C ?_
                        refine ⟨by omega, ?_⟩
                        refine g_ifT (by omega) ?_
                        refine g_C ?_
                        exact hk (-3) m0 hm0 (by omega) (by omega)
                      · refine g_C ?_
                        refine ⟨by omega, ?_⟩
                        refine g_ifF (by omega) ?_
                        refine g_if (fun w15 => ?_) (fun w15 => ?_)
                        · refine g_getr 1 3 rfl hS.k0 hm0.f_0_1 (by decide) ?_
                          refine g_getr 1 16 rfl hS.k3 hm0.f_3_1 (by decide) ?_
                          refine g_getr 5 20 rfl hS.k16 hm0.f_16_5 (by decide) ?_
                          refine g_ld (-1) (5) hS.k20 hS.l20 (by omega) (by omega) (hm0.a_20 (by omega) (by omega)) (fun v16 ev16 bv16 cv16 => ?_)
                          have qv16 : v16 = v4 := ev16.trans ev4.symm
                          refine g_getr 1 3 rfl hS.k0 hm0.f_0_1 (by decide) ?_
                          refine g_getr 0 4 rfl hS.k3 hm0.f_3_0 (by decide) ?_
                          refine ⟨hS.k4, ?_⟩
                          refine u_X8_hasWay ?_
                          refine g_getr 9 6 rfl hS.k4 hm0.f_4_9 (by decide) ?_
                          refine u_X8_pair ?_
                          refine g_C ?_
                          refine g_M (by omega) (by omega) ?_
                          refine g_A (by omega) (by omega) ?_
                          refine g_ld (0) (1000) hS.k6 hS.l6 (by omega) (by omega) (hm0.a_6 (by omega) (by omega)) (fun v17 ev17 bv17 cv17 => ?_)
                          refine g_C ?_
                          refine g_if (fun w18 => ?_) (fun w18 => ?_)
                          · refine g_C ?_
                            refine ⟨by omega, ?_⟩
                            refine g_ifT (by omega) ?_
                            refine g_C ?_
                            exact hk (-2) m0 hm0 (by omega) (by omega)
                          · refine g_C ?_
                            refine ⟨by omega, ?_⟩
                            refine g_ifF (by omega) ?_
                            refine g_if (fun w19 => ?_) (fun w19 => ?_)
                            · refine u_X11_relay_107 ?_
                              refine g_getr 12 58 rfl hS.k0 hm0.f_0_12 (by decide) ?_
                              refine g_getr 1 3 rfl hS.k0 hm0.f_0_1 (by decide) ?_
                              refine g_getr 1 16 rfl hS.k3 hm0.f_3_1 (by decide) ?_
                              refine g_get 0 (0) (999) rfl hS.k16 hm0.f_16_0 (fun v20 ev20 bv20 cv20 => ?_)
                              refine ⟨hS.k58, ?_⟩
                              refine z_X2_setOut hS hm0 (by omega) (by omega) (by omega) (by omega) (by omega) (by omega) (by omega) (by omega) (fun m21 hm21 => ?_)
                              refine g_getr 12 58 rfl hS.k0 hm21.f_0_12 (by decide) ?_
                              refine g_getr 1 3 rfl hS.k0 hm21.f_0_1 (by decide) ?_
                              refine g_getr 1 16 rfl hS.k3 hm21.f_3_1 (by decide) ?_
                              refine g_getr 7 22 rfl hS.k16 hm21.f_16_7 (by decide) ?_
                              refine g_ld (0) (999) hS.k22 hS.l22 (by omega) (by omega) (hm21.a_22 (by omega) (by omega)) (fun v22 ev22 bv22 cv22 => ?_)
                              refine ⟨hS.k58, ?_⟩
                              refine u_X2_solve ?_
                              refine g_put 8 rfl hS.k58 (hm21.w_58_8 (by omega) (by omega)) (fun m23 em23 hm23 => ?_)
                              refine g_put 9 rfl hS.k58 (hm23.w_58_9 (by omega) (by omega)) (fun m24 em24 hm24 => ?_)
                              refine g_put 10 rfl hS.k58 (hm24.w_58_10 (by omega) (by omega)) (fun m25 em25 hm25 => ?_)
                              refine g_getr 4 61 rfl hS.k58 hm25.f_58_4 (by decide) ?_
                              refine g_C ?_
                              refine g_get 6 (0) (5) rfl hS.k58 hm25.f_58_6 (fun v26 ev26 bv26 cv26 => ?_)
                              refine g_C ?_
                              refine g_A (by omega) (by omega) ?_
                              refine g_C ?_
                              refine g_M (by omega) (by omega) ?_
                              refine g_C ?_
                              refine s_fill2 hm25 hS.k61 hS.l61 (by decide) (by omega) (by omega) (by omega) (fun M i h0 h1 h2 => h0.wa_61 h1 h2 (by omega) (by omega)) (fun m27 hm27 => ?_)
                              refine g_C ?_
                              refine ⟨hS.k58, ?_⟩
                              refine z_X2_visit_d5 hS hm27 (by omega) (by omega) (by omega) (by omega) (fun m28 hm28 => ?_)
                              refine g_if (fun w29 => ?_) (fun w29 => ?_)
                              · refine g_getr 12 58 rfl hS.k0 hm28.f_0_12 (by decide) ?_
                                refine ⟨hS.k58, ?_⟩
                                refine u_X2_howMany ?_
                                refine g_getr 4 61 rfl hS.k58 hm28.f_58_4 (by decide) ?_
                                refine g_get 8 (0) (999) rfl hS.k58 hm28.f_58_8 (fun v30 ev30 bv30 cv30 => ?_)
                                refine g_ld (-2147483648) (2147483647) hS.k61 hS.l61 (by omega) (by omega) (hm28.a_61 (by omega) (by omega)) (fun v31 ev31 bv31 cv31 => ?_)
                                exact hk v31 m28 hm28 (by omega) (by omega)
                              · refine g_if (fun w32 => ?_) (fun w32 => ?_)
                                · refine g_getr 12 58 rfl hS.k0 hm28.f_0_12 (by decide) ?_
                                  refine ⟨hS.k58, ?_⟩
                                  refine u_X2_leastTurned ?_
                                  refine g_getr 5 62 rfl hS.k58 hm28.f_58_5 (by decide) ?_
                                  refine g_get 8 (0) (999) rfl hS.k58 hm28.f_58_8 (fun v33 ev33 bv33 cv33 => ?_)
                                  refine g_ld (-2147483648) (2147483647) hS.k62 hS.l62 (by omega) (by omega) (hm28.a_62 (by omega) (by omega)) (fun v34 ev34 bv34 cv34 => ?_)
                                  exact hk v34 m28 hm28 (by omega) (by omega)
                                · refine g_getr 12 58 rfl hS.k0 hm28.f_0_12 (by decide) ?_
                                  refine g_C ?_
                                  refine g_S (by omega) (by omega) ?_
                                  refine ⟨hS.k58, ?_⟩
                                  refine z_X2_handOfFirst hS hm28 (by omega) (by omega) (fun v35 m36 hm36 bv35 cv35 => ?_)
                                  exact hk v35 m36 hm36 (by omega) (by omega)
                            · refine g_getr 1 3 rfl hS.k0 hm0.f_0_1 (by decide) ?_
                              refine g_getr 0 4 rfl hS.k3 hm0.f_3_0 (by decide) ?_
                              refine g_get 4 (0) (5) rfl hS.k4 hm0.f_4_4 (fun v37 ev37 bv37 cv37 => ?_)
                              refine g_if (fun w38 => ?_) (fun w38 => ?_)
                              · refine u_X11_relay_107 ?_
                                refine g_getr 12 58 rfl hS.k0 hm0.f_0_12 (by decide) ?_
                                refine g_getr 1 3 rfl hS.k0 hm0.f_0_1 (by decide) ?_
                                refine g_getr 1 16 rfl hS.k3 hm0.f_3_1 (by decide) ?_
                                refine g_get 0 (0) (999) rfl hS.k16 hm0.f_16_0 (fun v39 ev39 bv39 cv39 => ?_)
                                refine ⟨hS.k58, ?_⟩
                                refine z_X2_setOut hS hm0 (by omega) (by omega) (by omega) (by omega) (by omega) (by omega) (by omega) (by omega) (fun m40 hm40 => ?_)
                                refine g_getr 12 58 rfl hS.k0 hm40.f_0_12 (by decide) ?_
                                refine g_getr 1 3 rfl hS.k0 hm40.f_0_1 (by decide) ?_
                                refine g_getr 1 16 rfl hS.k3 hm40.f_3_1 (by decide) ?_
                                refine g_getr 7 22 rfl hS.k16 hm40.f_16_7 (by decide) ?_
                                refine g_ld (0) (999) hS.k22 hS.l22 (by omega) (by omega) (hm40.a_22 (by omega) (by omega)) (fun v41 ev41 bv41 cv41 => ?_)
                                refine ⟨hS.k58, ?_⟩
                                refine u_X2_solve ?_
                                refine g_put 8 rfl hS.k58 (hm40.w_58_8 (by omega) (by omega)) (fun m42 em42 hm42 => ?_)
                                refine g_put 9 rfl hS.k58 (hm42.w_58_9 (by omega) (by omega)) (fun m43 em43 hm43 => ?_)
                                refine g_put 10 rfl hS.k58 (hm43.w_58_10 (by omega) (by omega)) (fun m44 em44 hm44 => ?_)
                                refine g_getr 4 61 rfl hS.k58 hm44.f_58_4 (by decide) ?_
                                refine g_C ?_
                                refine g_get 6 (0) (5) rfl hS.k58 hm44.f_58_6 (fun v45 ev45 bv45 cv45 => ?_)
                                refine g_C ?_
                                refine g_A (by omega) (by omega) ?_
                                refine g_C ?_
                                refine g_M (by omega) (by omega) ?_
                                refine g_C ?_
                                refine s_fill2 hm44 hS.k61 hS.l61 (by decide) (by omega) (by omega) (by omega) (fun M i h0 h1 h2 => h0.wa_61 h1 h2 (by omega) (by omega)) (fun m46 hm46 => ?_)
                                refine g_C ?_
                                refine ⟨hS.k58, ?_⟩
                                refine z_X2_visit_d5 hS hm46 (by omega) (by omega) (by omega) (by omega) (fun m47 hm47 => ?_)
                                refine g_if (fun w48 => ?_) (fun w48 => ?_)
                                · refine g_getr 12 58 rfl hS.k0 hm47.f_0_12 (by decide) ?_
                                  refine ⟨hS.k58, ?_⟩
                                  refine u_X2_howMany ?_
                                  refine g_getr 4 61 rfl hS.k58 hm47.f_58_4 (by decide) ?_
                                  refine g_get 8 (0) (999) rfl hS.k58 hm47.f_58_8 (fun v49 ev49 bv49 cv49 => ?_)
                                  refine g_ld (-2147483648) (2147483647) hS.k61 hS.l61 (by omega) (by omega) (hm47.a_61 (by omega) (by omega)) (fun v50 ev50 bv50 cv50 => ?_)
                                  exact hk v50 m47 hm47 (by omega) (by omega)
                                · refine g_if (fun w51 => ?_) (fun w51 => ?_)
                                  · refine g_getr 12 58 rfl hS.k0 hm47.f_0_12 (by decide) ?_
                                    refine ⟨hS.k58, ?_⟩
                                    refine u_X2_leastTurned ?_
                                    refine g_getr 5 62 rfl hS.k58 hm47.f_58_5 (by decide) ?_
                                    refine g_get 8 (0) (999) rfl hS.k58 hm47.f_58_8 (fun v52 ev52 bv52 cv52 => ?_)
                                    refine g_ld (-2147483648) (2147483647) hS.k62 hS.l62 (by omega) (by omega) (hm47.a_62 (by omega) (by omega)) (fun v53 ev53 bv53 cv53 => ?_)
                                    exact hk v53 m47 hm47 (by omega) (by omega)
                                  · refine g_getr 12 58 rfl hS.k0 hm47.f_0_12 (by decide) ?_
                                    refine g_C ?_
                                    refine g_S (by omega) (by omega) ?_
                                    refine ⟨hS.k58, ?_⟩
                                    refine z_X2_handOfFirst hS hm47 (by omega) (by omega) (fun v54 m55 hm55 bv54 cv54 => ?_)
                                    exact hk v54 m55 hm55 (by omega) (by omega)
                              · refine g_C ?_
                                exact hk (-2) m0 hm0 (by omega) (by omega)
                        · refine g_C ?_
                          exact hk (-3) m0 hm0 (by omega) (by omega)
              · refine g_C ?_
                exact hk (-3) m0 hm0 (by omega) (by omega)
