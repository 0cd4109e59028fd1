theorem z_J6_bitCount_0f7a4 {X : Mm} {S : Sh} {m0 : Mm} {K : Int → Mm → Prop} {u0 : Int} (hS : Shp S) (hm0 : Inv X S m0) (l_u0 : 0 ≤ u0) (h_u0 : u0 ≤ 1023) (hk : ∀ (r : Int), 0 ≤ r → r ≤ 63 → K r m0) : wp_J6_bitCount_0f7a4 S m0 u0 K := by
  refine u_J6_bitCount_0f7a4 ?_
  refine g_C ?_
  refine g_o32u (fun v1 bv1 cv1 => ?_)
  refine g_C ?_
  refine g_iAndR (by omega) (by omega) (fun v2 dv2 bv2 cv2 => ?_)
  refine g_S (by omega) (by omega) ?_
  refine g_C ?_
  refine g_iAndR (by omega) (by omega) (fun v3 dv3 bv3 cv3 => ?_)
  refine g_C ?_
  refine g_o32u (fun v4 bv4 cv4 => ?_)
  refine g_C ?_
  refine g_iAndR (by omega) (by omega) (fun v5 dv5 bv5 cv5 => ?_)
  refine g_A (by omega) (by omega) ?_
  refine g_C ?_
  refine g_o32u (fun v6 bv6 cv6 => ?_)
  refine g_Aw (fun v7 bv7 cv7 => ?_)
  refine g_C ?_
  refine g_iAndR (by omega) (by omega) (fun v8 dv8 bv8 cv8 => ?_)
  refine g_C ?_
  refine g_o32u (fun v9 bv9 cv9 => ?_)
  refine g_Aw (fun v10 bv10 cv10 => ?_)
  refine g_C ?_
  refine g_o32u (fun v11 bv11 cv11 => ?_)
  refine g_Aw (fun v12 bv12 cv12 => ?_)
  refine g_C ?_
  refine g_iAndR (by omega) (by omega) (fun v13 dv13 bv13 cv13 => ?_)
  exact hk v13 (by omega) (by omega)
theorem z_J6_numberOfTrailingZeros_0f7a4 {X : Mm} {S : Sh} {m0 : Mm} {K : Int → Mm → Prop} {u0 : Int} (hS : Shp S) (hm0 : Inv X S m0) (l_u0 : 1 ≤ u0) (h_u0 : u0 ≤ 31) (hk : ∀ (r : Int), (-2147483648) ≤ r → r ≤ 2147483647 → K r m0) : wp_J6_numberOfTrailingZeros_0f7a4 S m0 u0 K := by
  refine u_J6_numberOfTrailingZeros_0f7a4 ?_
  refine g_C ?_
  refine g_o32 (fun v1 bv1 cv1 => ?_)
  refine g_C ?_
  refine g_S (by omega) (by omega) ?_
  refine g_iAndR (by omega) (by omega) (fun v2 dv2 bv2 cv2 => ?_)
  refine g_if (fun w3 => ?_) (fun w3 => ?_)
  · refine g_C ?_
    refine g_C ?_
    refine g_ifT (by omega) ?_
    refine u_J6_numberOfTrailingZeros_0f7a4_34 ?_
    refine g_C ?_
    refine g_ifT (by omega) ?_
    refine u_J6_numberOfTrailingZeros_0f7a4_49 ?_
    refine g_C ?_
    refine g_if (fun w4 => ?_) (fun w4 => ?_)
    · refine u_J6_numberOfTrailingZeros_0f7a4_62 ?_
      refine g_C ?_
      refine g_if (fun w5 => ?_) (fun w5 => ?_)
      · refine u_J6_numberOfTrailingZeros_0f7a4_74 ?_
        refine g_C ?_
        refine g_o32u (fun v6 bv6 cv6 => ?_)
        refine g_Aw (fun v7 bv7 cv7 => ?_)
        exact hk v7 (by omega) (by omega)
      · refine g_Al (3) rfl (by decide) (by decide) ?_
        refine g_C ?_
        refine g_o32u (fun v8 bv8 cv8 => ?_)
        refine u_J6_numberOfTrailingZeros_0f7a4_74 ?_
        refine g_C ?_
        refine g_o32u (fun v9 bv9 cv9 => ?_)
        refine g_Aw (fun v10 bv10 cv10 => ?_)
        exact hk v10 (by omega) (by omega)
    · refine g_Al (5) rfl (by decide) (by decide) ?_
      refine g_C ?_
      refine g_o32u (fun v11 bv11 cv11 => ?_)
      refine u_J6_numberOfTrailingZeros_0f7a4_62 ?_
      refine g_C ?_
      refine g_if (fun w12 => ?_) (fun w12 => ?_)
      · refine u_J6_numberOfTrailingZeros_0f7a4_74 ?_
        refine g_C ?_
        refine g_o32u (fun v13 bv13 cv13 => ?_)
        refine g_Aw (fun v14 bv14 cv14 => ?_)
        exact hk v14 (by omega) (by omega)
      · refine g_Al (7) rfl (by decide) (by decide) ?_
        refine g_C ?_
        refine g_o32u (fun v15 bv15 cv15 => ?_)
        refine u_J6_numberOfTrailingZeros_0f7a4_74 ?_
        refine g_C ?_
        refine g_o32u (fun v16 bv16 cv16 => ?_)
        refine g_Aw (fun v17 bv17 cv17 => ?_)
        exact hk v17 (by omega) (by omega)
  · refine g_C ?_
    refine g_iAndR (by omega) (by omega) (fun v18 dv18 bv18 cv18 => ?_)
    exact hk v18 (by omega) (by omega)
theorem z_X7_look {X : Mm} {S : Sh} {m0 : Mm} {K : Int → Mm → Prop} (hS : Shp S) (hm0 : Inv X S m0)  (hk : ∀ (r : Int) (M1 : Mm), Inv X S M1 → (∀ c p : Int, ¬ (c = 1 ∧ 2 ≤ p ∧ p ≤ 3) → M1 c p = m0 c p) → (-1) ≤ r → r ≤ 255 → (m0 1 2 ≤ M1 1 2) → (r = -1 ∨ M1 1 2 < M1 1 1) → (r = -1 ∨ iAnd (M1 2 (M1 1 2)) 255 = r) → K r M1) : wp_X7_look S m0 1 K := by
  have Fm0 : ∀ c p : Int, ¬ (c = 1 ∧ 2 ≤ p ∧ p ≤ 3) → m0 c p = m0 c p := fun c p _ => rfl
  refine u_X7_look ?_
  have L_n_l51 : ∀ (n_l51 : Nat) (m2 : Mm), Inv X S m2 → (∀ c p : Int, ¬ (c = 1 ∧ 2 ≤ p ∧ p ≤ 3) → m2 c p = m0 c p) → (m0 1 2 ≤ m2 1 2) → 401 - m2 1 2 ≤ (n_l51 : Int) → wp_X7_look_0 S K n_l51 1 m2 := by
    intro n_l51
    induction n_l51 with
    | zero => intro m2 hm2 Fm2 xn_l51_0 zn_l51; exfalso; have zz1_2 := hm2.f_1_2; have zz1_1 := hm2.f_1_1; omega
    | succ n_l51 ih_n_l51 =>
      intro m2 hm2 Fm2 xn_l51_0 zn_l51
      refine u_X7_look_0 ?_
      refine g_get 2 (0) (400) rfl hS.k1 hm2.f_1_2 (fun v52 ev52 bv52 cv52 => ?_)
      refine g_get 1 (0) (400) rfl hS.k1 hm2.f_1_1 (fun v53 ev53 bv53 cv53 => ?_)
      have qv53 : v53 = (m0 1 1) := (ev53.trans (hm2.g (by decide))).trans (((Eq.refl (m0 1 1)).trans (hm0.g (by decide))).symm)
      refine g_if (fun w54 => ?_) (fun w54 => ?_)
      · refine u_X7_look_38 ?_
        refine g_get 2 (0) (400) rfl hS.k1 hm2.f_1_2 (fun v55 ev55 bv55 cv55 => ?_)
        have qv55 : v55 = v52 := ev55.trans ev52.symm
        refine g_put 3 rfl hS.k1 (hm2.w_1_3 (by omega) (by omega)) (fun m56 em56 hm56 => ?_)
        have Fm56 : ∀ c p : Int, ¬ (c = 1 ∧ 2 ≤ p ∧ p ≤ 3) → m56 c p = m0 c p := fun c p h => (congrFun (congrFun em56 _) _).trans ((up_ne (by omega)).trans (Fm2 c p h))
        refine g_get 2 (0) (400) rfl hS.k1 hm56.f_1_2 (fun v57 ev57 bv57 cv57 => ?_)
        have qv57 : v57 = v52 := ev57.trans ((congrFun (congrFun em56 _) _).trans ((up_ne (by omega)).trans ev52.symm))
        refine g_get 1 (0) (400) rfl hS.k1 hm56.f_1_1 (fun v58 ev58 bv58 cv58 => ?_)
        have qv58 : v58 = (m0 1 1) := (ev58.trans (hm56.g (by decide))).trans (((Eq.refl (m0 1 1)).trans (hm0.g (by decide))).symm)
        refine g_if (fun w59 => ?_) (fun w59 => ?_)
        · refine g_C ?_
          have zb60 := hm56.f_1_2
          have q61 : m56 1 2 = v52 := (Eq.refl (m56 1 2)).trans ((congrFun (congrFun em56 _) _).trans ((up_ne (by omega)).trans ev52.symm))
          have zb62 := hm56.f_1_1
          have q63 : m56 1 1 = (m0 1 1) := (hm56.g (by decide)).trans (((Eq.refl (m0 1 1)).trans (hm0.g (by decide))).symm)
          exact hk (-1) m56 hm56 Fm56 (by omega) (by omega) (by first | omega | grind) (by first | omega | grind) (by first | omega | grind)
        · refine g_getr 0 2 rfl hS.k1 hm56.f_1_0 (by decide) ?_
          refine g_get 2 (0) (400) rfl hS.k1 hm56.f_1_2 (fun v64 ev64 bv64 cv64 => ?_)
          have qv64 : v64 = v52 := ev64.trans ((congrFun (congrFun em56 _) _).trans ((up_ne (by omega)).trans ev52.symm))
          refine g_ld (-128) (127) hS.k2 hS.l2 (by omega) (by omega) (hm56.a_2 (by omega) (by omega)) (fun v65 ev65 bv65 cv65 => ?_)
          refine g_C ?_
          refine g_iAndR (by omega) (by omega) (fun v66 dv66 bv66 cv66 => ?_)
          have zb67 := hm56.f_1_2
          have q68 : m56 1 2 = v52 := (Eq.refl (m56 1 2)).trans ((congrFun (congrFun em56 _) _).trans ((up_ne (by omega)).trans ev52.symm))
          have zb69 := hm56.f_1_1
          have q70 : m56 1 1 = (m0 1 1) := (hm56.g (by decide)).trans (((Eq.refl (m0 1 1)).trans (hm0.g (by decide))).symm)
          exact hk v66 m56 hm56 Fm56 (by omega) (by omega) (by first | omega | grind) (by first | omega | grind) (by first | omega | grind)
      · refine g_getr 0 2 rfl hS.k1 hm2.f_1_0 (by decide) ?_
        refine g_get 2 (0) (400) rfl hS.k1 hm2.f_1_2 (fun v71 ev71 bv71 cv71 => ?_)
        have qv71 : v71 = v52 := ev71.trans ev52.symm
        refine g_ld (-128) (127) hS.k2 hS.l2 (by omega) (by omega) (hm2.a_2 (by omega) (by omega)) (fun v72 ev72 bv72 cv72 => ?_)
        refine g_C ?_
        refine g_if (fun w73 => ?_) (fun w73 => ?_)
        · refine u_X7_look_38 ?_
          refine g_get 2 (0) (400) rfl hS.k1 hm2.f_1_2 (fun v74 ev74 bv74 cv74 => ?_)
          have qv74 : v74 = v52 := ev74.trans ev52.symm
          refine g_put 3 rfl hS.k1 (hm2.w_1_3 (by omega) (by omega)) (fun m75 em75 hm75 => ?_)
          have Fm75 : ∀ c p : Int, ¬ (c = 1 ∧ 2 ≤ p ∧ p ≤ 3) → m75 c p = m0 c p := fun c p h => (congrFun (congrFun em75 _) _).trans ((up_ne (by omega)).trans (Fm2 c p h))
          refine g_get 2 (0) (400) rfl hS.k1 hm75.f_1_2 (fun v76 ev76 bv76 cv76 => ?_)
          have qv76 : v76 = v52 := ev76.trans ((congrFun (congrFun em75 _) _).trans ((up_ne (by omega)).trans ev52.symm))
          refine g_get 1 (0) (400) rfl hS.k1 hm75.f_1_1 (fun v77 ev77 bv77 cv77 => ?_)
          have qv77 : v77 = (m0 1 1) := (ev77.trans (hm75.g (by decide))).trans (((Eq.refl (m0 1 1)).trans (hm0.g (by decide))).symm)
          refine g_if (fun w78 => ?_) (fun w78 => ?_)
          · refine g_C ?_
            have zb79 := hm75.f_1_2
            have q80 : m75 1 2 = v52 := (Eq.refl (m75 1 2)).trans ((congrFun (congrFun em75 _) _).trans ((up_ne (by omega)).trans ev52.symm))
            have zb81 := hm75.f_1_1
            have q82 : m75 1 1 = (m0 1 1) := (hm75.g (by decide)).trans (((Eq.refl (m0 1 1)).trans (hm0.g (by decide))).symm)
            exact hk (-1) m75 hm75 Fm75 (by omega) (by omega) (by first | omega | grind) (by first | omega | grind) (by first | omega | grind)
          · refine g_getr 0 2 rfl hS.k1 hm75.f_1_0 (by decide) ?_
            refine g_get 2 (0) (400) rfl hS.k1 hm75.f_1_2 (fun v83 ev83 bv83 cv83 => ?_)
            have qv83 : v83 = v52 := ev83.trans ((congrFun (congrFun em75 _) _).trans ((up_ne (by omega)).trans ev52.symm))
            refine g_ld (-128) (127) hS.k2 hS.l2 (by omega) (by omega) (hm75.a_2 (by omega) (by omega)) (fun v84 ev84 bv84 cv84 => ?_)
            have qv84 : v84 = v72 := ev84.trans ((congrFun (congrFun em75 _) _).trans ((up_ne (by omega)).trans ((congrArg (m2 2) (show v83 = v71 by omega)).trans ev72.symm)))
            refine g_C ?_
            refine g_iAndR (by omega) (by omega) (fun v85 dv85 bv85 cv85 => ?_)
            have zb86 := hm75.f_1_2
            have q87 : m75 1 2 = v52 := (Eq.refl (m75 1 2)).trans ((congrFun (congrFun em75 _) _).trans ((up_ne (by omega)).trans ev52.symm))
            have zb88 := hm75.f_1_1
            have q89 : m75 1 1 = (m0 1 1) := (hm75.g (by decide)).trans (((Eq.refl (m0 1 1)).trans (hm0.g (by decide))).symm)
            exact hk v85 m75 hm75 Fm75 (by omega) (by omega) (by first | omega | grind) (by first | omega | grind) (by first | omega | grind)
        · refine g_get 2 (0) (400) rfl hS.k1 hm2.f_1_2 (fun v90 ev90 bv90 cv90 => ?_)
          have qv90 : v90 = v52 := ev90.trans ev52.symm
          refine g_C ?_
          refine g_A (by omega) (by omega) ?_
          refine g_put 2 rfl hS.k1 (hm2.w_1_2 (by omega) (by omega)) (fun m91 em91 hm91 => ?_)
          have Fm91 : ∀ c p : Int, ¬ (c = 1 ∧ 2 ≤ p ∧ p ≤ 3) → m91 c p = m0 c p := fun c p h => (congrFun (congrFun em91 _) _).trans ((up_ne (by omega)).trans (Fm2 c p h))
          have zb92 := hm91.f_1_2
          have q93 : m91 1 2 = (v90 + 1) := (Eq.refl (m91 1 2)).trans ((congrFun (congrFun em91 _) _).trans (up_ate (by omega)))
          have zb94 := hm91.f_1_1
          have q95 : m91 1 1 = (m0 1 1) := (hm91.g (by decide)).trans (((Eq.refl (m0 1 1)).trans (hm0.g (by decide))).symm)
          exact ih_n_l51 m91 hm91 Fm91 (by first | omega | grind) (by omega)
  have zb96 := hm0.f_1_2
  have zb98 := hm0.f_1_1
  have q99 : m0 1 1 = (m0 1 1) := (hm0.g (by decide)).trans (((Eq.refl (m0 1 1)).trans (hm0.g (by decide))).symm)
  exact ⟨401, L_n_l51 401 m0 hm0 Fm0 (by first | omega | grind) (by omega)⟩
theorem z_X7_refuse {X : Mm} {S : Sh} {m0 : Mm} {K : Int → Mm → Prop} {u1 : Int} (hS : Shp S) (hm0 : Inv X S m0) (l_u1 : 0 ≤ u1) (h_u1 : u1 ≤ 4) (hk : ∀ (r : Int) (M1 : Mm), Inv X S M1 → (∀ c p : Int, ¬ (c = 1 ∧ 4 ≤ p ∧ p ≤ 4) → M1 c p = m0 c p) → 0 ≤ r → r ≤ 0 → K r M1) : wp_X7_refuse S m0 1 u1 K := by
  have Fm0 : ∀ c p : Int, ¬ (c = 1 ∧ 4 ≤ p ∧ p ≤ 4) → m0 c p = m0 c p := fun c p _ => rfl
  refine u_X7_refuse ?_
  refine g_get 4 (0) (4000) rfl hS.k1 hm0.f_1_4 (fun v1 ev1 bv1 cv1 => ?_)
  refine g_if (fun w2 => ?_) (fun w2 => ?_)
  · refine g_C ?_
    refine ⟨by omega, ?_⟩
    exact hk 0 m0 hm0 Fm0 (by omega) (by omega)
  · refine g_C ?_
    refine g_C ?_
    refine g_get 3 (0) (400) rfl hS.k1 hm0.f_1_3 (fun v3 ev3 bv3 cv3 => ?_)
    refine g_M (by omega) (by omega) ?_
    refine g_A (by omega) (by omega) ?_
    refine g_A (by omega) (by omega) ?_
    refine g_put 4 rfl hS.k1 (hm0.w_1_4 (by omega) (by omega)) (fun m4 em4 hm4 => ?_)
    have Fm4 : ∀ c p : Int, ¬ (c = 1 ∧ 4 ≤ p ∧ p ≤ 4) → m4 c p = m0 c p := fun c p h => (congrFun (congrFun em4 _) _).trans ((up_ne (by omega)).trans (Fm0 c p h))
    refine g_C ?_
    refine ⟨by omega, ?_⟩
    exact hk 0 m4 hm4 Fm4 (by omega) (by omega)
theorem z_X7_takeNumber {X : Mm} {S : Sh} {m0 : Mm} {K : Int → Mm → Prop} {u1 u2 : Int} (hS : Shp S) (hm0 : Inv X S m0) (l_u1 : 0 ≤ u1) (h_u1 : u1 ≤ 99) (l_u2 : (-1) ≤ u2) (h_u2 : u2 ≤ 99) (hk : ∀ (r : Int) (M1 : Mm), Inv X S M1 → (∀ c p : Int, ¬ (c = 1 ∧ 2 ≤ p ∧ p ≤ 4) → M1 c p = m0 c p) → (-1) ≤ r → r ≤ 99 → (m0 1 2 ≤ M1 1 2) → (r = -1 ∨ (u1 ≤ r ∧ r ≤ u2)) → (r = -1 ∨ m0 1 2 + 1 ≤ M1 1 2) → K r M1) : wp_X7_takeNumber S m0 1 u1 u2 K := by
  have Fm0 : ∀ c p : Int, ¬ (c = 1 ∧ 2 ≤ p ∧ p ≤ 4) → m0 c p = m0 c p := fun c p _ => rfl
  refine u_X7_takeNumber ?_
  refine ⟨hS.k1, ?_⟩
  refine z_X7_look hS hm0 (fun v1 m2 hm2 fm2 bv1 cv1 yv1_0 yv1_1 yv1_2 => ?_)
  have zb3 := hm2.f_1_2
  have zb4 := hm2.f_1_1
  have Fm2 : ∀ c p : Int, ¬ (c = 1 ∧ 2 ≤ p ∧ p ≤ 4) → m2 c p = m0 c p := fun c p h => (fm2 c p (by omega)).trans (Fm0 c p h)
  refine u_X7_isDigit ?_
  refine g_C ?_
  refine g_if (fun w5 => ?_) (fun w5 => ?_)
  · refine g_C ?_
    refine ⟨by omega, ?_⟩
    refine g_ifF (by omega) ?_
    refine g_C ?_
    refine ⟨hS.k1, ?_⟩
    refine z_X7_refuse hS hm2 (by omega) (by omega) (fun v6 m7 hm7 fm7 bv6 cv6 => ?_)
    have zb8 := hm7.f_1_2
    have zb9 := hm7.f_1_1
    have Fm7 : ∀ c p : Int, ¬ (c = 1 ∧ 2 ≤ p ∧ p ≤ 4) → m7 c p = m0 c p := fun c p h => (fm7 c p (by omega)).trans (Fm2 c p h)
    refine g_C ?_
    have zb10 := hm7.f_1_2
    have q11 : m7 1 2 = (m2 1 2) := (Eq.refl (m7 1 2)).trans ((fm7 _ _ (by omega)).trans (Eq.refl (m2 1 2)).symm)
    have zb12 := hm7.f_1_1
    have q13 : m7 1 1 = (m0 1 1) := (hm7.g (by decide)).trans (((Eq.refl (m0 1 1)).trans (hm0.g (by decide))).symm)
    exact hk (-1) m7 hm7 Fm7 (by omega) (by omega) (by first | omega | grind) (by first | omega | grind) (by first | omega | grind)
  · refine g_C ?_
    refine g_if (fun w14 => ?_) (fun w14 => ?_)
    · refine g_C ?_
      refine ⟨by omega, ?_⟩
      refine g_ifF (by omega) ?_
      refine g_C ?_
      refine ⟨hS.k1, ?_⟩
      refine z_X7_refuse hS hm2 (by omega) (by omega) (fun v15 m16 hm16 fm16 bv15 cv15 => ?_)
      have zb17 := hm16.f_1_2
      have zb18 := hm16.f_1_1
      have Fm16 : ∀ c p : Int, ¬ (c = 1 ∧ 2 ≤ p ∧ p ≤ 4) → m16 c p = m0 c p := fun c p h => (fm16 c p (by omega)).trans (Fm2 c p h)
      refine g_C ?_
      have zb19 := hm16.f_1_2
      have q20 : m16 1 2 = (m2 1 2) := (Eq.refl (m16 1 2)).trans ((fm16 _ _ (by omega)).trans (Eq.refl (m2 1 2)).symm)
      have zb21 := hm16.f_1_1
      have q22 : m16 1 1 = (m0 1 1) := (hm16.g (by decide)).trans (((Eq.refl (m0 1 1)).trans (hm0.g (by decide))).symm)
      exact hk (-1) m16 hm16 Fm16 (by omega) (by omega) (by first | omega | grind) (by first | omega | grind) (by first | omega | grind)
    · refine g_C ?_
      refine ⟨by omega, ?_⟩
      refine g_ifT (by omega) ?_
      refine g_C ?_
      have L_n_l441 : ∀ (n_l441 : Nat) (u26 : Int) (m27 : Mm), Inv X S m27 → (∀ c p : Int, ¬ (c = 1 ∧ 2 ≤ p ∧ p ≤ 4) → m27 c p = m0 c p) → (-2147483648) ≤ u26 → u26 ≤ 2147483647 → (m0 1 2 ≤ m27 1 2) → (m0 1 2 + 1 ≤ m27 1 2 ∨ (m27 1 2 < m27 1 1 ∧ 48 ≤ iAnd (m27 2 (m27 1 2)) 255 ∧ iAnd (m27 2 (m27 1 2)) 255 ≤ 57)) → 401 - m27 1 2 ≤ (n_l441 : Int) → wp_X7_takeNumber_20 S K n_l441 1 u1 u2 u26 m27 := by
        intro n_l441
        induction n_l441 with
        | zero => intro u26 m27 hm27 Fm27 bu26 cu26 xn_l441_0 xn_l441_1 zn_l441; exfalso; have zz1_2 := hm27.f_1_2; have zz1_1 := hm27.f_1_1; omega
        | succ n_l441 ih_n_l441 =>
          intro u26 m27 hm27 Fm27 bu26 cu26 xn_l441_0 xn_l441_1 zn_l441
          refine u_X7_takeNumber_20 ?_
          refine g_get 2 (0) (400) rfl hS.k1 hm27.f_1_2 (fun v442 ev442 bv442 cv442 => ?_)
          refine g_get 1 (0) (400) rfl hS.k1 hm27.f_1_1 (fun v443 ev443 bv443 cv443 => ?_)
          have qv443 : v443 = (m0 1 1) := (ev443.trans (hm27.g (by decide))).trans (((Eq.refl (m0 1 1)).trans (hm0.g (by decide))).symm)
          refine g_if (fun w444 => ?_) (fun w444 => ?_)
          · refine u_X7_takeNumber_92 ?_
            refine g_get 2 (0) (400) rfl hS.k1 hm27.f_1_2 (fun v445 ev445 bv445 cv445 => ?_)
            have qv445 : v445 = v442 := ev445.trans ev442.symm
            refine g_get 3 (0) (400) rfl hS.k1 hm27.f_1_3 (fun v446 ev446 bv446 cv446 => ?_)
            refine g_S (by omega) (by omega) ?_
            refine g_C ?_
            refine g_if (fun w447 => ?_) (fun w447 => ?_)
            · refine u_X7_takeNumber_115 ?_
              refine g_C ?_
              refine ⟨hS.k1, ?_⟩
              refine z_X7_refuse hS hm27 (by omega) (by omega) (fun v448 m449 hm449 fm449 bv448 cv448 => ?_)
              have zb450 := hm449.f_1_2
              have zb451 := hm449.f_1_1
              have Fm449 : ∀ c p : Int, ¬ (c = 1 ∧ 2 ≤ p ∧ p ≤ 4) → m449 c p = m0 c p := fun c p h => (fm449 c p (by omega)).trans (Fm27 c p h)
              refine g_C ?_
              have zb452 := hm449.f_1_2
              have q453 : m449 1 2 = v442 := (Eq.refl (m449 1 2)).trans ((fm449 _ _ (by omega)).trans ev442.symm)
              have zb454 := hm449.f_1_1
              have q455 : m449 1 1 = (m0 1 1) := (hm449.g (by decide)).trans (((Eq.refl (m0 1 1)).trans (hm0.g (by decide))).symm)
              exact hk (-1) m449 hm449 Fm449 (by omega) (by omega) (by first | omega | grind) (by first | omega | grind) (by first | omega | grind)
            · refine g_if (fun w456 => ?_) (fun w456 => ?_)
              · refine u_X7_takeNumber_115 ?_
                refine g_C ?_
                refine ⟨hS.k1, ?_⟩
                refine z_X7_refuse hS hm27 (by omega) (by omega) (fun v457 m458 hm458 fm458 bv457 cv457 => ?_)
                have zb459 := hm458.f_1_2
                have zb460 := hm458.f_1_1
                have Fm458 : ∀ c p : Int, ¬ (c = 1 ∧ 2 ≤ p ∧ p ≤ 4) → m458 c p = m0 c p := fun c p h => (fm458 c p (by omega)).trans (Fm27 c p h)
                refine g_C ?_
                have zb461 := hm458.f_1_2
                have q462 : m458 1 2 = v442 := (Eq.refl (m458 1 2)).trans ((fm458 _ _ (by omega)).trans ev442.symm)
                have zb463 := hm458.f_1_1
                have q464 : m458 1 1 = (m0 1 1) := (hm458.g (by decide)).trans (((Eq.refl (m0 1 1)).trans (hm0.g (by decide))).symm)
                exact hk (-1) m458 hm458 Fm458 (by omega) (by omega) (by first | omega | grind) (by first | omega | grind) (by first | omega | grind)
              · refine g_if (fun w465 => ?_) (fun w465 => ?_)
                · have zb466 := hm27.f_1_2
                  have zb468 := hm27.f_1_1
                  have q469 : m27 1 1 = (m0 1 1) := (hm27.g (by decide)).trans (((Eq.refl (m0 1 1)).trans (hm0.g (by decide))).symm)
                  exact hk u26 m27 hm27 Fm27 (by omega) (by omega) (by first | omega | grind) (by first | omega | grind) (by first | omega | grind)
                · refine u_X7_takeNumber_115 ?_
                  refine g_C ?_
                  refine ⟨hS.k1, ?_⟩
                  refine z_X7_refuse hS hm27 (by omega) (by omega) (fun v470 m471 hm471 fm471 bv470 cv470 => ?_)
                  have zb472 := hm471.f_1_2
                  have zb473 := hm471.f_1_1
                  have Fm471 : ∀ c p : Int, ¬ (c = 1 ∧ 2 ≤ p ∧ p ≤ 4) → m471 c p = m0 c p := fun c p h => (fm471 c p (by omega)).trans (Fm27 c p h)
                  refine g_C ?_
                  have zb474 := hm471.f_1_2
                  have q475 : m471 1 2 = v442 := (Eq.refl (m471 1 2)).trans ((fm471 _ _ (by omega)).trans ev442.symm)
                  have zb476 := hm471.f_1_1
                  have q477 : m471 1 1 = (m0 1 1) := (hm471.g (by decide)).trans (((Eq.refl (m0 1 1)).trans (hm0.g (by decide))).symm)
                  exact hk (-1) m471 hm471 Fm471 (by omega) (by omega) (by first | omega | grind) (by first | omega | grind) (by first | omega | grind)
          · refine g_get 2 (0) (400) rfl hS.k1 hm27.f_1_2 (fun v478 ev478 bv478 cv478 => ?_)
            have qv478 : v478 = v442 := ev478.trans ev442.symm
            refine ⟨hS.k1, ?_⟩
            refine u_X7_byteAt ?_
            refine g_ifF (by omega) ?_
            refine g_get 1 (0) (400) rfl hS.k1 hm27.f_1_1 (fun v479 ev479 bv479 cv479 => ?_)
            have qv479 : v479 = (m0 1 1) := (ev479.trans (hm27.g (by decide))).trans (((Eq.refl (m0 1 1)).trans (hm0.g (by decide))).symm)
            refine g_if (fun w480 => ?_) (fun w480 => ?_)
            · refine g_C ?_
              refine u_X7_isDigit ?_
              refine g_C ?_
              refine g_ifT (by omega) ?_
              refine g_C ?_
              refine ⟨by omega, ?_⟩
              refine g_ifT (by omega) ?_
              refine u_X7_takeNumber_92 ?_
              refine g_get 2 (0) (400) rfl hS.k1 hm27.f_1_2 (fun v481 ev481 bv481 cv481 => ?_)
              have qv481 : v481 = v442 := ev481.trans ev442.symm
              refine g_get 3 (0) (400) rfl hS.k1 hm27.f_1_3 (fun v482 ev482 bv482 cv482 => ?_)
              refine g_S (by omega) (by omega) ?_
              refine g_C ?_
              refine g_if (fun w483 => ?_) (fun w483 => ?_)
              · refine u_X7_takeNumber_115 ?_
                refine g_C ?_
                refine ⟨hS.k1, ?_⟩
                refine z_X7_refuse hS hm27 (by omega) (by omega) (fun v484 m485 hm485 fm485 bv484 cv484 => ?_)
                have zb486 := hm485.f_1_2
                have zb487 := hm485.f_1_1
                have Fm485 : ∀ c p : Int, ¬ (c = 1 ∧ 2 ≤ p ∧ p ≤ 4) → m485 c p = m0 c p := fun c p h => (fm485 c p (by omega)).trans (Fm27 c p h)
                refine g_C ?_
                have zb488 := hm485.f_1_2
                have q489 : m485 1 2 = v442 := (Eq.refl (m485 1 2)).trans ((fm485 _ _ (by omega)).trans ev442.symm)
                have zb490 := hm485.f_1_1
                have q491 : m485 1 1 = (m0 1 1) := (hm485.g (by decide)).trans (((Eq.refl (m0 1 1)).trans (hm0.g (by decide))).symm)
                exact hk (-1) m485 hm485 Fm485 (by omega) (by omega) (by first | omega | grind) (by first | omega | grind) (by first | omega | grind)
              · refine g_if (fun w492 => ?_) (fun w492 => ?_)
                · refine u_X7_takeNumber_115 ?_
                  refine g_C ?_
                  refine ⟨hS.k1, ?_⟩
                  refine z_X7_refuse hS hm27 (by omega) (by omega) (fun v493 m494 hm494 fm494 bv493 cv493 => ?_)
                  have zb495 := hm494.f_1_2
                  have zb496 := hm494.f_1_1
                  have Fm494 : ∀ c p : Int, ¬ (c = 1 ∧ 2 ≤ p ∧ p ≤ 4) → m494 c p = m0 c p := fun c p h => (fm494 c p (by omega)).trans (Fm27 c p h)
                  refine g_C ?_
                  have zb497 := hm494.f_1_2
                  have q498 : m494 1 2 = v442 := (Eq.refl (m494 1 2)).trans ((fm494 _ _ (by omega)).trans ev442.symm)
                  have zb499 := hm494.f_1_1
                  have q500 : m494 1 1 = (m0 1 1) := (hm494.g (by decide)).trans (((Eq.refl (m0 1 1)).trans (hm0.g (by decide))).symm)
                  exact hk (-1) m494 hm494 Fm494 (by omega) (by omega) (by first | omega | grind) (by first | omega | grind) (by first | omega | grind)
                · refine g_if (fun w501 => ?_) (fun w501 => ?_)
                  · have zb502 := hm27.f_1_2
                    have zb504 := hm27.f_1_1
                    have q505 : m27 1 1 = (m0 1 1) := (hm27.g (by decide)).trans (((Eq.refl (m0 1 1)).trans (hm0.g (by decide))).symm)
                    exact hk u26 m27 hm27 Fm27 (by omega) (by omega) (by first | omega | grind) (by first | omega | grind) (by first | omega | grind)
                  · refine u_X7_takeNumber_115 ?_
                    refine g_C ?_
                    refine ⟨hS.k1, ?_⟩
                    refine z_X7_refuse hS hm27 (by omega) (by omega) (fun v506 m507 hm507 fm507 bv506 cv506 => ?_)
                    have zb508 := hm507.f_1_2
                    have zb509 := hm507.f_1_1
                    have Fm507 : ∀ c p : Int, ¬ (c = 1 ∧ 2 ≤ p ∧ p ≤ 4) → m507 c p = m0 c p := fun c p h => (fm507 c p (by omega)).trans (Fm27 c p h)
                    refine g_C ?_
                    have zb510 := hm507.f_1_2
                    have q511 : m507 1 2 = v442 := (Eq.refl (m507 1 2)).trans ((fm507 _ _ (by omega)).trans ev442.symm)
                    have zb512 := hm507.f_1_1
                    have q513 : m507 1 1 = (m0 1 1) := (hm507.g (by decide)).trans (((Eq.refl (m0 1 1)).trans (hm0.g (by decide))).symm)
                    exact hk (-1) m507 hm507 Fm507 (by omega) (by omega) (by first | omega | grind) (by first | omega | grind) (by first | omega | grind)
            · refine g_C ?_
              refine g_ifF (by omega) ?_
              refine g_getr 0 2 rfl hS.k1 hm27.f_1_0 (by decide) ?_
              refine g_ld (-128) (127) hS.k2 hS.l2 (by omega) (by omega) (hm27.a_2 (by omega) (by omega)) (fun v514 ev514 bv514 cv514 => ?_)
              refine g_C ?_
              refine g_iAndR (by omega) (by omega) (fun v515 dv515 bv515 cv515 => ?_)
              refine u_X7_isDigit ?_
              refine g_C ?_
              refine g_if (fun w516 => ?_) (fun w516 => ?_)
              · refine g_C ?_
                refine ⟨by omega, ?_⟩
                refine g_ifT (by omega) ?_
                refine u_X7_takeNumber_92 ?_
                refine g_get 2 (0) (400) rfl hS.k1 hm27.f_1_2 (fun v517 ev517 bv517 cv517 => ?_)
                have qv517 : v517 = v442 := ev517.trans ev442.symm
                refine g_get 3 (0) (400) rfl hS.k1 hm27.f_1_3 (fun v518 ev518 bv518 cv518 => ?_)
                refine g_S (by omega) (by omega) ?_
                refine g_C ?_
                refine g_if (fun w519 => ?_) (fun w519 => ?_)
                · refine u_X7_takeNumber_115 ?_
                  refine g_C ?_
                  refine ⟨hS.k1, ?_⟩
                  refine z_X7_refuse hS hm27 (by omega) (by omega) (fun v520 m521 hm521 fm521 bv520 cv520 => ?_)
                  have zb522 := hm521.f_1_2
                  have zb523 := hm521.f_1_1
                  have Fm521 : ∀ c p : Int, ¬ (c = 1 ∧ 2 ≤ p ∧ p ≤ 4) → m521 c p = m0 c p := fun c p h => (fm521 c p (by omega)).trans (Fm27 c p h)
                  refine g_C ?_
                  have zb524 := hm521.f_1_2
                  have q525 : m521 1 2 = v442 := (Eq.refl (m521 1 2)).trans ((fm521 _ _ (by omega)).trans ev442.symm)
                  have zb526 := hm521.f_1_1
                  have q527 : m521 1 1 = (m0 1 1) := (hm521.g (by decide)).trans (((Eq.refl (m0 1 1)).trans (hm0.g (by decide))).symm)
                  exact hk (-1) m521 hm521 Fm521 (by omega) (by omega) (by first | omega | grind) (by first | omega | grind) (by first | omega | grind)
                · refine g_if (fun w528 => ?_) (fun w528 => ?_)
                  · refine u_X7_takeNumber_115 ?_
                    refine g_C ?_
                    refine ⟨hS.k1, ?_⟩
                    refine z_X7_refuse hS hm27 (by omega) (by omega) (fun v529 m530 hm530 fm530 bv529 cv529 => ?_)
                    have zb531 := hm530.f_1_2
                    have zb532 := hm530.f_1_1
                    have Fm530 : ∀ c p : Int, ¬ (c = 1 ∧ 2 ≤ p ∧ p ≤ 4) → m530 c p = m0 c p := fun c p h => (fm530 c p (by omega)).trans (Fm27 c p h)
                    refine g_C ?_
                    have zb533 := hm530.f_1_2
                    have q534 : m530 1 2 = v442 := (Eq.refl (m530 1 2)).trans ((fm530 _ _ (by omega)).trans ev442.symm)
                    have zb535 := hm530.f_1_1
                    have q536 : m530 1 1 = (m0 1 1) := (hm530.g (by decide)).trans (((Eq.refl (m0 1 1)).trans (hm0.g (by decide))).symm)
                    exact hk (-1) m530 hm530 Fm530 (by omega) (by omega) (by first | omega | grind) (by first | omega | grind) (by first | omega | grind)
                  · refine g_if (fun w537 => ?_) (fun w537 => ?_)
                    · have zb538 := hm27.f_1_2
                      have zb540 := hm27.f_1_1
                      have q541 : m27 1 1 = (m0 1 1) := (hm27.g (by decide)).trans (((Eq.refl (m0 1 1)).trans (hm0.g (by decide))).symm)
                      exact hk u26 m27 hm27 Fm27 (by omega) (by omega) (by first | omega | grind) (by first | omega | grind) (by first | omega | grind)
                    · refine u_X7_takeNumber_115 ?_
                      refine g_C ?_
                      refine ⟨hS.k1, ?_⟩
                      refine z_X7_refuse hS hm27 (by omega) (by omega) (fun v542 m543 hm543 fm543 bv542 cv542 => ?_)
                      have zb544 := hm543.f_1_2
                      have zb545 := hm543.f_1_1
                      have Fm543 : ∀ c p : Int, ¬ (c = 1 ∧ 2 ≤ p ∧ p ≤ 4) → m543 c p = m0 c p := fun c p h => (fm543 c p (by omega)).trans (Fm27 c p h)
                      refine g_C ?_
                      have zb546 := hm543.f_1_2
                      have q547 : m543 1 2 = v442 := (Eq.refl (m543 1 2)).trans ((fm543 _ _ (by omega)).trans ev442.symm)
                      have zb548 := hm543.f_1_1
                      have q549 : m543 1 1 = (m0 1 1) := (hm543.g (by decide)).trans (((Eq.refl (m0 1 1)).trans (hm0.g (by decide))).symm)
                      exact hk (-1) m543 hm543 Fm543 (by omega) (by omega) (by first | omega | grind) (by first | omega | grind) (by first | omega | grind)
              · refine g_C ?_
                refine g_if (fun w550 => ?_) (fun w550 => ?_)
                · refine g_C ?_
                  refine ⟨by omega, ?_⟩
                  refine g_ifT (by omega) ?_
                  refine u_X7_takeNumber_92 ?_
                  refine g_get 2 (0) (400) rfl hS.k1 hm27.f_1_2 (fun v551 ev551 bv551 cv551 => ?_)
                  have qv551 : v551 = v442 := ev551.trans ev442.symm
                  refine g_get 3 (0) (400) rfl hS.k1 hm27.f_1_3 (fun v552 ev552 bv552 cv552 => ?_)
                  refine g_S (by omega) (by omega) ?_
                  refine g_C ?_
                  refine g_if (fun w553 => ?_) (fun w553 => ?_)
                  · refine u_X7_takeNumber_115 ?_
                    refine g_C ?_
                    refine ⟨hS.k1, ?_⟩
                    refine z_X7_refuse hS hm27 (by omega) (by omega) (fun v554 m555 hm555 fm555 bv554 cv554 => ?_)
                    have zb556 := hm555.f_1_2
                    have zb557 := hm555.f_1_1
                    have Fm555 : ∀ c p : Int, ¬ (c = 1 ∧ 2 ≤ p ∧ p ≤ 4) → m555 c p = m0 c p := fun c p h => (fm555 c p (by omega)).trans (Fm27 c p h)
                    refine g_C ?_
                    have zb558 := hm555.f_1_2
                    have q559 : m555 1 2 = v442 := (Eq.refl (m555 1 2)).trans ((fm555 _ _ (by omega)).trans ev442.symm)
                    have zb560 := hm555.f_1_1
                    have q561 : m555 1 1 = (m0 1 1) := (hm555.g (by decide)).trans (((Eq.refl (m0 1 1)).trans (hm0.g (by decide))).symm)
                    exact hk (-1) m555 hm555 Fm555 (by omega) (by omega) (by first | omega | grind) (by first | omega | grind) (by first | omega | grind)
                  · refine g_if (fun w562 => ?_) (fun w562 => ?_)
                    · refine u_X7_takeNumber_115 ?_
                      refine g_C ?_
                      refine ⟨hS.k1, ?_⟩
                      refine z_X7_refuse hS hm27 (by omega) (by omega) (fun v563 m564 hm564 fm564 bv563 cv563 => ?_)
                      have zb565 := hm564.f_1_2
                      have zb566 := hm564.f_1_1
                      have Fm564 : ∀ c p : Int, ¬ (c = 1 ∧ 2 ≤ p ∧ p ≤ 4) → m564 c p = m0 c p := fun c p h => (fm564 c p (by omega)).trans (Fm27 c p h)
                      refine g_C ?_
                      have zb567 := hm564.f_1_2
                      have q568 : m564 1 2 = v442 := (Eq.refl (m564 1 2)).trans ((fm564 _ _ (by omega)).trans ev442.symm)
                      have zb569 := hm564.f_1_1
                      have q570 : m564 1 1 = (m0 1 1) := (hm564.g (by decide)).trans (((Eq.refl (m0 1 1)).trans (hm0.g (by decide))).symm)
                      exact hk (-1) m564 hm564 Fm564 (by omega) (by omega) (by first | omega | grind) (by first | omega | grind) (by first | omega | grind)
                    · refine g_if (fun w571 => ?_) (fun w571 => ?_)
                      · have zb572 := hm27.f_1_2
                        have zb574 := hm27.f_1_1
                        have q575 : m27 1 1 = (m0 1 1) := (hm27.g (by decide)).trans (((Eq.refl (m0 1 1)).trans (hm0.g (by decide))).symm)
                        exact hk u26 m27 hm27 Fm27 (by omega) (by omega) (by first | omega | grind) (by first | omega | grind) (by first | omega | grind)
                      · refine u_X7_takeNumber_115 ?_
                        refine g_C ?_
                        refine ⟨hS.k1, ?_⟩
                        refine z_X7_refuse hS hm27 (by omega) (by omega) (fun v576 m577 hm577 fm577 bv576 cv576 => ?_)
                        have zb578 := hm577.f_1_2
                        have zb579 := hm577.f_1_1
                        have Fm577 : ∀ c p : Int, ¬ (c = 1 ∧ 2 ≤ p ∧ p ≤ 4) → m577 c p = m0 c p := fun c p h => (fm577 c p (by omega)).trans (Fm27 c p h)
                        refine g_C ?_
                        have zb580 := hm577.f_1_2
                        have q581 : m577 1 2 = v442 := (Eq.refl (m577 1 2)).trans ((fm577 _ _ (by omega)).trans ev442.symm)
                        have zb582 := hm577.f_1_1
                        have q583 : m577 1 1 = (m0 1 1) := (hm577.g (by decide)).trans (((Eq.refl (m0 1 1)).trans (hm0.g (by decide))).symm)
                        exact hk (-1) m577 hm577 Fm577 (by omega) (by omega) (by first | omega | grind) (by first | omega | grind) (by first | omega | grind)
                · refine g_C ?_
                  refine ⟨by omega, ?_⟩
                  refine g_ifF (by omega) ?_
                  refine g_get 2 (0) (400) rfl hS.k1 hm27.f_1_2 (fun v584 ev584 bv584 cv584 => ?_)
                  have qv584 : v584 = v442 := ev584.trans ev442.symm
                  refine g_get 3 (0) (400) rfl hS.k1 hm27.f_1_3 (fun v585 ev585 bv585 cv585 => ?_)
                  refine g_S (by omega) (by omega) ?_
                  refine g_C ?_
                  refine g_if (fun w586 => ?_) (fun w586 => ?_)
                  · refine u_X7_takeNumber_78 ?_
                    refine g_get 2 (0) (400) rfl hS.k1 hm27.f_1_2 (fun v587 ev587 bv587 cv587 => ?_)
                    have qv587 : v587 = v442 := ev587.trans ev442.symm
                    refine g_C ?_
                    refine g_A (by omega) (by omega) ?_
                    refine g_put 2 rfl hS.k1 (hm27.w_1_2 (by omega) (by omega)) (fun m588 em588 hm588 => ?_)
                    have Fm588 : ∀ c p : Int, ¬ (c = 1 ∧ 2 ≤ p ∧ p ≤ 4) → m588 c p = m0 c p := fun c p h => (congrFun (congrFun em588 _) _).trans ((up_ne (by omega)).trans (Fm27 c p h))
                    have zb589 := hm588.f_1_2
                    have q590 : m588 1 2 = (v587 + 1) := (Eq.refl (m588 1 2)).trans ((congrFun (congrFun em588 _) _).trans (up_ate (by omega)))
                    have zb591 := hm588.f_1_1
                    have q592 : m588 1 1 = (m0 1 1) := (hm588.g (by decide)).trans (((Eq.refl (m0 1 1)).trans (hm0.g (by decide))).symm)
                    exact ih_n_l441 u26 m588 hm588 Fm588 (by omega) (by omega) (by first | omega | grind) (by first | omega | grind) (by omega)
                  · refine g_C ?_
                    refine g_Mw (fun v593 bv593 cv593 => ?_)
                    refine g_get 2 (0) (400) rfl hS.k1 hm27.f_1_2 (fun v594 ev594 bv594 cv594 => ?_)
                    have qv594 : v594 = v442 := ev594.trans ev442.symm
                    refine ⟨hS.k1, ?_⟩
                    refine u_X7_byteAt ?_
                    refine g_ifF (by omega) ?_
                    refine g_get 1 (0) (400) rfl hS.k1 hm27.f_1_1 (fun v595 ev595 bv595 cv595 => ?_)
                    have qv595 : v595 = (m0 1 1) := (ev595.trans (hm27.g (by decide))).trans (((Eq.refl (m0 1 1)).trans (hm0.g (by decide))).symm)
                    refine g_if (fun w596 => ?_) (fun w596 => ?_)
                    · refine g_C ?_
                      refine g_Aw (fun v597 bv597 cv597 => ?_)
                      refine g_C ?_
                      refine g_Sw (fun v598 bv598 cv598 => ?_)
                      refine u_X7_takeNumber_78 ?_
                      refine g_get 2 (0) (400) rfl hS.k1 hm27.f_1_2 (fun v599 ev599 bv599 cv599 => ?_)
                      have qv599 : v599 = v442 := ev599.trans ev442.symm
                      refine g_C ?_
                      refine g_A (by omega) (by omega) ?_
                      refine g_put 2 rfl hS.k1 (hm27.w_1_2 (by omega) (by omega)) (fun m600 em600 hm600 => ?_)
                      have Fm600 : ∀ c p : Int, ¬ (c = 1 ∧ 2 ≤ p ∧ p ≤ 4) → m600 c p = m0 c p := fun c p h => (congrFun (congrFun em600 _) _).trans ((up_ne (by omega)).trans (Fm27 c p h))
                      have zb601 := hm600.f_1_2
                      have q602 : m600 1 2 = (v599 + 1) := (Eq.refl (m600 1 2)).trans ((congrFun (congrFun em600 _) _).trans (up_ate (by omega)))
                      have zb603 := hm600.f_1_1
                      have q604 : m600 1 1 = (m0 1 1) := (hm600.g (by decide)).trans (((Eq.refl (m0 1 1)).trans (hm0.g (by decide))).symm)
                      exact ih_n_l441 v598 m600 hm600 Fm600 (by omega) (by omega) (by first | omega | grind) (by first | omega | grind) (by omega)
                    · refine g_C ?_
                      refine g_ifF (by omega) ?_
                      refine g_getr 0 2 rfl hS.k1 hm27.f_1_0 (by decide) ?_
                      refine g_ld (-128) (127) hS.k2 hS.l2 (by omega) (by omega) (hm27.a_2 (by omega) (by omega)) (fun v605 ev605 bv605 cv605 => ?_)
                      have qv605 : v605 = v514 := ev605.trans ((congrArg (m27 2) (show v594 = v478 by omega)).trans ev514.symm)
                      refine g_C ?_
                      refine g_iAndR (by omega) (by omega) (fun v606 dv606 bv606 cv606 => ?_)
                      refine g_Aw (fun v607 bv607 cv607 => ?_)
                      refine g_C ?_
                      refine g_Sw (fun v608 bv608 cv608 => ?_)
                      refine u_X7_takeNumber_78 ?_
                      refine g_get 2 (0) (400) rfl hS.k1 hm27.f_1_2 (fun v609 ev609 bv609 cv609 => ?_)
                      have qv609 : v609 = v442 := ev609.trans ev442.symm
                      refine g_C ?_
                      refine g_A (by omega) (by omega) ?_
                      refine g_put 2 rfl hS.k1 (hm27.w_1_2 (by omega) (by omega)) (fun m610 em610 hm610 => ?_)
                      have Fm610 : ∀ c p : Int, ¬ (c = 1 ∧ 2 ≤ p ∧ p ≤ 4) → m610 c p = m0 c p := fun c p h => (congrFun (congrFun em610 _) _).trans ((up_ne (by omega)).trans (Fm27 c p h))
                      have zb611 := hm610.f_1_2
                      have q612 : m610 1 2 = (v609 + 1) := (Eq.refl (m610 1 2)).trans ((congrFun (congrFun em610 _) _).trans (up_ate (by omega)))
                      have zb613 := hm610.f_1_1
                      have q614 : m610 1 1 = (m0 1 1) := (hm610.g (by decide)).trans (((Eq.refl (m0 1 1)).trans (hm0.g (by decide))).symm)
                      exact ih_n_l441 v608 m610 hm610 Fm610 (by omega) (by omega) (by first | omega | grind) (by first | omega | grind) (by omega)
      have zb615 := hm2.f_1_2
      have zb617 := hm2.f_1_1
      have q618 : m2 1 1 = (m0 1 1) := (hm2.g (by decide)).trans (((Eq.refl (m0 1 1)).trans (hm0.g (by decide))).symm)
      exact ⟨401, L_n_l441 401 0 m2 hm2 Fm2 (by omega) (by omega) (by first | omega | grind) (by first | omega | grind) (by omega)⟩
theorem z_X0_readDairy {X : Mm} {S : Sh} {m0 : Mm} {K : Int → Mm → Prop} (hS : Shp S) (hm0 : Inv X S m0)  (hk : ∀ (r : Int) (M1 : Mm), Inv X S M1 → 0 ≤ r → r ≤ 1 → K r M1) : wp_X0_readDairy S m0 31 K := by
  refine u_X0_readDairy ?_
  refine g_getr 0 1 rfl hS.k31 hm0.f_31_0 (by decide) ?_
  refine g_C ?_
  refine g_C ?_
  refine ⟨hS.k1, ?_⟩
  refine z_X7_takeNumber hS hm0 (by omega) (by omega) (by omega) (by omega) (fun v1 m2 hm2 fm2 bv1 cv1 yv1_0 yv1_1 yv1_2 => ?_)
  refine g_C ?_
  refine g_if (fun w3 => ?_) (fun w3 => ?_)
  · refine g_getr 0 1 rfl hS.k31 hm2.f_31_0 (by decide) ?_
    refine g_C ?_
    refine g_C ?_
    refine ⟨hS.k1, ?_⟩
    refine z_X7_takeNumber hS hm2 (by omega) (by omega) (by omega) (by omega) (fun v4 m5 hm5 fm5 bv4 cv4 yv4_0 yv4_1 yv4_2 => ?_)
    refine u_X0_readDairy_30 ?_
    refine g_C ?_
    refine g_if (fun w6 => ?_) (fun w6 => ?_)
    · refine g_getr 0 1 rfl hS.k31 hm5.f_31_0 (by decide) ?_
      refine g_C ?_
      refine g_C ?_
      refine ⟨hS.k1, ?_⟩
      refine z_X7_takeNumber hS hm5 (by omega) (by omega) (by omega) (by omega) (fun v7 m8 hm8 fm8 bv7 cv7 yv7_0 yv7_1 yv7_2 => ?_)
      refine u_X0_readDairy_51 ?_
      refine g_C ?_
      refine g_if (fun w9 => ?_) (fun w9 => ?_)
      · refine g_getr 1 32 rfl hS.k31 hm8.f_31_1 (by decide) ?_
        refine g_put 0 rfl hS.k32 (hm8.w_32_0 (by omega) (by omega)) (fun m10 em10 hm10 => ?_)
        refine g_getr 1 32 rfl hS.k31 hm10.f_31_1 (by decide) ?_
        refine g_put 1 rfl hS.k32 (hm10.w_32_1 (by omega) (by omega)) (fun m11 em11 hm11 => ?_)
        refine g_getr 1 32 rfl hS.k31 hm11.f_31_1 (by decide) ?_
        refine g_put 2 rfl hS.k32 (hm11.w_32_2 (by omega) (by omega)) (fun m12 em12 hm12 => ?_)
        refine g_C ?_
        refine ⟨by omega, ?_⟩
        exact hk 1 m12 hm12 (by omega) (by omega)
      · refine g_C ?_
        refine ⟨by omega, ?_⟩
        exact hk 0 m8 hm8 (by omega) (by omega)
    · refine g_C ?_
      refine u_X0_readDairy_51 ?_
      refine g_C ?_
      refine g_ifF (by omega) ?_
      refine g_C ?_
      refine ⟨by omega, ?_⟩
      exact hk 0 m5 hm5 (by omega) (by omega)
  · refine g_C ?_
    refine u_X0_readDairy_30 ?_
    refine g_C ?_
    refine g_ifF (by omega) ?_
    refine g_C ?_
    refine u_X0_readDairy_51 ?_
    refine g_C ?_
    refine g_ifF (by omega) ?_
    refine g_C ?_
    refine ⟨by omega, ?_⟩
    exact hk 0 m2 hm2 (by omega) (by omega)
theorem z_X0_takePlace {X : Mm} {S : Sh} {m0 : Mm} {K : Int → Mm → Prop} (hS : Shp S) (hm0 : Inv X S m0)  (hk : ∀ (r : Int) (M1 : Mm), Inv X S M1 → (∀ c p : Int, ¬ (c = 1 ∧ 2 ≤ p ∧ p ≤ 4) → M1 c p = m0 c p) → (-1) ≤ r → r ≤ 5 → (r = -1 ∨ (0 ≤ r ∧ r < m0 32 0)) → K r M1) : wp_X0_takePlace S m0 31 K := by
  have Fm0 : ∀ c p : Int, ¬ (c = 1 ∧ 2 ≤ p ∧ p ≤ 4) → m0 c p = m0 c p := fun c p _ => rfl
  refine u_X0_takePlace ?_
  refine g_getr 0 1 rfl hS.k31 hm0.f_31_0 (by decide) ?_
  refine g_C ?_
  refine g_getr 1 32 rfl hS.k31 hm0.f_31_1 (by decide) ?_
  refine g_get 0 (0) (6) rfl hS.k32 hm0.f_32_0 (fun v1 ev1 bv1 cv1 => ?_)
  have qv1 : v1 = (m0 32 0) := ev1.trans (Eq.refl (m0 32 0)).symm
  refine g_C ?_
  refine g_S (by omega) (by omega) ?_
  refine ⟨hS.k1, ?_⟩
  refine z_X7_takeNumber hS hm0 (by omega) (by omega) (by omega) (by omega) (fun v2 m3 hm3 fm3 bv2 cv2 yv2_0 yv2_1 yv2_2 => ?_)
  have zb4 := hm3.f_32_0
  have Fm3 : ∀ c p : Int, ¬ (c = 1 ∧ 2 ≤ p ∧ p ≤ 4) → m3 c p = m0 c p := fun c p h => (fm3 c p (by omega)).trans (Fm0 c p h)
  have zb5 := hm3.f_32_0
  have q6 : m3 32 0 = (m0 32 0) := (Eq.refl (m3 32 0)).trans ((fm3 _ _ (by omega)).trans (Eq.refl (m0 32 0)).symm)
  exact hk v2 m3 hm3 Fm3 (by omega) (by omega) (by omega)
theorem z_X0_readHand {X : Mm} {S : Sh} {m0 : Mm} {K : Int → Mm → Prop} (hS : Shp S) (hm0 : Inv X S m0) (p0 : m0 32 4 ≤ 4) (hk : ∀ (r : Int) (M1 : Mm), Inv X S M1 → 0 ≤ r → r ≤ 1 → K r M1) : wp_X0_readHand S m0 31 K := by
  refine u_X0_readHand ?_
  refine ⟨hS.k31, ?_⟩
  refine z_X0_takePlace hS hm0 (fun v1 m2 hm2 fm2 bv1 cv1 yv1_0 => ?_)
  have zb3 := hm2.f_32_4
  have zb4 := hm2.f_32_0
  refine g_C ?_
  refine g_if (fun w5 => ?_) (fun w5 => ?_)
  · refine g_getr 0 1 rfl hS.k31 hm2.f_31_0 (by decide) ?_
    refine g_C ?_
    refine g_C ?_
    refine ⟨hS.k1, ?_⟩
    refine z_X7_takeNumber hS hm2 (by omega) (by omega) (by omega) (by omega) (fun v6 m7 hm7 fm7 bv6 cv6 yv6_0 yv6_1 yv6_2 => ?_)
    have zb8 := hm7.f_32_4
    have zb9 := hm7.f_32_0
    refine u_X0_readHand_24 ?_
    refine g_C ?_
    refine g_if (fun w10 => ?_) (fun w10 => ?_)
    · refine g_getr 0 1 rfl hS.k31 hm7.f_31_0 (by decide) ?_
      refine g_C ?_
      refine g_C ?_
      refine ⟨hS.k1, ?_⟩
      refine z_X7_takeNumber hS hm7 (by omega) (by omega) (by omega) (by omega) (fun v11 m12 hm12 fm12 bv11 cv11 yv11_0 yv11_1 yv11_2 => ?_)
      have zb13 := hm12.f_32_4
      have zb14 := hm12.f_32_0
      refine u_X0_readHand_43 ?_
      refine g_C ?_
      refine g_if (fun w15 => ?_) (fun w15 => ?_)
      · refine g_getr 2 44 rfl hS.k31 hm12.f_31_2 (by decide) ?_
        refine g_getr 2 45 rfl hS.k44 hm12.f_44_2 (by decide) ?_
        refine g_getr 1 32 rfl hS.k31 hm12.f_31_1 (by decide) ?_
        refine g_get 4 (0) (5) rfl hS.k32 hm12.f_32_4 (fun v16 ev16 bv16 cv16 => ?_)
        have qv16 : v16 = (m0 32 4) := ev16.trans ((fm12 _ _ (by omega)).trans ((fm7 _ _ (by omega)).trans ((fm2 _ _ (by omega)).trans (Eq.refl (m0 32 4)).symm)))
        refine g_st hS.k45 hS.l45 (by omega) (by omega) (hm12.wa_45 (by omega) (by omega) (by omega) (by omega)) (fun m17 em17 hm17 => ?_)
        refine g_getr 1 32 rfl hS.k31 hm17.f_31_1 (by decide) ?_
        refine g_getr 10 35 rfl hS.k32 hm17.f_32_10 (by decide) ?_
        refine g_getr 1 32 rfl hS.k31 hm17.f_31_1 (by decide) ?_
        refine g_get 4 (0) (5) rfl hS.k32 hm17.f_32_4 (fun v18 ev18 bv18 cv18 => ?_)
        have qv18 : v18 = (m0 32 4) := ev18.trans ((congrFun (congrFun em17 _) _).trans ((up_ne (by omega)).trans ((fm12 _ _ (by omega)).trans ((fm7 _ _ (by omega)).trans ((fm2 _ _ (by omega)).trans (Eq.refl (m0 32 4)).symm)))))
        refine g_st hS.k35 hS.l35 (by omega) (by omega) (hm17.wa_35 (by omega) (by omega) (by omega) (by omega)) (fun m19 em19 hm19 => ?_)
        refine g_getr 1 32 rfl hS.k31 hm19.f_31_1 (by decide) ?_
        refine g_getr 11 36 rfl hS.k32 hm19.f_32_11 (by decide) ?_
        refine g_getr 1 32 rfl hS.k31 hm19.f_31_1 (by decide) ?_
        refine g_get 4 (0) (5) rfl hS.k32 hm19.f_32_4 (fun v20 ev20 bv20 cv20 => ?_)
        have qv20 : v20 = (m0 32 4) := ev20.trans ((congrFun (congrFun em19 _) _).trans ((up_ne (by omega)).trans ((congrFun (congrFun em17 _) _).trans ((up_ne (by omega)).trans ((fm12 _ _ (by omega)).trans ((fm7 _ _ (by omega)).trans ((fm2 _ _ (by omega)).trans (Eq.refl (m0 32 4)).symm)))))))
        refine g_st hS.k36 hS.l36 (by omega) (by omega) (hm19.wa_36 (by omega) (by omega) (by omega) (by omega)) (fun m21 em21 hm21 => ?_)
        refine g_getr 1 32 rfl hS.k31 hm21.f_31_1 (by decide) ?_
        refine g_get 4 (0) (5) rfl hS.k32 hm21.f_32_4 (fun v22 ev22 bv22 cv22 => ?_)
        have qv22 : v22 = (m0 32 4) := ev22.trans ((congrFun (congrFun em21 _) _).trans ((up_ne (by omega)).trans ((congrFun (congrFun em19 _) _).trans ((up_ne (by omega)).trans ((congrFun (congrFun em17 _) _).trans ((up_ne (by omega)).trans ((fm12 _ _ (by omega)).trans ((fm7 _ _ (by omega)).trans ((fm2 _ _ (by omega)).trans (Eq.refl (m0 32 4)).symm)))))))))
        refine g_C ?_
        refine g_A (by omega) (by omega) ?_
        refine g_put 4 rfl hS.k32 (hm21.w_32_4 (by omega) (by omega)) (fun m23 em23 hm23 => ?_)
        refine g_C ?_
        refine ⟨by omega, ?_⟩
        have zb24 := hm23.f_32_4
        have q25 : m23 32 4 = (v22 + 1) := (Eq.refl (m23 32 4)).trans ((congrFun (congrFun em23 _) _).trans (up_ate (by omega)))
        have zb26 := hm23.f_32_0
        have q27 : m23 32 0 = (m0 32 0) := (Eq.refl (m23 32 0)).trans ((congrFun (congrFun em23 _) _).trans ((up_ne (by omega)).trans ((congrFun (congrFun em21 _) _).trans ((up_ne (by omega)).trans ((congrFun (congrFun em19 _) _).trans ((up_ne (by omega)).trans ((congrFun (congrFun em17 _) _).trans ((up_ne (by omega)).trans ((fm12 _ _ (by omega)).trans ((fm7 _ _ (by omega)).trans ((fm2 _ _ (by omega)).trans (Eq.refl (m0 32 0)).symm)))))))))))
        exact hk 1 m23 hm23 (by omega) (by omega)
      · refine g_C ?_
        refine ⟨by omega, ?_⟩
        have zb28 := hm12.f_32_4
        have q29 : m12 32 4 = (m0 32 4) := (Eq.refl (m12 32 4)).trans ((fm12 _ _ (by omega)).trans ((fm7 _ _ (by omega)).trans ((fm2 _ _ (by omega)).trans (Eq.refl (m0 32 4)).symm)))
        have zb30 := hm12.f_32_0
        have q31 : m12 32 0 = (m0 32 0) := (Eq.refl (m12 32 0)).trans ((fm12 _ _ (by omega)).trans ((fm7 _ _ (by omega)).trans ((fm2 _ _ (by omega)).trans (Eq.refl (m0 32 0)).symm)))
        exact hk 0 m12 hm12 (by omega) (by omega)
    · refine g_C ?_
      refine u_X0_readHand_43 ?_
      refine g_C ?_
      refine g_ifF (by omega) ?_
      refine g_C ?_
      refine ⟨by omega, ?_⟩
      have zb32 := hm7.f_32_4
      have q33 : m7 32 4 = (m0 32 4) := (Eq.refl (m7 32 4)).trans ((fm7 _ _ (by omega)).trans ((fm2 _ _ (by omega)).trans (Eq.refl (m0 32 4)).symm))
      have zb34 := hm7.f_32_0
      have q35 : m7 32 0 = (m0 32 0) := (Eq.refl (m7 32 0)).trans ((fm7 _ _ (by omega)).trans ((fm2 _ _ (by omega)).trans (Eq.refl (m0 32 0)).symm))
      exact hk 0 m7 hm7 (by omega) (by omega)
  · refine g_C ?_
    refine u_X0_readHand_24 ?_
    refine g_C ?_
    refine g_ifF (by omega) ?_
    refine g_C ?_
    refine u_X0_readHand_43 ?_
    refine g_C ?_
    refine g_ifF (by omega) ?_
    refine g_C ?_
    refine ⟨by omega, ?_⟩
    have zb36 := hm2.f_32_4
    have q37 : m2 32 4 = (m0 32 4) := (Eq.refl (m2 32 4)).trans ((fm2 _ _ (by omega)).trans (Eq.refl (m0 32 4)).symm)
    have zb38 := hm2.f_32_0
    have q39 : m2 32 0 = (m0 32 0) := (Eq.refl (m2 32 0)).trans ((fm2 _ _ (by omega)).trans (Eq.refl (m0 32 0)).symm)
    exact hk 0 m2 hm2 (by omega) (by omega)
