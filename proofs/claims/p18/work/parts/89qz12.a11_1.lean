theorem za_X11_take {X : Mm} {S : Sh} {m0 : Mm} {K : Int → Mm → Prop} {u1 u2 : Int} (hS : Shp S) (hm0 : Inv X S m0) (l_u1 : (-2147483648) ≤ u1) (h_u1 : u1 ≤ 2147483647) (l_u2 : (-2147483648) ≤ u2) (h_u2 : u2 ≤ 2147483647) (hk : ∀ (r : Int) (M1 : Mm), Inv X S M1 → (∀ c p : Int, ¬ (c = 0 ∧ (p = 4 ∨ p = 5)) ∧ ¬ (c = 3 ∧ p = 4) ∧ ¬ (16 ≤ c ∧ c ≤ 75) ∧ ¬ (176 ≤ c ∧ c ≤ 335) → M1 c p = m0 c p) → (-1) ≤ r → r ≤ 15 → K r M1) : wp_X11_take S m0 0 u1 u2 K := by
  have Fm0 : ∀ c p : Int, ¬ (c = 0 ∧ (p = 4 ∨ p = 5)) ∧ ¬ (c = 3 ∧ p = 4) ∧ ¬ (16 ≤ c ∧ c ≤ 75) ∧ ¬ (176 ≤ c ∧ c ≤ 335) → m0 c p = m0 c p := fun c p _ => rfl
  refine u_X11_take ?_
  refine ⟨hS.k0, ?_⟩
  refine u_X11_isHand ?_
  refine g_if (fun w1 => ?_) (fun w1 => ?_)
  · refine g_C ?_
    refine ⟨by omega, ?_⟩
    refine g_ifT (by omega) ?_
    refine g_C ?_
    exact hk (-1) m0 hm0 Fm0 (by omega) (by omega)
  · refine g_getr 1 3 rfl hS.k0 hm0.f_0_1 (by decide) ?_
    refine g_getr 0 4 rfl hS.k3 hm0.f_3_0 (by decide) ?_
    refine g_get 4 (0) (5) rfl hS.k4 hm0.f_4_4 (fun v2 ev2 bv2 cv2 => ?_)
    refine g_if (fun w3 => ?_) (fun w3 => ?_)
    · refine g_C ?_
      refine ⟨by omega, ?_⟩
      refine g_ifT (by omega) ?_
      refine g_C ?_
      exact hk (-1) m0 hm0 Fm0 (by omega) (by omega)
    · refine g_C ?_
      refine ⟨by omega, ?_⟩
      refine g_ifF (by omega) ?_
      refine ⟨hS.k0, ?_⟩
      refine u_X11_isJug ?_
      refine g_if (fun w4 => ?_) (fun w4 => ?_)
      · refine g_C ?_
        refine ⟨by omega, ?_⟩
        refine g_ifT (by omega) ?_
        refine g_C ?_
        exact hk (-1) m0 hm0 Fm0 (by omega) (by omega)
      · refine g_getr 1 3 rfl hS.k0 hm0.f_0_1 (by decide) ?_
        refine g_getr 0 4 rfl hS.k3 hm0.f_3_0 (by decide) ?_
        refine g_get 5 (0) (4) rfl hS.k4 hm0.f_4_5 (fun v5 ev5 bv5 cv5 => ?_)
        refine g_if (fun w6 => ?_) (fun w6 => ?_)
        · refine g_C ?_
          refine ⟨by omega, ?_⟩
          refine g_ifT (by omega) ?_
          refine g_C ?_
          exact hk (-1) m0 hm0 Fm0 (by omega) (by omega)
        · refine g_C ?_
          refine ⟨by omega, ?_⟩
          refine g_ifF (by omega) ?_
          refine g_getr 1 3 rfl hS.k0 hm0.f_0_1 (by decide) ?_
          refine g_getr 1 16 rfl hS.k3 hm0.f_3_1 (by decide) ?_
          refine ⟨hS.k16, ?_⟩
          refine u_X5_canTake ?_
          refine ⟨hS.k16, ?_⟩
          refine u_X5_stands ?_
          refine g_getr 5 20 rfl hS.k16 hm0.f_16_5 (by decide) ?_
          refine g_ld (-1) (5) hS.k20 hS.l20 (by omega) (by omega) (hm0.a_20 (by omega) (by omega)) (fun v7 ev7 bv7 cv7 => ?_)
          refine g_C ?_
          refine g_if (fun w8 => ?_) (fun w8 => ?_)
          · refine g_C ?_
            refine ⟨by omega, ?_⟩
            refine g_ifT (by omega) ?_
            refine g_C ?_
            refine ⟨by omega, ?_⟩
            refine g_ifF (by omega) ?_
            refine g_C ?_
            exact hk (-1) m0 hm0 Fm0 (by omega) (by omega)
          · refine g_C ?_
            refine ⟨by omega, ?_⟩
            refine g_ifF (by omega) ?_
            refine g_getr 5 20 rfl hS.k16 hm0.f_16_5 (by decide) ?_
            refine g_ld (-1) (5) hS.k20 hS.l20 (by omega) (by omega) (hm0.a_20 (by omega) (by omega)) (fun v9 ev9 bv9 cv9 => ?_)
            have qv9 : v9 = v7 := ev9.trans ev7.symm
            refine g_getr 2 17 rfl hS.k16 hm0.f_16_2 (by decide) ?_
            refine g_ld (0) (5) hS.k17 hS.l17 (by omega) (by omega) (hm0.a_17 (by omega) (by omega)) (fun v10 ev10 bv10 cv10 => ?_)
            refine g_if (fun w11 => ?_) (fun w11 => ?_)
            · refine g_C ?_
              refine ⟨by omega, ?_⟩
              refine g_ifF (by omega) ?_
              refine g_C ?_
              exact hk (-1) m0 hm0 Fm0 (by omega) (by omega)
            · refine ⟨hS.k16, ?_⟩
              refine u_X5_canHoldMore ?_
              refine ⟨hS.k16, ?_⟩
              refine u_X5_isAtPlace ?_
              refine g_getr 3 18 rfl hS.k16 hm0.f_16_3 (by decide) ?_
              refine g_ld (0) (5) hS.k18 hS.l18 (by omega) (by omega) (hm0.a_18 (by omega) (by omega)) (fun v12 ev12 bv12 cv12 => ?_)
              refine g_if (fun w13 => ?_) (fun w13 => ?_)
              · refine g_C ?_
                refine ⟨by omega, ?_⟩
                refine g_ifT (by omega) ?_
                refine g_C ?_
                refine ⟨by omega, ?_⟩
                refine g_ifT (by omega) ?_
                refine g_C ?_
                refine ⟨by omega, ?_⟩
                refine g_ifF (by omega) ?_
                refine g_C ?_
                exact hk (-1) m0 hm0 Fm0 (by omega) (by omega)
              · refine g_C ?_
                refine ⟨by omega, ?_⟩
                refine g_ifF (by omega) ?_
                refine ⟨hS.k16, ?_⟩
                refine u_X5_howManyHeld ?_
                refine ⟨hS.k16, ?_⟩
                refine za_X5_heldBits hS hm0 (by omega) (by omega) (fun v14 bv14 cv14 => ?_)
                refine za_J6_bitCount_0f7a4 hS hm0 (by omega) (by omega) (fun v15 bv15 cv15 => ?_)
                refine g_C ?_
                refine g_if (fun w16 => ?_) (fun w16 => ?_)
                · refine g_C ?_
                  refine ⟨by omega, ?_⟩
                  refine g_ifT (by omega) ?_
                  refine g_C ?_
                  refine ⟨by omega, ?_⟩
                  refine g_ifF (by omega) ?_
                  refine g_C ?_
                  exact hk (-1) m0 hm0 Fm0 (by omega) (by omega)
                · refine g_C ?_
                  refine ⟨by omega, ?_⟩
                  refine g_ifF (by omega) ?_
                  refine g_C ?_
                  refine ⟨by omega, ?_⟩
                  refine g_ifT (by omega) ?_
                  refine ⟨hS.k0, ?_⟩
                  refine za_X11_keepPast hS hm0 (fun m17 hm17 fm17 => ?_)
                  have Fm17 : ∀ c p : Int, ¬ (c = 0 ∧ (p = 4 ∨ p = 5)) ∧ ¬ (c = 3 ∧ p = 4) ∧ ¬ (16 ≤ c ∧ c ≤ 75) ∧ ¬ (176 ≤ c ∧ c ≤ 335) → m17 c p = m0 c p := fun c p h => (fm17 c p (by omega)).trans (Fm0 c p h)
                  refine g_getr 1 3 rfl hS.k0 hm17.f_0_1 (by decide) ?_
                  refine g_getr 1 16 rfl hS.k3 hm17.f_3_1 (by decide) ?_
                  refine ⟨hS.k16, ?_⟩
                  refine u_X5_giveTo ?_
                  refine g_getr 6 21 rfl hS.k16 hm17.f_16_6 (by decide) ?_
                  refine g_st hS.k21 hS.l21 (by omega) (by omega) (hm17.wa_21 (by omega) (by omega) (by omega) (by omega)) (fun m18 em18 hm18 => ?_)
                  have Fm18 : ∀ c p : Int, ¬ (c = 0 ∧ (p = 4 ∨ p = 5)) ∧ ¬ (c = 3 ∧ p = 4) ∧ ¬ (16 ≤ c ∧ c ≤ 75) ∧ ¬ (176 ≤ c ∧ c ≤ 335) → m18 c p = m0 c p := fun c p h => (congrFun (congrFun em18 _) _).trans ((up_ne (by omega)).trans (Fm17 c p h))
                  refine g_getr 5 20 rfl hS.k16 hm18.f_16_5 (by decide) ?_
                  refine g_C ?_
                  refine g_st hS.k20 hS.l20 (by omega) (by omega) (hm18.wa_20 (by omega) (by omega) (by omega) (by omega)) (fun m19 em19 hm19 => ?_)
                  have Fm19 : ∀ c p : Int, ¬ (c = 0 ∧ (p = 4 ∨ p = 5)) ∧ ¬ (c = 3 ∧ p = 4) ∧ ¬ (16 ≤ c ∧ c ≤ 75) ∧ ¬ (176 ≤ c ∧ c ≤ 335) → m19 c p = m0 c p := fun c p h => (congrFun (congrFun em19 _) _).trans ((up_ne (by omega)).trans (Fm18 c p h))
                  refine g_getr 1 3 rfl hS.k0 hm19.f_0_1 (by decide) ?_
                  refine g_getr 1 16 rfl hS.k3 hm19.f_3_1 (by decide) ?_
                  refine ⟨hS.k16, ?_⟩
                  refine za_X5_heldBits hS hm19 (by omega) (by omega) (fun v20 bv20 cv20 => ?_)
                  exact hk v20 m19 hm19 Fm19 (by omega) (by omega)
theorem za_X4_addTest {X : Mm} {S : Sh} {m0 : Mm} {K : Mm → Prop} {u1 u2 u3 u4 : Int} (hS : Shp S) (hm0 : Inv X S m0) (l_u1 : 0 ≤ u1) (h_u1 : u1 ≤ 999) (l_u2 : 1 ≤ u2) (h_u2 : u2 ≤ 20) (l_u3 : 0 ≤ u3) (h_u3 : u3 ≤ 99) (l_u4 : 0 ≤ u4) (h_u4 : u4 ≤ 999) (hk : ∀ (M1 : Mm), Inv X S M1 → (∀ c p : Int, ¬ (c = 0 ∧ (p = 4 ∨ p = 5)) ∧ ¬ (c = 3 ∧ p = 4) ∧ ¬ (16 ≤ c ∧ c ≤ 75) ∧ ¬ (176 ≤ c ∧ c ≤ 335) → M1 c p = m0 c p) → K M1) : wp_X4_addTest S m0 3 u1 u2 u3 u4 K := by
  have Fm0 : ∀ c p : Int, ¬ (c = 0 ∧ (p = 4 ∨ p = 5)) ∧ ¬ (c = 3 ∧ p = 4) ∧ ¬ (16 ≤ c ∧ c ≤ 75) ∧ ¬ (176 ≤ c ∧ c ≤ 335) → m0 c p = m0 c p := fun c p _ => rfl
  refine u_X4_addTest ?_
  refine g_get 4 (0) (10) rfl hS.k3 hm0.f_3_4 (fun v1 ev1 bv1 cv1 => ?_)
  refine g_C ?_
  refine g_if (fun w2 => ?_) (fun w2 => ?_)
  · exact hk m0 hm0 Fm0
  · refine g_getr 5 24 rfl hS.k3 hm0.f_3_5 (by decide) ?_
    refine g_get 4 (0) (10) rfl hS.k3 hm0.f_3_4 (fun v3 ev3 bv3 cv3 => ?_)
    have qv3 : v3 = v1 := ev3.trans ev1.symm
    refine g_st hS.k24 hS.l24 (by omega) (by omega) (hm0.wa_24 (by omega) (by omega) (by omega) (by omega)) (fun m4 em4 hm4 => ?_)
    have Fm4 : ∀ c p : Int, ¬ (c = 0 ∧ (p = 4 ∨ p = 5)) ∧ ¬ (c = 3 ∧ p = 4) ∧ ¬ (16 ≤ c ∧ c ≤ 75) ∧ ¬ (176 ≤ c ∧ c ≤ 335) → m4 c p = m0 c p := fun c p h => (congrFun (congrFun em4 _) _).trans ((up_ne (by omega)).trans (Fm0 c p h))
    refine g_getr 6 25 rfl hS.k3 hm4.f_3_6 (by decide) ?_
    refine g_get 4 (0) (10) rfl hS.k3 hm4.f_3_4 (fun v5 ev5 bv5 cv5 => ?_)
    have qv5 : v5 = v1 := ev5.trans ((congrFun (congrFun em4 _) _).trans ((up_ne (by omega)).trans ev1.symm))
    refine g_st hS.k25 hS.l25 (by omega) (by omega) (hm4.wa_25 (by omega) (by omega) (by omega) (by omega)) (fun m6 em6 hm6 => ?_)
    have Fm6 : ∀ c p : Int, ¬ (c = 0 ∧ (p = 4 ∨ p = 5)) ∧ ¬ (c = 3 ∧ p = 4) ∧ ¬ (16 ≤ c ∧ c ≤ 75) ∧ ¬ (176 ≤ c ∧ c ≤ 335) → m6 c p = m0 c p := fun c p h => (congrFun (congrFun em6 _) _).trans ((up_ne (by omega)).trans (Fm4 c p h))
    refine g_getr 7 26 rfl hS.k3 hm6.f_3_7 (by decide) ?_
    refine g_get 4 (0) (10) rfl hS.k3 hm6.f_3_4 (fun v7 ev7 bv7 cv7 => ?_)
    have qv7 : v7 = v1 := ev7.trans ((congrFun (congrFun em6 _) _).trans ((up_ne (by omega)).trans ((congrFun (congrFun em4 _) _).trans ((up_ne (by omega)).trans ev1.symm))))
    refine g_st hS.k26 hS.l26 (by omega) (by omega) (hm6.wa_26 (by omega) (by omega) (by omega) (by omega)) (fun m8 em8 hm8 => ?_)
    have Fm8 : ∀ c p : Int, ¬ (c = 0 ∧ (p = 4 ∨ p = 5)) ∧ ¬ (c = 3 ∧ p = 4) ∧ ¬ (16 ≤ c ∧ c ≤ 75) ∧ ¬ (176 ≤ c ∧ c ≤ 335) → m8 c p = m0 c p := fun c p h => (congrFun (congrFun em8 _) _).trans ((up_ne (by omega)).trans (Fm6 c p h))
    refine g_getr 8 27 rfl hS.k3 hm8.f_3_8 (by decide) ?_
    refine g_get 4 (0) (10) rfl hS.k3 hm8.f_3_4 (fun v9 ev9 bv9 cv9 => ?_)
    have qv9 : v9 = v1 := ev9.trans ((congrFun (congrFun em8 _) _).trans ((up_ne (by omega)).trans ((congrFun (congrFun em6 _) _).trans ((up_ne (by omega)).trans ((congrFun (congrFun em4 _) _).trans ((up_ne (by omega)).trans ev1.symm))))))
    refine g_st hS.k27 hS.l27 (by omega) (by omega) (hm8.wa_27 (by omega) (by omega) (by omega) (by omega)) (fun m10 em10 hm10 => ?_)
    have Fm10 : ∀ c p : Int, ¬ (c = 0 ∧ (p = 4 ∨ p = 5)) ∧ ¬ (c = 3 ∧ p = 4) ∧ ¬ (16 ≤ c ∧ c ≤ 75) ∧ ¬ (176 ≤ c ∧ c ≤ 335) → m10 c p = m0 c p := fun c p h => (congrFun (congrFun em10 _) _).trans ((up_ne (by omega)).trans (Fm8 c p h))
    refine g_get 4 (0) (10) rfl hS.k3 hm10.f_3_4 (fun v11 ev11 bv11 cv11 => ?_)
    have qv11 : v11 = v1 := ev11.trans ((congrFun (congrFun em10 _) _).trans ((up_ne (by omega)).trans ((congrFun (congrFun em8 _) _).trans ((up_ne (by omega)).trans ((congrFun (congrFun em6 _) _).trans ((up_ne (by omega)).trans ((congrFun (congrFun em4 _) _).trans ((up_ne (by omega)).trans ev1.symm))))))))
    refine g_C ?_
    refine g_A (by omega) (by omega) ?_
    refine g_put 4 rfl hS.k3 (hm10.w_3_4 (by omega) (by omega)) (fun m12 em12 hm12 => ?_)
    have Fm12 : ∀ c p : Int, ¬ (c = 0 ∧ (p = 4 ∨ p = 5)) ∧ ¬ (c = 3 ∧ p = 4) ∧ ¬ (16 ≤ c ∧ c ≤ 75) ∧ ¬ (176 ≤ c ∧ c ≤ 335) → m12 c p = m0 c p := fun c p h => (congrFun (congrFun em12 _) _).trans ((up_ne (by omega)).trans (Fm10 c p h))
    exact hk m12 hm12 Fm12
theorem za_X11_test {X : Mm} {S : Sh} {m0 : Mm} {K : Int → Mm → Prop} {u1 u2 u3 u4 : Int} (hS : Shp S) (hm0 : Inv X S m0) (l_u1 : (-2147483648) ≤ u1) (h_u1 : u1 ≤ 2147483647) (l_u2 : (-2147483648) ≤ u2) (h_u2 : u2 ≤ 2147483647) (l_u3 : (-2147483648) ≤ u3) (h_u3 : u3 ≤ 2147483647) (l_u4 : (-2147483648) ≤ u4) (h_u4 : u4 ≤ 2147483647) (hk : ∀ (r : Int) (M1 : Mm), Inv X S M1 → (∀ c p : Int, ¬ (c = 0 ∧ (p = 4 ∨ p = 5)) ∧ ¬ (c = 3 ∧ p = 4) ∧ ¬ (16 ≤ c ∧ c ≤ 75) ∧ ¬ (176 ≤ c ∧ c ≤ 335) → M1 c p = m0 c p) → (-2) ≤ r → r ≤ 10 → K r M1) : wp_X11_test S m0 0 u1 u2 u3 u4 K := by
  have Fm0 : ∀ c p : Int, ¬ (c = 0 ∧ (p = 4 ∨ p = 5)) ∧ ¬ (c = 3 ∧ p = 4) ∧ ¬ (16 ≤ c ∧ c ≤ 75) ∧ ¬ (176 ≤ c ∧ c ≤ 335) → m0 c p = m0 c p := fun c p _ => rfl
  refine u_X11_test ?_
  refine g_getr 1 3 rfl hS.k0 hm0.f_0_1 (by decide) ?_
  refine g_getr 0 4 rfl hS.k3 hm0.f_3_0 (by decide) ?_
  refine g_get 0 (0) (6) rfl hS.k4 hm0.f_4_0 (fun v1 ev1 bv1 cv1 => ?_)
  refine g_if (fun w2 => ?_) (fun w2 => ?_)
  · refine g_C ?_
    refine g_if (fun w3 => ?_) (fun w3 => ?_)
    · refine u_X11_isTurned ?_
      refine g_if (fun w4 => ?_) (fun w4 => ?_)
      · refine g_C ?_
        refine ⟨by omega, ?_⟩
        refine g_ifT (by omega) ?_
        refine g_C ?_
        exact hk (-2) m0 hm0 Fm0 (by omega) (by omega)
      · refine g_C ?_
        refine g_if (fun w5 => ?_) (fun w5 => ?_)
        · refine g_C ?_
          refine ⟨by omega, ?_⟩
          refine g_ifT (by omega) ?_
          refine g_C ?_
          exact hk (-2) m0 hm0 Fm0 (by omega) (by omega)
        · refine g_C ?_
          refine ⟨by omega, ?_⟩
          refine g_ifF (by omega) ?_
          refine u_X11_isTurned ?_
          refine g_if (fun w6 => ?_) (fun w6 => ?_)
          · refine g_C ?_
            refine ⟨by omega, ?_⟩
            refine g_ifT (by omega) ?_
            refine g_C ?_
            exact hk (-2) m0 hm0 Fm0 (by omega) (by omega)
          · refine g_C ?_
            refine g_if (fun w7 => ?_) (fun w7 => ?_)
            · refine g_C ?_
              refine ⟨by omega, ?_⟩
              refine g_ifT (by omega) ?_
              refine g_C ?_
              exact hk (-2) m0 hm0 Fm0 (by omega) (by omega)
            · refine g_C ?_
              refine ⟨by omega, ?_⟩
              refine g_ifF (by omega) ?_
              refine g_C ?_
              refine g_if (fun w8 => ?_) (fun w8 => ?_)
              · refine g_C ?_
                exact hk (-2) m0 hm0 Fm0 (by omega) (by omega)
              · refine g_C ?_
                refine g_if (fun w9 => ?_) (fun w9 => ?_)
                · refine g_C ?_
                  exact hk (-2) m0 hm0 Fm0 (by omega) (by omega)
                · refine g_if (fun w10 => ?_) (fun w10 => ?_)
                  · refine g_C ?_
                    exact hk (-2) m0 hm0 Fm0 (by omega) (by omega)
                  · refine g_C ?_
                    refine g_if (fun w11 => ?_) (fun w11 => ?_)
                    · refine g_getr 1 3 rfl hS.k0 hm0.f_0_1 (by decide) ?_
                      refine g_get 4 (0) (10) rfl hS.k3 hm0.f_3_4 (fun v12 ev12 bv12 cv12 => ?_)
                      refine g_C ?_
                      refine g_if (fun w13 => ?_) (fun w13 => ?_)
                      · refine g_getr 1 3 rfl hS.k0 hm0.f_0_1 (by decide) ?_
                        refine ⟨hS.k3, ?_⟩
                        refine za_X4_addTest hS hm0 (by omega) (by omega) (by omega) (by omega) (by omega) (by omega) (by omega) (by omega) (fun m14 hm14 fm14 => ?_)
                        have Fm14 : ∀ c p : Int, ¬ (c = 0 ∧ (p = 4 ∨ p = 5)) ∧ ¬ (c = 3 ∧ p = 4) ∧ ¬ (16 ≤ c ∧ c ≤ 75) ∧ ¬ (176 ≤ c ∧ c ≤ 335) → m14 c p = m0 c p := fun c p h => (fm14 c p (by omega)).trans (Fm0 c p h)
                        refine g_getr 1 3 rfl hS.k0 hm14.f_0_1 (by decide) ?_
                        refine g_get 4 (0) (10) rfl hS.k3 hm14.f_3_4 (fun v15 ev15 bv15 cv15 => ?_)
                        exact hk v15 m14 hm14 Fm14 (by omega) (by omega)
                      · refine g_C ?_
                        exact hk (-2) m0 hm0 Fm0 (by omega) (by omega)
                    · refine g_C ?_
                      exact hk (-2) m0 hm0 Fm0 (by omega) (by omega)
    · refine g_getr 1 3 rfl hS.k0 hm0.f_0_1 (by decide) ?_
      refine g_C ?_
      refine g_put 4 rfl hS.k3 (hm0.w_3_4 (by omega) (by omega)) (fun m16 em16 hm16 => ?_)
      have Fm16 : ∀ c p : Int, ¬ (c = 0 ∧ (p = 4 ∨ p = 5)) ∧ ¬ (c = 3 ∧ p = 4) ∧ ¬ (16 ≤ c ∧ c ≤ 75) ∧ ¬ (176 ≤ c ∧ c ≤ 335) → m16 c p = m0 c p := fun c p h => (congrFun (congrFun em16 _) _).trans ((up_ne (by omega)).trans (Fm0 c p h))
      refine g_C ?_
      exact hk 0 m16 hm16 Fm16 (by omega) (by omega)
  · refine g_C ?_
    exact hk (-2) m0 hm0 Fm0 (by omega) (by omega)
