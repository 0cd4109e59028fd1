section
theorem z_J6_bitCount_0f7a4 {X : Mm} {S : Sh} {m0 : Mm} {K : Int → Mm → Prop} {u0 : Int} (hS : Shp S) (hm0 : Inv X S m0) (l_u0 : 0 ≤ u0) (h_u0 : u0 ≤ 1023) (hk : ∀ (r : Int), 0 ≤ r → r ≤ 63 → K r m0) : wp_J6_bitCount_0f7a4 S m0 u0 K := by
  refine u_J6_bitCount_0f7a4 ?_
  refine g_C ?_
  refine g_o32u (fun v1 bv1 cv1 => ?_)
  refine g_C ?_
  refine g_iAndR (by omega) (by omega) (fun v2 dv2 bv2 cv2 => ?_)
  refine g_S (by omega) (by omega) ?_
  refine g_C ?_
  refine g_iAndR (by omega) (by omega) (fun v3 dv3 bv3 cv3 => ?_)
  refine g_C ?_
  refine g_o32u (fun v4 bv4 cv4 => ?_)
  refine g_C ?_
  refine g_iAndR (by omega) (by omega) (fun v5 dv5 bv5 cv5 => ?_)
  refine g_A (by omega) (by omega) ?_
  refine g_C ?_
  refine g_o32u (fun v6 bv6 cv6 => ?_)
  refine g_Aw (fun v7 bv7 cv7 => ?_)
  refine g_C ?_
  refine g_iAndR (by omega) (by omega) (fun v8 dv8 bv8 cv8 => ?_)
  refine g_C ?_
  refine g_o32u (fun v9 bv9 cv9 => ?_)
  refine g_Aw (fun v10 bv10 cv10 => ?_)
  refine g_C ?_
  refine g_o32u (fun v11 bv11 cv11 => ?_)
  refine g_Aw (fun v12 bv12 cv12 => ?_)
  refine g_C ?_
  refine g_iAndR (by omega) (by omega) (fun v13 dv13 bv13 cv13 => ?_)
  exact hk v13 (by omega) (by omega)
theorem z_J6_numberOfTrailingZeros_0f7a4 {X : Mm} {S : Sh} {m0 : Mm} {K : Int → Mm → Prop} {u0 : Int} (hS : Shp S) (hm0 : Inv X S m0) (l_u0 : 1 ≤ u0) (h_u0 : u0 ≤ 31) (hk : ∀ (r : Int), (-2147483648) ≤ r → r ≤ 2147483647 → K r m0) : wp_J6_numberOfTrailingZeros_0f7a4 S m0 u0 K := by
  refine u_J6_numberOfTrailingZeros_0f7a4 ?_
  refine g_C ?_
  refine g_o32 (fun v1 bv1 cv1 => ?_)
  refine g_C ?_
  refine g_S (by omega) (by omega) ?_
  refine g_iAndR (by omega) (by omega) (fun v2 dv2 bv2 cv2 => ?_)
  refine g_if (fun w3 => ?_) (fun w3 => ?_)
  · refine g_C ?_
    refine g_C ?_
    refine g_ifT (by omega) ?_
    refine u_J6_numberOfTrailingZeros_0f7a4_34 ?_
    refine g_C ?_
    refine g_ifT (by omega) ?_
    refine u_J6_numberOfTrailingZeros_0f7a4_49 ?_
    refine g_C ?_
    refine g_if (fun w4 => ?_) (fun w4 => ?_)
    · refine u_J6_numberOfTrailingZeros_0f7a4_62 ?_
      refine g_C ?_
      refine g_if (fun w5 => ?_) (fun w5 => ?_)
      · refine u_J6_numberOfTrailingZeros_0f7a4_74 ?_
        refine g_C ?_
        refine g_o32u (fun v6 bv6 cv6 => ?_)
        refine g_Aw (fun v7 bv7 cv7 => ?_)
        exact hk v7 (by omega) (by omega)
      · refine g_Al (3) rfl (by decide) (by decide) ?_
        refine g_C ?_
        refine g_o32u (fun v8 bv8 cv8 => ?_)
        refine u_J6_numberOfTrailingZeros_0f7a4_74 ?_
        refine g_C ?_
        refine g_o32u (fun v9 bv9 cv9 => ?_)
        refine g_Aw (fun v10 bv10 cv10 => ?_)
        exact hk v10 (by omega) (by omega)
    · refine g_Al (5) rfl (by decide) (by decide) ?_
      refine g_C ?_
      refine g_o32u (fun v11 bv11 cv11 => ?_)
      refine u_J6_numberOfTrailingZeros_0f7a4_62 ?_
      refine g_C ?_
      refine g_if (fun w12 => ?_) (fun w12 => ?_)
      · refine u_J6_numberOfTrailingZeros_0f7a4_74 ?_
        refine g_C ?_
        refine g_o32u (fun v13 bv13 cv13 => ?_)
        refine g_Aw (fun v14 bv14 cv14 => ?_)
        exact hk v14 (by omega) (by omega)
      · refine g_Al (7) rfl (by decide) (by decide) ?_
        refine g_C ?_
        refine g_o32u (fun v15 bv15 cv15 => ?_)
        refine u_J6_numberOfTrailingZeros_0f7a4_74 ?_
        refine g_C ?_
        refine g_o32u (fun v16 bv16 cv16 => ?_)
        refine g_Aw (fun v17 bv17 cv17 => ?_)
        exact hk v17 (by omega) (by omega)
  · refine g_C ?_
    refine g_iAndR (by omega) (by omega) (fun v18 dv18 bv18 cv18 => ?_)
    exact hk v18 (by omega) (by omega)
end
section
theorem z_X8_heatIn {X : Mm} {S : Sh} {m0 : Mm} {K : Int → Mm → Prop} {u1 : Int} (hS : Shp S) (hm0 : Inv X S m0) (l_u1 : 0 ≤ u1) (h_u1 : u1 ≤ 999) (hk : ∀ (r : Int), 0 ≤ r → r ≤ 20 → K r m0) : wp_X8_heatIn S m0 4 u1 K := by
  refine u_X8_heatIn ?_
  refine g_C ?_
  refine g_C ?_
  have L_n_l41 : ∀ (n_l41 : Nat) (u3 : Int) (u4 : Int), 0 ≤ u3 → u3 ≤ 20 → 0 ≤ u4 → u4 ≤ 4 → (u3 ≤ 5 * u4) → 5 - u4 ≤ (n_l41 : Int) → wp_X8_heatIn_4 S K n_l41 4 u1 u3 u4 m0 := by
    intro n_l41
    induction n_l41 with
    | zero => intro u3 u4 bu3 cu3 bu4 cu4 xn_l41_0 zn_l41; exfalso; omega
    | succ n_l41 ih_n_l41 =>
      intro u3 u4 bu3 cu3 bu4 cu4 xn_l41_0 zn_l41
      refine u_X8_heatIn_4 ?_
      refine g_get 6 (0) (4) rfl hS.k4 hm0.f_4_6 (fun v42 ev42 bv42 cv42 => ?_)
      refine g_if (fun w43 => ?_) (fun w43 => ?_)
      · exact hk u3 (by omega) (by omega)
      · refine g_getr 12 9 rfl hS.k4 hm0.f_4_12 (by decide) ?_
        refine g_ld (0) (99) hS.k9 hS.l9 (by omega) (by omega) (hm0.a_9 (by omega) (by omega)) (fun v44 ev44 bv44 cv44 => ?_)
        refine g_if (fun w45 => ?_) (fun w45 => ?_)
        · refine u_X8_heatIn_41 ?_
          refine g_A (by omega) (by omega) ?_
          exact ih_n_l41 u3 (u4 + 1) (by omega) (by omega) (by omega) (by omega) (by omega) (by omega)
        · refine g_getr 13 10 rfl hS.k4 hm0.f_4_13 (by decide) ?_
          refine g_ld (0) (99) hS.k10 hS.l10 (by omega) (by omega) (hm0.a_10 (by omega) (by omega)) (fun v46 ev46 bv46 cv46 => ?_)
          refine g_if (fun w47 => ?_) (fun w47 => ?_)
          · refine u_X8_heatIn_41 ?_
            refine g_A (by omega) (by omega) ?_
            exact ih_n_l41 u3 (u4 + 1) (by omega) (by omega) (by omega) (by omega) (by omega) (by omega)
          · refine g_getr 14 11 rfl hS.k4 hm0.f_4_14 (by decide) ?_
            refine g_ld (0) (5) hS.k11 hS.l11 (by omega) (by omega) (hm0.a_11 (by omega) (by omega)) (fun v48 ev48 bv48 cv48 => ?_)
            refine g_A (by omega) (by omega) ?_
            refine u_X8_heatIn_41 ?_
            refine g_A (by omega) (by omega) ?_
            exact ih_n_l41 (u3 + v48) (u4 + 1) (by omega) (by omega) (by omega) (by omega) (by omega) (by omega)
  exact ⟨5, L_n_l41 5 0 0 (by omega) (by omega) (by omega) (by omega) (by omega) (by omega)⟩
theorem z_X10_joined {X : Mm} {S : Sh} {m0 : Mm} {K : Int → Mm → Prop} {u0 u1 u3 : Int} (hS : Shp S) (hm0 : Inv X S m0)  (hk : ∀ (r : Int), K r m0) : wp_X10_joined S m0 u0 u1 u3 K := by
  refine u_X10_joined ?_
  refine g_if (fun w1 => ?_) (fun w1 => ?_)
  · refine g_o64 (fun v2 bv2 cv2 => ?_)
    exact hk v2
  · refine g_if (fun w3 => ?_) (fun w3 => ?_)
    · refine g_o64 (fun v4 bv4 cv4 => ?_)
      exact hk v4
    · refine g_if (fun w5 => ?_) (fun w5 => ?_)
      · refine g_cmp (fun w6 => ?_) (fun w6 => ?_) (fun w6 => ?_)
        · refine g_ifT (by omega) ?_
          refine g_C ?_
          exact hk 0
        · refine g_ifT (by omega) ?_
          refine g_C ?_
          exact hk 0
        · refine g_ifF (by omega) ?_
          refine g_C ?_
          exact hk 1
      · refine g_if (fun w7 => ?_) (fun w7 => ?_)
        · refine g_cmp (fun w8 => ?_) (fun w8 => ?_) (fun w8 => ?_)
          · refine g_ifT (by omega) ?_
            refine g_C ?_
            exact hk 0
          · refine g_ifF (by omega) ?_
            refine g_C ?_
            exact hk 1
          · refine g_ifF (by omega) ?_
            refine g_C ?_
            exact hk 1
        · refine g_if (fun w9 => ?_) (fun w9 => ?_)
          · refine g_cmp (fun w10 => ?_) (fun w10 => ?_) (fun w10 => ?_)
            · refine g_ifT (by omega) ?_
              refine g_C ?_
              exact hk 0
            · refine g_ifF (by omega) ?_
              refine g_C ?_
              exact hk 1
            · refine g_ifT (by omega) ?_
              refine g_C ?_
              exact hk 0
          · refine g_if (fun w11 => ?_) (fun w11 => ?_)
            · refine g_cmp (fun w12 => ?_) (fun w12 => ?_) (fun w12 => ?_)
              · refine g_ifF (by omega) ?_
                refine g_C ?_
                exact hk 1
              · refine g_ifF (by omega) ?_
                refine g_C ?_
                exact hk 1
              · refine g_ifT (by omega) ?_
                refine g_C ?_
                exact hk 0
            · refine g_if (fun w13 => ?_) (fun w13 => ?_)
              · refine g_cmp (fun w14 => ?_) (fun w14 => ?_) (fun w14 => ?_)
                · refine g_ifF (by omega) ?_
                  refine g_C ?_
                  exact hk 1
                · refine g_ifT (by omega) ?_
                  refine g_C ?_
                  exact hk 0
                · refine g_ifT (by omega) ?_
                  refine g_C ?_
                  exact hk 0
              · refine g_if (fun w15 => ?_) (fun w15 => ?_)
                · refine g_LSw (fun v16 bv16 cv16 => ?_)
                  exact hk v16
                · refine g_if (fun w17 => ?_) (fun w17 => ?_)
                  · refine g_LAw (fun v18 bv18 cv18 => ?_)
                    exact hk v18
                  · refine g_if (fun w19 => ?_) (fun w19 => ?_)
                    · refine g_C ?_
                      refine g_cmp (fun w20 => ?_) (fun w20 => ?_) (fun w20 => ?_)
                      · refine g_ifT (by omega) ?_
                        refine g_D64 (by omega) (fun v21 bv21 cv21 => ?_)
                        exact hk v21
                      · refine g_ifF (by omega) ?_
                        refine g_C ?_
                        exact hk 0
                      · refine g_ifT (by omega) ?_
                        refine g_D64 (by omega) (fun v22 bv22 cv22 => ?_)
                        exact hk v22
                    · refine g_if (fun w23 => ?_) (fun w23 => ?_)
                      · refine g_C ?_
                        refine g_cmp (fun w24 => ?_) (fun w24 => ?_) (fun w24 => ?_)
                        · refine g_ifT (by omega) ?_
                          refine g_D64 (by omega) (fun v25 bv25 cv25 => ?_)
                          exact hk v25
                        · refine g_ifF (by omega) ?_
                          refine g_C ?_
                          exact hk 0
                        · refine g_ifT (by omega) ?_
                          refine g_D64 (by omega) (fun v26 bv26 cv26 => ?_)
                          exact hk v26
                      · refine g_if (fun w27 => ?_) (fun w27 => ?_)
                        · refine g_LMw (fun v28 bv28 cv28 => ?_)
                          exact hk v28
                        · refine g_o64 (fun v29 bv29 cv29 => ?_)
                          exact hk v29
theorem z_X10_valueOf {X : Mm} {S : Sh} {m0 : Mm} {K : Int → Mm → Prop} {u1 : Int} (hS : Shp S) (hm0 : Inv X S m0) (l_u1 : (-11) ≤ u1) (h_u1 : u1 ≤ (-1)) (hk : ∀ (r : Int), (-2147483648) ≤ r → r ≤ 2147483647 → K r m0) : wp_X10_valueOf S m0 55 u1 K := by
  refine u_X10_valueOf ?_
  refine g_C ?_
  refine g_S (by omega) (by omega) ?_
  refine g_if (fun w1 => ?_) (fun w1 => ?_)
  · refine g_get 4 (0) (4) rfl hS.k55 hm0.f_55_4 (fun v2 ev2 bv2 cv2 => ?_)
    refine g_C ?_
    exact hk v2 (by omega) (by omega)
  · refine g_if (fun w3 => ?_) (fun w3 => ?_)
    · refine g_getr 0 4 rfl hS.k55 hm0.f_55_0 (by decide) ?_
      refine g_getr 10 7 rfl hS.k4 hm0.f_4_10 (by decide) ?_
      refine g_get 4 (0) (4) rfl hS.k55 hm0.f_55_4 (fun v4 ev4 bv4 cv4 => ?_)
      refine g_ld (0) (20) hS.k7 hS.l7 (by omega) (by omega) (hm0.a_7 (by omega) (by omega)) (fun v5 ev5 bv5 cv5 => ?_)
      refine g_C ?_
      exact hk v5 (by omega) (by omega)
    · refine g_if (fun w6 => ?_) (fun w6 => ?_)
      · refine g_get 7 (0) (99) rfl hS.k55 hm0.f_55_7 (fun v7 ev7 bv7 cv7 => ?_)
        refine g_C ?_
        exact hk v7 (by omega) (by omega)
      · refine g_if (fun w8 => ?_) (fun w8 => ?_)
        · refine g_get 5 (0) (3) rfl hS.k55 hm0.f_55_5 (fun v9 ev9 bv9 cv9 => ?_)
          refine g_C ?_
          exact hk v9 (by omega) (by omega)
        · refine g_if (fun w10 => ?_) (fun w10 => ?_)
          · refine g_get 6 (0) (999) rfl hS.k55 hm0.f_55_6 (fun v11 ev11 bv11 cv11 => ?_)
            refine g_C ?_
            exact hk v11 (by omega) (by omega)
          · refine g_if (fun w12 => ?_) (fun w12 => ?_)
            · refine g_get 9 (0) (20) rfl hS.k55 hm0.f_55_9 (fun v13 ev13 bv13 cv13 => ?_)
              refine g_C ?_
              exact hk v13 (by omega) (by omega)
            · refine g_if (fun w14 => ?_) (fun w14 => ?_)
              · refine g_get 8 (0) (999) rfl hS.k55 hm0.f_55_8 (fun v15 ev15 bv15 cv15 => ?_)
                refine g_C ?_
                exact hk v15 (by omega) (by omega)
              · refine g_if (fun w16 => ?_) (fun w16 => ?_)
                · refine g_get 10 (0) (1) rfl hS.k55 hm0.f_55_10 (fun v17 ev17 bv17 cv17 => ?_)
                  refine g_C ?_
                  exact hk v17 (by omega) (by omega)
                · refine g_if (fun w18 => ?_) (fun w18 => ?_)
                  · refine g_get 11 (-2147483648) (2147483647) rfl hS.k55 hm0.f_55_11 (fun v19 ev19 bv19 cv19 => ?_)
                    refine g_C ?_
                    exact hk v19 (by omega) (by omega)
                  · refine g_get 6 (0) (999) rfl hS.k55 hm0.f_55_6 (fun v20 ev20 bv20 cv20 => ?_)
                    refine g_getr 0 4 rfl hS.k55 hm0.f_55_0 (by decide) ?_
                    refine g_get 2 (0) (99) rfl hS.k4 hm0.f_4_2 (fun v21 ev21 bv21 cv21 => ?_)
                    refine g_if (fun w22 => ?_) (fun w22 => ?_)
                    · refine g_C ?_
                      exact hk 0 (by omega) (by omega)
                    · refine g_C ?_
                      exact hk 1 (by omega) (by omega)
theorem z_X10_sumByRule {X : Mm} {S : Sh} {m0 : Mm} {K : Int → Mm → Prop} (hS : Shp S) (hm0 : Inv X S m0)  (hk : ∀ (r : Int) (M1 : Mm), Inv X S M1 → K r M1) : wp_X10_sumByRule S m0 55 K := by
  refine u_X10_sumByRule ?_
  refine g_C ?_
  refine g_C ?_
  have L_n_l519 : ∀ (n_l519 : Nat) (u2 : Int) (u3 : Int) (m4 : Mm), Inv X S m4 → (-1) ≤ u2 → u2 ≤ 63 → 0 ≤ u3 → u3 ≤ 399 → 400 - u3 ≤ (n_l519 : Int) → wp_X10_sumByRule_4 S K n_l519 55 u2 u3 m4 := by
    intro n_l519
    induction n_l519 with
    | zero => intro u2 u3 m4 hm4 bu2 cu2 bu3 cu3 zn_l519; exfalso; omega
    | succ n_l519 ih_n_l519 =>
      intro u2 u3 m4 hm4 bu2 cu2 bu3 cu3 zn_l519
      refine u_X10_sumByRule_4 ?_
      refine g_getrow 1 rfl hS.k55 hm4.row55 (fun v520 ev520 hr_v520 => ?_)
      refine g_lenrow hr_v520 (fun v521 ev521 bv521 cv521 => ?_)
      refine g_if (fun w522 => ?_) (fun w522 => ?_)
      · refine g_C ?_
        exact hk 0 m4 hm4
      · refine g_getrow 1 rfl hS.k55 hm4.row55 (fun v523 ev523 hr_v523 => ?_)
        have qv523 : v523 = v520 := ev523.trans ev520.symm
        have qlv523 : rlen S v523 = rlen S v520 := congrArg (rlen S) qv523
        refine g_ldrow hr_v523 (by omega) (by omega) (fun v524 => ?_)
        refine g_C ?_
        refine g_if (fun w525 => ?_) (fun w525 => ?_)
        · refine g_if (fun w526 => ?_) (fun w526 => ?_)
          · refine g_C ?_
            refine g_if (fun w527 => ?_) (fun w527 => ?_)
            · refine g_C ?_
              refine g_if (fun w528 => ?_) (fun w528 => ?_)
              · refine g_C ?_
                refine g_if (fun w529 => ?_) (fun w529 => ?_)
                · refine g_C ?_
                  refine g_if (fun w530 => ?_) (fun w530 => ?_)
                  · refine g_A (by omega) (by omega) ?_
                    refine g_getr 3 56 rfl hS.k55 hm4.f_55_3 (by decide) ?_
                    refine g_getr 3 56 rfl hS.k55 hm4.f_55_3 (by decide) ?_
                    refine g_ldu hS.k56 hS.l56 (by omega) (by omega) (fun v531 ev531 => ?_)
                    refine g_getr 3 56 rfl hS.k55 hm4.f_55_3 (by decide) ?_
                    refine g_C ?_
                    refine g_A (by omega) (by omega) ?_
                    refine g_ldu hS.k56 hS.l56 (by omega) (by omega) (fun v532 ev532 => ?_)
                    refine z_X10_joined hS hm4 (fun v533 => ?_)
                    refine g_st hS.k56 hS.l56 (by omega) (by omega) (hm4.wa_56 (by omega) (by omega)) (fun m534 em534 hm534 => ?_)
                    refine u_X10_sumByRule_170 ?_
                    refine g_A (by omega) (by omega) ?_
                    exact ih_n_l519 (u2 + (-1)) (u3 + 1) m534 hm534 (by omega) (by omega) (by omega) (by omega) (by omega)
                  · refine g_getr 3 56 rfl hS.k55 hm4.f_55_3 (by decide) ?_
                    refine g_ldu hS.k56 hS.l56 (by omega) (by omega) (fun v535 ev535 => ?_)
                    refine g_C ?_
                    refine g_cmp (fun w536 => ?_) (fun w536 => ?_) (fun w536 => ?_)
                    · refine g_ifF (by omega) ?_
                      refine g_getr 3 56 rfl hS.k55 hm4.f_55_3 (by decide) ?_
                      refine g_C ?_
                      refine g_S (by omega) (by omega) ?_
                      refine g_ldu hS.k56 hS.l56 (by omega) (by omega) (fun v537 ev537 => ?_)
                      exact hk v537 m4 hm4
                    · refine g_ifT (by omega) ?_
                      refine g_A (by omega) (by omega) ?_
                      refine u_X10_sumByRule_170 ?_
                      refine g_A (by omega) (by omega) ?_
                      exact ih_n_l519 (u2 + (-2)) (u3 + 1) m4 hm4 (by omega) (by omega) (by omega) (by omega) (by omega)
                    · refine g_ifF (by omega) ?_
                      refine g_getr 3 56 rfl hS.k55 hm4.f_55_3 (by decide) ?_
                      refine g_C ?_
                      refine g_S (by omega) (by omega) ?_
                      refine g_ldu hS.k56 hS.l56 (by omega) (by omega) (fun v538 ev538 => ?_)
                      exact hk v538 m4 hm4
                · refine g_C ?_
                  exact hk 0 m4 hm4
              · refine g_getr 3 56 rfl hS.k55 hm4.f_55_3 (by decide) ?_
                refine g_C ?_
                refine g_getr 3 56 rfl hS.k55 hm4.f_55_3 (by decide) ?_
                refine g_ldu hS.k56 hS.l56 (by omega) (by omega) (fun v539 ev539 => ?_)
                refine g_LSw (fun v540 bv540 cv540 => ?_)
                refine g_st hS.k56 hS.l56 (by omega) (by omega) (hm4.wa_56 (by omega) (by omega)) (fun m541 em541 hm541 => ?_)
                refine u_X10_sumByRule_170 ?_
                refine g_A (by omega) (by omega) ?_
                exact ih_n_l519 u2 (u3 + 1) m541 hm541 (by omega) (by omega) (by omega) (by omega) (by omega)
            · refine g_getr 3 56 rfl hS.k55 hm4.f_55_3 (by decide) ?_
              refine g_ldu hS.k56 hS.l56 (by omega) (by omega) (fun v542 ev542 => ?_)
              exact hk v542 m4 hm4
          · refine g_C ?_
            exact hk 0 m4 hm4
        · refine g_C ?_
          refine g_A (by omega) (by omega) ?_
          refine g_C ?_
          refine g_if (fun w543 => ?_) (fun w543 => ?_)
          · refine g_A (by omega) (by omega) ?_
            refine g_getr 3 56 rfl hS.k55 hm4.f_55_3 (by decide) ?_
            refine g_if (fun w544 => ?_) (fun w544 => ?_)
            · refine ⟨hS.k55, ?_⟩
              refine z_X10_valueOf hS hm4 (by omega) (by omega) (fun v545 bv545 cv545 => ?_)
              refine u_X10_sumByRule_58 ?_
              refine g_st hS.k56 hS.l56 (by omega) (by omega) (hm4.wa_56 (by omega) (by omega)) (fun m546 em546 hm546 => ?_)
              refine u_X10_sumByRule_170 ?_
              refine g_A (by omega) (by omega) ?_
              exact ih_n_l519 (u2 + 1) (u3 + 1) m546 hm546 (by omega) (by omega) (by omega) (by omega) (by omega)
            · refine g_C ?_
              refine u_X10_sumByRule_58 ?_
              refine g_st hS.k56 hS.l56 (by omega) (by omega) (hm4.wa_56 (by omega) (by omega)) (fun m547 em547 hm547 => ?_)
              refine u_X10_sumByRule_170 ?_
              refine g_A (by omega) (by omega) ?_
              exact ih_n_l519 (u2 + 1) (u3 + 1) m547 hm547 (by omega) (by omega) (by omega) (by omega) (by omega)
          · refine g_C ?_
            exact hk 0 m4 hm4
  exact ⟨400, L_n_l519 400 (-1) 0 m0 hm0 (by omega) (by omega) (by omega) (by omega) (by omega)⟩
theorem z_X10_turns {X : Mm} {S : Sh} {m0 : Mm} {K : Int → Mm → Prop} (hS : Shp S) (hm0 : Inv X S m0)  (hk : ∀ (r : Int) (M1 : Mm), Inv X S M1 → 0 ≤ r → r ≤ 64 → K r M1) : wp_X10_turns S m0 55 K := by
  refine u_X10_turns ?_
  refine g_get 8 (0) (999) rfl hS.k55 hm0.f_55_8 (fun v1 ev1 bv1 cv1 => ?_)
  refine ⟨hS.k55, ?_⟩
  refine u_X10_heatIn ?_
  refine g_get 2 (0) (1) rfl hS.k55 hm0.f_55_2 (fun v2 ev2 bv2 cv2 => ?_)
  refine g_if (fun w3 => ?_) (fun w3 => ?_)
  · refine g_getr 0 4 rfl hS.k55 hm0.f_55_0 (by decide) ?_
    refine ⟨hS.k4, ?_⟩
    refine z_X8_heatIn hS hm0 (by omega) (by omega) (fun v4 bv4 cv4 => ?_)
    refine g_put 9 rfl hS.k55 (hm0.w_55_9 (by omega) (by omega)) (fun m5 em5 hm5 => ?_)
    refine g_getrow 1 rfl hS.k55 hm5.row55 (fun v6 ev6 hr_v6 => ?_)
    refine g_lenrow hr_v6 (fun v7 ev7 bv7 cv7 => ?_)
    refine g_if (fun w8 => ?_) (fun w8 => ?_)
    · refine g_C ?_
      refine g_C ?_
      refine ⟨hS.k55, ?_⟩
      refine z_X10_sumByRule hS hm5 (fun v9 m10 hm10 => ?_)
      refine g_min (fun v11 bv11 cv11 dv11 => ?_)
      refine g_max (fun v12 bv12 cv12 dv12 => ?_)
      refine g_w32 (by omega) (by omega) ?_
      exact hk v12 m10 hm10 (by omega) (by omega)
    · refine g_getr 0 4 rfl hS.k55 hm5.f_55_0 (by decide) ?_
      refine g_getr 10 7 rfl hS.k4 hm5.f_4_10 (by decide) ?_
      refine g_get 4 (0) (4) rfl hS.k55 hm5.f_55_4 (fun v14 ev14 bv14 cv14 => ?_)
      refine g_ld (0) (20) hS.k7 hS.l7 (by omega) (by omega) (hm5.a_7 (by omega) (by omega)) (fun v15 ev15 bv15 cv15 => ?_)
      refine g_get 7 (0) (99) rfl hS.k55 hm5.f_55_7 (fun v16 ev16 bv16 cv16 => ?_)
      refine g_C ?_
      refine g_iDivc (d := 4) (by omega) (by omega) (by decide) (fun v17 bv17 cv17 => ?_)
      refine g_A (by omega) (by omega) ?_
      refine g_get 9 (0) (20) rfl hS.k55 hm5.f_55_9 (fun v18 ev18 bv18 cv18 => ?_)
      have qv18 : v18 = v4 := ev18.trans ((congrFun (congrFun em5 _) _).trans (up_ate (by omega)))
      refine g_A (by omega) (by omega) ?_
      exact hk ((v15 + v17) + v18) m5 hm5 (by omega) (by omega)
  · refine g_C ?_
    refine g_put 9 rfl hS.k55 (hm0.w_55_9 (by omega) (by omega)) (fun m19 em19 hm19 => ?_)
    refine g_getrow 1 rfl hS.k55 hm19.row55 (fun v20 ev20 hr_v20 => ?_)
    refine g_lenrow hr_v20 (fun v21 ev21 bv21 cv21 => ?_)
    refine g_if (fun w22 => ?_) (fun w22 => ?_)
    · refine g_C ?_
      refine g_C ?_
      refine ⟨hS.k55, ?_⟩
      refine z_X10_sumByRule hS hm19 (fun v23 m24 hm24 => ?_)
      refine g_min (fun v25 bv25 cv25 dv25 => ?_)
      refine g_max (fun v26 bv26 cv26 dv26 => ?_)
      refine g_w32 (by omega) (by omega) ?_
      exact hk v26 m24 hm24 (by omega) (by omega)
    · refine g_getr 0 4 rfl hS.k55 hm19.f_55_0 (by decide) ?_
      refine g_getr 10 7 rfl hS.k4 hm19.f_4_10 (by decide) ?_
      refine g_get 4 (0) (4) rfl hS.k55 hm19.f_55_4 (fun v28 ev28 bv28 cv28 => ?_)
      refine g_ld (0) (20) hS.k7 hS.l7 (by omega) (by omega) (hm19.a_7 (by omega) (by omega)) (fun v29 ev29 bv29 cv29 => ?_)
      refine g_get 7 (0) (99) rfl hS.k55 hm19.f_55_7 (fun v30 ev30 bv30 cv30 => ?_)
      refine g_C ?_
      refine g_iDivc (d := 4) (by omega) (by omega) (by decide) (fun v31 bv31 cv31 => ?_)
      refine g_A (by omega) (by omega) ?_
      refine g_get 9 (0) (20) rfl hS.k55 hm19.f_55_9 (fun v32 ev32 bv32 cv32 => ?_)
      have qv32 : v32 = 0 := ev32.trans ((congrFun (congrFun em19 _) _).trans (up_ate (by omega)))
      refine g_A (by omega) (by omega) ?_
      exact hk ((v29 + v31) + v32) m19 hm19 (by omega) (by omega)
theorem z_X10_holdFor {X : Mm} {S : Sh} {m0 : Mm} {K : Mm → Prop} {u1 : Int} (hS : Shp S) (hm0 : Inv X S m0) (l_u1 : 0 ≤ u1) (h_u1 : u1 ≤ 999) (hk : ∀ (M1 : Mm), Inv X S M1 → K M1) : wp_X10_holdFor S m0 55 u1 K := by
  refine u_X10_holdFor ?_
  refine g_C ?_
  have L_n_l271 : ∀ (n_l271 : Nat) (u3 : Int) (m4 : Mm), Inv X S m4 → 0 ≤ u3 → u3 ≤ 999 → 1000 - u3 ≤ (n_l271 : Int) → wp_X10_holdFor_2 S K n_l271 55 u1 u3 m4 := by
    intro n_l271
    induction n_l271 with
    | zero => intro u3 m4 hm4 bu3 cu3 zn_l271; exfalso; omega
    | succ n_l271 ih_n_l271 =>
      intro u3 m4 hm4 bu3 cu3 zn_l271
      refine u_X10_holdFor_2 ?_
      refine g_if (fun w272 => ?_) (fun w272 => ?_)
      · exact hk m4 hm4
      · refine g_C ?_
        refine g_get 6 (0) (999) rfl hS.k55 hm4.f_55_6 (fun v273 ev273 bv273 cv273 => ?_)
        refine ⟨hS.k55, ?_⟩
        refine z_X10_turns hS hm4 (fun v274 m275 hm275 bv274 cv274 => ?_)
        refine g_A (by omega) (by omega) ?_
        refine g_min (fun v276 bv276 cv276 dv276 => ?_)
        refine g_put 6 rfl hS.k55 (hm275.w_55_6 (by omega) (by omega)) (fun m277 em277 hm277 => ?_)
        refine g_C ?_
        refine g_get 7 (0) (99) rfl hS.k55 hm277.f_55_7 (fun v278 ev278 bv278 cv278 => ?_)
        refine g_getr 0 4 rfl hS.k55 hm277.f_55_0 (by decide) ?_
        refine g_getr 11 8 rfl hS.k4 hm277.f_4_11 (by decide) ?_
        refine g_get 4 (0) (4) rfl hS.k55 hm277.f_55_4 (fun v279 ev279 bv279 cv279 => ?_)
        refine g_ld (0) (5) hS.k8 hS.l8 (by omega) (by omega) (hm277.a_8 (by omega) (by omega)) (fun v280 ev280 bv280 cv280 => ?_)
        refine g_A (by omega) (by omega) ?_
        refine g_min (fun v281 bv281 cv281 dv281 => ?_)
        refine g_put 7 rfl hS.k55 (hm277.w_55_7 (by omega) (by omega)) (fun m282 em282 hm282 => ?_)
        refine g_C ?_
        refine g_get 8 (0) (999) rfl hS.k55 hm282.f_55_8 (fun v283 ev283 bv283 cv283 => ?_)
        refine g_C ?_
        refine g_A (by omega) (by omega) ?_
        refine g_min (fun v284 bv284 cv284 dv284 => ?_)
        refine g_put 8 rfl hS.k55 (hm282.w_55_8 (by omega) (by omega)) (fun m285 em285 hm285 => ?_)
        refine g_A (by omega) (by omega) ?_
        exact ih_n_l271 (u3 + 1) m285 hm285 (by omega) (by omega) (by omega)
  exact ⟨1000, L_n_l271 1000 0 m0 hm0 (by omega) (by omega) (by omega)⟩
theorem z_X5_heldBits {X : Mm} {S : Sh} {m0 : Mm} {K : Int → Mm → Prop} {u0 u1 : Int} (hS : Shp S) (hm0 : Inv X S m0) (hb_u0 : isSt u0) (l_u1 : 0 ≤ u1) (h_u1 : u1 ≤ 4) (hk : ∀ (r : Int), 0 ≤ r → r ≤ 15 → K r m0) : wp_X5_heldBits S m0 u0 u1 K := by
  refine u_X5_heldBits ?_
  refine g_C ?_
  refine g_C ?_
  have L_n_l27 : ∀ (n_l27 : Nat) (u3 : Int) (u4 : Int), 0 ≤ u3 → u3 ≤ 15 → 0 ≤ u4 → u4 ≤ 4 → 5 - u4 ≤ (n_l27 : Int) → wp_X5_heldBits_4 S K n_l27 u0 u1 u3 u4 m0 := by
    intro n_l27
    induction n_l27 with
    | zero => intro u3 u4 bu3 cu3 bu4 cu4 zn_l27; exfalso; omega
    | succ n_l27 ih_n_l27 =>
      intro u3 u4 bu3 cu3 bu4 cu4 zn_l27
      refine u_X5_heldBits_4 ?_
      refine g_C ?_
      refine g_if (fun w28 => ?_) (fun w28 => ?_)
      · exact hk u3 (by omega) (by omega)
      · refine g_getr 6 (u0 + 5) rfl (hS.kB_5_0 hb_u0) (hm0.fB_5_6 hb_u0) (hS.nB_5_5 hb_u0) ?_
        refine g_ld (-1) (4) (hS.kB_5_5 hb_u0) (hS.lB_5_5 hb_u0) (by omega) (by omega) (hm0.aB_5_5 hb_u0 (by omega) (by omega)) (fun v29 ev29 bv29 cv29 => ?_)
        refine g_if (fun w30 => ?_) (fun w30 => ?_)
        · refine u_X5_heldBits_25 ?_
          refine g_A (by omega) (by omega) ?_
          exact ih_n_l27 u3 (u4 + 1) (by omega) (by omega) (by omega) (by omega) (by omega)
        · refine g_C ?_
          refine g_iShl 3 (by omega) (by omega) (by decide) (fun v31 bv31 cv31 => ?_)
          refine g_iOr 4 (by omega) (by omega) (by omega) (by omega) (by decide) (fun v32 bv32 cv32 => ?_)
          refine u_X5_heldBits_25 ?_
          refine g_A (by omega) (by omega) ?_
          exact ih_n_l27 v32 (u4 + 1) (by omega) (by omega) (by omega) (by omega) (by omega)
  exact ⟨5, L_n_l27 5 0 0 (by omega) (by omega) (by omega) (by omega) (by omega)⟩
theorem z_X10_see {X : Mm} {S : Sh} {m0 : Mm} {K : Mm → Prop} {u1 u2 u3 : Int} (hS : Shp S) (hm0 : Inv X S m0) (hb_u1 : isSt u1) (l_u2 : 0 ≤ u2) (h_u2 : u2 ≤ 4) (l_u3 : 0 ≤ u3) (h_u3 : u3 ≤ 3) (hk : ∀ (M1 : Mm), Inv X S M1 → K M1) : wp_X10_see S m0 55 u1 u2 u3 K := by
  refine u_X10_see ?_
  refine g_put 4 rfl hS.k55 (hm0.w_55_4 (by omega) (by omega)) (fun m1 em1 hm1 => ?_)
  refine g_put 5 rfl hS.k55 (hm1.w_55_5 (by omega) (by omega)) (fun m2 em2 hm2 => ?_)
  refine g_getr 7 (u1 + 6) rfl (hS.kB_5_0 hb_u1) (hm2.fB_5_7 hb_u1) (hS.nB_5_6 hb_u1) ?_
  refine g_ld (0) (999) (hS.kB_5_6 hb_u1) (hS.lB_5_6 hb_u1) (by omega) (by omega) (hm2.aB_5_6 hb_u1 (by omega) (by omega)) (fun v3 ev3 bv3 cv3 => ?_)
  refine g_put 6 rfl hS.k55 (hm2.w_55_6 (by omega) (by omega)) (fun m4 em4 hm4 => ?_)
  refine g_getr 4 (u1 + 3) rfl (hS.kB_5_0 hb_u1) (hm4.fB_5_4 hb_u1) (hS.nB_5_3 hb_u1) ?_
  refine g_ld (0) (99) (hS.kB_5_3 hb_u1) (hS.lB_5_3 hb_u1) (by omega) (by omega) (hm4.aB_5_3 hb_u1 (by omega) (by omega)) (fun v5 ev5 bv5 cv5 => ?_)
  refine g_put 7 rfl hS.k55 (hm4.w_55_7 (by omega) (by omega)) (fun m6 em6 hm6 => ?_)
  refine g_get 0 (0) (999) rfl (hS.kB_5_0 hb_u1) (hm6.fB_5_0 hb_u1) (fun v7 ev7 bv7 cv7 => ?_)
  refine g_put 8 rfl hS.k55 (hm6.w_55_8 (by omega) (by omega)) (fun m8 em8 hm8 => ?_)
  refine ⟨(hS.kB_5_0 hb_u1), ?_⟩
  refine u_X5_isAtPlace ?_
  refine g_getr 3 (u1 + 2) rfl (hS.kB_5_0 hb_u1) (hm8.fB_5_3 hb_u1) (hS.nB_5_2 hb_u1) ?_
  refine g_ld (0) (5) (hS.kB_5_2 hb_u1) (hS.lB_5_2 hb_u1) (by omega) (by omega) (hm8.aB_5_2 hb_u1 (by omega) (by omega)) (fun v9 ev9 bv9 cv9 => ?_)
  refine g_if (fun w10 => ?_) (fun w10 => ?_)
  · refine g_C ?_
    refine ⟨by omega, ?_⟩
    refine g_ifT (by omega) ?_
    refine g_C ?_
    refine u_X10_see_52 ?_
    refine g_put 10 rfl hS.k55 (hm8.w_55_10 (by omega) (by omega)) (fun m11 em11 hm11 => ?_)
    refine ⟨(hS.kB_5_0 hb_u1), ?_⟩
    refine u_X5_howManyHeld ?_
    refine ⟨(hS.kB_5_0 hb_u1), ?_⟩
    refine z_X5_heldBits hS hm11 hb_u1 (by omega) (by omega) (fun v12 bv12 cv12 => ?_)
    refine z_J6_bitCount_0f7a4 hS hm11 (by omega) (by omega) (fun v13 bv13 cv13 => ?_)
    refine g_put 11 rfl hS.k55 (hm11.w_55_11 (by omega) (by omega)) (fun m14 em14 hm14 => ?_)
    exact hk m14 hm14
  · refine g_C ?_
    refine ⟨by omega, ?_⟩
    refine g_ifF (by omega) ?_
    refine g_C ?_
    refine u_X10_see_52 ?_
    refine g_put 10 rfl hS.k55 (hm8.w_55_10 (by omega) (by omega)) (fun m15 em15 hm15 => ?_)
    refine ⟨(hS.kB_5_0 hb_u1), ?_⟩
    refine u_X5_howManyHeld ?_
    refine ⟨(hS.kB_5_0 hb_u1), ?_⟩
    refine z_X5_heldBits hS hm15 hb_u1 (by omega) (by omega) (fun v16 bv16 cv16 => ?_)
    refine z_J6_bitCount_0f7a4 hS hm15 (by omega) (by omega) (fun v17 bv17 cv17 => ?_)
    refine g_put 11 rfl hS.k55 (hm15.w_55_11 (by omega) (by omega)) (fun m18 em18 hm18 => ?_)
    exact hk m18 hm18
end
section
theorem z_X1_turnsIn {X : Mm} {S : Sh} {m0 : Mm} {K : Int → Mm → Prop} {u1 u2 : Int} (hS : Shp S) (hm0 : Inv X S m0) (hb_u1 : isSt u1) (l_u2 : 0 ≤ u2) (h_u2 : u2 ≤ 3) (hk : ∀ (r : Int) (M1 : Mm), Inv X S M1 → 0 ≤ r → r ≤ 64 → K r M1) : wp_X1_turnsIn S m0 57 u1 u2 K := by
  refine u_X1_turnsIn ?_
  refine ⟨(hS.kB_5_0 hb_u1), ?_⟩
  refine u_X5_stands ?_
  refine g_getr 5 (u1 + 4) rfl (hS.kB_5_0 hb_u1) (hm0.fB_5_5 hb_u1) (hS.nB_5_4 hb_u1) ?_
  refine g_ld (-1) (5) (hS.kB_5_4 hb_u1) (hS.lB_5_4 hb_u1) (by omega) (by omega) (hm0.aB_5_4 hb_u1 (by omega) (by omega)) (fun v1 ev1 bv1 cv1 => ?_)
  refine g_C ?_
  refine g_if (fun w2 => ?_) (fun w2 => ?_)
  · refine g_C ?_
    refine ⟨by omega, ?_⟩
    refine g_ifT (by omega) ?_
    refine ⟨(hS.kB_5_0 hb_u1), ?_⟩
    refine u_X5_isGone ?_
    refine g_getr 5 (u1 + 4) rfl (hS.kB_5_0 hb_u1) (hm0.fB_5_5 hb_u1) (hS.nB_5_4 hb_u1) ?_
    refine g_ld (-1) (5) (hS.kB_5_4 hb_u1) (hS.lB_5_4 hb_u1) (by omega) (by omega) (hm0.aB_5_4 hb_u1 (by omega) (by omega)) (fun v3 ev3 bv3 cv3 => ?_)
    have qv3 : v3 = v1 := ev3.trans ev1.symm
    refine g_C ?_
    refine g_ifF (by omega) ?_
    refine g_getr 6 (u1 + 5) rfl (hS.kB_5_0 hb_u1) (hm0.fB_5_6 hb_u1) (hS.nB_5_5 hb_u1) ?_
    refine g_ld (-1) (4) (hS.kB_5_5 hb_u1) (hS.lB_5_5 hb_u1) (by omega) (by omega) (hm0.aB_5_5 hb_u1 (by omega) (by omega)) (fun v4 ev4 bv4 cv4 => ?_)
    refine g_C ?_
    refine g_if (fun w5 => ?_) (fun w5 => ?_)
    · refine g_C ?_
      refine ⟨by omega, ?_⟩
      refine g_ifT (by omega) ?_
      refine g_getr 0 55 rfl hS.k57 hm0.f_57_0 (by decide) ?_
      refine g_getr 6 (u1 + 5) rfl (hS.kB_5_0 hb_u1) (hm0.fB_5_6 hb_u1) (hS.nB_5_5 hb_u1) ?_
      refine g_ld (-1) (4) (hS.kB_5_5 hb_u1) (hS.lB_5_5 hb_u1) (by omega) (by omega) (hm0.aB_5_5 hb_u1 (by omega) (by omega)) (fun v6 ev6 bv6 cv6 => ?_)
      have qv6 : v6 = v4 := ev6.trans ev4.symm
      refine ⟨hS.k55, ?_⟩
      refine z_X10_see hS hm0 hb_u1 (by omega) (by omega) (by omega) (by omega) (fun m7 hm7 => ?_)
      refine g_getr 0 55 rfl hS.k57 hm7.f_57_0 (by decide) ?_
      refine ⟨hS.k55, ?_⟩
      refine z_X10_turns hS hm7 (fun v8 m9 hm9 bv8 cv8 => ?_)
      exact hk v8 m9 hm9 (by omega) (by omega)
    · refine g_C ?_
      refine ⟨by omega, ?_⟩
      refine g_ifF (by omega) ?_
      refine g_C ?_
      exact hk 0 m0 hm0 (by omega) (by omega)
  · refine g_C ?_
    refine ⟨by omega, ?_⟩
    refine g_ifF (by omega) ?_
    refine g_getr 1 4 rfl hS.k57 hm0.f_57_1 (by decide) ?_
    refine g_get 1 (0) (9) rfl hS.k4 hm0.f_4_1 (fun v10 ev10 bv10 cv10 => ?_)
    refine g_getr 0 55 rfl hS.k57 hm0.f_57_0 (by decide) ?_
    refine g_get 0 (0) (999) rfl (hS.kB_5_0 hb_u1) (hm0.fB_5_0 hb_u1) (fun v11 ev11 bv11 cv11 => ?_)
    refine ⟨hS.k55, ?_⟩
    refine u_X10_heatIn ?_
    refine g_get 2 (0) (1) rfl hS.k55 hm0.f_55_2 (fun v12 ev12 bv12 cv12 => ?_)
    refine g_if (fun w13 => ?_) (fun w13 => ?_)
    · refine g_getr 0 4 rfl hS.k55 hm0.f_55_0 (by decide) ?_
      refine ⟨hS.k4, ?_⟩
      refine z_X8_heatIn hS hm0 (by omega) (by omega) (fun v14 bv14 cv14 => ?_)
      refine g_A (by omega) (by omega) ?_
      exact hk (v10 + v14) m0 hm0 (by omega) (by omega)
    · refine g_C ?_
      refine g_A (by omega) (by omega) ?_
      exact hk (v10 + 0) m0 hm0 (by omega) (by omega)
theorem z_X5_tire {X : Mm} {S : Sh} {m0 : Mm} {K : Mm → Prop} {u0 u1 u2 : Int} (hS : Shp S) (hm0 : Inv X S m0) (hb_u0 : isSt u0) (l_u1 : 0 ≤ u1) (h_u1 : u1 ≤ 4) (l_u2 : 0 ≤ u2) (h_u2 : u2 ≤ 5) (hk : ∀ (M1 : Mm), Inv X S M1 → K M1) : wp_X5_tire S m0 u0 u1 u2 K := by
  refine u_X5_tire ?_
  refine ⟨(hS.kB_5_0 hb_u0), ?_⟩
  refine z_X5_heldBits hS hm0 hb_u0 (by omega) (by omega) (fun v1 bv1 cv1 => ?_)
  refine g_if (fun w2 => ?_) (fun w2 => ?_)
  · refine g_getr 4 (u0 + 3) rfl (hS.kB_5_0 hb_u0) (hm0.fB_5_4 hb_u0) (hS.nB_5_3 hb_u0) ?_
    refine g_C ?_
    refine g_getr 4 (u0 + 3) rfl (hS.kB_5_0 hb_u0) (hm0.fB_5_4 hb_u0) (hS.nB_5_3 hb_u0) ?_
    refine g_ld (0) (99) (hS.kB_5_3 hb_u0) (hS.lB_5_3 hb_u0) (by omega) (by omega) (hm0.aB_5_3 hb_u0 (by omega) (by omega)) (fun v3 ev3 bv3 cv3 => ?_)
    refine g_C ?_
    refine g_S (by omega) (by omega) ?_
    refine g_max (fun v4 bv4 cv4 dv4 => ?_)
    refine g_st (hS.kB_5_3 hb_u0) (hS.lB_5_3 hb_u0) (by omega) (by omega) (hm0.waB_5_3 hb_u0 (by omega) (by omega) (by omega) (by omega)) (fun m5 em5 hm5 => ?_)
    exact hk m5 hm5
  · refine g_getr 4 (u0 + 3) rfl (hS.kB_5_0 hb_u0) (hm0.fB_5_4 hb_u0) (hS.nB_5_3 hb_u0) ?_
    refine g_C ?_
    refine g_getr 4 (u0 + 3) rfl (hS.kB_5_0 hb_u0) (hm0.fB_5_4 hb_u0) (hS.nB_5_3 hb_u0) ?_
    refine g_ld (0) (99) (hS.kB_5_3 hb_u0) (hS.lB_5_3 hb_u0) (by omega) (by omega) (hm0.aB_5_3 hb_u0 (by omega) (by omega)) (fun v6 ev6 bv6 cv6 => ?_)
    refine g_A (by omega) (by omega) ?_
    refine g_min (fun v7 bv7 cv7 dv7 => ?_)
    refine g_st (hS.kB_5_3 hb_u0) (hS.lB_5_3 hb_u0) (by omega) (by omega) (hm0.waB_5_3 hb_u0 (by omega) (by omega) (by omega) (by omega)) (fun m8 em8 hm8 => ?_)
    exact hk m8 hm8
theorem z_X1_pass {X : Mm} {S : Sh} {m0 : Mm} {K : Int → Mm → Prop} {u1 : Int} (hS : Shp S) (hm0 : Inv X S m0) (hb_u1 : isSt u1) (hk : ∀ (r : Int) (M1 : Mm), Inv X S M1 → (-2147483648) ≤ r → r ≤ 2147483647 → K r M1) : wp_X1_pass S m0 57 u1 K := by
  refine u_X1_pass ?_
  refine g_C ?_
  refine g_C ?_
  have L_n_l1779 : ∀ (n_l1779 : Nat) (u3 : Int) (u4 : Int) (m5 : Mm), Inv X S m5 → (-2147483648) ≤ u3 → u3 ≤ 2147483647 → 0 ≤ u4 → u4 ≤ 4 → 5 - u4 ≤ (n_l1779 : Int) → wp_X1_pass_4 S K n_l1779 57 u1 u3 u4 m5 := by
    intro n_l1779
    induction n_l1779 with
    | zero => intro u3 u4 m5 hm5 bu3 cu3 bu4 cu4 zn_l1779; exfalso; omega
    | succ n_l1779 ih_n_l1779 =>
      intro u3 u4 m5 hm5 bu3 cu3 bu4 cu4 zn_l1779
      refine u_X1_pass_4 ?_
      refine g_getr 1 4 rfl hS.k57 hm5.f_57_1 (by decide) ?_
      refine g_get 5 (0) (4) rfl hS.k4 hm5.f_4_5 (fun v1780 ev1780 bv1780 cv1780 => ?_)
      refine g_if (fun w1781 => ?_) (fun w1781 => ?_)
      · refine g_C ?_
        have L_n_l1847 : ∀ (n_l1847 : Nat) (u1785 : Int) (m1786 : Mm), Inv X S m1786 → 0 ≤ u1785 → u1785 ≤ 5 → 6 - u1785 ≤ (n_l1847 : Int) → wp_X1_pass_83 S K n_l1847 57 u1 u3 u1785 m1786 := by
          intro n_l1847
          induction n_l1847 with
          | zero => intro u1785 m1786 hm1786 bu1785 cu1785 zn_l1847; exfalso; omega
          | succ n_l1847 ih_n_l1847 =>
            intro u1785 m1786 hm1786 bu1785 cu1785 zn_l1847
            refine u_X1_pass_83 ?_
            refine g_getr 1 4 rfl hS.k57 hm1786.f_57_1 (by decide) ?_
            refine g_get 4 (0) (5) rfl hS.k4 hm1786.f_4_4 (fun v1848 ev1848 bv1848 cv1848 => ?_)
            refine g_if (fun w1849 => ?_) (fun w1849 => ?_)
            · refine g_C ?_
              refine g_get 0 (0) (999) rfl (hS.kB_5_0 hb_u1) (hm1786.fB_5_0 hb_u1) (fun v1850 ev1850 bv1850 cv1850 => ?_)
              refine g_C ?_
              refine g_A (by omega) (by omega) ?_
              refine g_min (fun v1851 bv1851 cv1851 dv1851 => ?_)
              refine g_put 0 rfl (hS.kB_5_0 hb_u1) (hm1786.wB_5_0 hb_u1 (by omega) (by omega)) (fun m1852 em1852 hm1852 => ?_)
              exact hk u3 m1852 hm1852 (by omega) (by omega)
            · refine g_getr 1 4 rfl hS.k57 hm1786.f_57_1 (by decide) ?_
              refine g_getr 11 8 rfl hS.k4 hm1786.f_4_11 (by decide) ?_
              refine g_ld (0) (5) hS.k8 hS.l8 (by omega) (by omega) (hm1786.a_8 (by omega) (by omega)) (fun v1853 ev1853 bv1853 cv1853 => ?_)
              refine ⟨(hS.kB_5_0 hb_u1), ?_⟩
              refine z_X5_tire hS hm1786 hb_u1 (by omega) (by omega) (by omega) (by omega) (fun m1854 hm1854 => ?_)
              refine g_getr 3 (u1 + 2) rfl (hS.kB_5_0 hb_u1) (hm1854.fB_5_3 hb_u1) (hS.nB_5_2 hb_u1) ?_
              refine g_C ?_
              refine g_getr 3 (u1 + 2) rfl (hS.kB_5_0 hb_u1) (hm1854.fB_5_3 hb_u1) (hS.nB_5_2 hb_u1) ?_
              refine g_ld (0) (5) (hS.kB_5_2 hb_u1) (hS.lB_5_2 hb_u1) (by omega) (by omega) (hm1854.aB_5_2 hb_u1 (by omega) (by omega)) (fun v1855 ev1855 bv1855 cv1855 => ?_)
              refine g_C ?_
              refine g_S (by omega) (by omega) ?_
              refine g_max (fun v1856 bv1856 cv1856 dv1856 => ?_)
              refine g_st (hS.kB_5_2 hb_u1) (hS.lB_5_2 hb_u1) (by omega) (by omega) (hm1854.waB_5_2 hb_u1 (by omega) (by omega) (by omega) (by omega)) (fun m1857 em1857 hm1857 => ?_)
              refine g_A (by omega) (by omega) ?_
              exact ih_n_l1847 (u1785 + 1) m1857 hm1857 (by omega) (by omega) (by omega)
        exact ⟨6, L_n_l1847 6 0 m5 hm5 (by omega) (by omega) (by omega)⟩
      · refine g_getr 7 (u1 + 6) rfl (hS.kB_5_0 hb_u1) (hm5.fB_5_7 hb_u1) (hS.nB_5_6 hb_u1) ?_
        refine g_ld (0) (999) (hS.kB_5_6 hb_u1) (hS.lB_5_6 hb_u1) (by omega) (by omega) (hm5.aB_5_6 hb_u1 (by omega) (by omega)) (fun v1858 ev1858 bv1858 cv1858 => ?_)
        refine g_getr 7 (u1 + 6) rfl (hS.kB_5_0 hb_u1) (hm5.fB_5_7 hb_u1) (hS.nB_5_6 hb_u1) ?_
        refine g_C ?_
        refine ⟨hS.k57, ?_⟩
        refine z_X1_turnsIn hS hm5 hb_u1 (by omega) (by omega) (fun v1859 m1860 hm1860 bv1859 cv1859 => ?_)
        refine g_A (by omega) (by omega) ?_
        refine g_min (fun v1861 bv1861 cv1861 dv1861 => ?_)
        refine g_st (hS.kB_5_6 hb_u1) (hS.lB_5_6 hb_u1) (by omega) (by omega) (hm1860.waB_5_6 hb_u1 (by omega) (by omega) (by omega) (by omega)) (fun m1862 em1862 hm1862 => ?_)
        refine g_getr 1 4 rfl hS.k57 hm1862.f_57_1 (by decide) ?_
        refine g_get 2 (0) (99) rfl hS.k4 hm1862.f_4_2 (fun v1863 ev1863 bv1863 cv1863 => ?_)
        refine g_if (fun w1864 => ?_) (fun w1864 => ?_)
        · refine u_X1_pass_75 ?_
          refine g_A (by omega) (by omega) ?_
          exact ih_n_l1779 u3 (u4 + 1) m1862 hm1862 (by omega) (by omega) (by omega) (by omega) (by omega)
        · refine g_getr 7 (u1 + 6) rfl (hS.kB_5_0 hb_u1) (hm1862.fB_5_7 hb_u1) (hS.nB_5_6 hb_u1) ?_
          refine g_ld (0) (999) (hS.kB_5_6 hb_u1) (hS.lB_5_6 hb_u1) (by omega) (by omega) (hm1862.aB_5_6 hb_u1 (by omega) (by omega)) (fun v1865 ev1865 bv1865 cv1865 => ?_)
          have qv1865 : v1865 = v1861 := ev1865.trans ((congrFun (congrFun em1862 _) _).trans (up_ate (by omega)))
          refine g_getr 1 4 rfl hS.k57 hm1862.f_57_1 (by decide) ?_
          refine g_get 2 (0) (99) rfl hS.k4 hm1862.f_4_2 (fun v1866 ev1866 bv1866 cv1866 => ?_)
          have qv1866 : v1866 = v1863 := ev1866.trans ev1863.symm
          refine g_if (fun w1867 => ?_) (fun w1867 => ?_)
          · refine u_X1_pass_75 ?_
            refine g_A (by omega) (by omega) ?_
            exact ih_n_l1779 u3 (u4 + 1) m1862 hm1862 (by omega) (by omega) (by omega) (by omega) (by omega)
          · refine g_Aw (fun v1868 bv1868 cv1868 => ?_)
            refine u_X1_pass_75 ?_
            refine g_A (by omega) (by omega) ?_
            exact ih_n_l1779 v1868 (u4 + 1) m1862 hm1862 (by omega) (by omega) (by omega) (by omega) (by omega)
  exact ⟨5, L_n_l1779 5 0 0 m0 hm0 (by omega) (by omega) (by omega) (by omega) (by omega)⟩
theorem z_X5_become {X : Mm} {S : Sh} {m0 : Mm} {K : Mm → Prop} {u0 u1 : Int} (hS : Shp S) (hm0 : Inv X S m0) (hb_u0 : isSt u0) (hb_u1 : isSt u1) (hk : ∀ (M1 : Mm), Inv X S M1 → K M1) : wp_X5_become S m0 u0 u1 K := by
  refine u_X5_become ?_
  refine g_get 0 (0) (999) rfl (hS.kB_5_0 hb_u1) (hm0.fB_5_0 hb_u1) (fun v1 ev1 bv1 cv1 => ?_)
  refine g_put 0 rfl (hS.kB_5_0 hb_u0) (hm0.wB_5_0 hb_u0 (by omega) (by omega)) (fun m2 em2 hm2 => ?_)
  refine g_get 1 (-2147483648) (2147483647) rfl (hS.kB_5_0 hb_u1) (hm2.fB_5_1 hb_u1) (fun v3 ev3 bv3 cv3 => ?_)
  refine g_put 1 rfl (hS.kB_5_0 hb_u0) (hm2.wB_5_1 hb_u0 (by omega) (by omega)) (fun m4 em4 hm4 => ?_)
  refine g_getr 2 (u1 + 1) rfl (hS.kB_5_0 hb_u1) (hm4.fB_5_2 hb_u1) (hS.nB_5_1 hb_u1) ?_
  refine g_C ?_
  refine g_getr 2 (u0 + 1) rfl (hS.kB_5_0 hb_u0) (hm4.fB_5_2 hb_u0) (hS.nB_5_1 hb_u0) ?_
  refine g_C ?_
  refine g_C ?_
  refine g_cpy (hS.kB_5_1 hb_u1) (hS.kB_5_1 hb_u0) (hS.lB_5_1 hb_u1) (hS.lB_5_1 hb_u0) (by decide) (hm4.cpB_5_1 hb_u1 hb_u0 (by decide)) (fun m5 hm5 => ?_)
  refine g_getr 3 (u1 + 2) rfl (hS.kB_5_0 hb_u1) (hm5.fB_5_3 hb_u1) (hS.nB_5_2 hb_u1) ?_
  refine g_C ?_
  refine g_getr 3 (u0 + 2) rfl (hS.kB_5_0 hb_u0) (hm5.fB_5_3 hb_u0) (hS.nB_5_2 hb_u0) ?_
  refine g_C ?_
  refine g_C ?_
  refine g_cpy (hS.kB_5_2 hb_u1) (hS.kB_5_2 hb_u0) (hS.lB_5_2 hb_u1) (hS.lB_5_2 hb_u0) (by decide) (hm5.cpB_5_2 hb_u1 hb_u0 (by decide)) (fun m6 hm6 => ?_)
  refine g_getr 4 (u1 + 3) rfl (hS.kB_5_0 hb_u1) (hm6.fB_5_4 hb_u1) (hS.nB_5_3 hb_u1) ?_
  refine g_C ?_
  refine g_getr 4 (u0 + 3) rfl (hS.kB_5_0 hb_u0) (hm6.fB_5_4 hb_u0) (hS.nB_5_3 hb_u0) ?_
  refine g_C ?_
  refine g_C ?_
  refine g_cpy (hS.kB_5_3 hb_u1) (hS.kB_5_3 hb_u0) (hS.lB_5_3 hb_u1) (hS.lB_5_3 hb_u0) (by decide) (hm6.cpB_5_3 hb_u1 hb_u0 (by decide)) (fun m7 hm7 => ?_)
  refine g_getr 5 (u1 + 4) rfl (hS.kB_5_0 hb_u1) (hm7.fB_5_5 hb_u1) (hS.nB_5_4 hb_u1) ?_
  refine g_C ?_
  refine g_getr 5 (u0 + 4) rfl (hS.kB_5_0 hb_u0) (hm7.fB_5_5 hb_u0) (hS.nB_5_4 hb_u0) ?_
  refine g_C ?_
  refine g_C ?_
  refine g_cpy (hS.kB_5_4 hb_u1) (hS.kB_5_4 hb_u0) (hS.lB_5_4 hb_u1) (hS.lB_5_4 hb_u0) (by decide) (hm7.cpB_5_4 hb_u1 hb_u0 (by decide)) (fun m8 hm8 => ?_)
  refine g_getr 6 (u1 + 5) rfl (hS.kB_5_0 hb_u1) (hm8.fB_5_6 hb_u1) (hS.nB_5_5 hb_u1) ?_
  refine g_C ?_
  refine g_getr 6 (u0 + 5) rfl (hS.kB_5_0 hb_u0) (hm8.fB_5_6 hb_u0) (hS.nB_5_5 hb_u0) ?_
  refine g_C ?_
  refine g_C ?_
  refine g_cpy (hS.kB_5_5 hb_u1) (hS.kB_5_5 hb_u0) (hS.lB_5_5 hb_u1) (hS.lB_5_5 hb_u0) (by decide) (hm8.cpB_5_5 hb_u1 hb_u0 (by decide)) (fun m9 hm9 => ?_)
  refine g_getr 7 (u1 + 6) rfl (hS.kB_5_0 hb_u1) (hm9.fB_5_7 hb_u1) (hS.nB_5_6 hb_u1) ?_
  refine g_C ?_
  refine g_getr 7 (u0 + 6) rfl (hS.kB_5_0 hb_u0) (hm9.fB_5_7 hb_u0) (hS.nB_5_6 hb_u0) ?_
  refine g_C ?_
  refine g_C ?_
  refine g_cpy (hS.kB_5_6 hb_u1) (hS.kB_5_6 hb_u0) (hS.lB_5_6 hb_u1) (hS.lB_5_6 hb_u0) (by decide) (hm9.cpB_5_6 hb_u1 hb_u0 (by decide)) (fun m10 hm10 => ?_)
  refine g_getr 8 (u1 + 7) rfl (hS.kB_5_0 hb_u1) (hm10.fB_5_8 hb_u1) (hS.nB_5_7 hb_u1) ?_
  refine g_C ?_
  refine g_getr 8 (u0 + 7) rfl (hS.kB_5_0 hb_u0) (hm10.fB_5_8 hb_u0) (hS.nB_5_7 hb_u0) ?_
  refine g_C ?_
  refine g_C ?_
  refine g_cpy (hS.kB_5_7 hb_u1) (hS.kB_5_7 hb_u0) (hS.lB_5_7 hb_u1) (hS.lB_5_7 hb_u0) (by decide) (hm10.cpB_5_7 hb_u1 hb_u0 (by decide)) (fun m11 hm11 => ?_)
  exact hk m11 hm11
theorem z_X11_brings {X : Mm} {S : Sh} {m0 : Mm} {K : Int → Mm → Prop} {u1 u2 u3 : Int} (hS : Shp S) (hm0 : Inv X S m0) (l_u1 : (-2147483648) ≤ u1) (h_u1 : u1 ≤ 2147483647) (l_u2 : (-2147483648) ≤ u2) (h_u2 : u2 ≤ 2147483647) (l_u3 : (-2147483648) ≤ u3) (h_u3 : u3 ≤ 2147483647) (hk : ∀ (r : Int) (M1 : Mm), Inv X S M1 → (-2) ≤ r → r ≤ 999 → K r M1) : wp_X11_brings S m0 0 u1 u2 u3 K := by
  refine u_X11_brings ?_
  refine ⟨hS.k0, ?_⟩
  refine u_X11_isHand ?_
  refine g_if (fun w1 => ?_) (fun w1 => ?_)
  · refine g_C ?_
    refine ⟨by omega, ?_⟩
    refine g_ifT (by omega) ?_
    refine g_C ?_
    exact hk (-1) m0 hm0 (by omega) (by omega)
  · refine g_getr 1 3 rfl hS.k0 hm0.f_0_1 (by decide) ?_
    refine g_getr 0 4 rfl hS.k3 hm0.f_3_0 (by decide) ?_
    refine g_get 4 (0) (5) rfl hS.k4 hm0.f_4_4 (fun v2 ev2 bv2 cv2 => ?_)
    refine g_if (fun w3 => ?_) (fun w3 => ?_)
    · refine g_C ?_
      refine ⟨by omega, ?_⟩
      refine g_ifT (by omega) ?_
      refine g_C ?_
      exact hk (-1) m0 hm0 (by omega) (by omega)
    · refine g_C ?_
      refine ⟨by omega, ?_⟩
      refine g_ifF (by omega) ?_
      refine ⟨hS.k0, ?_⟩
      refine u_X11_isStandingJug ?_
      refine ⟨hS.k0, ?_⟩
      refine u_X11_isJug ?_
      refine g_if (fun w4 => ?_) (fun w4 => ?_)
      · refine g_C ?_
        refine ⟨by omega, ?_⟩
        refine g_ifT (by omega) ?_
        refine g_C ?_
        refine ⟨by omega, ?_⟩
        refine g_ifT (by omega) ?_
        refine g_C ?_
        exact hk (-1) m0 hm0 (by omega) (by omega)
      · refine g_getr 1 3 rfl hS.k0 hm0.f_0_1 (by decide) ?_
        refine g_getr 0 4 rfl hS.k3 hm0.f_3_0 (by decide) ?_
        refine g_get 5 (0) (4) rfl hS.k4 hm0.f_4_5 (fun v5 ev5 bv5 cv5 => ?_)
        refine g_if (fun w6 => ?_) (fun w6 => ?_)
        · refine g_C ?_
          refine ⟨by omega, ?_⟩
          refine g_ifT (by omega) ?_
          refine g_C ?_
          refine ⟨by omega, ?_⟩
          refine g_ifT (by omega) ?_
          refine g_C ?_
          exact hk (-1) m0 hm0 (by omega) (by omega)
        · refine g_C ?_
          refine ⟨by omega, ?_⟩
          refine g_ifF (by omega) ?_
          refine g_getr 1 3 rfl hS.k0 hm0.f_0_1 (by decide) ?_
          refine g_getr 1 16 rfl hS.k3 hm0.f_3_1 (by decide) ?_
          refine ⟨hS.k16, ?_⟩
          refine u_X5_stands ?_
          refine g_getr 5 20 rfl hS.k16 hm0.f_16_5 (by decide) ?_
          refine g_ld (-1) (5) hS.k20 hS.l20 (by omega) (by omega) (hm0.a_20 (by omega) (by omega)) (fun v7 ev7 bv7 cv7 => ?_)
          refine g_C ?_
          refine g_if (fun w8 => ?_) (fun w8 => ?_)
          · refine g_C ?_
            refine ⟨by omega, ?_⟩
            refine g_ifT (by omega) ?_
            refine g_C ?_
            refine ⟨by omega, ?_⟩
            refine g_ifT (by omega) ?_
            refine g_C ?_
            exact hk (-1) m0 hm0 (by omega) (by omega)
          · refine g_C ?_
            refine ⟨by omega, ?_⟩
            refine g_ifF (by omega) ?_
            refine g_C ?_
            refine ⟨by omega, ?_⟩
            refine g_ifF (by omega) ?_
            refine ⟨hS.k0, ?_⟩
            refine u_X11_isPlace ?_
            refine g_if (fun w9 => ?_) (fun w9 => ?_)
            · refine g_C ?_
              refine ⟨by omega, ?_⟩
              refine g_ifF (by omega) ?_
              refine g_C ?_
              exact hk (-1) m0 hm0 (by omega) (by omega)
            · refine g_getr 1 3 rfl hS.k0 hm0.f_0_1 (by decide) ?_
              refine g_getr 0 4 rfl hS.k3 hm0.f_3_0 (by decide) ?_
              refine g_get 0 (0) (6) rfl hS.k4 hm0.f_4_0 (fun v10 ev10 bv10 cv10 => ?_)
              refine g_if (fun w11 => ?_) (fun w11 => ?_)
              · refine g_C ?_
                refine ⟨by omega, ?_⟩
                refine g_ifF (by omega) ?_
                refine g_C ?_
                exact hk (-1) m0 hm0 (by omega) (by omega)
              · refine g_C ?_
                refine ⟨by omega, ?_⟩
                refine g_ifT (by omega) ?_
                refine g_getr 1 3 rfl hS.k0 hm0.f_0_1 (by decide) ?_
                refine g_getr 1 16 rfl hS.k3 hm0.f_3_1 (by decide) ?_
                refine g_getr 5 20 rfl hS.k16 hm0.f_16_5 (by decide) ?_
                refine g_ld (-1) (5) hS.k20 hS.l20 (by omega) (by omega) (hm0.a_20 (by omega) (by omega)) (fun v12 ev12 bv12 cv12 => ?_)
                have qv12 : v12 = v7 := ev12.trans ev7.symm
                refine g_getr 1 3 rfl hS.k0 hm0.f_0_1 (by decide) ?_
                refine g_getr 0 4 rfl hS.k3 hm0.f_3_0 (by decide) ?_
                refine ⟨hS.k4, ?_⟩
                refine u_X8_hasWay ?_
                refine g_getr 9 6 rfl hS.k4 hm0.f_4_9 (by decide) ?_
                refine u_X8_pair ?_
                refine g_C ?_
                refine g_M (by omega) (by omega) ?_
                refine g_A (by omega) (by omega) ?_
                refine g_ld (0) (1000) hS.k6 hS.l6 (by omega) (by omega) (hm0.a_6 (by omega) (by omega)) (fun v13 ev13 bv13 cv13 => ?_)
                refine g_C ?_
                refine g_if (fun w14 => ?_) (fun w14 => ?_)
                · refine g_C ?_
                  refine ⟨by omega, ?_⟩
                  refine g_ifF (by omega) ?_
                  refine g_C ?_
                  exact hk (-2) m0 hm0 (by omega) (by omega)
                · refine g_C ?_
                  refine ⟨by omega, ?_⟩
                  refine g_ifT (by omega) ?_
                  refine g_getr 10 55 rfl hS.k0 hm0.f_0_10 (by decide) ?_
                  refine g_getr 1 3 rfl hS.k0 hm0.f_0_1 (by decide) ?_
                  refine g_getr 1 16 rfl hS.k3 hm0.f_3_1 (by decide) ?_
                  refine g_getr 7 22 rfl hS.k16 hm0.f_16_7 (by decide) ?_
                  refine g_ld (0) (999) hS.k22 hS.l22 (by omega) (by omega) (hm0.a_22 (by omega) (by omega)) (fun v15 ev15 bv15 cv15 => ?_)
                  refine g_getr 1 3 rfl hS.k0 hm0.f_0_1 (by decide) ?_
                  refine g_getr 1 16 rfl hS.k3 hm0.f_3_1 (by decide) ?_
                  refine g_get 0 (0) (999) rfl hS.k16 hm0.f_16_0 (fun v16 ev16 bv16 cv16 => ?_)
                  refine ⟨hS.k55, ?_⟩
                  refine u_X10_suppose ?_
                  refine g_put 4 rfl hS.k55 (hm0.w_55_4 (by omega) (by omega)) (fun m17 em17 hm17 => ?_)
                  refine g_put 5 rfl hS.k55 (hm17.w_55_5 (by omega) (by omega)) (fun m18 em18 hm18 => ?_)
                  refine g_put 6 rfl hS.k55 (hm18.w_55_6 (by omega) (by omega)) (fun m19 em19 hm19 => ?_)
                  refine g_C ?_
                  refine g_put 7 rfl hS.k55 (hm19.w_55_7 (by omega) (by omega)) (fun m20 em20 hm20 => ?_)
                  refine g_put 8 rfl hS.k55 (hm20.w_55_8 (by omega) (by omega)) (fun m21 em21 hm21 => ?_)
                  refine g_C ?_
                  refine g_put 10 rfl hS.k55 (hm21.w_55_10 (by omega) (by omega)) (fun m22 em22 hm22 => ?_)
                  refine g_C ?_
                  refine g_put 11 rfl hS.k55 (hm22.w_55_11 (by omega) (by omega)) (fun m23 em23 hm23 => ?_)
                  refine g_getr 10 55 rfl hS.k0 hm23.f_0_10 (by decide) ?_
                  refine g_C ?_
                  refine g_put 10 rfl hS.k55 (hm23.w_55_10 (by omega) (by omega)) (fun m24 em24 hm24 => ?_)
                  refine g_getr 10 55 rfl hS.k0 hm24.f_0_10 (by decide) ?_
                  refine g_getr 1 3 rfl hS.k0 hm24.f_0_1 (by decide) ?_
                  refine g_getr 0 4 rfl hS.k3 hm24.f_3_0 (by decide) ?_
                  refine ⟨hS.k4, ?_⟩
                  refine u_X8_wayHours ?_
                  refine g_getr 9 6 rfl hS.k4 hm24.f_4_9 (by decide) ?_
                  refine u_X8_pair ?_
                  refine g_C ?_
                  refine g_M (by omega) (by omega) ?_
                  refine g_A (by omega) (by omega) ?_
                  refine g_ld (0) (1000) hS.k6 hS.l6 (by omega) (by omega) (hm24.a_6 (by omega) (by omega)) (fun v25 ev25 bv25 cv25 => ?_)
                  have qv25 : v25 = v13 := ev25.trans ((congrFun (congrFun em24 _) _).trans ((up_ne (by omega)).trans ((congrFun (congrFun em23 _) _).trans ((up_ne (by omega)).trans ((congrFun (congrFun em22 _) _).trans ((up_ne (by omega)).trans ((congrFun (congrFun em21 _) _).trans ((up_ne (by omega)).trans ((congrFun (congrFun em20 _) _).trans ((up_ne (by omega)).trans ((congrFun (congrFun em19 _) _).trans ((up_ne (by omega)).trans ((congrFun (congrFun em18 _) _).trans ((up_ne (by omega)).trans ((congrFun (congrFun em17 _) _).trans ((up_ne (by omega)).trans ev13.symm))))))))))))))))
                  refine ⟨hS.k55, ?_⟩
                  refine z_X10_holdFor hS hm24 (by omega) (by omega) (fun m26 hm26 => ?_)
                  refine g_getr 10 55 rfl hS.k0 hm26.f_0_10 (by decide) ?_
                  refine g_get 6 (0) (999) rfl hS.k55 hm26.f_55_6 (fun v27 ev27 bv27 cv27 => ?_)
                  exact hk v27 m26 hm26 (by omega) (by omega)
end
