section
theorem z_J6_bitCount_0f7a4 {X : Mm} {S : Sh} {m0 : Mm} {K : Int → Mm → Prop} {u0 : Int} (hS : Shp S) (hm0 : Inv X S m0) (l_u0 : 0 ≤ u0) (h_u0 : u0 ≤ 1023) (hk : ∀ (r : Int), 0 ≤ r → r ≤ 63 → K r m0) : wp_J6_bitCount_0f7a4 S m0 u0 K := by
  refine u_J6_bitCount_0f7a4 ?_
  refine g_C ?_
  refine g_o32u (fun v1 bv1 cv1 => ?_)
  refine g_C ?_
  refine g_iAndR (by omega) (by omega) (fun v2 dv2 bv2 cv2 => ?_)
  refine g_S (by omega) (by omega) ?_
  refine g_C ?_
  refine g_iAndR (by omega) (by omega) (fun v3 dv3 bv3 cv3 => ?_)
  refine g_C ?_
  refine g_o32u (fun v4 bv4 cv4 => ?_)
  refine g_C ?_
  refine g_iAndR (by omega) (by omega) (fun v5 dv5 bv5 cv5 => ?_)
  refine g_A (by omega) (by omega) ?_
  refine g_C ?_
  refine g_o32u (fun v6 bv6 cv6 => ?_)
  refine g_Aw (fun v7 bv7 cv7 => ?_)
  refine g_C ?_
  refine g_iAndR (by omega) (by omega) (fun v8 dv8 bv8 cv8 => ?_)
  refine g_C ?_
  refine g_o32u (fun v9 bv9 cv9 => ?_)
  refine g_Aw (fun v10 bv10 cv10 => ?_)
  refine g_C ?_
  refine g_o32u (fun v11 bv11 cv11 => ?_)
  refine g_Aw (fun v12 bv12 cv12 => ?_)
  refine g_C ?_
  refine g_iAndR (by omega) (by omega) (fun v13 dv13 bv13 cv13 => ?_)
  exact hk v13 (by omega) (by omega)
theorem z_J6_numberOfTrailingZeros_0f7a4 {X : Mm} {S : Sh} {m0 : Mm} {K : Int → Mm → Prop} {u0 : Int} (hS : Shp S) (hm0 : Inv X S m0) (l_u0 : 1 ≤ u0) (h_u0 : u0 ≤ 31) (hk : ∀ (r : Int), (-2147483648) ≤ r → r ≤ 2147483647 → K r m0) : wp_J6_numberOfTrailingZeros_0f7a4 S m0 u0 K := by
  refine u_J6_numberOfTrailingZeros_0f7a4 ?_
  refine g_C ?_
  refine g_o32 (fun v1 bv1 cv1 => ?_)
  refine g_C ?_
  refine g_S (by omega) (by omega) ?_
  refine g_iAndR (by omega) (by omega) (fun v2 dv2 bv2 cv2 => ?_)
  refine g_if (fun w3 => ?_) (fun w3 => ?_)
  · refine g_C ?_
    refine g_C ?_
    refine g_ifT (by omega) ?_
    refine u_J6_numberOfTrailingZeros_0f7a4_34 ?_
    refine g_C ?_
    refine g_ifT (by omega) ?_
    refine u_J6_numberOfTrailingZeros_0f7a4_49 ?_
    refine g_C ?_
    refine g_if (fun w4 => ?_) (fun w4 => ?_)
    · refine u_J6_numberOfTrailingZeros_0f7a4_62 ?_
      refine g_C ?_
      refine g_if (fun w5 => ?_) (fun w5 => ?_)
      · refine u_J6_numberOfTrailingZeros_0f7a4_74 ?_
        refine g_C ?_
        refine g_o32u (fun v6 bv6 cv6 => ?_)
        refine g_Aw (fun v7 bv7 cv7 => ?_)
        exact hk v7 (by omega) (by omega)
      · refine g_Al (3) rfl (by decide) (by decide) ?_
        refine g_C ?_
        refine g_o32u (fun v8 bv8 cv8 => ?_)
        refine u_J6_numberOfTrailingZeros_0f7a4_74 ?_
        refine g_C ?_
        refine g_o32u (fun v9 bv9 cv9 => ?_)
        refine g_Aw (fun v10 bv10 cv10 => ?_)
        exact hk v10 (by omega) (by omega)
    · refine g_Al (5) rfl (by decide) (by decide) ?_
      refine g_C ?_
      refine g_o32u (fun v11 bv11 cv11 => ?_)
      refine u_J6_numberOfTrailingZeros_0f7a4_62 ?_
      refine g_C ?_
      refine g_if (fun w12 => ?_) (fun w12 => ?_)
      · refine u_J6_numberOfTrailingZeros_0f7a4_74 ?_
        refine g_C ?_
        refine g_o32u (fun v13 bv13 cv13 => ?_)
        refine g_Aw (fun v14 bv14 cv14 => ?_)
        exact hk v14 (by omega) (by omega)
      · refine g_Al (7) rfl (by decide) (by decide) ?_
        refine g_C ?_
        refine g_o32u (fun v15 bv15 cv15 => ?_)
        refine u_J6_numberOfTrailingZeros_0f7a4_74 ?_
        refine g_C ?_
        refine g_o32u (fun v16 bv16 cv16 => ?_)
        refine g_Aw (fun v17 bv17 cv17 => ?_)
        exact hk v17 (by omega) (by omega)
  · refine g_C ?_
    refine g_iAndR (by omega) (by omega) (fun v18 dv18 bv18 cv18 => ?_)
    exact hk v18 (by omega) (by omega)
end
section
theorem z_X8_heatIn {X : Mm} {S : Sh} {m0 : Mm} {K : Int → Mm → Prop} {u1 : Int} (hS : Shp S) (hm0 : Inv X S m0) (l_u1 : 0 ≤ u1) (h_u1 : u1 ≤ 999) (hk : ∀ (r : Int), 0 ≤ r → r ≤ 20 → K r m0) : wp_X8_heatIn S m0 4 u1 K := by
  refine u_X8_heatIn ?_
  refine g_C ?_
  refine g_C ?_
  have L_n_l41 : ∀ (n_l41 : Nat) (u3 : Int) (u4 : Int), 0 ≤ u3 → u3 ≤ 20 → 0 ≤ u4 → u4 ≤ 4 → (u3 ≤ 5 * u4) → 5 - u4 ≤ (n_l41 : Int) → wp_X8_heatIn_4 S K n_l41 4 u1 u3 u4 m0 := by
    intro n_l41
    induction n_l41 with
    | zero => intro u3 u4 bu3 cu3 bu4 cu4 xn_l41_0 zn_l41; exfalso; omega
    | succ n_l41 ih_n_l41 =>
      intro u3 u4 bu3 cu3 bu4 cu4 xn_l41_0 zn_l41
      refine u_X8_heatIn_4 ?_
      refine g_get 6 (0) (4) rfl hS.k4 hm0.f_4_6 (fun v42 ev42 bv42 cv42 => ?_)
      refine g_if (fun w43 => ?_) (fun w43 => ?_)
      · exact hk u3 (by omega) (by omega)
      · refine g_getr 12 9 rfl hS.k4 hm0.f_4_12 (by decide) ?_
        refine g_ld (0) (99) hS.k9 hS.l9 (by omega) (by omega) (hm0.a_9 (by omega) (by omega)) (fun v44 ev44 bv44 cv44 => ?_)
        refine g_if (fun w45 => ?_) (fun w45 => ?_)
        · refine u_X8_heatIn_41 ?_
          refine g_A (by omega) (by omega) ?_
          exact ih_n_l41 u3 (u4 + 1) (by omega) (by omega) (by omega) (by omega) (by omega) (by omega)
        · refine g_getr 13 10 rfl hS.k4 hm0.f_4_13 (by decide) ?_
          refine g_ld (0) (99) hS.k10 hS.l10 (by omega) (by omega) (hm0.a_10 (by omega) (by omega)) (fun v46 ev46 bv46 cv46 => ?_)
          refine g_if (fun w47 => ?_) (fun w47 => ?_)
          · refine u_X8_heatIn_41 ?_
            refine g_A (by omega) (by omega) ?_
            exact ih_n_l41 u3 (u4 + 1) (by omega) (by omega) (by omega) (by omega) (by omega) (by omega)
          · refine g_getr 14 11 rfl hS.k4 hm0.f_4_14 (by decide) ?_
            refine g_ld (0) (5) hS.k11 hS.l11 (by omega) (by omega) (hm0.a_11 (by omega) (by omega)) (fun v48 ev48 bv48 cv48 => ?_)
            refine g_A (by omega) (by omega) ?_
            refine u_X8_heatIn_41 ?_
            refine g_A (by omega) (by omega) ?_
            exact ih_n_l41 (u3 + v48) (u4 + 1) (by omega) (by omega) (by omega) (by omega) (by omega) (by omega)
  exact ⟨5, L_n_l41 5 0 0 (by omega) (by omega) (by omega) (by omega) (by omega) (by omega)⟩
theorem z_X10_joined {X : Mm} {S : Sh} {m0 : Mm} {K : Int → Mm → Prop} {u0 u1 u3 : Int} (hS : Shp S) (hm0 : Inv X S m0)  (hk : ∀ (r : Int), K r m0) : wp_X10_joined S m0 u0 u1 u3 K := by
  refine u_X10_joined ?_
  refine g_if (fun w1 => ?_) (fun w1 => ?_)
  · refine g_o64 (fun v2 bv2 cv2 => ?_)
    exact hk v2
  · refine g_if (fun w3 => ?_) (fun w3 => ?_)
    · refine g_o64 (fun v4 bv4 cv4 => ?_)
      exact hk v4
    · refine g_if (fun w5 => ?_) (fun w5 => ?_)
      · refine g_cmp (fun w6 => ?_) (fun w6 => ?_) (fun w6 => ?_)
        · refine g_ifT (by omega) ?_
          refine g_C ?_
          exact hk 0
        · refine g_ifT (by omega) ?_
          refine g_C ?_
          exact hk 0
        · refine g_ifF (by omega) ?_
          refine g_C ?_
          exact hk 1
      · refine g_if (fun w7 => ?_) (fun w7 => ?_)
        · refine g_cmp (fun w8 => ?_) (fun w8 => ?_) (fun w8 => ?_)
          · refine g_ifT (by omega) ?_
            refine g_C ?_
            exact hk 0
          · refine g_ifF (by omega) ?_
            refine g_C ?_
            exact hk 1
          · refine g_ifF (by omega) ?_
            refine g_C ?_
            exact hk 1
        · refine g_if (fun w9 => ?_) (fun w9 => ?_)
          · refine g_cmp (fun w10 => ?_) (fun w10 => ?_) (fun w10 => ?_)
            · refine g_ifT (by omega) ?_
              refine g_C ?_
              exact hk 0
            · refine g_ifF (by omega) ?_
              refine g_C ?_
              exact hk 1
            · refine g_ifT (by omega) ?_
              refine g_C ?_
              exact hk 0
          · refine g_if (fun w11 => ?_) (fun w11 => ?_)
            · refine g_cmp (fun w12 => ?_) (fun w12 => ?_) (fun w12 => ?_)
              · refine g_ifF (by omega) ?_
                refine g_C ?_
                exact hk 1
              · refine g_ifF (by omega) ?_
                refine g_C ?_
                exact hk 1
              · refine g_ifT (by omega) ?_
                refine g_C ?_
                exact hk 0
            · refine g_if (fun w13 => ?_) (fun w13 => ?_)
              · refine g_cmp (fun w14 => ?_) (fun w14 => ?_) (fun w14 => ?_)
                · refine g_ifF (by omega) ?_
                  refine g_C ?_
                  exact hk 1
                · refine g_ifT (by omega) ?_
                  refine g_C ?_
                  exact hk 0
                · refine g_ifT (by omega) ?_
                  refine g_C ?_
                  exact hk 0
              · refine g_if (fun w15 => ?_) (fun w15 => ?_)
                · refine g_LSw (fun v16 bv16 cv16 => ?_)
                  exact hk v16
                · refine g_if (fun w17 => ?_) (fun w17 => ?_)
                  · refine g_LAw (fun v18 bv18 cv18 => ?_)
                    exact hk v18
                  · refine g_if (fun w19 => ?_) (fun w19 => ?_)
                    · refine g_C ?_
                      refine g_cmp (fun w20 => ?_) (fun w20 => ?_) (fun w20 => ?_)
                      · refine g_ifT (by omega) ?_
                        refine g_D64 (by omega) (fun v21 bv21 cv21 => ?_)
                        exact hk v21
                      · refine g_ifF (by omega) ?_
                        refine g_C ?_
                        exact hk 0
                      · refine g_ifT (by omega) ?_
                        refine g_D64 (by omega) (fun v22 bv22 cv22 => ?_)
                        exact hk v22
                    · refine g_if (fun w23 => ?_) (fun w23 => ?_)
                      · refine g_C ?_
                        refine g_cmp (fun w24 => ?_) (fun w24 => ?_) (fun w24 => ?_)
                        · refine g_ifT (by omega) ?_
                          refine g_D64 (by omega) (fun v25 bv25 cv25 => ?_)
                          exact hk v25
                        · refine g_ifF (by omega) ?_
                          refine g_C ?_
                          exact hk 0
                        · refine g_ifT (by omega) ?_
                          refine g_D64 (by omega) (fun v26 bv26 cv26 => ?_)
                          exact hk v26
                      · refine g_if (fun w27 => ?_) (fun w27 => ?_)
                        · refine g_LMw (fun v28 bv28 cv28 => ?_)
                          exact hk v28
                        · refine g_o64 (fun v29 bv29 cv29 => ?_)
                          exact hk v29
theorem z_X10_valueOf {X : Mm} {S : Sh} {m0 : Mm} {K : Int → Mm → Prop} {u1 : Int} (hS : Shp S) (hm0 : Inv X S m0) (l_u1 : (-11) ≤ u1) (h_u1 : u1 ≤ (-1)) (hk : ∀ (r : Int), (-2147483648) ≤ r → r ≤ 2147483647 → K r m0) : wp_X10_valueOf S m0 55 u1 K := by
  refine u_X10_valueOf ?_
  refine g_C ?_
  refine g_S (by omega) (by omega) ?_
  refine g_if (fun w1 => ?_) (fun w1 => ?_)
  · refine g_get 4 (0) (4) rfl hS.k55 hm0.f_55_4 (fun v2 ev2 bv2 cv2 => ?_)
    refine g_C ?_
    exact hk v2 (by omega) (by omega)
  · refine g_if (fun w3 => ?_) (fun w3 => ?_)
    · refine g_getr 0 4 rfl hS.k55 hm0.f_55_0 (by decide) ?_
      refine g_getr 10 7 rfl hS.k4 hm0.f_4_10 (by decide) ?_
      refine g_get 4 (0) (4) rfl hS.k55 hm0.f_55_4 (fun v4 ev4 bv4 cv4 => ?_)
      refine g_ld (0) (20) hS.k7 hS.l7 (by omega) (by omega) (hm0.a_7 (by omega) (by omega)) (fun v5 ev5 bv5 cv5 => ?_)
      refine g_C ?_
      exact hk v5 (by omega) (by omega)
    · refine g_if (fun w6 => ?_) (fun w6 => ?_)
      · refine g_get 7 (0) (99) rfl hS.k55 hm0.f_55_7 (fun v7 ev7 bv7 cv7 => ?_)
        refine g_C ?_
        exact hk v7 (by omega) (by omega)
      · refine g_if (fun w8 => ?_) (fun w8 => ?_)
        · refine g_get 5 (0) (3) rfl hS.k55 hm0.f_55_5 (fun v9 ev9 bv9 cv9 => ?_)
          refine g_C ?_
          exact hk v9 (by omega) (by omega)
        · refine g_if (fun w10 => ?_) (fun w10 => ?_)
          · refine g_get 6 (0) (999) rfl hS.k55 hm0.f_55_6 (fun v11 ev11 bv11 cv11 => ?_)
            refine g_C ?_
            exact hk v11 (by omega) (by omega)
          · refine g_if (fun w12 => ?_) (fun w12 => ?_)
            · refine g_get 9 (0) (20) rfl hS.k55 hm0.f_55_9 (fun v13 ev13 bv13 cv13 => ?_)
              refine g_C ?_
              exact hk v13 (by omega) (by omega)
            · refine g_if (fun w14 => ?_) (fun w14 => ?_)
              · refine g_get 8 (0) (999) rfl hS.k55 hm0.f_55_8 (fun v15 ev15 bv15 cv15 => ?_)
                refine g_C ?_
                exact hk v15 (by omega) (by omega)
              · refine g_if (fun w16 => ?_) (fun w16 => ?_)
                · refine g_get 10 (0) (1) rfl hS.k55 hm0.f_55_10 (fun v17 ev17 bv17 cv17 => ?_)
                  refine g_C ?_
                  exact hk v17 (by omega) (by omega)
                · refine g_if (fun w18 => ?_) (fun w18 => ?_)
                  · refine g_get 11 (-2147483648) (2147483647) rfl hS.k55 hm0.f_55_11 (fun v19 ev19 bv19 cv19 => ?_)
                    refine g_C ?_
                    exact hk v19 (by omega) (by omega)
                  · refine g_get 6 (0) (999) rfl hS.k55 hm0.f_55_6 (fun v20 ev20 bv20 cv20 => ?_)
                    refine g_getr 0 4 rfl hS.k55 hm0.f_55_0 (by decide) ?_
                    refine g_get 2 (0) (99) rfl hS.k4 hm0.f_4_2 (fun v21 ev21 bv21 cv21 => ?_)
                    refine g_if (fun w22 => ?_) (fun w22 => ?_)
                    · refine g_C ?_
                      exact hk 0 (by omega) (by omega)
                    · refine g_C ?_
                      exact hk 1 (by omega) (by omega)
theorem z_X10_sumByRule {X : Mm} {S : Sh} {m0 : Mm} {K : Int → Mm → Prop} (hS : Shp S) (hm0 : Inv X S m0)  (hk : ∀ (r : Int) (M1 : Mm), Inv X S M1 → K r M1) : wp_X10_sumByRule S m0 55 K := by
  refine u_X10_sumByRule ?_
  refine g_C ?_
  refine g_C ?_
  have L_n_l519 : ∀ (n_l519 : Nat) (u2 : Int) (u3 : Int) (m4 : Mm), Inv X S m4 → (-1) ≤ u2 → u2 ≤ 63 → 0 ≤ u3 → u3 ≤ 399 → 400 - u3 ≤ (n_l519 : Int) → wp_X10_sumByRule_4 S K n_l519 55 u2 u3 m4 := by
    intro n_l519
    induction n_l519 with
    | zero => intro u2 u3 m4 hm4 bu2 cu2 bu3 cu3 zn_l519; exfalso; omega
    | succ n_l519 ih_n_l519 =>
      intro u2 u3 m4 hm4 bu2 cu2 bu3 cu3 zn_l519
      refine u_X10_sumByRule_4 ?_
      refine g_getrow 1 rfl hS.k55 hm4.row55 (fun v520 ev520 hr_v520 => ?_)
      refine g_lenrow hr_v520 (fun v521 ev521 bv521 cv521 => ?_)
      refine g_if (fun w522 => ?_) (fun w522 => ?_)
      · refine g_C ?_
        exact hk 0 m4 hm4
      · refine g_getrow 1 rfl hS.k55 hm4.row55 (fun v523 ev523 hr_v523 => ?_)
        have qv523 : v523 = v520 := ev523.trans ev520.symm
        have qlv523 : rlen S v523 = rlen S v520 := congrArg (rlen S) qv523
        refine g_ldrow hr_v523 (by omega) (by omega) (fun v524 => ?_)
        refine g_C ?_
        refine g_if (fun w525 => ?_) (fun w525 => ?_)
        · refine g_if (fun w526 => ?_) (fun w526 => ?_)
          · refine g_C ?_
            refine g_if (fun w527 => ?_) (fun w527 => ?_)
            · refine g_C ?_
              refine g_if (fun w528 => ?_) (fun w528 => ?_)
              · refine g_C ?_
                refine g_if (fun w529 => ?_) (fun w529 => ?_)
                · refine g_C ?_
                  refine g_if (fun w530 => ?_) (fun w530 => ?_)
                  · refine g_A (by omega) (by omega) ?_
                    refine g_getr 3 56 rfl hS.k55 hm4.f_55_3 (by decide) ?_
                    refine g_getr 3 56 rfl hS.k55 hm4.f_55_3 (by decide) ?_
                    refine g_ldu hS.k56 hS.l56 (by omega) (by omega) (fun v531 ev531 => ?_)
                    refine g_getr 3 56 rfl hS.k55 hm4.f_55_3 (by decide) ?_
                    refine g_C ?_
                    refine g_A (by omega) (by omega) ?_
                    refine g_ldu hS.k56 hS.l56 (by omega) (by omega) (fun v532 ev532 => ?_)
                    refine z_X10_joined hS hm4 (fun v533 => ?_)
                    refine g_st hS.k56 hS.l56 (by omega) (by omega) (hm4.wa_56 (by omega) (by omega)) (fun m534 em534 hm534 => ?_)
                    refine u_X10_sumByRule_170 ?_
                    refine g_A (by omega) (by omega) ?_
                    exact ih_n_l519 (u2 + (-1)) (u3 + 1) m534 hm534 (by omega) (by omega) (by omega) (by omega) (by omega)
                  · refine g_getr 3 56 rfl hS.k55 hm4.f_55_3 (by decide) ?_
                    refine g_ldu hS.k56 hS.l56 (by omega) (by omega) (fun v535 ev535 => ?_)
                    refine g_C ?_
                    refine g_cmp (fun w536 => ?_) (fun w536 => ?_) (fun w536 => ?_)
                    · refine g_ifF (by omega) ?_
                      refine g_getr 3 56 rfl hS.k55 hm4.f_55_3 (by decide) ?_
                      refine g_C ?_
                      refine g_S (by omega) (by omega) ?_
                      refine g_ldu hS.k56 hS.l56 (by omega) (by omega) (fun v537 ev537 => ?_)
                      exact hk v537 m4 hm4
                    · refine g_ifT (by omega) ?_
                      refine g_A (by omega) (by omega) ?_
                      refine u_X10_sumByRule_170 ?_
                      refine g_A (by omega) (by omega) ?_
                      exact ih_n_l519 (u2 + (-2)) (u3 + 1) m4 hm4 (by omega) (by omega) (by omega) (by omega) (by omega)
                    · refine g_ifF (by omega) ?_
                      refine g_getr 3 56 rfl hS.k55 hm4.f_55_3 (by decide) ?_
                      refine g_C ?_
                      refine g_S (by omega) (by omega) ?_
                      refine g_ldu hS.k56 hS.l56 (by omega) (by omega) (fun v538 ev538 => ?_)
                      exact hk v538 m4 hm4
                · refine g_C ?_
                  exact hk 0 m4 hm4
              · refine g_getr 3 56 rfl hS.k55 hm4.f_55_3 (by decide) ?_
                refine g_C ?_
                refine g_getr 3 56 rfl hS.k55 hm4.f_55_3 (by decide) ?_
                refine g_ldu hS.k56 hS.l56 (by omega) (by omega) (fun v539 ev539 => ?_)
                refine g_LSw (fun v540 bv540 cv540 => ?_)
                refine g_st hS.k56 hS.l56 (by omega) (by omega) (hm4.wa_56 (by omega) (by omega)) (fun m541 em541 hm541 => ?_)
                refine u_X10_sumByRule_170 ?_
                refine g_A (by omega) (by omega) ?_
                exact ih_n_l519 u2 (u3 + 1) m541 hm541 (by omega) (by omega) (by omega) (by omega) (by omega)
            · refine g_getr 3 56 rfl hS.k55 hm4.f_55_3 (by decide) ?_
              refine g_ldu hS.k56 hS.l56 (by omega) (by omega) (fun v542 ev542 => ?_)
              exact hk v542 m4 hm4
          · refine g_C ?_
            exact hk 0 m4 hm4
        · refine g_C ?_
          refine g_A (by omega) (by omega) ?_
          refine g_C ?_
          refine g_if (fun w543 => ?_) (fun w543 => ?_)
          · refine g_A (by omega) (by omega) ?_
            refine g_getr 3 56 rfl hS.k55 hm4.f_55_3 (by decide) ?_
            refine g_if (fun w544 => ?_) (fun w544 => ?_)
            · refine ⟨hS.k55, ?_⟩
              refine z_X10_valueOf hS hm4 (by omega) (by omega) (fun v545 bv545 cv545 => ?_)
              refine u_X10_sumByRule_58 ?_
              refine g_st hS.k56 hS.l56 (by omega) (by omega) (hm4.wa_56 (by omega) (by omega)) (fun m546 em546 hm546 => ?_)
              refine u_X10_sumByRule_170 ?_
              refine g_A (by omega) (by omega) ?_
              exact ih_n_l519 (u2 + 1) (u3 + 1) m546 hm546 (by omega) (by omega) (by omega) (by omega) (by omega)
            · refine g_C ?_
              refine u_X10_sumByRule_58 ?_
              refine g_st hS.k56 hS.l56 (by omega) (by omega) (hm4.wa_56 (by omega) (by omega)) (fun m547 em547 hm547 => ?_)
              refine u_X10_sumByRule_170 ?_
              refine g_A (by omega) (by omega) ?_
              exact ih_n_l519 (u2 + 1) (u3 + 1) m547 hm547 (by omega) (by omega) (by omega) (by omega) (by omega)
          · refine g_C ?_
            exact hk 0 m4 hm4
  exact ⟨400, L_n_l519 400 (-1) 0 m0 hm0 (by omega) (by omega) (by omega) (by omega) (by omega)⟩
theorem z_X10_turns {X : Mm} {S : Sh} {m0 : Mm} {K : Int → Mm → Prop} (hS : Shp S) (hm0 : Inv X S m0)  (hk : ∀ (r : Int) (M1 : Mm), Inv X S M1 → 0 ≤ r → r ≤ 64 → K r M1) : wp_X10_turns S m0 55 K := by
  refine u_X10_turns ?_
  refine g_get 8 (0) (999) rfl hS.k55 hm0.f_55_8 (fun v1 ev1 bv1 cv1 => ?_)
  refine ⟨hS.k55, ?_⟩
  refine u_X10_heatIn ?_
  refine g_get 2 (0) (1) rfl hS.k55 hm0.f_55_2 (fun v2 ev2 bv2 cv2 => ?_)
  refine g_if (fun w3 => ?_) (fun w3 => ?_)
  · refine g_getr 0 4 rfl hS.k55 hm0.f_55_0 (by decide) ?_
    refine ⟨hS.k4, ?_⟩
    refine z_X8_heatIn hS hm0 (by omega) (by omega) (fun v4 bv4 cv4 => ?_)
    refine g_put 9 rfl hS.k55 (hm0.w_55_9 (by omega) (by omega)) (fun m5 em5 hm5 => ?_)
    refine g_getrow 1 rfl hS.k55 hm5.row55 (fun v6 ev6 hr_v6 => ?_)
    refine g_lenrow hr_v6 (fun v7 ev7 bv7 cv7 => ?_)
    refine g_if (fun w8 => ?_) (fun w8 => ?_)
    · refine g_C ?_
      refine g_C ?_
      refine ⟨hS.k55, ?_⟩
      refine z_X10_sumByRule hS hm5 (fun v9 m10 hm10 => ?_)
      refine g_min (fun v11 bv11 cv11 dv11 => ?_)
      refine g_max (fun v12 bv12 cv12 dv12 => ?_)
      refine g_w32 (by omega) (by omega) ?_
      exact hk v12 m10 hm10 (by omega) (by omega)
    · refine g_getr 0 4 rfl hS.k55 hm5.f_55_0 (by decide) ?_
      refine g_getr 10 7 rfl hS.k4 hm5.f_4_10 (by decide) ?_
      refine g_get 4 (0) (4) rfl hS.k55 hm5.f_55_4 (fun v14 ev14 bv14 cv14 => ?_)
      refine g_ld (0) (20) hS.k7 hS.l7 (by omega) (by omega) (hm5.a_7 (by omega) (by omega)) (fun v15 ev15 bv15 cv15 => ?_)
      refine g_get 7 (0) (99) rfl hS.k55 hm5.f_55_7 (fun v16 ev16 bv16 cv16 => ?_)
      refine g_C ?_
      refine g_iDivc (d := 4) (by omega) (by omega) (by decide) (fun v17 bv17 cv17 => ?_)
      refine g_A (by omega) (by omega) ?_
      refine g_get 9 (0) (20) rfl hS.k55 hm5.f_55_9 (fun v18 ev18 bv18 cv18 => ?_)
      have qv18 : v18 = v4 := ev18.trans ((congrFun (congrFun em5 _) _).trans (up_ate (by omega)))
      refine g_A (by omega) (by omega) ?_
      exact hk ((v15 + v17) + v18) m5 hm5 (by omega) (by omega)
  · refine g_C ?_
    refine g_put 9 rfl hS.k55 (hm0.w_55_9 (by omega) (by omega)) (fun m19 em19 hm19 => ?_)
    refine g_getrow 1 rfl hS.k55 hm19.row55 (fun v20 ev20 hr_v20 => ?_)
    refine g_lenrow hr_v20 (fun v21 ev21 bv21 cv21 => ?_)
    refine g_if (fun w22 => ?_) (fun w22 => ?_)
    · refine g_C ?_
      refine g_C ?_
      refine ⟨hS.k55, ?_⟩
      refine z_X10_sumByRule hS hm19 (fun v23 m24 hm24 => ?_)
      refine g_min (fun v25 bv25 cv25 dv25 => ?_)
      refine g_max (fun v26 bv26 cv26 dv26 => ?_)
      refine g_w32 (by omega) (by omega) ?_
      exact hk v26 m24 hm24 (by omega) (by omega)
    · refine g_getr 0 4 rfl hS.k55 hm19.f_55_0 (by decide) ?_
      refine g_getr 10 7 rfl hS.k4 hm19.f_4_10 (by decide) ?_
      refine g_get 4 (0) (4) rfl hS.k55 hm19.f_55_4 (fun v28 ev28 bv28 cv28 => ?_)
      refine g_ld (0) (20) hS.k7 hS.l7 (by omega) (by omega) (hm19.a_7 (by omega) (by omega)) (fun v29 ev29 bv29 cv29 => ?_)
      refine g_get 7 (0) (99) rfl hS.k55 hm19.f_55_7 (fun v30 ev30 bv30 cv30 => ?_)
      refine g_C ?_
      refine g_iDivc (d := 4) (by omega) (by omega) (by decide) (fun v31 bv31 cv31 => ?_)
      refine g_A (by omega) (by omega) ?_
      refine g_get 9 (0) (20) rfl hS.k55 hm19.f_55_9 (fun v32 ev32 bv32 cv32 => ?_)
      have qv32 : v32 = 0 := ev32.trans ((congrFun (congrFun em19 _) _).trans (up_ate (by omega)))
      refine g_A (by omega) (by omega) ?_
      exact hk ((v29 + v31) + v32) m19 hm19 (by omega) (by omega)
theorem z_X10_holdFor {X : Mm} {S : Sh} {m0 : Mm} {K : Mm → Prop} {u1 : Int} (hS : Shp S) (hm0 : Inv X S m0) (l_u1 : 0 ≤ u1) (h_u1 : u1 ≤ 999) (hk : ∀ (M1 : Mm), Inv X S M1 → K M1) : wp_X10_holdFor S m0 55 u1 K := by
  refine u_X10_holdFor ?_
  refine g_C ?_
  have L_n_l271 : ∀ (n_l271 : Nat) (u3 : Int) (m4 : Mm), Inv X S m4 → 0 ≤ u3 → u3 ≤ 999 → 1000 - u3 ≤ (n_l271 : Int) → wp_X10_holdFor_2 S K n_l271 55 u1 u3 m4 := by
    intro n_l271
    induction n_l271 with
    | zero => intro u3 m4 hm4 bu3 cu3 zn_l271; exfalso; omega
    | succ n_l271 ih_n_l271 =>
      intro u3 m4 hm4 bu3 cu3 zn_l271
      refine u_X10_holdFor_2 ?_
      refine g_if (fun w272 => ?_) (fun w272 => ?_)
      · exact hk m4 hm4
      · refine g_C ?_
        refine g_get 6 (0) (999) rfl hS.k55 hm4.f_55_6 (fun v273 ev273 bv273 cv273 => ?_)
        refine ⟨hS.k55, ?_⟩
        refine z_X10_turns hS hm4 (fun v274 m275 hm275 bv274 cv274 => ?_)
        refine g_A (by omega) (by omega) ?_
        refine g_min (fun v276 bv276 cv276 dv276 => ?_)
        refine g_put 6 rfl hS.k55 (hm275.w_55_6 (by omega) (by omega)) (fun m277 em277 hm277 => ?_)
        refine g_C ?_
        refine g_get 7 (0) (99) rfl hS.k55 hm277.f_55_7 (fun v278 ev278 bv278 cv278 => ?_)
        refine g_getr 0 4 rfl hS.k55 hm277.f_55_0 (by decide) ?_
        refine g_getr 11 8 rfl hS.k4 hm277.f_4_11 (by decide) ?_
        refine g_get 4 (0) (4) rfl hS.k55 hm277.f_55_4 (fun v279 ev279 bv279 cv279 => ?_)
        refine g_ld (0) (5) hS.k8 hS.l8 (by omega) (by omega) (hm277.a_8 (by omega) (by omega)) (fun v280 ev280 bv280 cv280 => ?_)
        refine g_A (by omega) (by omega) ?_
        refine g_min (fun v281 bv281 cv281 dv281 => ?_)
        refine g_put 7 rfl hS.k55 (hm277.w_55_7 (by omega) (by omega)) (fun m282 em282 hm282 => ?_)
        refine g_C ?_
        refine g_get 8 (0) (999) rfl hS.k55 hm282.f_55_8 (fun v283 ev283 bv283 cv283 => ?_)
        refine g_C ?_
        refine g_A (by omega) (by omega) ?_
        refine g_min (fun v284 bv284 cv284 dv284 => ?_)
        refine g_put 8 rfl hS.k55 (hm282.w_55_8 (by omega) (by omega)) (fun m285 em285 hm285 => ?_)
        refine g_A (by omega) (by omega) ?_
        exact ih_n_l271 (u3 + 1) m285 hm285 (by omega) (by omega) (by omega)
  exact ⟨1000, L_n_l271 1000 0 m0 hm0 (by omega) (by omega) (by omega)⟩
theorem z_X5_heldBits {X : Mm} {S : Sh} {m0 : Mm} {K : Int → Mm → Prop} {u0 u1 : Int} (hS : Shp S) (hm0 : Inv X S m0) (hb_u0 : isSt u0) (l_u1 : 0 ≤ u1) (h_u1 : u1 ≤ 4) (hk : ∀ (r : Int), 0 ≤ r → r ≤ 15 → K r m0) : wp_X5_heldBits S m0 u0 u1 K := by
  refine u_X5_heldBits ?_
  refine g_C ?_
  refine g_C ?_
  have L_n_l27 : ∀ (n_l27 : Nat) (u3 : Int) (u4 : Int), 0 ≤ u3 → u3 ≤ 15 → 0 ≤ u4 → u4 ≤ 4 → 5 - u4 ≤ (n_l27 : Int) → wp_X5_heldBits_4 S K n_l27 u0 u1 u3 u4 m0 := by
    intro n_l27
    induction n_l27 with
    | zero => intro u3 u4 bu3 cu3 bu4 cu4 zn_l27; exfalso; omega
    | succ n_l27 ih_n_l27 =>
      intro u3 u4 bu3 cu3 bu4 cu4 zn_l27
      refine u_X5_heldBits_4 ?_
      refine g_C ?_
      refine g_if (fun w28 => ?_) (fun w28 => ?_)
      · exact hk u3 (by omega) (by omega)
      · refine g_getr 6 (u0 + 5) rfl (hS.kB_5_0 hb_u0) (hm0.fB_5_6 hb_u0) (hS.nB_5_5 hb_u0) ?_
        refine g_ld (-1) (4) (hS.kB_5_5 hb_u0) (hS.lB_5_5 hb_u0) (by omega) (by omega) (hm0.aB_5_5 hb_u0 (by omega) (by omega)) (fun v29 ev29 bv29 cv29 => ?_)
        refine g_if (fun w30 => ?_) (fun w30 => ?_)
        · refine u_X5_heldBits_25 ?_
          refine g_A (by omega) (by omega) ?_
          exact ih_n_l27 u3 (u4 + 1) (by omega) (by omega) (by omega) (by omega) (by omega)
        · refine g_C ?_
          refine g_iShl 3 (by omega) (by omega) (by decide) (fun v31 bv31 cv31 => ?_)
          refine g_iOr 4 (by omega) (by omega) (by omega) (by omega) (by decide) (fun v32 bv32 cv32 => ?_)
          refine u_X5_heldBits_25 ?_
          refine g_A (by omega) (by omega) ?_
          exact ih_n_l27 v32 (u4 + 1) (by omega) (by omega) (by omega) (by omega) (by omega)
  exact ⟨5, L_n_l27 5 0 0 (by omega) (by omega) (by omega) (by omega) (by omega)⟩
theorem z_X10_see {X : Mm} {S : Sh} {m0 : Mm} {K : Mm → Prop} {u1 u2 u3 : Int} (hS : Shp S) (hm0 : Inv X S m0) (hb_u1 : isSt u1) (l_u2 : 0 ≤ u2) (h_u2 : u2 ≤ 4) (l_u3 : 0 ≤ u3) (h_u3 : u3 ≤ 3) (hk : ∀ (M1 : Mm), Inv X S M1 → K M1) : wp_X10_see S m0 55 u1 u2 u3 K := by
  refine u_X10_see ?_
  refine g_put 4 rfl hS.k55 (hm0.w_55_4 (by omega) (by omega)) (fun m1 em1 hm1 => ?_)
  refine g_put 5 rfl hS.k55 (hm1.w_55_5 (by omega) (by omega)) (fun m2 em2 hm2 => ?_)
  refine g_getr 7 (u1 + 6) rfl (hS.kB_5_0 hb_u1) (hm2.fB_5_7 hb_u1) (hS.nB_5_6 hb_u1) ?_
  refine g_ld (0) (999) (hS.kB_5_6 hb_u1) (hS.lB_5_6 hb_u1) (by omega) (by omega) (hm2.aB_5_6 hb_u1 (by omega) (by omega)) (fun v3 ev3 bv3 cv3 => ?_)
  refine g_put 6 rfl hS.k55 (hm2.w_55_6 (by omega) (by omega)) (fun m4 em4 hm4 => ?_)
  refine g_getr 4 (u1 + 3) rfl (hS.kB_5_0 hb_u1) (hm4.fB_5_4 hb_u1) (hS.nB_5_3 hb_u1) ?_
  refine g_ld (0) (99) (hS.kB_5_3 hb_u1) (hS.lB_5_3 hb_u1) (by omega) (by omega) (hm4.aB_5_3 hb_u1 (by omega) (by omega)) (fun v5 ev5 bv5 cv5 => ?_)
  refine g_put 7 rfl hS.k55 (hm4.w_55_7 (by omega) (by omega)) (fun m6 em6 hm6 => ?_)
  refine g_get 0 (0) (999) rfl (hS.kB_5_0 hb_u1) (hm6.fB_5_0 hb_u1) (fun v7 ev7 bv7 cv7 => ?_)
  refine g_put 8 rfl hS.k55 (hm6.w_55_8 (by omega) (by omega)) (fun m8 em8 hm8 => ?_)
  refine ⟨(hS.kB_5_0 hb_u1), ?_⟩
  refine u_X5_isAtPlace ?_
  refine g_getr 3 (u1 + 2) rfl (hS.kB_5_0 hb_u1) (hm8.fB_5_3 hb_u1) (hS.nB_5_2 hb_u1) ?_
  refine g_ld (0) (5) (hS.kB_5_2 hb_u1) (hS.lB_5_2 hb_u1) (by omega) (by omega) (hm8.aB_5_2 hb_u1 (by omega) (by omega)) (fun v9 ev9 bv9 cv9 => ?_)
  refine g_if (fun w10 => ?_) (fun w10 => ?_)
  · refine g_C ?_
    refine ⟨by omega, ?_⟩
    refine g_ifT (by omega) ?_
    refine g_C ?_
    refine u_X10_see_52 ?_
    refine g_put 10 rfl hS.k55 (hm8.w_55_10 (by omega) (by omega)) (fun m11 em11 hm11 => ?_)
    refine ⟨(hS.kB_5_0 hb_u1), ?_⟩
    refine u_X5_howManyHeld ?_
    refine ⟨(hS.kB_5_0 hb_u1), ?_⟩
    refine z_X5_heldBits hS hm11 hb_u1 (by omega) (by omega) (fun v12 bv12 cv12 => ?_)
    refine z_J6_bitCount_0f7a4 hS hm11 (by omega) (by omega) (fun v13 bv13 cv13 => ?_)
    refine g_put 11 rfl hS.k55 (hm11.w_55_11 (by omega) (by omega)) (fun m14 em14 hm14 => ?_)
    exact hk m14 hm14
  · refine g_C ?_
    refine ⟨by omega, ?_⟩
    refine g_ifF (by omega) ?_
    refine g_C ?_
    refine u_X10_see_52 ?_
    refine g_put 10 rfl hS.k55 (hm8.w_55_10 (by omega) (by omega)) (fun m15 em15 hm15 => ?_)
    refine ⟨(hS.kB_5_0 hb_u1), ?_⟩
    refine u_X5_howManyHeld ?_
    refine ⟨(hS.kB_5_0 hb_u1), ?_⟩
    refine z_X5_heldBits hS hm15 hb_u1 (by omega) (by omega) (fun v16 bv16 cv16 => ?_)
    refine z_J6_bitCount_0f7a4 hS hm15 (by omega) (by omega) (fun v17 bv17 cv17 => ?_)
    refine g_put 11 rfl hS.k55 (hm15.w_55_11 (by omega) (by omega)) (fun m18 em18 hm18 => ?_)
    exact hk m18 hm18
end
section
theorem z_X1_turnsIn {X : Mm} {S : Sh} {m0 : Mm} {K : Int → Mm → Prop} {u1 u2 : Int} (hS : Shp S) (hm0 : Inv X S m0) (hb_u1 : isSt u1) (l_u2 : 0 ≤ u2) (h_u2 : u2 ≤ 3) (hk : ∀ (r : Int) (M1 : Mm), Inv X S M1 → 0 ≤ r → r ≤ 64 → K r M1) : wp_X1_turnsIn S m0 57 u1 u2 K := by
  refine u_X1_turnsIn ?_
  refine ⟨(hS.kB_5_0 hb_u1), ?_⟩
  refine u_X5_stands ?_
  refine g_getr 5 (u1 + 4) rfl (hS.kB_5_0 hb_u1) (hm0.fB_5_5 hb_u1) (hS.nB_5_4 hb_u1) ?_
  refine g_ld (-1) (5) (hS.kB_5_4 hb_u1) (hS.lB_5_4 hb_u1) (by omega) (by omega) (hm0.aB_5_4 hb_u1 (by omega) (by omega)) (fun v1 ev1 bv1 cv1 => ?_)
  refine g_C ?_
  refine g_if (fun w2 => ?_) (fun w2 => ?_)
  · refine g_C ?_
    refine ⟨by omega, ?_⟩
    refine g_ifT (by omega) ?_
    refine ⟨(hS.kB_5_0 hb_u1), ?_⟩
    refine u_X5_isGone ?_
    refine g_getr 5 (u1 + 4) rfl (hS.kB_5_0 hb_u1) (hm0.fB_5_5 hb_u1) (hS.nB_5_4 hb_u1) ?_
    refine g_ld (-1) (5) (hS.kB_5_4 hb_u1) (hS.lB_5_4 hb_u1) (by omega) (by omega) (hm0.aB_5_4 hb_u1 (by omega) (by omega)) (fun v3 ev3 bv3 cv3 => ?_)
    have qv3 : v3 = v1 := ev3.trans ev1.symm
    refine g_C ?_
    refine g_ifF (by omega) ?_
    refine g_getr 6 (u1 + 5) rfl (hS.kB_5_0 hb_u1) (hm0.fB_5_6 hb_u1) (hS.nB_5_5 hb_u1) ?_
    refine g_ld (-1) (4) (hS.kB_5_5 hb_u1) (hS.lB_5_5 hb_u1) (by omega) (by omega) (hm0.aB_5_5 hb_u1 (by omega) (by omega)) (fun v4 ev4 bv4 cv4 => ?_)
    refine g_C ?_
    refine g_if (fun w5 => ?_) (fun w5 => ?_)
    · refine g_C ?_
      refine ⟨by omega, ?_⟩
      refine g_ifT (by omega) ?_
      refine g_getr 0 55 rfl hS.k57 hm0.f_57_0 (by decide) ?_
      refine g_getr 6 (u1 + 5) rfl (hS.kB_5_0 hb_u1) (hm0.fB_5_6 hb_u1) (hS.nB_5_5 hb_u1) ?_
      refine g_ld (-1) (4) (hS.kB_5_5 hb_u1) (hS.lB_5_5 hb_u1) (by omega) (by omega) (hm0.aB_5_5 hb_u1 (by omega) (by omega)) (fun v6 ev6 bv6 cv6 => ?_)
      have qv6 : v6 = v4 := ev6.trans ev4.symm
      refine ⟨hS.k55, ?_⟩
      refine z_X10_see hS hm0 hb_u1 (by omega) (by omega) (by omega) (by omega) (fun m7 hm7 => ?_)
      refine g_getr 0 55 rfl hS.k57 hm7.f_57_0 (by decide) ?_
      refine ⟨hS.k55, ?_⟩
      refine z_X10_turns hS hm7 (fun v8 m9 hm9 bv8 cv8 => ?_)
      exact hk v8 m9 hm9 (by omega) (by omega)
    · refine g_C ?_
      refine ⟨by omega, ?_⟩
      refine g_ifF (by omega) ?_
      refine g_C ?_
      exact hk 0 m0 hm0 (by omega) (by omega)
  · refine g_C ?_
    refine ⟨by omega, ?_⟩
    refine g_ifF (by omega) ?_
    refine g_getr 1 4 rfl hS.k57 hm0.f_57_1 (by decide) ?_
    refine g_get 1 (0) (9) rfl hS.k4 hm0.f_4_1 (fun v10 ev10 bv10 cv10 => ?_)
    refine g_getr 0 55 rfl hS.k57 hm0.f_57_0 (by decide) ?_
    refine g_get 0 (0) (999) rfl (hS.kB_5_0 hb_u1) (hm0.fB_5_0 hb_u1) (fun v11 ev11 bv11 cv11 => ?_)
    refine ⟨hS.k55, ?_⟩
    refine u_X10_heatIn ?_
    refine g_get 2 (0) (1) rfl hS.k55 hm0.f_55_2 (fun v12 ev12 bv12 cv12 => ?_)
    refine g_if (fun w13 => ?_) (fun w13 => ?_)
    · refine g_getr 0 4 rfl hS.k55 hm0.f_55_0 (by decide) ?_
      refine ⟨hS.k4, ?_⟩
      refine z_X8_heatIn hS hm0 (by omega) (by omega) (fun v14 bv14 cv14 => ?_)
      refine g_A (by omega) (by omega) ?_
      exact hk (v10 + v14) m0 hm0 (by omega) (by omega)
    · refine g_C ?_
      refine g_A (by omega) (by omega) ?_
      exact hk (v10 + 0) m0 hm0 (by omega) (by omega)
theorem z_X5_tire {X : Mm} {S : Sh} {m0 : Mm} {K : Mm → Prop} {u0 u1 u2 : Int} (hS : Shp S) (hm0 : Inv X S m0) (hb_u0 : isSt u0) (l_u1 : 0 ≤ u1) (h_u1 : u1 ≤ 4) (l_u2 : 0 ≤ u2) (h_u2 : u2 ≤ 5) (hk : ∀ (M1 : Mm), Inv X S M1 → K M1) : wp_X5_tire S m0 u0 u1 u2 K := by
  refine u_X5_tire ?_
  refine ⟨(hS.kB_5_0 hb_u0), ?_⟩
  refine z_X5_heldBits hS hm0 hb_u0 (by omega) (by omega) (fun v1 bv1 cv1 => ?_)
  refine g_if (fun w2 => ?_) (fun w2 => ?_)
  · refine g_getr 4 (u0 + 3) rfl (hS.kB_5_0 hb_u0) (hm0.fB_5_4 hb_u0) (hS.nB_5_3 hb_u0) ?_
    refine g_C ?_
    refine g_getr 4 (u0 + 3) rfl (hS.kB_5_0 hb_u0) (hm0.fB_5_4 hb_u0) (hS.nB_5_3 hb_u0) ?_
    refine g_ld (0) (99) (hS.kB_5_3 hb_u0) (hS.lB_5_3 hb_u0) (by omega) (by omega) (hm0.aB_5_3 hb_u0 (by omega) (by omega)) (fun v3 ev3 bv3 cv3 => ?_)
    refine g_C ?_
    refine g_S (by omega) (by omega) ?_
    refine g_max (fun v4 bv4 cv4 dv4 => ?_)
    refine g_st (hS.kB_5_3 hb_u0) (hS.lB_5_3 hb_u0) (by omega) (by omega) (hm0.waB_5_3 hb_u0 (by omega) (by omega) (by omega) (by omega)) (fun m5 em5 hm5 => ?_)
    exact hk m5 hm5
  · refine g_getr 4 (u0 + 3) rfl (hS.kB_5_0 hb_u0) (hm0.fB_5_4 hb_u0) (hS.nB_5_3 hb_u0) ?_
    refine g_C ?_
    refine g_getr 4 (u0 + 3) rfl (hS.kB_5_0 hb_u0) (hm0.fB_5_4 hb_u0) (hS.nB_5_3 hb_u0) ?_
    refine g_ld (0) (99) (hS.kB_5_3 hb_u0) (hS.lB_5_3 hb_u0) (by omega) (by omega) (hm0.aB_5_3 hb_u0 (by omega) (by omega)) (fun v6 ev6 bv6 cv6 => ?_)
    refine g_A (by omega) (by omega) ?_
    refine g_min (fun v7 bv7 cv7 dv7 => ?_)
    refine g_st (hS.kB_5_3 hb_u0) (hS.lB_5_3 hb_u0) (by omega) (by omega) (hm0.waB_5_3 hb_u0 (by omega) (by omega) (by omega) (by omega)) (fun m8 em8 hm8 => ?_)
    exact hk m8 hm8
theorem z_X1_pass {X : Mm} {S : Sh} {m0 : Mm} {K : Int → Mm → Prop} {u1 : Int} (hS : Shp S) (hm0 : Inv X S m0) (hb_u1 : isSt u1) (hk : ∀ (r : Int) (M1 : Mm), Inv X S M1 → (-2147483648) ≤ r → r ≤ 2147483647 → K r M1) : wp_X1_pass S m0 57 u1 K := by
  refine u_X1_pass ?_
  refine g_C ?_
  refine g_C ?_
  have L_n_l1779 : ∀ (n_l1779 : Nat) (u3 : Int) (u4 : Int) (m5 : Mm), Inv X S m5 → (-2147483648) ≤ u3 → u3 ≤ 2147483647 → 0 ≤ u4 → u4 ≤ 4 → 5 - u4 ≤ (n_l1779 : Int) → wp_X1_pass_4 S K n_l1779 57 u1 u3 u4 m5 := by
    intro n_l1779
    induction n_l1779 with
    | zero => intro u3 u4 m5 hm5 bu3 cu3 bu4 cu4 zn_l1779; exfalso; omega
    | succ n_l1779 ih_n_l1779 =>
      intro u3 u4 m5 hm5 bu3 cu3 bu4 cu4 zn_l1779
      refine u_X1_pass_4 ?_
      refine g_getr 1 4 rfl hS.k57 hm5.f_57_1 (by decide) ?_
      refine g_get 5 (0) (4) rfl hS.k4 hm5.f_4_5 (fun v1780 ev1780 bv1780 cv1780 => ?_)
      refine g_if (fun w1781 => ?_) (fun w1781 => ?_)
      · refine g_C ?_
        have L_n_l1847 : ∀ (n_l1847 : Nat) (u1785 : Int) (m1786 : Mm), Inv X S m1786 → 0 ≤ u1785 → u1785 ≤ 5 → 6 - u1785 ≤ (n_l1847 : Int) → wp_X1_pass_83 S K n_l1847 57 u1 u3 u1785 m1786 := by
          intro n_l1847
          induction n_l1847 with
          | zero => intro u1785 m1786 hm1786 bu1785 cu1785 zn_l1847; exfalso; omega
          | succ n_l1847 ih_n_l1847 =>
            intro u1785 m1786 hm1786 bu1785 cu1785 zn_l1847
            refine u_X1_pass_83 ?_
            refine g_getr 1 4 rfl hS.k57 hm1786.f_57_1 (by decide) ?_
            refine g_get 4 (0) (5) rfl hS.k4 hm1786.f_4_4 (fun v1848 ev1848 bv1848 cv1848 => ?_)
            refine g_if (fun w1849 => ?_) (fun w1849 => ?_)
            · refine g_C ?_
              refine g_get 0 (0) (999) rfl (hS.kB_5_0 hb_u1) (hm1786.fB_5_0 hb_u1) (fun v1850 ev1850 bv1850 cv1850 => ?_)
              refine g_C ?_
              refine g_A (by omega) (by omega) ?_
              refine g_min (fun v1851 bv1851 cv1851 dv1851 => ?_)
              refine g_put 0 rfl (hS.kB_5_0 hb_u1) (hm1786.wB_5_0 hb_u1 (by omega) (by omega)) (fun m1852 em1852 hm1852 => ?_)
              exact hk u3 m1852 hm1852 (by omega) (by omega)
            · refine g_getr 1 4 rfl hS.k57 hm1786.f_57_1 (by decide) ?_
              refine g_getr 11 8 rfl hS.k4 hm1786.f_4_11 (by decide) ?_
              refine g_ld (0) (5) hS.k8 hS.l8 (by omega) (by omega) (hm1786.a_8 (by omega) (by omega)) (fun v1853 ev1853 bv1853 cv1853 => ?_)
              refine ⟨(hS.kB_5_0 hb_u1), ?_⟩
              refine z_X5_tire hS hm1786 hb_u1 (by omega) (by omega) (by omega) (by omega) (fun m1854 hm1854 => ?_)
              refine g_getr 3 (u1 + 2) rfl (hS.kB_5_0 hb_u1) (hm1854.fB_5_3 hb_u1) (hS.nB_5_2 hb_u1) ?_
              refine g_C ?_
              refine g_getr 3 (u1 + 2) rfl (hS.kB_5_0 hb_u1) (hm1854.fB_5_3 hb_u1) (hS.nB_5_2 hb_u1) ?_
              refine g_ld (0) (5) (hS.kB_5_2 hb_u1) (hS.lB_5_2 hb_u1) (by omega) (by omega) (hm1854.aB_5_2 hb_u1 (by omega) (by omega)) (fun v1855 ev1855 bv1855 cv1855 => ?_)
              refine g_C ?_
              refine g_S (by omega) (by omega) ?_
              refine g_max (fun v1856 bv1856 cv1856 dv1856 => ?_)
              refine g_st (hS.kB_5_2 hb_u1) (hS.lB_5_2 hb_u1) (by omega) (by omega) (hm1854.waB_5_2 hb_u1 (by omega) (by omega) (by omega) (by omega)) (fun m1857 em1857 hm1857 => ?_)
              refine g_A (by omega) (by omega) ?_
              exact ih_n_l1847 (u1785 + 1) m1857 hm1857 (by omega) (by omega) (by omega)
        exact ⟨6, L_n_l1847 6 0 m5 hm5 (by omega) (by omega) (by omega)⟩
      · refine g_getr 7 (u1 + 6) rfl (hS.kB_5_0 hb_u1) (hm5.fB_5_7 hb_u1) (hS.nB_5_6 hb_u1) ?_
        refine g_ld (0) (999) (hS.kB_5_6 hb_u1) (hS.lB_5_6 hb_u1) (by omega) (by omega) (hm5.aB_5_6 hb_u1 (by omega) (by omega)) (fun v1858 ev1858 bv1858 cv1858 => ?_)
        refine g_getr 7 (u1 + 6) rfl (hS.kB_5_0 hb_u1) (hm5.fB_5_7 hb_u1) (hS.nB_5_6 hb_u1) ?_
        refine g_C ?_
        refine ⟨hS.k57, ?_⟩
        refine z_X1_turnsIn hS hm5 hb_u1 (by omega) (by omega) (fun v1859 m1860 hm1860 bv1859 cv1859 => ?_)
        refine g_A (by omega) (by omega) ?_
        refine g_min (fun v1861 bv1861 cv1861 dv1861 => ?_)
        refine g_st (hS.kB_5_6 hb_u1) (hS.lB_5_6 hb_u1) (by omega) (by omega) (hm1860.waB_5_6 hb_u1 (by omega) (by omega) (by omega) (by omega)) (fun m1862 em1862 hm1862 => ?_)
        refine g_getr 1 4 rfl hS.k57 hm1862.f_57_1 (by decide) ?_
        refine g_get 2 (0) (99) rfl hS.k4 hm1862.f_4_2 (fun v1863 ev1863 bv1863 cv1863 => ?_)
        refine g_if (fun w1864 => ?_) (fun w1864 => ?_)
        · refine u_X1_pass_75 ?_
          refine g_A (by omega) (by omega) ?_
          exact ih_n_l1779 u3 (u4 + 1) m1862 hm1862 (by omega) (by omega) (by omega) (by omega) (by omega)
        · refine g_getr 7 (u1 + 6) rfl (hS.kB_5_0 hb_u1) (hm1862.fB_5_7 hb_u1) (hS.nB_5_6 hb_u1) ?_
          refine g_ld (0) (999) (hS.kB_5_6 hb_u1) (hS.lB_5_6 hb_u1) (by omega) (by omega) (hm1862.aB_5_6 hb_u1 (by omega) (by omega)) (fun v1865 ev1865 bv1865 cv1865 => ?_)
          have qv1865 : v1865 = v1861 := ev1865.trans ((congrFun (congrFun em1862 _) _).trans (up_ate (by omega)))
          refine g_getr 1 4 rfl hS.k57 hm1862.f_57_1 (by decide) ?_
          refine g_get 2 (0) (99) rfl hS.k4 hm1862.f_4_2 (fun v1866 ev1866 bv1866 cv1866 => ?_)
          have qv1866 : v1866 = v1863 := ev1866.trans ev1863.symm
          refine g_if (fun w1867 => ?_) (fun w1867 => ?_)
          · refine u_X1_pass_75 ?_
            refine g_A (by omega) (by omega) ?_
            exact ih_n_l1779 u3 (u4 + 1) m1862 hm1862 (by omega) (by omega) (by omega) (by omega) (by omega)
          · refine g_Aw (fun v1868 bv1868 cv1868 => ?_)
            refine u_X1_pass_75 ?_
            refine g_A (by omega) (by omega) ?_
            exact ih_n_l1779 v1868 (u4 + 1) m1862 hm1862 (by omega) (by omega) (by omega) (by omega) (by omega)
  exact ⟨5, L_n_l1779 5 0 0 m0 hm0 (by omega) (by omega) (by omega) (by omega) (by omega)⟩
theorem z_X5_become {X : Mm} {S : Sh} {m0 : Mm} {K : Mm → Prop} {u0 u1 : Int} (hS : Shp S) (hm0 : Inv X S m0) (hb_u0 : isSt u0) (hb_u1 : isSt u1) (hk : ∀ (M1 : Mm), Inv X S M1 → K M1) : wp_X5_become S m0 u0 u1 K := by
  refine u_X5_become ?_
  refine g_get 0 (0) (999) rfl (hS.kB_5_0 hb_u1) (hm0.fB_5_0 hb_u1) (fun v1 ev1 bv1 cv1 => ?_)
  refine g_put 0 rfl (hS.kB_5_0 hb_u0) (hm0.wB_5_0 hb_u0 (by omega) (by omega)) (fun m2 em2 hm2 => ?_)
  refine g_get 1 (-2147483648) (2147483647) rfl (hS.kB_5_0 hb_u1) (hm2.fB_5_1 hb_u1) (fun v3 ev3 bv3 cv3 => ?_)
  refine g_put 1 rfl (hS.kB_5_0 hb_u0) (hm2.wB_5_1 hb_u0 (by omega) (by omega)) (fun m4 em4 hm4 => ?_)
  refine g_getr 2 (u1 + 1) rfl (hS.kB_5_0 hb_u1) (hm4.fB_5_2 hb_u1) (hS.nB_5_1 hb_u1) ?_
  refine g_C ?_
  refine g_getr 2 (u0 + 1) rfl (hS.kB_5_0 hb_u0) (hm4.fB_5_2 hb_u0) (hS.nB_5_1 hb_u0) ?_
  refine g_C ?_
  refine g_C ?_
  refine g_cpy (hS.kB_5_1 hb_u1) (hS.kB_5_1 hb_u0) (hS.lB_5_1 hb_u1) (hS.lB_5_1 hb_u0) (by decide) (hm4.cpB_5_1 hb_u1 hb_u0 (by decide)) (fun m5 hm5 => ?_)
  refine g_getr 3 (u1 + 2) rfl (hS.kB_5_0 hb_u1) (hm5.fB_5_3 hb_u1) (hS.nB_5_2 hb_u1) ?_
  refine g_C ?_
  refine g_getr 3 (u0 + 2) rfl (hS.kB_5_0 hb_u0) (hm5.fB_5_3 hb_u0) (hS.nB_5_2 hb_u0) ?_
  refine g_C ?_
  refine g_C ?_
  refine g_cpy (hS.kB_5_2 hb_u1) (hS.kB_5_2 hb_u0) (hS.lB_5_2 hb_u1) (hS.lB_5_2 hb_u0) (by decide) (hm5.cpB_5_2 hb_u1 hb_u0 (by decide)) (fun m6 hm6 => ?_)
  refine g_getr 4 (u1 + 3) rfl (hS.kB_5_0 hb_u1) (hm6.fB_5_4 hb_u1) (hS.nB_5_3 hb_u1) ?_
  refine g_C ?_
  refine g_getr 4 (u0 + 3) rfl (hS.kB_5_0 hb_u0) (hm6.fB_5_4 hb_u0) (hS.nB_5_3 hb_u0) ?_
  refine g_C ?_
  refine g_C ?_
  refine g_cpy (hS.kB_5_3 hb_u1) (hS.kB_5_3 hb_u0) (hS.lB_5_3 hb_u1) (hS.lB_5_3 hb_u0) (by decide) (hm6.cpB_5_3 hb_u1 hb_u0 (by decide)) (fun m7 hm7 => ?_)
  refine g_getr 5 (u1 + 4) rfl (hS.kB_5_0 hb_u1) (hm7.fB_5_5 hb_u1) (hS.nB_5_4 hb_u1) ?_
  refine g_C ?_
  refine g_getr 5 (u0 + 4) rfl (hS.kB_5_0 hb_u0) (hm7.fB_5_5 hb_u0) (hS.nB_5_4 hb_u0) ?_
  refine g_C ?_
  refine g_C ?_
  refine g_cpy (hS.kB_5_4 hb_u1) (hS.kB_5_4 hb_u0) (hS.lB_5_4 hb_u1) (hS.lB_5_4 hb_u0) (by decide) (hm7.cpB_5_4 hb_u1 hb_u0 (by decide)) (fun m8 hm8 => ?_)
  refine g_getr 6 (u1 + 5) rfl (hS.kB_5_0 hb_u1) (hm8.fB_5_6 hb_u1) (hS.nB_5_5 hb_u1) ?_
  refine g_C ?_
  refine g_getr 6 (u0 + 5) rfl (hS.kB_5_0 hb_u0) (hm8.fB_5_6 hb_u0) (hS.nB_5_5 hb_u0) ?_
  refine g_C ?_
  refine g_C ?_
  refine g_cpy (hS.kB_5_5 hb_u1) (hS.kB_5_5 hb_u0) (hS.lB_5_5 hb_u1) (hS.lB_5_5 hb_u0) (by decide) (hm8.cpB_5_5 hb_u1 hb_u0 (by decide)) (fun m9 hm9 => ?_)
  refine g_getr 7 (u1 + 6) rfl (hS.kB_5_0 hb_u1) (hm9.fB_5_7 hb_u1) (hS.nB_5_6 hb_u1) ?_
  refine g_C ?_
  refine g_getr 7 (u0 + 6) rfl (hS.kB_5_0 hb_u0) (hm9.fB_5_7 hb_u0) (hS.nB_5_6 hb_u0) ?_
  refine g_C ?_
  refine g_C ?_
  refine g_cpy (hS.kB_5_6 hb_u1) (hS.kB_5_6 hb_u0) (hS.lB_5_6 hb_u1) (hS.lB_5_6 hb_u0) (by decide) (hm9.cpB_5_6 hb_u1 hb_u0 (by decide)) (fun m10 hm10 => ?_)
  refine g_getr 8 (u1 + 7) rfl (hS.kB_5_0 hb_u1) (hm10.fB_5_8 hb_u1) (hS.nB_5_7 hb_u1) ?_
  refine g_C ?_
  refine g_getr 8 (u0 + 7) rfl (hS.kB_5_0 hb_u0) (hm10.fB_5_8 hb_u0) (hS.nB_5_7 hb_u0) ?_
  refine g_C ?_
  refine g_C ?_
  refine g_cpy (hS.kB_5_7 hb_u1) (hS.kB_5_7 hb_u0) (hS.lB_5_7 hb_u1) (hS.lB_5_7 hb_u0) (by decide) (hm10.cpB_5_7 hb_u1 hb_u0 (by decide)) (fun m11 hm11 => ?_)
  exact hk m11 hm11
theorem z_X11_brings {X : Mm} {S : Sh} {m0 : Mm} {K : Int → Mm → Prop} {u1 u2 u3 : Int} (hS : Shp S) (hm0 : Inv X S m0) (l_u1 : (-2147483648) ≤ u1) (h_u1 : u1 ≤ 2147483647) (l_u2 : (-2147483648) ≤ u2) (h_u2 : u2 ≤ 2147483647) (l_u3 : (-2147483648) ≤ u3) (h_u3 : u3 ≤ 2147483647) (hk : ∀ (r : Int) (M1 : Mm), Inv X S M1 → (-2) ≤ r → r ≤ 999 → K r M1) : wp_X11_brings S m0 0 u1 u2 u3 K := by
  refine u_X11_brings ?_
  refine ⟨hS.k0, ?_⟩
  refine u_X11_isHand ?_
  refine g_if (fun w1 => ?_) (fun w1 => ?_)
  · refine g_C ?_
    refine ⟨by omega, ?_⟩
    refine g_ifT (by omega) ?_
    refine g_C ?_
    exact hk (-1) m0 hm0 (by omega) (by omega)
  · refine g_getr 1 3 rfl hS.k0 hm0.f_0_1 (by decide) ?_
    refine g_getr 0 4 rfl hS.k3 hm0.f_3_0 (by decide) ?_
    refine g_get 4 (0) (5) rfl hS.k4 hm0.f_4_4 (fun v2 ev2 bv2 cv2 => ?_)
    refine g_if (fun w3 => ?_) (fun w3 => ?_)
    · refine g_C ?_
      refine ⟨by omega, ?_⟩
      refine g_ifT (by omega) ?_
      refine g_C ?_
      exact hk (-1) m0 hm0 (by omega) (by omega)
    · refine g_C ?_
      refine ⟨by omega, ?_⟩
      refine g_ifF (by omega) ?_
      refine ⟨hS.k0, ?_⟩
      refine u_X11_isStandingJug ?_
      refine ⟨hS.k0, ?_⟩
      refine u_X11_isJug ?_
      refine g_if (fun w4 => ?_) (fun w4 => ?_)
      · refine g_C ?_
        refine ⟨by omega, ?_⟩
        refine g_ifT (by omega) ?_
        refine g_C ?_
        refine ⟨by omega, ?_⟩
        refine g_ifT (by omega) ?_
        refine g_C ?_
        exact hk (-1) m0 hm0 (by omega) (by omega)
      · refine g_getr 1 3 rfl hS.k0 hm0.f_0_1 (by decide) ?_
        refine g_getr 0 4 rfl hS.k3 hm0.f_3_0 (by decide) ?_
        refine g_get 5 (0) (4) rfl hS.k4 hm0.f_4_5 (fun v5 ev5 bv5 cv5 => ?_)
        refine g_if (fun w6 => ?_) (fun w6 => ?_)
        · refine g_C ?_
          refine ⟨by omega, ?_⟩
          refine g_ifT (by omega) ?_
          refine g_C ?_
          refine ⟨by omega, ?_⟩
          refine g_ifT (by omega) ?_
          refine g_C ?_
          exact hk (-1) m0 hm0 (by omega) (by omega)
        · refine g_C ?_
          refine ⟨by omega, ?_⟩
          refine g_ifF (by omega) ?_
          refine g_getr 1 3 rfl hS.k0 hm0.f_0_1 (by decide) ?_
          refine g_getr 1 16 rfl hS.k3 hm0.f_3_1 (by decide) ?_
          refine ⟨hS.k16, ?_⟩
          refine u_X5_stands ?_
          refine g_getr 5 20 rfl hS.k16 hm0.f_16_5 (by decide) ?_
          refine g_ld (-1) (5) hS.k20 hS.l20 (by omega) (by omega) (hm0.a_20 (by omega) (by omega)) (fun v7 ev7 bv7 cv7 => ?_)
          refine g_C ?_
          refine g_if (fun w8 => ?_) (fun w8 => ?_)
          · refine g_C ?_
            refine ⟨by omega, ?_⟩
            refine g_ifT (by omega) ?_
            refine g_C ?_
            refine ⟨by omega, ?_⟩
            refine g_ifT (by omega) ?_
            refine g_C ?_
            exact hk (-1) m0 hm0 (by omega) (by omega)
          · refine g_C ?_
            refine ⟨by omega, ?_⟩
            refine g_ifF (by omega) ?_
            refine g_C ?_
            refine ⟨by omega, ?_⟩
            refine g_ifF (by omega) ?_
            refine ⟨hS.k0, ?_⟩
            refine u_X11_isPlace ?_
            refine g_if (fun w9 => ?_) (fun w9 => ?_)
            · refine g_C ?_
              refine ⟨by omega, ?_⟩
              refine g_ifF (by omega) ?_
              refine g_C ?_
              exact hk (-1) m0 hm0 (by omega) (by omega)
            · refine g_getr 1 3 rfl hS.k0 hm0.f_0_1 (by decide) ?_
              refine g_getr 0 4 rfl hS.k3 hm0.f_3_0 (by decide) ?_
              refine g_get 0 (0) (6) rfl hS.k4 hm0.f_4_0 (fun v10 ev10 bv10 cv10 => ?_)
              refine g_if (fun w11 => ?_) (fun w11 => ?_)
              · refine g_C ?_
                refine ⟨by omega, ?_⟩
                refine g_ifF (by omega) ?_
                refine g_C ?_
                exact hk (-1) m0 hm0 (by omega) (by omega)
              · refine g_C ?_
                refine ⟨by omega, ?_⟩
                refine g_ifT (by omega) ?_
                refine g_getr 1 3 rfl hS.k0 hm0.f_0_1 (by decide) ?_
                refine g_getr 1 16 rfl hS.k3 hm0.f_3_1 (by decide) ?_
                refine g_getr 5 20 rfl hS.k16 hm0.f_16_5 (by decide) ?_
                refine g_ld (-1) (5) hS.k20 hS.l20 (by omega) (by omega) (hm0.a_20 (by omega) (by omega)) (fun v12 ev12 bv12 cv12 => ?_)
                have qv12 : v12 = v7 := ev12.trans ev7.symm
                refine g_getr 1 3 rfl hS.k0 hm0.f_0_1 (by decide) ?_
                refine g_getr 0 4 rfl hS.k3 hm0.f_3_0 (by decide) ?_
                refine ⟨hS.k4, ?_⟩
                refine u_X8_hasWay ?_
                refine g_getr 9 6 rfl hS.k4 hm0.f_4_9 (by decide) ?_
                refine u_X8_pair ?_
                refine g_C ?_
                refine g_M (by omega) (by omega) ?_
                refine g_A (by omega) (by omega) ?_
                refine g_ld (0) (1000) hS.k6 hS.l6 (by omega) (by omega) (hm0.a_6 (by omega) (by omega)) (fun v13 ev13 bv13 cv13 => ?_)
                refine g_C ?_
                refine g_if (fun w14 => ?_) (fun w14 => ?_)
                · refine g_C ?_
                  refine ⟨by omega, ?_⟩
                  refine g_ifF (by omega) ?_
                  refine g_C ?_
                  exact hk (-2) m0 hm0 (by omega) (by omega)
                · refine g_C ?_
                  refine ⟨by omega, ?_⟩
                  refine g_ifT (by omega) ?_
                  refine g_getr 10 55 rfl hS.k0 hm0.f_0_10 (by decide) ?_
                  refine g_getr 1 3 rfl hS.k0 hm0.f_0_1 (by decide) ?_
                  refine g_getr 1 16 rfl hS.k3 hm0.f_3_1 (by decide) ?_
                  refine g_getr 7 22 rfl hS.k16 hm0.f_16_7 (by decide) ?_
                  refine g_ld (0) (999) hS.k22 hS.l22 (by omega) (by omega) (hm0.a_22 (by omega) (by omega)) (fun v15 ev15 bv15 cv15 => ?_)
                  refine g_getr 1 3 rfl hS.k0 hm0.f_0_1 (by decide) ?_
                  refine g_getr 1 16 rfl hS.k3 hm0.f_3_1 (by decide) ?_
                  refine g_get 0 (0) (999) rfl hS.k16 hm0.f_16_0 (fun v16 ev16 bv16 cv16 => ?_)
                  refine ⟨hS.k55, ?_⟩
                  refine u_X10_suppose ?_
                  refine g_put 4 rfl hS.k55 (hm0.w_55_4 (by omega) (by omega)) (fun m17 em17 hm17 => ?_)
                  refine g_put 5 rfl hS.k55 (hm17.w_55_5 (by omega) (by omega)) (fun m18 em18 hm18 => ?_)
                  refine g_put 6 rfl hS.k55 (hm18.w_55_6 (by omega) (by omega)) (fun m19 em19 hm19 => ?_)
                  refine g_C ?_
                  refine g_put 7 rfl hS.k55 (hm19.w_55_7 (by omega) (by omega)) (fun m20 em20 hm20 => ?_)
                  refine g_put 8 rfl hS.k55 (hm20.w_55_8 (by omega) (by omega)) (fun m21 em21 hm21 => ?_)
                  refine g_C ?_
                  refine g_put 10 rfl hS.k55 (hm21.w_55_10 (by omega) (by omega)) (fun m22 em22 hm22 => ?_)
                  refine g_C ?_
                  refine g_put 11 rfl hS.k55 (hm22.w_55_11 (by omega) (by omega)) (fun m23 em23 hm23 => ?_)
                  refine g_getr 10 55 rfl hS.k0 hm23.f_0_10 (by decide) ?_
                  refine g_C ?_
                  refine g_put 10 rfl hS.k55 (hm23.w_55_10 (by omega) (by omega)) (fun m24 em24 hm24 => ?_)
                  refine g_getr 10 55 rfl hS.k0 hm24.f_0_10 (by decide) ?_
                  refine g_getr 1 3 rfl hS.k0 hm24.f_0_1 (by decide) ?_
                  refine g_getr 0 4 rfl hS.k3 hm24.f_3_0 (by decide) ?_
                  refine ⟨hS.k4, ?_⟩
                  refine u_X8_wayHours ?_
                  refine g_getr 9 6 rfl hS.k4 hm24.f_4_9 (by decide) ?_
                  refine u_X8_pair ?_
                  refine g_C ?_
                  refine g_M (by omega) (by omega) ?_
                  refine g_A (by omega) (by omega) ?_
                  refine g_ld (0) (1000) hS.k6 hS.l6 (by omega) (by omega) (hm24.a_6 (by omega) (by omega)) (fun v25 ev25 bv25 cv25 => ?_)
                  have qv25 : v25 = v13 := ev25.trans ((congrFun (congrFun em24 _) _).trans ((up_ne (by omega)).trans ((congrFun (congrFun em23 _) _).trans ((up_ne (by omega)).trans ((congrFun (congrFun em22 _) _).trans ((up_ne (by omega)).trans ((congrFun (congrFun em21 _) _).trans ((up_ne (by omega)).trans ((congrFun (congrFun em20 _) _).trans ((up_ne (by omega)).trans ((congrFun (congrFun em19 _) _).trans ((up_ne (by omega)).trans ((congrFun (congrFun em18 _) _).trans ((up_ne (by omega)).trans ((congrFun (congrFun em17 _) _).trans ((up_ne (by omega)).trans ev13.symm))))))))))))))))
                  refine ⟨hS.k55, ?_⟩
                  refine z_X10_holdFor hS hm24 (by omega) (by omega) (fun m26 hm26 => ?_)
                  refine g_getr 10 55 rfl hS.k0 hm26.f_0_10 (by decide) ?_
                  refine g_get 6 (0) (999) rfl hS.k55 hm26.f_55_6 (fun v27 ev27 bv27 cv27 => ?_)
                  exact hk v27 m26 hm26 (by omega) (by omega)
end
section
theorem z_X5_turnedTogether {X : Mm} {S : Sh} {m0 : Mm} {K : Int → Mm → Prop} (hS : Shp S) (hm0 : Inv X S m0)  (hk : ∀ (r : Int), (-2147483648) ≤ r → r ≤ 2147483647 → K r m0) : wp_X5_turnedTogether S m0 68 K := by
  refine u_X5_turnedTogether ?_
  refine g_C ?_
  refine g_C ?_
  have L_n_l82 : ∀ (n_l82 : Nat) (u2 : Int) (u3 : Int), (-2147483648) ≤ u2 → u2 ≤ 2147483647 → 0 ≤ u3 → u3 ≤ 4 → 5 - u3 ≤ (n_l82 : Int) → wp_X5_turnedTogether_4 S K n_l82 68 u2 u3 m0 := by
    intro n_l82
    induction n_l82 with
    | zero => intro u2 u3 bu2 cu2 bu3 cu3 zn_l82; exfalso; omega
    | succ n_l82 ih_n_l82 =>
      intro u2 u3 bu2 cu2 bu3 cu3 zn_l82
      refine u_X5_turnedTogether_4 ?_
      refine g_C ?_
      refine g_if (fun w83 => ?_) (fun w83 => ?_)
      · exact hk u2 (by omega) (by omega)
      · refine ⟨hS.k68, ?_⟩
        refine u_X5_isGone ?_
        refine g_getr 5 72 rfl hS.k68 hm0.f_68_5 (by decide) ?_
        refine g_ld (-1) (5) hS.k72 hS.l72 (by omega) (by omega) (hm0.a_72 (by omega) (by omega)) (fun v84 ev84 bv84 cv84 => ?_)
        refine g_C ?_
        refine g_if (fun w85 => ?_) (fun w85 => ?_)
        · refine g_C ?_
          refine ⟨by omega, ?_⟩
          refine g_ifT (by omega) ?_
          refine g_getr 7 74 rfl hS.k68 hm0.f_68_7 (by decide) ?_
          refine g_ld (0) (999) hS.k74 hS.l74 (by omega) (by omega) (hm0.a_74 (by omega) (by omega)) (fun v86 ev86 bv86 cv86 => ?_)
          refine u_X5_turnedTogether_28 ?_
          refine g_Aw (fun v87 bv87 cv87 => ?_)
          refine g_A (by omega) (by omega) ?_
          exact ih_n_l82 v87 (u3 + 1) (by omega) (by omega) (by omega) (by omega) (by omega)
        · refine g_getr 6 73 rfl hS.k68 hm0.f_68_6 (by decide) ?_
          refine g_ld (-1) (4) hS.k73 hS.l73 (by omega) (by omega) (hm0.a_73 (by omega) (by omega)) (fun v88 ev88 bv88 cv88 => ?_)
          refine g_C ?_
          refine g_if (fun w89 => ?_) (fun w89 => ?_)
          · refine g_C ?_
            refine ⟨by omega, ?_⟩
            refine g_ifT (by omega) ?_
            refine g_getr 7 74 rfl hS.k68 hm0.f_68_7 (by decide) ?_
            refine g_ld (0) (999) hS.k74 hS.l74 (by omega) (by omega) (hm0.a_74 (by omega) (by omega)) (fun v90 ev90 bv90 cv90 => ?_)
            refine u_X5_turnedTogether_28 ?_
            refine g_Aw (fun v91 bv91 cv91 => ?_)
            refine g_A (by omega) (by omega) ?_
            exact ih_n_l82 v91 (u3 + 1) (by omega) (by omega) (by omega) (by omega) (by omega)
          · refine g_C ?_
            refine ⟨by omega, ?_⟩
            refine g_ifF (by omega) ?_
            refine g_C ?_
            refine u_X5_turnedTogether_28 ?_
            refine g_A (by omega) (by omega) ?_
            refine g_A (by omega) (by omega) ?_
            exact ih_n_l82 (u2 + 0) (u3 + 1) (by omega) (by omega) (by omega) (by omega) (by omega)
  exact ⟨5, L_n_l82 5 0 0 (by omega) (by omega) (by omega) (by omega) (by omega)⟩
theorem z_X6_payWith {X : Mm} {S : Sh} {m0 : Mm} {K : Int → Mm → Prop} {u2 u3 u4 : Int} (hS : Shp S) (hm0 : Inv X S m0) (l_u2 : 0 ≤ u2) (h_u2 : u2 ≤ 5) (l_u3 : 0 ≤ u3) (h_u3 : u3 ≤ 15) (l_u4 : (-1) ≤ u4) (h_u4 : u4 ≤ 3) (hk : ∀ (r : Int), (-2147483648) ≤ r → r ≤ 2147483647 → K r m0) : wp_X6_payWith S m0 63 16 u2 u3 u4 K := by
  refine u_X6_payWith ?_
  refine g_C ?_
  refine g_A (by omega) (by omega) ?_
  refine g_C ?_
  refine g_M (by omega) (by omega) ?_
  refine g_C ?_
  refine g_if (fun w1 => ?_) (fun w1 => ?_)
  · refine g_iShr (by omega) (by omega) (fun v2 bv2 cv2 => ?_)
    refine g_C ?_
    refine g_iAndR (by omega) (by omega) (fun v3 dv3 bv3 cv3 => ?_)
    refine g_if (fun w4 => ?_) (fun w4 => ?_)
    · refine u_X6_payWith_46 ?_
      refine g_C ?_
      refine u_X6_payWith_47 ?_
      refine g_ifT (by omega) ?_
      refine g_C ?_
      exact hk (-1) (by omega) (by omega)
    · refine ⟨hS.k16, ?_⟩
      refine u_X5_isGone ?_
      refine g_getr 5 20 rfl hS.k16 hm0.f_16_5 (by decide) ?_
      refine g_ld (-1) (5) hS.k20 hS.l20 (by omega) (by omega) (hm0.a_20 (by omega) (by omega)) (fun v5 ev5 bv5 cv5 => ?_)
      refine g_C ?_
      refine g_if (fun w6 => ?_) (fun w6 => ?_)
      · refine g_C ?_
        refine ⟨by omega, ?_⟩
        refine g_ifF (by omega) ?_
        refine g_C ?_
        refine u_X6_payWith_47 ?_
        refine g_ifF (by omega) ?_
        refine g_getr 8 23 rfl hS.k16 hm0.f_16_8 (by decide) ?_
        refine g_ld (-1) (999) hS.k23 hS.l23 (by omega) (by omega) (hm0.a_23 (by omega) (by omega)) (fun v7 ev7 bv7 cv7 => ?_)
        refine g_C ?_
        refine g_if (fun w8 => ?_) (fun w8 => ?_)
        · refine g_C ?_
          exact hk (-1) (by omega) (by omega)
        · refine g_getr 0 4 rfl hS.k63 hm0.f_63_0 (by decide) ?_
          refine g_getr 7 22 rfl hS.k16 hm0.f_16_7 (by decide) ?_
          refine g_ld (0) (999) hS.k22 hS.l22 (by omega) (by omega) (hm0.a_22 (by omega) (by omega)) (fun v9 ev9 bv9 cv9 => ?_)
          refine ⟨hS.k4, ?_⟩
          refine u_X8_suits ?_
          refine g_getr 16 13 rfl hS.k4 hm0.f_4_16 (by decide) ?_
          refine g_ld (0) (99) hS.k13 hS.l13 (by omega) (by omega) (hm0.a_13 (by omega) (by omega)) (fun v10 ev10 bv10 cv10 => ?_)
          refine g_if (fun w11 => ?_) (fun w11 => ?_)
          · refine g_C ?_
            refine ⟨by omega, ?_⟩
            refine g_ifF (by omega) ?_
            refine g_C ?_
            exact hk (-1) (by omega) (by omega)
          · refine g_getr 17 14 rfl hS.k4 hm0.f_4_17 (by decide) ?_
            refine g_ld (0) (99) hS.k14 hS.l14 (by omega) (by omega) (hm0.a_14 (by omega) (by omega)) (fun v12 ev12 bv12 cv12 => ?_)
            refine g_if (fun w13 => ?_) (fun w13 => ?_)
            · refine g_C ?_
              refine ⟨by omega, ?_⟩
              refine g_ifF (by omega) ?_
              refine g_C ?_
              exact hk (-1) (by omega) (by omega)
            · refine g_C ?_
              refine ⟨by omega, ?_⟩
              refine g_ifT (by omega) ?_
              refine g_getr 0 4 rfl hS.k63 hm0.f_63_0 (by decide) ?_
              refine g_getr 18 15 rfl hS.k4 hm0.f_4_18 (by decide) ?_
              refine g_ld (0) (50) hS.k15 hS.l15 (by omega) (by omega) (hm0.a_15 (by omega) (by omega)) (fun v14 ev14 bv14 cv14 => ?_)
              refine g_getr 1 64 rfl hS.k63 hm0.f_63_1 (by decide) ?_
              refine g_C ?_
              refine g_iShl 3 (by omega) (by omega) (by decide) (fun v15 bv15 cv15 => ?_)
              refine g_iOr 4 (by omega) (by omega) (by omega) (by omega) (by decide) (fun v16 bv16 cv16 => ?_)
              refine g_A (by omega) (by omega) ?_
              refine g_ld (-2147483648) (2147483647) hS.k64 hS.l64 (by omega) (by omega) (hm0.a_64 (by omega) (by omega)) (fun v17 ev17 bv17 cv17 => ?_)
              refine g_Aw (fun v18 bv18 cv18 => ?_)
              exact hk v18 (by omega) (by omega)
      · refine g_getr 6 21 rfl hS.k16 hm0.f_16_6 (by decide) ?_
        refine g_ld (-1) (4) hS.k21 hS.l21 (by omega) (by omega) (hm0.a_21 (by omega) (by omega)) (fun v19 ev19 bv19 cv19 => ?_)
        refine g_C ?_
        refine g_if (fun w20 => ?_) (fun w20 => ?_)
        · refine g_C ?_
          refine ⟨by omega, ?_⟩
          refine g_ifF (by omega) ?_
          refine g_C ?_
          refine u_X6_payWith_47 ?_
          refine g_ifF (by omega) ?_
          refine g_getr 8 23 rfl hS.k16 hm0.f_16_8 (by decide) ?_
          refine g_ld (-1) (999) hS.k23 hS.l23 (by omega) (by omega) (hm0.a_23 (by omega) (by omega)) (fun v21 ev21 bv21 cv21 => ?_)
          refine g_C ?_
          refine g_if (fun w22 => ?_) (fun w22 => ?_)
          · refine g_C ?_
            exact hk (-1) (by omega) (by omega)
          · refine g_getr 0 4 rfl hS.k63 hm0.f_63_0 (by decide) ?_
            refine g_getr 7 22 rfl hS.k16 hm0.f_16_7 (by decide) ?_
            refine g_ld (0) (999) hS.k22 hS.l22 (by omega) (by omega) (hm0.a_22 (by omega) (by omega)) (fun v23 ev23 bv23 cv23 => ?_)
            refine ⟨hS.k4, ?_⟩
            refine u_X8_suits ?_
            refine g_getr 16 13 rfl hS.k4 hm0.f_4_16 (by decide) ?_
            refine g_ld (0) (99) hS.k13 hS.l13 (by omega) (by omega) (hm0.a_13 (by omega) (by omega)) (fun v24 ev24 bv24 cv24 => ?_)
            refine g_if (fun w25 => ?_) (fun w25 => ?_)
            · refine g_C ?_
              refine ⟨by omega, ?_⟩
              refine g_ifF (by omega) ?_
              refine g_C ?_
              exact hk (-1) (by omega) (by omega)
            · refine g_getr 17 14 rfl hS.k4 hm0.f_4_17 (by decide) ?_
              refine g_ld (0) (99) hS.k14 hS.l14 (by omega) (by omega) (hm0.a_14 (by omega) (by omega)) (fun v26 ev26 bv26 cv26 => ?_)
              refine g_if (fun w27 => ?_) (fun w27 => ?_)
              · refine g_C ?_
                refine ⟨by omega, ?_⟩
                refine g_ifF (by omega) ?_
                refine g_C ?_
                exact hk (-1) (by omega) (by omega)
              · refine g_C ?_
                refine ⟨by omega, ?_⟩
                refine g_ifT (by omega) ?_
                refine g_getr 0 4 rfl hS.k63 hm0.f_63_0 (by decide) ?_
                refine g_getr 18 15 rfl hS.k4 hm0.f_4_18 (by decide) ?_
                refine g_ld (0) (50) hS.k15 hS.l15 (by omega) (by omega) (hm0.a_15 (by omega) (by omega)) (fun v28 ev28 bv28 cv28 => ?_)
                refine g_getr 1 64 rfl hS.k63 hm0.f_63_1 (by decide) ?_
                refine g_C ?_
                refine g_iShl 3 (by omega) (by omega) (by decide) (fun v29 bv29 cv29 => ?_)
                refine g_iOr 4 (by omega) (by omega) (by omega) (by omega) (by decide) (fun v30 bv30 cv30 => ?_)
                refine g_A (by omega) (by omega) ?_
                refine g_ld (-2147483648) (2147483647) hS.k64 hS.l64 (by omega) (by omega) (hm0.a_64 (by omega) (by omega)) (fun v31 ev31 bv31 cv31 => ?_)
                refine g_Aw (fun v32 bv32 cv32 => ?_)
                exact hk v32 (by omega) (by omega)
        · refine g_C ?_
          refine ⟨by omega, ?_⟩
          refine g_ifT (by omega) ?_
          refine u_X6_payWith_46 ?_
          refine g_C ?_
          refine u_X6_payWith_47 ?_
          refine g_ifT (by omega) ?_
          refine g_C ?_
          exact hk (-1) (by omega) (by omega)
  · refine g_getr 1 64 rfl hS.k63 hm0.f_63_1 (by decide) ?_
    refine g_A (by omega) (by omega) ?_
    refine g_ld (-2147483648) (2147483647) hS.k64 hS.l64 (by omega) (by omega) (hm0.a_64 (by omega) (by omega)) (fun v33 ev33 bv33 cv33 => ?_)
    exact hk v33 (by omega) (by omega)
theorem z_X6_firstBest {X : Mm} {S : Sh} {m0 : Mm} {K : Int → Mm → Prop} {u2 u3 : Int} (hS : Shp S) (hm0 : Inv X S m0) (l_u2 : 0 ≤ u2) (h_u2 : u2 ≤ 5) (l_u3 : 0 ≤ u3) (h_u3 : u3 ≤ 15) (hk : ∀ (r : Int), (-1) ≤ r → r ≤ 3 → K r m0) : wp_X6_firstBest S m0 63 16 u2 u3 K := by
  refine u_X6_firstBest ?_
  refine g_C ?_
  have L_n_l36 : ∀ (n_l36 : Nat) (u5 : Int), (-1) ≤ u5 → u5 ≤ 4 → 5 - u5 ≤ (n_l36 : Int) → wp_X6_firstBest_3 S K n_l36 63 16 u2 u3 u5 m0 := by
    intro n_l36
    induction n_l36 with
    | zero => intro u5 bu5 cu5 zn_l36; exfalso; omega
    | succ n_l36 ih_n_l36 =>
      intro u5 bu5 cu5 zn_l36
      refine u_X6_firstBest_3 ?_
      refine g_getr 0 4 rfl hS.k63 hm0.f_63_0 (by decide) ?_
      refine g_get 5 (0) (4) rfl hS.k4 hm0.f_4_5 (fun v37 ev37 bv37 cv37 => ?_)
      refine g_if (fun w38 => ?_) (fun w38 => ?_)
      · refine g_C ?_
        exact hk (-1) (by omega) (by omega)
      · refine ⟨hS.k63, ?_⟩
        refine z_X6_payWith hS hm0 (by omega) (by omega) (by omega) (by omega) (by omega) (by omega) (fun v39 bv39 cv39 => ?_)
        refine g_getr 1 64 rfl hS.k63 hm0.f_63_1 (by decide) ?_
        refine g_C ?_
        refine g_M (by omega) (by omega) ?_
        refine g_A (by omega) (by omega) ?_
        refine g_ld (-2147483648) (2147483647) hS.k64 hS.l64 (by omega) (by omega) (hm0.a_64 (by omega) (by omega)) (fun v40 ev40 bv40 cv40 => ?_)
        refine g_if (fun w41 => ?_) (fun w41 => ?_)
        · refine g_A (by omega) (by omega) ?_
          exact ih_n_l36 (u5 + 1) (by omega) (by omega) (by omega)
        · exact hk u5 (by omega) (by omega)
  exact ⟨6, L_n_l36 6 (-1) (by omega) (by omega) (by omega)⟩
theorem z_X6_jugOfWant {X : Mm} {S : Sh} {m0 : Mm} {K : Int → Mm → Prop} {u2 : Int} (hS : Shp S) (hm0 : Inv X S m0) (l_u2 : 0 ≤ u2) (h_u2 : u2 ≤ 5) (hk : ∀ (r : Int), (-1) ≤ r → r ≤ 3 → K r m0) : wp_X6_jugOfWant S m0 63 16 u2 K := by
  refine u_X6_jugOfWant ?_
  refine g_C ?_
  refine g_C ?_
  refine g_C ?_
  have L_n_l49 : ∀ (n_l49 : Nat) (u4 : Int) (u5 : Int) (u6 : Int), 0 ≤ u4 → u4 ≤ 15 → (-1) ≤ u5 → u5 ≤ 3 → 0 ≤ u6 → u6 ≤ 6 → 7 - u6 ≤ (n_l49 : Int) → wp_X6_jugOfWant_8 S K n_l49 63 16 u2 u4 u5 u6 m0 := by
    intro n_l49
    induction n_l49 with
    | zero => intro u4 u5 u6 bu4 cu4 bu5 cu5 bu6 cu6 zn_l49; exfalso; omega
    | succ n_l49 ih_n_l49 =>
      intro u4 u5 u6 bu4 cu4 bu5 cu5 bu6 cu6 zn_l49
      refine u_X6_jugOfWant_8 ?_
      refine g_if (fun w50 => ?_) (fun w50 => ?_)
      · exact hk u5 (by omega) (by omega)
      · refine ⟨hS.k63, ?_⟩
        refine z_X6_firstBest hS hm0 (by omega) (by omega) (by omega) (by omega) (fun v51 bv51 cv51 => ?_)
        refine g_C ?_
        refine g_if (fun w52 => ?_) (fun w52 => ?_)
        · refine g_C ?_
          refine g_iShl 3 (by omega) (by omega) (by decide) (fun v53 bv53 cv53 => ?_)
          refine u_X6_jugOfWant_39 ?_
          refine g_iOr 4 (by omega) (by omega) (by omega) (by omega) (by decide) (fun v54 bv54 cv54 => ?_)
          refine g_A (by omega) (by omega) ?_
          exact ih_n_l49 v54 v51 (u6 + 1) (by omega) (by omega) (by omega) (by omega) (by omega) (by omega) (by omega)
        · refine g_C ?_
          refine u_X6_jugOfWant_39 ?_
          refine g_iOr 4 (by omega) (by omega) (by omega) (by omega) (by decide) (fun v55 bv55 cv55 => ?_)
          refine g_A (by omega) (by omega) ?_
          exact ih_n_l49 v55 v51 (u6 + 1) (by omega) (by omega) (by omega) (by omega) (by omega) (by omega) (by omega)
  exact ⟨7, L_n_l49 7 0 (-1) 0 (by omega) (by omega) (by omega) (by omega) (by omega) (by omega) (by omega)⟩
theorem z_X6_matchWants {X : Mm} {S : Sh} {m0 : Mm} {K : Mm → Prop} (hS : Shp S) (hm0 : Inv X S m0)  (hk : ∀ (M1 : Mm), Inv X S M1 → K M1) : wp_X6_matchWants S m0 63 16 K := by
  refine u_X6_matchWants ?_
  refine g_getr 1 64 rfl hS.k63 hm0.f_63_1 (by decide) ?_
  refine g_C ?_
  refine s_fill hm0 hS.k64 hS.l64 (by decide) (fun M i h0 h1 h2 => h0.wa_64 h1 h2 (by omega) (by omega)) (fun m1 hm1 => ?_)
  refine g_getr 0 4 rfl hS.k63 hm1.f_63_0 (by decide) ?_
  refine g_get 7 (0) (6) rfl hS.k4 hm1.f_4_7 (fun v2 ev2 bv2 cv2 => ?_)
  refine g_C ?_
  refine g_S (by omega) (by omega) ?_
  have L_n_l1079 : ∀ (n_l1079 : Nat) (u5 : Int) (m6 : Mm), Inv X S m6 → (-1) ≤ u5 → u5 ≤ 5 → u5 - (-2) ≤ (n_l1079 : Int) → wp_X6_matchWants_18 S K n_l1079 63 16 u5 m6 := by
    intro n_l1079
    induction n_l1079 with
    | zero => intro u5 m6 hm6 bu5 cu5 zn_l1079; exfalso; omega
    | succ n_l1079 ih_n_l1079 =>
      intro u5 m6 hm6 bu5 cu5 zn_l1079
      refine u_X6_matchWants_18 ?_
      refine g_if (fun w1080 => ?_) (fun w1080 => ?_)
      · exact hk m6 hm6
      · refine g_C ?_
        have L_n_l1616 : ∀ (n_l1616 : Nat) (u1084 : Int) (m1085 : Mm), Inv X S m1085 → 0 ≤ u1084 → u1084 ≤ 16 → 17 - u1084 ≤ (n_l1616 : Int) → wp_X6_matchWants_24 S (fun a0 a1 a2 M => wp_X6_matchWants_18 S K n_l1079 a0 a1 a2 M) K n_l1616 63 16 u5 u1084 m1085 := by
          intro n_l1616
          induction n_l1616 with
          | zero => intro u1084 m1085 hm1085 bu1084 cu1084 zn_l1616; exfalso; omega
          | succ n_l1616 ih_n_l1616 =>
            intro u1084 m1085 hm1085 bu1084 cu1084 zn_l1616
            refine u_X6_matchWants_24 ?_
            refine g_C ?_
            refine g_if (fun w1617 => ?_) (fun w1617 => ?_)
            · refine g_A (by omega) (by omega) ?_
              exact ih_n_l1079 (u5 + (-1)) m1085 hm1085 (by omega) (by omega) (by omega)
            · refine g_C ?_
              refine ⟨hS.k63, ?_⟩
              refine z_X6_payWith hS hm1085 (by omega) (by omega) (by omega) (by omega) (by omega) (by omega) (fun v1618 bv1618 cv1618 => ?_)
              refine g_C ?_
              have L_n_l1651 : ∀ (n_l1651 : Nat) (u1623 : Int) (u1624 : Int), (-2147483648) ≤ u1623 → u1623 ≤ 2147483647 → 0 ≤ u1624 → u1624 ≤ 4 → 5 - u1624 ≤ (n_l1651 : Int) → wp_X6_matchWants_43 S (fun a0 a1 a2 M => wp_X6_matchWants_18 S K n_l1079 a0 a1 a2 M) (fun a0 a1 a2 a3 M => wp_X6_matchWants_24 S (fun a0 a1 a2 M => wp_X6_matchWants_18 S K n_l1079 a0 a1 a2 M) K n_l1616 a0 a1 a2 a3 M) K n_l1651 63 16 u5 u1084 u1623 u1624 m1085 := by
                intro n_l1651
                induction n_l1651 with
                | zero => intro u1623 u1624 bu1623 cu1623 bu1624 cu1624 zn_l1651; exfalso; omega
                | succ n_l1651 ih_n_l1651 =>
                  intro u1623 u1624 bu1623 cu1623 bu1624 cu1624 zn_l1651
                  refine u_X6_matchWants_43 ?_
                  refine g_getr 0 4 rfl hS.k63 hm1085.f_63_0 (by decide) ?_
                  refine g_get 5 (0) (4) rfl hS.k4 hm1085.f_4_5 (fun v1652 ev1652 bv1652 cv1652 => ?_)
                  refine g_if (fun w1653 => ?_) (fun w1653 => ?_)
                  · refine g_getr 1 64 rfl hS.k63 hm1085.f_63_1 (by decide) ?_
                    refine g_C ?_
                    refine g_M (by omega) (by omega) ?_
                    refine g_A (by omega) (by omega) ?_
                    refine g_st hS.k64 hS.l64 (by omega) (by omega) (hm1085.wa_64 (by omega) (by omega) (by omega) (by omega)) (fun m1654 em1654 hm1654 => ?_)
                    refine g_A (by omega) (by omega) ?_
                    exact ih_n_l1616 (u1084 + 1) m1654 hm1654 (by omega) (by omega) (by omega)
                  · refine ⟨hS.k63, ?_⟩
                    refine z_X6_payWith hS hm1085 (by omega) (by omega) (by omega) (by omega) (by omega) (by omega) (fun v1655 bv1655 cv1655 => ?_)
                    refine g_max (fun v1656 bv1656 cv1656 dv1656 => ?_)
                    refine g_A (by omega) (by omega) ?_
                    exact ih_n_l1651 v1656 (u1624 + 1) (by omega) (by omega) (by omega) (by omega) (by omega)
              exact ⟨5, L_n_l1651 5 v1618 0 (by omega) (by omega) (by omega) (by omega) (by omega)⟩
        exact ⟨17, L_n_l1616 17 0 m6 hm6 (by omega) (by omega) (by omega)⟩
  exact ⟨7, L_n_l1079 7 (v2 - 1) m1 hm1 (by omega) (by omega) (by omega)⟩
end
section
theorem z_X11_match {X : Mm} {S : Sh} {m0 : Mm} {K : Int → Mm → Prop} {u1 : Int} (hS : Shp S) (hm0 : Inv X S m0) (l_u1 : (-2147483648) ≤ u1) (h_u1 : u1 ≤ 2147483647) (hk : ∀ (r : Int) (M1 : Mm), Inv X S M1 → (-2147483648) ≤ r → r ≤ 2147483647 → K r M1) : wp_X11_match S m0 0 u1 K := by
  refine u_X11_match ?_
  refine g_getr 1 3 rfl hS.k0 hm0.f_0_1 (by decide) ?_
  refine g_getr 0 4 rfl hS.k3 hm0.f_3_0 (by decide) ?_
  refine g_get 0 (0) (6) rfl hS.k4 hm0.f_4_0 (fun v1 ev1 bv1 cv1 => ?_)
  refine g_if (fun w2 => ?_) (fun w2 => ?_)
  · refine g_C ?_
    exact hk (-3) m0 hm0 (by omega) (by omega)
  · refine g_if (fun w3 => ?_) (fun w3 => ?_)
    · refine g_C ?_
      exact hk (-3) m0 hm0 (by omega) (by omega)
    · refine g_C ?_
      refine g_if (fun w4 => ?_) (fun w4 => ?_)
      · refine g_getr 1 3 rfl hS.k0 hm0.f_0_1 (by decide) ?_
        refine g_getr 0 4 rfl hS.k3 hm0.f_3_0 (by decide) ?_
        refine g_get 7 (0) (6) rfl hS.k4 hm0.f_4_7 (fun v5 ev5 bv5 cv5 => ?_)
        refine g_if (fun w6 => ?_) (fun w6 => ?_)
        · refine g_getr 13 63 rfl hS.k0 hm0.f_0_13 (by decide) ?_
          refine g_getr 1 3 rfl hS.k0 hm0.f_0_1 (by decide) ?_
          refine g_getr 1 16 rfl hS.k3 hm0.f_3_1 (by decide) ?_
          refine ⟨hS.k63, ?_⟩
          refine z_X6_matchWants hS hm0 (fun m7 hm7 => ?_)
          refine g_if (fun w8 => ?_) (fun w8 => ?_)
          · refine g_getr 13 63 rfl hS.k0 hm7.f_0_13 (by decide) ?_
            refine g_getr 1 3 rfl hS.k0 hm7.f_0_1 (by decide) ?_
            refine g_getr 1 16 rfl hS.k3 hm7.f_3_1 (by decide) ?_
            refine g_C ?_
            refine g_S (by omega) (by omega) ?_
            refine ⟨hS.k63, ?_⟩
            refine z_X6_jugOfWant hS hm7 (by omega) (by omega) (fun v9 bv9 cv9 => ?_)
            exact hk v9 m7 hm7 (by omega) (by omega)
          · refine g_getr 13 63 rfl hS.k0 hm7.f_0_13 (by decide) ?_
            refine ⟨hS.k63, ?_⟩
            refine u_X6_mostPay ?_
            refine g_getr 1 64 rfl hS.k63 hm7.f_63_1 (by decide) ?_
            refine g_C ?_
            refine g_ld (-2147483648) (2147483647) hS.k64 hS.l64 (by omega) (by omega) (hm7.a_64 (by omega) (by omega)) (fun v10 ev10 bv10 cv10 => ?_)
            exact hk v10 m7 hm7 (by omega) (by omega)
        · refine g_C ?_
          exact hk (-2) m0 hm0 (by omega) (by omega)
      · refine g_C ?_
        exact hk (-3) m0 hm0 (by omega) (by omega)
theorem z_X9_mostAlike {X : Mm} {S : Sh} {m0 : Mm} {K : Int → Mm → Prop} {u1 u2 : Int} (hS : Shp S) (hm0 : Inv X S m0) (l_u1 : 1 ≤ u1) (h_u1 : u1 ≤ 31) (l_u2 : 0 ≤ u2) (h_u2 : u2 ≤ 19) (hk : ∀ (r : Int), 0 ≤ r → r ≤ 2147483647 → K r m0) : wp_X9_mostAlike S m0 66 u1 u2 K := by
  refine u_X9_mostAlike ?_
  refine g_C ?_
  refine g_C ?_
  have L_n_l1704 : ∀ (n_l1704 : Nat) (u4 : Int) (u5 : Int), 0 ≤ u4 → u4 ≤ 2147483647 → 0 ≤ u5 → u5 ≤ 5 → 6 - u5 ≤ (n_l1704 : Int) → wp_X9_mostAlike_5 S K n_l1704 66 u1 u2 u4 u5 m0 := by
    intro n_l1704
    induction n_l1704 with
    | zero => intro u4 u5 bu4 cu4 bu5 cu5 zn_l1704; exfalso; omega
    | succ n_l1704 ih_n_l1704 =>
      intro u4 u5 bu4 cu4 bu5 cu5 zn_l1704
      refine u_X9_mostAlike_5 ?_
      refine g_getr 0 3 rfl hS.k66 hm0.f_66_0 (by decide) ?_
      refine g_getr 0 4 rfl hS.k3 hm0.f_3_0 (by decide) ?_
      refine g_get 4 (0) (5) rfl hS.k4 hm0.f_4_4 (fun v1705 ev1705 bv1705 cv1705 => ?_)
      refine g_if (fun w1706 => ?_) (fun w1706 => ?_)
      · exact hk u4 (by omega) (by omega)
      · refine g_C ?_
        refine g_C ?_
        have L_n_l1988 : ∀ (n_l1988 : Nat) (u1712 : Int) (u1713 : Int), (-2147483648) ≤ u1712 → u1712 ≤ 2147483647 → 0 ≤ u1713 → u1713 ≤ 5 → 6 - u1713 ≤ (n_l1988 : Int) → wp_X9_mostAlike_26 S (fun a0 a1 a2 a3 a4 M => wp_X9_mostAlike_5 S K n_l1704 a0 a1 a2 a3 a4 M) K n_l1988 66 u1 u2 u4 u5 u1712 u1713 m0 := by
          intro n_l1988
          induction n_l1988 with
          | zero => intro u1712 u1713 bu1712 cu1712 bu1713 cu1713 zn_l1988; exfalso; omega
          | succ n_l1988 ih_n_l1988 =>
            intro u1712 u1713 bu1712 cu1712 bu1713 cu1713 zn_l1988
            refine u_X9_mostAlike_26 ?_
            refine g_getr 0 3 rfl hS.k66 hm0.f_66_0 (by decide) ?_
            refine g_getr 0 4 rfl hS.k3 hm0.f_3_0 (by decide) ?_
            refine g_get 4 (0) (5) rfl hS.k4 hm0.f_4_4 (fun v1989 ev1989 bv1989 cv1989 => ?_)
            have qv1989 : v1989 = v1705 := ev1989.trans ev1705.symm
            refine g_if (fun w1990 => ?_) (fun w1990 => ?_)
            · refine g_iShr (by omega) (by omega) (fun v1991 bv1991 cv1991 => ?_)
              refine g_C ?_
              refine g_iAndR (by omega) (by omega) (fun v1992 dv1992 bv1992 cv1992 => ?_)
              refine g_C ?_
              refine g_if (fun w1993 => ?_) (fun w1993 => ?_)
              · refine u_X9_mostAlike_119 ?_
                refine g_A (by omega) (by omega) ?_
                exact ih_n_l1704 u4 (u5 + 1) (by omega) (by omega) (by omega) (by omega) (by omega)
              · refine g_max (fun v1994 bv1994 cv1994 dv1994 => ?_)
                refine u_X9_mostAlike_119 ?_
                refine g_A (by omega) (by omega) ?_
                exact ih_n_l1704 v1994 (u5 + 1) (by omega) (by omega) (by omega) (by omega) (by omega)
            · refine g_getr 2 67 rfl hS.k66 hm0.f_66_2 (by decide) ?_
              refine g_C ?_
              refine g_M (by omega) (by omega) ?_
              refine g_A (by omega) (by omega) ?_
              refine g_ld (0) (999) hS.k67 hS.l67 (by omega) (by omega) (hm0.a_67 (by omega) (by omega)) (fun v1995 ev1995 bv1995 cv1995 => ?_)
              refine g_getr 2 67 rfl hS.k66 hm0.f_66_2 (by decide) ?_
              refine g_C ?_
              refine g_M (by omega) (by omega) ?_
              refine g_A (by omega) (by omega) ?_
              refine g_ld (0) (999) hS.k67 hS.l67 (by omega) (by omega) (hm0.a_67 (by omega) (by omega)) (fun v1996 ev1996 bv1996 cv1996 => ?_)
              refine g_S (by omega) (by omega) ?_
              refine g_if (fun w1997 => ?_) (fun w1997 => ?_)
              · refine u_X9_mostAlike_89 ?_
                refine g_C ?_
                refine u_X9_mostAlike_90 ?_
                refine g_A (by omega) (by omega) ?_
                refine g_A (by omega) (by omega) ?_
                exact ih_n_l1988 (u1712 + 0) (u1713 + 1) (by omega) (by omega) (by omega) (by omega) (by omega)
              · refine g_iShr (by omega) (by omega) (fun v1998 bv1998 cv1998 => ?_)
                refine g_C ?_
                refine g_iAndR (by omega) (by omega) (fun v1999 dv1999 bv1999 cv1999 => ?_)
                refine g_C ?_
                refine g_if (fun w2000 => ?_) (fun w2000 => ?_)
                · refine u_X9_mostAlike_89 ?_
                  refine g_C ?_
                  refine u_X9_mostAlike_90 ?_
                  refine g_A (by omega) (by omega) ?_
                  refine g_A (by omega) (by omega) ?_
                  exact ih_n_l1988 (u1712 + 0) (u1713 + 1) (by omega) (by omega) (by omega) (by omega) (by omega)
                · refine g_C ?_
                  refine u_X9_mostAlike_90 ?_
                  refine g_Aw (fun v2001 bv2001 cv2001 => ?_)
                  refine g_A (by omega) (by omega) ?_
                  exact ih_n_l1988 v2001 (u1713 + 1) (by omega) (by omega) (by omega) (by omega) (by omega)
        exact ⟨6, L_n_l1988 6 0 0 (by omega) (by omega) (by omega) (by omega) (by omega)⟩
  exact ⟨6, L_n_l1704 6 0 0 (by omega) (by omega) (by omega) (by omega) (by omega)⟩
theorem z_X9_findBestProbe {X : Mm} {S : Sh} {m0 : Mm} {K : Mm → Prop} {u1 : Int} (hS : Shp S) (hm0 : Inv X S m0) (l_u1 : 1 ≤ u1) (h_u1 : u1 ≤ 31) (hk : ∀ (M1 : Mm), Inv X S M1 → K M1) : wp_X9_findBestProbe S m0 66 u1 K := by
  refine u_X9_findBestProbe ?_
  refine g_C ?_
  have L_n_l857 : ∀ (n_l857 : Nat) (u3 : Int) (m4 : Mm), Inv X S m4 → 0 ≤ u3 → u3 ≤ 5 → 6 - u3 ≤ (n_l857 : Int) → wp_X9_findBestProbe_2 S K n_l857 66 u1 u3 m4 := by
    intro n_l857
    induction n_l857 with
    | zero => intro u3 m4 hm4 bu3 cu3 zn_l857; exfalso; omega
    | succ n_l857 ih_n_l857 =>
      intro u3 m4 hm4 bu3 cu3 zn_l857
      refine u_X9_findBestProbe_2 ?_
      refine g_getr 0 3 rfl hS.k66 hm4.f_66_0 (by decide) ?_
      refine g_getr 0 4 rfl hS.k3 hm4.f_3_0 (by decide) ?_
      refine g_get 4 (0) (5) rfl hS.k4 hm4.f_4_4 (fun v858 ev858 bv858 cv858 => ?_)
      refine g_if (fun w859 => ?_) (fun w859 => ?_)
      · refine g_C ?_
        refine g_put 4 rfl hS.k66 (hm4.w_66_4 (by omega) (by omega)) (fun m860 em860 hm860 => ?_)
        refine g_C ?_
        have L_n_l941 : ∀ (n_l941 : Nat) (u863 : Int) (m864 : Mm), Inv X S m864 → 0 ≤ u863 → u863 ≤ 20 → 21 - u863 ≤ (n_l941 : Int) → wp_X9_findBestProbe_90 S K n_l941 66 u1 u863 m864 := by
          intro n_l941
          induction n_l941 with
          | zero => intro u863 m864 hm864 bu863 cu863 zn_l941; exfalso; omega
          | succ n_l941 ih_n_l941 =>
            intro u863 m864 hm864 bu863 cu863 zn_l941
            refine u_X9_findBestProbe_90 ?_
            refine g_C ?_
            refine g_if (fun w942 => ?_) (fun w942 => ?_)
            · exact hk m864 hm864
            · refine ⟨hS.k66, ?_⟩
              refine z_X9_mostAlike hS hm864 (by omega) (by omega) (by omega) (by omega) (fun v943 bv943 cv943 => ?_)
              refine g_get 4 (-2147483648) (2147483647) rfl hS.k66 hm864.f_66_4 (fun v944 ev944 bv944 cv944 => ?_)
              refine g_if (fun w945 => ?_) (fun w945 => ?_)
              · refine u_X9_findBestProbe_123 ?_
                refine g_A (by omega) (by omega) ?_
                exact ih_n_l941 (u863 + 1) m864 hm864 (by omega) (by omega) (by omega)
              · refine g_put 4 rfl hS.k66 (hm864.w_66_4 (by omega) (by omega)) (fun m946 em946 hm946 => ?_)
                refine g_C ?_
                refine g_A (by omega) (by omega) ?_
                refine g_put 3 rfl hS.k66 (hm946.w_66_3 (by omega) (by omega)) (fun m947 em947 hm947 => ?_)
                refine u_X9_findBestProbe_123 ?_
                refine g_A (by omega) (by omega) ?_
                exact ih_n_l941 (u863 + 1) m947 hm947 (by omega) (by omega) (by omega)
        exact ⟨21, L_n_l941 21 0 m860 hm860 (by omega) (by omega) (by omega)⟩
      · refine g_getr 1 55 rfl hS.k66 hm4.f_66_1 (by decide) ?_
        refine g_C ?_
        refine g_C ?_
        refine g_getr 0 3 rfl hS.k66 hm4.f_66_0 (by decide) ?_
        refine g_getr 1 16 rfl hS.k3 hm4.f_3_1 (by decide) ?_
        refine g_get 0 (0) (999) rfl hS.k16 hm4.f_16_0 (fun v948 ev948 bv948 cv948 => ?_)
        refine ⟨hS.k55, ?_⟩
        refine u_X10_suppose ?_
        refine g_put 4 rfl hS.k55 (hm4.w_55_4 (by omega) (by omega)) (fun m949 em949 hm949 => ?_)
        refine g_put 5 rfl hS.k55 (hm949.w_55_5 (by omega) (by omega)) (fun m950 em950 hm950 => ?_)
        refine g_put 6 rfl hS.k55 (hm950.w_55_6 (by omega) (by omega)) (fun m951 em951 hm951 => ?_)
        refine g_C ?_
        refine g_put 7 rfl hS.k55 (hm951.w_55_7 (by omega) (by omega)) (fun m952 em952 hm952 => ?_)
        refine g_put 8 rfl hS.k55 (hm952.w_55_8 (by omega) (by omega)) (fun m953 em953 hm953 => ?_)
        refine g_C ?_
        refine g_put 10 rfl hS.k55 (hm953.w_55_10 (by omega) (by omega)) (fun m954 em954 hm954 => ?_)
        refine g_C ?_
        refine g_put 11 rfl hS.k55 (hm954.w_55_11 (by omega) (by omega)) (fun m955 em955 hm955 => ?_)
        refine g_C ?_
        have L_n_l1007 : ∀ (n_l1007 : Nat) (u959 : Int) (m960 : Mm), Inv X S m960 → 0 ≤ u959 → u959 ≤ 20 → 21 - u959 ≤ (n_l1007 : Int) → wp_X9_findBestProbe_38 S (fun a0 a1 a2 M => wp_X9_findBestProbe_2 S K n_l857 a0 a1 a2 M) K n_l1007 66 u1 u3 u959 m960 := by
          intro n_l1007
          induction n_l1007 with
          | zero => intro u959 m960 hm960 bu959 cu959 zn_l1007; exfalso; omega
          | succ n_l1007 ih_n_l1007 =>
            intro u959 m960 hm960 bu959 cu959 zn_l1007
            refine u_X9_findBestProbe_38 ?_
            refine g_C ?_
            refine g_if (fun w1008 => ?_) (fun w1008 => ?_)
            · refine g_A (by omega) (by omega) ?_
              exact ih_n_l857 (u3 + 1) m960 hm960 (by omega) (by omega) (by omega)
            · refine g_getr 1 55 rfl hS.k66 hm960.f_66_1 (by decide) ?_
              refine g_C ?_
              refine ⟨hS.k55, ?_⟩
              refine z_X10_holdFor hS hm960 (by omega) (by omega) (fun m1009 hm1009 => ?_)
              refine g_getr 2 67 rfl hS.k66 hm1009.f_66_2 (by decide) ?_
              refine g_C ?_
              refine g_M (by omega) (by omega) ?_
              refine g_A (by omega) (by omega) ?_
              refine g_getr 1 55 rfl hS.k66 hm1009.f_66_1 (by decide) ?_
              refine g_get 6 (0) (999) rfl hS.k55 hm1009.f_55_6 (fun v1010 ev1010 bv1010 cv1010 => ?_)
              refine g_st hS.k67 hS.l67 (by omega) (by omega) (hm1009.wa_67 (by omega) (by omega) (by omega) (by omega)) (fun m1011 em1011 hm1011 => ?_)
              refine g_A (by omega) (by omega) ?_
              exact ih_n_l1007 (u959 + 1) m1011 hm1011 (by omega) (by omega) (by omega)
        exact ⟨21, L_n_l1007 21 0 m955 hm955 (by omega) (by omega) (by omega)⟩
  exact ⟨6, L_n_l857 6 0 m0 hm0 (by omega) (by omega) (by omega)⟩
theorem z_X9_passesAll {X : Mm} {S : Sh} {m0 : Mm} {K : Int → Mm → Prop} {u1 : Int} (hS : Shp S) (hm0 : Inv X S m0) (l_u1 : 0 ≤ u1) (h_u1 : u1 ≤ 4) (hk : ∀ (r : Int) (M1 : Mm), Inv X S M1 → 0 ≤ r → r ≤ 1 → K r M1) : wp_X9_passesAll S m0 66 u1 K := by
  refine u_X9_passesAll ?_
  refine g_C ?_
  have L_n_l181 : ∀ (n_l181 : Nat) (u3 : Int) (m4 : Mm), Inv X S m4 → 0 ≤ u3 → u3 ≤ 10 → 11 - u3 ≤ (n_l181 : Int) → wp_X9_passesAll_2 S K n_l181 66 u1 u3 m4 := by
    intro n_l181
    induction n_l181 with
    | zero => intro u3 m4 hm4 bu3 cu3 zn_l181; exfalso; omega
    | succ n_l181 ih_n_l181 =>
      intro u3 m4 hm4 bu3 cu3 zn_l181
      refine u_X9_passesAll_2 ?_
      refine g_getr 0 3 rfl hS.k66 hm4.f_66_0 (by decide) ?_
      refine g_get 4 (0) (10) rfl hS.k3 hm4.f_3_4 (fun v182 ev182 bv182 cv182 => ?_)
      refine g_if (fun w183 => ?_) (fun w183 => ?_)
      · refine g_C ?_
        refine ⟨by omega, ?_⟩
        exact hk 1 m4 hm4 (by omega) (by omega)
      · refine g_getr 1 55 rfl hS.k66 hm4.f_66_1 (by decide) ?_
        refine g_C ?_
        refine g_getr 0 3 rfl hS.k66 hm4.f_66_0 (by decide) ?_
        refine g_getr 5 24 rfl hS.k3 hm4.f_3_5 (by decide) ?_
        refine g_ld (0) (999) hS.k24 hS.l24 (by omega) (by omega) (hm4.a_24 (by omega) (by omega)) (fun v184 ev184 bv184 cv184 => ?_)
        refine g_getr 0 3 rfl hS.k66 hm4.f_66_0 (by decide) ?_
        refine g_getr 7 26 rfl hS.k3 hm4.f_3_7 (by decide) ?_
        refine g_ld (0) (99) hS.k26 hS.l26 (by omega) (by omega) (hm4.a_26 (by omega) (by omega)) (fun v185 ev185 bv185 cv185 => ?_)
        refine ⟨hS.k55, ?_⟩
        refine u_X10_suppose ?_
        refine g_put 4 rfl hS.k55 (hm4.w_55_4 (by omega) (by omega)) (fun m186 em186 hm186 => ?_)
        refine g_put 5 rfl hS.k55 (hm186.w_55_5 (by omega) (by omega)) (fun m187 em187 hm187 => ?_)
        refine g_put 6 rfl hS.k55 (hm187.w_55_6 (by omega) (by omega)) (fun m188 em188 hm188 => ?_)
        refine g_C ?_
        refine g_put 7 rfl hS.k55 (hm188.w_55_7 (by omega) (by omega)) (fun m189 em189 hm189 => ?_)
        refine g_put 8 rfl hS.k55 (hm189.w_55_8 (by omega) (by omega)) (fun m190 em190 hm190 => ?_)
        refine g_C ?_
        refine g_put 10 rfl hS.k55 (hm190.w_55_10 (by omega) (by omega)) (fun m191 em191 hm191 => ?_)
        refine g_C ?_
        refine g_put 11 rfl hS.k55 (hm191.w_55_11 (by omega) (by omega)) (fun m192 em192 hm192 => ?_)
        refine g_getr 1 55 rfl hS.k66 hm192.f_66_1 (by decide) ?_
        refine g_getr 0 3 rfl hS.k66 hm192.f_66_0 (by decide) ?_
        refine g_getr 6 25 rfl hS.k3 hm192.f_3_6 (by decide) ?_
        refine g_ld (0) (20) hS.k25 hS.l25 (by omega) (by omega) (hm192.a_25 (by omega) (by omega)) (fun v193 ev193 bv193 cv193 => ?_)
        refine ⟨hS.k55, ?_⟩
        refine z_X10_holdFor hS hm192 (by omega) (by omega) (fun m194 hm194 => ?_)
        refine g_getr 1 55 rfl hS.k66 hm194.f_66_1 (by decide) ?_
        refine g_get 6 (0) (999) rfl hS.k55 hm194.f_55_6 (fun v195 ev195 bv195 cv195 => ?_)
        refine g_getr 0 3 rfl hS.k66 hm194.f_66_0 (by decide) ?_
        refine g_getr 8 27 rfl hS.k3 hm194.f_3_8 (by decide) ?_
        refine g_ld (0) (999) hS.k27 hS.l27 (by omega) (by omega) (hm194.a_27 (by omega) (by omega)) (fun v196 ev196 bv196 cv196 => ?_)
        refine g_if (fun w197 => ?_) (fun w197 => ?_)
        · refine g_A (by omega) (by omega) ?_
          exact ih_n_l181 (u3 + 1) m194 hm194 (by omega) (by omega) (by omega)
        · refine g_C ?_
          refine ⟨by omega, ?_⟩
          exact hk 0 m194 hm194 (by omega) (by omega)
  exact ⟨11, L_n_l181 11 0 m0 hm0 (by omega) (by omega) (by omega)⟩
theorem z_X9_handsByTests {X : Mm} {S : Sh} {m0 : Mm} {K : Int → Mm → Prop} (hS : Shp S) (hm0 : Inv X S m0)  (hk : ∀ (r : Int) (M1 : Mm), Inv X S M1 → 0 ≤ r → r ≤ 31 → K r M1) : wp_X9_handsByTests S m0 66 K := by
  refine u_X9_handsByTests ?_
  refine g_C ?_
  refine g_C ?_
  have L_n_l47 : ∀ (n_l47 : Nat) (u2 : Int) (u3 : Int) (m4 : Mm), Inv X S m4 → 0 ≤ u2 → u2 ≤ 31 → 0 ≤ u3 → u3 ≤ 5 → 6 - u3 ≤ (n_l47 : Int) → wp_X9_handsByTests_4 S K n_l47 66 u2 u3 m4 := by
    intro n_l47
    induction n_l47 with
    | zero => intro u2 u3 m4 hm4 bu2 cu2 bu3 cu3 zn_l47; exfalso; omega
    | succ n_l47 ih_n_l47 =>
      intro u2 u3 m4 hm4 bu2 cu2 bu3 cu3 zn_l47
      refine u_X9_handsByTests_4 ?_
      refine g_getr 0 3 rfl hS.k66 hm4.f_66_0 (by decide) ?_
      refine g_getr 0 4 rfl hS.k3 hm4.f_3_0 (by decide) ?_
      refine g_get 4 (0) (5) rfl hS.k4 hm4.f_4_4 (fun v48 ev48 bv48 cv48 => ?_)
      refine g_if (fun w49 => ?_) (fun w49 => ?_)
      · exact hk u2 m4 hm4 (by omega) (by omega)
      · refine ⟨hS.k66, ?_⟩
        refine z_X9_passesAll hS hm4 (by omega) (by omega) (fun v50 m51 hm51 bv50 cv50 => ?_)
        refine g_if (fun w52 => ?_) (fun w52 => ?_)
        · refine u_X9_handsByTests_32 ?_
          refine g_A (by omega) (by omega) ?_
          exact ih_n_l47 u2 (u3 + 1) m51 hm51 (by omega) (by omega) (by omega) (by omega) (by omega)
        · refine g_C ?_
          refine g_iShl 4 (by omega) (by omega) (by decide) (fun v53 bv53 cv53 => ?_)
          refine g_iOr 5 (by omega) (by omega) (by omega) (by omega) (by decide) (fun v54 bv54 cv54 => ?_)
          refine u_X9_handsByTests_32 ?_
          refine g_A (by omega) (by omega) ?_
          exact ih_n_l47 v54 (u3 + 1) m51 hm51 (by omega) (by omega) (by omega) (by omega) (by omega)
  exact ⟨6, L_n_l47 6 0 0 m0 hm0 (by omega) (by omega) (by omega) (by omega) (by omega)⟩
theorem z_X11_probe {X : Mm} {S : Sh} {m0 : Mm} {K : Int → Mm → Prop} {u1 : Int} (hS : Shp S) (hm0 : Inv X S m0) (l_u1 : (-2147483648) ≤ u1) (h_u1 : u1 ≤ 2147483647) (hk : ∀ (r : Int) (M1 : Mm), Inv X S M1 → (-2147483648) ≤ r → r ≤ 2147483647 → K r M1) : wp_X11_probe S m0 0 u1 K := by
  refine u_X11_probe ?_
  refine g_getr 1 3 rfl hS.k0 hm0.f_0_1 (by decide) ?_
  refine g_getr 0 4 rfl hS.k3 hm0.f_3_0 (by decide) ?_
  refine g_get 0 (0) (6) rfl hS.k4 hm0.f_4_0 (fun v1 ev1 bv1 cv1 => ?_)
  refine g_if (fun w2 => ?_) (fun w2 => ?_)
  · refine g_C ?_
    exact hk (-1) m0 hm0 (by omega) (by omega)
  · refine g_if (fun w3 => ?_) (fun w3 => ?_)
    · refine g_C ?_
      exact hk (-1) m0 hm0 (by omega) (by omega)
    · refine g_C ?_
      refine g_if (fun w4 => ?_) (fun w4 => ?_)
      · refine g_getr 14 66 rfl hS.k0 hm0.f_0_14 (by decide) ?_
        refine ⟨hS.k66, ?_⟩
        refine z_X9_handsByTests hS hm0 (fun v5 m6 hm6 bv5 cv5 => ?_)
        refine g_if (fun w7 => ?_) (fun w7 => ?_)
        · refine g_getr 14 66 rfl hS.k0 hm6.f_0_14 (by decide) ?_
          refine ⟨hS.k66, ?_⟩
          refine z_X9_findBestProbe hS hm6 (by omega) (by omega) (fun m8 hm8 => ?_)
          refine g_if (fun w9 => ?_) (fun w9 => ?_)
          · refine g_getr 14 66 rfl hS.k0 hm8.f_0_14 (by decide) ?_
            refine g_get 4 (-2147483648) (2147483647) rfl hS.k66 hm8.f_66_4 (fun v10 ev10 bv10 cv10 => ?_)
            exact hk v10 m8 hm8 (by omega) (by omega)
          · refine g_getr 14 66 rfl hS.k0 hm8.f_0_14 (by decide) ?_
            refine g_get 3 (-2147483648) (2147483647) rfl hS.k66 hm8.f_66_3 (fun v11 ev11 bv11 cv11 => ?_)
            exact hk v11 m8 hm8 (by omega) (by omega)
        · refine g_C ?_
          exact hk (-2) m6 hm6 (by omega) (by omega)
      · refine g_C ?_
        exact hk (-1) m0 hm0 (by omega) (by omega)
theorem z_X2_carried {X : Mm} {S : Sh} {m0 : Mm} {K : Int → Mm → Prop} {u1 u2 u3 : Int} (hS : Shp S) (hm0 : Inv X S m0) (l_u1 : 0 ≤ u1) (h_u1 : u1 ≤ 4) (l_u2 : 0 ≤ u2) (h_u2 : u2 ≤ 4) (l_u3 : 0 ≤ u3) (h_u3 : u3 ≤ 999) (hk : ∀ (r : Int) (M1 : Mm), Inv X S M1 → 0 ≤ r → r ≤ 999 → K r M1) : wp_X2_carried S m0 58 u1 u2 u3 K := by
  refine u_X2_carried ?_
  refine g_getr 0 55 rfl hS.k58 hm0.f_58_0 (by decide) ?_
  refine g_get 7 (0) (3) rfl hS.k58 hm0.f_58_7 (fun v1 ev1 bv1 cv1 => ?_)
  refine g_getr 3 60 rfl hS.k58 hm0.f_58_3 (by decide) ?_
  refine g_ld (0) (999) hS.k60 hS.l60 (by omega) (by omega) (hm0.a_60 (by omega) (by omega)) (fun v2 ev2 bv2 cv2 => ?_)
  refine ⟨hS.k55, ?_⟩
  refine u_X10_suppose ?_
  refine g_put 4 rfl hS.k55 (hm0.w_55_4 (by omega) (by omega)) (fun m3 em3 hm3 => ?_)
  refine g_put 5 rfl hS.k55 (hm3.w_55_5 (by omega) (by omega)) (fun m4 em4 hm4 => ?_)
  refine g_put 6 rfl hS.k55 (hm4.w_55_6 (by omega) (by omega)) (fun m5 em5 hm5 => ?_)
  refine g_C ?_
  refine g_put 7 rfl hS.k55 (hm5.w_55_7 (by omega) (by omega)) (fun m6 em6 hm6 => ?_)
  refine g_put 8 rfl hS.k55 (hm6.w_55_8 (by omega) (by omega)) (fun m7 em7 hm7 => ?_)
  refine g_C ?_
  refine g_put 10 rfl hS.k55 (hm7.w_55_10 (by omega) (by omega)) (fun m8 em8 hm8 => ?_)
  refine g_C ?_
  refine g_put 11 rfl hS.k55 (hm8.w_55_11 (by omega) (by omega)) (fun m9 em9 hm9 => ?_)
  refine g_getr 0 55 rfl hS.k58 hm9.f_58_0 (by decide) ?_
  refine g_C ?_
  refine g_put 10 rfl hS.k55 (hm9.w_55_10 (by omega) (by omega)) (fun m10 em10 hm10 => ?_)
  refine g_getr 0 55 rfl hS.k58 hm10.f_58_0 (by decide) ?_
  refine g_getr 2 59 rfl hS.k58 hm10.f_58_2 (by decide) ?_
  refine g_ld (0) (5) hS.k59 hS.l59 (by omega) (by omega) (hm10.a_59 (by omega) (by omega)) (fun v11 ev11 bv11 cv11 => ?_)
  refine ⟨hS.k55, ?_⟩
  refine z_X10_holdFor hS hm10 (by omega) (by omega) (fun m12 hm12 => ?_)
  refine g_getr 0 55 rfl hS.k58 hm12.f_58_0 (by decide) ?_
  refine g_get 6 (0) (999) rfl hS.k55 hm12.f_55_6 (fun v13 ev13 bv13 cv13 => ?_)
  exact hk v13 m12 hm12 (by omega) (by omega)
theorem z_X2_firstHand {X : Mm} {S : Sh} {m0 : Mm} {K : Int → Mm → Prop} {u1 u2 : Int} (hS : Shp S) (hm0 : Inv X S m0) (l_u1 : 0 ≤ u1) (h_u1 : u1 ≤ 4) (l_u2 : 0 ≤ u2) (h_u2 : u2 ≤ 999) (hk : ∀ (r : Int) (M1 : Mm), Inv X S M1 → 0 ≤ r → r ≤ 4 → K r M1) : wp_X2_firstHand S m0 58 u1 u2 K := by
  refine u_X2_firstHand ?_
  refine g_C ?_
  have L_n_l42 : ∀ (n_l42 : Nat) (u4 : Int) (m5 : Mm), Inv X S m5 → 0 ≤ u4 → u4 ≤ 5 → 6 - u4 ≤ (n_l42 : Int) → wp_X2_firstHand_2 S K n_l42 58 u1 u2 u4 m5 := by
    intro n_l42
    induction n_l42 with
    | zero => intro u4 m5 hm5 bu4 cu4 zn_l42; exfalso; omega
    | succ n_l42 ih_n_l42 =>
      intro u4 m5 hm5 bu4 cu4 zn_l42
      refine u_X2_firstHand_2 ?_
      refine g_getr 1 4 rfl hS.k58 hm5.f_58_1 (by decide) ?_
      refine g_get 4 (0) (5) rfl hS.k4 hm5.f_4_4 (fun v43 ev43 bv43 cv43 => ?_)
      refine g_if (fun w44 => ?_) (fun w44 => ?_)
      · refine g_C ?_
        exact hk 0 m5 hm5 (by omega) (by omega)
      · refine g_getr 4 61 rfl hS.k58 hm5.f_58_4 (by decide) ?_
        refine g_C ?_
        refine g_A (by omega) (by omega) ?_
        refine g_C ?_
        refine g_M (by omega) (by omega) ?_
        refine ⟨hS.k58, ?_⟩
        refine z_X2_carried hS hm5 (by omega) (by omega) (by omega) (by omega) (by omega) (by omega) (fun v45 m46 hm46 bv45 cv45 => ?_)
        refine g_A (by omega) (by omega) ?_
        refine g_ld (-2147483648) (2147483647) hS.k61 hS.l61 (by omega) (by omega) (hm46.a_61 (by omega) (by omega)) (fun v47 ev47 bv47 cv47 => ?_)
        refine g_if (fun w48 => ?_) (fun w48 => ?_)
        · refine g_A (by omega) (by omega) ?_
          exact ih_n_l42 (u4 + 1) m46 hm46 (by omega) (by omega) (by omega)
        · exact hk u4 m46 hm46 (by omega) (by omega)
  exact ⟨6, L_n_l42 6 0 m0 hm0 (by omega) (by omega) (by omega)⟩
theorem z_X2_handOfFirst {X : Mm} {S : Sh} {m0 : Mm} {K : Int → Mm → Prop} {u1 : Int} (hS : Shp S) (hm0 : Inv X S m0) (l_u1 : 0 ≤ u1) (h_u1 : u1 ≤ 4) (hk : ∀ (r : Int) (M1 : Mm), Inv X S M1 → (-2) ≤ r → r ≤ 4 → K r M1) : wp_X2_handOfFirst S m0 58 u1 K := by
  refine u_X2_handOfFirst ?_
  refine g_get 6 (0) (5) rfl hS.k58 hm0.f_58_6 (fun v1 ev1 bv1 cv1 => ?_)
  refine g_if (fun w2 => ?_) (fun w2 => ?_)
  · refine g_C ?_
    exact hk (-2) m0 hm0 (by omega) (by omega)
  · refine ⟨hS.k58, ?_⟩
    refine u_X2_howMany ?_
    refine g_getr 4 61 rfl hS.k58 hm0.f_58_4 (by decide) ?_
    refine g_get 8 (0) (999) rfl hS.k58 hm0.f_58_8 (fun v3 ev3 bv3 cv3 => ?_)
    refine g_ld (-2147483648) (2147483647) hS.k61 hS.l61 (by omega) (by omega) (hm0.a_61 (by omega) (by omega)) (fun v4 ev4 bv4 cv4 => ?_)
    refine g_if (fun w5 => ?_) (fun w5 => ?_)
    · refine g_get 8 (0) (999) rfl hS.k58 hm0.f_58_8 (fun v6 ev6 bv6 cv6 => ?_)
      have qv6 : v6 = v3 := ev6.trans ev3.symm
      refine g_C ?_
      have L_n_l47 : ∀ (n_l47 : Nat) (u9 : Int) (u10 : Int) (m11 : Mm), Inv X S m11 → 0 ≤ u9 → u9 ≤ 999 → 0 ≤ u10 → u10 ≤ 4 → 5 - u10 ≤ (n_l47 : Int) → wp_X2_handOfFirst_25 S K n_l47 58 u1 u9 u10 m11 := by
        intro n_l47
        induction n_l47 with
        | zero => intro u9 u10 m11 hm11 bu9 cu9 bu10 cu10 zn_l47; exfalso; omega
        | succ n_l47 ih_n_l47 =>
          intro u9 u10 m11 hm11 bu9 cu9 bu10 cu10 zn_l47
          refine u_X2_handOfFirst_25 ?_
          refine g_if (fun w48 => ?_) (fun w48 => ?_)
          · refine ⟨hS.k58, ?_⟩
            refine z_X2_firstHand hS hm11 (by omega) (by omega) (by omega) (by omega) (fun v49 m50 hm50 bv49 cv49 => ?_)
            exact hk v49 m50 hm50 (by omega) (by omega)
          · refine ⟨hS.k58, ?_⟩
            refine z_X2_firstHand hS hm11 (by omega) (by omega) (by omega) (by omega) (fun v51 m52 hm52 bv51 cv51 => ?_)
            refine ⟨hS.k58, ?_⟩
            refine z_X2_carried hS hm52 (by omega) (by omega) (by omega) (by omega) (by omega) (by omega) (fun v53 m54 hm54 bv53 cv53 => ?_)
            refine g_A (by omega) (by omega) ?_
            exact ih_n_l47 v53 (u10 + 1) m54 hm54 (by omega) (by omega) (by omega) (by omega) (by omega)
      exact ⟨5, L_n_l47 5 v6 0 m0 hm0 (by omega) (by omega) (by omega) (by omega) (by omega)⟩
    · refine g_C ?_
      exact hk (-2) m0 hm0 (by omega) (by omega)
theorem z_X8_nextPlace {X : Mm} {S : Sh} {m0 : Mm} {K : Int → Mm → Prop} {u1 u2 : Int} (hS : Shp S) (hm0 : Inv X S m0) (l_u1 : 0 ≤ u1) (h_u1 : u1 ≤ 5) (l_u2 : 0 ≤ u2) (h_u2 : u2 ≤ 5) (hk : ∀ (r : Int), (-1) ≤ r → r ≤ 5 → K r m0) : wp_X8_nextPlace S m0 4 u1 u2 K := by
  refine u_X8_nextPlace ?_
  refine g_C ?_
  have L_n_l55 : ∀ (n_l55 : Nat) (u4 : Int), 0 ≤ u4 → u4 ≤ 6 → 7 - u4 ≤ (n_l55 : Int) → wp_X8_nextPlace_2 S K n_l55 4 u1 u2 u4 m0 := by
    intro n_l55
    induction n_l55 with
    | zero => intro u4 bu4 cu4 zn_l55; exfalso; omega
    | succ n_l55 ih_n_l55 =>
      intro u4 bu4 cu4 zn_l55
      refine u_X8_nextPlace_2 ?_
      refine g_get 0 (0) (6) rfl hS.k4 hm0.f_4_0 (fun v56 ev56 bv56 cv56 => ?_)
      refine g_if (fun w57 => ?_) (fun w57 => ?_)
      · refine g_C ?_
        exact hk (-1) (by omega) (by omega)
      · refine ⟨hS.k4, ?_⟩
        refine u_X8_roadHours ?_
        refine g_getr 8 5 rfl hS.k4 hm0.f_4_8 (by decide) ?_
        refine u_X8_pair ?_
        refine g_C ?_
        refine g_M (by omega) (by omega) ?_
        refine g_A (by omega) (by omega) ?_
        refine g_ld (0) (5) hS.k5 hS.l5 (by omega) (by omega) (hm0.a_5 (by omega) (by omega)) (fun v58 ev58 bv58 cv58 => ?_)
        refine g_if (fun w59 => ?_) (fun w59 => ?_)
        · refine u_X8_nextPlace_43 ?_
          refine g_A (by omega) (by omega) ?_
          exact ih_n_l55 (u4 + 1) (by omega) (by omega) (by omega)
        · refine ⟨hS.k4, ?_⟩
          refine u_X8_wayHours ?_
          refine g_getr 9 6 rfl hS.k4 hm0.f_4_9 (by decide) ?_
          refine u_X8_pair ?_
          refine g_C ?_
          refine g_M (by omega) (by omega) ?_
          refine g_A (by omega) (by omega) ?_
          refine g_ld (0) (1000) hS.k6 hS.l6 (by omega) (by omega) (hm0.a_6 (by omega) (by omega)) (fun v60 ev60 bv60 cv60 => ?_)
          refine g_A (by omega) (by omega) ?_
          refine ⟨hS.k4, ?_⟩
          refine u_X8_wayHours ?_
          refine g_getr 9 6 rfl hS.k4 hm0.f_4_9 (by decide) ?_
          refine u_X8_pair ?_
          refine g_C ?_
          refine g_M (by omega) (by omega) ?_
          refine g_A (by omega) (by omega) ?_
          refine g_ld (0) (1000) hS.k6 hS.l6 (by omega) (by omega) (hm0.a_6 (by omega) (by omega)) (fun v61 ev61 bv61 cv61 => ?_)
          refine g_if (fun w62 => ?_) (fun w62 => ?_)
          · refine u_X8_nextPlace_43 ?_
            refine g_A (by omega) (by omega) ?_
            exact ih_n_l55 (u4 + 1) (by omega) (by omega) (by omega)
          · exact hk u4 (by omega) (by omega)
  exact ⟨7, L_n_l55 7 0 (by omega) (by omega) (by omega)⟩
theorem z_X2_setOut {X : Mm} {S : Sh} {m0 : Mm} {K : Mm → Prop} {u1 u2 u3 u4 : Int} (hS : Shp S) (hm0 : Inv X S m0) (l_u1 : 0 ≤ u1) (h_u1 : u1 ≤ 3) (l_u2 : 0 ≤ u2) (h_u2 : u2 ≤ 5) (l_u3 : 0 ≤ u3) (h_u3 : u3 ≤ 5) (l_u4 : 0 ≤ u4) (h_u4 : u4 ≤ 999) (hk : ∀ (M1 : Mm), Inv X S M1 → K M1) : wp_X2_setOut S m0 58 u1 u2 u3 u4 K := by
  refine u_X2_setOut ?_
  refine g_put 7 rfl hS.k58 (hm0.w_58_7 (by omega) (by omega)) (fun m1 em1 hm1 => ?_)
  refine g_C ?_
  refine g_put 6 rfl hS.k58 (hm1.w_58_6 (by omega) (by omega)) (fun m2 em2 hm2 => ?_)
  have L_n_l37 : ∀ (n_l37 : Nat) (u5 : Int) (u6 : Int) (m7 : Mm), Inv X S m7 → 0 ≤ u5 → u5 ≤ 5 → 0 ≤ u6 → u6 ≤ 1029 → (u6 ≤ 999 + 5 * m7 58 6) → 6 - m7 58 6 ≤ (n_l37 : Int) → wp_X2_setOut_17 S K n_l37 58 u3 u5 u6 m7 := by
    intro n_l37
    induction n_l37 with
    | zero => intro u5 u6 m7 hm7 bu5 cu5 bu6 cu6 xn_l37_0 zn_l37; exfalso; have zz58_6 := hm7.f_58_6; omega
    | succ n_l37 ih_n_l37 =>
      intro u5 u6 m7 hm7 bu5 cu5 bu6 cu6 xn_l37_0 zn_l37
      refine u_X2_setOut_17 ?_
      refine g_get 6 (0) (5) rfl hS.k58 hm7.f_58_6 (fun v38 ev38 bv38 cv38 => ?_)
      refine g_C ?_
      refine g_if (fun w39 => ?_) (fun w39 => ?_)
      · have zb40 := hm7.f_58_6
        exact hk m7 hm7
      · refine g_if (fun w42 => ?_) (fun w42 => ?_)
        · have zb43 := hm7.f_58_6
          exact hk m7 hm7
        · refine g_getr 1 4 rfl hS.k58 hm7.f_58_1 (by decide) ?_
          refine ⟨hS.k4, ?_⟩
          refine z_X8_nextPlace hS hm7 (by omega) (by omega) (by omega) (by omega) (fun v45 bv45 cv45 => ?_)
          refine g_C ?_
          refine g_if (fun w46 => ?_) (fun w46 => ?_)
          · refine g_getr 2 59 rfl hS.k58 hm7.f_58_2 (by decide) ?_
            refine g_get 6 (0) (5) rfl hS.k58 hm7.f_58_6 (fun v47 ev47 bv47 cv47 => ?_)
            have qv47 : v47 = v38 := ev47.trans ev38.symm
            refine g_getr 1 4 rfl hS.k58 hm7.f_58_1 (by decide) ?_
            refine ⟨hS.k4, ?_⟩
            refine u_X8_roadHours ?_
            refine g_getr 8 5 rfl hS.k4 hm7.f_4_8 (by decide) ?_
            refine u_X8_pair ?_
            refine g_C ?_
            refine g_M (by omega) (by omega) ?_
            refine g_A (by omega) (by omega) ?_
            refine g_ld (0) (5) hS.k5 hS.l5 (by omega) (by omega) (hm7.a_5 (by omega) (by omega)) (fun v48 ev48 bv48 cv48 => ?_)
            refine g_st hS.k59 hS.l59 (by omega) (by omega) (hm7.wa_59 (by omega) (by omega) (by omega) (by omega)) (fun m49 em49 hm49 => ?_)
            refine g_getr 3 60 rfl hS.k58 hm49.f_58_3 (by decide) ?_
            refine g_get 6 (0) (5) rfl hS.k58 hm49.f_58_6 (fun v50 ev50 bv50 cv50 => ?_)
            have qv50 : v50 = v38 := ev50.trans ((congrFun (congrFun em49 _) _).trans ((up_ne (by omega)).trans ev38.symm))
            refine g_C ?_
            refine g_min (fun v51 bv51 cv51 dv51 => ?_)
            refine g_st hS.k60 hS.l60 (by omega) (by omega) (hm49.wa_60 (by omega) (by omega) (by omega) (by omega)) (fun m52 em52 hm52 => ?_)
            refine g_getr 2 59 rfl hS.k58 hm52.f_58_2 (by decide) ?_
            refine g_get 6 (0) (5) rfl hS.k58 hm52.f_58_6 (fun v53 ev53 bv53 cv53 => ?_)
            have qv53 : v53 = v38 := ev53.trans ((congrFun (congrFun em52 _) _).trans ((up_ne (by omega)).trans ((congrFun (congrFun em49 _) _).trans ((up_ne (by omega)).trans ev38.symm))))
            refine g_ld (0) (5) hS.k59 hS.l59 (by omega) (by omega) (hm52.a_59 (by omega) (by omega)) (fun v54 ev54 bv54 cv54 => ?_)
            have qv54 : v54 = v48 := ev54.trans ((congrFun (congrFun em52 _) _).trans ((up_ne (by omega)).trans ((congrFun (congrFun em49 _) _).trans (up_ate (by omega)))))
            refine g_A (by omega) (by omega) ?_
            refine g_get 6 (0) (5) rfl hS.k58 hm52.f_58_6 (fun v55 ev55 bv55 cv55 => ?_)
            have qv55 : v55 = v38 := ev55.trans ((congrFun (congrFun em52 _) _).trans ((up_ne (by omega)).trans ((congrFun (congrFun em49 _) _).trans ((up_ne (by omega)).trans ev38.symm))))
            refine g_C ?_
            refine g_A (by omega) (by omega) ?_
            refine g_put 6 rfl hS.k58 (hm52.w_58_6 (by omega) (by omega)) (fun m56 em56 hm56 => ?_)
            have zb57 := hm56.f_58_6
            have q58 : m56 58 6 = (v55 + 1) := (Eq.refl (m56 58 6)).trans ((congrFun (congrFun em56 _) _).trans (up_ate (by omega)))
            exact ih_n_l37 v45 (u6 + v54) m56 hm56 (by omega) (by omega) (by omega) (by omega) (by omega) (by omega)
          · have zb59 := hm7.f_58_6
            exact hk m7 hm7
  have zb61 := hm2.f_58_6
  have q62 : m2 58 6 = 0 := (Eq.refl (m2 58 6)).trans ((congrFun (congrFun em2 _) _).trans (up_ate (by omega)))
  exact ⟨6, L_n_l37 6 u2 u4 m2 hm2 (by omega) (by omega) (by omega) (by omega) (by omega) (by omega)⟩
theorem z_X2_visit_d0 {X : Mm} {S : Sh} {m0 : Mm} {K : Mm → Prop} {u1 u2 : Int} (hS : Shp S) (hm0 : Inv X S m0) (l_u1 : 5 ≤ u1) (h_u1 : u1 ≤ 5) (l_u2 : 0 ≤ u2) (h_u2 : u2 ≤ 999) (hk : ∀ (M1 : Mm), Inv X S M1 → K M1) : wp_X2_visit_d0 S m0 58 u1 u2 K := by
  refine u_X2_visit_d0 ?_
  refine g_C ?_
  refine g_M (by omega) (by omega) ?_
  refine g_A (by omega) (by omega) ?_
  refine g_C ?_
  refine g_ifF (by omega) ?_
  refine g_getr 4 61 rfl hS.k58 hm0.f_58_4 (by decide) ?_
  refine g_ld (-2147483648) (2147483647) hS.k61 hS.l61 (by omega) (by omega) (hm0.a_61 (by omega) (by omega)) (fun v1 ev1 bv1 cv1 => ?_)
  refine g_C ?_
  refine g_if (fun w2 => ?_) (fun w2 => ?_)
  · refine g_get 6 (0) (5) rfl hS.k58 hm0.f_58_6 (fun v3 ev3 bv3 cv3 => ?_)
    refine g_ifF (by omega) ?_
    refine g_getr 4 61 rfl hS.k58 hm0.f_58_4 (by decide) ?_
    refine g_get 9 (-2147483648) (2147483647) rfl hS.k58 hm0.f_58_9 (fun v4 ev4 bv4 cv4 => ?_)
    refine g_if (fun w5 => ?_) (fun w5 => ?_)
    · refine u_X2_visit_d0_57 ?_
      refine g_C ?_
      refine u_X2_visit_d0_58 ?_
      refine g_st hS.k61 hS.l61 (by omega) (by omega) (hm0.wa_61 (by omega) (by omega) (by omega) (by omega)) (fun m6 em6 hm6 => ?_)
      refine g_getr 5 62 rfl hS.k58 hm6.f_58_5 (by decide) ?_
      refine g_st hS.k62 hS.l62 (by omega) (by omega) (hm6.wa_62 (by omega) (by omega) (by omega) (by omega)) (fun m7 em7 hm7 => ?_)
      exact hk m7 hm7
    · refine g_get 10 (-2147483648) (2147483647) rfl hS.k58 hm0.f_58_10 (fun v8 ev8 bv8 cv8 => ?_)
      refine g_if (fun w9 => ?_) (fun w9 => ?_)
      · refine u_X2_visit_d0_57 ?_
        refine g_C ?_
        refine u_X2_visit_d0_58 ?_
        refine g_st hS.k61 hS.l61 (by omega) (by omega) (hm0.wa_61 (by omega) (by omega) (by omega) (by omega)) (fun m10 em10 hm10 => ?_)
        refine g_getr 5 62 rfl hS.k58 hm10.f_58_5 (by decide) ?_
        refine g_st hS.k62 hS.l62 (by omega) (by omega) (hm10.wa_62 (by omega) (by omega) (by omega) (by omega)) (fun m11 em11 hm11 => ?_)
        exact hk m11 hm11
      · refine g_C ?_
        refine u_X2_visit_d0_58 ?_
        refine g_st hS.k61 hS.l61 (by omega) (by omega) (hm0.wa_61 (by omega) (by omega) (by omega) (by omega)) (fun m12 em12 hm12 => ?_)
        refine g_getr 5 62 rfl hS.k58 hm12.f_58_5 (by decide) ?_
        refine g_st hS.k62 hS.l62 (by omega) (by omega) (hm12.wa_62 (by omega) (by omega) (by omega) (by omega)) (fun m13 em13 hm13 => ?_)
        exact hk m13 hm13
  · exact hk m0 hm0
end
