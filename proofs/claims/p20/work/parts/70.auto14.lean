theorem z_X12_turnedResting {X : Mm} {S : Sh} {m0 : Mm} {K : Int → Mm → Prop} {u1 u2 u3 : Int} (hS : Shp S) (hm0 : Inv X S m0) (l_u1 : 0 ≤ u1) (h_u1 : u1 ≤ 4) (l_u2 : 1 ≤ u2) (h_u2 : u2 ≤ 10) (l_u3 : 0 ≤ u3) (h_u3 : u3 ≤ 1023) (hk : ∀ (r : Int) (M1 : Mm), Inv X S M1 → (-2147483648) ≤ r → r ≤ 999 → K r M1) : wp_X12_turnedResting S m0 336 u1 u2 u3 K := by
  refine u_X12_turnedResting ?_
  refine g_C ?_
  refine g_C ?_
  refine ⟨hS.k336, ?_⟩
  refine u_X12_handOf ?_
  refine g_getr 20 346 rfl hS.k336 hm0.f_336_20 (by decide) ?_
  refine g_C ?_
  refine g_C ?_
  refine g_M (by omega) (by omega) ?_
  refine g_A (by omega) (by omega) ?_
  refine g_A (by omega) (by omega) ?_
  refine g_ld (0) (99) hS.k346 hS.l346 (by omega) (by omega) (fam_346_12_5_0_4 hm0 (a := u1) (by omega) (by omega) (by omega)) (fun v1 ev1 bv1 cv1 => ?_)
  refine g_C ?_
  have L_n_l172 : ∀ (n_l172 : Nat) (u6 : Int) (u7 : Int) (u8 : Int) (m9 : Mm), Inv X S m9 → (-2147483648) ≤ u6 → u6 ≤ 999 → 0 ≤ u7 → u7 ≤ 104 → 0 ≤ u8 → u8 ≤ 10 → 11 - u8 ≤ (n_l172 : Int) → wp_X12_turnedResting_14 S K n_l172 336 u1 u2 u3 u6 u7 u8 m9 := by
    intro n_l172
    induction n_l172 with
    | zero => intro u6 u7 u8 m9 hm9 bu6 cu6 bu7 cu7 bu8 cu8 zn_l172; exfalso; omega
    | succ n_l172 ih_n_l172 =>
      intro u6 u7 u8 m9 hm9 bu6 cu6 bu7 cu7 bu8 cu8 zn_l172
      refine u_X12_turnedResting_14 ?_
      refine g_if (fun w173 => ?_) (fun w173 => ?_)
      · exact hk u6 m9 hm9 (by omega) (by omega)
      · refine u_X12_isOf ?_
        refine g_iShr (by omega) (by omega) (fun v174 bv174 cv174 => ?_)
        refine g_C ?_
        refine g_iAndR (by omega) (by omega) (fun v175 dv175 bv175 cv175 => ?_)
        refine g_C ?_
        refine g_if (fun w176 => ?_) (fun w176 => ?_)
        · refine g_C ?_
          refine ⟨by omega, ?_⟩
          refine g_ifT (by omega) ?_
          refine g_if (fun w177 => ?_) (fun w177 => ?_)
          · refine g_C ?_
            refine u_X12_turnedResting_86 ?_
            refine g_S (by omega) (by omega) ?_
            refine u_X12_turnedResting_89 ?_
            refine g_A (by omega) (by omega) ?_
            exact ih_n_l172 u6 (u7 - 0) (u8 + 1) m9 hm9 (by omega) (by omega) (by omega) (by omega) (by omega) (by omega) (by omega)
          · refine g_C ?_
            refine u_X12_turnedResting_86 ?_
            refine g_S (by omega) (by omega) ?_
            refine u_X12_turnedResting_89 ?_
            refine g_A (by omega) (by omega) ?_
            exact ih_n_l172 u6 (u7 - 1) (u8 + 1) m9 hm9 (by omega) (by omega) (by omega) (by omega) (by omega) (by omega) (by omega)
        · refine g_C ?_
          refine ⟨by omega, ?_⟩
          refine g_ifF (by omega) ?_
          refine g_C ?_
          refine g_getr 20 346 rfl hS.k336 hm9.f_336_20 (by decide) ?_
          refine g_C ?_
          refine g_ld (-2147483648) (2147483647) hS.k346 hS.l346 (by omega) (by omega) (hm9.f_346_7) (fun v178 ev178 bv178 cv178 => ?_)
          refine g_Aw (fun v179 bv179 cv179 => ?_)
          refine g_C ?_
          refine g_C ?_
          refine ⟨hS.k336, ?_⟩
          refine z_X12_turnsIn hS hm9 (by omega) (by omega) (by omega) (by omega) (by omega) (by omega) (by omega) (by omega) (by omega) (by omega) (by omega) (by omega) (by omega) (by omega) (fun v180 m181 hm181 fm181 bv180 cv180 => ?_)
          refine g_Aw (fun v182 bv182 cv182 => ?_)
          refine g_C ?_
          refine u_X12_atMost ?_
          refine g_if (fun w183 => ?_) (fun w183 => ?_)
          · refine ⟨hS.k336, ?_⟩
            refine u_X12_moreTired ?_
            refine g_C ?_
            refine ⟨hS.k336, ?_⟩
            refine u_X12_handOf ?_
            refine g_getr 20 346 rfl hS.k336 hm181.f_336_20 (by decide) ?_
            refine g_C ?_
            refine g_C ?_
            refine g_M (by omega) (by omega) ?_
            refine g_A (by omega) (by omega) ?_
            refine g_A (by omega) (by omega) ?_
            refine g_ld (0) (5) hS.k346 hS.l346 (by omega) (by omega) (fam_346_14_5_0_4 hm181 (a := u1) (by omega) (by omega) (by omega)) (fun v184 ev184 bv184 cv184 => ?_)
            refine g_A (by omega) (by omega) ?_
            refine g_C ?_
            refine u_X12_atMost ?_
            refine g_if (fun w185 => ?_) (fun w185 => ?_)
            · refine u_X12_turnedResting_89 ?_
              refine g_A (by omega) (by omega) ?_
              exact ih_n_l172 v182 (u7 + v184) (u8 + 1) m181 hm181 (by omega) (by omega) (by omega) (by omega) (by omega) (by omega) (by omega)
            · refine u_X12_turnedResting_89 ?_
              refine g_A (by omega) (by omega) ?_
              exact ih_n_l172 v182 99 (u8 + 1) m181 hm181 (by omega) (by omega) (by omega) (by omega) (by omega) (by omega) (by omega)
          · refine ⟨hS.k336, ?_⟩
            refine u_X12_moreTired ?_
            refine g_C ?_
            refine ⟨hS.k336, ?_⟩
            refine u_X12_handOf ?_
            refine g_getr 20 346 rfl hS.k336 hm181.f_336_20 (by decide) ?_
            refine g_C ?_
            refine g_C ?_
            refine g_M (by omega) (by omega) ?_
            refine g_A (by omega) (by omega) ?_
            refine g_A (by omega) (by omega) ?_
            refine g_ld (0) (5) hS.k346 hS.l346 (by omega) (by omega) (fam_346_14_5_0_4 hm181 (a := u1) (by omega) (by omega) (by omega)) (fun v186 ev186 bv186 cv186 => ?_)
            refine g_A (by omega) (by omega) ?_
            refine g_C ?_
            refine u_X12_atMost ?_
            refine g_if (fun w187 => ?_) (fun w187 => ?_)
            · refine u_X12_turnedResting_89 ?_
              refine g_A (by omega) (by omega) ?_
              exact ih_n_l172 999 (u7 + v186) (u8 + 1) m181 hm181 (by omega) (by omega) (by omega) (by omega) (by omega) (by omega) (by omega)
            · refine u_X12_turnedResting_89 ?_
              refine g_A (by omega) (by omega) ?_
              exact ih_n_l172 999 99 (u8 + 1) m181 hm181 (by omega) (by omega) (by omega) (by omega) (by omega) (by omega) (by omega)
  exact ⟨11, L_n_l172 11 0 v1 0 m0 hm0 (by omega) (by omega) (by omega) (by omega) (by omega) (by omega) (by omega)⟩
theorem z_X12_rest {X : Mm} {S : Sh} {m0 : Mm} {K : Int → Mm → Prop} {u1 u2 u3 u4 : Int} (hS : Shp S) (hm0 : Inv X S m0) (l_u1 : (-2147483648) ≤ u1) (h_u1 : u1 ≤ 2147483647) (l_u2 : (-2147483648) ≤ u2) (h_u2 : u2 ≤ 2147483647) (l_u3 : (-2147483648) ≤ u3) (h_u3 : u3 ≤ 2147483647) (l_u4 : (-2147483648) ≤ u4) (h_u4 : u4 ≤ 2147483647) (hk : ∀ (r : Int) (M1 : Mm), Inv X S M1 → (-2147483648) ≤ r → r ≤ 6000 → K r M1) : wp_X12_rest S m0 336 u1 u2 u3 u4 K := by
  refine u_X12_rest ?_
  refine ⟨hS.k336, ?_⟩
  refine u_X12_isHand ?_
  refine g_if (fun w1 => ?_) (fun w1 => ?_)
  · refine g_C ?_
    refine ⟨by omega, ?_⟩
    refine g_ifT (by omega) ?_
    refine g_C ?_
    exact hk (-1) m0 hm0 (by omega) (by omega)
  · refine g_getr 20 346 rfl hS.k336 hm0.f_336_20 (by decide) ?_
    refine g_C ?_
    refine g_ld (0) (5) hS.k346 hS.l346 (by omega) (by omega) (hm0.f_346_4) (fun v2 ev2 bv2 cv2 => ?_)
    refine g_if (fun w3 => ?_) (fun w3 => ?_)
    · refine g_C ?_
      refine ⟨by omega, ?_⟩
      refine g_ifT (by omega) ?_
      refine g_C ?_
      exact hk (-1) m0 hm0 (by omega) (by omega)
    · refine g_C ?_
      refine ⟨by omega, ?_⟩
      refine g_ifF (by omega) ?_
      refine g_C ?_
      refine g_C ?_
      refine g_C ?_
      refine z_in (fun aw4 bw4 => ?_) (fun cw4 => ?_)
      · refine g_ifF (by omega) ?_
        refine g_C ?_
        refine g_C ?_
        refine g_C ?_
        refine z_in (fun aw5 bw5 => ?_) (fun cw5 => ?_)
        · refine g_ifF (by omega) ?_
          refine g_C ?_
          refine g_C ?_
          refine g_C ?_
          refine z_in (fun aw6 bw6 => ?_) (fun cw6 => ?_)
          · refine g_ifT (by omega) ?_
            refine g_C ?_
            refine g_C ?_
            refine g_C ?_
            have L_n_l210 : ∀ (n_l210 : Nat) (u12 : Int) (u13 : Int) (u14 : Int) (m15 : Mm), Inv X S m15 → (-1) ≤ u12 → u12 ≤ 6000 → (-2147483648) ≤ u13 → u13 ≤ 999 → 0 ≤ u14 → u14 ≤ 1024 → 1025 - u14 ≤ (n_l210 : Int) → wp_X12_rest_53 S K n_l210 336 u1 u2 u3 u4 u12 u13 u14 m15 := by
              intro n_l210
              induction n_l210 with
              | zero => intro u12 u13 u14 m15 hm15 bu12 cu12 bu13 cu13 bu14 cu14 zn_l210; exfalso; omega
              | succ n_l210 ih_n_l210 =>
                intro u12 u13 u14 m15 hm15 bu12 cu12 bu13 cu13 bu14 cu14 zn_l210
                refine u_X12_rest_53 ?_
                refine g_C ?_
                refine g_iShl 10 (by omega) (by omega) (by decide) (fun v211 bv211 cv211 => ?_)
                refine g_if (fun w212 => ?_) (fun w212 => ?_)
                · refine g_if (fun w213 => ?_) (fun w213 => ?_)
                  · exact hk u13 m15 hm15 (by omega) (by omega)
                  · exact hk u12 m15 hm15 (by omega) (by omega)
                · refine z_X12_bits hS hm15 (by omega) (by omega) (fun v214 bv214 cv214 => ?_)
                  refine g_if (fun w215 => ?_) (fun w215 => ?_)
                  · refine ⟨hS.k336, ?_⟩
                    refine z_X12_turnedResting hS hm15 (by omega) (by omega) (by omega) (by omega) (by omega) (by omega) (fun v216 m217 hm217 bv216 cv216 => ?_)
                    refine g_if (fun w218 => ?_) (fun w218 => ?_)
                    · refine u_X12_rest_98 ?_
                      refine u_X12_rest_106 ?_
                      refine g_A (by omega) (by omega) ?_
                      exact ih_n_l210 u14 v216 (u14 + 1) m217 hm217 (by omega) (by omega) (by omega) (by omega) (by omega) (by omega) (by omega)
                    · refine g_if (fun w219 => ?_) (fun w219 => ?_)
                      · refine u_X12_rest_98 ?_
                        refine u_X12_rest_106 ?_
                        refine g_A (by omega) (by omega) ?_
                        exact ih_n_l210 u14 v216 (u14 + 1) m217 hm217 (by omega) (by omega) (by omega) (by omega) (by omega) (by omega) (by omega)
                      · refine u_X12_rest_106 ?_
                        refine g_A (by omega) (by omega) ?_
                        exact ih_n_l210 u12 u13 (u14 + 1) m217 hm217 (by omega) (by omega) (by omega) (by omega) (by omega) (by omega) (by omega)
                  · refine u_X12_rest_106 ?_
                    refine g_A (by omega) (by omega) ?_
                    exact ih_n_l210 u12 u13 (u14 + 1) m15 hm15 (by omega) (by omega) (by omega) (by omega) (by omega) (by omega) (by omega)
            exact ⟨1025, L_n_l210 1025 (-1) 0 0 m0 hm0 (by omega) (by omega) (by omega) (by omega) (by omega) (by omega) (by omega)⟩
          · refine g_ifF (by omega) ?_
            refine g_C ?_
            exact hk (-1) m0 hm0 (by omega) (by omega)
        · refine g_ifT (by omega) ?_
          refine g_C ?_
          exact hk (-1) m0 hm0 (by omega) (by omega)
      · refine g_ifT (by omega) ?_
        refine g_C ?_
        exact hk (-1) m0 hm0 (by omega) (by omega)
theorem z_X12_way {X : Mm} {S : Sh} {m0 : Mm} {K : Int → Mm → Prop} {u1 u2 u3 : Int} (hS : Shp S) (hm0 : Inv X S m0) (l_u1 : (-2147483648) ≤ u1) (h_u1 : u1 ≤ 2147483647) (l_u2 : (-2147483648) ≤ u2) (h_u2 : u2 ≤ 2147483647) (l_u3 : (-2147483648) ≤ u3) (h_u3 : u3 ≤ 2147483647) (hk : ∀ (r : Int) (M1 : Mm), Inv X S M1 → (-3) ≤ r → r ≤ 98 → K r M1) : wp_X12_way S m0 336 u1 u2 u3 K := by
  refine u_X12_way ?_
  refine ⟨hS.k336, ?_⟩
  refine u_X12_isPlace ?_
  refine g_if (fun w1 => ?_) (fun w1 => ?_)
  · refine g_C ?_
    refine ⟨by omega, ?_⟩
    refine g_ifT (by omega) ?_
    refine g_C ?_
    exact hk (-3) m0 hm0 (by omega) (by omega)
  · refine g_getr 20 346 rfl hS.k336 hm0.f_336_20 (by decide) ?_
    refine g_C ?_
    refine g_ld (0) (6) hS.k346 hS.l346 (by omega) (by omega) (hm0.f_346_0) (fun v2 ev2 bv2 cv2 => ?_)
    refine g_if (fun w3 => ?_) (fun w3 => ?_)
    · refine g_C ?_
      refine ⟨by omega, ?_⟩
      refine g_ifT (by omega) ?_
      refine g_C ?_
      exact hk (-3) m0 hm0 (by omega) (by omega)
    · refine g_C ?_
      refine ⟨by omega, ?_⟩
      refine g_ifF (by omega) ?_
      refine ⟨hS.k336, ?_⟩
      refine u_X12_isPlace ?_
      refine g_if (fun w4 => ?_) (fun w4 => ?_)
      · refine g_C ?_
        refine ⟨by omega, ?_⟩
        refine g_ifT (by omega) ?_
        refine g_C ?_
        exact hk (-3) m0 hm0 (by omega) (by omega)
      · refine g_getr 20 346 rfl hS.k336 hm0.f_336_20 (by decide) ?_
        refine g_C ?_
        refine g_ld (0) (6) hS.k346 hS.l346 (by omega) (by omega) (hm0.f_346_0) (fun v5 ev5 bv5 cv5 => ?_)
        have qv5 : v5 = v2 := (ev5.trans (hm0.g (by decide))).trans ((ev2.trans (hm0.g (by decide))).symm)
        refine g_if (fun w6 => ?_) (fun w6 => ?_)
        · refine g_C ?_
          refine ⟨by omega, ?_⟩
          refine g_ifT (by omega) ?_
          refine g_C ?_
          exact hk (-3) m0 hm0 (by omega) (by omega)
        · refine g_C ?_
          refine ⟨by omega, ?_⟩
          refine g_ifF (by omega) ?_
          refine g_C ?_
          refine g_C ?_
          refine g_C ?_
          refine z_in (fun aw7 bw7 => ?_) (fun cw7 => ?_)
          · refine g_ifT (by omega) ?_
            refine ⟨hS.k336, ?_⟩
            refine z_X12_fillsHours hS hm0 (by omega) (by omega) (by omega) (fun m8 hm8 fm8 ym8_0 => ?_)
            refine g_getr 27 349 rfl hS.k336 hm8.f_336_27 (by decide) ?_
            refine g_ld (0) (99) hS.k349 hS.l349 (by omega) (by omega) (hm8.a_349 (by omega) (by omega)) (fun v9 ev9 bv9 cv9 => ?_)
            refine g_C ?_
            refine g_if (fun w10 => ?_) (fun w10 => ?_)
            · refine g_if (fun w11 => ?_) (fun w11 => ?_)
              · refine g_if (fun w12 => ?_) (fun w12 => ?_)
                · refine ⟨hS.k336, ?_⟩
                  refine z_X12_nextPlace hS hm8 (by omega) (by omega) (fun v13 bv13 cv13 => ?_)
                  exact hk v13 m8 hm8 (by omega) (by omega)
                · refine g_C ?_
                  exact hk (-1) m8 hm8 (by omega) (by omega)
              · refine g_getr 27 349 rfl hS.k336 hm8.f_336_27 (by decide) ?_
                refine g_ld (0) (99) hS.k349 hS.l349 (by omega) (by omega) (hm8.a_349 (by omega) (by omega)) (fun v14 ev14 bv14 cv14 => ?_)
                have qv14 : v14 = v9 := ev14.trans ev9.symm
                exact hk v14 m8 hm8 (by omega) (by omega)
            · refine g_C ?_
              exact hk (-2) m8 hm8 (by omega) (by omega)
          · refine g_ifF (by omega) ?_
            refine g_C ?_
            exact hk (-3) m0 hm0 (by omega) (by omega)
theorem z_X12_who {X : Mm} {S : Sh} {m0 : Mm} {K : Int → Mm → Prop} {u1 : Int} (hS : Shp S) (hm0 : Inv X S m0) (l_u1 : (-2147483648) ≤ u1) (h_u1 : u1 ≤ 2147483647) (hk : ∀ (r : Int) (M1 : Mm), Inv X S M1 → (-2) ≤ r → r ≤ 1024 → K r M1) : wp_X12_who S m0 336 u1 K := by
  refine u_X12_who ?_
  refine ⟨hS.k336, ?_⟩
  refine u_X12_isDairy ?_
  refine g_getr 20 346 rfl hS.k336 hm0.f_336_20 (by decide) ?_
  refine g_C ?_
  refine g_ld (0) (6) hS.k346 hS.l346 (by omega) (by omega) (hm0.f_346_0) (fun v1 ev1 bv1 cv1 => ?_)
  refine g_if (fun w2 => ?_) (fun w2 => ?_)
  · refine g_C ?_
    refine ⟨by omega, ?_⟩
    refine g_ifT (by omega) ?_
    refine g_C ?_
    exact hk (-1) m0 hm0 (by omega) (by omega)
  · refine g_C ?_
    refine ⟨by omega, ?_⟩
    refine g_ifF (by omega) ?_
    refine g_C ?_
    refine g_C ?_
    refine g_C ?_
    refine z_in (fun aw3 bw3 => ?_) (fun cw3 => ?_)
    · refine g_ifT (by omega) ?_
      refine ⟨hS.k336, ?_⟩
      refine z_X12_fitting hS hm0 (fun v4 m5 hm5 bv4 cv4 => ?_)
      refine g_C ?_
      refine g_if (fun w6 => ?_) (fun w6 => ?_)
      · refine g_C ?_
        have L_n_l41 : ∀ (n_l41 : Nat) (u9 : Int), 0 ≤ u9 → u9 ≤ 5 → 6 - u9 ≤ (n_l41 : Int) → wp_X12_who_46 S K n_l41 336 v4 u9 m5 := by
          intro n_l41
          induction n_l41 with
          | zero => intro u9 bu9 cu9 zn_l41; exfalso; omega
          | succ n_l41 ih_n_l41 =>
            intro u9 bu9 cu9 zn_l41
            refine u_X12_who_46 ?_
            refine g_getr 20 346 rfl hS.k336 hm5.f_336_20 (by decide) ?_
            refine g_C ?_
            refine g_ld (0) (5) hS.k346 hS.l346 (by omega) (by omega) (hm5.f_346_4) (fun v42 ev42 bv42 cv42 => ?_)
            refine g_if (fun w43 => ?_) (fun w43 => ?_)
            · refine g_C ?_
              exact hk (-2) m5 hm5 (by omega) (by omega)
            · refine u_X12_isOf ?_
              refine g_iShr (by omega) (by omega) (fun v44 bv44 cv44 => ?_)
              refine g_C ?_
              refine g_iAndR (by omega) (by omega) (fun v45 dv45 bv45 cv45 => ?_)
              refine g_C ?_
              refine g_if (fun w46 => ?_) (fun w46 => ?_)
              · refine g_C ?_
                refine ⟨by omega, ?_⟩
                refine g_ifT (by omega) ?_
                refine g_A (by omega) (by omega) ?_
                exact ih_n_l41 (u9 + 1) (by omega) (by omega) (by omega)
              · refine g_C ?_
                refine ⟨by omega, ?_⟩
                refine g_ifF (by omega) ?_
                exact hk u9 m5 hm5 (by omega) (by omega)
        exact ⟨6, L_n_l41 6 0 (by omega) (by omega) (by omega)⟩
      · refine g_if (fun w47 => ?_) (fun w47 => ?_)
        · exact hk v4 m5 hm5 (by omega) (by omega)
        · refine z_X12_bits hS hm5 (by omega) (by omega) (fun v48 bv48 cv48 => ?_)
          exact hk v48 m5 hm5 (by omega) (by omega)
    · refine g_ifF (by omega) ?_
      refine g_C ?_
      exact hk (-1) m0 hm0 (by omega) (by omega)
