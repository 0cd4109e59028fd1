section
theorem z_X12_turnedResting {X : Mm} {S : Sh} {m0 : Mm} {K : Int → Mm → Prop} {u1 u2 u3 : Int} (hS : Shp S) (hm0 : Inv X S m0) (l_u1 : 0 ≤ u1) (h_u1 : u1 ≤ 4) (l_u2 : 1 ≤ u2) (h_u2 : u2 ≤ 10) (l_u3 : 0 ≤ u3) (h_u3 : u3 ≤ 1023) (hk : ∀ (r : Int) (M1 : Mm), Inv X S M1 → (-2147483648) ≤ r → r ≤ 999 → K r M1) : wp_X12_turnedResting S m0 336 u1 u2 u3 K := by
  refine u_X12_turnedResting ?_
  refine g_C ?_
  refine g_C ?_
  refine ⟨hS.k336, ?_⟩
  refine u_X12_handOf ?_
  refine g_getr 20 346 rfl hS.k336 hm0.f_336_20 (by decide) ?_
  refine g_C ?_
  refine g_C ?_
  refine g_M (by omega) (by omega) ?_
  refine g_A (by omega) (by omega) ?_
  refine g_A (by omega) (by omega) ?_
  refine g_ld (0) (99) hS.k346 hS.l346 (by omega) (by omega) (fam_346_12_5_0_4 hm0 (a := u1) (by omega) (by omega) (by omega)) (fun v1 ev1 bv1 cv1 => ?_)
  refine g_C ?_
  have L_n_l172 : ∀ (n_l172 : Nat) (u6 : Int) (u7 : Int) (u8 : Int) (m9 : Mm), Inv X S m9 → (-2147483648) ≤ u6 → u6 ≤ 999 → 0 ≤ u7 → u7 ≤ 104 → 0 ≤ u8 → u8 ≤ 10 → 11 - u8 ≤ (n_l172 : Int) → wp_X12_turnedResting_14 S K n_l172 336 u1 u2 u3 u6 u7 u8 m9 := by
    intro n_l172
    induction n_l172 with
    | zero => intro u6 u7 u8 m9 hm9 bu6 cu6 bu7 cu7 bu8 cu8 zn_l172; exfalso; omega
    | succ n_l172 ih_n_l172 =>
      intro u6 u7 u8 m9 hm9 bu6 cu6 bu7 cu7 bu8 cu8 zn_l172
      refine u_X12_turnedResting_14 ?_
      refine g_if (fun w173 => ?_) (fun w173 => ?_)
      · exact hk u6 m9 hm9 (by omega) (by omega)
      · refine u_X12_isOf ?_
        refine g_iShr (by omega) (by omega) (fun v174 bv174 cv174 => ?_)
        refine g_C ?_
        refine g_iAndR (by omega) (by omega) (fun v175 dv175 bv175 cv175 => ?_)
        refine g_C ?_
        refine g_if (fun w176 => ?_) (fun w176 => ?_)
        · refine g_C ?_
          refine ⟨by omega, ?_⟩
          refine g_ifT (by omega) ?_
          refine g_if (fun w177 => ?_) (fun w177 => ?_)
          · refine g_C ?_
            refine u_X12_turnedResting_86 ?_
            refine g_S (by omega) (by omega) ?_
            refine u_X12_turnedResting_89 ?_
            refine g_A (by omega) (by omega) ?_
            exact ih_n_l172 u6 (u7 - 0) (u8 + 1) m9 hm9 (by omega) (by omega) (by omega) (by omega) (by omega) (by omega) (by omega)
          · refine g_C ?_
            refine u_X12_turnedResting_86 ?_
            refine g_S (by omega) (by omega) ?_
            refine u_X12_turnedResting_89 ?_
            refine g_A (by omega) (by omega) ?_
            exact ih_n_l172 u6 (u7 - 1) (u8 + 1) m9 hm9 (by omega) (by omega) (by omega) (by omega) (by omega) (by omega) (by omega)
        · refine g_C ?_
          refine ⟨by omega, ?_⟩
          refine g_ifF (by omega) ?_
          refine g_C ?_
          refine g_getr 20 346 rfl hS.k336 hm9.f_336_20 (by decide) ?_
          refine g_C ?_
          refine g_ld (-2147483648) (2147483647) hS.k346 hS.l346 (by omega) (by omega) (hm9.f_346_7) (fun v178 ev178 bv178 cv178 => ?_)
          refine g_Aw (fun v179 bv179 cv179 => ?_)
          refine g_C ?_
          refine g_C ?_
          refine ⟨hS.k336, ?_⟩
          refine z_X12_turnsIn hS hm9 (by omega) (by omega) (by omega) (by omega) (by omega) (by omega) (by omega) (by omega) (by omega) (by omega) (by omega) (by omega) (by omega) (by omega) (fun v180 m181 hm181 fm181 bv180 cv180 => ?_)
          refine g_Aw (fun v182 bv182 cv182 => ?_)
          refine g_C ?_
          refine u_X12_atMost ?_
          refine g_if (fun w183 => ?_) (fun w183 => ?_)
          · refine ⟨hS.k336, ?_⟩
            refine u_X12_moreTired ?_
            refine g_C ?_
            refine ⟨hS.k336, ?_⟩
            refine u_X12_handOf ?_
            refine g_getr 20 346 rfl hS.k336 hm181.f_336_20 (by decide) ?_
            refine g_C ?_
            refine g_C ?_
            refine g_M (by omega) (by omega) ?_
            refine g_A (by omega) (by omega) ?_
            refine g_A (by omega) (by omega) ?_
            refine g_ld (0) (5) hS.k346 hS.l346 (by omega) (by omega) (fam_346_14_5_0_4 hm181 (a := u1) (by omega) (by omega) (by omega)) (fun v184 ev184 bv184 cv184 => ?_)
            refine g_A (by omega) (by omega) ?_
            refine g_C ?_
            refine u_X12_atMost ?_
            refine g_if (fun w185 => ?_) (fun w185 => ?_)
            · refine u_X12_turnedResting_89 ?_
              refine g_A (by omega) (by omega) ?_
              exact ih_n_l172 v182 (u7 + v184) (u8 + 1) m181 hm181 (by omega) (by omega) (by omega) (by omega) (by omega) (by omega) (by omega)
            · refine u_X12_turnedResting_89 ?_
              refine g_A (by omega) (by omega) ?_
              exact ih_n_l172 v182 99 (u8 + 1) m181 hm181 (by omega) (by omega) (by omega) (by omega) (by omega) (by omega) (by omega)
          · refine ⟨hS.k336, ?_⟩
            refine u_X12_moreTired ?_
            refine g_C ?_
            refine ⟨hS.k336, ?_⟩
            refine u_X12_handOf ?_
            refine g_getr 20 346 rfl hS.k336 hm181.f_336_20 (by decide) ?_
            refine g_C ?_
            refine g_C ?_
            refine g_M (by omega) (by omega) ?_
            refine g_A (by omega) (by omega) ?_
            refine g_A (by omega) (by omega) ?_
            refine g_ld (0) (5) hS.k346 hS.l346 (by omega) (by omega) (fam_346_14_5_0_4 hm181 (a := u1) (by omega) (by omega) (by omega)) (fun v186 ev186 bv186 cv186 => ?_)
            refine g_A (by omega) (by omega) ?_
            refine g_C ?_
            refine u_X12_atMost ?_
            refine g_if (fun w187 => ?_) (fun w187 => ?_)
            · refine u_X12_turnedResting_89 ?_
              refine g_A (by omega) (by omega) ?_
              exact ih_n_l172 999 (u7 + v186) (u8 + 1) m181 hm181 (by omega) (by omega) (by omega) (by omega) (by omega) (by omega) (by omega)
            · refine u_X12_turnedResting_89 ?_
              refine g_A (by omega) (by omega) ?_
              exact ih_n_l172 999 99 (u8 + 1) m181 hm181 (by omega) (by omega) (by omega) (by omega) (by omega) (by omega) (by omega)
  exact ⟨11, L_n_l172 11 0 v1 0 m0 hm0 (by omega) (by omega) (by omega) (by omega) (by omega) (by omega) (by omega)⟩
theorem z_X12_rest {X : Mm} {S : Sh} {m0 : Mm} {K : Int → Mm → Prop} {u1 u2 u3 u4 : Int} (hS : Shp S) (hm0 : Inv X S m0) (l_u1 : (-2147483648) ≤ u1) (h_u1 : u1 ≤ 2147483647) (l_u2 : (-2147483648) ≤ u2) (h_u2 : u2 ≤ 2147483647) (l_u3 : (-2147483648) ≤ u3) (h_u3 : u3 ≤ 2147483647) (l_u4 : (-2147483648) ≤ u4) (h_u4 : u4 ≤ 2147483647) (hk : ∀ (r : Int) (M1 : Mm), Inv X S M1 → (-2147483648) ≤ r → r ≤ 6000 → K r M1) : wp_X12_rest S m0 336 u1 u2 u3 u4 K := by
  refine u_X12_rest ?_
  refine ⟨hS.k336, ?_⟩
  refine u_X12_isHand ?_
  refine g_if (fun w1 => ?_) (fun w1 => ?_)
  · refine g_C ?_
    refine ⟨by omega, ?_⟩
    refine g_ifT (by omega) ?_
    refine g_C ?_
    exact hk (-1) m0 hm0 (by omega) (by omega)
  · refine g_getr 20 346 rfl hS.k336 hm0.f_336_20 (by decide) ?_
    refine g_C ?_
    refine g_ld (0) (5) hS.k346 hS.l346 (by omega) (by omega) (hm0.f_346_4) (fun v2 ev2 bv2 cv2 => ?_)
    refine g_if (fun w3 => ?_) (fun w3 => ?_)
    · refine g_C ?_
      refine ⟨by omega, ?_⟩
      refine g_ifT (by omega) ?_
      refine g_C ?_
      exact hk (-1) m0 hm0 (by omega) (by omega)
    · refine g_C ?_
      refine ⟨by omega, ?_⟩
      refine g_ifF (by omega) ?_
      refine g_C ?_
      refine g_C ?_
      refine g_C ?_
      refine z_in (fun aw4 bw4 => ?_) (fun cw4 => ?_)
      · refine g_ifF (by omega) ?_
        refine g_C ?_
        refine g_C ?_
        refine g_C ?_
        refine z_in (fun aw5 bw5 => ?_) (fun cw5 => ?_)
        · refine g_ifF (by omega) ?_
          refine g_C ?_
          refine g_C ?_
          refine g_C ?_
          refine z_in (fun aw6 bw6 => ?_) (fun cw6 => ?_)
          · refine g_ifT (by omega) ?_
            refine g_C ?_
            refine g_C ?_
            refine g_C ?_
            have L_n_l210 : ∀ (n_l210 : Nat) (u12 : Int) (u13 : Int) (u14 : Int) (m15 : Mm), Inv X S m15 → (-1) ≤ u12 → u12 ≤ 6000 → (-2147483648) ≤ u13 → u13 ≤ 999 → 0 ≤ u14 → u14 ≤ 1024 → 1025 - u14 ≤ (n_l210 : Int) → wp_X12_rest_53 S K n_l210 336 u1 u2 u3 u4 u12 u13 u14 m15 := by
              intro n_l210
              induction n_l210 with
              | zero => intro u12 u13 u14 m15 hm15 bu12 cu12 bu13 cu13 bu14 cu14 zn_l210; exfalso; omega
              | succ n_l210 ih_n_l210 =>
                intro u12 u13 u14 m15 hm15 bu12 cu12 bu13 cu13 bu14 cu14 zn_l210
                refine u_X12_rest_53 ?_
                refine g_C ?_
                refine g_iShl 10 (by omega) (by omega) (by decide) (fun v211 bv211 cv211 => ?_)
                refine g_if (fun w212 => ?_) (fun w212 => ?_)
                · refine g_if (fun w213 => ?_) (fun w213 => ?_)
                  · exact hk u13 m15 hm15 (by omega) (by omega)
                  · exact hk u12 m15 hm15 (by omega) (by omega)
                · refine z_X12_bits hS hm15 (by omega) (by omega) (fun v214 bv214 cv214 => ?_)
                  refine g_if (fun w215 => ?_) (fun w215 => ?_)
                  · refine ⟨hS.k336, ?_⟩
                    refine z_X12_turnedResting hS hm15 (by omega) (by omega) (by omega) (by omega) (by omega) (by omega) (fun v216 m217 hm217 bv216 cv216 => ?_)
                    refine g_if (fun w218 => ?_) (fun w218 => ?_)
                    · refine u_X12_rest_98 ?_
                      refine u_X12_rest_106 ?_
                      refine g_A (by omega) (by omega) ?_
                      exact ih_n_l210 u14 v216 (u14 + 1) m217 hm217 (by omega) (by omega) (by omega) (by omega) (by omega) (by omega) (by omega)
                    · refine g_if (fun w219 => ?_) (fun w219 => ?_)
                      · refine u_X12_rest_98 ?_
                        refine u_X12_rest_106 ?_
                        refine g_A (by omega) (by omega) ?_
                        exact ih_n_l210 u14 v216 (u14 + 1) m217 hm217 (by omega) (by omega) (by omega) (by omega) (by omega) (by omega) (by omega)
                      · refine u_X12_rest_106 ?_
                        refine g_A (by omega) (by omega) ?_
                        exact ih_n_l210 u12 u13 (u14 + 1) m217 hm217 (by omega) (by omega) (by omega) (by omega) (by omega) (by omega) (by omega)
                  · refine u_X12_rest_106 ?_
                    refine g_A (by omega) (by omega) ?_
                    exact ih_n_l210 u12 u13 (u14 + 1) m15 hm15 (by omega) (by omega) (by omega) (by omega) (by omega) (by omega) (by omega)
            exact ⟨1025, L_n_l210 1025 (-1) 0 0 m0 hm0 (by omega) (by omega) (by omega) (by omega) (by omega) (by omega) (by omega)⟩
          · refine g_ifF (by omega) ?_
            refine g_C ?_
            exact hk (-1) m0 hm0 (by omega) (by omega)
        · refine g_ifT (by omega) ?_
          refine g_C ?_
          exact hk (-1) m0 hm0 (by omega) (by omega)
      · refine g_ifT (by omega) ?_
        refine g_C ?_
        exact hk (-1) m0 hm0 (by omega) (by omega)
theorem z_X12_way {X : Mm} {S : Sh} {m0 : Mm} {K : Int → Mm → Prop} {u1 u2 u3 : Int} (hS : Shp S) (hm0 : Inv X S m0) (l_u1 : (-2147483648) ≤ u1) (h_u1 : u1 ≤ 2147483647) (l_u2 : (-2147483648) ≤ u2) (h_u2 : u2 ≤ 2147483647) (l_u3 : (-2147483648) ≤ u3) (h_u3 : u3 ≤ 2147483647) (hk : ∀ (r : Int) (M1 : Mm), Inv X S M1 → (-3) ≤ r → r ≤ 98 → K r M1) : wp_X12_way S m0 336 u1 u2 u3 K := by
  refine u_X12_way ?_
  refine ⟨hS.k336, ?_⟩
  refine u_X12_isPlace ?_
  refine g_if (fun w1 => ?_) (fun w1 => ?_)
  · refine g_C ?_
    refine ⟨by omega, ?_⟩
    refine g_ifT (by omega) ?_
    refine g_C ?_
    exact hk (-3) m0 hm0 (by omega) (by omega)
  · refine g_getr 20 346 rfl hS.k336 hm0.f_336_20 (by decide) ?_
    refine g_C ?_
    refine g_ld (0) (6) hS.k346 hS.l346 (by omega) (by omega) (hm0.f_346_0) (fun v2 ev2 bv2 cv2 => ?_)
    refine g_if (fun w3 => ?_) (fun w3 => ?_)
    · refine g_C ?_
      refine ⟨by omega, ?_⟩
      refine g_ifT (by omega) ?_
      refine g_C ?_
      exact hk (-3) m0 hm0 (by omega) (by omega)
    · refine g_C ?_
      refine ⟨by omega, ?_⟩
      refine g_ifF (by omega) ?_
      refine ⟨hS.k336, ?_⟩
      refine u_X12_isPlace ?_
      refine g_if (fun w4 => ?_) (fun w4 => ?_)
      · refine g_C ?_
        refine ⟨by omega, ?_⟩
        refine g_ifT (by omega) ?_
        refine g_C ?_
        exact hk (-3) m0 hm0 (by omega) (by omega)
      · refine g_getr 20 346 rfl hS.k336 hm0.f_336_20 (by decide) ?_
        refine g_C ?_
        refine g_ld (0) (6) hS.k346 hS.l346 (by omega) (by omega) (hm0.f_346_0) (fun v5 ev5 bv5 cv5 => ?_)
        have qv5 : v5 = v2 := (ev5.trans (hm0.g (by decide))).trans ((ev2.trans (hm0.g (by decide))).symm)
        refine g_if (fun w6 => ?_) (fun w6 => ?_)
        · refine g_C ?_
          refine ⟨by omega, ?_⟩
          refine g_ifT (by omega) ?_
          refine g_C ?_
          exact hk (-3) m0 hm0 (by omega) (by omega)
        · refine g_C ?_
          refine ⟨by omega, ?_⟩
          refine g_ifF (by omega) ?_
          refine g_C ?_
          refine g_C ?_
          refine g_C ?_
          refine z_in (fun aw7 bw7 => ?_) (fun cw7 => ?_)
          · refine g_ifT (by omega) ?_
            refine ⟨hS.k336, ?_⟩
            refine z_X12_fillsHours hS hm0 (by omega) (by omega) (by omega) (fun m8 hm8 fm8 ym8_0 => ?_)
            refine g_getr 27 349 rfl hS.k336 hm8.f_336_27 (by decide) ?_
            refine g_ld (0) (99) hS.k349 hS.l349 (by omega) (by omega) (hm8.a_349 (by omega) (by omega)) (fun v9 ev9 bv9 cv9 => ?_)
            refine g_C ?_
            refine g_if (fun w10 => ?_) (fun w10 => ?_)
            · refine g_if (fun w11 => ?_) (fun w11 => ?_)
              · refine g_if (fun w12 => ?_) (fun w12 => ?_)
                · refine ⟨hS.k336, ?_⟩
                  refine z_X12_nextPlace hS hm8 (by omega) (by omega) (fun v13 bv13 cv13 => ?_)
                  exact hk v13 m8 hm8 (by omega) (by omega)
                · refine g_C ?_
                  exact hk (-1) m8 hm8 (by omega) (by omega)
              · refine g_getr 27 349 rfl hS.k336 hm8.f_336_27 (by decide) ?_
                refine g_ld (0) (99) hS.k349 hS.l349 (by omega) (by omega) (hm8.a_349 (by omega) (by omega)) (fun v14 ev14 bv14 cv14 => ?_)
                have qv14 : v14 = v9 := ev14.trans ev9.symm
                exact hk v14 m8 hm8 (by omega) (by omega)
            · refine g_C ?_
              exact hk (-2) m8 hm8 (by omega) (by omega)
          · refine g_ifF (by omega) ?_
            refine g_C ?_
            exact hk (-3) m0 hm0 (by omega) (by omega)
theorem z_X12_who {X : Mm} {S : Sh} {m0 : Mm} {K : Int → Mm → Prop} {u1 : Int} (hS : Shp S) (hm0 : Inv X S m0) (l_u1 : (-2147483648) ≤ u1) (h_u1 : u1 ≤ 2147483647) (hk : ∀ (r : Int) (M1 : Mm), Inv X S M1 → (-2) ≤ r → r ≤ 1024 → K r M1) : wp_X12_who S m0 336 u1 K := by
  refine u_X12_who ?_
  refine ⟨hS.k336, ?_⟩
  refine u_X12_isDairy ?_
  refine g_getr 20 346 rfl hS.k336 hm0.f_336_20 (by decide) ?_
  refine g_C ?_
  refine g_ld (0) (6) hS.k346 hS.l346 (by omega) (by omega) (hm0.f_346_0) (fun v1 ev1 bv1 cv1 => ?_)
  refine g_if (fun w2 => ?_) (fun w2 => ?_)
  · refine g_C ?_
    refine ⟨by omega, ?_⟩
    refine g_ifT (by omega) ?_
    refine g_C ?_
    exact hk (-1) m0 hm0 (by omega) (by omega)
  · refine g_C ?_
    refine ⟨by omega, ?_⟩
    refine g_ifF (by omega) ?_
    refine g_C ?_
    refine g_C ?_
    refine g_C ?_
    refine z_in (fun aw3 bw3 => ?_) (fun cw3 => ?_)
    · refine g_ifT (by omega) ?_
      refine ⟨hS.k336, ?_⟩
      refine z_X12_fitting hS hm0 (fun v4 m5 hm5 bv4 cv4 => ?_)
      refine g_C ?_
      refine g_if (fun w6 => ?_) (fun w6 => ?_)
      · refine g_C ?_
        have L_n_l41 : ∀ (n_l41 : Nat) (u9 : Int), 0 ≤ u9 → u9 ≤ 5 → 6 - u9 ≤ (n_l41 : Int) → wp_X12_who_46 S K n_l41 336 v4 u9 m5 := by
          intro n_l41
          induction n_l41 with
          | zero => intro u9 bu9 cu9 zn_l41; exfalso; omega
          | succ n_l41 ih_n_l41 =>
            intro u9 bu9 cu9 zn_l41
            refine u_X12_who_46 ?_
            refine g_getr 20 346 rfl hS.k336 hm5.f_336_20 (by decide) ?_
            refine g_C ?_
            refine g_ld (0) (5) hS.k346 hS.l346 (by omega) (by omega) (hm5.f_346_4) (fun v42 ev42 bv42 cv42 => ?_)
            refine g_if (fun w43 => ?_) (fun w43 => ?_)
            · refine g_C ?_
              exact hk (-2) m5 hm5 (by omega) (by omega)
            · refine u_X12_isOf ?_
              refine g_iShr (by omega) (by omega) (fun v44 bv44 cv44 => ?_)
              refine g_C ?_
              refine g_iAndR (by omega) (by omega) (fun v45 dv45 bv45 cv45 => ?_)
              refine g_C ?_
              refine g_if (fun w46 => ?_) (fun w46 => ?_)
              · refine g_C ?_
                refine ⟨by omega, ?_⟩
                refine g_ifT (by omega) ?_
                refine g_A (by omega) (by omega) ?_
                exact ih_n_l41 (u9 + 1) (by omega) (by omega) (by omega)
              · refine g_C ?_
                refine ⟨by omega, ?_⟩
                refine g_ifF (by omega) ?_
                exact hk u9 m5 hm5 (by omega) (by omega)
        exact ⟨6, L_n_l41 6 0 (by omega) (by omega) (by omega)⟩
      · refine g_if (fun w47 => ?_) (fun w47 => ?_)
        · exact hk v4 m5 hm5 (by omega) (by omega)
        · refine z_X12_bits hS hm5 (by omega) (by omega) (fun v48 bv48 cv48 => ?_)
          exact hk v48 m5 hm5 (by omega) (by omega)
    · refine g_ifF (by omega) ?_
      refine g_C ?_
      exact hk (-1) m0 hm0 (by omega) (by omega)
end
section
/-! the class's tape, to the letter -/
def TC (X : Mm) (b : Int → Int) (n : Int) : Prop := X 1 1 = n ∧ (0 ≤ n ∧ n ≤ 400) ∧ ∀ p : Int, 0 ≤ p → p < n → X 2 p = b p ∧ -128 ≤ b p ∧ b p ≤ 127
theorem tw_r : ∀ k : Nat, k < 17 → ∀ i : Nat, i < 6 → 0 ≤ tw k i ∧ tw k i ≤ 122 := by decide +kernel
theorem tl_r : ∀ k : Nat, k < 17 → 2 ≤ tl k ∧ tl k ≤ 6 := by decide +kernel
theorem ze_look {X : Mm} {S : Sh} {m0 : Mm} {K : Int → Mm → Prop} {b : Int → Int} {n : Int} (hS : Shp S) (hm0 : Inv X S m0) (ht : TC X b n) (hp : m0 1 2 ≤ n) (hk : ∀ (r q : Int) (M1 : Mm), Inv X S M1 → (∀ c p : Int, ¬ (c = 1 ∧ 2 ≤ p ∧ p ≤ 3) → M1 c p = m0 c p) → Sk b n (m0 1 2) q → M1 1 2 = q → M1 1 3 = q → q ≤ n → ((q < n ∧ r = u8 (b q)) ∨ (n ≤ q ∧ r = -1)) → K r M1) : wp_X7_look S m0 1 K := by
  obtain ⟨t1, t2, t3⟩ := ht
  have L : ∀ (k : Nat) (m : Mm), Inv X S m → (∀ c p : Int, ¬ (c = 1 ∧ 2 ≤ p ∧ p ≤ 3) → m c p = m0 c p) → m0 1 2 ≤ m 1 2 → (∀ j : Int, m0 1 2 ≤ j → j < m 1 2 → j < n ∧ b j = 32) → m 1 2 ≤ n → 401 - m 1 2 ≤ (k : Int) → wp_X7_look_0 S K k 1 m := by
    intro k
    induction k with
    | zero => intro m hm _ _ _ _ h; exfalso; omega
    | succ k ih =>
      intro m hm F a1 a2 a3 h
      have b2 := hm.f_1_2
      have g1 : m 1 1 = n := (hm.g (by decide)).trans t1
      have gb : ∀ p : Int, 0 ≤ p → p < n → m 2 p = b p := fun p p0 p1 => (hm.g (c := 2) (p := p) (by omega)).trans (t3 p p0 p1).1
      have fin : (n ≤ m 1 2 ∨ ¬ b (m 1 2) = 32) → wp_X7_look_38 S K 1 m := by
        intro hn
        refine u_X7_look_38 ?_
        refine g_getu 2 rfl hS.k1 (fun v ev => ?_)
        refine g_put 3 rfl hS.k1 (hm.w_1_3 (by omega) (by omega)) (fun m1 e1 hm1 => ?_)
        have f1 : ∀ c p : Int, ¬ (c = 1 ∧ p = 3) → m1 c p = m c p := fun c p q => (congrFun (congrFun e1 _) _).trans (up_ne q)
        have x1 : m1 1 3 = v := (congrFun (congrFun e1 _) _).trans (up_at _ _ _ _)
        have F1 : ∀ c p : Int, ¬ (c = 1 ∧ 2 ≤ p ∧ p ≤ 3) → m1 c p = m0 c p := fun c p q => (f1 c p (by first | exact fun y => absurd (y.1 ▸ z) (by decide) | exact fun y => absurd (y.1 ▸ q) (by decide) | exact z | exact q | exact z.1 | exact q.1 | exact z.2 | exact q.2 | omega)).trans (F c p q)
        have e2 : m1 1 2 = m 1 2 := f1 1 2 (by first | decide | exact fun z => absurd z.1 (by decide) | exact ⟨fun z => absurd z.1 (by decide), fun z => absurd z.1 (by decide)⟩ | omega)
        have sk : Sk b n (m0 1 2) (m 1 2) := ⟨a1, a2, hn⟩
        refine g_getu 2 rfl hS.k1 (fun v2 ev2 => ?_)
        refine g_getu 1 rfl hS.k1 (fun v3 ev3 => ?_)
        rw [f1 1 1 (by first | decide | exact fun z => absurd z.1 (by decide) | exact ⟨fun z => absurd z.1 (by decide), fun z => absurd z.1 (by decide)⟩ | omega), g1] at ev3
        refine g_if (fun w => ?_) (fun w => ?_)
        · exact g_C (hk (-1) (m 1 2) m1 hm1 F1 sk e2 (by omega) a3 (Or.inr ⟨by omega, rfl⟩))
        · refine g_getr 0 2 rfl hS.k1 hm1.f_1_0 (by decide) ?_
          refine g_getu 2 rfl hS.k1 (fun v4 ev4 => ?_)
          refine g_ldu hS.k2 hS.l2 (by omega) (by omega) (fun x ex => ?_)
          refine g_C ?_
          refine g_Oe (fun y ey => ?_)
          rw [f1 2 _ (by first | decide | exact fun z => absurd z.1 (by decide) | exact ⟨fun z => absurd z.1 (by decide), fun z => absurd z.1 (by decide)⟩ | omega), ev4, e2, gb _ (by omega) (by omega)] at ex
          have tb := t3 (m 1 2) (by omega) (by omega)
          rw [ex, iAnd_u8 tb.2.1 tb.2.2] at ey
          exact hk y (m 1 2) m1 hm1 F1 sk e2 (by omega) a3 (Or.inl ⟨by omega, ey⟩)
      refine u_X7_look_0 ?_
      refine g_getu 2 rfl hS.k1 (fun v ev => ?_)
      refine g_getu 1 rfl hS.k1 (fun v2 ev2 => ?_)
      rw [g1] at ev2
      refine g_if (fun w => fin (by omega)) (fun w => ?_)
      refine g_getr 0 2 rfl hS.k1 hm.f_1_0 (by decide) ?_
      refine g_getu 2 rfl hS.k1 (fun v3 ev3 => ?_)
      refine g_ldu hS.k2 hS.l2 (by omega) (by omega) (fun x ex => ?_)
      rw [ev3, gb _ (by omega) (by omega)] at ex
      refine g_C ?_
      refine g_if (fun w2 => fin (Or.inr (by omega))) (fun w2 => ?_)
      refine g_getu 2 rfl hS.k1 (fun v4 ev4 => ?_)
      refine g_C ?_
      refine g_A (by omega) (by omega) ?_
      refine g_put 2 rfl hS.k1 (hm.w_1_2 (by omega) (by omega)) (fun m1 e1 hm1 => ?_)
      have f1 : ∀ c p : Int, ¬ (c = 1 ∧ p = 2) → m1 c p = m c p := fun c p q => (congrFun (congrFun e1 _) _).trans (up_ne q)
      have x1 : m1 1 2 = v4 + 1 := (congrFun (congrFun e1 _) _).trans (up_at _ _ _ _)
      refine ih m1 hm1 (fun c p q => (f1 c p (by first | exact fun y => absurd (y.1 ▸ z) (by decide) | exact fun y => absurd (y.1 ▸ q) (by decide) | exact z | exact q | exact z.1 | exact q.1 | exact z.2 | exact q.2 | omega)).trans (F c p q)) (by omega) (fun j j0 j1 => ?_) (by omega) (by omega)
      by_cases e : j = m 1 2
      · rw [e]; exact ⟨by omega, by omega⟩
      · exact a2 j j0 (by omega)
  have b2 := hm0.f_1_2
  exact ⟨401, L 401 m0 hm0 (fun _ _ _ => rfl) (by omega) (fun j j0 j1 => absurd j1 (by omega)) hp (by omega)⟩
theorem ze_byteAt {X : Mm} {S : Sh} {m : Mm} {K : Int → Mm → Prop} {b : Int → Int} {n i : Int} (hS : Shp S) (hm : Inv X S m) (ht : TC X b n) (hk : ∀ r : Int, ((0 ≤ i ∧ i < n ∧ r = u8 (b i)) ∨ (¬ (0 ≤ i ∧ i < n) ∧ r = -1)) → K r m) : wp_X7_byteAt S m 1 i K := by
  obtain ⟨t1, t2, t3⟩ := ht
  have g1 : m 1 1 = n := (hm.g (by decide)).trans t1
  refine u_X7_byteAt ?_
  refine g_if (fun w => g_C (hk _ (Or.inr ⟨by omega, rfl⟩))) (fun w => ?_)
  refine g_getu 1 rfl hS.k1 (fun v ev => ?_)
  rw [g1] at ev
  refine g_if (fun w2 => g_C (hk _ (Or.inr ⟨by omega, rfl⟩))) (fun w2 => ?_)
  refine g_C ?_
  refine g_ifF (by first | decide | omega) ?_
  refine g_getr 0 2 rfl hS.k1 hm.f_1_0 (by decide) ?_
  refine g_ldu hS.k2 hS.l2 (by omega) (by omega) (fun x ex => ?_)
  refine g_C ?_
  refine g_Oe (fun y ey => ?_)
  have tb := t3 i (by omega) (by omega)
  rw [ex, (hm.g (c := 2) (p := i) (by omega)).trans tb.1, iAnd_u8 tb.2.1 tb.2.2] at ey
  exact hk y (Or.inl ⟨by omega, by omega, ey⟩)
theorem ze_takesSign {X : Mm} {S : Sh} {m0 : Mm} {K : Int → Mm → Prop} {b : Int → Int} {n v : Int} (hS : Shp S) (hm0 : Inv X S m0) (ht : TC X b n) (hp : m0 1 2 ≤ n) (v0 : 0 ≤ v) (v1 : v ≤ 127) (h1 : ∀ (q : Int) (M1 : Mm), Inv X S M1 → (∀ c p : Int, ¬ (c = 1 ∧ 2 ≤ p ∧ p ≤ 3) → M1 c p = m0 c p) → Sk b n (m0 1 2) q → M1 1 2 = q + 1 → M1 1 3 = q → q < n → b q = v → K 1 M1) (h0 : ∀ (q : Int) (M1 : Mm), Inv X S M1 → (∀ c p : Int, ¬ (c = 1 ∧ 2 ≤ p ∧ p ≤ 3) → M1 c p = m0 c p) → Sk b n (m0 1 2) q → M1 1 2 = q → M1 1 3 = q → q ≤ n → ¬ (q < n ∧ b q = v) → K 0 M1) : wp_X7_takesSign S m0 1 v K := by
  have t2 := ht.2.1
  have b2 := hm0.f_1_2
  refine u_X7_takesSign ?_
  refine ⟨hS.k1, ?_⟩
  refine ze_look hS hm0 ht hp (fun r q m1 hm1 f1 sk x1 x2 hq hr => ?_)
  have b21 := hm1.f_1_2
  refine g_if (fun w => ?_) (fun w => ?_)
  · have hq2 : q < n ∧ b q = v := by
      rcases hr with ⟨z1, z2⟩ | ⟨z1, z2⟩
      · have tb := ht.2.2 q (by omega) z1
        exact ⟨z1, (u8_eq tb.2.1 tb.2.2 v0 v1).mp (by omega)⟩
      · exfalso; omega
    refine g_getu 2 rfl hS.k1 (fun a ea => ?_)
    refine g_C ?_
    refine g_A (by omega) (by omega) ?_
    refine g_put 2 rfl hS.k1 (hm1.w_1_2 (by omega) (by omega)) (fun m2 e2 hm2 => ?_)
    have f2 : ∀ c p : Int, ¬ (c = 1 ∧ p = 2) → m2 c p = m1 c p := fun c p q => (congrFun (congrFun e2 _) _).trans (up_ne q)
    have y2 : m2 1 2 = a + 1 := (congrFun (congrFun e2 _) _).trans (up_at _ _ _ _)
    exact g_C ⟨by decide, h1 q m2 hm2 (fun c p z => (f2 c p (by first | exact fun y => absurd (y.1 ▸ z) (by decide) | exact fun y => absurd (y.1 ▸ q) (by decide) | exact z | exact q | exact z.1 | exact q.1 | exact z.2 | exact q.2 | omega)).trans (f1 c p z)) sk (by omega) ((f2 1 3 (by first | decide | exact fun z => absurd z.1 (by decide) | exact ⟨fun z => absurd z.1 (by decide), fun z => absurd z.1 (by decide)⟩ | omega)).trans x2) hq2.1 hq2.2⟩
  · refine g_C ⟨by decide, h0 q m1 hm1 f1 sk x1 x2 hq (fun z => w ?_)⟩
    rcases hr with ⟨z1, z2⟩ | ⟨z1, z2⟩
    · have tb := ht.2.2 q (by omega) z1
      rw [z2]
      exact (u8_eq tb.2.1 tb.2.2 v0 v1).mpr z.2
    · exfalso; omega
theorem ze_takesWord {X : Mm} {S : Sh} {m0 : Mm} {K : Int → Mm → Prop} {b : Int → Int} {n u : Int} (k : Nat) (hS : Shp S) (hm0 : Inv X S m0) (ht : TC X b n) (hp : m0 1 2 ≤ n) (hk : k < 17) (hu : u = -3 - (k : Int)) (h1 : ∀ (q : Int) (M1 : Mm), Inv X S M1 → (∀ c p : Int, ¬ (c = 1 ∧ 2 ≤ p ∧ p ≤ 3) → M1 c p = m0 c p) → Sk b n (m0 1 2) q → M1 1 2 = q + tl k → M1 1 3 = q → q + tl k ≤ n → Wk b n k q → K 1 M1) (h0 : ∀ (q : Int) (M1 : Mm), Inv X S M1 → (∀ c p : Int, ¬ (c = 1 ∧ 2 ≤ p ∧ p ≤ 3) → M1 c p = m0 c p) → Sk b n (m0 1 2) q → M1 1 2 = q → M1 1 3 = q → q ≤ n → ¬ Wk b n k q → K 0 M1) : wp_X7_takesWord S m0 1 u K := by
  have t2 := ht.2.1
  have b2 := hm0.f_1_2
  have tlr := tl_r k hk
  refine u_X7_takesWord ?_
  refine ⟨hS.k1, ?_⟩
  refine ze_look hS hm0 ht hp (fun r q m1 hm1 f1 sk x1 x2 hq hr => ?_)
  have b21 := hm1.f_1_2
  refine ⟨k, hk, hu, ?_⟩
  refine g_C ?_
  have L : ∀ (j : Nat) (i : Int), 0 ≤ i → i ≤ tl k → (∀ i' : Int, 0 ≤ i' → i' < i → q + i' < n ∧ b (q + i') = tw k i'.toNat) → tl k + 1 - i ≤ (j : Int) → wp_X7_takesWord_12 S K j 1 u (tl k) i m1 := by
    intro j
    induction j with
    | zero => intro i _ _ _ h; exfalso; omega
    | succ j ih =>
      intro i i0 i1 hi h
      refine u_X7_takesWord_12 ?_
      refine g_if (fun w => ?_) (fun w => ?_)
      · have hall : ∀ i' : Int, 0 ≤ i' → i' < tl k → q + i' < n ∧ b (q + i') = tw k i'.toNat := fun i' a c => hi i' a (by omega)
        have hle := hall (tl k - 1) (by omega) (by omega)
        refine g_getu 2 rfl hS.k1 (fun a ea => ?_)
        refine g_A (by omega) (by omega) ?_
        refine ⟨hS.k1, ?_⟩
        refine ze_byteAt hS hm1 ht (fun r2 hr2 => ?_)
        have ok : ¬ (q + tl k < n ∧ 97 ≤ b (q + tl k) ∧ b (q + tl k) ≤ 122) → wp_X7_takesWord_68 S K 1 (tl k) m1 := by
          intro hb
          refine u_X7_takesWord_68 ?_
          refine g_getu 2 rfl hS.k1 (fun a2 ea2 => ?_)
          refine g_A (by omega) (by omega) ?_
          refine g_put 2 rfl hS.k1 (hm1.w_1_2 (by omega) (by omega)) (fun m2 e2 hm2 => ?_)
          have f2 : ∀ c p : Int, ¬ (c = 1 ∧ p = 2) → m2 c p = m1 c p := fun c p q => (congrFun (congrFun e2 _) _).trans (up_ne q)
          have y2 : m2 1 2 = a2 + tl k := (congrFun (congrFun e2 _) _).trans (up_at _ _ _ _)
          exact g_C ⟨by decide, h1 q m2 hm2 (fun c p z => (f2 c p (by first | exact fun y => absurd (y.1 ▸ z) (by decide) | exact fun y => absurd (y.1 ▸ q) (by decide) | exact z | exact q | exact z.1 | exact q.1 | exact z.2 | exact q.2 | omega)).trans (f1 c p z)) sk (by omega) ((f2 1 3 (by first | decide | exact fun z => absurd z.1 (by decide) | exact ⟨fun z => absurd z.1 (by decide), fun z => absurd z.1 (by decide)⟩ | omega)).trans x2) (by omega) ⟨hall, hb⟩⟩
        have eq : a + tl k = q + tl k := by omega
        rw [eq] at hr2
        have lr : (97 ≤ r2 ∧ r2 ≤ 122) ↔ (q + tl k < n ∧ 97 ≤ b (q + tl k) ∧ b (q + tl k) ≤ 122) := by
          rcases hr2 with ⟨z0, z1, z2⟩ | ⟨z1, z2⟩
          · have tb := ht.2.2 (q + tl k) z0 z1
            rw [z2]
            unfold u8
            split <;> omega
          · omega
        refine g_C ?_
        refine g_if (fun w2 => ok (fun z => by have := lr.mpr z; omega)) (fun w2 => ?_)
        refine g_C ?_
        refine g_if (fun w3 => ok (fun z => by have := lr.mpr z; omega)) (fun w3 => ?_)
        exact g_C ⟨by decide, h0 q m1 hm1 f1 sk x1 x2 hq (fun z => z.2 (lr.mp (by omega)))⟩
      · refine g_getu 2 rfl hS.k1 (fun a ea => ?_)
        refine g_A (by omega) (by omega) ?_
        refine ⟨hS.k1, ?_⟩
        refine ze_byteAt hS hm1 ht (fun r2 hr2 => ?_)
        have eq : a + i = q + i := by omega
        rw [eq] at hr2
        have twr := tw_r k hk i.toNat (by omega)
        refine ⟨k, hk, hu, i0, by unfold tl at w; omega, ?_⟩
        refine g_if (fun w2 => ?_) (fun w2 => ?_)
        · have w3 : r2 = tw k i.toNat := w2
          have hb : q + i < n ∧ b (q + i) = tw k i.toNat := by
            rcases hr2 with ⟨z0, z1, z2⟩ | ⟨z1, z2⟩
            · have tb := ht.2.2 (q + i) z0 z1
              exact ⟨z1, (u8_eq tb.2.1 tb.2.2 (by omega) (by omega)).mp (by omega)⟩
            · exfalso; omega
          refine g_A (by omega) (by omega) ?_
          refine ih (i + 1) (by omega) (by omega) (fun i' a1 a2 => ?_) (by omega)
          by_cases e : i' = i
          · rw [e]; exact hb
          · exact hi i' a1 (by omega)
        · refine g_C ⟨by decide, h0 q m1 hm1 f1 sk x1 x2 hq (fun z => w2 ?_)⟩
          have zi := z.1 i i0 (by omega)
          show r2 = tw k i.toNat
          rcases hr2 with ⟨z0, z1, z2⟩ | ⟨z1, z2⟩
          · have tb := ht.2.2 (q + i) z0 z1
            rw [z2]
            exact (u8_eq tb.2.1 tb.2.2 (by omega) (by omega)).mpr zi.2
          · exfalso; omega
  exact ⟨(tl k + 1).toNat, L (tl k + 1).toNat 0 (by omega) (by omega) (fun i' a c => absurd c (by omega)) (by omega)⟩
theorem ze_refuse {X : Mm} {S : Sh} {m0 : Mm} {K : Int → Mm → Prop} {u : Int} (hS : Shp S) (hm0 : Inv X S m0) (u0 : 0 ≤ u) (u1 : u ≤ 4) (hk : ∀ M1 : Mm, Inv X S M1 → (∀ c p : Int, ¬ (c = 1 ∧ p = 4) → M1 c p = m0 c p) → ((¬ m0 1 4 = 0 ∧ M1 1 4 = m0 1 4) ∨ (m0 1 4 = 0 ∧ M1 1 4 = 1 + 8 * m0 1 3 + u)) → K 0 M1) : wp_X7_refuse S m0 1 u K := by
  have b3 := hm0.f_1_3
  refine u_X7_refuse ?_
  refine g_getu 4 rfl hS.k1 (fun v ev => ?_)
  refine g_if (fun w => g_C ⟨by decide, hk m0 hm0 (fun _ _ _ => rfl) (Or.inl ⟨by omega, rfl⟩)⟩) (fun w => ?_)
  refine g_C ?_
  refine g_C ?_
  refine g_getu 3 rfl hS.k1 (fun a ea => ?_)
  refine g_M (by omega) (by omega) ?_
  refine g_A (by omega) (by omega) ?_
  refine g_A (by omega) (by omega) ?_
  refine g_put 4 rfl hS.k1 (hm0.w_1_4 (by omega) (by omega)) (fun m1 e1 hm1 => ?_)
  have f1 : ∀ c p : Int, ¬ (c = 1 ∧ p = 4) → m1 c p = m0 c p := fun c p q => (congrFun (congrFun e1 _) _).trans (up_ne q)
  have y1 : m1 1 4 = 1 + 8 * a + u := (congrFun (congrFun e1 _) _).trans (up_at _ _ _ _)
  exact g_C ⟨by decide, hk m1 hm1 f1 (Or.inr ⟨by omega, by omega⟩)⟩
theorem zl_dig {S : Sh} {m : Mm} {K : Int → Mm → Prop} {x : Int} (h1 : 48 ≤ x → x ≤ 57 → K 1 m) (h0 : ¬ (48 ≤ x ∧ x ≤ 57) → K 0 m) : wp_X7_isDigit S m x K := by
  refine u_X7_isDigit ?_
  refine g_C ?_
  refine g_if (fun w => g_C ⟨by decide, h0 (by omega)⟩) (fun w => ?_)
  refine g_C ?_
  exact g_if (fun w2 => g_C ⟨by decide, h0 (by omega)⟩) (fun w2 => g_C ⟨by decide, h1 (by omega) (by omega)⟩)
theorem ze_isAtDigit {X : Mm} {S : Sh} {m0 : Mm} {K : Int → Mm → Prop} {b : Int → Int} {n : Int} (hS : Shp S) (hm0 : Inv X S m0) (ht : TC X b n) (hp : m0 1 2 ≤ n) (h1 : ∀ (q : Int) (M1 : Mm), Inv X S M1 → (∀ c p : Int, ¬ (c = 1 ∧ 2 ≤ p ∧ p ≤ 3) → M1 c p = m0 c p) → Sk b n (m0 1 2) q → M1 1 2 = q → M1 1 3 = q → q < n → Dg (b q) → K 1 M1) (h0 : ∀ (q : Int) (M1 : Mm), Inv X S M1 → (∀ c p : Int, ¬ (c = 1 ∧ 2 ≤ p ∧ p ≤ 3) → M1 c p = m0 c p) → Sk b n (m0 1 2) q → M1 1 2 = q → M1 1 3 = q → q ≤ n → ¬ (q < n ∧ Dg (b q)) → K 0 M1) : wp_X7_isAtDigit S m0 1 K := by
  have b2 := hm0.f_1_2
  refine u_X7_isAtDigit ?_
  refine ⟨hS.k1, ?_⟩
  refine ze_look hS hm0 ht hp (fun r q m1 hm1 f1 sk x1 x2 hq hr => ?_)
  have dr : (48 ≤ r ∧ r ≤ 57) ↔ (q < n ∧ Dg (b q)) := by
    unfold Dg
    rcases hr with ⟨z1, z2⟩ | ⟨z1, z2⟩
    · have tb := ht.2.2 q (by have := sk.1; omega) z1
      rw [z2]
      unfold u8
      split <;> omega
    · omega
  refine zl_dig (fun a c => ⟨by decide, ?_⟩) (fun a => ⟨by decide, h0 q m1 hm1 f1 sk x1 x2 hq (fun z => a (dr.mpr z))⟩)
  have z := dr.mp ⟨a, c⟩
  exact h1 q m1 hm1 f1 sk x1 x2 z.1 z.2
theorem ze_continues {X : Mm} {S : Sh} {m0 : Mm} {K : Int → Mm → Prop} {b : Int → Int} {n : Int} (hS : Shp S) (hm0 : Inv X S m0) (ht : TC X b n) (hp : m0 1 2 ≤ n) (h1 : ∀ M1 : Mm, Inv X S M1 → (∀ c p : Int, ¬ (c = 1 ∧ p = 2) → M1 c p = m0 c p) → M1 1 2 = m0 1 2 + 1 → m0 1 2 < n → b (m0 1 2) = 61 → K 1 M1) (h0 : ¬ (m0 1 2 < n ∧ b (m0 1 2) = 61) → K 0 m0) : wp_X7_continuesWith S m0 1 61 K := by
  have t2 := ht.2.1
  have b2 := hm0.f_1_2
  refine u_X7_continuesWith ?_
  refine g_getu 2 rfl hS.k1 (fun a ea => ?_)
  refine ⟨hS.k1, ?_⟩
  refine ze_byteAt hS hm0 ht (fun r hr => ?_)
  rw [ea] at hr
  have e : r = 61 ↔ (m0 1 2 < n ∧ b (m0 1 2) = 61) := by
    rcases hr with ⟨z0, z1, z2⟩ | ⟨z1, z2⟩
    · have tb := ht.2.2 (m0 1 2) z0 z1
      rw [z2, u8_eq tb.2.1 tb.2.2 (by decide) (by decide)]
      exact ⟨fun z => ⟨z1, z⟩, fun z => z.2⟩
    · omega
  refine g_if (fun w => ?_) (fun w => g_C ⟨by decide, h0 (fun z => w (e.mpr z))⟩)
  have z := e.mp w
  refine g_getu 2 rfl hS.k1 (fun a2 ea2 => ?_)
  refine g_C ?_
  refine g_A (by omega) (by omega) ?_
  refine g_put 2 rfl hS.k1 (hm0.w_1_2 (by omega) (by omega)) (fun m2 e2 hm2 => ?_)
  have f2 : ∀ c p : Int, ¬ (c = 1 ∧ p = 2) → m2 c p = m0 c p := fun c p q => (congrFun (congrFun e2 _) _).trans (up_ne q)
  have y2 : m2 1 2 = a2 + 1 := (congrFun (congrFun e2 _) _).trans (up_at _ _ _ _)
  exact g_C ⟨by decide, h1 m2 hm2 f2 (by omega) z.1 z.2⟩
end
section
/-! the class's pile of signs -/
def stk (f : Int → Int) : Nat → List Bool
  | 0 => []
  | n + 1 => if f n = -27 then true :: stk f n else if f n = -22 then false :: stk f n else stk f n
def hNt (f : Int → Int) : Nat → Prop
  | 0 => False
  | n + 1 => ¬ f n = -27 ∧ (f n = -22 ∨ hNt f n)
def okp (f : Int → Int) : Nat → Prop
  | 0 => True
  | n + 1 => okp f n ∧ ((f n = -23 ∨ f n = -24) → ¬ hNt f n)
def cnt : List Bool → Int
  | [] => 0
  | true :: s => cnt s + 1
  | false :: s => cnt s
theorem stk_same {f g : Int → Int} : ∀ n : Nat, (∀ j : Int, 0 ≤ j → j < n → f j = g j) → stk f n = stk g n ∧ hNt f n = hNt g n ∧ okp f n = okp g n := by
  intro n
  induction n with
  | zero => intro _; exact ⟨rfl, rfl, rfl⟩
  | succ n ih =>
    intro h
    obtain ⟨h1, h2, h3⟩ := ih (fun j a c => h j a (by omega))
    have e := h n (by omega) (by omega)
    refine ⟨?_, ?_, ?_⟩
    · simp only [stk, e, h1]
    · simp only [hNt, e, h2]
    · simp only [okp, e, h2, h3]
def CP (M : Mm) (st : List Bool) : Prop := stk (M 54) (M 52 5).toNat = st ∧ M 52 6 = (st.length : Int) ∧ okp (M 54) (M 52 5).toNat ∧ ∀ j : Int, 0 ≤ j → j < M 52 5 → (-24 ≤ M 54 j ∧ M 54 j ≤ -12) ∨ M 54 j = -27
theorem CP.same {m m1 : Mm} {st : List Bool} (h : CP m st) (f5 : m1 52 5 = m 52 5) (f6 : m1 52 6 = m 52 6) (f4 : ∀ p : Int, m1 54 p = m 54 p) : CP m1 st := by
  have e : m1 54 = m 54 := funext f4
  unfold CP
  rw [f5, f6, e]
  exact h
def bnd (x : Int) : Int := if x = -24 then 1 else if x = -23 then 2 else if x = -22 then 3 else if -21 ≤ x ∧ x ≤ -17 then 4 else if x = -16 ∨ x = -15 then 5 else if -14 ≤ x ∧ x ≤ -12 then 6 else 4
theorem zl_bnd {S : Sh} {m : Mm} {K : Int → Mm → Prop} {x : Int} (h : K (bnd x) m) : wp_X3_bindingOf S m x K := by
  have e : ∀ v : Int, bnd x = v → K v m := fun v z => by rw [← z]; exact h
  refine u_X3_bindingOf ?_
  refine g_if (fun w => g_C (e 1 (by unfold bnd; rw [if_pos w]))) (fun w1 => ?_)
  refine g_if (fun w => g_C (e 2 (by unfold bnd; rw [if_neg w1, if_pos w]))) (fun w2 => ?_)
  refine g_if (fun w => g_C (e 3 (by unfold bnd; rw [if_neg w1, if_neg w2, if_pos w]))) (fun w3 => ?_)
  refine g_if (fun w => g_C (e 4 (by unfold bnd; rw [if_neg w1, if_neg w2, if_neg w3, if_pos (by omega)]))) (fun w4 => ?_)
  refine g_if (fun w => g_C (e 4 (by unfold bnd; rw [if_neg w1, if_neg w2, if_neg w3, if_pos (by omega)]))) (fun w5 => ?_)
  refine g_if (fun w => g_C (e 4 (by unfold bnd; rw [if_neg w1, if_neg w2, if_neg w3, if_pos (by omega)]))) (fun w6 => ?_)
  refine g_if (fun w => g_C (e 4 (by unfold bnd; rw [if_neg w1, if_neg w2, if_neg w3, if_pos (by omega)]))) (fun w7 => ?_)
  refine g_if (fun w => g_C (e 4 (by unfold bnd; rw [if_neg w1, if_neg w2, if_neg w3, if_pos (by omega)]))) (fun w8 => ?_)
  have no : ¬ (-21 ≤ x ∧ x ≤ -17) := by omega
  refine g_if (fun w => g_C (e 5 (by unfold bnd; rw [if_neg w1, if_neg w2, if_neg w3, if_neg no, if_pos (by omega)]))) (fun w9 => ?_)
  refine g_if (fun w => g_C (e 5 (by unfold bnd; rw [if_neg w1, if_neg w2, if_neg w3, if_neg no, if_pos (by omega)]))) (fun w10 => ?_)
  have no2 : ¬ (x = -16 ∨ x = -15) := by omega
  refine g_if (fun w => g_C (e 6 (by unfold bnd; rw [if_neg w1, if_neg w2, if_neg w3, if_neg no, if_neg no2, if_pos (by omega)]))) (fun w11 => ?_)
  refine g_if (fun w => g_C (e 6 (by unfold bnd; rw [if_neg w1, if_neg w2, if_neg w3, if_neg no, if_neg no2, if_pos (by omega)]))) (fun w12 => ?_)
  refine g_if (fun w => g_C (e 6 (by unfold bnd; rw [if_neg w1, if_neg w2, if_neg w3, if_neg no, if_neg no2, if_pos (by omega)]))) (fun w13 => ?_)
  exact g_C (e 4 (by unfold bnd; rw [if_neg w1, if_neg w2, if_neg w3, if_neg no, if_neg no2, if_neg (by omega)]))
theorem ze_push {X : Mm} {S : Sh} {m0 : Mm} {K : Mm → Prop} {s : Int} (hS : Shp S) (hm0 : Inv X S m0) (hp : m0 52 5 ≤ 399) (hk : ∀ M1 : Mm, Inv X S M1 → (∀ c p : Int, ¬ (c = 52 ∧ p = 5) ∧ ¬ (c = 54 ∧ p = m0 52 5) → M1 c p = m0 c p) → M1 52 5 = m0 52 5 + 1 → M1 54 (m0 52 5) = s → K M1) : wp_X3_push S m0 52 s K := by
  have b5 := hm0.f_52_5
  refine u_X3_push ?_
  refine g_getu 5 rfl hS.k52 (fun v ev => ?_)
  refine g_C ?_
  refine g_ifF (by first | decide | omega) ?_
  refine g_getr 4 54 rfl hS.k52 hm0.f_52_4 (by decide) ?_
  refine g_getu 5 rfl hS.k52 (fun v2 ev2 => ?_)
  refine g_st hS.k54 hS.l54 (by omega) (by omega) (hm0.wa_54 (by omega) (by omega)) (fun m1 e1 hm1 => ?_)
  have f1 : ∀ c p : Int, ¬ (c = 54 ∧ p = v2) → m1 c p = m0 c p := fun c p q => (congrFun (congrFun e1 _) _).trans (up_ne q)
  have y1 : m1 54 v2 = s := (congrFun (congrFun e1 _) _).trans (up_at _ _ _ _)
  refine g_getu 5 rfl hS.k52 (fun v3 ev3 => ?_)
  rw [f1 52 5 (by first | decide | exact fun z => absurd z.1 (by decide) | exact ⟨fun z => absurd z.1 (by decide), fun z => absurd z.1 (by decide)⟩ | omega)] at ev3
  refine g_C ?_
  refine g_A (by omega) (by omega) ?_
  refine g_put 5 rfl hS.k52 (hm1.w_52_5 (by omega) (by omega)) (fun m2 e2 hm2 => ?_)
  have f2 : ∀ c p : Int, ¬ (c = 52 ∧ p = 5) → m2 c p = m1 c p := fun c p q => (congrFun (congrFun e2 _) _).trans (up_ne q)
  have y2 : m2 52 5 = v3 + 1 := (congrFun (congrFun e2 _) _).trans (up_at _ _ _ _)
  refine hk m2 hm2 (fun c p q => (f2 c p (by first | exact fun y => absurd (y.1 ▸ z) (by decide) | exact fun y => absurd (y.1 ▸ q) (by decide) | exact z | exact q | exact z.1 | exact q.1 | exact z.2 | exact q.2 | omega)).trans (f1 c p (by first | exact fun y => absurd (y.1 ▸ z) (by decide) | exact fun y => absurd (y.1 ▸ q) (by decide) | exact z | exact q | exact z.1 | exact q.1 | exact z.2 | exact q.2 | omega))) (by omega) ?_
  rw [f2 54 _ (by first | decide | exact fun z => absurd z.1 (by decide) | exact ⟨fun z => absurd z.1 (by decide), fun z => absurd z.1 (by decide)⟩ | omega), ← ev2]
  exact y1
theorem ze_dropTop {X : Mm} {S : Sh} {m0 : Mm} {K : Mm → Prop} (hS : Shp S) (hm0 : Inv X S m0) (hp : 1 ≤ m0 52 5) (hd : 0 ≤ m0 52 6) (hd2 : m0 52 6 ≤ 400) (hk : ∀ M1 : Mm, Inv X S M1 → (∀ c p : Int, ¬ (c = 52 ∧ (p = 5 ∨ p = 6)) → M1 c p = m0 c p) → M1 52 5 = m0 52 5 - 1 → (((m0 54 (m0 52 5 - 1) = -27 ∨ m0 54 (m0 52 5 - 1) = -22) ∧ M1 52 6 = m0 52 6 - 1) ∨ (¬ (m0 54 (m0 52 5 - 1) = -27 ∨ m0 54 (m0 52 5 - 1) = -22) ∧ M1 52 6 = m0 52 6)) → K M1) : wp_X3_dropTop S m0 52 K := by
  have b5 := hm0.f_52_5
  refine u_X3_dropTop ?_
  refine g_getu 5 rfl hS.k52 (fun v ev => ?_)
  refine g_ifF (by first | decide | omega) ?_
  refine g_getu 5 rfl hS.k52 (fun v2 ev2 => ?_)
  refine g_C ?_
  refine g_S (by omega) (by omega) ?_
  refine g_put 5 rfl hS.k52 (hm0.w_52_5 (by omega) (by omega)) (fun m1 e1 hm1 => ?_)
  have f1 : ∀ c p : Int, ¬ (c = 52 ∧ p = 5) → m1 c p = m0 c p := fun c p q => (congrFun (congrFun e1 _) _).trans (up_ne q)
  have y1 : m1 52 5 = v2 - 1 := (congrFun (congrFun e1 _) _).trans (up_at _ _ _ _)
  have go : (m0 54 (m0 52 5 - 1) = -27 ∨ m0 54 (m0 52 5 - 1) = -22) → wp_X3_dropTop_45 S K 52 m1 := by
    intro hh
    refine u_X3_dropTop_45 ?_
    refine g_getu 6 rfl hS.k52 (fun d ed => ?_)
    rw [f1 52 6 (by first | decide | exact fun z => absurd z.1 (by decide) | exact ⟨fun z => absurd z.1 (by decide), fun z => absurd z.1 (by decide)⟩ | omega)] at ed
    refine g_C ?_
    refine g_S (by omega) (by omega) ?_
    refine g_put 6 rfl hS.k52 (hm1.w_52_6 (by omega) (by omega)) (fun m2 e2 hm2 => ?_)
    have f2 : ∀ c p : Int, ¬ (c = 52 ∧ p = 6) → m2 c p = m1 c p := fun c p q => (congrFun (congrFun e2 _) _).trans (up_ne q)
    have y2 : m2 52 6 = d - 1 := (congrFun (congrFun e2 _) _).trans (up_at _ _ _ _)
    exact hk m2 hm2 (fun c p q => (f2 c p (by first | exact fun y => absurd (y.1 ▸ z) (by decide) | exact fun y => absurd (y.1 ▸ q) (by decide) | exact z | exact q | exact z.1 | exact q.1 | exact z.2 | exact q.2 | omega)).trans (f1 c p (by first | exact fun y => absurd (y.1 ▸ z) (by decide) | exact fun y => absurd (y.1 ▸ q) (by decide) | exact z | exact q | exact z.1 | exact q.1 | exact z.2 | exact q.2 | omega))) (by rw [f2 52 5 (by first | decide | exact fun z => absurd z.1 (by decide) | exact ⟨fun z => absurd z.1 (by decide), fun z => absurd z.1 (by decide)⟩ | omega)]; omega) (Or.inl ⟨hh, by omega⟩)
  refine g_getr 4 54 rfl hS.k52 hm1.f_52_4 (by decide) ?_
  refine g_getu 5 rfl hS.k52 (fun v3 ev3 => ?_)
  refine g_ldu hS.k54 hS.l54 (by omega) (by omega) (fun x ex => ?_)
  have ex2 : x = m0 54 (m0 52 5 - 1) := by
    rw [ex, f1 54 _ (by first | decide | exact fun z => absurd z.1 (by decide) | exact ⟨fun z => absurd z.1 (by decide), fun z => absurd z.1 (by decide)⟩ | omega)]
    congr 1
    omega
  refine g_C ?_
  refine g_if (fun w => go (by omega)) (fun w => ?_)
  refine g_getr 4 54 rfl hS.k52 hm1.f_52_4 (by decide) ?_
  refine g_getu 5 rfl hS.k52 (fun v4 ev4 => ?_)
  refine g_ldu hS.k54 hS.l54 (by omega) (by omega) (fun y ey => ?_)
  have ey2 : y = m0 54 (m0 52 5 - 1) := by
    rw [ey, f1 54 _ (by first | decide | exact fun z => absurd z.1 (by decide) | exact ⟨fun z => absurd z.1 (by decide), fun z => absurd z.1 (by decide)⟩ | omega)]
    congr 1
    omega
  refine g_C ?_
  refine g_if (fun w2 => ?_) (fun w2 => go (by omega))
  exact hk m1 hm1 (fun c p q => f1 c p (by first | exact fun y => absurd (y.1 ▸ z) (by decide) | exact fun y => absurd (y.1 ▸ q) (by decide) | exact z | exact q | exact z.1 | exact q.1 | exact z.2 | exact q.2 | omega)) (by omega) (Or.inr ⟨by omega, f1 52 6 (by first | decide | exact fun z => absurd z.1 (by decide) | exact ⟨fun z => absurd z.1 (by decide), fun z => absurd z.1 (by decide)⟩ | omega)⟩)
end
section
/-! the class's rule reader, held against Acc -/
theorem Acc.back {b : Int → Int} {n m p q c : Int} {st : List Bool} {k f : Int} (hs : Sk b n p q) (h : Acc b n m q c st k f) : Acc b n m p c st k f := by
  obtain ⟨N, h⟩ := h
  cases N with
  | zero => exact h.elim
  | succ N =>
    obtain ⟨r, hr, h⟩ := h
    have e := hr.uniq hs.idem
    subst e
    exact ⟨N + 1, r, hs, h⟩
/-- the class has come so far: T is how it must end -/
def Lk (b : Int → Int) (n : Int) (T : Int → Prop) (M : Mm) (m : Int) (st : List Bool) (k : Int) : Prop := (∀ f : Int, Acc b n m (M 1 2) (M 52 3) st k f → T f) ∧ M 1 4 = 0 ∧ M 1 2 ≤ n ∧ M 52 2 + M 52 5 + 2 ≤ M 1 2 ∧ M 52 3 ≤ 60 ∧ st.length ≤ 10 ∧ CP M st ∧ M 52 7 = cnt st
theorem Lk.move {b : Int → Int} {n : Int} {T : Int → Prop} {M M1 : Mm} {m k q : Int} {st : List Bool} (h : Lk b n T M m st k) (f : ∀ c p : Int, ¬ (c = 1 ∧ 2 ≤ p ∧ p ≤ 3) → M1 c p = M c p) (hs : Sk b n (M 1 2) q) (hq : M1 1 2 = q) (hn : q ≤ n) : Lk b n T M1 m st k := by
  obtain ⟨h1, h2, h3, h4, h5, h6, h7, h8⟩ := h
  refine ⟨fun g z => h1 g ?_, (f 1 4 (by first | decide | exact fun z => absurd z.1 (by decide) | exact ⟨fun z => absurd z.1 (by decide), fun z => absurd z.1 (by decide)⟩ | omega)).trans h2, by omega, ?_, by rw [f 52 3 (by first | decide | exact fun z => absurd z.1 (by decide) | exact ⟨fun z => absurd z.1 (by decide), fun z => absurd z.1 (by decide)⟩ | omega)]; exact h5, h6, h7.same (f 52 5 (by first | decide | exact fun z => absurd z.1 (by decide) | exact ⟨fun z => absurd z.1 (by decide), fun z => absurd z.1 (by decide)⟩ | omega)) (f 52 6 (by first | decide | exact fun z => absurd z.1 (by decide) | exact ⟨fun z => absurd z.1 (by decide), fun z => absurd z.1 (by decide)⟩ | omega)) (fun p => f 54 p (by first | decide | exact fun z => absurd z.1 (by decide) | exact ⟨fun z => absurd z.1 (by decide), fun z => absurd z.1 (by decide)⟩ | omega)), (f 52 7 (by first | decide | exact fun z => absurd z.1 (by decide) | exact ⟨fun z => absurd z.1 (by decide), fun z => absurd z.1 (by decide)⟩ | omega)).trans h8⟩
  · rw [hq, f 52 3 (by first | decide | exact fun z => absurd z.1 (by decide) | exact ⟨fun z => absurd z.1 (by decide), fun z => absurd z.1 (by decide)⟩ | omega)] at z
    exact Acc.back hs z
  · rw [f 52 2 (by first | decide | exact fun z => absurd z.1 (by decide) | exact ⟨fun z => absurd z.1 (by decide), fun z => absurd z.1 (by decide)⟩ | omega), f 52 5 (by first | decide | exact fun z => absurd z.1 (by decide) | exact ⟨fun z => absurd z.1 (by decide), fun z => absurd z.1 (by decide)⟩ | omega)]
    have := hs.1
    omega
theorem vws_t : ∀ i : Nat, i < 10 → vws.getD i 0 < 17 := by decide
end
section
theorem CP.push {m m1 : Mm} {st : List Bool} {s : Int} (h : CP m st) (h0 : 0 ≤ m 52 5) (f : ∀ c p : Int, ¬ (c = 52 ∧ p = 5) ∧ ¬ (c = 54 ∧ p = m 52 5) → m1 c p = m c p) (h5 : m1 52 5 = m 52 5 + 1) (hs : m1 54 (m 52 5) = s) : stk (m1 54) (m1 52 5).toNat = (if s = -27 then true :: st else if s = -22 then false :: st else st) ∧ (((s = -23 ∨ s = -24) → ¬ hNt (m 54) (m 52 5).toNat) → okp (m1 54) (m1 52 5).toNat) ∧ (((-24 ≤ s ∧ s ≤ -12) ∨ s = -27) → ∀ j : Int, 0 ≤ j → j < m1 52 5 → (-24 ≤ m1 54 j ∧ m1 54 j ≤ -12) ∨ m1 54 j = -27) := by
  obtain ⟨p1, p2, p3, p4⟩ := h
  have en : (m1 52 5).toNat = (m 52 5).toNat + 1 := by omega
  have ct : (((m 52 5).toNat : Nat) : Int) = m 52 5 := by omega
  obtain ⟨q1, q2, q3⟩ := stk_same (f := m1 54) (g := m 54) (m 52 5).toNat (fun j j0 j1 => f 54 j (by first | decide | exact fun z => absurd z.1 (by decide) | exact ⟨fun z => absurd z.1 (by decide), fun z => absurd z.1 (by decide)⟩ | omega))
  refine ⟨?_, fun hh => ?_, fun hh j j0 j1 => ?_⟩
  · rw [en]
    show (if m1 54 (((m 52 5).toNat : Nat) : Int) = -27 then true :: stk (m1 54) (m 52 5).toNat else if m1 54 (((m 52 5).toNat : Nat) : Int) = -22 then false :: stk (m1 54) (m 52 5).toNat else stk (m1 54) (m 52 5).toNat) = _
    rw [ct, hs, q1, p1]
  · rw [en]
    refine ⟨by rw [q3]; exact p3, fun z => ?_⟩
    rw [ct, hs] at z
    rw [q2]
    exact hh z
  · by_cases e : j = m 52 5
    · rw [e, hs]; exact hh
    · rw [f 54 j (by first | decide | exact fun z => absurd z.1 (by decide) | exact ⟨fun z => absurd z.1 (by decide), fun z => absurd z.1 (by decide)⟩ | omega)]
      exact p4 j j0 (by omega)
end
section
theorem wrd_no {b : Int → Int} {n q : Int} {k : Nat} (h : Wk b n k q) (h2 : 2 ≤ tl k) : q < n ∧ b q = tw k 0 := by
  have z := h.1 0 (by omega) (by omega)
  rw [Int.add_zero] at z
  exact z
end
section
theorem Lk.fault {b : Int → Int} {n : Int} {T : Int → Prop} {M : Mm} {m k q f : Int} {st : List Bool} (h : Lk b n T M m st k) (hs : Sk b n (M 1 2) q) (hp : stp b n (Acc b n) m q (M 52 3) st k f) : T f := h.1 f (a_step hs hp)
theorem ze_refuse0 {X : Mm} {S : Sh} {m0 : Mm} {K : Int → Mm → Prop} {q u : Int} {T : Int → Prop} (hS : Shp S) (hm0 : Inv X S m0) (h4 : m0 1 4 = 0) (h3 : m0 1 3 = q) (q0 : 0 ≤ q) (u0 : 0 ≤ u) (u1 : u ≤ 4) (hT : T (1 + 8 * q + u)) (hf : ∀ M1 : Mm, Inv X S M1 → T (M1 1 4) → ¬ M1 1 4 = 0 → K 0 M1) : isK S 1 7 ∧ wp_X7_refuse S m0 1 u (fun v M => (v = 0 ∨ v = 1) ∧ K v M) := by
  refine ⟨hS.k1, ?_⟩
  refine ze_refuse hS hm0 u0 u1 (fun m2 hm2 f2 y2 => ?_)
  have y3 : m2 1 4 = 1 + 8 * q + u := by omega
  refine ⟨by decide, hf m2 hm2 ?_ (by omega)⟩
  rw [y3]
  exact hT
end
section
theorem Sk_ex (b : Int → Int) (n : Int) : ∀ (k : Nat) (p : Int), n - p ≤ (k : Int) → ∃ q : Int, Sk b n p q := by
  intro k
  induction k with
  | zero => intro p h; exact ⟨p, Sk.self (Or.inl (by omega))⟩
  | succ k ih =>
    intro p h
    by_cases e : p < n ∧ b p = 32
    · obtain ⟨q, hq⟩ := ih (p + 1) (by omega)
      exact ⟨q, hq.cons e.1 e.2⟩
    · exact ⟨p, Sk.self (by omega)⟩
theorem zl_whole {S : Sh} {m : Mm} {K : Int → Mm → Prop} (hS : Shp S) (h1 : (m 52 8 = 2 ∨ m 52 8 = 3) → K 1 m) (h0 : ¬ (m 52 8 = 2 ∨ m 52 8 = 3) → K 0 m) : wp_X3_isFactWhole S m 52 K := by
  refine u_X3_isFactWhole ?_
  refine g_getu 8 rfl hS.k52 (fun w ew => ?_)
  refine g_C ?_
  refine g_if (fun w1 => ?_) (fun w1 => ?_)
  · refine u_X3_isFactWhole_16 ?_
    exact g_C ⟨by decide, h1 (by omega)⟩
  · refine g_getu 8 rfl hS.k52 (fun w' ew' => ?_)
    refine g_C ?_
    refine g_if (fun w2 => g_C ⟨by decide, h0 (by omega)⟩) (fun w2 => ?_)
    refine u_X3_isFactWhole_16 ?_
    exact g_C ⟨by decide, h1 (by omega)⟩
end
