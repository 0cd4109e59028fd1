theorem z_X12_turnedResting {X : Mm} {S : Sh} {m0 : Mm} {K : Int → Mm → Prop} {u1 u2 u3 : Int} (hS : Shp S) (hm0 : Inv X S m0) (l_u1 : 0 ≤ u1) (h_u1 : u1 ≤ 4) (l_u2 : 1 ≤ u2) (h_u2 : u2 ≤ 10) (l_u3 : 0 ≤ u3) (h_u3 : u3 ≤ 1023) (hk : ∀ (r : Int) (M1 : Mm), Inv X S M1 → (-2147483648) ≤ r → r ≤ 999 → K r M1) : wp_X12_turnedResting S m0 336 u1 u2 u3 K := by
  refine u_X12_turnedResting ?_
  refine g_C ?_
  refine g_C ?_
  refine ⟨hS.k336, ?_⟩
  refine u_X12_handOf ?_
  refine g_getr 20 346 rfl hS.k336 hm0.f_336_20 (by decide) ?_
  refine g_C ?_
  refine g_C ?_
  refine g_M (by omega) (by omega) ?_
  refine g_A (by omega) (by omega) ?_
  refine g_A (by omega) (by omega) ?_
  refine g_ld (0) (99) hS.k346 hS.l346 (by omega) (by omega) (fam_346_12_5_0_4 hm0 (a := u1) (by omega) (by omega) (by omega)) (fun v1 ev1 bv1 cv1 => ?_)
  refine g_C ?_
  have L_n_l172 : ∀ (n_l172 : Nat) (u6 : Int) (u7 : Int) (u8 : Int) (m9 : Mm), Inv X S m9 → (-2147483648) ≤ u6 → u6 ≤ 999 → 0 ≤ u7 → u7 ≤ 104 → 0 ≤ u8 → u8 ≤ 10 → 11 - u8 ≤ (n_l172 : Int) → wp_X12_turnedResting_14 S K n_l172 336 u1 u2 u3 u6 u7 u8 m9 := by
    intro n_l172
    induction n_l172 with
    | zero => intro u6 u7 u8 m9 hm9 bu6 cu6 bu7 cu7 bu8 cu8 zn_l172; exfalso; omega
    | succ n_l172 ih_n_l172 =>
      intro u6 u7 u8 m9 hm9 bu6 cu6 bu7 cu7 bu8 cu8 zn_l172
      refine u_X12_turnedResting_14 ?_
      refine g_if (fun w173 => ?_) (fun w173 => ?_)
      · exact hk u6 m9 hm9 (by omega) (by omega)
      · refine u_X12_isOf ?_
        refine g_iShr (by omega) (by omega) (fun v174 bv174 cv174 => ?_)
        refine g_C ?_
        refine g_iAndR (by omega) (by omega) (fun v175 dv175 bv175 cv175 => ?_)
        refine g_C ?_
        refine g_if (fun w176 => ?_) (fun w176 => ?_)
        · refine g_C ?_
          refine ⟨by omega, ?_⟩
          refine g_ifT (by omega) ?_
          refine g_if (fun w177 => ?_) (fun w177 => ?_)
          · refine g_C ?_
            refine u_X12_turnedResting_86 ?_
            refine g_S (by omega) (by omega) ?_
            refine u_X12_turnedResting_89 ?_
            refine g_A (by omega) (by omega) ?_
            exact ih_n_l172 u6 (u7 - 0) (u8 + 1) m9 hm9 (by omega) (by omega) (by omega) (by omega) (by omega) (by omega) (by omega)
          · refine g_C ?_
            refine u_X12_turnedResting_86 ?_
            refine g_S (by omega) (by omega) ?_
            refine u_X12_turnedResting_89 ?_
            refine g_A (by omega) (by omega) ?_
            exact ih_n_l172 u6 (u7 - 1) (u8 + 1) m9 hm9 (by omega) (by omega) (by omega) (by omega) (by omega) (by omega) (by omega)
        · refine g_C ?_
          refine ⟨by omega, ?_⟩
          refine g_ifF (by omega) ?_
          refine g_C ?_
          refine g_getr 20 346 rfl hS.k336 hm9.f_336_20 (by decide) ?_
          refine g_C ?_
          refine g_ld (-2147483648) (2147483647) hS.k346 hS.l346 (by omega) (by omega) (hm9.f_346_7) (fun v178 ev178 bv178 cv178 => ?_)
          refine g_Aw (fun v179 bv179 cv179 => ?_)
          refine g_C ?_
          refine g_C ?_
          refine ⟨hS.k336, ?_⟩
          refine z_X12_turnsIn hS hm9 (by omega) (by omega) (by omega) (by omega) (by omega) (by omega) (by omega) (by omega) (by omega) (by omega) (by omega) (by omega) (by omega) (by omega) (fun v180 m181 hm181 fm181 bv180 cv180 => ?_)
          refine g_Aw (fun v182 bv182 cv182 => ?_)
          refine g_C ?_
          refine u_X12_atMost ?_
          refine g_if (fun w183 => ?_) (fun w183 => ?_)
          · refine ⟨hS.k336, ?_⟩
            refine u_X12_moreTired ?_
            refine g_C ?_
            refine ⟨hS.k336, ?_⟩
            refine u_X12_handOf ?_
            refine g_getr 20 346 rfl hS.k336 hm181.f_336_20 (by decide) ?_
            refine g_C ?_
            refine g_C ?_
            refine g_M (by omega) (by omega) ?_
            refine g_A (by omega) (by omega) ?_
            refine g_A (by omega) (by omega) ?_
            refine g_ld (0) (5) hS.k346 hS.l346 (by omega) (by omega) (fam_346_14_5_0_4 hm181 (a := u1) (by omega) (by omega) (by omega)) (fun v184 ev184 bv184 cv184 => ?_)
            refine g_A (by omega) (by omega) ?_
            refine g_C ?_
            refine u_X12_atMost ?_
            refine g_if (fun w185 => ?_) (fun w185 => ?_)
            · refine u_X12_turnedResting_89 ?_
              refine g_A (by omega) (by omega) ?_
              exact ih_n_l172 v182 (u7 + v184) (u8 + 1) m181 hm181 (by omega) (by omega) (by omega) (by omega) (by omega) (by omega) (by omega)
            · refine u_X12_turnedResting_89 ?_
              refine g_A (by omega) (by omega) ?_
              exact ih_n_l172 v182 99 (u8 + 1) m181 hm181 (by omega) (by omega) (by omega) (by omega) (by omega) (by omega) (by omega)
          · refine ⟨hS.k336, ?_⟩
            refine u_X12_moreTired ?_
            refine g_C ?_
            refine ⟨hS.k336, ?_⟩
            refine u_X12_handOf ?_
            refine g_getr 20 346 rfl hS.k336 hm181.f_336_20 (by decide) ?_
            refine g_C ?_
            refine g_C ?_
            refine g_M (by omega) (by omega) ?_
            refine g_A (by omega) (by omega) ?_
            refine g_A (by omega) (by omega) ?_
            refine g_ld (0) (5) hS.k346 hS.l346 (by omega) (by omega) (fam_346_14_5_0_4 hm181 (a := u1) (by omega) (by omega) (by omega)) (fun v186 ev186 bv186 cv186 => ?_)
            refine g_A (by omega) (by omega) ?_
            refine g_C ?_
            refine u_X12_atMost ?_
            refine g_if (fun w187 => ?_) (fun w187 => ?_)
            · refine u_X12_turnedResting_89 ?_
              refine g_A (by omega) (by omega) ?_
              exact ih_n_l172 999 (u7 + v186) (u8 + 1) m181 hm181 (by omega) (by omega) (by omega) (by omega) (by omega) (by omega) (by omega)
            · refine u_X12_turnedResting_89 ?_
              refine g_A (by omega) (by omega) ?_
              exact ih_n_l172 999 99 (u8 + 1) m181 hm181 (by omega) (by omega) (by omega) (by omega) (by omega) (by omega) (by omega)
  exact ⟨11, L_n_l172 11 0 v1 0 m0 hm0 (by omega) (by omega) (by omega) (by omega) (by omega) (by omega) (by omega)⟩
theorem z_X12_rest {X : Mm} {S : Sh} {m0 : Mm} {K : Int → Mm → Prop} {u1 u2 u3 u4 : Int} (hS : Shp S) (hm0 : Inv X S m0) (l_u1 : (-2147483648) ≤ u1) (h_u1 : u1 ≤ 2147483647) (l_u2 : (-2147483648) ≤ u2) (h_u2 : u2 ≤ 2147483647) (l_u3 : (-2147483648) ≤ u3) (h_u3 : u3 ≤ 2147483647) (l_u4 : (-2147483648) ≤ u4) (h_u4 : u4 ≤ 2147483647) (hk : ∀ (r : Int) (M1 : Mm), Inv X S M1 → (-2147483648) ≤ r → r ≤ 6000 → K r M1) : wp_X12_rest S m0 336 u1 u2 u3 u4 K := by
  refine u_X12_rest ?_
  refine ⟨hS.k336, ?_⟩
  refine u_X12_isHand ?_
  refine g_if (fun w1 => ?_) (fun w1 => ?_)
  · refine g_C ?_
    refine ⟨by omega, ?_⟩
    refine g_ifT (by omega) ?_
    refine g_C ?_
    exact hk (-1) m0 hm0 (by omega) (by omega)
  · refine g_getr 20 346 rfl hS.k336 hm0.f_336_20 (by decide) ?_
    refine g_C ?_
    refine g_ld (0) (5) hS.k346 hS.l346 (by omega) (by omega) (hm0.f_346_4) (fun v2 ev2 bv2 cv2 => ?_)
    refine g_if (fun w3 => ?_) (fun w3 => ?_)
    · refine g_C ?_
      refine ⟨by omega, ?_⟩
      refine g_ifT (by omega) ?_
      refine g_C ?_
      exact hk (-1) m0 hm0 (by omega) (by omega)
    · refine g_C ?_
      refine ⟨by omega, ?_⟩
      refine g_ifF (by omega) ?_
      refine g_C ?_
      refine g_C ?_
      refine g_C ?_
      refine z_in (fun aw4 bw4 => ?_) (fun cw4 => ?_)
      · refine g_ifF (by omega) ?_
        refine g_C ?_
        refine g_C ?_
        refine g_C ?_
        refine z_in (fun aw5 bw5 => ?_) (fun cw5 => ?_)
        · refine g_ifF (by omega) ?_
          refine g_C ?_
          refine g_C ?_
          refine g_C ?_
          refine z_in (fun aw6 bw6 => ?_) (fun cw6 => ?_)
          · refine g_ifT (by omega) ?_
            refine g_C ?_
            refine g_C ?_
            refine g_C ?_
            have L_n_l210 : ∀ (n_l210 : Nat) (u12 : Int) (u13 : Int) (u14 : Int) (m15 : Mm), Inv X S m15 → (-1) ≤ u12 → u12 ≤ 6000 → (-2147483648) ≤ u13 → u13 ≤ 999 → 0 ≤ u14 → u14 ≤ 1024 → 1025 - u14 ≤ (n_l210 : Int) → wp_X12_rest_53 S K n_l210 336 u1 u2 u3 u4 u12 u13 u14 m15 := by
              intro n_l210
              induction n_l210 with
              | zero => intro u12 u13 u14 m15 hm15 bu12 cu12 bu13 cu13 bu14 cu14 zn_l210; exfalso; omega
              | succ n_l210 ih_n_l210 =>
                intro u12 u13 u14 m15 hm15 bu12 cu12 bu13 cu13 bu14 cu14 zn_l210
                refine u_X12_rest_53 ?_
                refine g_C ?_
                refine g_iShl 10 (by omega) (by omega) (by decide) (fun v211 bv211 cv211 => ?_)
                refine g_if (fun w212 => ?_) (fun w212 => ?_)
                · refine g_if (fun w213 => ?_) (fun w213 => ?_)
                  · exact hk u13 m15 hm15 (by omega) (by omega)
                  · exact hk u12 m15 hm15 (by omega) (by omega)
                · refine z_X12_bits hS hm15 (by omega) (by omega) (fun v214 bv214 cv214 => ?_)
                  refine g_if (fun w215 => ?_) (fun w215 => ?_)
                  · refine ⟨hS.k336, ?_⟩
                    refine z_X12_turnedResting hS hm15 (by omega) (by omega) (by omega) (by omega) (by omega) (by omega) (fun v216 m217 hm217 bv216 cv216 => ?_)
                    refine g_if (fun w218 => ?_) (fun w218 => ?_)
                    · refine u_X12_rest_98 ?_
                      refine u_X12_rest_106 ?_
                      refine g_A (by omega) (by omega) ?_
                      exact ih_n_l210 u14 v216 (u14 + 1) m217 hm217 (by omega) (by omega) (by omega) (by omega) (by omega) (by omega) (by omega)
                    · refine g_if (fun w219 => ?_) (fun w219 => ?_)
                      · refine u_X12_rest_98 ?_
                        refine u_X12_rest_106 ?_
                        refine g_A (by omega) (by omega) ?_
                        exact ih_n_l210 u14 v216 (u14 + 1) m217 hm217 (by omega) (by omega) (by omega) (by omega) (by omega) (by omega) (by omega)
                      · refine u_X12_rest_106 ?_
                        refine g_A (by omega) (by omega) ?_
                        exact ih_n_l210 u12 u13 (u14 + 1) m217 hm217 (by omega) (by omega) (by omega) (by omega) (by omega) (by omega) (by omega)
                  · refine u_X12_rest_106 ?_
                    refine g_A (by omega) (by omega) ?_
                    exact ih_n_l210 u12 u13 (u14 + 1) m15 hm15 (by omega) (by omega) (by omega) (by omega) (by omega) (by omega) (by omega)
            exact ⟨1025, L_n_l210 1025 (-1) 0 0 m0 hm0 (by omega) (by omega) (by omega) (by omega) (by omega) (by omega) (by omega)⟩
          · refine g_ifF (by omega) ?_
            refine g_C ?_
            exact hk (-1) m0 hm0 (by omega) (by omega)
        · refine g_ifT (by omega) ?_
          refine g_C ?_
          exact hk (-1) m0 hm0 (by omega) (by omega)
      · refine g_ifT (by omega) ?_
        refine g_C ?_
        exact hk (-1) m0 hm0 (by omega) (by omega)
theorem z_X12_take {X : Mm} {S : Sh} {m0 : Mm} {K : Int → Mm → Prop} {u1 u2 : Int} (hS : Shp S) (hm0 : Inv X S m0) (l_u1 : (-2147483648) ≤ u1) (h_u1 : u1 ≤ 2147483647) (l_u2 : (-2147483648) ≤ u2) (h_u2 : u2 ≤ 2147483647) (hk : ∀ (r : Int) (M1 : Mm), Inv X S M1 → (-1) ≤ r → r ≤ 15 → K r M1) : wp_X12_take S m0 336 u1 u2 K := by
  refine u_X12_take ?_
  refine ⟨hS.k336, ?_⟩
  refine u_X12_isHand ?_
  refine g_if (fun w1 => ?_) (fun w1 => ?_)
  · refine g_C ?_
    refine ⟨by omega, ?_⟩
    refine g_ifT (by omega) ?_
    refine g_C ?_
    exact hk (-1) m0 hm0 (by omega) (by omega)
  · refine g_getr 20 346 rfl hS.k336 hm0.f_336_20 (by decide) ?_
    refine g_C ?_
    refine g_ld (0) (5) hS.k346 hS.l346 (by omega) (by omega) (hm0.f_346_4) (fun v2 ev2 bv2 cv2 => ?_)
    refine g_if (fun w3 => ?_) (fun w3 => ?_)
    · refine g_C ?_
      refine ⟨by omega, ?_⟩
      refine g_ifT (by omega) ?_
      refine g_C ?_
      exact hk (-1) m0 hm0 (by omega) (by omega)
    · refine g_C ?_
      refine ⟨by omega, ?_⟩
      refine g_ifF (by omega) ?_
      refine ⟨hS.k336, ?_⟩
      refine u_X12_isJug ?_
      refine g_if (fun w4 => ?_) (fun w4 => ?_)
      · refine g_C ?_
        refine ⟨by omega, ?_⟩
        refine g_ifT (by omega) ?_
        refine g_C ?_
        exact hk (-1) m0 hm0 (by omega) (by omega)
      · refine g_getr 20 346 rfl hS.k336 hm0.f_336_20 (by decide) ?_
        refine g_C ?_
        refine g_ld (0) (4) hS.k346 hS.l346 (by omega) (by omega) (hm0.f_346_5) (fun v5 ev5 bv5 cv5 => ?_)
        refine g_if (fun w6 => ?_) (fun w6 => ?_)
        · refine g_C ?_
          refine ⟨by omega, ?_⟩
          refine g_ifT (by omega) ?_
          refine g_C ?_
          exact hk (-1) m0 hm0 (by omega) (by omega)
        · refine g_C ?_
          refine ⟨by omega, ?_⟩
          refine g_ifF (by omega) ?_
          refine ⟨hS.k336, ?_⟩
          refine z_X12_canTake hS hm0 (by omega) (by omega) (by omega) (by omega) (fun v7 bv7 cv7 => ?_)
          refine g_if (fun w8 => ?_) (fun w8 => ?_)
          · refine ⟨hS.k336, ?_⟩
            refine z_X12_keepsAct hS hm0 (fun m9 hm9 => ?_)
            refine ⟨hS.k336, ?_⟩
            refine u_X12_takes ?_
            refine g_getr 20 346 rfl hS.k336 hm9.f_336_20 (by decide) ?_
            refine g_C ?_
            refine g_C ?_
            refine g_M (by omega) (by omega) ?_
            refine g_A (by omega) (by omega) ?_
            refine g_C ?_
            refine g_A (by omega) (by omega) ?_
            refine g_st hS.k346 hS.l346 (by omega) (by omega) (wfm_346_36_4_0_3 hm9 (a := u2) (by omega) (by omega) (by omega) (by omega) (by omega)) (fun m10 em10 hm10 => ?_)
            refine ⟨hS.k336, ?_⟩
            refine z_X12_held hS hm10 (by omega) (by omega) (fun v11 bv11 cv11 => ?_)
            exact hk v11 m10 hm10 (by omega) (by omega)
          · refine g_C ?_
            exact hk (-1) m0 hm0 (by omega) (by omega)
theorem z_X12_test {X : Mm} {S : Sh} {m0 : Mm} {K : Int → Mm → Prop} {u1 u2 u3 u4 : Int} (hS : Shp S) (hm0 : Inv X S m0) (l_u1 : (-2147483648) ≤ u1) (h_u1 : u1 ≤ 2147483647) (l_u2 : (-2147483648) ≤ u2) (h_u2 : u2 ≤ 2147483647) (l_u3 : (-2147483648) ≤ u3) (h_u3 : u3 ≤ 2147483647) (l_u4 : (-2147483648) ≤ u4) (h_u4 : u4 ≤ 2147483647) (hk : ∀ (r : Int) (M1 : Mm), Inv X S M1 → (-2) ≤ r → r ≤ 10 → K r M1) : wp_X12_test S m0 336 u1 u2 u3 u4 K := by
  refine u_X12_test ?_
  refine g_C ?_
  refine g_if (fun w1 => ?_) (fun w1 => ?_)
  · refine ⟨hS.k336, ?_⟩
    refine u_X12_isDairy ?_
    refine g_getr 20 346 rfl hS.k336 hm0.f_336_20 (by decide) ?_
    refine g_C ?_
    refine g_ld (0) (6) hS.k346 hS.l346 (by omega) (by omega) (hm0.f_346_0) (fun v2 ev2 bv2 cv2 => ?_)
    refine g_if (fun w3 => ?_) (fun w3 => ?_)
    · refine g_C ?_
      refine ⟨by omega, ?_⟩
      refine g_ifT (by omega) ?_
      refine g_C ?_
      exact hk (-2) m0 hm0 (by omega) (by omega)
    · refine g_C ?_
      refine ⟨by omega, ?_⟩
      refine g_ifF (by omega) ?_
      refine g_C ?_
      refine g_C ?_
      refine g_C ?_
      refine z_in (fun aw4 bw4 => ?_) (fun cw4 => ?_)
      · refine g_ifF (by omega) ?_
        refine g_C ?_
        refine g_C ?_
        refine g_C ?_
        refine z_in (fun aw5 bw5 => ?_) (fun cw5 => ?_)
        · refine g_ifF (by omega) ?_
          refine g_C ?_
          refine g_C ?_
          refine g_C ?_
          refine z_in (fun aw6 bw6 => ?_) (fun cw6 => ?_)
          · refine g_ifF (by omega) ?_
            refine g_C ?_
            refine g_C ?_
            refine g_C ?_
            refine z_in (fun aw7 bw7 => ?_) (fun cw7 => ?_)
            · refine g_ifF (by omega) ?_
              refine g_getr 20 346 rfl hS.k336 hm0.f_336_20 (by decide) ?_
              refine g_C ?_
              refine g_ld (0) (10) hS.k346 hS.l346 (by omega) (by omega) (hm0.f_346_157) (fun v8 ev8 bv8 cv8 => ?_)
              refine g_C ?_
              refine g_if (fun w9 => ?_) (fun w9 => ?_)
              · refine g_C ?_
                refine g_C ?_
                refine g_getr 20 346 rfl hS.k336 hm0.f_336_20 (by decide) ?_
                refine g_C ?_
                refine g_ld (0) (10) hS.k346 hS.l346 (by omega) (by omega) (hm0.f_346_157) (fun v10 ev10 bv10 cv10 => ?_)
                have qv10 : v10 = v8 := ev10.trans ev8.symm
                refine g_M (by omega) (by omega) ?_
                refine g_A (by omega) (by omega) ?_
                refine g_getr 20 346 rfl hS.k336 hm0.f_336_20 (by decide) ?_
                refine g_st hS.k346 hS.l346 (by omega) (by omega) (wfm_346_117_4_0_9 hm0 (a := v8) (by omega) (by omega) (by omega) (by omega) (by omega)) (fun m11 em11 hm11 => ?_)
                refine g_getr 20 346 rfl hS.k336 hm11.f_336_20 (by decide) ?_
                refine g_C ?_
                refine g_A (by omega) (by omega) ?_
                refine g_st hS.k346 hS.l346 (by omega) (by omega) (wfm_346_118_4_0_9 hm11 (a := v8) (by omega) (by omega) (by omega) (by omega) (by omega)) (fun m12 em12 hm12 => ?_)
                refine g_getr 20 346 rfl hS.k336 hm12.f_336_20 (by decide) ?_
                refine g_C ?_
                refine g_A (by omega) (by omega) ?_
                refine g_st hS.k346 hS.l346 (by omega) (by omega) (wfm_346_119_4_0_9 hm12 (a := v8) (by omega) (by omega) (by omega) (by omega) (by omega)) (fun m13 em13 hm13 => ?_)
                refine g_getr 20 346 rfl hS.k336 hm13.f_336_20 (by decide) ?_
                refine g_C ?_
                refine g_A (by omega) (by omega) ?_
                refine g_st hS.k346 hS.l346 (by omega) (by omega) (wfm_346_120_4_0_9 hm13 (a := v8) (by omega) (by omega) (by omega) (by omega) (by omega)) (fun m14 em14 hm14 => ?_)
                refine g_getr 20 346 rfl hS.k336 hm14.f_336_20 (by decide) ?_
                refine g_C ?_
                refine g_ld (0) (10) hS.k346 hS.l346 (by omega) (by omega) (hm14.f_346_157) (fun v15 ev15 bv15 cv15 => ?_)
                have qv15 : v15 = v8 := ev15.trans ((congrFun (congrFun em14 _) _).trans ((up_ne (by omega)).trans ((congrFun (congrFun em13 _) _).trans ((up_ne (by omega)).trans ((congrFun (congrFun em12 _) _).trans ((up_ne (by omega)).trans ((congrFun (congrFun em11 _) _).trans ((up_ne (by omega)).trans ev8.symm))))))))
                refine g_C ?_
                refine g_A (by omega) (by omega) ?_
                refine g_st hS.k346 hS.l346 (by omega) (by omega) (hm14.w_346_157 (by omega) (by omega)) (fun m16 em16 hm16 => ?_)
                refine g_getr 20 346 rfl hS.k336 hm16.f_336_20 (by decide) ?_
                refine g_C ?_
                refine g_ld (0) (10) hS.k346 hS.l346 (by omega) (by omega) (hm16.f_346_157) (fun v17 ev17 bv17 cv17 => ?_)
                have qv17 : v17 = (v15 + 1) := ev17.trans ((congrFun (congrFun em16 _) _).trans (up_ate (by omega)))
                exact hk v17 m16 hm16 (by omega) (by omega)
              · refine g_C ?_
                exact hk (-2) m0 hm0 (by omega) (by omega)
            · refine g_ifT (by omega) ?_
              refine g_C ?_
              exact hk (-2) m0 hm0 (by omega) (by omega)
          · refine g_ifT (by omega) ?_
            refine g_C ?_
            exact hk (-2) m0 hm0 (by omega) (by omega)
        · refine g_ifT (by omega) ?_
          refine g_C ?_
          exact hk (-2) m0 hm0 (by omega) (by omega)
      · refine g_ifT (by omega) ?_
        refine g_C ?_
        exact hk (-2) m0 hm0 (by omega) (by omega)
  · refine g_getr 20 346 rfl hS.k336 hm0.f_336_20 (by decide) ?_
    refine g_C ?_
    refine g_C ?_
    refine g_st hS.k346 hS.l346 (by omega) (by omega) (hm0.w_346_157 (by omega) (by omega)) (fun m18 em18 hm18 => ?_)
    refine g_C ?_
    exact hk 0 m18 hm18 (by omega) (by omega)
theorem z_X12_way {X : Mm} {S : Sh} {m0 : Mm} {K : Int → Mm → Prop} {u1 u2 u3 : Int} (hS : Shp S) (hm0 : Inv X S m0) (l_u1 : (-2147483648) ≤ u1) (h_u1 : u1 ≤ 2147483647) (l_u2 : (-2147483648) ≤ u2) (h_u2 : u2 ≤ 2147483647) (l_u3 : (-2147483648) ≤ u3) (h_u3 : u3 ≤ 2147483647) (hk : ∀ (r : Int) (M1 : Mm), Inv X S M1 → (-3) ≤ r → r ≤ 98 → K r M1) : wp_X12_way S m0 336 u1 u2 u3 K := by
  refine u_X12_way ?_
  refine ⟨hS.k336, ?_⟩
  refine u_X12_isPlace ?_
  refine g_if (fun w1 => ?_) (fun w1 => ?_)
  · refine g_C ?_
    refine ⟨by omega, ?_⟩
    refine g_ifT (by omega) ?_
    refine g_C ?_
    exact hk (-3) m0 hm0 (by omega) (by omega)
  · refine g_getr 20 346 rfl hS.k336 hm0.f_336_20 (by decide) ?_
    refine g_C ?_
    refine g_ld (0) (6) hS.k346 hS.l346 (by omega) (by omega) (hm0.f_346_0) (fun v2 ev2 bv2 cv2 => ?_)
    refine g_if (fun w3 => ?_) (fun w3 => ?_)
    · refine g_C ?_
      refine ⟨by omega, ?_⟩
      refine g_ifT (by omega) ?_
      refine g_C ?_
      exact hk (-3) m0 hm0 (by omega) (by omega)
    · refine g_C ?_
      refine ⟨by omega, ?_⟩
      refine g_ifF (by omega) ?_
      refine ⟨hS.k336, ?_⟩
      refine u_X12_isPlace ?_
      refine g_if (fun w4 => ?_) (fun w4 => ?_)
      · refine g_C ?_
        refine ⟨by omega, ?_⟩
        refine g_ifT (by omega) ?_
        refine g_C ?_
        exact hk (-3) m0 hm0 (by omega) (by omega)
      · refine g_getr 20 346 rfl hS.k336 hm0.f_336_20 (by decide) ?_
        refine g_C ?_
        refine g_ld (0) (6) hS.k346 hS.l346 (by omega) (by omega) (hm0.f_346_0) (fun v5 ev5 bv5 cv5 => ?_)
        have qv5 : v5 = v2 := (ev5.trans (hm0.g (by decide))).trans ((ev2.trans (hm0.g (by decide))).symm)
        refine g_if (fun w6 => ?_) (fun w6 => ?_)
        · refine g_C ?_
          refine ⟨by omega, ?_⟩
          refine g_ifT (by omega) ?_
          refine g_C ?_
          exact hk (-3) m0 hm0 (by omega) (by omega)
        · refine g_C ?_
          refine ⟨by omega, ?_⟩
          refine g_ifF (by omega) ?_
          refine g_C ?_
          refine g_C ?_
          refine g_C ?_
          refine z_in (fun aw7 bw7 => ?_) (fun cw7 => ?_)
          · refine g_ifT (by omega) ?_
            refine ⟨hS.k336, ?_⟩
            refine z_X12_fillsHours hS hm0 (by omega) (by omega) (by omega) (fun m8 hm8 fm8 ym8_0 => ?_)
            refine g_getr 27 349 rfl hS.k336 hm8.f_336_27 (by decide) ?_
            refine g_ld (0) (99) hS.k349 hS.l349 (by omega) (by omega) (hm8.a_349 (by omega) (by omega)) (fun v9 ev9 bv9 cv9 => ?_)
            refine g_C ?_
            refine g_if (fun w10 => ?_) (fun w10 => ?_)
            · refine g_if (fun w11 => ?_) (fun w11 => ?_)
              · refine g_if (fun w12 => ?_) (fun w12 => ?_)
                · refine ⟨hS.k336, ?_⟩
                  refine z_X12_nextPlace hS hm8 (by omega) (by omega) (fun v13 bv13 cv13 => ?_)
                  exact hk v13 m8 hm8 (by omega) (by omega)
                · refine g_C ?_
                  exact hk (-1) m8 hm8 (by omega) (by omega)
              · refine g_getr 27 349 rfl hS.k336 hm8.f_336_27 (by decide) ?_
                refine g_ld (0) (99) hS.k349 hS.l349 (by omega) (by omega) (hm8.a_349 (by omega) (by omega)) (fun v14 ev14 bv14 cv14 => ?_)
                have qv14 : v14 = v9 := ev14.trans ev9.symm
                exact hk v14 m8 hm8 (by omega) (by omega)
            · refine g_C ?_
              exact hk (-2) m8 hm8 (by omega) (by omega)
          · refine g_ifF (by omega) ?_
            refine g_C ?_
            exact hk (-3) m0 hm0 (by omega) (by omega)
theorem z_X12_who {X : Mm} {S : Sh} {m0 : Mm} {K : Int → Mm → Prop} {u1 : Int} (hS : Shp S) (hm0 : Inv X S m0) (l_u1 : (-2147483648) ≤ u1) (h_u1 : u1 ≤ 2147483647) (hk : ∀ (r : Int) (M1 : Mm), Inv X S M1 → (-2) ≤ r → r ≤ 1024 → K r M1) : wp_X12_who S m0 336 u1 K := by
  refine u_X12_who ?_
  refine ⟨hS.k336, ?_⟩
  refine u_X12_isDairy ?_
  refine g_getr 20 346 rfl hS.k336 hm0.f_336_20 (by decide) ?_
  refine g_C ?_
  refine g_ld (0) (6) hS.k346 hS.l346 (by omega) (by omega) (hm0.f_346_0) (fun v1 ev1 bv1 cv1 => ?_)
  refine g_if (fun w2 => ?_) (fun w2 => ?_)
  · refine g_C ?_
    refine ⟨by omega, ?_⟩
    refine g_ifT (by omega) ?_
    refine g_C ?_
    exact hk (-1) m0 hm0 (by omega) (by omega)
  · refine g_C ?_
    refine ⟨by omega, ?_⟩
    refine g_ifF (by omega) ?_
    refine g_C ?_
    refine g_C ?_
    refine g_C ?_
    refine z_in (fun aw3 bw3 => ?_) (fun cw3 => ?_)
    · refine g_ifT (by omega) ?_
      refine ⟨hS.k336, ?_⟩
      refine z_X12_fitting hS hm0 (fun v4 m5 hm5 bv4 cv4 => ?_)
      refine g_C ?_
      refine g_if (fun w6 => ?_) (fun w6 => ?_)
      · refine g_C ?_
        have L_n_l41 : ∀ (n_l41 : Nat) (u9 : Int), 0 ≤ u9 → u9 ≤ 5 → 6 - u9 ≤ (n_l41 : Int) → wp_X12_who_46 S K n_l41 336 v4 u9 m5 := by
          intro n_l41
          induction n_l41 with
          | zero => intro u9 bu9 cu9 zn_l41; exfalso; omega
          | succ n_l41 ih_n_l41 =>
            intro u9 bu9 cu9 zn_l41
            refine u_X12_who_46 ?_
            refine g_getr 20 346 rfl hS.k336 hm5.f_336_20 (by decide) ?_
            refine g_C ?_
            refine g_ld (0) (5) hS.k346 hS.l346 (by omega) (by omega) (hm5.f_346_4) (fun v42 ev42 bv42 cv42 => ?_)
            refine g_if (fun w43 => ?_) (fun w43 => ?_)
            · refine g_C ?_
              exact hk (-2) m5 hm5 (by omega) (by omega)
            · refine u_X12_isOf ?_
              refine g_iShr (by omega) (by omega) (fun v44 bv44 cv44 => ?_)
              refine g_C ?_
              refine g_iAndR (by omega) (by omega) (fun v45 dv45 bv45 cv45 => ?_)
              refine g_C ?_
              refine g_if (fun w46 => ?_) (fun w46 => ?_)
              · refine g_C ?_
                refine ⟨by omega, ?_⟩
                refine g_ifT (by omega) ?_
                refine g_A (by omega) (by omega) ?_
                exact ih_n_l41 (u9 + 1) (by omega) (by omega) (by omega)
              · refine g_C ?_
                refine ⟨by omega, ?_⟩
                refine g_ifF (by omega) ?_
                exact hk u9 m5 hm5 (by omega) (by omega)
        exact ⟨6, L_n_l41 6 0 (by omega) (by omega) (by omega)⟩
      · refine g_if (fun w47 => ?_) (fun w47 => ?_)
        · exact hk v4 m5 hm5 (by omega) (by omega)
        · refine z_X12_bits hS hm5 (by omega) (by omega) (fun v48 bv48 cv48 => ?_)
          exact hk v48 m5 hm5 (by omega) (by omega)
    · refine g_ifF (by omega) ?_
      refine g_C ?_
      exact hk (-1) m0 hm0 (by omega) (by omega)
theorem z_X12_years {X : Mm} {S : Sh} {m0 : Mm} {K : Int → Mm → Prop} {u1 u2 u3 : Int} (hS : Shp S) (hm0 : Inv X S m0) (l_u1 : (-2147483648) ≤ u1) (h_u1 : u1 ≤ 2147483647) (l_u2 : (-2147483648) ≤ u2) (h_u2 : u2 ≤ 2147483647) (l_u3 : (-2147483648) ≤ u3) (h_u3 : u3 ≤ 2147483647) (hk : ∀ (r : Int) (M1 : Mm), Inv X S M1 → (-2147483648) ≤ r → r ≤ 2147483647 → K r M1) : wp_X12_years S m0 336 u1 u2 u3 K := by
  refine u_X12_years ?_
  refine ⟨hS.k336, ?_⟩
  refine u_X12_isDairy ?_
  refine g_getr 20 346 rfl hS.k336 hm0.f_336_20 (by decide) ?_
  refine g_C ?_
  refine g_ld (0) (6) hS.k346 hS.l346 (by omega) (by omega) (hm0.f_346_0) (fun v1 ev1 bv1 cv1 => ?_)
  have qv1 : v1 = (m0 346 0) := (ev1.trans (hm0.g (by decide))).trans (((Eq.refl (m0 346 0)).trans (hm0.g (by decide))).symm)
  refine g_if (fun w2 => ?_) (fun w2 => ?_)
  · refine g_C ?_
    refine ⟨by omega, ?_⟩
    refine g_ifT (by omega) ?_
    refine g_C ?_
    have zb3 := hm0.f_346_0
    have q4 : m0 346 0 = (m0 346 0) := (hm0.g (by decide)).trans (((Eq.refl (m0 346 0)).trans (hm0.g (by decide))).symm)
    exact hk (-1) m0 hm0 (by omega) (by omega)
  · refine g_C ?_
    refine ⟨by omega, ?_⟩
    refine g_ifF (by omega) ?_
    refine g_C ?_
    refine g_C ?_
    refine g_C ?_
    refine z_in (fun aw5 bw5 => ?_) (fun cw5 => ?_)
    · refine g_ifF (by omega) ?_
      refine g_C ?_
      refine g_C ?_
      refine g_C ?_
      refine z_in (fun aw6 bw6 => ?_) (fun cw6 => ?_)
      · refine g_ifF (by omega) ?_
        refine g_C ?_
        refine g_C ?_
        refine g_C ?_
        refine z_in (fun aw7 bw7 => ?_) (fun cw7 => ?_)
        · refine g_ifT (by omega) ?_
          refine g_get 22 (0) (2147483647) rfl hS.k336 hm0.f_336_22 (fun v8 ev8 bv8 cv8 => ?_)
          refine g_C ?_
          refine g_put 33 rfl hS.k336 (hm0.w_336_33 (by omega) (by omega)) (fun m9 em9 hm9 => ?_)
          refine g_C ?_
          refine g_C ?_
          refine ⟨hS.k336, ?_⟩
          refine z_X12_keeps hS hm9 (fun m10 hm10 fm10 => ?_)
          have zb11 := hm10.f_346_0
          have qsm10 : m10 346 0 = (m0 346 0) := (fm10 _ _ (by omega)).trans ((hm9.g (by decide)).trans (((Eq.refl (m0 346 0)).trans (hm0.g (by decide))).symm))
          refine g_C ?_
          have L_n_l13702 : ∀ (n_l13702 : Nat) (u16 : Int) (u17 : Int) (u18 : Int) (m19 : Mm), Inv (up X (-1) 0 1) S m19 → (-2147483648) ≤ u16 → u16 ≤ 2147483647 → (-2147483648) ≤ u17 → u17 ≤ 2147483647 → 0 ≤ u18 → u18 ≤ 10 → 11 - u18 ≤ (n_l13702 : Int) → wp_X12_years_65 S K n_l13702 336 u1 u2 u3 u16 u17 u18 m19 := by
            intro n_l13702
            induction n_l13702 with
            | zero => intro u16 u17 u18 m19 hm19 bu16 cu16 bu17 cu17 bu18 cu18 zn_l13702; exfalso; omega
            | succ n_l13702 ih_n_l13702 =>
              intro u16 u17 u18 m19 hm19 bu16 cu16 bu17 cu17 bu18 cu18 zn_l13702
              refine u_X12_years_65 ?_
              refine g_if (fun w13703 => ?_) (fun w13703 => ?_)
              · refine g_if (fun w13704 => ?_) (fun w13704 => ?_)
                · have zb13705 := hm19.f_346_0
                  have q13706 : m19 346 0 = (m10 346 0) := (hm19.g (by decide)).trans (((Eq.refl (m10 346 0)).trans (hm10.g (by decide))).symm)
                  exact hk u17 m19 hm19.unflag (by omega) (by omega)
                · have zb13707 := hm19.f_346_0
                  have q13708 : m19 346 0 = (m10 346 0) := (hm19.g (by decide)).trans (((Eq.refl (m10 346 0)).trans (hm10.g (by decide))).symm)
                  exact hk u16 m19 hm19.unflag (by omega) (by omega)
              · refine g_C ?_
                have L_n_l14741 : ∀ (n_l14741 : Nat) (u13716 : Int) (m13717 : Mm), Inv (up X (-1) 0 1) S m13717 → 0 ≤ u13716 → u13716 ≤ 60 → 61 - u13716 ≤ (n_l14741 : Int) → wp_X12_years_74 S (fun a0 a1 a2 a3 a4 a5 a6 M => wp_X12_years_65 S K n_l13702 a0 a1 a2 a3 a4 a5 a6 M) K n_l14741 336 u1 u2 u3 u16 u17 u18 u13716 m13717 := by
                  intro n_l14741
                  induction n_l14741 with
                  | zero => intro u13716 m13717 hm13717 bu13716 cu13716 zn_l14741; exfalso; omega
                  | succ n_l14741 ih_n_l14741 =>
                    intro u13716 m13717 hm13717 bu13716 cu13716 zn_l14741
                    refine u_X12_years_74 ?_
                    refine g_if (fun w14742 => ?_) (fun w14742 => ?_)
                    · refine g_C ?_
                      have L_n_l14807 : ∀ (n_l14807 : Nat) (u14747 : Int) (u14750 : Int), (-2147483648) ≤ u14747 → u14747 ≤ 2147483647 → 0 ≤ u14750 → u14750 ≤ 4 → 5 - u14750 ≤ (n_l14807 : Int) → wp_X12_years_98 S (fun a0 a1 a2 a3 a4 a5 a6 M => wp_X12_years_65 S K n_l13702 a0 a1 a2 a3 a4 a5 a6 M) K n_l14807 336 u1 u2 u3 u14747 u17 u18 u14750 m13717 := by
                        intro n_l14807
                        induction n_l14807 with
                        | zero => intro u14747 u14750 bu14747 cu14747 bu14750 cu14750 zn_l14807; exfalso; omega
                        | succ n_l14807 ih_n_l14807 =>
                          intro u14747 u14750 bu14747 cu14747 bu14750 cu14750 zn_l14807
                          refine u_X12_years_98 ?_
                          refine g_getr 20 346 rfl hS.k336 hm13717.f_336_20 (by decide) ?_
                          refine g_C ?_
                          refine g_ld (0) (4) hS.k346 hS.l346 (by omega) (by omega) (hm13717.f_346_5) (fun v14808 ev14808 bv14808 cv14808 => ?_)
                          refine g_if (fun w14809 => ?_) (fun w14809 => ?_)
                          · refine ⟨hS.k336, ?_⟩
                            refine z_X12_turnedAll hS hm13717 (fun v14810 bv14810 cv14810 => ?_)
                            refine g_Aw (fun v14811 bv14811 cv14811 => ?_)
                            refine ⟨hS.k336, ?_⟩
                            have zb14812 := hm13717.f_346_0
                            have q14813 : m13717 346 0 = (m10 346 0) := (hm13717.g (by decide)).trans (((Eq.refl (m10 346 0)).trans (hm10.g (by decide))).symm)
                            refine z_X12_laysBack hS hm13717 (up_at _ _ _ _) (fun m14814 hm14814 => ?_)
                            have zb14815 := hm14814.f_346_0
                            refine g_A (by omega) (by omega) ?_
                            have zb14816 := hm14814.f_346_0
                            have q14817 : m14814 346 0 = (m10 346 0) := (hm14814.g (by decide)).trans (((Eq.refl (m10 346 0)).trans (hm10.g (by decide))).symm)
                            exact ih_n_l13702 u14747 v14811 (u18 + 1) m14814 hm14814 (by omega) (by omega) (by omega) (by omega) (by omega) (by omega) (by omega)
                          · refine g_C ?_
                            refine ⟨hS.k336, ?_⟩
                            refine u_X12_jugOf ?_
                            refine g_getr 20 346 rfl hS.k336 hm13717.f_336_20 (by decide) ?_
                            refine g_C ?_
                            refine g_C ?_
                            refine g_M (by omega) (by omega) ?_
                            refine g_A (by omega) (by omega) ?_
                            refine g_A (by omega) (by omega) ?_
                            refine g_ld (0) (1) hS.k346 hS.l346 (by omega) (by omega) (fam_346_38_4_0_3 hm13717 (a := u14750) (by omega) (by omega) (by omega)) (fun v14818 ev14818 bv14818 cv14818 => ?_)
                            refine g_if (fun w14819 => ?_) (fun w14819 => ?_)
                            · refine u_X12_years_141 ?_
                              refine g_C ?_
                              refine u_X12_years_142 ?_
                              refine g_A (by omega) (by omega) ?_
                              refine g_A (by omega) (by omega) ?_
                              have zb14820 := hm13717.f_346_0
                              have q14821 : m13717 346 0 = (m10 346 0) := (hm13717.g (by decide)).trans (((Eq.refl (m10 346 0)).trans (hm10.g (by decide))).symm)
                              exact ih_n_l14807 (u14747 + 0) (u14750 + 1) (by omega) (by omega) (by omega) (by omega) (by omega)
                            · refine g_C ?_
                              refine ⟨hS.k336, ?_⟩
                              refine u_X12_jugOf ?_
                              refine g_getr 20 346 rfl hS.k336 hm13717.f_336_20 (by decide) ?_
                              refine g_C ?_
                              refine g_C ?_
                              refine g_M (by omega) (by omega) ?_
                              refine g_A (by omega) (by omega) ?_
                              refine g_A (by omega) (by omega) ?_
                              refine g_ld (-2147483648) (2147483647) hS.k346 hS.l346 (by omega) (by omega) (fam_346_37_4_0_3 hm13717 (a := u14750) (by omega) (by omega) (by omega)) (fun v14822 ev14822 bv14822 cv14822 => ?_)
                              refine g_getr 20 346 rfl hS.k336 hm13717.f_336_20 (by decide) ?_
                              refine g_C ?_
                              refine g_ld (0) (99) hS.k346 hS.l346 (by omega) (by omega) (hm13717.f_346_2) (fun v14823 ev14823 bv14823 cv14823 => ?_)
                              refine g_if (fun w14824 => ?_) (fun w14824 => ?_)
                              · refine u_X12_years_141 ?_
                                refine g_C ?_
                                refine u_X12_years_142 ?_
                                refine g_A (by omega) (by omega) ?_
                                refine g_A (by omega) (by omega) ?_
                                have zb14825 := hm13717.f_346_0
                                have q14826 : m13717 346 0 = (m10 346 0) := (hm13717.g (by decide)).trans (((Eq.refl (m10 346 0)).trans (hm10.g (by decide))).symm)
                                exact ih_n_l14807 (u14747 + 0) (u14750 + 1) (by omega) (by omega) (by omega) (by omega) (by omega)
                              · refine g_C ?_
                                refine u_X12_years_142 ?_
                                refine g_Aw (fun v14827 bv14827 cv14827 => ?_)
                                refine g_A (by omega) (by omega) ?_
                                have zb14828 := hm13717.f_346_0
                                have q14829 : m13717 346 0 = (m10 346 0) := (hm13717.g (by decide)).trans (((Eq.refl (m10 346 0)).trans (hm10.g (by decide))).symm)
                                exact ih_n_l14807 v14827 (u14750 + 1) (by omega) (by omega) (by omega) (by omega) (by omega)
                      have zb14830 := hm13717.f_346_0
                      have q14831 : m13717 346 0 = (m10 346 0) := (hm13717.g (by decide)).trans (((Eq.refl (m10 346 0)).trans (hm10.g (by decide))).symm)
                      exact ⟨5, L_n_l14807 5 u16 0 (by omega) (by omega) (by omega) (by omega) (by omega)⟩
                    · refine ⟨hS.k336, ?_⟩
                      have zb14832 := hm13717.f_346_0
                      have q14833 : m13717 346 0 = (m10 346 0) := (hm13717.g (by decide)).trans (((Eq.refl (m10 346 0)).trans (hm10.g (by decide))).symm)
                      refine z_X12_actsDrawn hS hm13717 (by omega) (fun m14834 hm14834 => ?_)
                      have zb14835 := hm14834.f_346_0
                      refine ⟨hS.k336, ?_⟩
                      refine z_X12_passes hS hm14834 (fun v14836 m14837 hm14837 bv14836 cv14836 => ?_)
                      have zb14838 := hm14837.f_346_0
                      refine g_A (by omega) (by omega) ?_
                      have zb14839 := hm14837.f_346_0
                      have q14840 : m14837 346 0 = (m10 346 0) := (hm14837.g (by decide)).trans (((Eq.refl (m10 346 0)).trans (hm10.g (by decide))).symm)
                      exact ih_n_l14741 (u13716 + 1) m14837 hm14837 (by omega) (by omega) (by omega)
                have zb14841 := hm19.f_346_0
                have q14842 : m19 346 0 = (m10 346 0) := (hm19.g (by decide)).trans (((Eq.refl (m10 346 0)).trans (hm10.g (by decide))).symm)
                exact ⟨61, L_n_l14741 61 0 m19 hm19 (by omega) (by omega) (by omega)⟩
          have zb14843 := hm10.f_346_0
          have q14844 : m10 346 0 = (m10 346 0) := (hm10.g (by decide)).trans (((Eq.refl (m10 346 0)).trans (hm10.g (by decide))).symm)
          exact ⟨11, L_n_l13702 11 0 0 0 m10 hm10 (by omega) (by omega) (by omega) (by omega) (by omega) (by omega) (by omega)⟩
        · refine g_ifF (by omega) ?_
          refine g_C ?_
          have zb14845 := hm0.f_346_0
          have q14846 : m0 346 0 = (m0 346 0) := (hm0.g (by decide)).trans (((Eq.refl (m0 346 0)).trans (hm0.g (by decide))).symm)
          exact hk (-1) m0 hm0 (by omega) (by omega)
      · refine g_ifT (by omega) ?_
        refine g_C ?_
        have zb14847 := hm0.f_346_0
        have q14848 : m0 346 0 = (m0 346 0) := (hm0.g (by decide)).trans (((Eq.refl (m0 346 0)).trans (hm0.g (by decide))).symm)
        exact hk (-1) m0 hm0 (by omega) (by omega)
    · refine g_ifT (by omega) ?_
      refine g_C ?_
      have zb14849 := hm0.f_346_0
      have q14850 : m0 346 0 = (m0 346 0) := (hm0.g (by decide)).trans (((Eq.refl (m0 346 0)).trans (hm0.g (by decide))).symm)
      exact hk (-1) m0 hm0 (by omega) (by omega)
theorem z_X8_become {X : Mm} {S : Sh} {m0 : Mm} {K : Mm → Prop} {u0 u1 : Int} (hS : Shp S) (hm0 : Inv X S m0) (hb_u0 : isTo u0) (hb_u1 : isTo u1) (hk : ∀ (M1 : Mm), Inv X S M1 → K M1) : wp_X8_become S m0 u0 u1 K := by
  refine u_X8_become ?_
  refine g_get 0 (0) (6) rfl (hS.kB_8_0 hb_u1) (hm0.fB_8_0 hb_u1) (fun v1 ev1 bv1 cv1 => ?_)
  refine g_put 0 rfl (hS.kB_8_0 hb_u0) (hm0.wB_8_0 hb_u0 (by omega) (by omega)) (fun m2 em2 hm2 => ?_)
  refine g_get 1 (0) (9) rfl (hS.kB_8_0 hb_u1) (hm2.fB_8_1 hb_u1) (fun v3 ev3 bv3 cv3 => ?_)
  refine g_put 1 rfl (hS.kB_8_0 hb_u0) (hm2.wB_8_1 hb_u0 (by omega) (by omega)) (fun m4 em4 hm4 => ?_)
  refine g_get 2 (0) (99) rfl (hS.kB_8_0 hb_u1) (hm4.fB_8_2 hb_u1) (fun v5 ev5 bv5 cv5 => ?_)
  refine g_put 2 rfl (hS.kB_8_0 hb_u0) (hm4.wB_8_2 hb_u0 (by omega) (by omega)) (fun m6 em6 hm6 => ?_)
  refine g_get 3 (0) (8) rfl (hS.kB_8_0 hb_u1) (hm6.fB_8_3 hb_u1) (fun v7 ev7 bv7 cv7 => ?_)
  refine g_put 3 rfl (hS.kB_8_0 hb_u0) (hm6.wB_8_3 hb_u0 (by omega) (by omega)) (fun m8 em8 hm8 => ?_)
  refine g_get 4 (0) (5) rfl (hS.kB_8_0 hb_u1) (hm8.fB_8_4 hb_u1) (fun v9 ev9 bv9 cv9 => ?_)
  refine g_put 4 rfl (hS.kB_8_0 hb_u0) (hm8.wB_8_4 hb_u0 (by omega) (by omega)) (fun m10 em10 hm10 => ?_)
  refine g_get 5 (0) (4) rfl (hS.kB_8_0 hb_u1) (hm10.fB_8_5 hb_u1) (fun v11 ev11 bv11 cv11 => ?_)
  refine g_put 5 rfl (hS.kB_8_0 hb_u0) (hm10.wB_8_5 hb_u0 (by omega) (by omega)) (fun m12 em12 hm12 => ?_)
  refine g_get 6 (0) (4) rfl (hS.kB_8_0 hb_u1) (hm12.fB_8_6 hb_u1) (fun v13 ev13 bv13 cv13 => ?_)
  refine g_put 6 rfl (hS.kB_8_0 hb_u0) (hm12.wB_8_6 hb_u0 (by omega) (by omega)) (fun m14 em14 hm14 => ?_)
  refine g_get 7 (0) (6) rfl (hS.kB_8_0 hb_u1) (hm14.fB_8_7 hb_u1) (fun v15 ev15 bv15 cv15 => ?_)
  refine g_put 7 rfl (hS.kB_8_0 hb_u0) (hm14.wB_8_7 hb_u0 (by omega) (by omega)) (fun m16 em16 hm16 => ?_)
  refine g_getr 8 (u1 + 1) rfl (hS.kB_8_0 hb_u1) (hm16.fB_8_8 hb_u1) (hS.nB_8_1 hb_u1) ?_
  refine g_C ?_
  refine g_getr 8 (u0 + 1) rfl (hS.kB_8_0 hb_u0) (hm16.fB_8_8 hb_u0) (hS.nB_8_1 hb_u0) ?_
  refine g_C ?_
  refine g_getr 8 (u0 + 1) rfl (hS.kB_8_0 hb_u0) (hm16.fB_8_8 hb_u0) (hS.nB_8_1 hb_u0) ?_
  refine g_len 36 (hS.kB_8_1 hb_u0) (hS.lB_8_1 hb_u0) (by decide) ?_
  refine g_cpy (hS.kB_8_1 hb_u1) (hS.kB_8_1 hb_u0) (hS.lB_8_1 hb_u1) (hS.lB_8_1 hb_u0) (by decide) (hm16.cpB_8_1 hb_u1 hb_u0 (by decide)) (fun m17 hm17 => ?_)
  refine g_getr 9 (u1 + 2) rfl (hS.kB_8_0 hb_u1) (hm17.fB_8_9 hb_u1) (hS.nB_8_2 hb_u1) ?_
  refine g_C ?_
  refine g_getr 9 (u0 + 2) rfl (hS.kB_8_0 hb_u0) (hm17.fB_8_9 hb_u0) (hS.nB_8_2 hb_u0) ?_
  refine g_C ?_
  refine g_getr 9 (u0 + 2) rfl (hS.kB_8_0 hb_u0) (hm17.fB_8_9 hb_u0) (hS.nB_8_2 hb_u0) ?_
  refine g_len 36 (hS.kB_8_2 hb_u0) (hS.lB_8_2 hb_u0) (by decide) ?_
  refine g_cpy (hS.kB_8_2 hb_u1) (hS.kB_8_2 hb_u0) (hS.lB_8_2 hb_u1) (hS.lB_8_2 hb_u0) (by decide) (hm17.cpB_8_2 hb_u1 hb_u0 (by decide)) (fun m18 hm18 => ?_)
  refine g_getr 10 (u1 + 3) rfl (hS.kB_8_0 hb_u1) (hm18.fB_8_10 hb_u1) (hS.nB_8_3 hb_u1) ?_
  refine g_C ?_
  refine g_getr 10 (u0 + 3) rfl (hS.kB_8_0 hb_u0) (hm18.fB_8_10 hb_u0) (hS.nB_8_3 hb_u0) ?_
  refine g_C ?_
  refine g_C ?_
  refine g_cpy (hS.kB_8_3 hb_u1) (hS.kB_8_3 hb_u0) (hS.lB_8_3 hb_u1) (hS.lB_8_3 hb_u0) (by decide) (hm18.cpB_8_3 hb_u1 hb_u0 (by decide)) (fun m19 hm19 => ?_)
  refine g_getr 11 (u1 + 4) rfl (hS.kB_8_0 hb_u1) (hm19.fB_8_11 hb_u1) (hS.nB_8_4 hb_u1) ?_
  refine g_C ?_
  refine g_getr 11 (u0 + 4) rfl (hS.kB_8_0 hb_u0) (hm19.fB_8_11 hb_u0) (hS.nB_8_4 hb_u0) ?_
  refine g_C ?_
  refine g_C ?_
  refine g_cpy (hS.kB_8_4 hb_u1) (hS.kB_8_4 hb_u0) (hS.lB_8_4 hb_u1) (hS.lB_8_4 hb_u0) (by decide) (hm19.cpB_8_4 hb_u1 hb_u0 (by decide)) (fun m20 hm20 => ?_)
  refine g_getr 12 (u1 + 5) rfl (hS.kB_8_0 hb_u1) (hm20.fB_8_12 hb_u1) (hS.nB_8_5 hb_u1) ?_
  refine g_C ?_
  refine g_getr 12 (u0 + 5) rfl (hS.kB_8_0 hb_u0) (hm20.fB_8_12 hb_u0) (hS.nB_8_5 hb_u0) ?_
  refine g_C ?_
  refine g_C ?_
  refine g_cpy (hS.kB_8_5 hb_u1) (hS.kB_8_5 hb_u0) (hS.lB_8_5 hb_u1) (hS.lB_8_5 hb_u0) (by decide) (hm20.cpB_8_5 hb_u1 hb_u0 (by decide)) (fun m21 hm21 => ?_)
  refine g_getr 13 (u1 + 6) rfl (hS.kB_8_0 hb_u1) (hm21.fB_8_13 hb_u1) (hS.nB_8_6 hb_u1) ?_
  refine g_C ?_
  refine g_getr 13 (u0 + 6) rfl (hS.kB_8_0 hb_u0) (hm21.fB_8_13 hb_u0) (hS.nB_8_6 hb_u0) ?_
  refine g_C ?_
  refine g_C ?_
  refine g_cpy (hS.kB_8_6 hb_u1) (hS.kB_8_6 hb_u0) (hS.lB_8_6 hb_u1) (hS.lB_8_6 hb_u0) (by decide) (hm21.cpB_8_6 hb_u1 hb_u0 (by decide)) (fun m22 hm22 => ?_)
  refine g_getr 14 (u1 + 7) rfl (hS.kB_8_0 hb_u1) (hm22.fB_8_14 hb_u1) (hS.nB_8_7 hb_u1) ?_
  refine g_C ?_
  refine g_getr 14 (u0 + 7) rfl (hS.kB_8_0 hb_u0) (hm22.fB_8_14 hb_u0) (hS.nB_8_7 hb_u0) ?_
  refine g_C ?_
  refine g_C ?_
  refine g_cpy (hS.kB_8_7 hb_u1) (hS.kB_8_7 hb_u0) (hS.lB_8_7 hb_u1) (hS.lB_8_7 hb_u0) (by decide) (hm22.cpB_8_7 hb_u1 hb_u0 (by decide)) (fun m23 hm23 => ?_)
  refine g_getr 15 (u1 + 8) rfl (hS.kB_8_0 hb_u1) (hm23.fB_8_15 hb_u1) (hS.nB_8_8 hb_u1) ?_
  refine g_C ?_
  refine g_getr 15 (u0 + 8) rfl (hS.kB_8_0 hb_u0) (hm23.fB_8_15 hb_u0) (hS.nB_8_8 hb_u0) ?_
  refine g_C ?_
  refine g_C ?_
  refine g_cpy (hS.kB_8_8 hb_u1) (hS.kB_8_8 hb_u0) (hS.lB_8_8 hb_u1) (hS.lB_8_8 hb_u0) (by decide) (hm23.cpB_8_8 hb_u1 hb_u0 (by decide)) (fun m24 hm24 => ?_)
  refine g_getr 16 (u1 + 9) rfl (hS.kB_8_0 hb_u1) (hm24.fB_8_16 hb_u1) (hS.nB_8_9 hb_u1) ?_
  refine g_C ?_
  refine g_getr 16 (u0 + 9) rfl (hS.kB_8_0 hb_u0) (hm24.fB_8_16 hb_u0) (hS.nB_8_9 hb_u0) ?_
  refine g_C ?_
  refine g_C ?_
  refine g_cpy (hS.kB_8_9 hb_u1) (hS.kB_8_9 hb_u0) (hS.lB_8_9 hb_u1) (hS.lB_8_9 hb_u0) (by decide) (hm24.cpB_8_9 hb_u1 hb_u0 (by decide)) (fun m25 hm25 => ?_)
  refine g_getr 17 (u1 + 10) rfl (hS.kB_8_0 hb_u1) (hm25.fB_8_17 hb_u1) (hS.nB_8_10 hb_u1) ?_
  refine g_C ?_
  refine g_getr 17 (u0 + 10) rfl (hS.kB_8_0 hb_u0) (hm25.fB_8_17 hb_u0) (hS.nB_8_10 hb_u0) ?_
  refine g_C ?_
  refine g_C ?_
  refine g_cpy (hS.kB_8_10 hb_u1) (hS.kB_8_10 hb_u0) (hS.lB_8_10 hb_u1) (hS.lB_8_10 hb_u0) (by decide) (hm25.cpB_8_10 hb_u1 hb_u0 (by decide)) (fun m26 hm26 => ?_)
  refine g_getr 18 (u1 + 11) rfl (hS.kB_8_0 hb_u1) (hm26.fB_8_18 hb_u1) (hS.nB_8_11 hb_u1) ?_
  refine g_C ?_
  refine g_getr 18 (u0 + 11) rfl (hS.kB_8_0 hb_u0) (hm26.fB_8_18 hb_u0) (hS.nB_8_11 hb_u0) ?_
  refine g_C ?_
  refine g_C ?_
  refine g_cpy (hS.kB_8_11 hb_u1) (hS.kB_8_11 hb_u0) (hS.lB_8_11 hb_u1) (hS.lB_8_11 hb_u0) (by decide) (hm26.cpB_8_11 hb_u1 hb_u0 (by decide)) (fun m27 hm27 => ?_)
  exact hk m27 hm27
