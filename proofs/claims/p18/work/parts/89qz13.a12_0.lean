theorem za_X12_roadOf {X : Mm} {S : Sh} {m0 : Mm} {K : Int → Mm → Prop} {u1 u2 : Int} (hS : Shp S) (hm0 : Inv X S m0) (l_u1 : 0 ≤ u1) (h_u1 : u1 ≤ 5) (l_u2 : 0 ≤ u2) (h_u2 : u2 ≤ 5) (hk : ∀ (r : Int), 0 ≤ r → r ≤ 5 → K r m0) : wp_X12_roadOf S m0 336 u1 u2 K := by
  refine u_X12_roadOf ?_
  refine g_C ?_
  have L_n_l159 : ∀ (n_l159 : Nat) (u4 : Int), 0 ≤ u4 → u4 ≤ 8 → 9 - u4 ≤ (n_l159 : Int) → wp_X12_roadOf_2 S K n_l159 336 u1 u2 u4 m0 := by
    intro n_l159
    induction n_l159 with
    | zero => intro u4 bu4 cu4 zn_l159; exfalso; omega
    | succ n_l159 ih_n_l159 =>
      intro u4 bu4 cu4 zn_l159
      refine u_X12_roadOf_2 ?_
      refine g_getr 20 346 rfl hS.k336 hm0.f_336_20 (by decide) ?_
      refine g_C ?_
      refine g_ld (0) (8) hS.k346 hS.l346 (by omega) (by omega) (hm0.f_346_3) (fun v160 ev160 bv160 cv160 => ?_)
      refine g_if (fun w161 => ?_) (fun w161 => ?_)
      · refine g_C ?_
        exact hk 0 (by omega) (by omega)
      · refine g_C ?_
        refine g_C ?_
        refine g_M (by omega) (by omega) ?_
        refine g_A (by omega) (by omega) ?_
        refine g_getr 20 346 rfl hS.k336 hm0.f_336_20 (by decide) ?_
        refine g_ld (0) (5) hS.k346 hS.l346 (by omega) (by omega) (fam_346_57_3_0_7 hm0 (a := u4) (by omega) (by omega) (by omega)) (fun v162 ev162 bv162 cv162 => ?_)
        refine g_if (fun w163 => ?_) (fun w163 => ?_)
        · refine u_X12_roadOf_44 ?_
          refine g_getr 20 346 rfl hS.k336 hm0.f_336_20 (by decide) ?_
          refine g_ld (0) (5) hS.k346 hS.l346 (by omega) (by omega) (fam_346_57_3_0_7 hm0 (a := u4) (by omega) (by omega) (by omega)) (fun v164 ev164 bv164 cv164 => ?_)
          have qv164 : v164 = v162 := ev164.trans ev162.symm
          refine g_if (fun w165 => ?_) (fun w165 => ?_)
          · refine u_X12_roadOf_78 ?_
            refine g_A (by omega) (by omega) ?_
            exact ih_n_l159 (u4 + 1) (by omega) (by omega) (by omega)
          · refine g_getr 20 346 rfl hS.k336 hm0.f_336_20 (by decide) ?_
            refine g_C ?_
            refine g_A (by omega) (by omega) ?_
            refine g_ld (0) (5) hS.k346 hS.l346 (by omega) (by omega) (fam_346_58_3_0_7 hm0 (a := u4) (by omega) (by omega) (by omega)) (fun v166 ev166 bv166 cv166 => ?_)
            refine g_if (fun w167 => ?_) (fun w167 => ?_)
            · refine u_X12_roadOf_78 ?_
              refine g_A (by omega) (by omega) ?_
              exact ih_n_l159 (u4 + 1) (by omega) (by omega) (by omega)
            · refine u_X12_roadOf_68 ?_
              refine g_getr 20 346 rfl hS.k336 hm0.f_336_20 (by decide) ?_
              refine g_C ?_
              refine g_A (by omega) (by omega) ?_
              refine g_ld (0) (5) hS.k346 hS.l346 (by omega) (by omega) (fam_346_59_3_0_7 hm0 (a := u4) (by omega) (by omega) (by omega)) (fun v168 ev168 bv168 cv168 => ?_)
              exact hk v168 (by omega) (by omega)
        · refine g_getr 20 346 rfl hS.k336 hm0.f_336_20 (by decide) ?_
          refine g_C ?_
          refine g_A (by omega) (by omega) ?_
          refine g_ld (0) (5) hS.k346 hS.l346 (by omega) (by omega) (fam_346_58_3_0_7 hm0 (a := u4) (by omega) (by omega) (by omega)) (fun v169 ev169 bv169 cv169 => ?_)
          refine g_if (fun w170 => ?_) (fun w170 => ?_)
          · refine u_X12_roadOf_68 ?_
            refine g_getr 20 346 rfl hS.k336 hm0.f_336_20 (by decide) ?_
            refine g_C ?_
            refine g_A (by omega) (by omega) ?_
            refine g_ld (0) (5) hS.k346 hS.l346 (by omega) (by omega) (fam_346_59_3_0_7 hm0 (a := u4) (by omega) (by omega) (by omega)) (fun v171 ev171 bv171 cv171 => ?_)
            exact hk v171 (by omega) (by omega)
          · refine u_X12_roadOf_44 ?_
            refine g_getr 20 346 rfl hS.k336 hm0.f_336_20 (by decide) ?_
            refine g_ld (0) (5) hS.k346 hS.l346 (by omega) (by omega) (fam_346_57_3_0_7 hm0 (a := u4) (by omega) (by omega) (by omega)) (fun v172 ev172 bv172 cv172 => ?_)
            have qv172 : v172 = v162 := ev172.trans ev162.symm
            refine g_if (fun w173 => ?_) (fun w173 => ?_)
            · refine u_X12_roadOf_78 ?_
              refine g_A (by omega) (by omega) ?_
              exact ih_n_l159 (u4 + 1) (by omega) (by omega) (by omega)
            · refine g_getr 20 346 rfl hS.k336 hm0.f_336_20 (by decide) ?_
              refine g_C ?_
              refine g_A (by omega) (by omega) ?_
              refine g_ld (0) (5) hS.k346 hS.l346 (by omega) (by omega) (fam_346_58_3_0_7 hm0 (a := u4) (by omega) (by omega) (by omega)) (fun v174 ev174 bv174 cv174 => ?_)
              have qv174 : v174 = v169 := ev174.trans ev169.symm
              refine g_if (fun w175 => ?_) (fun w175 => ?_)
              · refine u_X12_roadOf_78 ?_
                refine g_A (by omega) (by omega) ?_
                exact ih_n_l159 (u4 + 1) (by omega) (by omega) (by omega)
              · refine u_X12_roadOf_68 ?_
                refine g_getr 20 346 rfl hS.k336 hm0.f_336_20 (by decide) ?_
                refine g_C ?_
                refine g_A (by omega) (by omega) ?_
                refine g_ld (0) (5) hS.k346 hS.l346 (by omega) (by omega) (fam_346_59_3_0_7 hm0 (a := u4) (by omega) (by omega) (by omega)) (fun v176 ev176 bv176 cv176 => ?_)
                exact hk v176 (by omega) (by omega)
  exact ⟨9, L_n_l159 9 0 (by omega) (by omega) (by omega)⟩
theorem za_X12_held {X : Mm} {S : Sh} {m0 : Mm} {K : Int → Mm → Prop} {u1 : Int} (hS : Shp S) (hm0 : Inv X S m0) (l_u1 : 0 ≤ u1) (h_u1 : u1 ≤ 4) (hk : ∀ (r : Int), 0 ≤ r → r ≤ 15 → K r m0) : wp_X12_held S m0 336 u1 K := by
  refine u_X12_held ?_
  refine g_C ?_
  refine g_C ?_
  have L_n_l41 : ∀ (n_l41 : Nat) (u3 : Int) (u4 : Int), 0 ≤ u3 → u3 ≤ 15 → 0 ≤ u4 → u4 ≤ 4 → 5 - u4 ≤ (n_l41 : Int) → wp_X12_held_4 S K n_l41 336 u1 u3 u4 m0 := by
    intro n_l41
    induction n_l41 with
    | zero => intro u3 u4 bu3 cu3 bu4 cu4 zn_l41; exfalso; omega
    | succ n_l41 ih_n_l41 =>
      intro u3 u4 bu3 cu3 bu4 cu4 zn_l41
      refine u_X12_held_4 ?_
      refine g_getr 20 346 rfl hS.k336 hm0.f_336_20 (by decide) ?_
      refine g_C ?_
      refine g_ld (0) (4) hS.k346 hS.l346 (by omega) (by omega) (hm0.f_346_5) (fun v42 ev42 bv42 cv42 => ?_)
      refine g_if (fun w43 => ?_) (fun w43 => ?_)
      · exact hk u3 (by omega) (by omega)
      · refine g_C ?_
        refine ⟨hS.k336, ?_⟩
        refine u_X12_jugOf ?_
        refine g_getr 20 346 rfl hS.k336 hm0.f_336_20 (by decide) ?_
        refine g_C ?_
        refine g_C ?_
        refine g_M (by omega) (by omega) ?_
        refine g_A (by omega) (by omega) ?_
        refine g_A (by omega) (by omega) ?_
        refine g_ld (-1) (4) hS.k346 hS.l346 (by omega) (by omega) (fam_346_36_4_0_3 hm0 (a := u4) (by omega) (by omega) (by omega)) (fun v44 ev44 bv44 cv44 => ?_)
        refine g_if (fun w45 => ?_) (fun w45 => ?_)
        · refine g_C ?_
          refine u_X12_held_32 ?_
          refine g_iOr 4 (by omega) (by omega) (by omega) (by omega) (by decide) (fun v46 bv46 cv46 => ?_)
          refine g_A (by omega) (by omega) ?_
          exact ih_n_l41 v46 (u4 + 1) (by omega) (by omega) (by omega) (by omega) (by omega)
        · refine g_C ?_
          refine g_iShl 3 (by omega) (by omega) (by decide) (fun v47 bv47 cv47 => ?_)
          refine u_X12_held_32 ?_
          refine g_iOr 4 (by omega) (by omega) (by omega) (by omega) (by decide) (fun v48 bv48 cv48 => ?_)
          refine g_A (by omega) (by omega) ?_
          exact ih_n_l41 v48 (u4 + 1) (by omega) (by omega) (by omega) (by omega) (by omega)
  exact ⟨5, L_n_l41 5 0 0 (by omega) (by omega) (by omega) (by omega) (by omega)⟩
theorem za_X12_canTake {X : Mm} {S : Sh} {m0 : Mm} {K : Int → Mm → Prop} {u1 u2 : Int} (hS : Shp S) (hm0 : Inv X S m0) (l_u1 : 0 ≤ u1) (h_u1 : u1 ≤ 4) (l_u2 : 0 ≤ u2) (h_u2 : u2 ≤ 3) (hk : ∀ (r : Int), 0 ≤ r → r ≤ 1 → K r m0) : wp_X12_canTake S m0 336 u1 u2 K := by
  refine u_X12_canTake ?_
  refine ⟨hS.k336, ?_⟩
  refine u_X12_isAtPlace ?_
  refine g_C ?_
  refine ⟨hS.k336, ?_⟩
  refine u_X12_handOf ?_
  refine g_getr 20 346 rfl hS.k336 hm0.f_336_20 (by decide) ?_
  refine g_C ?_
  refine g_C ?_
  refine g_M (by omega) (by omega) ?_
  refine g_A (by omega) (by omega) ?_
  refine g_A (by omega) (by omega) ?_
  refine g_ld (0) (5) hS.k346 hS.l346 (by omega) (by omega) (fam_346_11_5_0_4 hm0 (a := u1) (by omega) (by omega) (by omega)) (fun v1 ev1 bv1 cv1 => ?_)
  refine g_if (fun w2 => ?_) (fun w2 => ?_)
  · refine g_C ?_
    refine ⟨by omega, ?_⟩
    refine g_ifT (by omega) ?_
    refine g_C ?_
    refine ⟨by omega, ?_⟩
    exact hk 0 (by omega) (by omega)
  · refine g_C ?_
    refine ⟨by omega, ?_⟩
    refine g_ifF (by omega) ?_
    refine ⟨hS.k336, ?_⟩
    refine u_X12_stands ?_
    refine g_C ?_
    refine ⟨hS.k336, ?_⟩
    refine u_X12_jugOf ?_
    refine g_getr 20 346 rfl hS.k336 hm0.f_336_20 (by decide) ?_
    refine g_C ?_
    refine g_C ?_
    refine g_M (by omega) (by omega) ?_
    refine g_A (by omega) (by omega) ?_
    refine g_A (by omega) (by omega) ?_
    refine g_ld (-1) (4) hS.k346 hS.l346 (by omega) (by omega) (fam_346_36_4_0_3 hm0 (a := u2) (by omega) (by omega) (by omega)) (fun v3 ev3 bv3 cv3 => ?_)
    refine g_if (fun w4 => ?_) (fun w4 => ?_)
    · refine g_C ?_
      refine ⟨by omega, ?_⟩
      refine g_ifT (by omega) ?_
      refine g_C ?_
      refine ⟨by omega, ?_⟩
      exact hk 0 (by omega) (by omega)
    · refine g_C ?_
      refine ⟨hS.k336, ?_⟩
      refine u_X12_jugOf ?_
      refine g_getr 20 346 rfl hS.k336 hm0.f_336_20 (by decide) ?_
      refine g_C ?_
      refine g_C ?_
      refine g_M (by omega) (by omega) ?_
      refine g_A (by omega) (by omega) ?_
      refine g_A (by omega) (by omega) ?_
      refine g_ld (0) (1) hS.k346 hS.l346 (by omega) (by omega) (fam_346_38_4_0_3 hm0 (a := u2) (by omega) (by omega) (by omega)) (fun v5 ev5 bv5 cv5 => ?_)
      refine g_if (fun w6 => ?_) (fun w6 => ?_)
      · refine g_C ?_
        refine ⟨by omega, ?_⟩
        refine g_ifT (by omega) ?_
        refine g_C ?_
        refine ⟨by omega, ?_⟩
        exact hk 0 (by omega) (by omega)
      · refine g_C ?_
        refine ⟨by omega, ?_⟩
        refine g_ifF (by omega) ?_
        refine g_C ?_
        refine ⟨hS.k336, ?_⟩
        refine u_X12_jugOf ?_
        refine g_getr 20 346 rfl hS.k336 hm0.f_336_20 (by decide) ?_
        refine g_C ?_
        refine g_C ?_
        refine g_M (by omega) (by omega) ?_
        refine g_A (by omega) (by omega) ?_
        refine g_A (by omega) (by omega) ?_
        refine g_ld (0) (5) hS.k346 hS.l346 (by omega) (by omega) (fam_346_35_4_0_3 hm0 (a := u2) (by omega) (by omega) (by omega)) (fun v7 ev7 bv7 cv7 => ?_)
        refine g_C ?_
        refine ⟨hS.k336, ?_⟩
        refine u_X12_handOf ?_
        refine g_getr 20 346 rfl hS.k336 hm0.f_336_20 (by decide) ?_
        refine g_C ?_
        refine g_C ?_
        refine g_M (by omega) (by omega) ?_
        refine g_A (by omega) (by omega) ?_
        refine g_A (by omega) (by omega) ?_
        refine g_ld (0) (5) hS.k346 hS.l346 (by omega) (by omega) (fam_346_10_5_0_4 hm0 (a := u1) (by omega) (by omega) (by omega)) (fun v8 ev8 bv8 cv8 => ?_)
        refine g_if (fun w9 => ?_) (fun w9 => ?_)
        · refine g_C ?_
          refine ⟨by omega, ?_⟩
          exact hk 0 (by omega) (by omega)
        · refine ⟨hS.k336, ?_⟩
          refine za_X12_held hS hm0 (by omega) (by omega) (fun v10 bv10 cv10 => ?_)
          refine z_X12_bits hS hm0 (by omega) (by omega) (fun v11 bv11 cv11 => ?_)
          refine g_C ?_
          refine g_if (fun w12 => ?_) (fun w12 => ?_)
          · refine g_C ?_
            refine ⟨by omega, ?_⟩
            exact hk 0 (by omega) (by omega)
          · refine g_C ?_
            refine ⟨by omega, ?_⟩
            exact hk 1 (by omega) (by omega)
theorem za_X12_goes {X : Mm} {S : Sh} {m0 : Mm} {K : Mm → Prop} {u1 u2 : Int} (hS : Shp S) (hm0 : Inv X S m0) (l_u1 : 0 ≤ u1) (h_u1 : u1 ≤ 4) (l_u2 : 0 ≤ u2) (h_u2 : u2 ≤ 5) (p0 : u2 < m0 346 0) (hk : ∀ (M1 : Mm), Inv X S M1 → (∀ c p : Int, ¬ (344 ≤ c ∧ c ≤ 345) ∧ ¬ c = 347 ∧ ¬ (c = 336 ∧ (p = 18 ∨ p = 25 ∨ p = 33)) ∧ ¬ (c = 346 ∧ (p = 7 ∨ p = 8 ∨ (10 ≤ p ∧ p < 35 ∧ (p - 10) % 5 ≤ 2) ∨ (35 ≤ p ∧ p < 57) ∨ 117 ≤ p)) → M1 c p = m0 c p) → K M1) : wp_X12_goes S m0 336 u1 u2 K := by
  have Fm0 : ∀ c p : Int, ¬ (344 ≤ c ∧ c ≤ 345) ∧ ¬ c = 347 ∧ ¬ (c = 336 ∧ (p = 18 ∨ p = 25 ∨ p = 33)) ∧ ¬ (c = 346 ∧ (p = 7 ∨ p = 8 ∨ (10 ≤ p ∧ p < 35 ∧ (p - 10) % 5 ≤ 2) ∨ (35 ≤ p ∧ p < 57) ∨ 117 ≤ p)) → m0 c p = m0 c p := fun c p _ => rfl
  refine u_X12_goes ?_
  refine g_getr 20 346 rfl hS.k336 hm0.f_336_20 (by decide) ?_
  refine g_C ?_
  refine g_C ?_
  refine g_M (by omega) (by omega) ?_
  refine g_A (by omega) (by omega) ?_
  refine g_C ?_
  refine g_A (by omega) (by omega) ?_
  refine g_C ?_
  refine ⟨hS.k336, ?_⟩
  refine u_X12_handOf ?_
  refine g_getr 20 346 rfl hS.k336 hm0.f_336_20 (by decide) ?_
  refine g_C ?_
  refine g_C ?_
  refine g_M (by omega) (by omega) ?_
  refine g_A (by omega) (by omega) ?_
  refine g_A (by omega) (by omega) ?_
  refine g_ld (0) (5) hS.k346 hS.l346 (by omega) (by omega) (fam_346_10_5_0_4 hm0 (a := u1) (by omega) (by omega) (by omega)) (fun v1 ev1 bv1 cv1 => ?_)
  refine ⟨hS.k336, ?_⟩
  refine za_X12_roadOf hS hm0 (by omega) (by omega) (by omega) (by omega) (fun v2 bv2 cv2 => ?_)
  refine g_st hS.k346 hS.l346 (by omega) (by omega) (wfm_346_11_5_0_4 hm0 (a := u1) (by omega) (by omega) (by omega) (by omega) (by omega)) (fun m3 em3 hm3 => ?_)
  have Fm3 : ∀ c p : Int, ¬ (344 ≤ c ∧ c ≤ 345) ∧ ¬ c = 347 ∧ ¬ (c = 336 ∧ (p = 18 ∨ p = 25 ∨ p = 33)) ∧ ¬ (c = 346 ∧ (p = 7 ∨ p = 8 ∨ (10 ≤ p ∧ p < 35 ∧ (p - 10) % 5 ≤ 2) ∨ (35 ≤ p ∧ p < 57) ∨ 117 ≤ p)) → m3 c p = m0 c p := fun c p h => (congrFun (congrFun em3 _) _).trans ((up_ne (by omega)).trans (Fm0 c p h))
  refine g_getr 20 346 rfl hS.k336 hm3.f_336_20 (by decide) ?_
  refine g_C ?_
  refine g_C ?_
  refine g_M (by omega) (by omega) ?_
  refine g_A (by omega) (by omega) ?_
  have gp5 := hm3.g (c := 346) (p := 0) (by decide)
  have gp6 := hm0.g (c := 346) (p := 0) (by decide)
  refine g_st hS.k346 hS.l346 (by omega) (by omega) (wfm_346_10_5_0_4 hm3 (a := u1) (by omega) (by omega) (by omega) (by omega) (by omega) (by omega)) (fun m4 em4 hm4 => ?_)
  have Fm4 : ∀ c p : Int, ¬ (344 ≤ c ∧ c ≤ 345) ∧ ¬ c = 347 ∧ ¬ (c = 336 ∧ (p = 18 ∨ p = 25 ∨ p = 33)) ∧ ¬ (c = 346 ∧ (p = 7 ∨ p = 8 ∨ (10 ≤ p ∧ p < 35 ∧ (p - 10) % 5 ≤ 2) ∨ (35 ≤ p ∧ p < 57) ∨ 117 ≤ p)) → m4 c p = m0 c p := fun c p h => (congrFun (congrFun em4 _) _).trans ((up_ne (by omega)).trans (Fm3 c p h))
  have zb7 := hm4.f_346_0
  have q8 : m4 346 0 = (m0 346 0) := (hm4.g (by decide)).trans (((Eq.refl (m0 346 0)).trans (hm0.g (by decide))).symm)
  exact hk m4 hm4 Fm4
theorem za_X12_actsDrawn {X : Mm} {S : Sh} {m0 : Mm} {K : Mm → Prop} (hS : Shp S) (hm0 : Inv X S m0) (p0 : 1 ≤ m0 346 0) (hk : ∀ (M1 : Mm), Inv X S M1 → (∀ c p : Int, ¬ (344 ≤ c ∧ c ≤ 345) ∧ ¬ c = 347 ∧ ¬ (c = 336 ∧ (p = 18 ∨ p = 25 ∨ p = 33)) ∧ ¬ (c = 346 ∧ (p = 7 ∨ p = 8 ∨ (10 ≤ p ∧ p < 35 ∧ (p - 10) % 5 ≤ 2) ∨ (35 ≤ p ∧ p < 57) ∨ 117 ≤ p)) → M1 c p = m0 c p) → K M1) : wp_X12_actsDrawn S m0 336 K := by
  have Fm0 : ∀ c p : Int, ¬ (344 ≤ c ∧ c ≤ 345) ∧ ¬ c = 347 ∧ ¬ (c = 336 ∧ (p = 18 ∨ p = 25 ∨ p = 33)) ∧ ¬ (c = 346 ∧ (p = 7 ∨ p = 8 ∨ (10 ≤ p ∧ p < 35 ∧ (p - 10) % 5 ≤ 2) ∨ (35 ≤ p ∧ p < 57) ∨ 117 ≤ p)) → m0 c p = m0 c p := fun c p _ => rfl
  refine u_X12_actsDrawn ?_
  refine g_C ?_
  have L_n_l602 : ∀ (n_l602 : Nat) (u2 : Int) (m3 : Mm), Inv X S m3 → (∀ c p : Int, ¬ (344 ≤ c ∧ c ≤ 345) ∧ ¬ c = 347 ∧ ¬ (c = 336 ∧ (p = 18 ∨ p = 25 ∨ p = 33)) ∧ ¬ (c = 346 ∧ (p = 7 ∨ p = 8 ∨ (10 ≤ p ∧ p < 35 ∧ (p - 10) % 5 ≤ 2) ∨ (35 ≤ p ∧ p < 57) ∨ 117 ≤ p)) → m3 c p = m0 c p) → 0 ≤ u2 → u2 ≤ 5 → 6 - u2 ≤ (n_l602 : Int) → wp_X12_actsDrawn_2 S K n_l602 336 u2 m3 := by
    intro n_l602
    induction n_l602 with
    | zero => intro u2 m3 hm3 Fm3 bu2 cu2 zn_l602; exfalso; omega
    | succ n_l602 ih_n_l602 =>
      intro u2 m3 hm3 Fm3 bu2 cu2 zn_l602
      refine u_X12_actsDrawn_2 ?_
      refine g_getr 20 346 rfl hS.k336 hm3.f_336_20 (by decide) ?_
      refine g_C ?_
      refine g_ld (0) (5) hS.k346 hS.l346 (by omega) (by omega) (hm3.f_346_4) (fun v603 ev603 bv603 cv603 => ?_)
      refine g_if (fun w604 => ?_) (fun w604 => ?_)
      · refine g_C ?_
        have L_n_l703 : ∀ (n_l703 : Nat) (u606 : Int) (m607 : Mm), Inv X S m607 → (∀ c p : Int, ¬ (344 ≤ c ∧ c ≤ 345) ∧ ¬ c = 347 ∧ ¬ (c = 336 ∧ (p = 18 ∨ p = 25 ∨ p = 33)) ∧ ¬ (c = 346 ∧ (p = 7 ∨ p = 8 ∨ (10 ≤ p ∧ p < 35 ∧ (p - 10) % 5 ≤ 2) ∨ (35 ≤ p ∧ p < 57) ∨ 117 ≤ p)) → m607 c p = m0 c p) → 0 ≤ u606 → u606 ≤ 4 → 5 - u606 ≤ (n_l703 : Int) → wp_X12_actsDrawn_57 S K n_l703 336 u606 m607 := by
          intro n_l703
          induction n_l703 with
          | zero => intro u606 m607 hm607 Fm607 bu606 cu606 zn_l703; exfalso; omega
          | succ n_l703 ih_n_l703 =>
            intro u606 m607 hm607 Fm607 bu606 cu606 zn_l703
            refine u_X12_actsDrawn_57 ?_
            refine g_getr 20 346 rfl hS.k336 hm607.f_336_20 (by decide) ?_
            refine g_C ?_
            refine g_ld (0) (4) hS.k346 hS.l346 (by omega) (by omega) (hm607.f_346_5) (fun v704 ev704 bv704 cv704 => ?_)
            refine g_if (fun w705 => ?_) (fun w705 => ?_)
            · have zb706 := hm607.f_346_0
              have q707 : m607 346 0 = (m0 346 0) := (hm607.g (by decide)).trans (((Eq.refl (m0 346 0)).trans (hm0.g (by decide))).symm)
              exact hk m607 hm607 Fm607
            · refine g_getr 20 346 rfl hS.k336 hm607.f_336_20 (by decide) ?_
              refine g_C ?_
              refine g_ld (0) (5) hS.k346 hS.l346 (by omega) (by omega) (hm607.f_346_4) (fun v708 ev708 bv708 cv708 => ?_)
              have qv708 : v708 = v603 := (ev708.trans (hm607.g (by decide))).trans ((ev603.trans (hm3.g (by decide))).symm)
              refine g_if (fun w709 => ?_) (fun w709 => ?_)
              · have zb710 := hm607.f_346_0
                have q711 : m607 346 0 = (m0 346 0) := (hm607.g (by decide)).trans (((Eq.refl (m0 346 0)).trans (hm0.g (by decide))).symm)
                exact hk m607 hm607 Fm607
              · refine ⟨hS.k336, ?_⟩
                refine u_X12_stands ?_
                refine g_C ?_
                refine ⟨hS.k336, ?_⟩
                refine u_X12_jugOf ?_
                refine g_getr 20 346 rfl hS.k336 hm607.f_336_20 (by decide) ?_
                refine g_C ?_
                refine g_C ?_
                refine g_M (by omega) (by omega) ?_
                refine g_A (by omega) (by omega) ?_
                refine g_A (by omega) (by omega) ?_
                refine g_ld (-1) (4) hS.k346 hS.l346 (by omega) (by omega) (fam_346_36_4_0_3 hm607 (a := u606) (by omega) (by omega) (by omega)) (fun v712 ev712 bv712 cv712 => ?_)
                refine g_if (fun w713 => ?_) (fun w713 => ?_)
                · refine g_C ?_
                  refine ⟨by omega, ?_⟩
                  refine g_ifF (by omega) ?_
                  refine u_X12_actsDrawn_113 ?_
                  refine g_A (by omega) (by omega) ?_
                  have zb714 := hm607.f_346_0
                  have q715 : m607 346 0 = (m0 346 0) := (hm607.g (by decide)).trans (((Eq.refl (m0 346 0)).trans (hm0.g (by decide))).symm)
                  exact ih_n_l703 (u606 + 1) m607 hm607 Fm607 (by omega) (by omega) (by omega)
                · refine g_C ?_
                  refine ⟨hS.k336, ?_⟩
                  refine u_X12_jugOf ?_
                  refine g_getr 20 346 rfl hS.k336 hm607.f_336_20 (by decide) ?_
                  refine g_C ?_
                  refine g_C ?_
                  refine g_M (by omega) (by omega) ?_
                  refine g_A (by omega) (by omega) ?_
                  refine g_A (by omega) (by omega) ?_
                  refine g_ld (0) (1) hS.k346 hS.l346 (by omega) (by omega) (fam_346_38_4_0_3 hm607 (a := u606) (by omega) (by omega) (by omega)) (fun v716 ev716 bv716 cv716 => ?_)
                  refine g_if (fun w717 => ?_) (fun w717 => ?_)
                  · refine g_C ?_
                    refine ⟨by omega, ?_⟩
                    refine g_ifF (by omega) ?_
                    refine u_X12_actsDrawn_113 ?_
                    refine g_A (by omega) (by omega) ?_
                    have zb718 := hm607.f_346_0
                    have q719 : m607 346 0 = (m0 346 0) := (hm607.g (by decide)).trans (((Eq.refl (m0 346 0)).trans (hm0.g (by decide))).symm)
                    exact ih_n_l703 (u606 + 1) m607 hm607 Fm607 (by omega) (by omega) (by omega)
                  · refine g_C ?_
                    refine ⟨by omega, ?_⟩
                    refine g_ifT (by omega) ?_
                    refine g_getr 20 346 rfl hS.k336 hm607.f_336_20 (by decide) ?_
                    refine g_C ?_
                    refine g_ld (0) (5) hS.k346 hS.l346 (by omega) (by omega) (hm607.f_346_4) (fun v720 ev720 bv720 cv720 => ?_)
                    have qv720 : v720 = v603 := (ev720.trans (hm607.g (by decide))).trans ((ev603.trans (hm3.g (by decide))).symm)
                    refine ⟨hS.k336, ?_⟩
                    refine u_X12_draw ?_
                    refine g_get 33 (0) (2147483647) rfl hS.k336 hm607.f_336_33 (fun v721 ev721 bv721 cv721 => ?_)
                    refine g_C ?_
                    refine g_LM (by omega) (by omega) ?_
                    refine g_C ?_
                    refine g_LA (by omega) (by omega) ?_
                    refine g_C ?_
                    refine g_lRem (by omega) (by omega) (by omega) (by omega) (fun v722 bv722 cv722 => ?_)
                    refine g_put 33 rfl hS.k336 (hm607.w_336_33 (by omega) (by omega)) (fun m723 em723 hm723 => ?_)
                    have Fm723 : ∀ c p : Int, ¬ (344 ≤ c ∧ c ≤ 345) ∧ ¬ c = 347 ∧ ¬ (c = 336 ∧ (p = 18 ∨ p = 25 ∨ p = 33)) ∧ ¬ (c = 346 ∧ (p = 7 ∨ p = 8 ∨ (10 ≤ p ∧ p < 35 ∧ (p - 10) % 5 ≤ 2) ∨ (35 ≤ p ∧ p < 57) ∨ 117 ≤ p)) → m723 c p = m0 c p := fun c p h => (congrFun (congrFun em723 _) _).trans ((up_ne (by omega)).trans (Fm607 c p h))
                    refine g_get 33 (0) (2147483647) rfl hS.k336 hm723.f_336_33 (fun v724 ev724 bv724 cv724 => ?_)
                    have qv724 : v724 = v722 := ev724.trans ((congrFun (congrFun em723 _) _).trans (up_ate (by omega)))
                    refine g_C ?_
                    refine g_lDivc (d := 65536) (by omega) (by omega) (by decide) (fun v725 bv725 cv725 => ?_)
                    refine g_C ?_
                    refine g_lRem (by omega) (by omega) (by omega) (by omega) (fun v726 bv726 cv726 => ?_)
                    refine g_w32 (by omega) (by omega) ?_
                    refine ⟨hS.k336, ?_⟩
                    refine za_X12_canTake hS hm723 (by omega) (by omega) (by omega) (by omega) (fun v728 bv728 cv728 => ?_)
                    refine g_if (fun w729 => ?_) (fun w729 => ?_)
                    · refine u_X12_actsDrawn_113 ?_
                      refine g_A (by omega) (by omega) ?_
                      have zb730 := hm723.f_346_0
                      have q731 : m723 346 0 = (m0 346 0) := (hm723.g (by decide)).trans (((Eq.refl (m0 346 0)).trans (hm0.g (by decide))).symm)
                      exact ih_n_l703 (u606 + 1) m723 hm723 Fm723 (by omega) (by omega) (by omega)
                    · refine ⟨hS.k336, ?_⟩
                      refine u_X12_takes ?_
                      refine g_getr 20 346 rfl hS.k336 hm723.f_336_20 (by decide) ?_
                      refine g_C ?_
                      refine g_C ?_
                      refine g_M (by omega) (by omega) ?_
                      refine g_A (by omega) (by omega) ?_
                      refine g_C ?_
                      refine g_A (by omega) (by omega) ?_
                      refine g_st hS.k346 hS.l346 (by omega) (by omega) (wfm_346_36_4_0_3 hm723 (a := u606) (by omega) (by omega) (by omega) (by omega) (by omega)) (fun m732 em732 hm732 => ?_)
                      have Fm732 : ∀ c p : Int, ¬ (344 ≤ c ∧ c ≤ 345) ∧ ¬ c = 347 ∧ ¬ (c = 336 ∧ (p = 18 ∨ p = 25 ∨ p = 33)) ∧ ¬ (c = 346 ∧ (p = 7 ∨ p = 8 ∨ (10 ≤ p ∧ p < 35 ∧ (p - 10) % 5 ≤ 2) ∨ (35 ≤ p ∧ p < 57) ∨ 117 ≤ p)) → m732 c p = m0 c p := fun c p h => (congrFun (congrFun em732 _) _).trans ((up_ne (by omega)).trans (Fm723 c p h))
                      refine u_X12_actsDrawn_113 ?_
                      refine g_A (by omega) (by omega) ?_
                      have zb733 := hm732.f_346_0
                      have q734 : m732 346 0 = (m0 346 0) := (hm732.g (by decide)).trans (((Eq.refl (m0 346 0)).trans (hm0.g (by decide))).symm)
                      exact ih_n_l703 (u606 + 1) m732 hm732 Fm732 (by omega) (by omega) (by omega)
        have zb735 := hm3.f_346_0
        have q736 : m3 346 0 = (m0 346 0) := (hm3.g (by decide)).trans (((Eq.refl (m0 346 0)).trans (hm0.g (by decide))).symm)
        exact ⟨5, L_n_l703 5 0 m3 hm3 Fm3 (by omega) (by omega) (by omega)⟩
      · refine ⟨hS.k336, ?_⟩
        refine u_X12_isAtPlace ?_
        refine g_C ?_
        refine ⟨hS.k336, ?_⟩
        refine u_X12_handOf ?_
        refine g_getr 20 346 rfl hS.k336 hm3.f_336_20 (by decide) ?_
        refine g_C ?_
        refine g_C ?_
        refine g_M (by omega) (by omega) ?_
        refine g_A (by omega) (by omega) ?_
        refine g_A (by omega) (by omega) ?_
        refine g_ld (0) (5) hS.k346 hS.l346 (by omega) (by omega) (fam_346_11_5_0_4 hm3 (a := u2) (by omega) (by omega) (by omega)) (fun v737 ev737 bv737 cv737 => ?_)
        refine g_if (fun w738 => ?_) (fun w738 => ?_)
        · refine g_C ?_
          refine ⟨by omega, ?_⟩
          refine g_ifF (by omega) ?_
          refine u_X12_actsDrawn_49 ?_
          refine g_A (by omega) (by omega) ?_
          have zb739 := hm3.f_346_0
          have q740 : m3 346 0 = (m0 346 0) := (hm3.g (by decide)).trans (((Eq.refl (m0 346 0)).trans (hm0.g (by decide))).symm)
          exact ih_n_l602 (u2 + 1) m3 hm3 Fm3 (by omega) (by omega) (by omega)
        · refine g_C ?_
          refine ⟨by omega, ?_⟩
          refine g_ifT (by omega) ?_
          refine g_getr 20 346 rfl hS.k336 hm3.f_336_20 (by decide) ?_
          refine g_C ?_
          refine g_ld (0) (6) hS.k346 hS.l346 (by omega) (by omega) (hm3.f_346_0) (fun v741 ev741 bv741 cv741 => ?_)
          have qv741 : v741 = (m0 346 0) := (ev741.trans (hm3.g (by decide))).trans (((Eq.refl (m0 346 0)).trans (hm0.g (by decide))).symm)
          refine ⟨hS.k336, ?_⟩
          refine u_X12_draw ?_
          refine g_get 33 (0) (2147483647) rfl hS.k336 hm3.f_336_33 (fun v742 ev742 bv742 cv742 => ?_)
          refine g_C ?_
          refine g_LM (by omega) (by omega) ?_
          refine g_C ?_
          refine g_LA (by omega) (by omega) ?_
          refine g_C ?_
          refine g_lRem (by omega) (by omega) (by omega) (by omega) (fun v743 bv743 cv743 => ?_)
          refine g_put 33 rfl hS.k336 (hm3.w_336_33 (by omega) (by omega)) (fun m744 em744 hm744 => ?_)
          have Fm744 : ∀ c p : Int, ¬ (344 ≤ c ∧ c ≤ 345) ∧ ¬ c = 347 ∧ ¬ (c = 336 ∧ (p = 18 ∨ p = 25 ∨ p = 33)) ∧ ¬ (c = 346 ∧ (p = 7 ∨ p = 8 ∨ (10 ≤ p ∧ p < 35 ∧ (p - 10) % 5 ≤ 2) ∨ (35 ≤ p ∧ p < 57) ∨ 117 ≤ p)) → m744 c p = m0 c p := fun c p h => (congrFun (congrFun em744 _) _).trans ((up_ne (by omega)).trans (Fm3 c p h))
          refine g_get 33 (0) (2147483647) rfl hS.k336 hm744.f_336_33 (fun v745 ev745 bv745 cv745 => ?_)
          have qv745 : v745 = v743 := ev745.trans ((congrFun (congrFun em744 _) _).trans (up_ate (by omega)))
          refine g_C ?_
          refine g_lDivc (d := 65536) (by omega) (by omega) (by decide) (fun v746 bv746 cv746 => ?_)
          refine g_C ?_
          refine g_lRem (by omega) (by omega) (by omega) (by omega) (fun v747 bv747 cv747 => ?_)
          refine g_w32 (by omega) (by omega) ?_
          refine ⟨hS.k336, ?_⟩
          refine u_X12_canGo ?_
          refine ⟨hS.k336, ?_⟩
          refine u_X12_isAtPlace ?_
          refine g_C ?_
          refine ⟨hS.k336, ?_⟩
          refine u_X12_handOf ?_
          refine g_getr 20 346 rfl hS.k336 hm744.f_336_20 (by decide) ?_
          refine g_C ?_
          refine g_C ?_
          refine g_M (by omega) (by omega) ?_
          refine g_A (by omega) (by omega) ?_
          refine g_A (by omega) (by omega) ?_
          refine g_ld (0) (5) hS.k346 hS.l346 (by omega) (by omega) (fam_346_11_5_0_4 hm744 (a := u2) (by omega) (by omega) (by omega)) (fun v749 ev749 bv749 cv749 => ?_)
          have qv749 : v749 = v737 := ev749.trans ((congrFun (congrFun em744 _) _).trans ((up_ne (by omega)).trans ev737.symm))
          refine g_ifF (by omega) ?_
          refine g_C ?_
          refine ⟨by omega, ?_⟩
          refine g_ifF (by omega) ?_
          refine g_C ?_
          refine ⟨hS.k336, ?_⟩
          refine u_X12_handOf ?_
          refine g_getr 20 346 rfl hS.k336 hm744.f_336_20 (by decide) ?_
          refine g_C ?_
          refine g_C ?_
          refine g_M (by omega) (by omega) ?_
          refine g_A (by omega) (by omega) ?_
          refine g_A (by omega) (by omega) ?_
          refine g_ld (0) (5) hS.k346 hS.l346 (by omega) (by omega) (fam_346_10_5_0_4 hm744 (a := u2) (by omega) (by omega) (by omega)) (fun v750 ev750 bv750 cv750 => ?_)
          refine ⟨hS.k336, ?_⟩
          refine za_X12_roadOf hS hm744 (by omega) (by omega) (by omega) (by omega) (fun v751 bv751 cv751 => ?_)
          refine g_if (fun w752 => ?_) (fun w752 => ?_)
          · refine g_C ?_
            refine ⟨by omega, ?_⟩
            refine g_ifT (by omega) ?_
            refine u_X12_actsDrawn_49 ?_
            refine g_A (by omega) (by omega) ?_
            have zb753 := hm744.f_346_0
            have q754 : m744 346 0 = (m0 346 0) := (hm744.g (by decide)).trans (((Eq.refl (m0 346 0)).trans (hm0.g (by decide))).symm)
            exact ih_n_l602 (u2 + 1) m744 hm744 Fm744 (by omega) (by omega) (by omega)
          · refine g_C ?_
            refine ⟨by omega, ?_⟩
            refine g_ifF (by omega) ?_
            refine ⟨hS.k336, ?_⟩
            have zb755 := hm744.f_346_0
            have q756 : m744 346 0 = (m0 346 0) := (hm744.g (by decide)).trans (((Eq.refl (m0 346 0)).trans (hm0.g (by decide))).symm)
            refine za_X12_goes hS hm744 (by omega) (by omega) (by omega) (by omega) (by omega) (fun m757 hm757 fm757 => ?_)
            have zb758 := hm757.f_346_0
            have Fm757 : ∀ c p : Int, ¬ (344 ≤ c ∧ c ≤ 345) ∧ ¬ c = 347 ∧ ¬ (c = 336 ∧ (p = 18 ∨ p = 25 ∨ p = 33)) ∧ ¬ (c = 346 ∧ (p = 7 ∨ p = 8 ∨ (10 ≤ p ∧ p < 35 ∧ (p - 10) % 5 ≤ 2) ∨ (35 ≤ p ∧ p < 57) ∨ 117 ≤ p)) → m757 c p = m0 c p := fun c p h => (fm757 c p (by omega)).trans (Fm744 c p h)
            refine u_X12_actsDrawn_49 ?_
            refine g_A (by omega) (by omega) ?_
            have zb759 := hm757.f_346_0
            have q760 : m757 346 0 = (m0 346 0) := (hm757.g (by decide)).trans (((Eq.refl (m0 346 0)).trans (hm0.g (by decide))).symm)
            exact ih_n_l602 (u2 + 1) m757 hm757 Fm757 (by omega) (by omega) (by omega)
  have zb761 := hm0.f_346_0
  have q762 : m0 346 0 = (m0 346 0) := (hm0.g (by decide)).trans (((Eq.refl (m0 346 0)).trans (hm0.g (by decide))).symm)
  exact ⟨6, L_n_l602 6 0 m0 hm0 Fm0 (by omega) (by omega) (by omega)⟩
theorem za_X12_firstFor {X : Mm} {S : Sh} {m0 : Mm} {K : Int → Mm → Prop} {u1 : Int} (hS : Shp S) (hm0 : Inv X S m0) (l_u1 : 0 ≤ u1) (h_u1 : u1 ≤ 5) (hk : ∀ (r : Int), (-1) ≤ r → r ≤ 3 → K r m0) : wp_X12_firstFor S m0 336 u1 K := by
  refine u_X12_firstFor ?_
  refine g_getr 20 346 rfl hS.k336 hm0.f_336_20 (by decide) ?_
  refine g_C ?_
  refine g_A (by omega) (by omega) ?_
  refine g_ld (-2147483648) (2147483647) hS.k346 hS.l346 (by omega) (by omega) (fam_346_51_1_0_5 hm0 (a := u1) (by omega) (by omega) (by omega)) (fun v1 ev1 bv1 cv1 => ?_)
  refine g_if (fun w2 => ?_) (fun w2 => ?_)
  · refine g_C ?_
    have L_n_l72 : ∀ (n_l72 : Nat) (u5 : Int), 0 ≤ u5 → u5 ≤ 4 → 5 - u5 ≤ (n_l72 : Int) → wp_X12_firstFor_16 S K n_l72 336 u1 u5 m0 := by
      intro n_l72
      induction n_l72 with
      | zero => intro u5 bu5 cu5 zn_l72; exfalso; omega
      | succ n_l72 ih_n_l72 =>
        intro u5 bu5 cu5 zn_l72
        refine u_X12_firstFor_16 ?_
        refine g_getr 20 346 rfl hS.k336 hm0.f_336_20 (by decide) ?_
        refine g_C ?_
        refine g_ld (0) (4) hS.k346 hS.l346 (by omega) (by omega) (hm0.f_346_5) (fun v73 ev73 bv73 cv73 => ?_)
        refine g_if (fun w74 => ?_) (fun w74 => ?_)
        · refine g_C ?_
          exact hk (-1) (by omega) (by omega)
        · refine ⟨hS.k336, ?_⟩
          refine u_X12_stands ?_
          refine g_C ?_
          refine ⟨hS.k336, ?_⟩
          refine u_X12_jugOf ?_
          refine g_getr 20 346 rfl hS.k336 hm0.f_336_20 (by decide) ?_
          refine g_C ?_
          refine g_C ?_
          refine g_M (by omega) (by omega) ?_
          refine g_A (by omega) (by omega) ?_
          refine g_A (by omega) (by omega) ?_
          refine g_ld (-1) (4) hS.k346 hS.l346 (by omega) (by omega) (fam_346_36_4_0_3 hm0 (a := u5) (by omega) (by omega) (by omega)) (fun v75 ev75 bv75 cv75 => ?_)
          refine g_if (fun w76 => ?_) (fun w76 => ?_)
          · refine g_C ?_
            refine ⟨by omega, ?_⟩
            refine g_ifT (by omega) ?_
            refine u_X12_firstFor_78 ?_
            refine g_A (by omega) (by omega) ?_
            exact ih_n_l72 (u5 + 1) (by omega) (by omega) (by omega)
          · refine g_C ?_
            refine ⟨hS.k336, ?_⟩
            refine u_X12_jugOf ?_
            refine g_getr 20 346 rfl hS.k336 hm0.f_336_20 (by decide) ?_
            refine g_C ?_
            refine g_C ?_
            refine g_M (by omega) (by omega) ?_
            refine g_A (by omega) (by omega) ?_
            refine g_A (by omega) (by omega) ?_
            refine g_ld (0) (1) hS.k346 hS.l346 (by omega) (by omega) (fam_346_38_4_0_3 hm0 (a := u5) (by omega) (by omega) (by omega)) (fun v77 ev77 bv77 cv77 => ?_)
            refine g_if (fun w78 => ?_) (fun w78 => ?_)
            · refine g_C ?_
              refine ⟨by omega, ?_⟩
              refine g_ifT (by omega) ?_
              refine u_X12_firstFor_78 ?_
              refine g_A (by omega) (by omega) ?_
              exact ih_n_l72 (u5 + 1) (by omega) (by omega) (by omega)
            · refine g_C ?_
              refine ⟨by omega, ?_⟩
              refine g_ifF (by omega) ?_
              refine g_C ?_
              refine ⟨hS.k336, ?_⟩
              refine u_X12_jugOf ?_
              refine g_getr 20 346 rfl hS.k336 hm0.f_336_20 (by decide) ?_
              refine g_C ?_
              refine g_C ?_
              refine g_M (by omega) (by omega) ?_
              refine g_A (by omega) (by omega) ?_
              refine g_A (by omega) (by omega) ?_
              refine g_ld (0) (5) hS.k346 hS.l346 (by omega) (by omega) (fam_346_35_4_0_3 hm0 (a := u5) (by omega) (by omega) (by omega)) (fun v79 ev79 bv79 cv79 => ?_)
              refine g_C ?_
              refine ⟨hS.k336, ?_⟩
              refine u_X12_wantOf ?_
              refine g_getr 20 346 rfl hS.k336 hm0.f_336_20 (by decide) ?_
              refine g_C ?_
              refine g_C ?_
              refine g_M (by omega) (by omega) ?_
              refine g_A (by omega) (by omega) ?_
              refine g_A (by omega) (by omega) ?_
              refine g_ld (0) (5) hS.k346 hS.l346 (by omega) (by omega) (fam_346_93_4_0_5 hm0 (a := u1) (by omega) (by omega) (by omega)) (fun v80 ev80 bv80 cv80 => ?_)
              refine g_if (fun w81 => ?_) (fun w81 => ?_)
              · refine u_X12_firstFor_78 ?_
                refine g_A (by omega) (by omega) ?_
                exact ih_n_l72 (u5 + 1) (by omega) (by omega) (by omega)
              · refine g_C ?_
                refine ⟨hS.k336, ?_⟩
                refine u_X12_jugOf ?_
                refine g_getr 20 346 rfl hS.k336 hm0.f_336_20 (by decide) ?_
                refine g_C ?_
                refine g_C ?_
                refine g_M (by omega) (by omega) ?_
                refine g_A (by omega) (by omega) ?_
                refine g_A (by omega) (by omega) ?_
                refine g_ld (-2147483648) (2147483647) hS.k346 hS.l346 (by omega) (by omega) (fam_346_37_4_0_3 hm0 (a := u5) (by omega) (by omega) (by omega)) (fun v82 ev82 bv82 cv82 => ?_)
                refine g_C ?_
                refine g_C ?_
                refine ⟨hS.k336, ?_⟩
                refine u_X12_wantOf ?_
                refine g_getr 20 346 rfl hS.k336 hm0.f_336_20 (by decide) ?_
                refine g_C ?_
                refine g_C ?_
                refine g_M (by omega) (by omega) ?_
                refine g_A (by omega) (by omega) ?_
                refine g_A (by omega) (by omega) ?_
                refine g_ld (0) (99) hS.k346 hS.l346 (by omega) (by omega) (fam_346_94_4_0_5 hm0 (a := u1) (by omega) (by omega) (by omega)) (fun v83 ev83 bv83 cv83 => ?_)
                refine g_C ?_
                refine g_C ?_
                refine ⟨hS.k336, ?_⟩
                refine u_X12_wantOf ?_
                refine g_getr 20 346 rfl hS.k336 hm0.f_336_20 (by decide) ?_
                refine g_C ?_
                refine g_C ?_
                refine g_M (by omega) (by omega) ?_
                refine g_A (by omega) (by omega) ?_
                refine g_A (by omega) (by omega) ?_
                refine g_ld (0) (99) hS.k346 hS.l346 (by omega) (by omega) (fam_346_95_4_0_5 hm0 (a := u1) (by omega) (by omega) (by omega)) (fun v84 ev84 bv84 cv84 => ?_)
                refine g_C ?_
                refine z_in (fun aw85 bw85 => ?_) (fun cw85 => ?_)
                · refine g_ifF (by omega) ?_
                  exact hk u5 (by omega) (by omega)
                · refine g_ifT (by omega) ?_
                  refine u_X12_firstFor_78 ?_
                  refine g_A (by omega) (by omega) ?_
                  exact ih_n_l72 (u5 + 1) (by omega) (by omega) (by omega)
    exact ⟨5, L_n_l72 5 0 (by omega) (by omega) (by omega)⟩
  · refine g_C ?_
    exact hk (-1) (by omega) (by omega)
theorem za_X12_go {X : Mm} {S : Sh} {m0 : Mm} {K : Int → Mm → Prop} {u1 u2 : Int} (hS : Shp S) (hm0 : Inv X S m0) (l_u1 : (-2147483648) ≤ u1) (h_u1 : u1 ≤ 2147483647) (l_u2 : (-2147483648) ≤ u2) (h_u2 : u2 ≤ 2147483647) (hk : ∀ (r : Int) (M1 : Mm), Inv X S M1 → (∀ c p : Int, ¬ (344 ≤ c ∧ c ≤ 345) ∧ ¬ c = 347 ∧ ¬ (c = 336 ∧ (p = 18 ∨ p = 25 ∨ p = 33)) ∧ ¬ (c = 346 ∧ (p = 7 ∨ p = 8 ∨ (10 ≤ p ∧ p < 35 ∧ (p - 10) % 5 ≤ 2) ∨ (35 ≤ p ∧ p < 57) ∨ 117 ≤ p)) → M1 c p = m0 c p) → (-1) ≤ r → r ≤ 5 → K r M1) : wp_X12_go S m0 336 u1 u2 K := by
  have Fm0 : ∀ c p : Int, ¬ (344 ≤ c ∧ c ≤ 345) ∧ ¬ c = 347 ∧ ¬ (c = 336 ∧ (p = 18 ∨ p = 25 ∨ p = 33)) ∧ ¬ (c = 346 ∧ (p = 7 ∨ p = 8 ∨ (10 ≤ p ∧ p < 35 ∧ (p - 10) % 5 ≤ 2) ∨ (35 ≤ p ∧ p < 57) ∨ 117 ≤ p)) → m0 c p = m0 c p := fun c p _ => rfl
  refine u_X12_go ?_
  refine ⟨hS.k336, ?_⟩
  refine u_X12_isHand ?_
  refine g_if (fun w1 => ?_) (fun w1 => ?_)
  · refine g_C ?_
    refine ⟨by omega, ?_⟩
    refine g_ifT (by omega) ?_
    refine g_C ?_
    have zb2 := hm0.f_346_0
    have q3 : m0 346 0 = (m0 346 0) := (hm0.g (by decide)).trans (((Eq.refl (m0 346 0)).trans (hm0.g (by decide))).symm)
    exact hk (-1) m0 hm0 Fm0 (by omega) (by omega)
  · refine g_getr 20 346 rfl hS.k336 hm0.f_336_20 (by decide) ?_
    refine g_C ?_
    refine g_ld (0) (5) hS.k346 hS.l346 (by omega) (by omega) (hm0.f_346_4) (fun v4 ev4 bv4 cv4 => ?_)
    refine g_if (fun w5 => ?_) (fun w5 => ?_)
    · refine g_C ?_
      refine ⟨by omega, ?_⟩
      refine g_ifT (by omega) ?_
      refine g_C ?_
      have zb6 := hm0.f_346_0
      have q7 : m0 346 0 = (m0 346 0) := (hm0.g (by decide)).trans (((Eq.refl (m0 346 0)).trans (hm0.g (by decide))).symm)
      exact hk (-1) m0 hm0 Fm0 (by omega) (by omega)
    · refine g_C ?_
      refine ⟨by omega, ?_⟩
      refine g_ifF (by omega) ?_
      refine ⟨hS.k336, ?_⟩
      refine u_X12_isPlace ?_
      refine g_if (fun w8 => ?_) (fun w8 => ?_)
      · refine g_C ?_
        refine ⟨by omega, ?_⟩
        refine g_ifT (by omega) ?_
        refine g_C ?_
        have zb9 := hm0.f_346_0
        have q10 : m0 346 0 = (m0 346 0) := (hm0.g (by decide)).trans (((Eq.refl (m0 346 0)).trans (hm0.g (by decide))).symm)
        exact hk (-1) m0 hm0 Fm0 (by omega) (by omega)
      · refine g_getr 20 346 rfl hS.k336 hm0.f_336_20 (by decide) ?_
        refine g_C ?_
        refine g_ld (0) (6) hS.k346 hS.l346 (by omega) (by omega) (hm0.f_346_0) (fun v11 ev11 bv11 cv11 => ?_)
        have qv11 : v11 = (m0 346 0) := (ev11.trans (hm0.g (by decide))).trans (((Eq.refl (m0 346 0)).trans (hm0.g (by decide))).symm)
        refine g_if (fun w12 => ?_) (fun w12 => ?_)
        · refine g_C ?_
          refine ⟨by omega, ?_⟩
          refine g_ifT (by omega) ?_
          refine g_C ?_
          have zb13 := hm0.f_346_0
          have q14 : m0 346 0 = (m0 346 0) := (hm0.g (by decide)).trans (((Eq.refl (m0 346 0)).trans (hm0.g (by decide))).symm)
          exact hk (-1) m0 hm0 Fm0 (by omega) (by omega)
        · refine g_C ?_
          refine ⟨by omega, ?_⟩
          refine g_ifF (by omega) ?_
          refine ⟨hS.k336, ?_⟩
          refine u_X12_canGo ?_
          refine ⟨hS.k336, ?_⟩
          refine u_X12_isAtPlace ?_
          refine g_C ?_
          refine ⟨hS.k336, ?_⟩
          refine u_X12_handOf ?_
          refine g_getr 20 346 rfl hS.k336 hm0.f_336_20 (by decide) ?_
          refine g_C ?_
          refine g_C ?_
          refine g_M (by omega) (by omega) ?_
          refine g_A (by omega) (by omega) ?_
          refine g_A (by omega) (by omega) ?_
          refine g_ld (0) (5) hS.k346 hS.l346 (by omega) (by omega) (fam_346_11_5_0_4 hm0 (a := u1) (by omega) (by omega) (by omega)) (fun v15 ev15 bv15 cv15 => ?_)
          refine g_if (fun w16 => ?_) (fun w16 => ?_)
          · refine g_C ?_
            refine ⟨by omega, ?_⟩
            refine g_ifT (by omega) ?_
            refine g_C ?_
            refine ⟨by omega, ?_⟩
            refine g_ifF (by omega) ?_
            refine g_C ?_
            have zb17 := hm0.f_346_0
            have q18 : m0 346 0 = (m0 346 0) := (hm0.g (by decide)).trans (((Eq.refl (m0 346 0)).trans (hm0.g (by decide))).symm)
            exact hk (-1) m0 hm0 Fm0 (by omega) (by omega)
          · refine g_C ?_
            refine ⟨by omega, ?_⟩
            refine g_ifF (by omega) ?_
            refine g_C ?_
            refine ⟨hS.k336, ?_⟩
            refine u_X12_handOf ?_
            refine g_getr 20 346 rfl hS.k336 hm0.f_336_20 (by decide) ?_
            refine g_C ?_
            refine g_C ?_
            refine g_M (by omega) (by omega) ?_
            refine g_A (by omega) (by omega) ?_
            refine g_A (by omega) (by omega) ?_
            refine g_ld (0) (5) hS.k346 hS.l346 (by omega) (by omega) (fam_346_10_5_0_4 hm0 (a := u1) (by omega) (by omega) (by omega)) (fun v19 ev19 bv19 cv19 => ?_)
            refine ⟨hS.k336, ?_⟩
            refine za_X12_roadOf hS hm0 (by omega) (by omega) (by omega) (by omega) (fun v20 bv20 cv20 => ?_)
            refine g_if (fun w21 => ?_) (fun w21 => ?_)
            · refine g_C ?_
              refine ⟨by omega, ?_⟩
              refine g_ifF (by omega) ?_
              refine g_C ?_
              have zb22 := hm0.f_346_0
              have q23 : m0 346 0 = (m0 346 0) := (hm0.g (by decide)).trans (((Eq.refl (m0 346 0)).trans (hm0.g (by decide))).symm)
              exact hk (-1) m0 hm0 Fm0 (by omega) (by omega)
            · refine g_C ?_
              refine ⟨by omega, ?_⟩
              refine g_ifT (by omega) ?_
              refine ⟨hS.k336, ?_⟩
              refine za_X12_keepsAct hS hm0 (fun m24 hm24 fm24 => ?_)
              have zb25 := hm24.f_346_0
              have Fm24 : ∀ c p : Int, ¬ (344 ≤ c ∧ c ≤ 345) ∧ ¬ c = 347 ∧ ¬ (c = 336 ∧ (p = 18 ∨ p = 25 ∨ p = 33)) ∧ ¬ (c = 346 ∧ (p = 7 ∨ p = 8 ∨ (10 ≤ p ∧ p < 35 ∧ (p - 10) % 5 ≤ 2) ∨ (35 ≤ p ∧ p < 57) ∨ 117 ≤ p)) → m24 c p = m0 c p := fun c p h => (fm24 c p (by omega)).trans (Fm0 c p h)
              refine ⟨hS.k336, ?_⟩
              have zb26 := hm24.f_346_0
              have q27 : m24 346 0 = (m0 346 0) := (hm24.g (by decide)).trans (((Eq.refl (m0 346 0)).trans (hm0.g (by decide))).symm)
              refine za_X12_goes hS hm24 (by omega) (by omega) (by omega) (by omega) (by omega) (fun m28 hm28 fm28 => ?_)
              have zb29 := hm28.f_346_0
              have Fm28 : ∀ c p : Int, ¬ (344 ≤ c ∧ c ≤ 345) ∧ ¬ c = 347 ∧ ¬ (c = 336 ∧ (p = 18 ∨ p = 25 ∨ p = 33)) ∧ ¬ (c = 346 ∧ (p = 7 ∨ p = 8 ∨ (10 ≤ p ∧ p < 35 ∧ (p - 10) % 5 ≤ 2) ∨ (35 ≤ p ∧ p < 57) ∨ 117 ≤ p)) → m28 c p = m0 c p := fun c p h => (fm28 c p (by omega)).trans (Fm24 c p h)
              refine g_C ?_
              refine ⟨hS.k336, ?_⟩
              refine u_X12_handOf ?_
              refine g_getr 20 346 rfl hS.k336 hm28.f_336_20 (by decide) ?_
              refine g_C ?_
              refine g_C ?_
              refine g_M (by omega) (by omega) ?_
              refine g_A (by omega) (by omega) ?_
              refine g_A (by omega) (by omega) ?_
              refine g_ld (0) (5) hS.k346 hS.l346 (by omega) (by omega) (fam_346_11_5_0_4 hm28 (a := u1) (by omega) (by omega) (by omega)) (fun v30 ev30 bv30 cv30 => ?_)
              have zb31 := hm28.f_346_0
              have q32 : m28 346 0 = (m0 346 0) := (hm28.g (by decide)).trans (((Eq.refl (m0 346 0)).trans (hm0.g (by decide))).symm)
              exact hk v30 m28 hm28 Fm28 (by omega) (by omega)
theorem za_X12_handOn {X : Mm} {S : Sh} {m0 : Mm} {K : Int → Mm → Prop} {u1 u2 : Int} (hS : Shp S) (hm0 : Inv X S m0) (l_u1 : (-2147483648) ≤ u1) (h_u1 : u1 ≤ 2147483647) (l_u2 : (-2147483648) ≤ u2) (h_u2 : u2 ≤ 2147483647) (hk : ∀ (r : Int) (M1 : Mm), Inv X S M1 → (∀ c p : Int, ¬ (344 ≤ c ∧ c ≤ 345) ∧ ¬ c = 347 ∧ ¬ (c = 336 ∧ (p = 18 ∨ p = 25 ∨ p = 33)) ∧ ¬ (c = 346 ∧ (p = 7 ∨ p = 8 ∨ (10 ≤ p ∧ p < 35 ∧ (p - 10) % 5 ≤ 2) ∨ (35 ≤ p ∧ p < 57) ∨ 117 ≤ p)) → M1 c p = m0 c p) → (-1) ≤ r → r ≤ 4 → K r M1) : wp_X12_handOn S m0 336 u1 u2 K := by
  have Fm0 : ∀ c p : Int, ¬ (344 ≤ c ∧ c ≤ 345) ∧ ¬ c = 347 ∧ ¬ (c = 336 ∧ (p = 18 ∨ p = 25 ∨ p = 33)) ∧ ¬ (c = 346 ∧ (p = 7 ∨ p = 8 ∨ (10 ≤ p ∧ p < 35 ∧ (p - 10) % 5 ≤ 2) ∨ (35 ≤ p ∧ p < 57) ∨ 117 ≤ p)) → m0 c p = m0 c p := fun c p _ => rfl
  refine u_X12_handOn ?_
  refine ⟨hS.k336, ?_⟩
  refine u_X12_isJug ?_
  refine g_if (fun w1 => ?_) (fun w1 => ?_)
  · refine g_C ?_
    refine ⟨by omega, ?_⟩
    refine g_ifT (by omega) ?_
    refine g_C ?_
    exact hk (-1) m0 hm0 Fm0 (by omega) (by omega)
  · refine g_getr 20 346 rfl hS.k336 hm0.f_336_20 (by decide) ?_
    refine g_C ?_
    refine g_ld (0) (4) hS.k346 hS.l346 (by omega) (by omega) (hm0.f_346_5) (fun v2 ev2 bv2 cv2 => ?_)
    refine g_if (fun w3 => ?_) (fun w3 => ?_)
    · refine g_C ?_
      refine ⟨by omega, ?_⟩
      refine g_ifT (by omega) ?_
      refine g_C ?_
      exact hk (-1) m0 hm0 Fm0 (by omega) (by omega)
    · refine g_C ?_
      refine ⟨by omega, ?_⟩
      refine g_ifF (by omega) ?_
      refine ⟨hS.k336, ?_⟩
      refine u_X12_isHand ?_
      refine g_if (fun w4 => ?_) (fun w4 => ?_)
      · refine g_C ?_
        refine ⟨by omega, ?_⟩
        refine g_ifT (by omega) ?_
        refine g_C ?_
        exact hk (-1) m0 hm0 Fm0 (by omega) (by omega)
      · refine g_getr 20 346 rfl hS.k336 hm0.f_336_20 (by decide) ?_
        refine g_C ?_
        refine g_ld (0) (5) hS.k346 hS.l346 (by omega) (by omega) (hm0.f_346_4) (fun v5 ev5 bv5 cv5 => ?_)
        refine g_if (fun w6 => ?_) (fun w6 => ?_)
        · refine g_C ?_
          refine ⟨by omega, ?_⟩
          refine g_ifT (by omega) ?_
          refine g_C ?_
          exact hk (-1) m0 hm0 Fm0 (by omega) (by omega)
        · refine g_C ?_
          refine ⟨by omega, ?_⟩
          refine g_ifF (by omega) ?_
          refine g_C ?_
          refine ⟨hS.k336, ?_⟩
          refine u_X12_jugOf ?_
          refine g_getr 20 346 rfl hS.k336 hm0.f_336_20 (by decide) ?_
          refine g_C ?_
          refine g_C ?_
          refine g_M (by omega) (by omega) ?_
          refine g_A (by omega) (by omega) ?_
          refine g_A (by omega) (by omega) ?_
          refine g_ld (-1) (4) hS.k346 hS.l346 (by omega) (by omega) (fam_346_36_4_0_3 hm0 (a := u1) (by omega) (by omega) (by omega)) (fun v7 ev7 bv7 cv7 => ?_)
          refine g_if (fun w8 => ?_) (fun w8 => ?_)
          · refine g_C ?_
            exact hk (-1) m0 hm0 Fm0 (by omega) (by omega)
          · refine g_C ?_
            refine ⟨hS.k336, ?_⟩
            refine u_X12_jugOf ?_
            refine g_getr 20 346 rfl hS.k336 hm0.f_336_20 (by decide) ?_
            refine g_C ?_
            refine g_C ?_
            refine g_M (by omega) (by omega) ?_
            refine g_A (by omega) (by omega) ?_
            refine g_A (by omega) (by omega) ?_
            refine g_ld (-1) (4) hS.k346 hS.l346 (by omega) (by omega) (fam_346_36_4_0_3 hm0 (a := u1) (by omega) (by omega) (by omega)) (fun v9 ev9 bv9 cv9 => ?_)
            have qv9 : v9 = v7 := ev9.trans ev7.symm
            refine g_if (fun w10 => ?_) (fun w10 => ?_)
            · refine g_C ?_
              refine ⟨hS.k336, ?_⟩
              refine u_X12_jugOf ?_
              refine g_getr 20 346 rfl hS.k336 hm0.f_336_20 (by decide) ?_
              refine g_C ?_
              refine g_C ?_
              refine g_M (by omega) (by omega) ?_
              refine g_A (by omega) (by omega) ?_
              refine g_A (by omega) (by omega) ?_
              refine g_ld (-1) (4) hS.k346 hS.l346 (by omega) (by omega) (fam_346_36_4_0_3 hm0 (a := u1) (by omega) (by omega) (by omega)) (fun v11 ev11 bv11 cv11 => ?_)
              have qv11 : v11 = v7 := ev11.trans ev7.symm
              refine ⟨hS.k336, ?_⟩
              refine u_X12_isAtPlace ?_
              refine g_C ?_
              refine ⟨hS.k336, ?_⟩
              refine u_X12_handOf ?_
              refine g_getr 20 346 rfl hS.k336 hm0.f_336_20 (by decide) ?_
              refine g_C ?_
              refine g_C ?_
              refine g_M (by omega) (by omega) ?_
              refine g_A (by omega) (by omega) ?_
              refine g_A (by omega) (by omega) ?_
              refine g_ld (0) (5) hS.k346 hS.l346 (by omega) (by omega) (fam_346_11_5_0_4 hm0 (a := v7) (by omega) (by omega) (by omega)) (fun v12 ev12 bv12 cv12 => ?_)
              refine g_if (fun w13 => ?_) (fun w13 => ?_)
              · refine g_C ?_
                refine ⟨by omega, ?_⟩
                refine g_ifT (by omega) ?_
                refine g_C ?_
                exact hk (-1) m0 hm0 Fm0 (by omega) (by omega)
              · refine g_C ?_
                refine ⟨by omega, ?_⟩
                refine g_ifF (by omega) ?_
                refine ⟨hS.k336, ?_⟩
                refine u_X12_isAtPlace ?_
                refine g_C ?_
                refine ⟨hS.k336, ?_⟩
                refine u_X12_handOf ?_
                refine g_getr 20 346 rfl hS.k336 hm0.f_336_20 (by decide) ?_
                refine g_C ?_
                refine g_C ?_
                refine g_M (by omega) (by omega) ?_
                refine g_A (by omega) (by omega) ?_
                refine g_A (by omega) (by omega) ?_
                refine g_ld (0) (5) hS.k346 hS.l346 (by omega) (by omega) (fam_346_11_5_0_4 hm0 (a := u2) (by omega) (by omega) (by omega)) (fun v14 ev14 bv14 cv14 => ?_)
                refine g_if (fun w15 => ?_) (fun w15 => ?_)
                · refine g_C ?_
                  refine ⟨by omega, ?_⟩
                  refine g_ifT (by omega) ?_
                  refine g_C ?_
                  exact hk (-1) m0 hm0 Fm0 (by omega) (by omega)
                · refine g_C ?_
                  refine ⟨by omega, ?_⟩
                  refine g_ifF (by omega) ?_
                  refine g_C ?_
                  refine ⟨hS.k336, ?_⟩
                  refine u_X12_handOf ?_
                  refine g_getr 20 346 rfl hS.k336 hm0.f_336_20 (by decide) ?_
                  refine g_C ?_
                  refine g_C ?_
                  refine g_M (by omega) (by omega) ?_
                  refine g_A (by omega) (by omega) ?_
                  refine g_A (by omega) (by omega) ?_
                  refine g_ld (0) (5) hS.k346 hS.l346 (by omega) (by omega) (fam_346_10_5_0_4 hm0 (a := v7) (by omega) (by omega) (by omega)) (fun v16 ev16 bv16 cv16 => ?_)
                  refine g_C ?_
                  refine ⟨hS.k336, ?_⟩
                  refine u_X12_handOf ?_
                  refine g_getr 20 346 rfl hS.k336 hm0.f_336_20 (by decide) ?_
                  refine g_C ?_
                  refine g_C ?_
                  refine g_M (by omega) (by omega) ?_
                  refine g_A (by omega) (by omega) ?_
                  refine g_A (by omega) (by omega) ?_
                  refine g_ld (0) (5) hS.k346 hS.l346 (by omega) (by omega) (fam_346_10_5_0_4 hm0 (a := u2) (by omega) (by omega) (by omega)) (fun v17 ev17 bv17 cv17 => ?_)
                  refine g_if (fun w18 => ?_) (fun w18 => ?_)
                  · refine g_C ?_
                    exact hk (-1) m0 hm0 Fm0 (by omega) (by omega)
                  · refine ⟨hS.k336, ?_⟩
                    refine za_X12_held hS hm0 (by omega) (by omega) (fun v19 bv19 cv19 => ?_)
                    refine z_X12_bits hS hm0 (by omega) (by omega) (fun v20 bv20 cv20 => ?_)
                    refine g_C ?_
                    refine g_if (fun w21 => ?_) (fun w21 => ?_)
                    · refine ⟨hS.k336, ?_⟩
                      refine za_X12_keepsAct hS hm0 (fun m22 hm22 fm22 => ?_)
                      have Fm22 : ∀ c p : Int, ¬ (344 ≤ c ∧ c ≤ 345) ∧ ¬ c = 347 ∧ ¬ (c = 336 ∧ (p = 18 ∨ p = 25 ∨ p = 33)) ∧ ¬ (c = 346 ∧ (p = 7 ∨ p = 8 ∨ (10 ≤ p ∧ p < 35 ∧ (p - 10) % 5 ≤ 2) ∨ (35 ≤ p ∧ p < 57) ∨ 117 ≤ p)) → m22 c p = m0 c p := fun c p h => (fm22 c p (by omega)).trans (Fm0 c p h)
                      refine ⟨hS.k336, ?_⟩
                      refine u_X12_takes ?_
                      refine g_getr 20 346 rfl hS.k336 hm22.f_336_20 (by decide) ?_
                      refine g_C ?_
                      refine g_C ?_
                      refine g_M (by omega) (by omega) ?_
                      refine g_A (by omega) (by omega) ?_
                      refine g_C ?_
                      refine g_A (by omega) (by omega) ?_
                      refine g_st hS.k346 hS.l346 (by omega) (by omega) (wfm_346_36_4_0_3 hm22 (a := u1) (by omega) (by omega) (by omega) (by omega) (by omega)) (fun m23 em23 hm23 => ?_)
                      have Fm23 : ∀ c p : Int, ¬ (344 ≤ c ∧ c ≤ 345) ∧ ¬ c = 347 ∧ ¬ (c = 336 ∧ (p = 18 ∨ p = 25 ∨ p = 33)) ∧ ¬ (c = 346 ∧ (p = 7 ∨ p = 8 ∨ (10 ≤ p ∧ p < 35 ∧ (p - 10) % 5 ≤ 2) ∨ (35 ≤ p ∧ p < 57) ∨ 117 ≤ p)) → m23 c p = m0 c p := fun c p h => (congrFun (congrFun em23 _) _).trans ((up_ne (by omega)).trans (Fm22 c p h))
                      exact hk v11 m23 hm23 Fm23 (by omega) (by omega)
                    · refine g_C ?_
                      exact hk (-1) m0 hm0 Fm0 (by omega) (by omega)
            · refine g_C ?_
              exact hk (-1) m0 hm0 Fm0 (by omega) (by omega)
theorem za_X12_heatIn {X : Mm} {S : Sh} {m0 : Mm} {K : Int → Mm → Prop} {u1 : Int} (hS : Shp S) (hm0 : Inv X S m0) (l_u1 : (-2147483648) ≤ u1) (h_u1 : u1 ≤ 2147483647) (hk : ∀ (r : Int), (-2147483648) ≤ r → r ≤ 2147483647 → K r m0) : wp_X12_heatIn S m0 336 u1 K := by
  refine u_X12_heatIn ?_
  refine g_C ?_
  refine g_C ?_
  have L_n_l197 : ∀ (n_l197 : Nat) (u3 : Int) (u4 : Int), (-2147483648) ≤ u3 → u3 ≤ 2147483647 → 0 ≤ u4 → u4 ≤ 4 → 5 - u4 ≤ (n_l197 : Int) → wp_X12_heatIn_4 S K n_l197 336 u1 u3 u4 m0 := by
    intro n_l197
    induction n_l197 with
    | zero => intro u3 u4 bu3 cu3 bu4 cu4 zn_l197; exfalso; omega
    | succ n_l197 ih_n_l197 =>
      intro u3 u4 bu3 cu3 bu4 cu4 zn_l197
      refine u_X12_heatIn_4 ?_
      refine g_getr 20 346 rfl hS.k336 hm0.f_336_20 (by decide) ?_
      refine g_C ?_
      refine g_ld (0) (4) hS.k346 hS.l346 (by omega) (by omega) (hm0.f_346_9) (fun v198 ev198 bv198 cv198 => ?_)
      refine g_if (fun w199 => ?_) (fun w199 => ?_)
      · exact hk u3 (by omega) (by omega)
      · refine g_get 23 (0) (1) rfl hS.k336 hm0.f_336_23 (fun v200 ev200 bv200 cv200 => ?_)
        refine g_if (fun w201 => ?_) (fun w201 => ?_)
        · exact hk u3 (by omega) (by omega)
        · refine g_C ?_
          refine g_C ?_
          refine g_M (by omega) (by omega) ?_
          refine g_A (by omega) (by omega) ?_
          refine g_getr 20 346 rfl hS.k336 hm0.f_336_20 (by decide) ?_
          refine g_ld (0) (99) hS.k346 hS.l346 (by omega) (by omega) (fam_346_81_3_0_3 hm0 (a := u4) (by omega) (by omega) (by omega)) (fun v202 ev202 bv202 cv202 => ?_)
          refine g_if (fun w203 => ?_) (fun w203 => ?_)
          · refine u_X12_heatIn_67 ?_
            refine g_C ?_
            refine u_X12_heatIn_68 ?_
            refine g_A (by omega) (by omega) ?_
            refine g_A (by omega) (by omega) ?_
            exact ih_n_l197 (u3 + 0) (u4 + 1) (by omega) (by omega) (by omega) (by omega) (by omega)
          · refine g_getr 20 346 rfl hS.k336 hm0.f_336_20 (by decide) ?_
            refine g_C ?_
            refine g_A (by omega) (by omega) ?_
            refine g_ld (0) (99) hS.k346 hS.l346 (by omega) (by omega) (fam_346_82_3_0_3 hm0 (a := u4) (by omega) (by omega) (by omega)) (fun v204 ev204 bv204 cv204 => ?_)
            refine g_if (fun w205 => ?_) (fun w205 => ?_)
            · refine u_X12_heatIn_67 ?_
              refine g_C ?_
              refine u_X12_heatIn_68 ?_
              refine g_A (by omega) (by omega) ?_
              refine g_A (by omega) (by omega) ?_
              exact ih_n_l197 (u3 + 0) (u4 + 1) (by omega) (by omega) (by omega) (by omega) (by omega)
            · refine g_getr 20 346 rfl hS.k336 hm0.f_336_20 (by decide) ?_
              refine g_C ?_
              refine g_A (by omega) (by omega) ?_
              refine g_ld (0) (5) hS.k346 hS.l346 (by omega) (by omega) (fam_346_83_3_0_3 hm0 (a := u4) (by omega) (by omega) (by omega)) (fun v206 ev206 bv206 cv206 => ?_)
              refine u_X12_heatIn_68 ?_
              refine g_Aw (fun v207 bv207 cv207 => ?_)
              refine g_A (by omega) (by omega) ?_
              exact ih_n_l197 v207 (u4 + 1) (by omega) (by omega) (by omega) (by omega) (by omega)
  exact ⟨5, L_n_l197 5 0 0 (by omega) (by omega) (by omega) (by omega) (by omega)⟩
theorem za_X12_turnsIn {X : Mm} {S : Sh} {m0 : Mm} {K : Int → Mm → Prop} {u1 u2 u3 u4 u5 u6 u7 : Int} (hS : Shp S) (hm0 : Inv X S m0) (l_u1 : 0 ≤ u1) (h_u1 : u1 ≤ 4) (l_u2 : 0 ≤ u2) (h_u2 : u2 ≤ 99) (l_u3 : 0 ≤ u3) (h_u3 : u3 ≤ 3) (l_u4 : (-2147483648) ≤ u4) (h_u4 : u4 ≤ 2147483647) (l_u5 : (-2147483648) ≤ u5) (h_u5 : u5 ≤ 2147483647) (l_u6 : 0 ≤ u6) (h_u6 : u6 ≤ 1) (l_u7 : 0 ≤ u7) (h_u7 : u7 ≤ 1024) (hk : ∀ (r : Int) (M1 : Mm), Inv X S M1 → (∀ c p : Int, ¬ (344 ≤ c ∧ c ≤ 345) ∧ ¬ c = 347 ∧ ¬ (c = 336 ∧ (p = 18 ∨ p = 25 ∨ p = 33)) ∧ ¬ (c = 346 ∧ (p = 7 ∨ p = 8 ∨ (10 ≤ p ∧ p < 35 ∧ (p - 10) % 5 ≤ 2) ∨ (35 ≤ p ∧ p < 57) ∨ 117 ≤ p)) → M1 c p = m0 c p) → (-2147483648) ≤ r → r ≤ 2147483647 → K r M1) : wp_X12_turnsIn S m0 336 u1 u2 u3 u4 u5 u6 u7 K := by
  have Fm0 : ∀ c p : Int, ¬ (344 ≤ c ∧ c ≤ 345) ∧ ¬ c = 347 ∧ ¬ (c = 336 ∧ (p = 18 ∨ p = 25 ∨ p = 33)) ∧ ¬ (c = 346 ∧ (p = 7 ∨ p = 8 ∨ (10 ≤ p ∧ p < 35 ∧ (p - 10) % 5 ≤ 2) ∨ (35 ≤ p ∧ p < 57) ∨ 117 ≤ p)) → m0 c p = m0 c p := fun c p _ => rfl
  refine u_X12_turnsIn ?_
  refine ⟨hS.k336, ?_⟩
  refine za_X12_heatIn hS hm0 (by omega) (by omega) (fun v1 bv1 cv1 => ?_)
  refine g_get 21 (-1) (5) rfl hS.k336 hm0.f_336_21 (fun v2 ev2 bv2 cv2 => ?_)
  have qv2 : v2 = (m0 336 21) := (ev2.trans (hm0.g (by decide))).trans (((Eq.refl (m0 336 21)).trans (hm0.g (by decide))).symm)
  refine g_if (fun w3 => ?_) (fun w3 => ?_)
  · refine g_getr 19 345 rfl hS.k336 hm0.f_336_19 (by decide) ?_
    refine g_C ?_
    refine g_C ?_
    refine g_st hS.k345 hS.l345 (by omega) (by omega) (hm0.wa_345 (by omega) (by omega)) (fun m4 em4 hm4 => ?_)
    have Fm4 : ∀ c p : Int, ¬ (344 ≤ c ∧ c ≤ 345) ∧ ¬ c = 347 ∧ ¬ (c = 336 ∧ (p = 18 ∨ p = 25 ∨ p = 33)) ∧ ¬ (c = 346 ∧ (p = 7 ∨ p = 8 ∨ (10 ≤ p ∧ p < 35 ∧ (p - 10) % 5 ≤ 2) ∨ (35 ≤ p ∧ p < 57) ∨ 117 ≤ p)) → m4 c p = m0 c p := fun c p h => (congrFun (congrFun em4 _) _).trans ((up_ne (by omega)).trans (Fm0 c p h))
    refine g_getr 19 345 rfl hS.k336 hm4.f_336_19 (by decide) ?_
    refine g_C ?_
    refine g_C ?_
    refine ⟨hS.k336, ?_⟩
    refine u_X12_handOf ?_
    refine g_getr 20 346 rfl hS.k336 hm4.f_336_20 (by decide) ?_
    refine g_C ?_
    refine g_C ?_
    refine g_M (by omega) (by omega) ?_
    refine g_A (by omega) (by omega) ?_
    refine g_A (by omega) (by omega) ?_
    refine g_ld (0) (20) hS.k346 hS.l346 (by omega) (by omega) (fam_346_13_5_0_4 hm4 (a := u1) (by omega) (by omega) (by omega)) (fun v5 ev5 bv5 cv5 => ?_)
    refine g_C ?_
    refine g_st hS.k345 hS.l345 (by omega) (by omega) (hm4.wa_345 (by omega) (by omega)) (fun m6 em6 hm6 => ?_)
    have Fm6 : ∀ c p : Int, ¬ (344 ≤ c ∧ c ≤ 345) ∧ ¬ c = 347 ∧ ¬ (c = 336 ∧ (p = 18 ∨ p = 25 ∨ p = 33)) ∧ ¬ (c = 346 ∧ (p = 7 ∨ p = 8 ∨ (10 ≤ p ∧ p < 35 ∧ (p - 10) % 5 ≤ 2) ∨ (35 ≤ p ∧ p < 57) ∨ 117 ≤ p)) → m6 c p = m0 c p := fun c p h => (congrFun (congrFun em6 _) _).trans ((up_ne (by omega)).trans (Fm4 c p h))
    refine g_getr 19 345 rfl hS.k336 hm6.f_336_19 (by decide) ?_
    refine g_C ?_
    refine g_C ?_
    refine g_st hS.k345 hS.l345 (by omega) (by omega) (hm6.wa_345 (by omega) (by omega)) (fun m7 em7 hm7 => ?_)
    have Fm7 : ∀ c p : Int, ¬ (344 ≤ c ∧ c ≤ 345) ∧ ¬ c = 347 ∧ ¬ (c = 336 ∧ (p = 18 ∨ p = 25 ∨ p = 33)) ∧ ¬ (c = 346 ∧ (p = 7 ∨ p = 8 ∨ (10 ≤ p ∧ p < 35 ∧ (p - 10) % 5 ≤ 2) ∨ (35 ≤ p ∧ p < 57) ∨ 117 ≤ p)) → m7 c p = m0 c p := fun c p h => (congrFun (congrFun em7 _) _).trans ((up_ne (by omega)).trans (Fm6 c p h))
    refine g_getr 19 345 rfl hS.k336 hm7.f_336_19 (by decide) ?_
    refine g_C ?_
    refine g_C ?_
    refine g_st hS.k345 hS.l345 (by omega) (by omega) (hm7.wa_345 (by omega) (by omega)) (fun m8 em8 hm8 => ?_)
    have Fm8 : ∀ c p : Int, ¬ (344 ≤ c ∧ c ≤ 345) ∧ ¬ c = 347 ∧ ¬ (c = 336 ∧ (p = 18 ∨ p = 25 ∨ p = 33)) ∧ ¬ (c = 346 ∧ (p = 7 ∨ p = 8 ∨ (10 ≤ p ∧ p < 35 ∧ (p - 10) % 5 ≤ 2) ∨ (35 ≤ p ∧ p < 57) ∨ 117 ≤ p)) → m8 c p = m0 c p := fun c p h => (congrFun (congrFun em8 _) _).trans ((up_ne (by omega)).trans (Fm7 c p h))
    refine g_getr 19 345 rfl hS.k336 hm8.f_336_19 (by decide) ?_
    refine g_C ?_
    refine g_C ?_
    refine g_st hS.k345 hS.l345 (by omega) (by omega) (hm8.wa_345 (by omega) (by omega)) (fun m9 em9 hm9 => ?_)
    have Fm9 : ∀ c p : Int, ¬ (344 ≤ c ∧ c ≤ 345) ∧ ¬ c = 347 ∧ ¬ (c = 336 ∧ (p = 18 ∨ p = 25 ∨ p = 33)) ∧ ¬ (c = 346 ∧ (p = 7 ∨ p = 8 ∨ (10 ≤ p ∧ p < 35 ∧ (p - 10) % 5 ≤ 2) ∨ (35 ≤ p ∧ p < 57) ∨ 117 ≤ p)) → m9 c p = m0 c p := fun c p h => (congrFun (congrFun em9 _) _).trans ((up_ne (by omega)).trans (Fm8 c p h))
    refine g_getr 19 345 rfl hS.k336 hm9.f_336_19 (by decide) ?_
    refine g_C ?_
    refine g_C ?_
    refine g_st hS.k345 hS.l345 (by omega) (by omega) (hm9.wa_345 (by omega) (by omega)) (fun m10 em10 hm10 => ?_)
    have Fm10 : ∀ c p : Int, ¬ (344 ≤ c ∧ c ≤ 345) ∧ ¬ c = 347 ∧ ¬ (c = 336 ∧ (p = 18 ∨ p = 25 ∨ p = 33)) ∧ ¬ (c = 346 ∧ (p = 7 ∨ p = 8 ∨ (10 ≤ p ∧ p < 35 ∧ (p - 10) % 5 ≤ 2) ∨ (35 ≤ p ∧ p < 57) ∨ 117 ≤ p)) → m10 c p = m0 c p := fun c p h => (congrFun (congrFun em10 _) _).trans ((up_ne (by omega)).trans (Fm9 c p h))
    refine g_getr 19 345 rfl hS.k336 hm10.f_336_19 (by decide) ?_
    refine g_C ?_
    refine g_C ?_
    refine g_st hS.k345 hS.l345 (by omega) (by omega) (hm10.wa_345 (by omega) (by omega)) (fun m11 em11 hm11 => ?_)
    have Fm11 : ∀ c p : Int, ¬ (344 ≤ c ∧ c ≤ 345) ∧ ¬ c = 347 ∧ ¬ (c = 336 ∧ (p = 18 ∨ p = 25 ∨ p = 33)) ∧ ¬ (c = 346 ∧ (p = 7 ∨ p = 8 ∨ (10 ≤ p ∧ p < 35 ∧ (p - 10) % 5 ≤ 2) ∨ (35 ≤ p ∧ p < 57) ∨ 117 ≤ p)) → m11 c p = m0 c p := fun c p h => (congrFun (congrFun em11 _) _).trans ((up_ne (by omega)).trans (Fm10 c p h))
    refine g_getr 19 345 rfl hS.k336 hm11.f_336_19 (by decide) ?_
    refine g_C ?_
    refine g_C ?_
    refine g_st hS.k345 hS.l345 (by omega) (by omega) (hm11.wa_345 (by omega) (by omega)) (fun m12 em12 hm12 => ?_)
    have Fm12 : ∀ c p : Int, ¬ (344 ≤ c ∧ c ≤ 345) ∧ ¬ c = 347 ∧ ¬ (c = 336 ∧ (p = 18 ∨ p = 25 ∨ p = 33)) ∧ ¬ (c = 346 ∧ (p = 7 ∨ p = 8 ∨ (10 ≤ p ∧ p < 35 ∧ (p - 10) % 5 ≤ 2) ∨ (35 ≤ p ∧ p < 57) ∨ 117 ≤ p)) → m12 c p = m0 c p := fun c p h => (congrFun (congrFun em12 _) _).trans ((up_ne (by omega)).trans (Fm11 c p h))
    refine g_getr 19 345 rfl hS.k336 hm12.f_336_19 (by decide) ?_
    refine g_C ?_
    refine g_C ?_
    refine g_st hS.k345 hS.l345 (by omega) (by omega) (hm12.wa_345 (by omega) (by omega)) (fun m13 em13 hm13 => ?_)
    have Fm13 : ∀ c p : Int, ¬ (344 ≤ c ∧ c ≤ 345) ∧ ¬ c = 347 ∧ ¬ (c = 336 ∧ (p = 18 ∨ p = 25 ∨ p = 33)) ∧ ¬ (c = 346 ∧ (p = 7 ∨ p = 8 ∨ (10 ≤ p ∧ p < 35 ∧ (p - 10) % 5 ≤ 2) ∨ (35 ≤ p ∧ p < 57) ∨ 117 ≤ p)) → m13 c p = m0 c p := fun c p h => (congrFun (congrFun em13 _) _).trans ((up_ne (by omega)).trans (Fm12 c p h))
    refine g_getr 19 345 rfl hS.k336 hm13.f_336_19 (by decide) ?_
    refine g_C ?_
    refine g_getr 20 346 rfl hS.k336 hm13.f_336_20 (by decide) ?_
    refine g_C ?_
    refine g_ld (0) (99) hS.k346 hS.l346 (by omega) (by omega) (hm13.f_346_2) (fun v14 ev14 bv14 cv14 => ?_)
    refine g_if (fun w15 => ?_) (fun w15 => ?_)
    · refine g_C ?_
      refine u_X12_turnsIn_136 ?_
      refine g_st hS.k345 hS.l345 (by omega) (by omega) (hm13.wa_345 (by omega) (by omega)) (fun m16 em16 hm16 => ?_)
      have Fm16 : ∀ c p : Int, ¬ (344 ≤ c ∧ c ≤ 345) ∧ ¬ c = 347 ∧ ¬ (c = 336 ∧ (p = 18 ∨ p = 25 ∨ p = 33)) ∧ ¬ (c = 346 ∧ (p = 7 ∨ p = 8 ∨ (10 ≤ p ∧ p < 35 ∧ (p - 10) % 5 ≤ 2) ∨ (35 ≤ p ∧ p < 57) ∨ 117 ≤ p)) → m16 c p = m0 c p := fun c p h => (congrFun (congrFun em16 _) _).trans ((up_ne (by omega)).trans (Fm13 c p h))
      refine g_get 21 (-1) (5) rfl hS.k336 hm16.f_336_21 (fun v17 ev17 bv17 cv17 => ?_)
      have qv17 : v17 = (m0 336 21) := (ev17.trans (hm16.g (by decide))).trans (((Eq.refl (m0 336 21)).trans (hm0.g (by decide))).symm)
      refine ⟨hS.k336, ?_⟩
      have zb18 := hm16.f_336_21
      have q19 : m16 336 21 = (m0 336 21) := (hm16.g (by decide)).trans (((Eq.refl (m0 336 21)).trans (hm0.g (by decide))).symm)
      have q20 : (m0 336 21) = X 336 21 := (Eq.refl (m0 336 21)).trans (hm0.g (by decide))
      have gq20 := hm0.good.1
      refine z_X12_summedBy hS hm16 (by omega) (by omega) (by omega) (fun v21 m22 hm22 fm22 => ?_)
      have zb23 := hm22.f_336_21
      have Fm22 : ∀ c p : Int, ¬ (344 ≤ c ∧ c ≤ 345) ∧ ¬ c = 347 ∧ ¬ (c = 336 ∧ (p = 18 ∨ p = 25 ∨ p = 33)) ∧ ¬ (c = 346 ∧ (p = 7 ∨ p = 8 ∨ (10 ≤ p ∧ p < 35 ∧ (p - 10) % 5 ≤ 2) ∨ (35 ≤ p ∧ p < 57) ∨ 117 ≤ p)) → m22 c p = m0 c p := fun c p h => (fm22 c p (by omega)).trans (Fm16 c p h)
      refine g_C ?_
      refine g_cmp (fun w24 => ?_) (fun w24 => ?_) (fun w24 => ?_)
      · refine g_ifF (by omega) ?_
        refine g_C ?_
        have zb25 := hm22.f_336_21
        have q26 : m22 336 21 = (m0 336 21) := (hm22.g (by decide)).trans (((Eq.refl (m0 336 21)).trans (hm0.g (by decide))).symm)
        exact hk 0 m22 hm22 Fm22 (by omega) (by omega)
      · refine g_ifT (by omega) ?_
        refine g_C ?_
        refine g_cmp (fun w27 => ?_) (fun w27 => ?_) (fun w27 => ?_)
        · refine g_ifT (by omega) ?_
          refine g_w32 (by omega) (by omega) ?_
          have zb29 := hm22.f_336_21
          have q30 : m22 336 21 = (m0 336 21) := (hm22.g (by decide)).trans (((Eq.refl (m0 336 21)).trans (hm0.g (by decide))).symm)
          exact hk v21 m22 hm22 Fm22 (by omega) (by omega)
        · exfalso; omega
        · exfalso; omega
      · refine g_ifT (by omega) ?_
        refine g_C ?_
        refine g_cmp (fun w31 => ?_) (fun w31 => ?_) (fun w31 => ?_)
        · refine g_ifT (by omega) ?_
          refine g_w32 (by omega) (by omega) ?_
          have zb33 := hm22.f_336_21
          have q34 : m22 336 21 = (m0 336 21) := (hm22.g (by decide)).trans (((Eq.refl (m0 336 21)).trans (hm0.g (by decide))).symm)
          exact hk v21 m22 hm22 Fm22 (by omega) (by omega)
        · refine g_ifT (by omega) ?_
          refine g_w32 (by omega) (by omega) ?_
          have zb36 := hm22.f_336_21
          have q37 : m22 336 21 = (m0 336 21) := (hm22.g (by decide)).trans (((Eq.refl (m0 336 21)).trans (hm0.g (by decide))).symm)
          exact hk v21 m22 hm22 Fm22 (by omega) (by omega)
        · refine g_ifF (by omega) ?_
          refine g_C ?_
          have zb38 := hm22.f_336_21
          have q39 : m22 336 21 = (m0 336 21) := (hm22.g (by decide)).trans (((Eq.refl (m0 336 21)).trans (hm0.g (by decide))).symm)
          exact hk 50 m22 hm22 Fm22 (by omega) (by omega)
    · refine g_C ?_
      refine u_X12_turnsIn_136 ?_
      refine g_st hS.k345 hS.l345 (by omega) (by omega) (hm13.wa_345 (by omega) (by omega)) (fun m40 em40 hm40 => ?_)
      have Fm40 : ∀ c p : Int, ¬ (344 ≤ c ∧ c ≤ 345) ∧ ¬ c = 347 ∧ ¬ (c = 336 ∧ (p = 18 ∨ p = 25 ∨ p = 33)) ∧ ¬ (c = 346 ∧ (p = 7 ∨ p = 8 ∨ (10 ≤ p ∧ p < 35 ∧ (p - 10) % 5 ≤ 2) ∨ (35 ≤ p ∧ p < 57) ∨ 117 ≤ p)) → m40 c p = m0 c p := fun c p h => (congrFun (congrFun em40 _) _).trans ((up_ne (by omega)).trans (Fm13 c p h))
      refine g_get 21 (-1) (5) rfl hS.k336 hm40.f_336_21 (fun v41 ev41 bv41 cv41 => ?_)
      have qv41 : v41 = (m0 336 21) := (ev41.trans (hm40.g (by decide))).trans (((Eq.refl (m0 336 21)).trans (hm0.g (by decide))).symm)
      refine ⟨hS.k336, ?_⟩
      have zb42 := hm40.f_336_21
      have q43 : m40 336 21 = (m0 336 21) := (hm40.g (by decide)).trans (((Eq.refl (m0 336 21)).trans (hm0.g (by decide))).symm)
      have q44 : (m0 336 21) = X 336 21 := (Eq.refl (m0 336 21)).trans (hm0.g (by decide))
      have gq44 := hm0.good.1
      refine z_X12_summedBy hS hm40 (by omega) (by omega) (by omega) (fun v45 m46 hm46 fm46 => ?_)
      have zb47 := hm46.f_336_21
      have Fm46 : ∀ c p : Int, ¬ (344 ≤ c ∧ c ≤ 345) ∧ ¬ c = 347 ∧ ¬ (c = 336 ∧ (p = 18 ∨ p = 25 ∨ p = 33)) ∧ ¬ (c = 346 ∧ (p = 7 ∨ p = 8 ∨ (10 ≤ p ∧ p < 35 ∧ (p - 10) % 5 ≤ 2) ∨ (35 ≤ p ∧ p < 57) ∨ 117 ≤ p)) → m46 c p = m0 c p := fun c p h => (fm46 c p (by omega)).trans (Fm40 c p h)
      refine g_C ?_
      refine g_cmp (fun w48 => ?_) (fun w48 => ?_) (fun w48 => ?_)
      · refine g_ifF (by omega) ?_
        refine g_C ?_
        have zb49 := hm46.f_336_21
        have q50 : m46 336 21 = (m0 336 21) := (hm46.g (by decide)).trans (((Eq.refl (m0 336 21)).trans (hm0.g (by decide))).symm)
        exact hk 0 m46 hm46 Fm46 (by omega) (by omega)
      · refine g_ifT (by omega) ?_
        refine g_C ?_
        refine g_cmp (fun w51 => ?_) (fun w51 => ?_) (fun w51 => ?_)
        · refine g_ifT (by omega) ?_
          refine g_w32 (by omega) (by omega) ?_
          have zb53 := hm46.f_336_21
          have q54 : m46 336 21 = (m0 336 21) := (hm46.g (by decide)).trans (((Eq.refl (m0 336 21)).trans (hm0.g (by decide))).symm)
          exact hk v45 m46 hm46 Fm46 (by omega) (by omega)
        · exfalso; omega
        · exfalso; omega
      · refine g_ifT (by omega) ?_
        refine g_C ?_
        refine g_cmp (fun w55 => ?_) (fun w55 => ?_) (fun w55 => ?_)
        · refine g_ifT (by omega) ?_
          refine g_w32 (by omega) (by omega) ?_
          have zb57 := hm46.f_336_21
          have q58 : m46 336 21 = (m0 336 21) := (hm46.g (by decide)).trans (((Eq.refl (m0 336 21)).trans (hm0.g (by decide))).symm)
          exact hk v45 m46 hm46 Fm46 (by omega) (by omega)
        · refine g_ifT (by omega) ?_
          refine g_w32 (by omega) (by omega) ?_
          have zb60 := hm46.f_336_21
          have q61 : m46 336 21 = (m0 336 21) := (hm46.g (by decide)).trans (((Eq.refl (m0 336 21)).trans (hm0.g (by decide))).symm)
          exact hk v45 m46 hm46 Fm46 (by omega) (by omega)
        · refine g_ifF (by omega) ?_
          refine g_C ?_
          have zb62 := hm46.f_336_21
          have q63 : m46 336 21 = (m0 336 21) := (hm46.g (by decide)).trans (((Eq.refl (m0 336 21)).trans (hm0.g (by decide))).symm)
          exact hk 50 m46 hm46 Fm46 (by omega) (by omega)
  · refine g_C ?_
    refine ⟨hS.k336, ?_⟩
    refine u_X12_handOf ?_
    refine g_getr 20 346 rfl hS.k336 hm0.f_336_20 (by decide) ?_
    refine g_C ?_
    refine g_C ?_
    refine g_M (by omega) (by omega) ?_
    refine g_A (by omega) (by omega) ?_
    refine g_A (by omega) (by omega) ?_
    refine g_ld (0) (20) hS.k346 hS.l346 (by omega) (by omega) (fam_346_13_5_0_4 hm0 (a := u1) (by omega) (by omega) (by omega)) (fun v64 ev64 bv64 cv64 => ?_)
    refine g_C ?_
    refine g_iDivc (d := 4) (by omega) (by omega) (by decide) (fun v65 bv65 cv65 => ?_)
    refine g_A (by omega) (by omega) ?_
    refine g_Aw (fun v66 bv66 cv66 => ?_)
    have zb67 := hm0.f_336_21
    have q68 : m0 336 21 = (m0 336 21) := (hm0.g (by decide)).trans (((Eq.refl (m0 336 21)).trans (hm0.g (by decide))).symm)
    exact hk v66 m0 hm0 Fm0 (by omega) (by omega)
