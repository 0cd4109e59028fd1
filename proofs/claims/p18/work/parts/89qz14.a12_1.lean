theorem za_X12_turns {X : Mm} {S : Sh} {m0 : Mm} {K : Mm → Prop} {u1 : Int} (hS : Shp S) (hm0 : Inv X S m0) (l_u1 : 0 ≤ u1) (h_u1 : u1 ≤ 3) (hk : ∀ (M1 : Mm), Inv X S M1 → (∀ c p : Int, ¬ (344 ≤ c ∧ c ≤ 345) ∧ ¬ c = 347 ∧ ¬ (c = 336 ∧ (p = 18 ∨ p = 25 ∨ p = 33)) ∧ ¬ (c = 346 ∧ (p = 7 ∨ p = 8 ∨ (10 ≤ p ∧ p < 35 ∧ (p - 10) % 5 ≤ 2) ∨ (35 ≤ p ∧ p < 57) ∨ 117 ≤ p)) → M1 c p = m0 c p) → K M1) : wp_X12_turns S m0 336 u1 K := by
  have Fm0 : ∀ c p : Int, ¬ (344 ≤ c ∧ c ≤ 345) ∧ ¬ c = 347 ∧ ¬ (c = 336 ∧ (p = 18 ∨ p = 25 ∨ p = 33)) ∧ ¬ (c = 346 ∧ (p = 7 ∨ p = 8 ∨ (10 ≤ p ∧ p < 35 ∧ (p - 10) % 5 ≤ 2) ∨ (35 ≤ p ∧ p < 57) ∨ 117 ≤ p)) → m0 c p = m0 c p := fun c p _ => rfl
  refine u_X12_turns ?_
  refine g_C ?_
  refine g_C ?_
  refine g_M (by omega) (by omega) ?_
  refine g_A (by omega) (by omega) ?_
  refine g_getr 20 346 rfl hS.k336 hm0.f_336_20 (by decide) ?_
  refine g_C ?_
  refine g_A (by omega) (by omega) ?_
  refine g_ld (-1) (4) hS.k346 hS.l346 (by omega) (by omega) (fam_346_36_4_0_3 hm0 (a := u1) (by omega) (by omega) (by omega)) (fun v1 ev1 bv1 cv1 => ?_)
  refine g_if (fun w2 => ?_) (fun w2 => ?_)
  · refine g_C ?_
    refine ⟨hS.k336, ?_⟩
    refine u_X12_handOf ?_
    refine g_getr 20 346 rfl hS.k336 hm0.f_336_20 (by decide) ?_
    refine g_C ?_
    refine g_C ?_
    refine g_M (by omega) (by omega) ?_
    refine g_A (by omega) (by omega) ?_
    refine g_A (by omega) (by omega) ?_
    refine g_ld (0) (99) hS.k346 hS.l346 (by omega) (by omega) (fam_346_12_5_0_4 hm0 (a := v1) (by omega) (by omega) (by omega)) (fun v3 ev3 bv3 cv3 => ?_)
    refine g_getr 20 346 rfl hS.k336 hm0.f_336_20 (by decide) ?_
    refine g_C ?_
    refine g_A (by omega) (by omega) ?_
    refine g_ld (-2147483648) (2147483647) hS.k346 hS.l346 (by omega) (by omega) (fam_346_37_4_0_3 hm0 (a := u1) (by omega) (by omega) (by omega)) (fun v4 ev4 bv4 cv4 => ?_)
    refine g_getr 20 346 rfl hS.k336 hm0.f_336_20 (by decide) ?_
    refine g_C ?_
    refine g_ld (-2147483648) (2147483647) hS.k346 hS.l346 (by omega) (by omega) (hm0.f_346_7) (fun v5 ev5 bv5 cv5 => ?_)
    refine g_C ?_
    refine ⟨hS.k336, ?_⟩
    refine u_X12_handOf ?_
    refine g_getr 20 346 rfl hS.k336 hm0.f_336_20 (by decide) ?_
    refine g_C ?_
    refine g_C ?_
    refine g_M (by omega) (by omega) ?_
    refine g_A (by omega) (by omega) ?_
    refine g_A (by omega) (by omega) ?_
    refine g_ld (0) (5) hS.k346 hS.l346 (by omega) (by omega) (fam_346_11_5_0_4 hm0 (a := v1) (by omega) (by omega) (by omega)) (fun v6 ev6 bv6 cv6 => ?_)
    refine g_if (fun w7 => ?_) (fun w7 => ?_)
    · refine g_C ?_
      refine u_X12_turns_79 ?_
      refine ⟨hS.k336, ?_⟩
      refine za_X12_held hS hm0 (by omega) (by omega) (fun v8 bv8 cv8 => ?_)
      refine z_X12_bits hS hm0 (by omega) (by omega) (fun v9 bv9 cv9 => ?_)
      refine ⟨hS.k336, ?_⟩
      refine za_X12_turnsIn hS hm0 (by omega) (by omega) (by omega) (by omega) (by omega) (by omega) (by omega) (by omega) (by omega) (by omega) (by omega) (by omega) (by omega) (by omega) (fun v10 m11 hm11 fm11 bv10 cv10 => ?_)
      have Fm11 : ∀ c p : Int, ¬ (344 ≤ c ∧ c ≤ 345) ∧ ¬ c = 347 ∧ ¬ (c = 336 ∧ (p = 18 ∨ p = 25 ∨ p = 33)) ∧ ¬ (c = 346 ∧ (p = 7 ∨ p = 8 ∨ (10 ≤ p ∧ p < 35 ∧ (p - 10) % 5 ≤ 2) ∨ (35 ≤ p ∧ p < 57) ∨ 117 ≤ p)) → m11 c p = m0 c p := fun c p h => (fm11 c p (by omega)).trans (Fm0 c p h)
      refine u_X12_turns_90 ?_
      refine g_getr 20 346 rfl hS.k336 hm11.f_336_20 (by decide) ?_
      refine g_C ?_
      refine g_A (by omega) (by omega) ?_
      refine g_getr 20 346 rfl hS.k336 hm11.f_336_20 (by decide) ?_
      refine g_C ?_
      refine g_A (by omega) (by omega) ?_
      refine g_ld (-2147483648) (2147483647) hS.k346 hS.l346 (by omega) (by omega) (fam_346_37_4_0_3 hm11 (a := u1) (by omega) (by omega) (by omega)) (fun v12 ev12 bv12 cv12 => ?_)
      refine g_Aw (fun v13 bv13 cv13 => ?_)
      refine g_C ?_
      refine u_X12_atMost ?_
      refine g_if (fun w14 => ?_) (fun w14 => ?_)
      · refine g_st hS.k346 hS.l346 (by omega) (by omega) (wfm_346_37_4_0_3 hm11 (a := u1) (by omega) (by omega) (by omega) (by omega) (by omega)) (fun m15 em15 hm15 => ?_)
        have Fm15 : ∀ c p : Int, ¬ (344 ≤ c ∧ c ≤ 345) ∧ ¬ c = 347 ∧ ¬ (c = 336 ∧ (p = 18 ∨ p = 25 ∨ p = 33)) ∧ ¬ (c = 346 ∧ (p = 7 ∨ p = 8 ∨ (10 ≤ p ∧ p < 35 ∧ (p - 10) % 5 ≤ 2) ∨ (35 ≤ p ∧ p < 57) ∨ 117 ≤ p)) → m15 c p = m0 c p := fun c p h => (congrFun (congrFun em15 _) _).trans ((up_ne (by omega)).trans (Fm11 c p h))
        exact hk m15 hm15 Fm15
      · refine g_st hS.k346 hS.l346 (by omega) (by omega) (wfm_346_37_4_0_3 hm11 (a := u1) (by omega) (by omega) (by omega) (by omega) (by omega)) (fun m16 em16 hm16 => ?_)
        have Fm16 : ∀ c p : Int, ¬ (344 ≤ c ∧ c ≤ 345) ∧ ¬ c = 347 ∧ ¬ (c = 336 ∧ (p = 18 ∨ p = 25 ∨ p = 33)) ∧ ¬ (c = 346 ∧ (p = 7 ∨ p = 8 ∨ (10 ≤ p ∧ p < 35 ∧ (p - 10) % 5 ≤ 2) ∨ (35 ≤ p ∧ p < 57) ∨ 117 ≤ p)) → m16 c p = m0 c p := fun c p h => (congrFun (congrFun em16 _) _).trans ((up_ne (by omega)).trans (Fm11 c p h))
        exact hk m16 hm16 Fm16
    · refine g_C ?_
      refine u_X12_turns_79 ?_
      refine ⟨hS.k336, ?_⟩
      refine za_X12_held hS hm0 (by omega) (by omega) (fun v17 bv17 cv17 => ?_)
      refine z_X12_bits hS hm0 (by omega) (by omega) (fun v18 bv18 cv18 => ?_)
      refine ⟨hS.k336, ?_⟩
      refine za_X12_turnsIn hS hm0 (by omega) (by omega) (by omega) (by omega) (by omega) (by omega) (by omega) (by omega) (by omega) (by omega) (by omega) (by omega) (by omega) (by omega) (fun v19 m20 hm20 fm20 bv19 cv19 => ?_)
      have Fm20 : ∀ c p : Int, ¬ (344 ≤ c ∧ c ≤ 345) ∧ ¬ c = 347 ∧ ¬ (c = 336 ∧ (p = 18 ∨ p = 25 ∨ p = 33)) ∧ ¬ (c = 346 ∧ (p = 7 ∨ p = 8 ∨ (10 ≤ p ∧ p < 35 ∧ (p - 10) % 5 ≤ 2) ∨ (35 ≤ p ∧ p < 57) ∨ 117 ≤ p)) → m20 c p = m0 c p := fun c p h => (fm20 c p (by omega)).trans (Fm0 c p h)
      refine u_X12_turns_90 ?_
      refine g_getr 20 346 rfl hS.k336 hm20.f_336_20 (by decide) ?_
      refine g_C ?_
      refine g_A (by omega) (by omega) ?_
      refine g_getr 20 346 rfl hS.k336 hm20.f_336_20 (by decide) ?_
      refine g_C ?_
      refine g_A (by omega) (by omega) ?_
      refine g_ld (-2147483648) (2147483647) hS.k346 hS.l346 (by omega) (by omega) (fam_346_37_4_0_3 hm20 (a := u1) (by omega) (by omega) (by omega)) (fun v21 ev21 bv21 cv21 => ?_)
      refine g_Aw (fun v22 bv22 cv22 => ?_)
      refine g_C ?_
      refine u_X12_atMost ?_
      refine g_if (fun w23 => ?_) (fun w23 => ?_)
      · refine g_st hS.k346 hS.l346 (by omega) (by omega) (wfm_346_37_4_0_3 hm20 (a := u1) (by omega) (by omega) (by omega) (by omega) (by omega)) (fun m24 em24 hm24 => ?_)
        have Fm24 : ∀ c p : Int, ¬ (344 ≤ c ∧ c ≤ 345) ∧ ¬ c = 347 ∧ ¬ (c = 336 ∧ (p = 18 ∨ p = 25 ∨ p = 33)) ∧ ¬ (c = 346 ∧ (p = 7 ∨ p = 8 ∨ (10 ≤ p ∧ p < 35 ∧ (p - 10) % 5 ≤ 2) ∨ (35 ≤ p ∧ p < 57) ∨ 117 ≤ p)) → m24 c p = m0 c p := fun c p h => (congrFun (congrFun em24 _) _).trans ((up_ne (by omega)).trans (Fm20 c p h))
        exact hk m24 hm24 Fm24
      · refine g_st hS.k346 hS.l346 (by omega) (by omega) (wfm_346_37_4_0_3 hm20 (a := u1) (by omega) (by omega) (by omega) (by omega) (by omega)) (fun m25 em25 hm25 => ?_)
        have Fm25 : ∀ c p : Int, ¬ (344 ≤ c ∧ c ≤ 345) ∧ ¬ c = 347 ∧ ¬ (c = 336 ∧ (p = 18 ∨ p = 25 ∨ p = 33)) ∧ ¬ (c = 346 ∧ (p = 7 ∨ p = 8 ∨ (10 ≤ p ∧ p < 35 ∧ (p - 10) % 5 ≤ 2) ∨ (35 ≤ p ∧ p < 57) ∨ 117 ≤ p)) → m25 c p = m0 c p := fun c p h => (congrFun (congrFun em25 _) _).trans ((up_ne (by omega)).trans (Fm20 c p h))
        exact hk m25 hm25 Fm25
  · refine g_getr 20 346 rfl hS.k336 hm0.f_336_20 (by decide) ?_
    refine g_C ?_
    refine g_ld (0) (9) hS.k346 hS.l346 (by omega) (by omega) (hm0.f_346_1) (fun v26 ev26 bv26 cv26 => ?_)
    refine g_getr 20 346 rfl hS.k336 hm0.f_336_20 (by decide) ?_
    refine g_C ?_
    refine g_ld (-2147483648) (2147483647) hS.k346 hS.l346 (by omega) (by omega) (hm0.f_346_7) (fun v27 ev27 bv27 cv27 => ?_)
    refine ⟨hS.k336, ?_⟩
    refine za_X12_heatIn hS hm0 (by omega) (by omega) (fun v28 bv28 cv28 => ?_)
    refine g_Aw (fun v29 bv29 cv29 => ?_)
    refine u_X12_turns_90 ?_
    refine g_getr 20 346 rfl hS.k336 hm0.f_336_20 (by decide) ?_
    refine g_C ?_
    refine g_A (by omega) (by omega) ?_
    refine g_getr 20 346 rfl hS.k336 hm0.f_336_20 (by decide) ?_
    refine g_C ?_
    refine g_A (by omega) (by omega) ?_
    refine g_ld (-2147483648) (2147483647) hS.k346 hS.l346 (by omega) (by omega) (fam_346_37_4_0_3 hm0 (a := u1) (by omega) (by omega) (by omega)) (fun v30 ev30 bv30 cv30 => ?_)
    refine g_Aw (fun v31 bv31 cv31 => ?_)
    refine g_C ?_
    refine u_X12_atMost ?_
    refine g_if (fun w32 => ?_) (fun w32 => ?_)
    · refine g_st hS.k346 hS.l346 (by omega) (by omega) (wfm_346_37_4_0_3 hm0 (a := u1) (by omega) (by omega) (by omega) (by omega) (by omega)) (fun m33 em33 hm33 => ?_)
      have Fm33 : ∀ c p : Int, ¬ (344 ≤ c ∧ c ≤ 345) ∧ ¬ c = 347 ∧ ¬ (c = 336 ∧ (p = 18 ∨ p = 25 ∨ p = 33)) ∧ ¬ (c = 346 ∧ (p = 7 ∨ p = 8 ∨ (10 ≤ p ∧ p < 35 ∧ (p - 10) % 5 ≤ 2) ∨ (35 ≤ p ∧ p < 57) ∨ 117 ≤ p)) → m33 c p = m0 c p := fun c p h => (congrFun (congrFun em33 _) _).trans ((up_ne (by omega)).trans (Fm0 c p h))
      exact hk m33 hm33 Fm33
    · refine g_st hS.k346 hS.l346 (by omega) (by omega) (wfm_346_37_4_0_3 hm0 (a := u1) (by omega) (by omega) (by omega) (by omega) (by omega)) (fun m34 em34 hm34 => ?_)
      have Fm34 : ∀ c p : Int, ¬ (344 ≤ c ∧ c ≤ 345) ∧ ¬ c = 347 ∧ ¬ (c = 336 ∧ (p = 18 ∨ p = 25 ∨ p = 33)) ∧ ¬ (c = 346 ∧ (p = 7 ∨ p = 8 ∨ (10 ≤ p ∧ p < 35 ∧ (p - 10) % 5 ≤ 2) ∨ (35 ≤ p ∧ p < 57) ∨ 117 ≤ p)) → m34 c p = m0 c p := fun c p h => (congrFun (congrFun em34 _) _).trans ((up_ne (by omega)).trans (Fm0 c p h))
      exact hk m34 hm34 Fm34
theorem za_X12_passes {X : Mm} {S : Sh} {m0 : Mm} {K : Int → Mm → Prop} (hS : Shp S) (hm0 : Inv X S m0)  (hk : ∀ (r : Int) (M1 : Mm), Inv X S M1 → (∀ c p : Int, ¬ (344 ≤ c ∧ c ≤ 345) ∧ ¬ c = 347 ∧ ¬ (c = 336 ∧ (p = 18 ∨ p = 25 ∨ p = 33)) ∧ ¬ (c = 346 ∧ (p = 7 ∨ p = 8 ∨ (10 ≤ p ∧ p < 35 ∧ (p - 10) % 5 ≤ 2) ∨ (35 ≤ p ∧ p < 57) ∨ 117 ≤ p)) → M1 c p = m0 c p) → (-2147483648) ≤ r → r ≤ 2147483647 → K r M1) : wp_X12_passes S m0 336 K := by
  have Fm0 : ∀ c p : Int, ¬ (344 ≤ c ∧ c ≤ 345) ∧ ¬ c = 347 ∧ ¬ (c = 336 ∧ (p = 18 ∨ p = 25 ∨ p = 33)) ∧ ¬ (c = 346 ∧ (p = 7 ∨ p = 8 ∨ (10 ≤ p ∧ p < 35 ∧ (p - 10) % 5 ≤ 2) ∨ (35 ≤ p ∧ p < 57) ∨ 117 ≤ p)) → m0 c p = m0 c p := fun c p _ => rfl
  refine u_X12_passes ?_
  refine g_C ?_
  refine g_C ?_
  have L_n_l6838 : ∀ (n_l6838 : Nat) (u2 : Int) (u3 : Int) (m4 : Mm), Inv X S m4 → (∀ c p : Int, ¬ (344 ≤ c ∧ c ≤ 345) ∧ ¬ c = 347 ∧ ¬ (c = 336 ∧ (p = 18 ∨ p = 25 ∨ p = 33)) ∧ ¬ (c = 346 ∧ (p = 7 ∨ p = 8 ∨ (10 ≤ p ∧ p < 35 ∧ (p - 10) % 5 ≤ 2) ∨ (35 ≤ p ∧ p < 57) ∨ 117 ≤ p)) → m4 c p = m0 c p) → (-2147483648) ≤ u2 → u2 ≤ 2147483647 → 0 ≤ u3 → u3 ≤ 4 → 5 - u3 ≤ (n_l6838 : Int) → wp_X12_passes_4 S K n_l6838 336 u2 u3 m4 := by
    intro n_l6838
    induction n_l6838 with
    | zero => intro u2 u3 m4 hm4 Fm4 bu2 cu2 bu3 cu3 zn_l6838; exfalso; omega
    | succ n_l6838 ih_n_l6838 =>
      intro u2 u3 m4 hm4 Fm4 bu2 cu2 bu3 cu3 zn_l6838
      refine u_X12_passes_4 ?_
      refine g_getr 20 346 rfl hS.k336 hm4.f_336_20 (by decide) ?_
      refine g_C ?_
      refine g_ld (0) (4) hS.k346 hS.l346 (by omega) (by omega) (hm4.f_346_5) (fun v6839 ev6839 bv6839 cv6839 => ?_)
      refine g_if (fun w6840 => ?_) (fun w6840 => ?_)
      · refine g_C ?_
        have L_n_l7127 : ∀ (n_l7127 : Nat) (u6843 : Int) (m6844 : Mm), Inv X S m6844 → (∀ c p : Int, ¬ (344 ≤ c ∧ c ≤ 345) ∧ ¬ c = 347 ∧ ¬ (c = 336 ∧ (p = 18 ∨ p = 25 ∨ p = 33)) ∧ ¬ (c = 346 ∧ (p = 7 ∨ p = 8 ∨ (10 ≤ p ∧ p < 35 ∧ (p - 10) % 5 ≤ 2) ∨ (35 ≤ p ∧ p < 57) ∨ 117 ≤ p)) → m6844 c p = m0 c p) → 0 ≤ u6843 → u6843 ≤ 5 → 6 - u6843 ≤ (n_l7127 : Int) → wp_X12_passes_80 S K n_l7127 336 u2 u6843 m6844 := by
          intro n_l7127
          induction n_l7127 with
          | zero => intro u6843 m6844 hm6844 Fm6844 bu6843 cu6843 zn_l7127; exfalso; omega
          | succ n_l7127 ih_n_l7127 =>
            intro u6843 m6844 hm6844 Fm6844 bu6843 cu6843 zn_l7127
            refine u_X12_passes_80 ?_
            refine g_getr 20 346 rfl hS.k336 hm6844.f_336_20 (by decide) ?_
            refine g_C ?_
            refine g_ld (0) (5) hS.k346 hS.l346 (by omega) (by omega) (hm6844.f_346_4) (fun v7128 ev7128 bv7128 cv7128 => ?_)
            refine g_if (fun w7129 => ?_) (fun w7129 => ?_)
            · refine g_getr 20 346 rfl hS.k336 hm6844.f_336_20 (by decide) ?_
              refine g_C ?_
              refine g_ld (-2147483648) (2147483647) hS.k346 hS.l346 (by omega) (by omega) (hm6844.f_346_7) (fun v7130 ev7130 bv7130 cv7130 => ?_)
              refine g_C ?_
              refine g_Aw (fun v7131 bv7131 cv7131 => ?_)
              refine g_st hS.k346 hS.l346 (by omega) (by omega) (hm6844.w_346_7 (by omega) (by omega)) (fun m7132 em7132 hm7132 => ?_)
              have Fm7132 : ∀ c p : Int, ¬ (344 ≤ c ∧ c ≤ 345) ∧ ¬ c = 347 ∧ ¬ (c = 336 ∧ (p = 18 ∨ p = 25 ∨ p = 33)) ∧ ¬ (c = 346 ∧ (p = 7 ∨ p = 8 ∨ (10 ≤ p ∧ p < 35 ∧ (p - 10) % 5 ≤ 2) ∨ (35 ≤ p ∧ p < 57) ∨ 117 ≤ p)) → m7132 c p = m0 c p := fun c p h => (congrFun (congrFun em7132 _) _).trans ((up_ne (by omega)).trans (Fm6844 c p h))
              exact hk u2 m7132 hm7132 Fm7132 (by omega) (by omega)
            · refine g_C ?_
              refine g_C ?_
              refine g_M (by omega) (by omega) ?_
              refine g_A (by omega) (by omega) ?_
              refine g_getr 20 346 rfl hS.k336 hm6844.f_336_20 (by decide) ?_
              refine g_C ?_
              refine g_A (by omega) (by omega) ?_
              refine g_ld (0) (99) hS.k346 hS.l346 (by omega) (by omega) (fam_346_12_5_0_4 hm6844 (a := u6843) (by omega) (by omega) (by omega)) (fun v7133 ev7133 bv7133 cv7133 => ?_)
              refine g_if (fun w7134 => ?_) (fun w7134 => ?_)
              · refine g_getr 20 346 rfl hS.k336 hm6844.f_336_20 (by decide) ?_
                refine g_C ?_
                refine g_A (by omega) (by omega) ?_
                refine g_ld (0) (99) hS.k346 hS.l346 (by omega) (by omega) (fam_346_12_5_0_4 hm6844 (a := u6843) (by omega) (by omega) (by omega)) (fun v7135 ev7135 bv7135 cv7135 => ?_)
                have qv7135 : v7135 = v7133 := ev7135.trans ev7133.symm
                refine g_C ?_
                refine g_S (by omega) (by omega) ?_
                refine u_X12_passes_122 ?_
                refine g_getr 20 346 rfl hS.k336 hm6844.f_336_20 (by decide) ?_
                refine g_C ?_
                refine g_A (by omega) (by omega) ?_
                refine ⟨hS.k336, ?_⟩
                refine za_X12_held hS hm6844 (by omega) (by omega) (fun v7136 bv7136 cv7136 => ?_)
                refine g_if (fun w7137 => ?_) (fun w7137 => ?_)
                · refine u_X12_passes_157 ?_
                  refine g_st hS.k346 hS.l346 (by omega) (by omega) (wfm_346_12_5_0_4 hm6844 (a := u6843) (by omega) (by omega) (by omega) (by omega) (by omega)) (fun m7138 em7138 hm7138 => ?_)
                  have Fm7138 : ∀ c p : Int, ¬ (344 ≤ c ∧ c ≤ 345) ∧ ¬ c = 347 ∧ ¬ (c = 336 ∧ (p = 18 ∨ p = 25 ∨ p = 33)) ∧ ¬ (c = 346 ∧ (p = 7 ∨ p = 8 ∨ (10 ≤ p ∧ p < 35 ∧ (p - 10) % 5 ≤ 2) ∨ (35 ≤ p ∧ p < 57) ∨ 117 ≤ p)) → m7138 c p = m0 c p := fun c p h => (congrFun (congrFun em7138 _) _).trans ((up_ne (by omega)).trans (Fm6844 c p h))
                  refine g_getr 20 346 rfl hS.k336 hm7138.f_336_20 (by decide) ?_
                  refine g_C ?_
                  refine g_A (by omega) (by omega) ?_
                  refine g_ld (0) (5) hS.k346 hS.l346 (by omega) (by omega) (fam_346_11_5_0_4 hm7138 (a := u6843) (by omega) (by omega) (by omega)) (fun v7139 ev7139 bv7139 cv7139 => ?_)
                  refine g_getr 20 346 rfl hS.k336 hm7138.f_336_20 (by decide) ?_
                  refine g_C ?_
                  refine g_A (by omega) (by omega) ?_
                  refine g_ld (0) (5) hS.k346 hS.l346 (by omega) (by omega) (fam_346_11_5_0_4 hm7138 (a := u6843) (by omega) (by omega) (by omega)) (fun v7140 ev7140 bv7140 cv7140 => ?_)
                  have qv7140 : v7140 = v7139 := ev7140.trans ev7139.symm
                  refine g_if (fun w7141 => ?_) (fun w7141 => ?_)
                  · refine g_C ?_
                    refine u_X12_passes_183 ?_
                    refine g_S (by omega) (by omega) ?_
                    refine g_st hS.k346 hS.l346 (by omega) (by omega) (wfm_346_11_5_0_4 hm7138 (a := u6843) (by omega) (by omega) (by omega) (by omega) (by omega)) (fun m7142 em7142 hm7142 => ?_)
                    have Fm7142 : ∀ c p : Int, ¬ (344 ≤ c ∧ c ≤ 345) ∧ ¬ c = 347 ∧ ¬ (c = 336 ∧ (p = 18 ∨ p = 25 ∨ p = 33)) ∧ ¬ (c = 346 ∧ (p = 7 ∨ p = 8 ∨ (10 ≤ p ∧ p < 35 ∧ (p - 10) % 5 ≤ 2) ∨ (35 ≤ p ∧ p < 57) ∨ 117 ≤ p)) → m7142 c p = m0 c p := fun c p h => (congrFun (congrFun em7142 _) _).trans ((up_ne (by omega)).trans (Fm7138 c p h))
                    refine g_A (by omega) (by omega) ?_
                    exact ih_n_l7127 (u6843 + 1) m7142 hm7142 Fm7142 (by omega) (by omega) (by omega)
                  · refine g_C ?_
                    refine u_X12_passes_183 ?_
                    refine g_S (by omega) (by omega) ?_
                    refine g_st hS.k346 hS.l346 (by omega) (by omega) (wfm_346_11_5_0_4 hm7138 (a := u6843) (by omega) (by omega) (by omega) (by omega) (by omega)) (fun m7143 em7143 hm7143 => ?_)
                    have Fm7143 : ∀ c p : Int, ¬ (344 ≤ c ∧ c ≤ 345) ∧ ¬ c = 347 ∧ ¬ (c = 336 ∧ (p = 18 ∨ p = 25 ∨ p = 33)) ∧ ¬ (c = 346 ∧ (p = 7 ∨ p = 8 ∨ (10 ≤ p ∧ p < 35 ∧ (p - 10) % 5 ≤ 2) ∨ (35 ≤ p ∧ p < 57) ∨ 117 ≤ p)) → m7143 c p = m0 c p := fun c p h => (congrFun (congrFun em7143 _) _).trans ((up_ne (by omega)).trans (Fm7138 c p h))
                    refine g_A (by omega) (by omega) ?_
                    exact ih_n_l7127 (u6843 + 1) m7143 hm7143 Fm7143 (by omega) (by omega) (by omega)
                · refine g_getr 20 346 rfl hS.k336 hm6844.f_336_20 (by decide) ?_
                  refine g_C ?_
                  refine g_A (by omega) (by omega) ?_
                  refine g_ld (0) (99) hS.k346 hS.l346 (by omega) (by omega) (fam_346_12_5_0_4 hm6844 (a := u6843) (by omega) (by omega) (by omega)) (fun v7144 ev7144 bv7144 cv7144 => ?_)
                  have qv7144 : v7144 = v7133 := ev7144.trans ev7133.symm
                  refine ⟨hS.k336, ?_⟩
                  refine u_X12_moreTired ?_
                  refine g_C ?_
                  refine ⟨hS.k336, ?_⟩
                  refine u_X12_handOf ?_
                  refine g_getr 20 346 rfl hS.k336 hm6844.f_336_20 (by decide) ?_
                  refine g_C ?_
                  refine g_C ?_
                  refine g_M (by omega) (by omega) ?_
                  refine g_A (by omega) (by omega) ?_
                  refine g_A (by omega) (by omega) ?_
                  refine g_ld (0) (5) hS.k346 hS.l346 (by omega) (by omega) (fam_346_14_5_0_4 hm6844 (a := u6843) (by omega) (by omega) (by omega)) (fun v7145 ev7145 bv7145 cv7145 => ?_)
                  refine g_A (by omega) (by omega) ?_
                  refine g_C ?_
                  refine u_X12_atMost ?_
                  refine g_if (fun w7146 => ?_) (fun w7146 => ?_)
                  · refine u_X12_passes_157 ?_
                    refine g_st hS.k346 hS.l346 (by omega) (by omega) (wfm_346_12_5_0_4 hm6844 (a := u6843) (by omega) (by omega) (by omega) (by omega) (by omega)) (fun m7147 em7147 hm7147 => ?_)
                    have Fm7147 : ∀ c p : Int, ¬ (344 ≤ c ∧ c ≤ 345) ∧ ¬ c = 347 ∧ ¬ (c = 336 ∧ (p = 18 ∨ p = 25 ∨ p = 33)) ∧ ¬ (c = 346 ∧ (p = 7 ∨ p = 8 ∨ (10 ≤ p ∧ p < 35 ∧ (p - 10) % 5 ≤ 2) ∨ (35 ≤ p ∧ p < 57) ∨ 117 ≤ p)) → m7147 c p = m0 c p := fun c p h => (congrFun (congrFun em7147 _) _).trans ((up_ne (by omega)).trans (Fm6844 c p h))
                    refine g_getr 20 346 rfl hS.k336 hm7147.f_336_20 (by decide) ?_
                    refine g_C ?_
                    refine g_A (by omega) (by omega) ?_
                    refine g_ld (0) (5) hS.k346 hS.l346 (by omega) (by omega) (fam_346_11_5_0_4 hm7147 (a := u6843) (by omega) (by omega) (by omega)) (fun v7148 ev7148 bv7148 cv7148 => ?_)
                    refine g_getr 20 346 rfl hS.k336 hm7147.f_336_20 (by decide) ?_
                    refine g_C ?_
                    refine g_A (by omega) (by omega) ?_
                    refine g_ld (0) (5) hS.k346 hS.l346 (by omega) (by omega) (fam_346_11_5_0_4 hm7147 (a := u6843) (by omega) (by omega) (by omega)) (fun v7149 ev7149 bv7149 cv7149 => ?_)
                    have qv7149 : v7149 = v7148 := ev7149.trans ev7148.symm
                    refine g_if (fun w7150 => ?_) (fun w7150 => ?_)
                    · refine g_C ?_
                      refine u_X12_passes_183 ?_
                      refine g_S (by omega) (by omega) ?_
                      refine g_st hS.k346 hS.l346 (by omega) (by omega) (wfm_346_11_5_0_4 hm7147 (a := u6843) (by omega) (by omega) (by omega) (by omega) (by omega)) (fun m7151 em7151 hm7151 => ?_)
                      have Fm7151 : ∀ c p : Int, ¬ (344 ≤ c ∧ c ≤ 345) ∧ ¬ c = 347 ∧ ¬ (c = 336 ∧ (p = 18 ∨ p = 25 ∨ p = 33)) ∧ ¬ (c = 346 ∧ (p = 7 ∨ p = 8 ∨ (10 ≤ p ∧ p < 35 ∧ (p - 10) % 5 ≤ 2) ∨ (35 ≤ p ∧ p < 57) ∨ 117 ≤ p)) → m7151 c p = m0 c p := fun c p h => (congrFun (congrFun em7151 _) _).trans ((up_ne (by omega)).trans (Fm7147 c p h))
                      refine g_A (by omega) (by omega) ?_
                      exact ih_n_l7127 (u6843 + 1) m7151 hm7151 Fm7151 (by omega) (by omega) (by omega)
                    · refine g_C ?_
                      refine u_X12_passes_183 ?_
                      refine g_S (by omega) (by omega) ?_
                      refine g_st hS.k346 hS.l346 (by omega) (by omega) (wfm_346_11_5_0_4 hm7147 (a := u6843) (by omega) (by omega) (by omega) (by omega) (by omega)) (fun m7152 em7152 hm7152 => ?_)
                      have Fm7152 : ∀ c p : Int, ¬ (344 ≤ c ∧ c ≤ 345) ∧ ¬ c = 347 ∧ ¬ (c = 336 ∧ (p = 18 ∨ p = 25 ∨ p = 33)) ∧ ¬ (c = 346 ∧ (p = 7 ∨ p = 8 ∨ (10 ≤ p ∧ p < 35 ∧ (p - 10) % 5 ≤ 2) ∨ (35 ≤ p ∧ p < 57) ∨ 117 ≤ p)) → m7152 c p = m0 c p := fun c p h => (congrFun (congrFun em7152 _) _).trans ((up_ne (by omega)).trans (Fm7147 c p h))
                      refine g_A (by omega) (by omega) ?_
                      exact ih_n_l7127 (u6843 + 1) m7152 hm7152 Fm7152 (by omega) (by omega) (by omega)
                  · refine u_X12_passes_157 ?_
                    refine g_st hS.k346 hS.l346 (by omega) (by omega) (wfm_346_12_5_0_4 hm6844 (a := u6843) (by omega) (by omega) (by omega) (by omega) (by omega)) (fun m7153 em7153 hm7153 => ?_)
                    have Fm7153 : ∀ c p : Int, ¬ (344 ≤ c ∧ c ≤ 345) ∧ ¬ c = 347 ∧ ¬ (c = 336 ∧ (p = 18 ∨ p = 25 ∨ p = 33)) ∧ ¬ (c = 346 ∧ (p = 7 ∨ p = 8 ∨ (10 ≤ p ∧ p < 35 ∧ (p - 10) % 5 ≤ 2) ∨ (35 ≤ p ∧ p < 57) ∨ 117 ≤ p)) → m7153 c p = m0 c p := fun c p h => (congrFun (congrFun em7153 _) _).trans ((up_ne (by omega)).trans (Fm6844 c p h))
                    refine g_getr 20 346 rfl hS.k336 hm7153.f_336_20 (by decide) ?_
                    refine g_C ?_
                    refine g_A (by omega) (by omega) ?_
                    refine g_ld (0) (5) hS.k346 hS.l346 (by omega) (by omega) (fam_346_11_5_0_4 hm7153 (a := u6843) (by omega) (by omega) (by omega)) (fun v7154 ev7154 bv7154 cv7154 => ?_)
                    refine g_getr 20 346 rfl hS.k336 hm7153.f_336_20 (by decide) ?_
                    refine g_C ?_
                    refine g_A (by omega) (by omega) ?_
                    refine g_ld (0) (5) hS.k346 hS.l346 (by omega) (by omega) (fam_346_11_5_0_4 hm7153 (a := u6843) (by omega) (by omega) (by omega)) (fun v7155 ev7155 bv7155 cv7155 => ?_)
                    have qv7155 : v7155 = v7154 := ev7155.trans ev7154.symm
                    refine g_if (fun w7156 => ?_) (fun w7156 => ?_)
                    · refine g_C ?_
                      refine u_X12_passes_183 ?_
                      refine g_S (by omega) (by omega) ?_
                      refine g_st hS.k346 hS.l346 (by omega) (by omega) (wfm_346_11_5_0_4 hm7153 (a := u6843) (by omega) (by omega) (by omega) (by omega) (by omega)) (fun m7157 em7157 hm7157 => ?_)
                      have Fm7157 : ∀ c p : Int, ¬ (344 ≤ c ∧ c ≤ 345) ∧ ¬ c = 347 ∧ ¬ (c = 336 ∧ (p = 18 ∨ p = 25 ∨ p = 33)) ∧ ¬ (c = 346 ∧ (p = 7 ∨ p = 8 ∨ (10 ≤ p ∧ p < 35 ∧ (p - 10) % 5 ≤ 2) ∨ (35 ≤ p ∧ p < 57) ∨ 117 ≤ p)) → m7157 c p = m0 c p := fun c p h => (congrFun (congrFun em7157 _) _).trans ((up_ne (by omega)).trans (Fm7153 c p h))
                      refine g_A (by omega) (by omega) ?_
                      exact ih_n_l7127 (u6843 + 1) m7157 hm7157 Fm7157 (by omega) (by omega) (by omega)
                    · refine g_C ?_
                      refine u_X12_passes_183 ?_
                      refine g_S (by omega) (by omega) ?_
                      refine g_st hS.k346 hS.l346 (by omega) (by omega) (wfm_346_11_5_0_4 hm7153 (a := u6843) (by omega) (by omega) (by omega) (by omega) (by omega)) (fun m7158 em7158 hm7158 => ?_)
                      have Fm7158 : ∀ c p : Int, ¬ (344 ≤ c ∧ c ≤ 345) ∧ ¬ c = 347 ∧ ¬ (c = 336 ∧ (p = 18 ∨ p = 25 ∨ p = 33)) ∧ ¬ (c = 346 ∧ (p = 7 ∨ p = 8 ∨ (10 ≤ p ∧ p < 35 ∧ (p - 10) % 5 ≤ 2) ∨ (35 ≤ p ∧ p < 57) ∨ 117 ≤ p)) → m7158 c p = m0 c p := fun c p h => (congrFun (congrFun em7158 _) _).trans ((up_ne (by omega)).trans (Fm7153 c p h))
                      refine g_A (by omega) (by omega) ?_
                      exact ih_n_l7127 (u6843 + 1) m7158 hm7158 Fm7158 (by omega) (by omega) (by omega)
              · refine g_C ?_
                refine u_X12_passes_122 ?_
                refine g_getr 20 346 rfl hS.k336 hm6844.f_336_20 (by decide) ?_
                refine g_C ?_
                refine g_A (by omega) (by omega) ?_
                refine ⟨hS.k336, ?_⟩
                refine za_X12_held hS hm6844 (by omega) (by omega) (fun v7159 bv7159 cv7159 => ?_)
                refine g_if (fun w7160 => ?_) (fun w7160 => ?_)
                · refine u_X12_passes_157 ?_
                  refine g_st hS.k346 hS.l346 (by omega) (by omega) (wfm_346_12_5_0_4 hm6844 (a := u6843) (by omega) (by omega) (by omega) (by omega) (by omega)) (fun m7161 em7161 hm7161 => ?_)
                  have Fm7161 : ∀ c p : Int, ¬ (344 ≤ c ∧ c ≤ 345) ∧ ¬ c = 347 ∧ ¬ (c = 336 ∧ (p = 18 ∨ p = 25 ∨ p = 33)) ∧ ¬ (c = 346 ∧ (p = 7 ∨ p = 8 ∨ (10 ≤ p ∧ p < 35 ∧ (p - 10) % 5 ≤ 2) ∨ (35 ≤ p ∧ p < 57) ∨ 117 ≤ p)) → m7161 c p = m0 c p := fun c p h => (congrFun (congrFun em7161 _) _).trans ((up_ne (by omega)).trans (Fm6844 c p h))
                  refine g_getr 20 346 rfl hS.k336 hm7161.f_336_20 (by decide) ?_
                  refine g_C ?_
                  refine g_A (by omega) (by omega) ?_
                  refine g_ld (0) (5) hS.k346 hS.l346 (by omega) (by omega) (fam_346_11_5_0_4 hm7161 (a := u6843) (by omega) (by omega) (by omega)) (fun v7162 ev7162 bv7162 cv7162 => ?_)
                  refine g_getr 20 346 rfl hS.k336 hm7161.f_336_20 (by decide) ?_
                  refine g_C ?_
                  refine g_A (by omega) (by omega) ?_
                  refine g_ld (0) (5) hS.k346 hS.l346 (by omega) (by omega) (fam_346_11_5_0_4 hm7161 (a := u6843) (by omega) (by omega) (by omega)) (fun v7163 ev7163 bv7163 cv7163 => ?_)
                  have qv7163 : v7163 = v7162 := ev7163.trans ev7162.symm
                  refine g_if (fun w7164 => ?_) (fun w7164 => ?_)
                  · refine g_C ?_
                    refine u_X12_passes_183 ?_
                    refine g_S (by omega) (by omega) ?_
                    refine g_st hS.k346 hS.l346 (by omega) (by omega) (wfm_346_11_5_0_4 hm7161 (a := u6843) (by omega) (by omega) (by omega) (by omega) (by omega)) (fun m7165 em7165 hm7165 => ?_)
                    have Fm7165 : ∀ c p : Int, ¬ (344 ≤ c ∧ c ≤ 345) ∧ ¬ c = 347 ∧ ¬ (c = 336 ∧ (p = 18 ∨ p = 25 ∨ p = 33)) ∧ ¬ (c = 346 ∧ (p = 7 ∨ p = 8 ∨ (10 ≤ p ∧ p < 35 ∧ (p - 10) % 5 ≤ 2) ∨ (35 ≤ p ∧ p < 57) ∨ 117 ≤ p)) → m7165 c p = m0 c p := fun c p h => (congrFun (congrFun em7165 _) _).trans ((up_ne (by omega)).trans (Fm7161 c p h))
                    refine g_A (by omega) (by omega) ?_
                    exact ih_n_l7127 (u6843 + 1) m7165 hm7165 Fm7165 (by omega) (by omega) (by omega)
                  · refine g_C ?_
                    refine u_X12_passes_183 ?_
                    refine g_S (by omega) (by omega) ?_
                    refine g_st hS.k346 hS.l346 (by omega) (by omega) (wfm_346_11_5_0_4 hm7161 (a := u6843) (by omega) (by omega) (by omega) (by omega) (by omega)) (fun m7166 em7166 hm7166 => ?_)
                    have Fm7166 : ∀ c p : Int, ¬ (344 ≤ c ∧ c ≤ 345) ∧ ¬ c = 347 ∧ ¬ (c = 336 ∧ (p = 18 ∨ p = 25 ∨ p = 33)) ∧ ¬ (c = 346 ∧ (p = 7 ∨ p = 8 ∨ (10 ≤ p ∧ p < 35 ∧ (p - 10) % 5 ≤ 2) ∨ (35 ≤ p ∧ p < 57) ∨ 117 ≤ p)) → m7166 c p = m0 c p := fun c p h => (congrFun (congrFun em7166 _) _).trans ((up_ne (by omega)).trans (Fm7161 c p h))
                    refine g_A (by omega) (by omega) ?_
                    exact ih_n_l7127 (u6843 + 1) m7166 hm7166 Fm7166 (by omega) (by omega) (by omega)
                · refine g_getr 20 346 rfl hS.k336 hm6844.f_336_20 (by decide) ?_
                  refine g_C ?_
                  refine g_A (by omega) (by omega) ?_
                  refine g_ld (0) (99) hS.k346 hS.l346 (by omega) (by omega) (fam_346_12_5_0_4 hm6844 (a := u6843) (by omega) (by omega) (by omega)) (fun v7167 ev7167 bv7167 cv7167 => ?_)
                  have qv7167 : v7167 = v7133 := ev7167.trans ev7133.symm
                  refine ⟨hS.k336, ?_⟩
                  refine u_X12_moreTired ?_
                  refine g_C ?_
                  refine ⟨hS.k336, ?_⟩
                  refine u_X12_handOf ?_
                  refine g_getr 20 346 rfl hS.k336 hm6844.f_336_20 (by decide) ?_
                  refine g_C ?_
                  refine g_C ?_
                  refine g_M (by omega) (by omega) ?_
                  refine g_A (by omega) (by omega) ?_
                  refine g_A (by omega) (by omega) ?_
                  refine g_ld (0) (5) hS.k346 hS.l346 (by omega) (by omega) (fam_346_14_5_0_4 hm6844 (a := u6843) (by omega) (by omega) (by omega)) (fun v7168 ev7168 bv7168 cv7168 => ?_)
                  refine g_A (by omega) (by omega) ?_
                  refine g_C ?_
                  refine u_X12_atMost ?_
                  refine g_ifT (by omega) ?_
                  refine u_X12_passes_157 ?_
                  refine g_st hS.k346 hS.l346 (by omega) (by omega) (wfm_346_12_5_0_4 hm6844 (a := u6843) (by omega) (by omega) (by omega) (by omega) (by omega)) (fun m7169 em7169 hm7169 => ?_)
                  have Fm7169 : ∀ c p : Int, ¬ (344 ≤ c ∧ c ≤ 345) ∧ ¬ c = 347 ∧ ¬ (c = 336 ∧ (p = 18 ∨ p = 25 ∨ p = 33)) ∧ ¬ (c = 346 ∧ (p = 7 ∨ p = 8 ∨ (10 ≤ p ∧ p < 35 ∧ (p - 10) % 5 ≤ 2) ∨ (35 ≤ p ∧ p < 57) ∨ 117 ≤ p)) → m7169 c p = m0 c p := fun c p h => (congrFun (congrFun em7169 _) _).trans ((up_ne (by omega)).trans (Fm6844 c p h))
                  refine g_getr 20 346 rfl hS.k336 hm7169.f_336_20 (by decide) ?_
                  refine g_C ?_
                  refine g_A (by omega) (by omega) ?_
                  refine g_ld (0) (5) hS.k346 hS.l346 (by omega) (by omega) (fam_346_11_5_0_4 hm7169 (a := u6843) (by omega) (by omega) (by omega)) (fun v7170 ev7170 bv7170 cv7170 => ?_)
                  refine g_getr 20 346 rfl hS.k336 hm7169.f_336_20 (by decide) ?_
                  refine g_C ?_
                  refine g_A (by omega) (by omega) ?_
                  refine g_ld (0) (5) hS.k346 hS.l346 (by omega) (by omega) (fam_346_11_5_0_4 hm7169 (a := u6843) (by omega) (by omega) (by omega)) (fun v7171 ev7171 bv7171 cv7171 => ?_)
                  have qv7171 : v7171 = v7170 := ev7171.trans ev7170.symm
                  refine g_if (fun w7172 => ?_) (fun w7172 => ?_)
                  · refine g_C ?_
                    refine u_X12_passes_183 ?_
                    refine g_S (by omega) (by omega) ?_
                    refine g_st hS.k346 hS.l346 (by omega) (by omega) (wfm_346_11_5_0_4 hm7169 (a := u6843) (by omega) (by omega) (by omega) (by omega) (by omega)) (fun m7173 em7173 hm7173 => ?_)
                    have Fm7173 : ∀ c p : Int, ¬ (344 ≤ c ∧ c ≤ 345) ∧ ¬ c = 347 ∧ ¬ (c = 336 ∧ (p = 18 ∨ p = 25 ∨ p = 33)) ∧ ¬ (c = 346 ∧ (p = 7 ∨ p = 8 ∨ (10 ≤ p ∧ p < 35 ∧ (p - 10) % 5 ≤ 2) ∨ (35 ≤ p ∧ p < 57) ∨ 117 ≤ p)) → m7173 c p = m0 c p := fun c p h => (congrFun (congrFun em7173 _) _).trans ((up_ne (by omega)).trans (Fm7169 c p h))
                    refine g_A (by omega) (by omega) ?_
                    exact ih_n_l7127 (u6843 + 1) m7173 hm7173 Fm7173 (by omega) (by omega) (by omega)
                  · refine g_C ?_
                    refine u_X12_passes_183 ?_
                    refine g_S (by omega) (by omega) ?_
                    refine g_st hS.k346 hS.l346 (by omega) (by omega) (wfm_346_11_5_0_4 hm7169 (a := u6843) (by omega) (by omega) (by omega) (by omega) (by omega)) (fun m7174 em7174 hm7174 => ?_)
                    have Fm7174 : ∀ c p : Int, ¬ (344 ≤ c ∧ c ≤ 345) ∧ ¬ c = 347 ∧ ¬ (c = 336 ∧ (p = 18 ∨ p = 25 ∨ p = 33)) ∧ ¬ (c = 346 ∧ (p = 7 ∨ p = 8 ∨ (10 ≤ p ∧ p < 35 ∧ (p - 10) % 5 ≤ 2) ∨ (35 ≤ p ∧ p < 57) ∨ 117 ≤ p)) → m7174 c p = m0 c p := fun c p h => (congrFun (congrFun em7174 _) _).trans ((up_ne (by omega)).trans (Fm7169 c p h))
                    refine g_A (by omega) (by omega) ?_
                    exact ih_n_l7127 (u6843 + 1) m7174 hm7174 Fm7174 (by omega) (by omega) (by omega)
        exact ⟨6, L_n_l7127 6 0 m4 hm4 Fm4 (by omega) (by omega) (by omega)⟩
      · refine g_C ?_
        refine ⟨hS.k336, ?_⟩
        refine u_X12_jugOf ?_
        refine g_getr 20 346 rfl hS.k336 hm4.f_336_20 (by decide) ?_
        refine g_C ?_
        refine g_C ?_
        refine g_M (by omega) (by omega) ?_
        refine g_A (by omega) (by omega) ?_
        refine g_A (by omega) (by omega) ?_
        refine g_ld (0) (1) hS.k346 hS.l346 (by omega) (by omega) (fam_346_38_4_0_3 hm4 (a := u3) (by omega) (by omega) (by omega)) (fun v7175 ev7175 bv7175 cv7175 => ?_)
        refine g_C ?_
        refine g_if (fun w7176 => ?_) (fun w7176 => ?_)
        · refine g_C ?_
          refine ⟨hS.k336, ?_⟩
          refine u_X12_jugOf ?_
          refine g_getr 20 346 rfl hS.k336 hm4.f_336_20 (by decide) ?_
          refine g_C ?_
          refine g_C ?_
          refine g_M (by omega) (by omega) ?_
          refine g_A (by omega) (by omega) ?_
          refine g_A (by omega) (by omega) ?_
          refine g_ld (-2147483648) (2147483647) hS.k346 hS.l346 (by omega) (by omega) (fam_346_37_4_0_3 hm4 (a := u3) (by omega) (by omega) (by omega)) (fun v7177 ev7177 bv7177 cv7177 => ?_)
          refine ⟨hS.k336, ?_⟩
          refine za_X12_turns hS hm4 (by omega) (by omega) (fun m7178 hm7178 fm7178 => ?_)
          have Fm7178 : ∀ c p : Int, ¬ (344 ≤ c ∧ c ≤ 345) ∧ ¬ c = 347 ∧ ¬ (c = 336 ∧ (p = 18 ∨ p = 25 ∨ p = 33)) ∧ ¬ (c = 346 ∧ (p = 7 ∨ p = 8 ∨ (10 ≤ p ∧ p < 35 ∧ (p - 10) % 5 ≤ 2) ∨ (35 ≤ p ∧ p < 57) ∨ 117 ≤ p)) → m7178 c p = m0 c p := fun c p h => (fm7178 c p (by omega)).trans (Fm4 c p h)
          refine g_getr 20 346 rfl hS.k336 hm7178.f_336_20 (by decide) ?_
          refine g_C ?_
          refine g_ld (0) (99) hS.k346 hS.l346 (by omega) (by omega) (hm7178.f_346_2) (fun v7179 ev7179 bv7179 cv7179 => ?_)
          refine g_if (fun w7180 => ?_) (fun w7180 => ?_)
          · refine u_X12_passes_69 ?_
            refine g_C ?_
            refine u_X12_passes_70 ?_
            refine g_A (by omega) (by omega) ?_
            refine u_X12_passes_72 ?_
            refine g_A (by omega) (by omega) ?_
            exact ih_n_l6838 (u2 + 0) (u3 + 1) m7178 hm7178 Fm7178 (by omega) (by omega) (by omega) (by omega) (by omega)
          · refine g_C ?_
            refine ⟨hS.k336, ?_⟩
            refine u_X12_jugOf ?_
            refine g_getr 20 346 rfl hS.k336 hm7178.f_336_20 (by decide) ?_
            refine g_C ?_
            refine g_C ?_
            refine g_M (by omega) (by omega) ?_
            refine g_A (by omega) (by omega) ?_
            refine g_A (by omega) (by omega) ?_
            refine g_ld (-2147483648) (2147483647) hS.k346 hS.l346 (by omega) (by omega) (fam_346_37_4_0_3 hm7178 (a := u3) (by omega) (by omega) (by omega)) (fun v7181 ev7181 bv7181 cv7181 => ?_)
            refine g_getr 20 346 rfl hS.k336 hm7178.f_336_20 (by decide) ?_
            refine g_C ?_
            refine g_ld (0) (99) hS.k346 hS.l346 (by omega) (by omega) (hm7178.f_346_2) (fun v7182 ev7182 bv7182 cv7182 => ?_)
            have qv7182 : v7182 = v7179 := (ev7182.trans (hm7178.g (by decide))).trans ((ev7179.trans (hm7178.g (by decide))).symm)
            refine g_if (fun w7183 => ?_) (fun w7183 => ?_)
            · refine u_X12_passes_69 ?_
              refine g_C ?_
              refine u_X12_passes_70 ?_
              refine g_A (by omega) (by omega) ?_
              refine u_X12_passes_72 ?_
              refine g_A (by omega) (by omega) ?_
              exact ih_n_l6838 (u2 + 0) (u3 + 1) m7178 hm7178 Fm7178 (by omega) (by omega) (by omega) (by omega) (by omega)
            · refine g_C ?_
              refine u_X12_passes_70 ?_
              refine g_Aw (fun v7184 bv7184 cv7184 => ?_)
              refine u_X12_passes_72 ?_
              refine g_A (by omega) (by omega) ?_
              exact ih_n_l6838 v7184 (u3 + 1) m7178 hm7178 Fm7178 (by omega) (by omega) (by omega) (by omega) (by omega)
        · refine u_X12_passes_72 ?_
          refine g_A (by omega) (by omega) ?_
          exact ih_n_l6838 u2 (u3 + 1) m4 hm4 Fm4 (by omega) (by omega) (by omega) (by omega) (by omega)
  exact ⟨5, L_n_l6838 5 0 0 m0 hm0 Fm0 (by omega) (by omega) (by omega) (by omega) (by omega)⟩
theorem za_X12_meet {X : Mm} {S : Sh} {m0 : Mm} {K : Int → Mm → Prop} {u1 : Int} (hS : Shp S) (hm0 : Inv X S m0) (l_u1 : (-2147483648) ≤ u1) (h_u1 : u1 ≤ 2147483647) (hk : ∀ (r : Int) (M1 : Mm), Inv X S M1 → (∀ c p : Int, ¬ (344 ≤ c ∧ c ≤ 345) ∧ ¬ c = 347 ∧ ¬ (c = 336 ∧ (p = 18 ∨ p = 25 ∨ p = 33)) ∧ ¬ (c = 346 ∧ (p = 7 ∨ p = 8 ∨ (10 ≤ p ∧ p < 35 ∧ (p - 10) % 5 ≤ 2) ∨ (35 ≤ p ∧ p < 57) ∨ 117 ≤ p)) → M1 c p = m0 c p) → (-1) ≤ r → r ≤ 3 → K r M1) : wp_X12_meet S m0 336 u1 K := by
  have Fm0 : ∀ c p : Int, ¬ (344 ≤ c ∧ c ≤ 345) ∧ ¬ c = 347 ∧ ¬ (c = 336 ∧ (p = 18 ∨ p = 25 ∨ p = 33)) ∧ ¬ (c = 346 ∧ (p = 7 ∨ p = 8 ∨ (10 ≤ p ∧ p < 35 ∧ (p - 10) % 5 ≤ 2) ∨ (35 ≤ p ∧ p < 57) ∨ 117 ≤ p)) → m0 c p = m0 c p := fun c p _ => rfl
  refine u_X12_meet ?_
  refine ⟨hS.k336, ?_⟩
  refine u_X12_isWant ?_
  refine g_if (fun w1 => ?_) (fun w1 => ?_)
  · refine g_C ?_
    refine ⟨by omega, ?_⟩
    refine g_ifF (by omega) ?_
    refine g_C ?_
    exact hk (-1) m0 hm0 Fm0 (by omega) (by omega)
  · refine g_getr 20 346 rfl hS.k336 hm0.f_336_20 (by decide) ?_
    refine g_C ?_
    refine g_ld (0) (6) hS.k346 hS.l346 (by omega) (by omega) (hm0.f_346_6) (fun v2 ev2 bv2 cv2 => ?_)
    refine g_if (fun w3 => ?_) (fun w3 => ?_)
    · refine g_C ?_
      refine ⟨by omega, ?_⟩
      refine g_ifF (by omega) ?_
      refine g_C ?_
      exact hk (-1) m0 hm0 Fm0 (by omega) (by omega)
    · refine g_C ?_
      refine ⟨by omega, ?_⟩
      refine g_ifT (by omega) ?_
      refine ⟨hS.k336, ?_⟩
      refine za_X12_firstFor hS hm0 (by omega) (by omega) (fun v4 bv4 cv4 => ?_)
      refine g_if (fun w5 => ?_) (fun w5 => ?_)
      · refine ⟨hS.k336, ?_⟩
        refine za_X12_keepsAct hS hm0 (fun m6 hm6 fm6 => ?_)
        have Fm6 : ∀ c p : Int, ¬ (344 ≤ c ∧ c ≤ 345) ∧ ¬ c = 347 ∧ ¬ (c = 336 ∧ (p = 18 ∨ p = 25 ∨ p = 33)) ∧ ¬ (c = 346 ∧ (p = 7 ∨ p = 8 ∨ (10 ≤ p ∧ p < 35 ∧ (p - 10) % 5 ≤ 2) ∨ (35 ≤ p ∧ p < 57) ∨ 117 ≤ p)) → m6 c p = m0 c p := fun c p h => (fm6 c p (by omega)).trans (Fm0 c p h)
        refine g_getr 20 346 rfl hS.k336 hm6.f_336_20 (by decide) ?_
        refine g_C ?_
        refine g_C ?_
        refine g_M (by omega) (by omega) ?_
        refine g_A (by omega) (by omega) ?_
        refine g_C ?_
        refine g_A (by omega) (by omega) ?_
        refine g_C ?_
        refine g_st hS.k346 hS.l346 (by omega) (by omega) (wfm_346_38_4_0_3 hm6 (a := v4) (by omega) (by omega) (by omega) (by omega) (by omega)) (fun m7 em7 hm7 => ?_)
        have Fm7 : ∀ c p : Int, ¬ (344 ≤ c ∧ c ≤ 345) ∧ ¬ c = 347 ∧ ¬ (c = 336 ∧ (p = 18 ∨ p = 25 ∨ p = 33)) ∧ ¬ (c = 346 ∧ (p = 7 ∨ p = 8 ∨ (10 ≤ p ∧ p < 35 ∧ (p - 10) % 5 ≤ 2) ∨ (35 ≤ p ∧ p < 57) ∨ 117 ≤ p)) → m7 c p = m0 c p := fun c p h => (congrFun (congrFun em7 _) _).trans ((up_ne (by omega)).trans (Fm6 c p h))
        refine g_getr 20 346 rfl hS.k336 hm7.f_336_20 (by decide) ?_
        refine g_C ?_
        refine g_A (by omega) (by omega) ?_
        refine g_getr 20 346 rfl hS.k336 hm7.f_336_20 (by decide) ?_
        refine g_C ?_
        refine g_ld (-2147483648) (2147483647) hS.k346 hS.l346 (by omega) (by omega) (hm7.f_346_7) (fun v8 ev8 bv8 cv8 => ?_)
        refine g_st hS.k346 hS.l346 (by omega) (by omega) (wfm_346_51_1_0_5 hm7 (a := u1) (by omega) (by omega) (by omega) (by omega) (by omega)) (fun m9 em9 hm9 => ?_)
        have Fm9 : ∀ c p : Int, ¬ (344 ≤ c ∧ c ≤ 345) ∧ ¬ c = 347 ∧ ¬ (c = 336 ∧ (p = 18 ∨ p = 25 ∨ p = 33)) ∧ ¬ (c = 346 ∧ (p = 7 ∨ p = 8 ∨ (10 ≤ p ∧ p < 35 ∧ (p - 10) % 5 ≤ 2) ∨ (35 ≤ p ∧ p < 57) ∨ 117 ≤ p)) → m9 c p = m0 c p := fun c p h => (congrFun (congrFun em9 _) _).trans ((up_ne (by omega)).trans (Fm7 c p h))
        refine g_getr 20 346 rfl hS.k336 hm9.f_336_20 (by decide) ?_
        refine g_C ?_
        refine g_ld (-2147483648) (2147483647) hS.k346 hS.l346 (by omega) (by omega) (hm9.f_346_8) (fun v10 ev10 bv10 cv10 => ?_)
        refine g_C ?_
        refine ⟨hS.k336, ?_⟩
        refine u_X12_wantOf ?_
        refine g_getr 20 346 rfl hS.k336 hm9.f_336_20 (by decide) ?_
        refine g_C ?_
        refine g_C ?_
        refine g_M (by omega) (by omega) ?_
        refine g_A (by omega) (by omega) ?_
        refine g_A (by omega) (by omega) ?_
        refine g_ld (0) (50) hS.k346 hS.l346 (by omega) (by omega) (fam_346_96_4_0_5 hm9 (a := u1) (by omega) (by omega) (by omega)) (fun v11 ev11 bv11 cv11 => ?_)
        refine g_Aw (fun v12 bv12 cv12 => ?_)
        refine g_st hS.k346 hS.l346 (by omega) (by omega) (hm9.w_346_8 (by omega) (by omega)) (fun m13 em13 hm13 => ?_)
        have Fm13 : ∀ c p : Int, ¬ (344 ≤ c ∧ c ≤ 345) ∧ ¬ c = 347 ∧ ¬ (c = 336 ∧ (p = 18 ∨ p = 25 ∨ p = 33)) ∧ ¬ (c = 346 ∧ (p = 7 ∨ p = 8 ∨ (10 ≤ p ∧ p < 35 ∧ (p - 10) % 5 ≤ 2) ∨ (35 ≤ p ∧ p < 57) ∨ 117 ≤ p)) → m13 c p = m0 c p := fun c p h => (congrFun (congrFun em13 _) _).trans ((up_ne (by omega)).trans (Fm9 c p h))
        exact hk v4 m13 hm13 Fm13 (by omega) (by omega)
      · refine g_C ?_
        exact hk (-1) m0 hm0 Fm0 (by omega) (by omega)
theorem za_X12_put {X : Mm} {S : Sh} {m0 : Mm} {K : Int → Mm → Prop} {u1 u2 : Int} (hS : Shp S) (hm0 : Inv X S m0) (l_u1 : (-2147483648) ≤ u1) (h_u1 : u1 ≤ 2147483647) (l_u2 : (-2147483648) ≤ u2) (h_u2 : u2 ≤ 2147483647) (hk : ∀ (r : Int) (M1 : Mm), Inv X S M1 → (∀ c p : Int, ¬ (344 ≤ c ∧ c ≤ 345) ∧ ¬ c = 347 ∧ ¬ (c = 336 ∧ (p = 18 ∨ p = 25 ∨ p = 33)) ∧ ¬ (c = 346 ∧ (p = 7 ∨ p = 8 ∨ (10 ≤ p ∧ p < 35 ∧ (p - 10) % 5 ≤ 2) ∨ (35 ≤ p ∧ p < 57) ∨ 117 ≤ p)) → M1 c p = m0 c p) → (-1) ≤ r → r ≤ 5 → K r M1) : wp_X12_put S m0 336 u1 u2 K := by
  have Fm0 : ∀ c p : Int, ¬ (344 ≤ c ∧ c ≤ 345) ∧ ¬ c = 347 ∧ ¬ (c = 336 ∧ (p = 18 ∨ p = 25 ∨ p = 33)) ∧ ¬ (c = 346 ∧ (p = 7 ∨ p = 8 ∨ (10 ≤ p ∧ p < 35 ∧ (p - 10) % 5 ≤ 2) ∨ (35 ≤ p ∧ p < 57) ∨ 117 ≤ p)) → m0 c p = m0 c p := fun c p _ => rfl
  refine u_X12_put ?_
  refine ⟨hS.k336, ?_⟩
  refine u_X12_isHand ?_
  refine g_if (fun w1 => ?_) (fun w1 => ?_)
  · refine g_C ?_
    refine ⟨by omega, ?_⟩
    refine g_ifT (by omega) ?_
    refine g_C ?_
    have zb2 := hm0.f_346_0
    have q3 : m0 346 0 = (m0 346 0) := (hm0.g (by decide)).trans (((Eq.refl (m0 346 0)).trans (hm0.g (by decide))).symm)
    have zb4 := hm0.f_346_4
    have q5 : m0 346 4 = (m0 346 4) := (hm0.g (by decide)).trans (((Eq.refl (m0 346 4)).trans (hm0.g (by decide))).symm)
    exact hk (-1) m0 hm0 Fm0 (by omega) (by omega)
  · refine g_getr 20 346 rfl hS.k336 hm0.f_336_20 (by decide) ?_
    refine g_C ?_
    refine g_ld (0) (5) hS.k346 hS.l346 (by omega) (by omega) (hm0.f_346_4) (fun v6 ev6 bv6 cv6 => ?_)
    have qv6 : v6 = (m0 346 4) := (ev6.trans (hm0.g (by decide))).trans (((Eq.refl (m0 346 4)).trans (hm0.g (by decide))).symm)
    refine g_if (fun w7 => ?_) (fun w7 => ?_)
    · refine g_C ?_
      refine ⟨by omega, ?_⟩
      refine g_ifT (by omega) ?_
      refine g_C ?_
      have zb8 := hm0.f_346_0
      have q9 : m0 346 0 = (m0 346 0) := (hm0.g (by decide)).trans (((Eq.refl (m0 346 0)).trans (hm0.g (by decide))).symm)
      have zb10 := hm0.f_346_4
      have q11 : m0 346 4 = (m0 346 4) := (hm0.g (by decide)).trans (((Eq.refl (m0 346 4)).trans (hm0.g (by decide))).symm)
      exact hk (-1) m0 hm0 Fm0 (by omega) (by omega)
    · refine g_C ?_
      refine ⟨by omega, ?_⟩
      refine g_ifF (by omega) ?_
      refine ⟨hS.k336, ?_⟩
      refine u_X12_isJug ?_
      refine g_if (fun w12 => ?_) (fun w12 => ?_)
      · refine g_C ?_
        refine ⟨by omega, ?_⟩
        refine g_ifT (by omega) ?_
        refine g_C ?_
        have zb13 := hm0.f_346_0
        have q14 : m0 346 0 = (m0 346 0) := (hm0.g (by decide)).trans (((Eq.refl (m0 346 0)).trans (hm0.g (by decide))).symm)
        have zb15 := hm0.f_346_4
        have q16 : m0 346 4 = (m0 346 4) := (hm0.g (by decide)).trans (((Eq.refl (m0 346 4)).trans (hm0.g (by decide))).symm)
        exact hk (-1) m0 hm0 Fm0 (by omega) (by omega)
      · refine g_getr 20 346 rfl hS.k336 hm0.f_336_20 (by decide) ?_
        refine g_C ?_
        refine g_ld (0) (4) hS.k346 hS.l346 (by omega) (by omega) (hm0.f_346_5) (fun v17 ev17 bv17 cv17 => ?_)
        refine g_if (fun w18 => ?_) (fun w18 => ?_)
        · refine g_C ?_
          refine ⟨by omega, ?_⟩
          refine g_ifT (by omega) ?_
          refine g_C ?_
          have zb19 := hm0.f_346_0
          have q20 : m0 346 0 = (m0 346 0) := (hm0.g (by decide)).trans (((Eq.refl (m0 346 0)).trans (hm0.g (by decide))).symm)
          have zb21 := hm0.f_346_4
          have q22 : m0 346 4 = (m0 346 4) := (hm0.g (by decide)).trans (((Eq.refl (m0 346 4)).trans (hm0.g (by decide))).symm)
          exact hk (-1) m0 hm0 Fm0 (by omega) (by omega)
        · refine g_C ?_
          refine ⟨by omega, ?_⟩
          refine g_ifF (by omega) ?_
          refine g_C ?_
          refine ⟨hS.k336, ?_⟩
          refine u_X12_jugOf ?_
          refine g_getr 20 346 rfl hS.k336 hm0.f_336_20 (by decide) ?_
          refine g_C ?_
          refine g_C ?_
          refine g_M (by omega) (by omega) ?_
          refine g_A (by omega) (by omega) ?_
          refine g_A (by omega) (by omega) ?_
          refine g_ld (-1) (4) hS.k346 hS.l346 (by omega) (by omega) (fam_346_36_4_0_3 hm0 (a := u2) (by omega) (by omega) (by omega)) (fun v23 ev23 bv23 cv23 => ?_)
          refine g_if (fun w24 => ?_) (fun w24 => ?_)
          · refine g_C ?_
            have zb25 := hm0.f_346_0
            have q26 : m0 346 0 = (m0 346 0) := (hm0.g (by decide)).trans (((Eq.refl (m0 346 0)).trans (hm0.g (by decide))).symm)
            have zb27 := hm0.f_346_4
            have q28 : m0 346 4 = (m0 346 4) := (hm0.g (by decide)).trans (((Eq.refl (m0 346 4)).trans (hm0.g (by decide))).symm)
            exact hk (-1) m0 hm0 Fm0 (by omega) (by omega)
          · refine ⟨hS.k336, ?_⟩
            refine u_X12_isAtPlace ?_
            refine g_C ?_
            refine ⟨hS.k336, ?_⟩
            refine u_X12_handOf ?_
            refine g_getr 20 346 rfl hS.k336 hm0.f_336_20 (by decide) ?_
            refine g_C ?_
            refine g_C ?_
            refine g_M (by omega) (by omega) ?_
            refine g_A (by omega) (by omega) ?_
            refine g_A (by omega) (by omega) ?_
            refine g_ld (0) (5) hS.k346 hS.l346 (by omega) (by omega) (fam_346_11_5_0_4 hm0 (a := u1) (by omega) (by omega) (by omega)) (fun v29 ev29 bv29 cv29 => ?_)
            refine g_if (fun w30 => ?_) (fun w30 => ?_)
            · refine g_C ?_
              refine ⟨by omega, ?_⟩
              refine g_ifF (by omega) ?_
              refine g_C ?_
              have zb31 := hm0.f_346_0
              have q32 : m0 346 0 = (m0 346 0) := (hm0.g (by decide)).trans (((Eq.refl (m0 346 0)).trans (hm0.g (by decide))).symm)
              have zb33 := hm0.f_346_4
              have q34 : m0 346 4 = (m0 346 4) := (hm0.g (by decide)).trans (((Eq.refl (m0 346 4)).trans (hm0.g (by decide))).symm)
              exact hk (-1) m0 hm0 Fm0 (by omega) (by omega)
            · refine g_C ?_
              refine ⟨by omega, ?_⟩
              refine g_ifT (by omega) ?_
              refine ⟨hS.k336, ?_⟩
              refine za_X12_keepsAct hS hm0 (fun m35 hm35 fm35 => ?_)
              have zb36 := hm35.f_346_0
              have zb37 := hm35.f_346_4
              have Fm35 : ∀ c p : Int, ¬ (344 ≤ c ∧ c ≤ 345) ∧ ¬ c = 347 ∧ ¬ (c = 336 ∧ (p = 18 ∨ p = 25 ∨ p = 33)) ∧ ¬ (c = 346 ∧ (p = 7 ∨ p = 8 ∨ (10 ≤ p ∧ p < 35 ∧ (p - 10) % 5 ≤ 2) ∨ (35 ≤ p ∧ p < 57) ∨ 117 ≤ p)) → m35 c p = m0 c p := fun c p h => (fm35 c p (by omega)).trans (Fm0 c p h)
              refine g_getr 20 346 rfl hS.k336 hm35.f_336_20 (by decide) ?_
              refine g_C ?_
              refine g_C ?_
              refine g_M (by omega) (by omega) ?_
              refine g_A (by omega) (by omega) ?_
              refine g_C ?_
              refine g_A (by omega) (by omega) ?_
              refine g_C ?_
              refine g_st hS.k346 hS.l346 (by omega) (by omega) (wfm_346_36_4_0_3 hm35 (a := u2) (by omega) (by omega) (by omega) (by omega) (by omega)) (fun m38 em38 hm38 => ?_)
              have Fm38 : ∀ c p : Int, ¬ (344 ≤ c ∧ c ≤ 345) ∧ ¬ c = 347 ∧ ¬ (c = 336 ∧ (p = 18 ∨ p = 25 ∨ p = 33)) ∧ ¬ (c = 346 ∧ (p = 7 ∨ p = 8 ∨ (10 ≤ p ∧ p < 35 ∧ (p - 10) % 5 ≤ 2) ∨ (35 ≤ p ∧ p < 57) ∨ 117 ≤ p)) → m38 c p = m0 c p := fun c p h => (congrFun (congrFun em38 _) _).trans ((up_ne (by omega)).trans (Fm35 c p h))
              refine g_getr 20 346 rfl hS.k336 hm38.f_336_20 (by decide) ?_
              refine g_C ?_
              refine g_C ?_
              refine g_M (by omega) (by omega) ?_
              refine g_A (by omega) (by omega) ?_
              refine g_C ?_
              refine ⟨hS.k336, ?_⟩
              refine u_X12_handOf ?_
              refine g_getr 20 346 rfl hS.k336 hm38.f_336_20 (by decide) ?_
              refine g_C ?_
              refine g_C ?_
              refine g_M (by omega) (by omega) ?_
              refine g_A (by omega) (by omega) ?_
              refine g_A (by omega) (by omega) ?_
              refine g_ld (0) (5) hS.k346 hS.l346 (by omega) (by omega) (fam_346_10_5_0_4 hm38 (a := u1) (by omega) (by omega) (by omega)) (fun v39 ev39 bv39 cv39 => ?_)
              have gp41 := hm38.g (c := 346) (p := 0) (by decide)
              have gp42 := hm38.g (c := 346) (p := 4) (by decide)
              have gp43 := hm0.g (c := 346) (p := 4) (by decide)
              have gp44 := hm38.pl.1.1 u1 (by omega) (by omega)
              have gp45 : m38 346 (10 + 5 * u1 + 0) = m38 346 (10 + 5 * u1) := congrArg (m38 346) (by omega)
              refine g_st hS.k346 hS.l346 (by omega) (by omega) (wfm_346_35_4_0_3 hm38 (a := u2) (by omega) (by omega) (by omega) (by omega) (by omega) (by omega)) (fun m40 em40 hm40 => ?_)
              have Fm40 : ∀ c p : Int, ¬ (344 ≤ c ∧ c ≤ 345) ∧ ¬ c = 347 ∧ ¬ (c = 336 ∧ (p = 18 ∨ p = 25 ∨ p = 33)) ∧ ¬ (c = 346 ∧ (p = 7 ∨ p = 8 ∨ (10 ≤ p ∧ p < 35 ∧ (p - 10) % 5 ≤ 2) ∨ (35 ≤ p ∧ p < 57) ∨ 117 ≤ p)) → m40 c p = m0 c p := fun c p h => (congrFun (congrFun em40 _) _).trans ((up_ne (by omega)).trans (Fm38 c p h))
              refine g_C ?_
              refine ⟨hS.k336, ?_⟩
              refine u_X12_handOf ?_
              refine g_getr 20 346 rfl hS.k336 hm40.f_336_20 (by decide) ?_
              refine g_C ?_
              refine g_C ?_
              refine g_M (by omega) (by omega) ?_
              refine g_A (by omega) (by omega) ?_
              refine g_A (by omega) (by omega) ?_
              refine g_ld (0) (5) hS.k346 hS.l346 (by omega) (by omega) (fam_346_10_5_0_4 hm40 (a := u1) (by omega) (by omega) (by omega)) (fun v46 ev46 bv46 cv46 => ?_)
              have qv46 : v46 = v39 := ev46.trans ((congrFun (congrFun em40 _) _).trans ((up_ne (by omega)).trans ev39.symm))
              have zb47 := hm40.f_346_0
              have q48 : m40 346 0 = (m0 346 0) := (hm40.g (by decide)).trans (((Eq.refl (m0 346 0)).trans (hm0.g (by decide))).symm)
              have zb49 := hm40.f_346_4
              have q50 : m40 346 4 = (m0 346 4) := (hm40.g (by decide)).trans (((Eq.refl (m0 346 4)).trans (hm0.g (by decide))).symm)
              exact hk v46 m40 hm40 Fm40 (by omega) (by omega)
theorem za_X12_take {X : Mm} {S : Sh} {m0 : Mm} {K : Int → Mm → Prop} {u1 u2 : Int} (hS : Shp S) (hm0 : Inv X S m0) (l_u1 : (-2147483648) ≤ u1) (h_u1 : u1 ≤ 2147483647) (l_u2 : (-2147483648) ≤ u2) (h_u2 : u2 ≤ 2147483647) (hk : ∀ (r : Int) (M1 : Mm), Inv X S M1 → (∀ c p : Int, ¬ (344 ≤ c ∧ c ≤ 345) ∧ ¬ c = 347 ∧ ¬ (c = 336 ∧ (p = 18 ∨ p = 25 ∨ p = 33)) ∧ ¬ (c = 346 ∧ (p = 7 ∨ p = 8 ∨ (10 ≤ p ∧ p < 35 ∧ (p - 10) % 5 ≤ 2) ∨ (35 ≤ p ∧ p < 57) ∨ 117 ≤ p)) → M1 c p = m0 c p) → (-1) ≤ r → r ≤ 15 → K r M1) : wp_X12_take S m0 336 u1 u2 K := by
  have Fm0 : ∀ c p : Int, ¬ (344 ≤ c ∧ c ≤ 345) ∧ ¬ c = 347 ∧ ¬ (c = 336 ∧ (p = 18 ∨ p = 25 ∨ p = 33)) ∧ ¬ (c = 346 ∧ (p = 7 ∨ p = 8 ∨ (10 ≤ p ∧ p < 35 ∧ (p - 10) % 5 ≤ 2) ∨ (35 ≤ p ∧ p < 57) ∨ 117 ≤ p)) → m0 c p = m0 c p := fun c p _ => rfl
  refine u_X12_take ?_
  refine ⟨hS.k336, ?_⟩
  refine u_X12_isHand ?_
  refine g_if (fun w1 => ?_) (fun w1 => ?_)
  · refine g_C ?_
    refine ⟨by omega, ?_⟩
    refine g_ifT (by omega) ?_
    refine g_C ?_
    exact hk (-1) m0 hm0 Fm0 (by omega) (by omega)
  · refine g_getr 20 346 rfl hS.k336 hm0.f_336_20 (by decide) ?_
    refine g_C ?_
    refine g_ld (0) (5) hS.k346 hS.l346 (by omega) (by omega) (hm0.f_346_4) (fun v2 ev2 bv2 cv2 => ?_)
    refine g_if (fun w3 => ?_) (fun w3 => ?_)
    · refine g_C ?_
      refine ⟨by omega, ?_⟩
      refine g_ifT (by omega) ?_
      refine g_C ?_
      exact hk (-1) m0 hm0 Fm0 (by omega) (by omega)
    · refine g_C ?_
      refine ⟨by omega, ?_⟩
      refine g_ifF (by omega) ?_
      refine ⟨hS.k336, ?_⟩
      refine u_X12_isJug ?_
      refine g_if (fun w4 => ?_) (fun w4 => ?_)
      · refine g_C ?_
        refine ⟨by omega, ?_⟩
        refine g_ifT (by omega) ?_
        refine g_C ?_
        exact hk (-1) m0 hm0 Fm0 (by omega) (by omega)
      · refine g_getr 20 346 rfl hS.k336 hm0.f_336_20 (by decide) ?_
        refine g_C ?_
        refine g_ld (0) (4) hS.k346 hS.l346 (by omega) (by omega) (hm0.f_346_5) (fun v5 ev5 bv5 cv5 => ?_)
        refine g_if (fun w6 => ?_) (fun w6 => ?_)
        · refine g_C ?_
          refine ⟨by omega, ?_⟩
          refine g_ifT (by omega) ?_
          refine g_C ?_
          exact hk (-1) m0 hm0 Fm0 (by omega) (by omega)
        · refine g_C ?_
          refine ⟨by omega, ?_⟩
          refine g_ifF (by omega) ?_
          refine ⟨hS.k336, ?_⟩
          refine za_X12_canTake hS hm0 (by omega) (by omega) (by omega) (by omega) (fun v7 bv7 cv7 => ?_)
          refine g_if (fun w8 => ?_) (fun w8 => ?_)
          · refine ⟨hS.k336, ?_⟩
            refine za_X12_keepsAct hS hm0 (fun m9 hm9 fm9 => ?_)
            have Fm9 : ∀ c p : Int, ¬ (344 ≤ c ∧ c ≤ 345) ∧ ¬ c = 347 ∧ ¬ (c = 336 ∧ (p = 18 ∨ p = 25 ∨ p = 33)) ∧ ¬ (c = 346 ∧ (p = 7 ∨ p = 8 ∨ (10 ≤ p ∧ p < 35 ∧ (p - 10) % 5 ≤ 2) ∨ (35 ≤ p ∧ p < 57) ∨ 117 ≤ p)) → m9 c p = m0 c p := fun c p h => (fm9 c p (by omega)).trans (Fm0 c p h)
            refine ⟨hS.k336, ?_⟩
            refine u_X12_takes ?_
            refine g_getr 20 346 rfl hS.k336 hm9.f_336_20 (by decide) ?_
            refine g_C ?_
            refine g_C ?_
            refine g_M (by omega) (by omega) ?_
            refine g_A (by omega) (by omega) ?_
            refine g_C ?_
            refine g_A (by omega) (by omega) ?_
            refine g_st hS.k346 hS.l346 (by omega) (by omega) (wfm_346_36_4_0_3 hm9 (a := u2) (by omega) (by omega) (by omega) (by omega) (by omega)) (fun m10 em10 hm10 => ?_)
            have Fm10 : ∀ c p : Int, ¬ (344 ≤ c ∧ c ≤ 345) ∧ ¬ c = 347 ∧ ¬ (c = 336 ∧ (p = 18 ∨ p = 25 ∨ p = 33)) ∧ ¬ (c = 346 ∧ (p = 7 ∨ p = 8 ∨ (10 ≤ p ∧ p < 35 ∧ (p - 10) % 5 ≤ 2) ∨ (35 ≤ p ∧ p < 57) ∨ 117 ≤ p)) → m10 c p = m0 c p := fun c p h => (congrFun (congrFun em10 _) _).trans ((up_ne (by omega)).trans (Fm9 c p h))
            refine ⟨hS.k336, ?_⟩
            refine za_X12_held hS hm10 (by omega) (by omega) (fun v11 bv11 cv11 => ?_)
            exact hk v11 m10 hm10 Fm10 (by omega) (by omega)
          · refine g_C ?_
            exact hk (-1) m0 hm0 Fm0 (by omega) (by omega)
theorem za_X12_test {X : Mm} {S : Sh} {m0 : Mm} {K : Int → Mm → Prop} {u1 u2 u3 u4 : Int} (hS : Shp S) (hm0 : Inv X S m0) (l_u1 : (-2147483648) ≤ u1) (h_u1 : u1 ≤ 2147483647) (l_u2 : (-2147483648) ≤ u2) (h_u2 : u2 ≤ 2147483647) (l_u3 : (-2147483648) ≤ u3) (h_u3 : u3 ≤ 2147483647) (l_u4 : (-2147483648) ≤ u4) (h_u4 : u4 ≤ 2147483647) (hk : ∀ (r : Int) (M1 : Mm), Inv X S M1 → (∀ c p : Int, ¬ (344 ≤ c ∧ c ≤ 345) ∧ ¬ c = 347 ∧ ¬ (c = 336 ∧ (p = 18 ∨ p = 25 ∨ p = 33)) ∧ ¬ (c = 346 ∧ (p = 7 ∨ p = 8 ∨ (10 ≤ p ∧ p < 35 ∧ (p - 10) % 5 ≤ 2) ∨ (35 ≤ p ∧ p < 57) ∨ 117 ≤ p)) → M1 c p = m0 c p) → (-2) ≤ r → r ≤ 10 → K r M1) : wp_X12_test S m0 336 u1 u2 u3 u4 K := by
  have Fm0 : ∀ c p : Int, ¬ (344 ≤ c ∧ c ≤ 345) ∧ ¬ c = 347 ∧ ¬ (c = 336 ∧ (p = 18 ∨ p = 25 ∨ p = 33)) ∧ ¬ (c = 346 ∧ (p = 7 ∨ p = 8 ∨ (10 ≤ p ∧ p < 35 ∧ (p - 10) % 5 ≤ 2) ∨ (35 ≤ p ∧ p < 57) ∨ 117 ≤ p)) → m0 c p = m0 c p := fun c p _ => rfl
  refine u_X12_test ?_
  refine g_C ?_
  refine g_if (fun w1 => ?_) (fun w1 => ?_)
  · refine ⟨hS.k336, ?_⟩
    refine u_X12_isDairy ?_
    refine g_getr 20 346 rfl hS.k336 hm0.f_336_20 (by decide) ?_
    refine g_C ?_
    refine g_ld (0) (6) hS.k346 hS.l346 (by omega) (by omega) (hm0.f_346_0) (fun v2 ev2 bv2 cv2 => ?_)
    refine g_if (fun w3 => ?_) (fun w3 => ?_)
    · refine g_C ?_
      refine ⟨by omega, ?_⟩
      refine g_ifT (by omega) ?_
      refine g_C ?_
      exact hk (-2) m0 hm0 Fm0 (by omega) (by omega)
    · refine g_C ?_
      refine ⟨by omega, ?_⟩
      refine g_ifF (by omega) ?_
      refine g_C ?_
      refine g_C ?_
      refine g_C ?_
      refine z_in (fun aw4 bw4 => ?_) (fun cw4 => ?_)
      · refine g_ifF (by omega) ?_
        refine g_C ?_
        refine g_C ?_
        refine g_C ?_
        refine z_in (fun aw5 bw5 => ?_) (fun cw5 => ?_)
        · refine g_ifF (by omega) ?_
          refine g_C ?_
          refine g_C ?_
          refine g_C ?_
          refine z_in (fun aw6 bw6 => ?_) (fun cw6 => ?_)
          · refine g_ifF (by omega) ?_
            refine g_C ?_
            refine g_C ?_
            refine g_C ?_
            refine z_in (fun aw7 bw7 => ?_) (fun cw7 => ?_)
            · refine g_ifF (by omega) ?_
              refine g_getr 20 346 rfl hS.k336 hm0.f_336_20 (by decide) ?_
              refine g_C ?_
              refine g_ld (0) (10) hS.k346 hS.l346 (by omega) (by omega) (hm0.f_346_157) (fun v8 ev8 bv8 cv8 => ?_)
              refine g_C ?_
              refine g_if (fun w9 => ?_) (fun w9 => ?_)
              · refine g_C ?_
                refine g_C ?_
                refine g_getr 20 346 rfl hS.k336 hm0.f_336_20 (by decide) ?_
                refine g_C ?_
                refine g_ld (0) (10) hS.k346 hS.l346 (by omega) (by omega) (hm0.f_346_157) (fun v10 ev10 bv10 cv10 => ?_)
                have qv10 : v10 = v8 := ev10.trans ev8.symm
                refine g_M (by omega) (by omega) ?_
                refine g_A (by omega) (by omega) ?_
                refine g_getr 20 346 rfl hS.k336 hm0.f_336_20 (by decide) ?_
                refine g_st hS.k346 hS.l346 (by omega) (by omega) (wfm_346_117_4_0_9 hm0 (a := v8) (by omega) (by omega) (by omega) (by omega) (by omega)) (fun m11 em11 hm11 => ?_)
                have Fm11 : ∀ c p : Int, ¬ (344 ≤ c ∧ c ≤ 345) ∧ ¬ c = 347 ∧ ¬ (c = 336 ∧ (p = 18 ∨ p = 25 ∨ p = 33)) ∧ ¬ (c = 346 ∧ (p = 7 ∨ p = 8 ∨ (10 ≤ p ∧ p < 35 ∧ (p - 10) % 5 ≤ 2) ∨ (35 ≤ p ∧ p < 57) ∨ 117 ≤ p)) → m11 c p = m0 c p := fun c p h => (congrFun (congrFun em11 _) _).trans ((up_ne (by omega)).trans (Fm0 c p h))
                refine g_getr 20 346 rfl hS.k336 hm11.f_336_20 (by decide) ?_
                refine g_C ?_
                refine g_A (by omega) (by omega) ?_
                refine g_st hS.k346 hS.l346 (by omega) (by omega) (wfm_346_118_4_0_9 hm11 (a := v8) (by omega) (by omega) (by omega) (by omega) (by omega)) (fun m12 em12 hm12 => ?_)
                have Fm12 : ∀ c p : Int, ¬ (344 ≤ c ∧ c ≤ 345) ∧ ¬ c = 347 ∧ ¬ (c = 336 ∧ (p = 18 ∨ p = 25 ∨ p = 33)) ∧ ¬ (c = 346 ∧ (p = 7 ∨ p = 8 ∨ (10 ≤ p ∧ p < 35 ∧ (p - 10) % 5 ≤ 2) ∨ (35 ≤ p ∧ p < 57) ∨ 117 ≤ p)) → m12 c p = m0 c p := fun c p h => (congrFun (congrFun em12 _) _).trans ((up_ne (by omega)).trans (Fm11 c p h))
                refine g_getr 20 346 rfl hS.k336 hm12.f_336_20 (by decide) ?_
                refine g_C ?_
                refine g_A (by omega) (by omega) ?_
                refine g_st hS.k346 hS.l346 (by omega) (by omega) (wfm_346_119_4_0_9 hm12 (a := v8) (by omega) (by omega) (by omega) (by omega) (by omega)) (fun m13 em13 hm13 => ?_)
                have Fm13 : ∀ c p : Int, ¬ (344 ≤ c ∧ c ≤ 345) ∧ ¬ c = 347 ∧ ¬ (c = 336 ∧ (p = 18 ∨ p = 25 ∨ p = 33)) ∧ ¬ (c = 346 ∧ (p = 7 ∨ p = 8 ∨ (10 ≤ p ∧ p < 35 ∧ (p - 10) % 5 ≤ 2) ∨ (35 ≤ p ∧ p < 57) ∨ 117 ≤ p)) → m13 c p = m0 c p := fun c p h => (congrFun (congrFun em13 _) _).trans ((up_ne (by omega)).trans (Fm12 c p h))
                refine g_getr 20 346 rfl hS.k336 hm13.f_336_20 (by decide) ?_
                refine g_C ?_
                refine g_A (by omega) (by omega) ?_
                refine g_st hS.k346 hS.l346 (by omega) (by omega) (wfm_346_120_4_0_9 hm13 (a := v8) (by omega) (by omega) (by omega) (by omega) (by omega)) (fun m14 em14 hm14 => ?_)
                have Fm14 : ∀ c p : Int, ¬ (344 ≤ c ∧ c ≤ 345) ∧ ¬ c = 347 ∧ ¬ (c = 336 ∧ (p = 18 ∨ p = 25 ∨ p = 33)) ∧ ¬ (c = 346 ∧ (p = 7 ∨ p = 8 ∨ (10 ≤ p ∧ p < 35 ∧ (p - 10) % 5 ≤ 2) ∨ (35 ≤ p ∧ p < 57) ∨ 117 ≤ p)) → m14 c p = m0 c p := fun c p h => (congrFun (congrFun em14 _) _).trans ((up_ne (by omega)).trans (Fm13 c p h))
                refine g_getr 20 346 rfl hS.k336 hm14.f_336_20 (by decide) ?_
                refine g_C ?_
                refine g_ld (0) (10) hS.k346 hS.l346 (by omega) (by omega) (hm14.f_346_157) (fun v15 ev15 bv15 cv15 => ?_)
                have qv15 : v15 = v8 := ev15.trans ((congrFun (congrFun em14 _) _).trans ((up_ne (by omega)).trans ((congrFun (congrFun em13 _) _).trans ((up_ne (by omega)).trans ((congrFun (congrFun em12 _) _).trans ((up_ne (by omega)).trans ((congrFun (congrFun em11 _) _).trans ((up_ne (by omega)).trans ev8.symm))))))))
                refine g_C ?_
                refine g_A (by omega) (by omega) ?_
                refine g_st hS.k346 hS.l346 (by omega) (by omega) (hm14.w_346_157 (by omega) (by omega)) (fun m16 em16 hm16 => ?_)
                have Fm16 : ∀ c p : Int, ¬ (344 ≤ c ∧ c ≤ 345) ∧ ¬ c = 347 ∧ ¬ (c = 336 ∧ (p = 18 ∨ p = 25 ∨ p = 33)) ∧ ¬ (c = 346 ∧ (p = 7 ∨ p = 8 ∨ (10 ≤ p ∧ p < 35 ∧ (p - 10) % 5 ≤ 2) ∨ (35 ≤ p ∧ p < 57) ∨ 117 ≤ p)) → m16 c p = m0 c p := fun c p h => (congrFun (congrFun em16 _) _).trans ((up_ne (by omega)).trans (Fm14 c p h))
                refine g_getr 20 346 rfl hS.k336 hm16.f_336_20 (by decide) ?_
                refine g_C ?_
                refine g_ld (0) (10) hS.k346 hS.l346 (by omega) (by omega) (hm16.f_346_157) (fun v17 ev17 bv17 cv17 => ?_)
                have qv17 : v17 = (v15 + 1) := ev17.trans ((congrFun (congrFun em16 _) _).trans (up_ate (by omega)))
                exact hk v17 m16 hm16 Fm16 (by omega) (by omega)
              · refine g_C ?_
                exact hk (-2) m0 hm0 Fm0 (by omega) (by omega)
            · refine g_ifT (by omega) ?_
              refine g_C ?_
              exact hk (-2) m0 hm0 Fm0 (by omega) (by omega)
          · refine g_ifT (by omega) ?_
            refine g_C ?_
            exact hk (-2) m0 hm0 Fm0 (by omega) (by omega)
        · refine g_ifT (by omega) ?_
          refine g_C ?_
          exact hk (-2) m0 hm0 Fm0 (by omega) (by omega)
      · refine g_ifT (by omega) ?_
        refine g_C ?_
        exact hk (-2) m0 hm0 Fm0 (by omega) (by omega)
  · refine g_getr 20 346 rfl hS.k336 hm0.f_336_20 (by decide) ?_
    refine g_C ?_
    refine g_C ?_
    refine g_st hS.k346 hS.l346 (by omega) (by omega) (hm0.w_346_157 (by omega) (by omega)) (fun m18 em18 hm18 => ?_)
    have Fm18 : ∀ c p : Int, ¬ (344 ≤ c ∧ c ≤ 345) ∧ ¬ c = 347 ∧ ¬ (c = 336 ∧ (p = 18 ∨ p = 25 ∨ p = 33)) ∧ ¬ (c = 346 ∧ (p = 7 ∨ p = 8 ∨ (10 ≤ p ∧ p < 35 ∧ (p - 10) % 5 ≤ 2) ∨ (35 ≤ p ∧ p < 57) ∨ 117 ≤ p)) → m18 c p = m0 c p := fun c p h => (congrFun (congrFun em18 _) _).trans ((up_ne (by omega)).trans (Fm0 c p h))
    refine g_C ?_
    exact hk 0 m18 hm18 Fm18 (by omega) (by omega)
