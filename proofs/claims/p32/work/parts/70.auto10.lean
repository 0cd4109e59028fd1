section
theorem z_X12_turnsIn {X : Mm} {S : Sh} {m0 : Mm} {K : Int → Mm → Prop} {u1 u2 u3 u4 u5 u6 u7 : Int} (hS : Shp S) (hm0 : Inv X S m0) (l_u1 : 0 ≤ u1) (h_u1 : u1 ≤ 4) (l_u2 : 0 ≤ u2) (h_u2 : u2 ≤ 400) (l_u3 : 0 ≤ u3) (h_u3 : u3 ≤ 3) (l_u4 : (-2147483648) ≤ u4) (h_u4 : u4 ≤ 2147483647) (l_u5 : (-2147483648) ≤ u5) (h_u5 : u5 ≤ 2147483647) (l_u6 : 0 ≤ u6) (h_u6 : u6 ≤ 1) (l_u7 : 0 ≤ u7) (h_u7 : u7 ≤ 1024) (hk : ∀ (r : Int) (M1 : Mm), Inv X S M1 → (∀ c p : Int, ¬ c = 344 ∧ ¬ c = 345 ∧ ¬ (c = 336 ∧ 18 ≤ p ∧ p ≤ 18) → M1 c p = m0 c p) → (-2147483648) ≤ r → r ≤ 2147483647 → K r M1) : wp_X12_turnsIn S m0 336 u1 u2 u3 u4 u5 u6 u7 K := by
  have Fm0 : ∀ c p : Int, ¬ c = 344 ∧ ¬ c = 345 ∧ ¬ (c = 336 ∧ 18 ≤ p ∧ p ≤ 18) → m0 c p = m0 c p := fun c p _ => rfl
  refine u_X12_turnsIn ?_
  refine ⟨hS.k336, ?_⟩
  refine z_X12_heatIn hS hm0 (by omega) (by omega) (fun v1 bv1 cv1 => ?_)
  refine g_get 21 (-1) (5) rfl hS.k336 hm0.f_336_21 (fun v2 ev2 bv2 cv2 => ?_)
  have qv2 : v2 = (m0 336 21) := (ev2.trans (hm0.g (by decide))).trans (((Eq.refl (m0 336 21)).trans (hm0.g (by decide))).symm)
  refine g_if (fun w3 => ?_) (fun w3 => ?_)
  · refine g_getr 19 345 rfl hS.k336 hm0.f_336_19 (by decide) ?_
    refine g_C ?_
    refine g_C ?_
    refine g_st hS.k345 hS.l345 (by omega) (by omega) (hm0.wa_345 (by omega) (by omega)) (fun m4 em4 hm4 => ?_)
    have Fm4 : ∀ c p : Int, ¬ c = 344 ∧ ¬ c = 345 ∧ ¬ (c = 336 ∧ 18 ≤ p ∧ p ≤ 18) → m4 c p = m0 c p := fun c p h => (congrFun (congrFun em4 _) _).trans ((up_ne (by omega)).trans (Fm0 c p h))
    refine g_getr 19 345 rfl hS.k336 hm4.f_336_19 (by decide) ?_
    refine g_C ?_
    refine g_C ?_
    refine ⟨hS.k336, ?_⟩
    refine u_X12_handOf ?_
    refine g_getr 20 346 rfl hS.k336 hm4.f_336_20 (by decide) ?_
    refine g_C ?_
    refine g_C ?_
    refine g_M (by omega) (by omega) ?_
    refine g_A (by omega) (by omega) ?_
    refine g_A (by omega) (by omega) ?_
    refine g_ld (0) (20) hS.k346 hS.l346 (by omega) (by omega) (fam_346_13_5_0_4 hm4 (a := u1) (by omega) (by omega) (by omega)) (fun v5 ev5 bv5 cv5 => ?_)
    refine g_C ?_
    refine g_st hS.k345 hS.l345 (by omega) (by omega) (hm4.wa_345 (by omega) (by omega)) (fun m6 em6 hm6 => ?_)
    have Fm6 : ∀ c p : Int, ¬ c = 344 ∧ ¬ c = 345 ∧ ¬ (c = 336 ∧ 18 ≤ p ∧ p ≤ 18) → m6 c p = m0 c p := fun c p h => (congrFun (congrFun em6 _) _).trans ((up_ne (by omega)).trans (Fm4 c p h))
    refine g_getr 19 345 rfl hS.k336 hm6.f_336_19 (by decide) ?_
    refine g_C ?_
    refine g_C ?_
    refine g_st hS.k345 hS.l345 (by omega) (by omega) (hm6.wa_345 (by omega) (by omega)) (fun m7 em7 hm7 => ?_)
    have Fm7 : ∀ c p : Int, ¬ c = 344 ∧ ¬ c = 345 ∧ ¬ (c = 336 ∧ 18 ≤ p ∧ p ≤ 18) → m7 c p = m0 c p := fun c p h => (congrFun (congrFun em7 _) _).trans ((up_ne (by omega)).trans (Fm6 c p h))
    refine g_getr 19 345 rfl hS.k336 hm7.f_336_19 (by decide) ?_
    refine g_C ?_
    refine g_C ?_
    refine g_st hS.k345 hS.l345 (by omega) (by omega) (hm7.wa_345 (by omega) (by omega)) (fun m8 em8 hm8 => ?_)
    have Fm8 : ∀ c p : Int, ¬ c = 344 ∧ ¬ c = 345 ∧ ¬ (c = 336 ∧ 18 ≤ p ∧ p ≤ 18) → m8 c p = m0 c p := fun c p h => (congrFun (congrFun em8 _) _).trans ((up_ne (by omega)).trans (Fm7 c p h))
    refine g_getr 19 345 rfl hS.k336 hm8.f_336_19 (by decide) ?_
    refine g_C ?_
    refine g_C ?_
    refine g_st hS.k345 hS.l345 (by omega) (by omega) (hm8.wa_345 (by omega) (by omega)) (fun m9 em9 hm9 => ?_)
    have Fm9 : ∀ c p : Int, ¬ c = 344 ∧ ¬ c = 345 ∧ ¬ (c = 336 ∧ 18 ≤ p ∧ p ≤ 18) → m9 c p = m0 c p := fun c p h => (congrFun (congrFun em9 _) _).trans ((up_ne (by omega)).trans (Fm8 c p h))
    refine g_getr 19 345 rfl hS.k336 hm9.f_336_19 (by decide) ?_
    refine g_C ?_
    refine g_C ?_
    refine g_st hS.k345 hS.l345 (by omega) (by omega) (hm9.wa_345 (by omega) (by omega)) (fun m10 em10 hm10 => ?_)
    have Fm10 : ∀ c p : Int, ¬ c = 344 ∧ ¬ c = 345 ∧ ¬ (c = 336 ∧ 18 ≤ p ∧ p ≤ 18) → m10 c p = m0 c p := fun c p h => (congrFun (congrFun em10 _) _).trans ((up_ne (by omega)).trans (Fm9 c p h))
    refine g_getr 19 345 rfl hS.k336 hm10.f_336_19 (by decide) ?_
    refine g_C ?_
    refine g_C ?_
    refine g_st hS.k345 hS.l345 (by omega) (by omega) (hm10.wa_345 (by omega) (by omega)) (fun m11 em11 hm11 => ?_)
    have Fm11 : ∀ c p : Int, ¬ c = 344 ∧ ¬ c = 345 ∧ ¬ (c = 336 ∧ 18 ≤ p ∧ p ≤ 18) → m11 c p = m0 c p := fun c p h => (congrFun (congrFun em11 _) _).trans ((up_ne (by omega)).trans (Fm10 c p h))
    refine g_getr 19 345 rfl hS.k336 hm11.f_336_19 (by decide) ?_
    refine g_C ?_
    refine g_C ?_
    refine g_st hS.k345 hS.l345 (by omega) (by omega) (hm11.wa_345 (by omega) (by omega)) (fun m12 em12 hm12 => ?_)
    have Fm12 : ∀ c p : Int, ¬ c = 344 ∧ ¬ c = 345 ∧ ¬ (c = 336 ∧ 18 ≤ p ∧ p ≤ 18) → m12 c p = m0 c p := fun c p h => (congrFun (congrFun em12 _) _).trans ((up_ne (by omega)).trans (Fm11 c p h))
    refine g_getr 19 345 rfl hS.k336 hm12.f_336_19 (by decide) ?_
    refine g_C ?_
    refine g_C ?_
    refine g_st hS.k345 hS.l345 (by omega) (by omega) (hm12.wa_345 (by omega) (by omega)) (fun m13 em13 hm13 => ?_)
    have Fm13 : ∀ c p : Int, ¬ c = 344 ∧ ¬ c = 345 ∧ ¬ (c = 336 ∧ 18 ≤ p ∧ p ≤ 18) → m13 c p = m0 c p := fun c p h => (congrFun (congrFun em13 _) _).trans ((up_ne (by omega)).trans (Fm12 c p h))
    refine g_getr 19 345 rfl hS.k336 hm13.f_336_19 (by decide) ?_
    refine g_C ?_
    refine g_getr 20 346 rfl hS.k336 hm13.f_336_20 (by decide) ?_
    refine g_C ?_
    refine g_ld (0) (99) hS.k346 hS.l346 (by omega) (by omega) (hm13.f_346_2) (fun v14 ev14 bv14 cv14 => ?_)
    refine g_if (fun w15 => ?_) (fun w15 => ?_)
    · refine g_C ?_
      refine u_X12_turnsIn_136 ?_
      refine g_st hS.k345 hS.l345 (by omega) (by omega) (hm13.wa_345 (by omega) (by omega)) (fun m16 em16 hm16 => ?_)
      have Fm16 : ∀ c p : Int, ¬ c = 344 ∧ ¬ c = 345 ∧ ¬ (c = 336 ∧ 18 ≤ p ∧ p ≤ 18) → m16 c p = m0 c p := fun c p h => (congrFun (congrFun em16 _) _).trans ((up_ne (by omega)).trans (Fm13 c p h))
      refine g_get 21 (-1) (5) rfl hS.k336 hm16.f_336_21 (fun v17 ev17 bv17 cv17 => ?_)
      have qv17 : v17 = (m0 336 21) := (ev17.trans (hm16.g (by decide))).trans (((Eq.refl (m0 336 21)).trans (hm0.g (by decide))).symm)
      refine ⟨hS.k336, ?_⟩
      have zb18 := hm16.f_336_21
      have q19 : m16 336 21 = (m0 336 21) := (hm16.g (by decide)).trans (((Eq.refl (m0 336 21)).trans (hm0.g (by decide))).symm)
      have q20 : (m0 336 21) = X 336 21 := (Eq.refl (m0 336 21)).trans (hm0.g (by decide))
      have gq20 := hm0.good.1
      refine z_X12_summedBy hS hm16 (by omega) (by omega) (by omega) (fun v21 m22 hm22 fm22 => ?_)
      have zb23 := hm22.f_336_21
      have Fm22 : ∀ c p : Int, ¬ c = 344 ∧ ¬ c = 345 ∧ ¬ (c = 336 ∧ 18 ≤ p ∧ p ≤ 18) → m22 c p = m0 c p := fun c p h => (fm22 c p (by omega)).trans (Fm16 c p h)
      refine g_C ?_
      refine g_cmp (fun w24 => ?_) (fun w24 => ?_) (fun w24 => ?_)
      · refine g_ifF (by omega) ?_
        refine g_C ?_
        have zb25 := hm22.f_336_21
        have q26 : m22 336 21 = (m0 336 21) := (hm22.g (by decide)).trans (((Eq.refl (m0 336 21)).trans (hm0.g (by decide))).symm)
        exact hk 0 m22 hm22 Fm22 (by omega) (by omega)
      · refine g_ifT (by omega) ?_
        refine g_C ?_
        refine g_cmp (fun w27 => ?_) (fun w27 => ?_) (fun w27 => ?_)
        · refine g_ifT (by omega) ?_
          refine g_w32 (by omega) (by omega) ?_
          have zb29 := hm22.f_336_21
          have q30 : m22 336 21 = (m0 336 21) := (hm22.g (by decide)).trans (((Eq.refl (m0 336 21)).trans (hm0.g (by decide))).symm)
          exact hk v21 m22 hm22 Fm22 (by omega) (by omega)
        · exfalso; omega
        · exfalso; omega
      · refine g_ifT (by omega) ?_
        refine g_C ?_
        refine g_cmp (fun w31 => ?_) (fun w31 => ?_) (fun w31 => ?_)
        · refine g_ifT (by omega) ?_
          refine g_w32 (by omega) (by omega) ?_
          have zb33 := hm22.f_336_21
          have q34 : m22 336 21 = (m0 336 21) := (hm22.g (by decide)).trans (((Eq.refl (m0 336 21)).trans (hm0.g (by decide))).symm)
          exact hk v21 m22 hm22 Fm22 (by omega) (by omega)
        · refine g_ifT (by omega) ?_
          refine g_w32 (by omega) (by omega) ?_
          have zb36 := hm22.f_336_21
          have q37 : m22 336 21 = (m0 336 21) := (hm22.g (by decide)).trans (((Eq.refl (m0 336 21)).trans (hm0.g (by decide))).symm)
          exact hk v21 m22 hm22 Fm22 (by omega) (by omega)
        · refine g_ifF (by omega) ?_
          refine g_C ?_
          have zb38 := hm22.f_336_21
          have q39 : m22 336 21 = (m0 336 21) := (hm22.g (by decide)).trans (((Eq.refl (m0 336 21)).trans (hm0.g (by decide))).symm)
          exact hk 50 m22 hm22 Fm22 (by omega) (by omega)
    · refine g_C ?_
      refine u_X12_turnsIn_136 ?_
      refine g_st hS.k345 hS.l345 (by omega) (by omega) (hm13.wa_345 (by omega) (by omega)) (fun m40 em40 hm40 => ?_)
      have Fm40 : ∀ c p : Int, ¬ c = 344 ∧ ¬ c = 345 ∧ ¬ (c = 336 ∧ 18 ≤ p ∧ p ≤ 18) → m40 c p = m0 c p := fun c p h => (congrFun (congrFun em40 _) _).trans ((up_ne (by omega)).trans (Fm13 c p h))
      refine g_get 21 (-1) (5) rfl hS.k336 hm40.f_336_21 (fun v41 ev41 bv41 cv41 => ?_)
      have qv41 : v41 = (m0 336 21) := (ev41.trans (hm40.g (by decide))).trans (((Eq.refl (m0 336 21)).trans (hm0.g (by decide))).symm)
      refine ⟨hS.k336, ?_⟩
      have zb42 := hm40.f_336_21
      have q43 : m40 336 21 = (m0 336 21) := (hm40.g (by decide)).trans (((Eq.refl (m0 336 21)).trans (hm0.g (by decide))).symm)
      have q44 : (m0 336 21) = X 336 21 := (Eq.refl (m0 336 21)).trans (hm0.g (by decide))
      have gq44 := hm0.good.1
      refine z_X12_summedBy hS hm40 (by omega) (by omega) (by omega) (fun v45 m46 hm46 fm46 => ?_)
      have zb47 := hm46.f_336_21
      have Fm46 : ∀ c p : Int, ¬ c = 344 ∧ ¬ c = 345 ∧ ¬ (c = 336 ∧ 18 ≤ p ∧ p ≤ 18) → m46 c p = m0 c p := fun c p h => (fm46 c p (by omega)).trans (Fm40 c p h)
      refine g_C ?_
      refine g_cmp (fun w48 => ?_) (fun w48 => ?_) (fun w48 => ?_)
      · refine g_ifF (by omega) ?_
        refine g_C ?_
        have zb49 := hm46.f_336_21
        have q50 : m46 336 21 = (m0 336 21) := (hm46.g (by decide)).trans (((Eq.refl (m0 336 21)).trans (hm0.g (by decide))).symm)
        exact hk 0 m46 hm46 Fm46 (by omega) (by omega)
      · refine g_ifT (by omega) ?_
        refine g_C ?_
        refine g_cmp (fun w51 => ?_) (fun w51 => ?_) (fun w51 => ?_)
        · refine g_ifT (by omega) ?_
          refine g_w32 (by omega) (by omega) ?_
          have zb53 := hm46.f_336_21
          have q54 : m46 336 21 = (m0 336 21) := (hm46.g (by decide)).trans (((Eq.refl (m0 336 21)).trans (hm0.g (by decide))).symm)
          exact hk v45 m46 hm46 Fm46 (by omega) (by omega)
        · exfalso; omega
        · exfalso; omega
      · refine g_ifT (by omega) ?_
        refine g_C ?_
        refine g_cmp (fun w55 => ?_) (fun w55 => ?_) (fun w55 => ?_)
        · refine g_ifT (by omega) ?_
          refine g_w32 (by omega) (by omega) ?_
          have zb57 := hm46.f_336_21
          have q58 : m46 336 21 = (m0 336 21) := (hm46.g (by decide)).trans (((Eq.refl (m0 336 21)).trans (hm0.g (by decide))).symm)
          exact hk v45 m46 hm46 Fm46 (by omega) (by omega)
        · refine g_ifT (by omega) ?_
          refine g_w32 (by omega) (by omega) ?_
          have zb60 := hm46.f_336_21
          have q61 : m46 336 21 = (m0 336 21) := (hm46.g (by decide)).trans (((Eq.refl (m0 336 21)).trans (hm0.g (by decide))).symm)
          exact hk v45 m46 hm46 Fm46 (by omega) (by omega)
        · refine g_ifF (by omega) ?_
          refine g_C ?_
          have zb62 := hm46.f_336_21
          have q63 : m46 336 21 = (m0 336 21) := (hm46.g (by decide)).trans (((Eq.refl (m0 336 21)).trans (hm0.g (by decide))).symm)
          exact hk 50 m46 hm46 Fm46 (by omega) (by omega)
  · refine g_C ?_
    refine ⟨hS.k336, ?_⟩
    refine u_X12_handOf ?_
    refine g_getr 20 346 rfl hS.k336 hm0.f_336_20 (by decide) ?_
    refine g_C ?_
    refine g_C ?_
    refine g_M (by omega) (by omega) ?_
    refine g_A (by omega) (by omega) ?_
    refine g_A (by omega) (by omega) ?_
    refine g_ld (0) (20) hS.k346 hS.l346 (by omega) (by omega) (fam_346_13_5_0_4 hm0 (a := u1) (by omega) (by omega) (by omega)) (fun v64 ev64 bv64 cv64 => ?_)
    refine g_C ?_
    refine g_iDivc (d := 4) (by omega) (by omega) (by decide) (fun v65 bv65 cv65 => ?_)
    refine g_A (by omega) (by omega) ?_
    refine g_Aw (fun v66 bv66 cv66 => ?_)
    have zb67 := hm0.f_336_21
    have q68 : m0 336 21 = (m0 336 21) := (hm0.g (by decide)).trans (((Eq.refl (m0 336 21)).trans (hm0.g (by decide))).symm)
    exact hk v66 m0 hm0 Fm0 (by omega) (by omega)
end
section
theorem z_X12_turnedBy {X : Mm} {S : Sh} {m0 : Mm} {K : Int → Mm → Prop} {u1 u2 u3 u4 u5 u6 : Int} (hS : Shp S) (hm0 : Inv X S m0) (l_u1 : 0 ≤ u1) (h_u1 : u1 ≤ 4) (l_u2 : 0 ≤ u2) (h_u2 : u2 ≤ 3) (l_u3 : (-2147483648) ≤ u3) (h_u3 : u3 ≤ 2147483647) (l_u4 : 0 ≤ u4) (h_u4 : u4 ≤ 98) (l_u5 : (-2147483648) ≤ u5) (h_u5 : u5 ≤ 2147483647) (l_u6 : 0 ≤ u6) (h_u6 : u6 ≤ 1) (hk : ∀ (r : Int) (M1 : Mm), Inv X S M1 → (∀ c p : Int, ¬ c = 344 ∧ ¬ c = 345 ∧ ¬ (c = 336 ∧ 18 ≤ p ∧ p ≤ 18) → M1 c p = m0 c p) → (-2147483648) ≤ r → r ≤ 2147483647 → K r M1) : wp_X12_turnedBy S m0 336 u1 u2 u3 u4 u5 u6 K := by
  have Fm0 : ∀ c p : Int, ¬ c = 344 ∧ ¬ c = 345 ∧ ¬ (c = 336 ∧ 18 ≤ p ∧ p ≤ 18) → m0 c p = m0 c p := fun c p _ => rfl
  refine u_X12_turnedBy ?_
  refine g_C ?_
  refine g_C ?_
  have L_n_l162 : ∀ (n_l162 : Nat) (u7 : Int) (u8 : Int) (u9 : Int) (m10 : Mm), Inv X S m10 → (∀ c p : Int, ¬ c = 344 ∧ ¬ c = 345 ∧ ¬ (c = 336 ∧ 18 ≤ p ∧ p ≤ 18) → m10 c p = m0 c p) → (-2147483648) ≤ u7 → u7 ≤ 2147483647 → 0 ≤ u8 → u8 ≤ 104 → 0 ≤ u9 → u9 ≤ 98 → 99 - u9 ≤ (n_l162 : Int) → wp_X12_turnedBy_9 S K n_l162 336 u1 u2 u4 u5 u6 u7 u8 u9 m10 := by
    intro n_l162
    induction n_l162 with
    | zero => intro u7 u8 u9 m10 hm10 Fm10 bu7 cu7 bu8 cu8 bu9 cu9 zn_l162; exfalso; omega
    | succ n_l162 ih_n_l162 =>
      intro u7 u8 u9 m10 hm10 Fm10 bu7 cu7 bu8 cu8 bu9 cu9 zn_l162
      refine u_X12_turnedBy_9 ?_
      refine g_if (fun w163 => ?_) (fun w163 => ?_)
      · exact hk u7 m10 hm10 Fm10 (by omega) (by omega)
      · refine g_Aw (fun v164 bv164 cv164 => ?_)
        refine g_C ?_
        refine ⟨hS.k336, ?_⟩
        refine z_X12_turnsIn hS hm10 (by omega) (by omega) (by omega) (by omega) (by omega) (by omega) (by omega) (by omega) (by omega) (by omega) (by omega) (by omega) (by omega) (by omega) (fun v165 m166 hm166 fm166 bv165 cv165 => ?_)
        have Fm166 : ∀ c p : Int, ¬ c = 344 ∧ ¬ c = 345 ∧ ¬ (c = 336 ∧ 18 ≤ p ∧ p ≤ 18) → m166 c p = m0 c p := fun c p h => (fm166 c p (by omega)).trans (Fm10 c p h)
        refine g_Aw (fun v167 bv167 cv167 => ?_)
        refine g_C ?_
        refine u_X12_atMost ?_
        refine g_if (fun w168 => ?_) (fun w168 => ?_)
        · refine ⟨hS.k336, ?_⟩
          refine u_X12_moreTired ?_
          refine g_C ?_
          refine ⟨hS.k336, ?_⟩
          refine u_X12_handOf ?_
          refine g_getr 20 346 rfl hS.k336 hm166.f_336_20 (by decide) ?_
          refine g_C ?_
          refine g_C ?_
          refine g_M (by omega) (by omega) ?_
          refine g_A (by omega) (by omega) ?_
          refine g_A (by omega) (by omega) ?_
          refine g_ld (0) (5) hS.k346 hS.l346 (by omega) (by omega) (fam_346_14_5_0_4 hm166 (a := u1) (by omega) (by omega) (by omega)) (fun v169 ev169 bv169 cv169 => ?_)
          refine g_A (by omega) (by omega) ?_
          refine g_C ?_
          refine u_X12_atMost ?_
          refine g_if (fun w170 => ?_) (fun w170 => ?_)
          · refine g_A (by omega) (by omega) ?_
            exact ih_n_l162 v167 (u8 + v169) (u9 + 1) m166 hm166 Fm166 (by omega) (by omega) (by omega) (by omega) (by omega) (by omega) (by omega)
          · refine g_A (by omega) (by omega) ?_
            exact ih_n_l162 v167 99 (u9 + 1) m166 hm166 Fm166 (by omega) (by omega) (by omega) (by omega) (by omega) (by omega) (by omega)
        · refine ⟨hS.k336, ?_⟩
          refine u_X12_moreTired ?_
          refine g_C ?_
          refine ⟨hS.k336, ?_⟩
          refine u_X12_handOf ?_
          refine g_getr 20 346 rfl hS.k336 hm166.f_336_20 (by decide) ?_
          refine g_C ?_
          refine g_C ?_
          refine g_M (by omega) (by omega) ?_
          refine g_A (by omega) (by omega) ?_
          refine g_A (by omega) (by omega) ?_
          refine g_ld (0) (5) hS.k346 hS.l346 (by omega) (by omega) (fam_346_14_5_0_4 hm166 (a := u1) (by omega) (by omega) (by omega)) (fun v171 ev171 bv171 cv171 => ?_)
          refine g_A (by omega) (by omega) ?_
          refine g_C ?_
          refine u_X12_atMost ?_
          refine g_if (fun w172 => ?_) (fun w172 => ?_)
          · refine g_A (by omega) (by omega) ?_
            exact ih_n_l162 999 (u8 + v171) (u9 + 1) m166 hm166 Fm166 (by omega) (by omega) (by omega) (by omega) (by omega) (by omega) (by omega)
          · refine g_A (by omega) (by omega) ?_
            exact ih_n_l162 999 99 (u9 + 1) m166 hm166 Fm166 (by omega) (by omega) (by omega) (by omega) (by omega) (by omega) (by omega)
  exact ⟨99, L_n_l162 99 u3 0 0 m0 hm0 Fm0 (by omega) (by omega) (by omega) (by omega) (by omega) (by omega) (by omega)⟩
theorem z_X12_alikeBy {X : Mm} {S : Sh} {m0 : Mm} {K : Int → Mm → Prop} {u1 u2 : Int} (hS : Shp S) (hm0 : Inv X S m0) (l_u1 : 1 ≤ u1) (h_u1 : u1 ≤ 31) (l_u2 : 1 ≤ u2) (h_u2 : u2 ≤ 20) (hk : ∀ (r : Int) (M1 : Mm), Inv X S M1 → 0 ≤ r → r ≤ 2147483647 → K r M1) : wp_X12_alikeBy S m0 336 u1 u2 K := by
  refine u_X12_alikeBy ?_
  refine g_C ?_
  have L_n_l3926 : ∀ (n_l3926 : Nat) (u4 : Int) (m5 : Mm), Inv X S m5 → 0 ≤ u4 → u4 ≤ 5 → 6 - u4 ≤ (n_l3926 : Int) → wp_X12_alikeBy_2 S K n_l3926 336 u1 u2 u4 m5 := by
    intro n_l3926
    induction n_l3926 with
    | zero => intro u4 m5 hm5 bu4 cu4 zn_l3926; exfalso; omega
    | succ n_l3926 ih_n_l3926 =>
      intro u4 m5 hm5 bu4 cu4 zn_l3926
      refine u_X12_alikeBy_2 ?_
      refine g_getr 20 346 rfl hS.k336 hm5.f_336_20 (by decide) ?_
      refine g_C ?_
      refine g_ld (0) (5) hS.k346 hS.l346 (by omega) (by omega) (hm5.f_346_4) (fun v3927 ev3927 bv3927 cv3927 => ?_)
      refine g_if (fun w3928 => ?_) (fun w3928 => ?_)
      · refine g_C ?_
        refine g_C ?_
        have L_n_l5084 : ∀ (n_l5084 : Nat) (u3930 : Int) (u3931 : Int), 0 ≤ u3930 → u3930 ≤ 2147483647 → 0 ≤ u3931 → u3931 ≤ 5 → 6 - u3931 ≤ (n_l5084 : Int) → wp_X12_alikeBy_57 S K n_l5084 336 u3930 u3931 m5 := by
          intro n_l5084
          induction n_l5084 with
          | zero => intro u3930 u3931 bu3930 cu3930 bu3931 cu3931 zn_l5084; exfalso; omega
          | succ n_l5084 ih_n_l5084 =>
            intro u3930 u3931 bu3930 cu3930 bu3931 cu3931 zn_l5084
            refine u_X12_alikeBy_57 ?_
            refine g_getr 20 346 rfl hS.k336 hm5.f_336_20 (by decide) ?_
            refine g_C ?_
            refine g_ld (0) (5) hS.k346 hS.l346 (by omega) (by omega) (hm5.f_346_4) (fun v5085 ev5085 bv5085 cv5085 => ?_)
            have qv5085 : v5085 = v3927 := (ev5085.trans (hm5.g (by decide))).trans ((ev3927.trans (hm5.g (by decide))).symm)
            refine g_if (fun w5086 => ?_) (fun w5086 => ?_)
            · exact hk u3930 m5 hm5 (by omega) (by omega)
            · refine g_C ?_
              refine g_C ?_
              have L_n_l5277 : ∀ (n_l5277 : Nat) (u5090 : Int) (u5091 : Int), (-2147483648) ≤ u5090 → u5090 ≤ 2147483647 → 0 ≤ u5091 → u5091 ≤ 5 → 6 - u5091 ≤ (n_l5277 : Int) → wp_X12_alikeBy_74 S (fun a0 a1 a2 M => wp_X12_alikeBy_57 S K n_l5084 a0 a1 a2 M) K n_l5277 336 u3930 u3931 u5090 u5091 m5 := by
                intro n_l5277
                induction n_l5277 with
                | zero => intro u5090 u5091 bu5090 cu5090 bu5091 cu5091 zn_l5277; exfalso; omega
                | succ n_l5277 ih_n_l5277 =>
                  intro u5090 u5091 bu5090 cu5090 bu5091 cu5091 zn_l5277
                  refine u_X12_alikeBy_74 ?_
                  refine g_getr 20 346 rfl hS.k336 hm5.f_336_20 (by decide) ?_
                  refine g_C ?_
                  refine g_ld (0) (5) hS.k346 hS.l346 (by omega) (by omega) (hm5.f_346_4) (fun v5278 ev5278 bv5278 cv5278 => ?_)
                  have qv5278 : v5278 = v3927 := (ev5278.trans (hm5.g (by decide))).trans ((ev3927.trans (hm5.g (by decide))).symm)
                  refine g_if (fun w5279 => ?_) (fun w5279 => ?_)
                  · refine g_if (fun w5280 => ?_) (fun w5280 => ?_)
                    · refine u_X12_alikeBy_140 ?_
                      refine g_A (by omega) (by omega) ?_
                      exact ih_n_l5084 u3930 (u3931 + 1) (by omega) (by omega) (by omega) (by omega) (by omega)
                    · refine u_X12_alikeBy_140 ?_
                      refine g_A (by omega) (by omega) ?_
                      exact ih_n_l5084 u5090 (u3931 + 1) (by omega) (by omega) (by omega) (by omega) (by omega)
                  · refine g_getr 30 351 rfl hS.k336 hm5.f_336_30 (by decide) ?_
                    refine g_ld (-2147483648) (2147483647) hS.k351 hS.l351 (by omega) (by omega) (hm5.a_351 (by omega) (by omega)) (fun v5281 ev5281 bv5281 cv5281 => ?_)
                    refine g_if (fun w5282 => ?_) (fun w5282 => ?_)
                    · refine u_X12_alikeBy_118 ?_
                      refine g_C ?_
                      refine u_X12_alikeBy_119 ?_
                      refine g_A (by omega) (by omega) ?_
                      refine g_A (by omega) (by omega) ?_
                      exact ih_n_l5277 (u5090 + 0) (u5091 + 1) (by omega) (by omega) (by omega) (by omega) (by omega)
                    · refine g_getr 30 351 rfl hS.k336 hm5.f_336_30 (by decide) ?_
                      refine g_ld (-2147483648) (2147483647) hS.k351 hS.l351 (by omega) (by omega) (hm5.a_351 (by omega) (by omega)) (fun v5283 ev5283 bv5283 cv5283 => ?_)
                      have qv5283 : v5283 = v5281 := ev5283.trans ev5281.symm
                      refine g_getr 30 351 rfl hS.k336 hm5.f_336_30 (by decide) ?_
                      refine g_ld (-2147483648) (2147483647) hS.k351 hS.l351 (by omega) (by omega) (hm5.a_351 (by omega) (by omega)) (fun v5284 ev5284 bv5284 cv5284 => ?_)
                      refine g_if (fun w5285 => ?_) (fun w5285 => ?_)
                      · refine u_X12_alikeBy_118 ?_
                        refine g_C ?_
                        refine u_X12_alikeBy_119 ?_
                        refine g_A (by omega) (by omega) ?_
                        refine g_A (by omega) (by omega) ?_
                        exact ih_n_l5277 (u5090 + 0) (u5091 + 1) (by omega) (by omega) (by omega) (by omega) (by omega)
                      · refine g_C ?_
                        refine u_X12_alikeBy_119 ?_
                        refine g_Aw (fun v5286 bv5286 cv5286 => ?_)
                        refine g_A (by omega) (by omega) ?_
                        exact ih_n_l5277 v5286 (u5091 + 1) (by omega) (by omega) (by omega) (by omega) (by omega)
              exact ⟨6, L_n_l5277 6 0 0 (by omega) (by omega) (by omega) (by omega) (by omega)⟩
        exact ⟨6, L_n_l5084 6 0 0 (by omega) (by omega) (by omega) (by omega) (by omega)⟩
      · refine g_getr 30 351 rfl hS.k336 hm5.f_336_30 (by decide) ?_
        refine u_X12_isOf ?_
        refine g_iShr (by omega) (by omega) (fun v5287 bv5287 cv5287 => ?_)
        refine g_C ?_
        refine g_iAndR (by omega) (by omega) (fun v5288 dv5288 bv5288 cv5288 => ?_)
        refine g_C ?_
        refine g_if (fun w5289 => ?_) (fun w5289 => ?_)
        · refine g_C ?_
          refine ⟨by omega, ?_⟩
          refine g_ifT (by omega) ?_
          refine g_C ?_
          refine u_X12_alikeBy_45 ?_
          refine g_st hS.k351 hS.l351 (by omega) (by omega) (hm5.wa_351 (by omega) (by omega) (by omega) (by omega)) (fun m5290 em5290 hm5290 => ?_)
          refine g_A (by omega) (by omega) ?_
          exact ih_n_l3926 (u4 + 1) m5290 hm5290 (by omega) (by omega) (by omega)
        · refine g_C ?_
          refine ⟨by omega, ?_⟩
          refine g_ifF (by omega) ?_
          refine g_C ?_
          refine g_C ?_
          refine g_getr 20 346 rfl hS.k336 hm5.f_336_20 (by decide) ?_
          refine g_C ?_
          refine g_ld (-2147483648) (2147483647) hS.k346 hS.l346 (by omega) (by omega) (hm5.f_346_7) (fun v5291 ev5291 bv5291 cv5291 => ?_)
          refine g_C ?_
          refine ⟨hS.k336, ?_⟩
          refine z_X12_turnedBy hS hm5 (by omega) (by omega) (by omega) (by omega) (by omega) (by omega) (by omega) (by omega) (by omega) (by omega) (by omega) (by omega) (fun v5292 m5293 hm5293 fm5293 bv5292 cv5292 => ?_)
          refine u_X12_alikeBy_45 ?_
          refine g_st hS.k351 hS.l351 (by omega) (by omega) (hm5293.wa_351 (by omega) (by omega) (by omega) (by omega)) (fun m5294 em5294 hm5294 => ?_)
          refine g_A (by omega) (by omega) ?_
          exact ih_n_l3926 (u4 + 1) m5294 hm5294 (by omega) (by omega) (by omega)
  exact ⟨6, L_n_l3926 6 0 m0 hm0 (by omega) (by omega) (by omega)⟩
def hsum (M : Mm) : Int := M 349 0 + M 349 1 + M 349 2 + M 349 3 + M 349 4 + M 349 5
def Wp (R : Int → Int → Int) (P t : Int) (f : Int → Int) : Prop := ∀ a : Int, 0 ≤ a → a < P → ¬ a = t → f a < 99 → ∃ b : Int, 0 ≤ b ∧ b < P ∧ 0 < R a b ∧ f b + R a b ≤ f a
def Np (R : Int → Int → Int) (f : Int → Int) (a b : Int) : Prop := R a b = 0 ∨ f a ≤ f b + R a b
theorem hsum_b {X : Mm} {S : Sh} {M : Mm} (h : Inv X S M) : 0 ≤ hsum M ∧ hsum M ≤ 594 := by
  have h0 := h.a_349 (i := 0) (by decide) (by decide)
  have h1 := h.a_349 (i := 1) (by decide) (by decide)
  have h2 := h.a_349 (i := 2) (by decide) (by decide)
  have h3 := h.a_349 (i := 3) (by decide) (by decide)
  have h4 := h.a_349 (i := 4) (by decide) (by decide)
  have h5 := h.a_349 (i := 5) (by decide) (by decide)
  unfold hsum
  omega
theorem hsum_up {M : Mm} {a v : Int} (h0 : 0 ≤ a) (h5 : a ≤ 5) (hv : v < M 349 a) : hsum (up M 349 a v) < hsum M := by
  have e : ∀ p : Int, up M 349 a v 349 p = if p = a then v else M 349 p := by
    intro p
    by_cases z : p = a
    · rw [if_pos z, z, up_at]
    · rw [if_neg z, up_ne (by omega)]
  unfold hsum
  simp only [e]
  rcases (show a = 0 ∨ a = 1 ∨ a = 2 ∨ a = 3 ∨ a = 4 ∨ a = 5 by omega) with q | q | q | q | q | q <;> subst q <;> simp <;> omega
theorem Wp_up {R : Int → Int → Int} {P t : Int} {f g : Int → Int} {a b : Int} (h : Wp R P t f) (hb0 : 0 ≤ b) (hb1 : b < P) (hR : 0 < R a b) (hlt : f b + R a b < f a) (ga : g a = f b + R a b) (gx : ∀ x : Int, ¬ x = a → g x = f x) : Wp R P t g := by
  intro x x0 x1 x2 x3
  by_cases e : x = a
  · subst e
    exact ⟨b, hb0, hb1, hR, by rw [gx b (fun z => by rw [z] at hlt hR; omega), ga]; omega⟩
  · rw [gx x e] at x3 ⊢
    obtain ⟨y, y0, y1, y2, y3⟩ := h x x0 x1 x2 x3
    refine ⟨y, y0, y1, y2, ?_⟩
    by_cases z : y = a
    · rw [z] at y3 ⊢; rw [ga]; omega
    · rw [gx y z]; exact y3
theorem z_X12_fillsHours {X : Mm} {S : Sh} {m0 : Mm} {K : Mm → Prop} {u1 : Int} (hS : Shp S) (hm0 : Inv X S m0) (l_u1 : 0 ≤ u1) (h_u1 : u1 ≤ 5) (p0 : u1 < m0 346 0) (hk : ∀ (M1 : Mm), Inv X S M1 → (∀ c p : Int, ¬ c = 349 → M1 c p = m0 c p) → (HP M1 u1) → K M1) : wp_X12_fillsHours S m0 336 u1 K := by
  have bP := hm0.f_346_0
  refine u_X12_fillsHours ?_
  refine g_C ?_
  have L2 : ∀ (n : Nat) (k : Int) (m : Mm), Inv X S m → (∀ c p : Int, ¬ c = 349 → m c p = m0 c p) → 0 ≤ k → k ≤ 6 → (∀ p : Int, 0 ≤ p → p < k → (p = u1 → m 349 p = 0) ∧ (¬ p = u1 → m 349 p = 99)) → 7 - k ≤ (n : Int) → wp_X12_fillsHours_2 S K n 336 u1 k m := by
    intro n
    induction n with
    | zero => intro k m _ _ _ _ _ h; exfalso; omega
    | succ n ih =>
      intro k m hm F k0 k6 hv hn
      have eP : m 346 0 = m0 346 0 := F 346 0 (by decide)
      refine u_X12_fillsHours_2 ?_
      refine g_getr 20 346 rfl hS.k336 hm.f_336_20 (by decide) ?_
      refine g_C ?_
      refine g_ld (0) (6) hS.k346 hS.l346 (by omega) (by omega) (hm.f_346_0) (fun v ev bv cv => ?_)
      refine g_if (fun w => ?_) (fun w => ?_)
      · refine g_C ?_
        clear ih
        have L37 : ∀ (n : Nat) (more : Int) (m : Mm), Inv X S m → (∀ c p : Int, ¬ c = 349 → m c p = m0 c p) → (more = 0 ∨ more = 1) → m 349 u1 = 0 → Wp (rd m0) (m0 346 0) u1 (m 349) → (more = 0 → ∀ a b : Int, 0 ≤ a → a < m0 346 0 → 0 ≤ b → b < m0 346 0 → Np (rd m0) (m 349) a b) → 1 ≤ (n : Int) → (more = 0 ∨ hsum m + 2 ≤ n) → wp_X12_fillsHours_37 S K n 336 more m := by
          intro n
          induction n with
          | zero => intro more m _ _ _ _ _ _ h _; exfalso; omega
          | succ n ih37 =>
            intro more m hm F hmo h0 hW hN _ hf
            refine u_X12_fillsHours_37 ?_
            refine g_if (fun w => ?_) (fun w => ?_)
            · refine hk m hm F ⟨h0, fun a a0 a1 a2 a3 => ?_⟩
              rw [F 346 0 (by decide)] at a1
              obtain ⟨b, b0, b1, b2, b3⟩ := hW a a0 a1 a2 a3
              have er := rd_same (M := m0) (M1 := m) (fun p => F 346 p (by decide)) a b
              have hn := hN w a b a0 a1 b0 b1
              unfold Np at hn
              exact ⟨b, b0, by rw [F 346 0 (by decide)]; exact b1, by omega, by omega⟩
            · have hs := hsum_b hm
              refine g_C ?_
              refine g_C ?_
              have L45 : ∀ (n45 : Nat) (more a : Int) (m' : Mm), Inv X S m' → (∀ c p : Int, ¬ c = 349 → m' c p = m0 c p) → (more = 0 ∨ more = 1) → m' 349 u1 = 0 → Wp (rd m0) (m0 346 0) u1 (m' 349) → (more = 0 → ∀ a' b : Int, 0 ≤ a' → a' < a → 0 ≤ b → b < m0 346 0 → Np (rd m0) (m' 349) a' b) → hsum m' ≤ hsum m → (more = 0 ∨ hsum m' < hsum m) → 0 ≤ a → a ≤ 6 → 7 - a ≤ (n45 : Int) → wp_X12_fillsHours_45 S (fun a0 a1 M => wp_X12_fillsHours_37 S K n a0 a1 M) K n45 336 more a m' := by
                intro n45
                induction n45 with
                | zero => intro more a m' _ _ _ _ _ _ _ _ _ _ h; exfalso; omega
                | succ n45 ih45 =>
                  intro more a m' hm' F' hmo' h0' hW' hN' hs1 hs2 a0 a6 hn45
                  have eP' : m' 346 0 = m0 346 0 := F' 346 0 (by decide)
                  refine u_X12_fillsHours_45 ?_
                  refine g_getr 20 346 rfl hS.k336 hm'.f_336_20 (by decide) ?_
                  refine g_C ?_
                  refine g_ld (0) (6) hS.k346 hS.l346 (by omega) (by omega) (hm'.f_346_0) (fun v' ev' bv' cv' => ?_)
                  refine g_if (fun w' => ?_) (fun w' => ?_)
                  · exact ih37 more m' hm' F' hmo' h0' hW' (fun hz x y x0 x1 y0 y1 => hN' hz x y x0 (by omega) y0 y1) (by omega) (by omega)
                  · refine g_C ?_
                    have L58 : ∀ (n58 : Nat) (more b : Int) (m2 : Mm), Inv X S m2 → (∀ c p : Int, ¬ c = 349 → m2 c p = m0 c p) → (more = 0 ∨ more = 1) → m2 349 u1 = 0 → Wp (rd m0) (m0 346 0) u1 (m2 349) → (more = 0 → ∀ a' b' : Int, 0 ≤ a' → (a' < a ∨ (a' = a ∧ b' < b)) → 0 ≤ b' → b' < m0 346 0 → Np (rd m0) (m2 349) a' b') → hsum m2 ≤ hsum m → (more = 0 ∨ hsum m2 < hsum m) → 0 ≤ b → b ≤ 6 → 7 - b ≤ (n58 : Int) → wp_X12_fillsHours_58 S (fun a0 a1 M => wp_X12_fillsHours_37 S K n a0 a1 M) (fun a0 a1 a2 M => wp_X12_fillsHours_45 S (fun a0 a1 M => wp_X12_fillsHours_37 S K n a0 a1 M) K n45 a0 a1 a2 M) K n58 336 more a b m2 := by
                      intro n58
                      induction n58 with
                      | zero => intro more b m2 _ _ _ _ _ _ _ _ _ _ h; exfalso; omega
                      | succ n58 ih58 =>
                        intro more b m2 hm2 F2 hmo2 h02 hW2 hN2 ht1 ht2 b0 b6 hn58
                        have eP2 : m2 346 0 = m0 346 0 := F2 346 0 (by decide)
                        have er := rd_same (M := m0) (M1 := m2) (fun p => F2 346 p (by decide)) a b
                        refine u_X12_fillsHours_58 ?_
                        refine g_getr 20 346 rfl hS.k336 hm2.f_336_20 (by decide) ?_
                        refine g_C ?_
                        refine g_ld (0) (6) hS.k346 hS.l346 (by omega) (by omega) (hm2.f_346_0) (fun v2 ev2 bv2 cv2 => ?_)
                        refine g_if (fun w2 => ?_) (fun w2 => ?_)
                        · refine g_A (by omega) (by omega) ?_
                          exact ih45 more (a + 1) m2 hm2 F2 hmo2 h02 hW2 (fun hz x y x0 x1 y0 y1 => hN2 hz x y x0 (by omega) y0 y1) ht1 ht2 (by omega) (by omega) (by omega)
                        · refine ⟨hS.k336, ?_⟩
                          refine zr_roadOf hS hm2 (fun r0 r5 => ?_)
                          have nx : (more = 0 → Np (rd m0) (m2 349) a b) → wp_X12_fillsHours_123 S (fun a0 a1 M => wp_X12_fillsHours_37 S K n a0 a1 M) (fun a0 a1 a2 M => wp_X12_fillsHours_45 S (fun a0 a1 M => wp_X12_fillsHours_37 S K n a0 a1 M) K n45 a0 a1 a2 M) (fun a0 a1 a2 a3 M => wp_X12_fillsHours_58 S (fun a0 a1 M => wp_X12_fillsHours_37 S K n a0 a1 M) (fun a0 a1 a2 M => wp_X12_fillsHours_45 S (fun a0 a1 M => wp_X12_fillsHours_37 S K n a0 a1 M) K n45 a0 a1 a2 M) K n58 a0 a1 a2 a3 M) K 336 more a b m2 := by
                            intro hnp
                            refine u_X12_fillsHours_123 ?_
                            refine g_A (by omega) (by omega) ?_
                            refine ih58 more (b + 1) m2 hm2 F2 hmo2 h02 hW2 (fun hz x y x0 x1 y0 y1 => ?_) ht1 ht2 (by omega) (by omega) (by omega)
                            by_cases z : x = a ∧ y = b
                            · rw [z.1, z.2]; exact hnp hz
                            · exact hN2 hz x y x0 (by omega) y0 y1
                          refine g_if (fun w3 => ?_) (fun w3 => ?_)
                          · exact nx (fun _ => Or.inl (by omega))
                          · refine g_getr 27 349 rfl hS.k336 hm2.f_336_27 (by decide) ?_
                            refine g_ld (0) (99) hS.k349 hS.l349 (by omega) (by omega) (hm2.a_349 (by omega) (by omega)) (fun x ex bx cx => ?_)
                            refine g_A (by omega) (by omega) ?_
                            refine g_getr 27 349 rfl hS.k336 hm2.f_336_27 (by decide) ?_
                            refine g_ld (0) (99) hS.k349 hS.l349 (by omega) (by omega) (hm2.a_349 (by omega) (by omega)) (fun y ey by' cy => ?_)
                            refine g_if (fun w4 => ?_) (fun w4 => ?_)
                            · refine g_getr 27 349 rfl hS.k336 hm2.f_336_27 (by decide) ?_
                              refine g_getr 27 349 rfl hS.k336 hm2.f_336_27 (by decide) ?_
                              refine g_ld (0) (99) hS.k349 hS.l349 (by omega) (by omega) (hm2.a_349 (by omega) (by omega)) (fun z ez bz cz => ?_)
                              refine g_A (by omega) (by omega) ?_
                              have hdec : hsum (up m2 349 a (z + rd m2 a b)) < hsum m2 := hsum_up (by omega) (by omega) (by omega)
                              have hneq : ¬ a = u1 := fun q => by rw [q] at ey; omega
                              refine g_st hS.k349 hS.l349 (by omega) (by omega) (hm2.wa_349 (by omega) (by omega) (by omega) (by omega)) (fun m3 e3 hm3 => ?_)
                              rw [← e3] at hdec
                              refine g_C ?_
                              refine u_X12_fillsHours_123 ?_
                              refine g_A (by omega) (by omega) ?_
                              refine ih58 1 (b + 1) m3 hm3 (fun c p hc => ?_) (Or.inr rfl) ?_ ?_ (fun hz => absurd hz (by decide)) (by omega) (by omega) (by omega) (by omega) (by omega)
                              · rw [e3, up_ne (by omega)]; exact F2 c p hc
                              · rw [e3, up_ne (by omega)]; exact h02
                              · refine Wp_up (a := a) (b := b) hW2 b0 (by omega) (by omega) (by omega) ?_ (fun q hq => ?_)
                                · rw [e3, up_at, er, ez]
                                · rw [e3, up_ne (by omega)]
                            · exact nx (fun _ => Or.inr (by omega))
                    exact ⟨7, L58 7 more 0 m' hm' F' hmo' h0' hW' (fun hz x y x0 x1 y0 y1 => hN' hz x y x0 (by omega) y0 y1) hs1 hs2 (by omega) (by omega) (by omega)⟩
              exact ⟨7, L45 7 0 0 m hm F (Or.inl rfl) h0 hW (fun hz x y x0 x1 => absurd x1 (by omega)) (by omega) (Or.inl rfl) (by omega) (by omega) (by omega)⟩
        have hs := hsum_b hm
        exact ⟨600, L37 600 1 m hm F (Or.inr rfl) ((hv u1 l_u1 (by omega)).1 rfl) (fun a a0 a1 a2 a3 => absurd ((hv a a0 (by omega)).2 a2) (by omega)) (fun hz => absurd hz (by decide)) (by omega) (by omega)⟩
      · refine g_getr 27 349 rfl hS.k336 hm.f_336_27 (by decide) ?_
        refine g_if (fun w4 => ?_) (fun w4 => ?_)
        · refine g_C ?_
          refine u_X12_fillsHours_28 ?_
          refine g_st hS.k349 hS.l349 (by omega) (by omega) (hm.wa_349 (by omega) (by omega) (by omega) (by omega)) (fun m3 e3 hm3 => ?_)
          refine g_A (by omega) (by omega) ?_
          refine ih (k + 1) m3 hm3 (fun c p hc => ?_) (by omega) (by omega) (fun p q0 q1 => ?_) (by omega)
          · rw [e3, up_ne (by omega)]; exact F c p hc
          · by_cases z : p = k
            · rw [e3, z, up_at]; exact ⟨fun q => by omega, fun _ => rfl⟩
            · rw [e3, up_ne (by omega)]; exact hv p q0 (by omega)
        · refine g_C ?_
          refine u_X12_fillsHours_28 ?_
          refine g_st hS.k349 hS.l349 (by omega) (by omega) (hm.wa_349 (by omega) (by omega) (by omega) (by omega)) (fun m3 e3 hm3 => ?_)
          refine g_A (by omega) (by omega) ?_
          refine ih (k + 1) m3 hm3 (fun c p hc => ?_) (by omega) (by omega) (fun p q0 q1 => ?_) (by omega)
          · rw [e3, up_ne (by omega)]; exact F c p hc
          · by_cases z : p = k
            · rw [e3, z, up_at]; exact ⟨fun _ => rfl, fun q => by omega⟩
            · rw [e3, up_ne (by omega)]; exact hv p q0 (by omega)
  exact ⟨7, L2 7 0 m0 hm0 (fun _ _ _ => rfl) (by omega) (by omega) (fun p q0 q1 => absurd q1 (by omega)) (by omega)⟩
theorem z_X12_brings {X : Mm} {S : Sh} {m0 : Mm} {K : Int → Mm → Prop} {u1 u2 u3 : Int} (hS : Shp S) (hm0 : Inv X S m0) (l_u1 : (-2147483648) ≤ u1) (h_u1 : u1 ≤ 2147483647) (l_u2 : (-2147483648) ≤ u2) (h_u2 : u2 ≤ 2147483647) (l_u3 : (-2147483648) ≤ u3) (h_u3 : u3 ≤ 2147483647) (hk : ∀ (r : Int) (M1 : Mm), Inv X S M1 → (-2147483648) ≤ r → r ≤ 2147483647 → K r M1) : wp_X12_brings S m0 336 u1 u2 u3 K := by
  refine u_X12_brings ?_
  refine ⟨hS.k336, ?_⟩
  refine u_X12_isHand ?_
  refine g_if (fun w1 => ?_) (fun w1 => ?_)
  · refine g_C ?_
    refine ⟨by omega, ?_⟩
    refine g_ifT (by omega) ?_
    refine g_C ?_
    exact hk (-1) m0 hm0 (by omega) (by omega)
  · refine g_getr 20 346 rfl hS.k336 hm0.f_336_20 (by decide) ?_
    refine g_C ?_
    refine g_ld (0) (5) hS.k346 hS.l346 (by omega) (by omega) (hm0.f_346_4) (fun v2 ev2 bv2 cv2 => ?_)
    refine g_if (fun w3 => ?_) (fun w3 => ?_)
    · refine g_C ?_
      refine ⟨by omega, ?_⟩
      refine g_ifT (by omega) ?_
      refine g_C ?_
      exact hk (-1) m0 hm0 (by omega) (by omega)
    · refine g_C ?_
      refine ⟨by omega, ?_⟩
      refine g_ifF (by omega) ?_
      refine ⟨hS.k336, ?_⟩
      refine u_X12_isJug ?_
      refine g_if (fun w4 => ?_) (fun w4 => ?_)
      · refine g_C ?_
        refine ⟨by omega, ?_⟩
        refine g_ifT (by omega) ?_
        refine g_C ?_
        exact hk (-1) m0 hm0 (by omega) (by omega)
      · refine g_getr 20 346 rfl hS.k336 hm0.f_336_20 (by decide) ?_
        refine g_C ?_
        refine g_ld (0) (4) hS.k346 hS.l346 (by omega) (by omega) (hm0.f_346_5) (fun v5 ev5 bv5 cv5 => ?_)
        refine g_if (fun w6 => ?_) (fun w6 => ?_)
        · refine g_C ?_
          refine ⟨by omega, ?_⟩
          refine g_ifT (by omega) ?_
          refine g_C ?_
          exact hk (-1) m0 hm0 (by omega) (by omega)
        · refine g_C ?_
          refine ⟨by omega, ?_⟩
          refine g_ifF (by omega) ?_
          refine ⟨hS.k336, ?_⟩
          refine u_X12_stands ?_
          refine g_C ?_
          refine ⟨hS.k336, ?_⟩
          refine u_X12_jugOf ?_
          refine g_getr 20 346 rfl hS.k336 hm0.f_336_20 (by decide) ?_
          refine g_C ?_
          refine g_C ?_
          refine g_M (by omega) (by omega) ?_
          refine g_A (by omega) (by omega) ?_
          refine g_A (by omega) (by omega) ?_
          refine g_ld (-1) (4) hS.k346 hS.l346 (by omega) (by omega) (fam_346_36_4_0_3 hm0 (a := u2) (by omega) (by omega) (by omega)) (fun v7 ev7 bv7 cv7 => ?_)
          refine g_if (fun w8 => ?_) (fun w8 => ?_)
          · refine g_C ?_
            refine ⟨by omega, ?_⟩
            refine g_ifT (by omega) ?_
            refine g_C ?_
            exact hk (-1) m0 hm0 (by omega) (by omega)
          · refine g_C ?_
            refine ⟨hS.k336, ?_⟩
            refine u_X12_jugOf ?_
            refine g_getr 20 346 rfl hS.k336 hm0.f_336_20 (by decide) ?_
            refine g_C ?_
            refine g_C ?_
            refine g_M (by omega) (by omega) ?_
            refine g_A (by omega) (by omega) ?_
            refine g_A (by omega) (by omega) ?_
            refine g_ld (0) (1) hS.k346 hS.l346 (by omega) (by omega) (fam_346_38_4_0_3 hm0 (a := u2) (by omega) (by omega) (by omega)) (fun v9 ev9 bv9 cv9 => ?_)
            refine g_if (fun w10 => ?_) (fun w10 => ?_)
            · refine g_C ?_
              refine ⟨by omega, ?_⟩
              refine g_ifT (by omega) ?_
              refine g_C ?_
              exact hk (-1) m0 hm0 (by omega) (by omega)
            · refine g_C ?_
              refine ⟨by omega, ?_⟩
              refine g_ifF (by omega) ?_
              refine ⟨hS.k336, ?_⟩
              refine u_X12_isPlace ?_
              refine g_if (fun w11 => ?_) (fun w11 => ?_)
              · refine g_C ?_
                refine ⟨by omega, ?_⟩
                refine g_ifF (by omega) ?_
                refine g_C ?_
                exact hk (-1) m0 hm0 (by omega) (by omega)
              · refine g_getr 20 346 rfl hS.k336 hm0.f_336_20 (by decide) ?_
                refine g_C ?_
                refine g_ld (0) (6) hS.k346 hS.l346 (by omega) (by omega) (hm0.f_346_0) (fun v12 ev12 bv12 cv12 => ?_)
                refine g_if (fun w13 => ?_) (fun w13 => ?_)
                · refine g_C ?_
                  refine ⟨by omega, ?_⟩
                  refine g_ifF (by omega) ?_
                  refine g_C ?_
                  exact hk (-1) m0 hm0 (by omega) (by omega)
                · refine g_C ?_
                  refine ⟨by omega, ?_⟩
                  refine g_ifT (by omega) ?_
                  refine ⟨hS.k336, ?_⟩
                  refine z_X12_fillsHours hS hm0 (by omega) (by omega) (by omega) (fun m14 hm14 fm14 ym14_0 => ?_)
                  refine g_getr 27 349 rfl hS.k336 hm14.f_336_27 (by decide) ?_
                  refine g_C ?_
                  refine ⟨hS.k336, ?_⟩
                  refine u_X12_jugOf ?_
                  refine g_getr 20 346 rfl hS.k336 hm14.f_336_20 (by decide) ?_
                  refine g_C ?_
                  refine g_C ?_
                  refine g_M (by omega) (by omega) ?_
                  refine g_A (by omega) (by omega) ?_
                  refine g_A (by omega) (by omega) ?_
                  refine g_ld (0) (5) hS.k346 hS.l346 (by omega) (by omega) (fam_346_35_4_0_3 hm14 (a := u2) (by omega) (by omega) (by omega)) (fun v15 ev15 bv15 cv15 => ?_)
                  refine g_ld (0) (99) hS.k349 hS.l349 (by omega) (by omega) (hm14.a_349 (by omega) (by omega)) (fun v16 ev16 bv16 cv16 => ?_)
                  refine g_C ?_
                  refine g_if (fun w17 => ?_) (fun w17 => ?_)
                  · refine g_C ?_
                    refine ⟨hS.k336, ?_⟩
                    refine u_X12_jugOf ?_
                    refine g_getr 20 346 rfl hS.k336 hm14.f_336_20 (by decide) ?_
                    refine g_C ?_
                    refine g_C ?_
                    refine g_M (by omega) (by omega) ?_
                    refine g_A (by omega) (by omega) ?_
                    refine g_A (by omega) (by omega) ?_
                    refine g_ld (-2147483648) (2147483647) hS.k346 hS.l346 (by omega) (by omega) (fam_346_37_4_0_3 hm14 (a := u2) (by omega) (by omega) (by omega)) (fun v18 ev18 bv18 cv18 => ?_)
                    refine g_getr 20 346 rfl hS.k336 hm14.f_336_20 (by decide) ?_
                    refine g_C ?_
                    refine g_ld (-2147483648) (2147483647) hS.k346 hS.l346 (by omega) (by omega) (hm14.f_346_7) (fun v19 ev19 bv19 cv19 => ?_)
                    refine g_C ?_
                    refine ⟨hS.k336, ?_⟩
                    refine z_X12_turnedBy hS hm14 (by omega) (by omega) (by omega) (by omega) (by omega) (by omega) (by omega) (by omega) (by omega) (by omega) (by omega) (by omega) (fun v20 m21 hm21 fm21 bv20 cv20 => ?_)
                    exact hk v20 m21 hm21 (by omega) (by omega)
                  · refine g_C ?_
                    exact hk (-2) m14 hm14 (by omega) (by omega)
theorem z_X12_nextPlace {X : Mm} {S : Sh} {m0 : Mm} {K : Int → Mm → Prop} {u1 : Int} (hS : Shp S) (hm0 : Inv X S m0) (l_u1 : 0 ≤ u1) (h_u1 : u1 ≤ 5) (hk : ∀ (r : Int), (-1) ≤ r → r ≤ 5 → K r m0) : wp_X12_nextPlace S m0 336 u1 K := by
  refine u_X12_nextPlace ?_
  refine g_C ?_
  have L_n_l61 : ∀ (n_l61 : Nat) (u3 : Int), 0 ≤ u3 → u3 ≤ 6 → 7 - u3 ≤ (n_l61 : Int) → wp_X12_nextPlace_2 S K n_l61 336 u1 u3 m0 := by
    intro n_l61
    induction n_l61 with
    | zero => intro u3 bu3 cu3 zn_l61; exfalso; omega
    | succ n_l61 ih_n_l61 =>
      intro u3 bu3 cu3 zn_l61
      refine u_X12_nextPlace_2 ?_
      refine g_getr 20 346 rfl hS.k336 hm0.f_336_20 (by decide) ?_
      refine g_C ?_
      refine g_ld (0) (6) hS.k346 hS.l346 (by omega) (by omega) (hm0.f_346_0) (fun v62 ev62 bv62 cv62 => ?_)
      refine g_if (fun w63 => ?_) (fun w63 => ?_)
      · refine g_C ?_
        exact hk (-1) (by omega) (by omega)
      · refine ⟨hS.k336, ?_⟩
        refine z_X12_roadOf hS hm0 (by omega) (by omega) (by omega) (by omega) (fun v64 bv64 cv64 => ?_)
        refine g_if (fun w65 => ?_) (fun w65 => ?_)
        · refine u_X12_nextPlace_45 ?_
          refine g_A (by omega) (by omega) ?_
          exact ih_n_l61 (u3 + 1) (by omega) (by omega) (by omega)
        · refine g_getr 27 349 rfl hS.k336 hm0.f_336_27 (by decide) ?_
          refine g_ld (0) (99) hS.k349 hS.l349 (by omega) (by omega) (hm0.a_349 (by omega) (by omega)) (fun v66 ev66 bv66 cv66 => ?_)
          refine ⟨hS.k336, ?_⟩
          refine z_X12_roadOf hS hm0 (by omega) (by omega) (by omega) (by omega) (fun v67 bv67 cv67 => ?_)
          refine g_A (by omega) (by omega) ?_
          refine g_getr 27 349 rfl hS.k336 hm0.f_336_27 (by decide) ?_
          refine g_ld (0) (99) hS.k349 hS.l349 (by omega) (by omega) (hm0.a_349 (by omega) (by omega)) (fun v68 ev68 bv68 cv68 => ?_)
          refine g_if (fun w69 => ?_) (fun w69 => ?_)
          · refine u_X12_nextPlace_45 ?_
            refine g_A (by omega) (by omega) ?_
            exact ih_n_l61 (u3 + 1) (by omega) (by omega) (by omega)
          · exact hk u3 (by omega) (by omega)
  exact ⟨7, L_n_l61 7 0 (by omega) (by omega) (by omega)⟩
theorem zn_nextPlace {X : Mm} {S : Sh} {m0 : Mm} {K : Int → Mm → Prop} {u1 : Int} (hS : Shp S) (hm0 : Inv X S m0) (l_u1 : 0 ≤ u1) (h_u1 : u1 ≤ 5) (hk : ∀ r : Int, 0 ≤ r → r < m0 346 0 → 0 < rd m0 u1 r → m0 349 r + rd m0 u1 r = m0 349 u1 → K r m0) (hb : ∃ b : Int, 0 ≤ b ∧ b < m0 346 0 ∧ 0 < rd m0 u1 b ∧ m0 349 b + rd m0 u1 b = m0 349 u1) : wp_X12_nextPlace S m0 336 u1 K := by
  obtain ⟨b, b0, b1, b2, b3⟩ := hb
  have bP := hm0.f_346_0
  refine u_X12_nextPlace ?_
  refine g_C ?_
  have L : ∀ (n : Nat) (k : Int), 0 ≤ k → k ≤ b → 7 - k ≤ (n : Int) → wp_X12_nextPlace_2 S K n 336 u1 k m0 := by
    intro n
    induction n with
    | zero => intro k _ _ h; exfalso; omega
    | succ n ih =>
      intro k k0 k1 hn
      refine u_X12_nextPlace_2 ?_
      refine g_getr 20 346 rfl hS.k336 hm0.f_336_20 (by decide) ?_
      refine g_C ?_
      refine g_ld (0) (6) hS.k346 hS.l346 (by omega) (by omega) (hm0.f_346_0) (fun v ev bv cv => ?_)
      refine g_ifF (by omega) ?_
      refine ⟨hS.k336, ?_⟩
      refine zr_roadOf hS hm0 (fun r0 r5 => ?_)
      have nx : ¬ k = b → wp_X12_nextPlace_45 S (fun a0 a1 a2 M => wp_X12_nextPlace_2 S K n a0 a1 a2 M) K 336 u1 k m0 := by
        intro hne
        refine u_X12_nextPlace_45 ?_
        refine g_A (by omega) (by omega) ?_
        exact ih (k + 1) (by omega) (by omega) (by omega)
      refine g_if (fun w => ?_) (fun w => ?_)
      · exact nx (fun z => by rw [z] at w; omega)
      · refine g_getr 27 349 rfl hS.k336 hm0.f_336_27 (by decide) ?_
        refine g_ld (0) (99) hS.k349 hS.l349 (by omega) (by omega) (hm0.a_349 (by omega) (by omega)) (fun x ex bx cx => ?_)
        refine ⟨hS.k336, ?_⟩
        refine zr_roadOf hS hm0 (fun r0' r5' => ?_)
        refine g_A (by omega) (by omega) ?_
        refine g_getr 27 349 rfl hS.k336 hm0.f_336_27 (by decide) ?_
        refine g_ld (0) (99) hS.k349 hS.l349 (by omega) (by omega) (hm0.a_349 (by omega) (by omega)) (fun y ey by' cy => ?_)
        refine g_if (fun w2 => ?_) (fun w2 => ?_)
        · refine nx (fun z => ?_)
          rw [z] at ex w2
          omega
        · exact hk k k0 (by omega) (by omega) (by omega)
  exact ⟨7, L 7 0 (by omega) b0 (by omega)⟩
def ind (x y : Int) : Int := if x < y then 1 else 0
theorem ind_b (x y : Int) : 0 ≤ ind x y ∧ ind x y ≤ 1 := by unfold ind; split <;> omega
theorem ind_m {x y z : Int} (h : z ≤ y) : ind x z ≤ ind x y := by
  unfold ind
  split
  · rw [if_pos (by omega)]; omega
  · split <;> omega
theorem ind_1 {x y : Int} (h : x < y) : ind x y = 1 := if_pos h
theorem ind_0 (x : Int) : ind x x = 0 := if_neg (by omega)
def below (f : Int → Int) (y : Int) : Int := ind (f 0) y + ind (f 1) y + ind (f 2) y + ind (f 3) y + ind (f 4) y + ind (f 5) y
theorem below_lt {f : Int → Int} {a b : Int} (b0 : 0 ≤ b) (b5 : b ≤ 5) (h : f b < f a) : below f (f b) < below f (f a) := by
  have m0 := ind_m (x := f 0) (z := f b) (y := f a) (by omega)
  have m1 := ind_m (x := f 1) (z := f b) (y := f a) (by omega)
  have m2 := ind_m (x := f 2) (z := f b) (y := f a) (by omega)
  have m3 := ind_m (x := f 3) (z := f b) (y := f a) (by omega)
  have m4 := ind_m (x := f 4) (z := f b) (y := f a) (by omega)
  have m5 := ind_m (x := f 5) (z := f b) (y := f a) (by omega)
  have h1 := ind_1 h
  have h2 := ind_0 (f b)
  unfold below
  rcases (show b = 0 ∨ b = 1 ∨ b = 2 ∨ b = 3 ∨ b = 4 ∨ b = 5 by omega) with q | q | q | q | q | q <;> subst q <;> omega
theorem below_b (f : Int → Int) {a : Int} (a0 : 0 ≤ a) (a5 : a ≤ 5) : 0 ≤ below f (f a) ∧ below f (f a) ≤ 5 := by
  have m0 := ind_b (f 0) (f a)
  have m1 := ind_b (f 1) (f a)
  have m2 := ind_b (f 2) (f a)
  have m3 := ind_b (f 3) (f a)
  have m4 := ind_b (f 4) (f a)
  have m5 := ind_b (f 5) (f a)
  have h2 := ind_0 (f a)
  unfold below
  rcases (show a = 0 ∨ a = 1 ∨ a = 2 ∨ a = 3 ∨ a = 4 ∨ a = 5 by omega) with q | q | q | q | q | q <;> subst q <;> omega
theorem z_X12_fillsRoads {X : Mm} {S : Sh} {m0 : Mm} {K : Mm → Prop} {u1 u2 : Int} (hS : Shp S) (hm0 : Inv X S m0) (l_u1 : 0 ≤ u1) (h_u1 : u1 ≤ 5) (l_u2 : 0 ≤ u2) (h_u2 : u2 ≤ 5) (p0 : HP m0 u2) (p1 : u1 < m0 346 0) (p2 : m0 349 u1 < 99) (hk : ∀ (M1 : Mm), Inv X S M1 → K M1) : wp_X12_fillsRoads S m0 336 u1 u2 K := by
  have bP := hm0.f_346_0
  refine u_X12_fillsRoads ?_
  refine g_C ?_
  refine g_put 29 rfl hS.k336 (hm0.w_336_29 (by omega) (by omega)) (fun m1 em1 hm1 => ?_)
  have t1 : m1 336 29 = 0 := (congrFun (congrFun em1 _) _).trans (up_at _ _ _ _)
  have L : ∀ (n : Nat) (at' : Int) (m : Mm), Inv X S m → (∀ c p : Int, ¬ (c = 336 ∧ p = 29) ∧ ¬ c = 350 → m c p = m0 c p) → 0 ≤ at' → at' < m0 346 0 → m0 349 at' < 99 → m 336 29 + below (m0 349) (m0 349 at') ≤ 5 → 0 ≤ m 336 29 → below (m0 349) (m0 349 at') + 1 ≤ (n : Int) → wp_X12_fillsRoads_7 S K n 336 u2 at' m := by
    intro n
    induction n with
    | zero =>
      intro at' m _ _ a0 a1 _ _ _ h
      have q := below_b (m0 349) a0 (by omega)
      exfalso; omega
    | succ n ih =>
      intro at' m hm F a0 a1 a2 a3 a4 a5
      have q := below_b (m0 349) a0 (by omega)
      refine u_X12_fillsRoads_7 ?_
      refine g_if (fun w => hk m hm) (fun w => ?_)
      have eP : m 346 0 = m0 346 0 := F 346 0 (by omega)
      have e9 : ∀ p : Int, m 349 p = m0 349 p := fun p => F 349 p (by omega)
      have er : ∀ a b : Int, rd m a b = rd m0 a b := fun a b => rd_same (fun p => F 346 p (by omega)) a b
      refine ⟨hS.k336, ?_⟩
      refine zn_nextPlace hS hm a0 (by omega) (fun r r0 r1 r2 r3 => ?_) ?_
      · rw [er] at r2 r3
        rw [e9, e9] at r3
        refine g_getr 28 350 rfl hS.k336 hm.f_336_28 (by decide) ?_
        refine g_get 29 0 6 rfl hS.k336 hm.f_336_29 (fun v ev bv cv => ?_)
        refine ⟨hS.k336, ?_⟩
        refine zr_roadOf hS hm (fun s0 s5 => ?_)
        refine g_st hS.k350 hS.l350 (by omega) (by omega) (hm.wa_350 (by omega) (by omega) (by omega) (by omega)) (fun m2 e2 hm2 => ?_)
        refine g_get 29 0 6 rfl hS.k336 hm2.f_336_29 (fun v2 ev2 bv2 cv2 => ?_)
        have q2 : v2 = v := ev2.trans ((congrFun (congrFun e2 _) _).trans ((up_ne (by omega)).trans ev.symm))
        refine g_C ?_
        refine g_A (by omega) (by omega) ?_
        refine g_put 29 rfl hS.k336 (hm2.w_336_29 (by omega) (by omega)) (fun m3 e3 hm3 => ?_)
        have x3 : m3 336 29 = v2 + 1 := (congrFun (congrFun e3 _) _).trans (up_at _ _ _ _)
        have bl := below_lt (f := m0 349) (a := at') (b := r) r0 (by omega) (by omega)
        refine ih r m3 hm3 (fun c p h => ?_) r0 (by omega) (by omega) (by omega) (by omega) (by omega)
        rw [e3, up_ne (by omega), e2, up_ne (by omega)]
        exact F c p h
      · obtain ⟨b, b0, b1, b2, b3⟩ := p0.2 at' a0 a1 w a2
        exact ⟨b, b0, by omega, by rw [er]; exact b2, by rw [er, e9, e9]; exact b3⟩
  have q := below_b (m0 349) l_u1 h_u1
  exact ⟨6, L 6 u1 m1 hm1 (fun c p h => (congrFun (congrFun em1 _) _).trans (up_ne (by omega))) l_u1 p1 p2 (by omega) (by omega) (by omega)⟩
end
section
theorem z_X12_fitsTests {X : Mm} {S : Sh} {m0 : Mm} {K : Int → Mm → Prop} {u1 : Int} (hS : Shp S) (hm0 : Inv X S m0) (l_u1 : 0 ≤ u1) (h_u1 : u1 ≤ 4) (hk : ∀ (r : Int) (M1 : Mm), Inv X S M1 → 0 ≤ r → r ≤ 1 → K r M1) : wp_X12_fitsTests S m0 336 u1 K := by
  refine u_X12_fitsTests ?_
  refine g_C ?_
  have L_n_l104 : ∀ (n_l104 : Nat) (u3 : Int) (m4 : Mm), Inv X S m4 → 0 ≤ u3 → u3 ≤ 10 → 11 - u3 ≤ (n_l104 : Int) → wp_X12_fitsTests_2 S K n_l104 336 u1 u3 m4 := by
    intro n_l104
    induction n_l104 with
    | zero => intro u3 m4 hm4 bu3 cu3 zn_l104; exfalso; omega
    | succ n_l104 ih_n_l104 =>
      intro u3 m4 hm4 bu3 cu3 zn_l104
      refine u_X12_fitsTests_2 ?_
      refine g_getr 20 346 rfl hS.k336 hm4.f_336_20 (by decide) ?_
      refine g_C ?_
      refine g_ld (0) (10) hS.k346 hS.l346 (by omega) (by omega) (hm4.f_346_157) (fun v105 ev105 bv105 cv105 => ?_)
      refine g_if (fun w106 => ?_) (fun w106 => ?_)
      · refine g_C ?_
        refine ⟨by omega, ?_⟩
        exact hk 1 m4 hm4 (by omega) (by omega)
      · refine g_C ?_
        refine g_C ?_
        refine g_M (by omega) (by omega) ?_
        refine g_A (by omega) (by omega) ?_
        refine g_C ?_
        refine g_getr 20 346 rfl hS.k336 hm4.f_336_20 (by decide) ?_
        refine g_ld (0) (999) hS.k346 hS.l346 (by omega) (by omega) (fam_346_117_4_0_9 hm4 (a := u3) (by omega) (by omega) (by omega)) (fun v107 ev107 bv107 cv107 => ?_)
        refine g_getr 20 346 rfl hS.k336 hm4.f_336_20 (by decide) ?_
        refine g_C ?_
        refine g_A (by omega) (by omega) ?_
        refine g_ld (0) (20) hS.k346 hS.l346 (by omega) (by omega) (fam_346_118_4_0_9 hm4 (a := u3) (by omega) (by omega) (by omega)) (fun v108 ev108 bv108 cv108 => ?_)
        refine g_getr 20 346 rfl hS.k336 hm4.f_336_20 (by decide) ?_
        refine g_C ?_
        refine g_A (by omega) (by omega) ?_
        refine g_ld (0) (99) hS.k346 hS.l346 (by omega) (by omega) (fam_346_119_4_0_9 hm4 (a := u3) (by omega) (by omega) (by omega)) (fun v109 ev109 bv109 cv109 => ?_)
        refine g_C ?_
        refine ⟨hS.k336, ?_⟩
        refine z_X12_turnedBy hS hm4 (by omega) (by omega) (by omega) (by omega) (by omega) (by omega) (by omega) (by omega) (by omega) (by omega) (by omega) (by omega) (fun v110 m111 hm111 fm111 bv110 cv110 => ?_)
        refine g_getr 20 346 rfl hS.k336 hm111.f_336_20 (by decide) ?_
        refine g_C ?_
        refine g_A (by omega) (by omega) ?_
        refine g_ld (0) (999) hS.k346 hS.l346 (by omega) (by omega) (fam_346_120_4_0_9 hm111 (a := u3) (by omega) (by omega) (by omega)) (fun v112 ev112 bv112 cv112 => ?_)
        refine g_if (fun w113 => ?_) (fun w113 => ?_)
        · refine g_A (by omega) (by omega) ?_
          exact ih_n_l104 (u3 + 1) m111 hm111 (by omega) (by omega) (by omega)
        · refine g_C ?_
          refine ⟨by omega, ?_⟩
          exact hk 0 m111 hm111 (by omega) (by omega)
  exact ⟨11, L_n_l104 11 0 m0 hm0 (by omega) (by omega) (by omega)⟩
theorem z_X12_fitting {X : Mm} {S : Sh} {m0 : Mm} {K : Int → Mm → Prop} (hS : Shp S) (hm0 : Inv X S m0)  (hk : ∀ (r : Int) (M1 : Mm), Inv X S M1 → 0 ≤ r → r ≤ 31 → K r M1) : wp_X12_fitting S m0 336 K := by
  refine u_X12_fitting ?_
  refine g_C ?_
  refine g_C ?_
  have L_n_l53 : ∀ (n_l53 : Nat) (u2 : Int) (u3 : Int) (m4 : Mm), Inv X S m4 → 0 ≤ u2 → u2 ≤ 31 → 0 ≤ u3 → u3 ≤ 5 → 6 - u3 ≤ (n_l53 : Int) → wp_X12_fitting_4 S K n_l53 336 u2 u3 m4 := by
    intro n_l53
    induction n_l53 with
    | zero => intro u2 u3 m4 hm4 bu2 cu2 bu3 cu3 zn_l53; exfalso; omega
    | succ n_l53 ih_n_l53 =>
      intro u2 u3 m4 hm4 bu2 cu2 bu3 cu3 zn_l53
      refine u_X12_fitting_4 ?_
      refine g_getr 20 346 rfl hS.k336 hm4.f_336_20 (by decide) ?_
      refine g_C ?_
      refine g_ld (0) (5) hS.k346 hS.l346 (by omega) (by omega) (hm4.f_346_4) (fun v54 ev54 bv54 cv54 => ?_)
      refine g_if (fun w55 => ?_) (fun w55 => ?_)
      · exact hk u2 m4 hm4 (by omega) (by omega)
      · refine ⟨hS.k336, ?_⟩
        refine z_X12_fitsTests hS hm4 (by omega) (by omega) (fun v56 m57 hm57 bv56 cv56 => ?_)
        refine g_if (fun w58 => ?_) (fun w58 => ?_)
        · refine g_C ?_
          refine u_X12_fitting_30 ?_
          refine g_iOr 5 (by omega) (by omega) (by omega) (by omega) (by decide) (fun v59 bv59 cv59 => ?_)
          refine g_A (by omega) (by omega) ?_
          exact ih_n_l53 v59 (u3 + 1) m57 hm57 (by omega) (by omega) (by omega) (by omega) (by omega)
        · refine g_C ?_
          refine g_iShl 4 (by omega) (by omega) (by decide) (fun v60 bv60 cv60 => ?_)
          refine u_X12_fitting_30 ?_
          refine g_iOr 5 (by omega) (by omega) (by omega) (by omega) (by decide) (fun v61 bv61 cv61 => ?_)
          refine g_A (by omega) (by omega) ?_
          exact ih_n_l53 v61 (u3 + 1) m57 hm57 (by omega) (by omega) (by omega) (by omega) (by omega)
  exact ⟨6, L_n_l53 6 0 0 m0 hm0 (by omega) (by omega) (by omega) (by omega) (by omega)⟩
theorem bd_347 : ∀ u : Nat, u < 20 → ∀ j : Nat, j < 57 → bd 347 (57 * u + j) = bd 346 j := by decide +kernel
theorem bd_347s : ∀ p : Nat, p < 1083 → bd 347 (p + 57) = bd 347 p := by decide +kernel
theorem pT_347 : pT.getD 347 0 = 1140 := by decide +kernel
theorem k_52 {S : Sh} {m : Mm} {K : Mm → Prop} {u : Int} (hS : Shp S) (f24 : m 336 24 = 347) (f20 : m 336 20 = 346) (hu : m 336 25 = u) (u0 : 0 ≤ u) (u1 : u ≤ 19) (hk : ∀ M2 : Mm, M2 336 25 = u + 1 → (∀ c p : Int, ¬ (c = 347 ∧ 57 * u ≤ p ∧ p < 57 * u + 57) → ¬ (c = 336 ∧ p = 25) → M2 c p = m c p) → (∀ j : Int, 0 ≤ j → j < 57 → M2 347 (57 * u + j) = m 346 j) → K M2) : wp_X12_keepsAct_50 S K 336 m := by
  refine u_X12_keepsAct_50 ?_
  refine g_C ?_
  have L : ∀ (n : Nat) (k : Int) (M2 : Mm), 0 ≤ k → k ≤ 57 → (∀ c p : Int, ¬ (c = 347 ∧ 57 * u ≤ p ∧ p < 57 * u + 57) → M2 c p = m c p) → (∀ j : Int, 0 ≤ j → j < k → M2 347 (57 * u + j) = m 346 j) → 58 - k ≤ (n : Int) → wp_X12_keepsAct_52 S K n 336 k M2 := by
    intro n
    induction n with
    | zero => intro k M2 _ _ _ _ h5; exfalso; omega
    | succ n ih =>
      intro k M2 a1 a2 a3 a4 a5
      have e24 : M2 336 24 = 347 := (a3 336 24 (by omega)).trans f24
      have e20 : M2 336 20 = 346 := (a3 336 20 (by omega)).trans f20
      have e25 : M2 336 25 = u := (a3 336 25 (by omega)).trans hu
      refine u_X12_keepsAct_52 ?_
      refine g_C ?_
      refine g_if (fun w => ?_) (fun w => ?_)
      · refine g_getu 25 rfl hS.k336 (fun v ev => ?_)
        refine g_C ?_
        refine g_A (by omega) (by omega) ?_
        refine g_putR 25 rfl hS.k336 (fun M3 e3 => ?_)
        refine hk M3 ?_ (fun c p h1 h2 => ?_) (fun j h1 h2 => ?_)
        · rw [e3, up_at]; omega
        · rw [e3, up_ne (by omega)]; exact a3 c p h1
        · rw [e3, up_ne (by omega)]; exact a4 j h1 (by omega)
      · refine g_getr 24 347 rfl hS.k336 e24 (by decide) ?_
        refine g_C ?_
        refine g_getu 25 rfl hS.k336 (fun v ev => ?_)
        obtain rfl : v = u := by omega
        refine g_M (by omega) (by omega) ?_
        refine g_A (by omega) (by omega) ?_
        refine g_getr 20 346 rfl hS.k336 e20 (by decide) ?_
        refine g_ldu hS.k346 hS.l346 (by omega) (by omega) (fun x ex => ?_)
        refine g_stR hS.k347 hS.l347 (by omega) (by omega) (fun M3 e3 => ?_)
        refine g_A (by omega) (by omega) ?_
        refine ih (k + 1) M3 (by omega) (by omega) (fun c p h1 => ?_) (fun j h1 h2 => ?_) (by omega)
        · rw [e3, up_ne (by omega)]; exact a3 c p h1
        · by_cases z : j = k
          · rw [e3, z, up_at, ex]
            exact a3 346 k (by omega)
          · rw [e3, up_ne (by omega)]; exact a4 j h1 (by omega)
  exact ⟨58, L 58 0 m (by omega) (by omega) (fun _ _ _ => rfl) (fun j h1 h2 => absurd h1 (by omega)) (by omega)⟩
theorem k_inv {X : Mm} {S : Sh} {m0 M2 : Mm} {u s : Int} (hm0 : Inv X S m0) (u0 : 0 ≤ u) (u1 : u ≤ 19) (hu : M2 336 25 = u + 1) (hs : (s = 0 ∧ u = m0 336 25) ∨ (s = 57 ∧ u = 19 ∧ m0 336 25 = 20)) (h1 : ∀ c p : Int, ¬ c = 347 → ¬ (c = 336 ∧ p = 25) → M2 c p = m0 c p) (h2 : ∀ j : Int, 0 ≤ j → j < 57 → M2 347 (57 * u + j) = m0 346 j) (h3 : ∀ p : Int, 0 ≤ p → p < 57 * u → M2 347 p = m0 347 (p + s)) (h4 : ∀ p : Int, 57 * u + 57 ≤ p → p < 1140 → M2 347 p = m0 347 p) : Inv X S M2 := by
  refine ⟨fun c p a1 a2 => ?_, fun c p a1 => ?_, fun i a1 a2 => ?_, ?_, hm0.good, fun hx p hp => ?_, ?_⟩
  · by_cases e : c = 347
    · subst e
      rw [pT_347] at a2
      by_cases z1 : (p : Int) < 57 * u
      · rw [show ((347 : Nat) : Int) = 347 from rfl, h3 p (by omega) z1]
        rcases hs with hs | hs
        · have q := hm0.1 347 p (by decide) (by rw [pT_347]; omega)
          rw [hs.1, Int.add_zero]
          exact q
        · have q := hm0.1 347 (p + 57) (by decide) (by rw [pT_347]; omega)
          rw [bd_347s p (by omega)] at q
          rw [hs.1]
          exact q
      · by_cases z2 : (p : Int) < 57 * u + 57
        · have q := hm0.1 346 (p - 57 * u.toNat) (by decide) (by rw [pT_348.2]; omega)
          rw [← bd_347 u.toNat (by omega) (p - 57 * u.toNat) (by omega)] at q
          have e2 : 57 * u.toNat + (p - 57 * u.toNat) = p := by omega
          rw [e2] at q
          have e3 := h2 ((p - 57 * u.toNat : Nat) : Int) (by omega) (by omega)
          have e4 : 57 * u + ((p - 57 * u.toNat : Nat) : Int) = p := by omega
          rw [e4] at e3
          rw [show ((347 : Nat) : Int) = 347 from rfl, e3]
          exact q
        · rw [show ((347 : Nat) : Int) = 347 from rfl, h4 p (by omega) (by omega)]
          exact hm0.1 347 p (by decide) (by rw [pT_347]; omega)
    · by_cases z : c = 336 ∧ p = 25
      · obtain ⟨z1, z2⟩ := z
        subst z1 z2
        rw [show ((336 : Nat) : Int) = 336 from rfl, show ((25 : Nat) : Int) = 25 from rfl, hu]
        exact okb_of (l := 0) (u := 20) (by decide +kernel) (by omega) (by omega)
      · rw [h1 c p (by omega) (by omega)]
        exact hm0.1 c p a1 a2
  · rw [h1 c p (by omega) (by omega)]
    exact hm0.2.1 c p a1
  · rw [h1 30 i (by decide) (by omega)]; exact hm0.row30 a1 a2
  · rw [h1 55 1 (by decide) (by omega)]; exact hm0.row55
  · rw [h1 348 p (by decide) (by omega)]; exact hm0.flag hx hp
  · have q := hm0.pl
    have g0 := hm0.g (c := 346) (p := 0) (by decide)
    have g4 := hm0.g (c := 346) (p := 4) (by decide)
    have g5 := hm0.g (c := 346) (p := 5) (by decide)
    have b4 := hm0.f_346_4
    have b5 := hm0.f_346_5
    have e6 : M2 346 = m0 346 := funext (fun p => h1 346 p (by decide) (by omega))
    have e8 : M2 348 = m0 348 := funext (fun p => h1 348 p (by decide) (by omega))
    have e4 : M2 354 = m0 354 := funext (fun p => h1 354 p (by decide) (by omega))
    unfold PLi at q ⊢
    rw [e6, e8, e4, hu]
    refine ⟨q.1, q.2.1, fun r r1 r2 => ?_, q.2.2.2⟩
    by_cases z : r = u
    · subst z
      have p0 := h2 0 (by omega) (by omega)
      rw [Int.add_zero] at p0
      have p4 := h2 4 (by omega) (by omega)
      have p5 := h2 5 (by omega) (by omega)
      rw [p0, p4, p5, g0, g4, g5]
      refine ⟨fun a c1 c2 => ?_, fun a c1 c2 => ?_⟩
      · show M2 347 (57 * r + (10 + 5 * a)) < _
        rw [h2 _ (by omega) (by omega)]; exact q.1.1 a c1 c2
      · show M2 347 (57 * r + (35 + 4 * a)) < _
        rw [h2 _ (by omega) (by omega)]; exact q.1.2 a c1 c2
    · have e := h3 (57 * r) (by omega) (by omega)
      have e4' := h3 (57 * r + 4) (by omega) (by omega)
      have e5' := h3 (57 * r + 5) (by omega) (by omega)
      rcases hs with hs | hs
      · have q3 := q.2.2.1 r r1 (by omega)
        rw [hs.1, Int.add_zero] at e e4' e5'
        have b4r := hm0.rdI 347 0 5 (by decide) (57 * r.toNat + 4) (i := 57 * r + 4) (by omega) (by rw [bd_347 r.toNat (by omega) 4 (by decide), pT_347]; exact ⟨by omega, by decide +kernel⟩)
        have b5r := hm0.rdI 347 0 4 (by decide) (57 * r.toNat + 5) (i := 57 * r + 5) (by omega) (by rw [bd_347 r.toNat (by omega) 5 (by decide), pT_347]; exact ⟨by omega, by decide +kernel⟩)
        have c4 : m0 347 (57 * r + 4) ≤ 5 := b4r.2
        have c5 : m0 347 (57 * r + 5) ≤ 4 := b5r.2
        rw [e, e4', e5']
        refine ⟨fun a c1 c2 => ?_, fun a c1 c2 => ?_⟩
        · show M2 347 (57 * r + (10 + 5 * a)) < _
          rw [h3 _ (by omega) (by omega), hs.1, Int.add_zero]; exact q3.1 a c1 c2
        · show M2 347 (57 * r + (35 + 4 * a)) < _
          rw [h3 _ (by omega) (by omega), hs.1, Int.add_zero]; exact q3.2 a c1 c2
      · have q3 := q.2.2.1 (r + 1) (by omega) (by omega)
        have x0 : 57 * r + s = 57 * (r + 1) := by omega
        have x4 : 57 * r + 4 + s = 57 * (r + 1) + 4 := by omega
        have x5 : 57 * r + 5 + s = 57 * (r + 1) + 5 := by omega
        rw [x0] at e
        rw [x4] at e4'
        rw [x5] at e5'
        have b4r := hm0.rdI 347 0 5 (by decide) (57 * (r + 1).toNat + 4) (i := 57 * (r + 1) + 4) (by omega) (by rw [bd_347 (r + 1).toNat (by omega) 4 (by decide), pT_347]; exact ⟨by omega, by decide +kernel⟩)
        have b5r := hm0.rdI 347 0 4 (by decide) (57 * (r + 1).toNat + 5) (i := 57 * (r + 1) + 5) (by omega) (by rw [bd_347 (r + 1).toNat (by omega) 5 (by decide), pT_347]; exact ⟨by omega, by decide +kernel⟩)
        have c4 : m0 347 (57 * (r + 1) + 4) ≤ 5 := b4r.2
        have c5 : m0 347 (57 * (r + 1) + 5) ≤ 4 := b5r.2
        rw [e, e4', e5']
        refine ⟨fun a c1 c2 => ?_, fun a c1 c2 => ?_⟩
        · show M2 347 (57 * r + (10 + 5 * a)) < _
          rw [h3 _ (by omega) (by omega), show 57 * r + (10 + 5 * a) + s = 57 * (r + 1) + (10 + 5 * a) by omega]; exact q3.1 a c1 c2
        · show M2 347 (57 * r + (35 + 4 * a)) < _
          rw [h3 _ (by omega) (by omega), show 57 * r + (35 + 4 * a) + s = 57 * (r + 1) + (35 + 4 * a) by omega]; exact q3.2 a c1 c2
end
