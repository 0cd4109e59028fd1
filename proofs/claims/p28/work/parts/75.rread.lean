theorem txl_b2 : ∀ k : Nat, k < 17 → 2 ≤ txL.getD k 0 ∧ txL.getD k 0 ≤ 6 := by decide +kernel
theorem g_slen2 {x : Int} {K : Int → Prop} (h1 : -19 ≤ x) (h2 : x ≤ -3) (h : ∀ v : Int, v = txl x → 2 ≤ v → v ≤ 6 → K v) : wSlen x K := by
  have q := txl_b2 (-3 - x).toNat (by omega)
  refine ⟨(-3 - x).toNat, by unfold txN; omega, by omega, h _ rfl (by omega) (by omega)⟩
theorem zr_X7_look {X : Mm} {S : Sh} {m0 : Mm} {K : Int → Mm → Prop} (hS : Shp S) (hm0 : Inv X S m0)  (hk : ∀ (r : Int) (M1 : Mm), Inv X S M1 → (∀ c p : Int, ¬ (c = 1 ∧ 2 ≤ p ∧ p ≤ 3) → M1 c p = m0 c p) → (-1) ≤ r → r ≤ 255 → (m0 1 2 ≤ M1 1 2) → (r = -1 ∨ M1 1 2 < M1 1 1) → (r = -1 ∨ iAnd (M1 2 (M1 1 2)) 255 = r) → K r M1) : wp_X7_look S m0 1 K := by
  have Fm0 : ∀ c p : Int, ¬ (c = 1 ∧ 2 ≤ p ∧ p ≤ 3) → m0 c p = m0 c p := fun c p _ => rfl
  refine u_X7_look ?_
  have L_n_l51 : ∀ (n_l51 : Nat) (m2 : Mm), Inv X S m2 → (∀ c p : Int, ¬ (c = 1 ∧ 2 ≤ p ∧ p ≤ 3) → m2 c p = m0 c p) → (m0 1 2 ≤ m2 1 2) → 401 - m2 1 2 ≤ (n_l51 : Int) → wp_X7_look_0 S K n_l51 1 m2 := by
    intro n_l51
    induction n_l51 with
    | zero => intro m2 hm2 Fm2 xn_l51_0 zn_l51; exfalso; have zz1_2 := hm2.f_1_2; have zz1_1 := hm2.f_1_1; omega
    | succ n_l51 ih_n_l51 =>
      intro m2 hm2 Fm2 xn_l51_0 zn_l51
      refine u_X7_look_0 ?_
      refine g_get 2 (0) (400) rfl hS.k1 hm2.f_1_2 (fun v52 ev52 bv52 cv52 => ?_)
      refine g_get 1 (0) (400) rfl hS.k1 hm2.f_1_1 (fun v53 ev53 bv53 cv53 => ?_)
      have qv53 : v53 = (m0 1 1) := ev53.trans ((Fm2 _ _ (by omega)).trans (Eq.refl (m0 1 1)).symm)
      refine g_if (fun w54 => ?_) (fun w54 => ?_)
      · refine u_X7_look_38 ?_
        refine g_get 2 (0) (400) rfl hS.k1 hm2.f_1_2 (fun v55 ev55 bv55 cv55 => ?_)
        have qv55 : v55 = v52 := ev55.trans ev52.symm
        refine g_put 3 rfl hS.k1 (hm2.w_1_3 (by omega) (by omega)) (fun m56 em56 hm56 => ?_)
        have Fm56 : ∀ c p : Int, ¬ (c = 1 ∧ 2 ≤ p ∧ p ≤ 3) → m56 c p = m0 c p := fun c p h => (congrFun (congrFun em56 _) _).trans ((up_ne (by omega)).trans (Fm2 c p h))
        refine g_get 2 (0) (400) rfl hS.k1 hm56.f_1_2 (fun v57 ev57 bv57 cv57 => ?_)
        have qv57 : v57 = v52 := ev57.trans ((congrFun (congrFun em56 _) _).trans ((up_ne (by omega)).trans ev52.symm))
        refine g_get 1 (0) (400) rfl hS.k1 hm56.f_1_1 (fun v58 ev58 bv58 cv58 => ?_)
        have qv58 : v58 = (m0 1 1) := ev58.trans ((congrFun (congrFun em56 _) _).trans ((up_ne (by omega)).trans ((Fm2 _ _ (by omega)).trans (Eq.refl (m0 1 1)).symm)))
        refine g_if (fun w59 => ?_) (fun w59 => ?_)
        · refine g_C ?_
          have zb60 := hm56.f_1_2
          have q61 : m56 1 2 = v52 := (Eq.refl (m56 1 2)).trans ((congrFun (congrFun em56 _) _).trans ((up_ne (by omega)).trans ev52.symm))
          have zb62 := hm56.f_1_1
          have q63 : m56 1 1 = (m0 1 1) := (Eq.refl (m56 1 1)).trans ((congrFun (congrFun em56 _) _).trans ((up_ne (by omega)).trans ((Fm2 _ _ (by omega)).trans (Eq.refl (m0 1 1)).symm)))
          exact hk (-1) m56 hm56 Fm56 (by omega) (by omega) (by first | omega | grind) (by first | omega | grind) (by first | omega | grind)
        · refine g_getr 0 2 rfl hS.k1 hm56.f_1_0 (by decide) ?_
          refine g_get 2 (0) (400) rfl hS.k1 hm56.f_1_2 (fun v64 ev64 bv64 cv64 => ?_)
          have qv64 : v64 = v52 := ev64.trans ((congrFun (congrFun em56 _) _).trans ((up_ne (by omega)).trans ev52.symm))
          refine g_ld (-128) (127) hS.k2 hS.l2 (by omega) (by omega) (hm56.a_2 (by omega) (by omega)) (fun v65 ev65 bv65 cv65 => ?_)
          refine g_C ?_
          refine g_iAndR (by omega) (by omega) (fun v66 dv66 bv66 cv66 => ?_)
          have zb67 := hm56.f_1_2
          have q68 : m56 1 2 = v52 := (Eq.refl (m56 1 2)).trans ((congrFun (congrFun em56 _) _).trans ((up_ne (by omega)).trans ev52.symm))
          have zb69 := hm56.f_1_1
          have q70 : m56 1 1 = (m0 1 1) := (Eq.refl (m56 1 1)).trans ((congrFun (congrFun em56 _) _).trans ((up_ne (by omega)).trans ((Fm2 _ _ (by omega)).trans (Eq.refl (m0 1 1)).symm)))
          exact hk v66 m56 hm56 Fm56 (by omega) (by omega) (by first | omega | grind) (by first | omega | grind) (by first | omega | grind)
      · refine g_getr 0 2 rfl hS.k1 hm2.f_1_0 (by decide) ?_
        refine g_get 2 (0) (400) rfl hS.k1 hm2.f_1_2 (fun v71 ev71 bv71 cv71 => ?_)
        have qv71 : v71 = v52 := ev71.trans ev52.symm
        refine g_ld (-128) (127) hS.k2 hS.l2 (by omega) (by omega) (hm2.a_2 (by omega) (by omega)) (fun v72 ev72 bv72 cv72 => ?_)
        refine g_C ?_
        refine g_if (fun w73 => ?_) (fun w73 => ?_)
        · refine u_X7_look_38 ?_
          refine g_get 2 (0) (400) rfl hS.k1 hm2.f_1_2 (fun v74 ev74 bv74 cv74 => ?_)
          have qv74 : v74 = v52 := ev74.trans ev52.symm
          refine g_put 3 rfl hS.k1 (hm2.w_1_3 (by omega) (by omega)) (fun m75 em75 hm75 => ?_)
          have Fm75 : ∀ c p : Int, ¬ (c = 1 ∧ 2 ≤ p ∧ p ≤ 3) → m75 c p = m0 c p := fun c p h => (congrFun (congrFun em75 _) _).trans ((up_ne (by omega)).trans (Fm2 c p h))
          refine g_get 2 (0) (400) rfl hS.k1 hm75.f_1_2 (fun v76 ev76 bv76 cv76 => ?_)
          have qv76 : v76 = v52 := ev76.trans ((congrFun (congrFun em75 _) _).trans ((up_ne (by omega)).trans ev52.symm))
          refine g_get 1 (0) (400) rfl hS.k1 hm75.f_1_1 (fun v77 ev77 bv77 cv77 => ?_)
          have qv77 : v77 = (m0 1 1) := ev77.trans ((congrFun (congrFun em75 _) _).trans ((up_ne (by omega)).trans ((Fm2 _ _ (by omega)).trans (Eq.refl (m0 1 1)).symm)))
          refine g_if (fun w78 => ?_) (fun w78 => ?_)
          · refine g_C ?_
            have zb79 := hm75.f_1_2
            have q80 : m75 1 2 = v52 := (Eq.refl (m75 1 2)).trans ((congrFun (congrFun em75 _) _).trans ((up_ne (by omega)).trans ev52.symm))
            have zb81 := hm75.f_1_1
            have q82 : m75 1 1 = (m0 1 1) := (Eq.refl (m75 1 1)).trans ((congrFun (congrFun em75 _) _).trans ((up_ne (by omega)).trans ((Fm2 _ _ (by omega)).trans (Eq.refl (m0 1 1)).symm)))
            exact hk (-1) m75 hm75 Fm75 (by omega) (by omega) (by first | omega | grind) (by first | omega | grind) (by first | omega | grind)
          · refine g_getr 0 2 rfl hS.k1 hm75.f_1_0 (by decide) ?_
            refine g_get 2 (0) (400) rfl hS.k1 hm75.f_1_2 (fun v83 ev83 bv83 cv83 => ?_)
            have qv83 : v83 = v52 := ev83.trans ((congrFun (congrFun em75 _) _).trans ((up_ne (by omega)).trans ev52.symm))
            refine g_ld (-128) (127) hS.k2 hS.l2 (by omega) (by omega) (hm75.a_2 (by omega) (by omega)) (fun v84 ev84 bv84 cv84 => ?_)
            have qv84 : v84 = v72 := ev84.trans ((congrFun (congrFun em75 _) _).trans ((up_ne (by omega)).trans ((congrArg (m2 2) (show v83 = v71 by omega)).trans ev72.symm)))
            refine g_C ?_
            refine g_iAndR (by omega) (by omega) (fun v85 dv85 bv85 cv85 => ?_)
            have zb86 := hm75.f_1_2
            have q87 : m75 1 2 = v52 := (Eq.refl (m75 1 2)).trans ((congrFun (congrFun em75 _) _).trans ((up_ne (by omega)).trans ev52.symm))
            have zb88 := hm75.f_1_1
            have q89 : m75 1 1 = (m0 1 1) := (Eq.refl (m75 1 1)).trans ((congrFun (congrFun em75 _) _).trans ((up_ne (by omega)).trans ((Fm2 _ _ (by omega)).trans (Eq.refl (m0 1 1)).symm)))
            exact hk v85 m75 hm75 Fm75 (by omega) (by omega) (by first | omega | grind) (by first | omega | grind) (by first | omega | grind)
        · refine g_get 2 (0) (400) rfl hS.k1 hm2.f_1_2 (fun v90 ev90 bv90 cv90 => ?_)
          have qv90 : v90 = v52 := ev90.trans ev52.symm
          refine g_C ?_
          refine g_A (by omega) (by omega) ?_
          refine g_put 2 rfl hS.k1 (hm2.w_1_2 (by omega) (by omega)) (fun m91 em91 hm91 => ?_)
          have Fm91 : ∀ c p : Int, ¬ (c = 1 ∧ 2 ≤ p ∧ p ≤ 3) → m91 c p = m0 c p := fun c p h => (congrFun (congrFun em91 _) _).trans ((up_ne (by omega)).trans (Fm2 c p h))
          have zb92 := hm91.f_1_2
          have q93 : m91 1 2 = (v90 + 1) := (Eq.refl (m91 1 2)).trans ((congrFun (congrFun em91 _) _).trans (up_ate (by omega)))
          have zb94 := hm91.f_1_1
          have q95 : m91 1 1 = (m0 1 1) := (Eq.refl (m91 1 1)).trans ((congrFun (congrFun em91 _) _).trans ((up_ne (by omega)).trans ((Fm2 _ _ (by omega)).trans (Eq.refl (m0 1 1)).symm)))
          exact ih_n_l51 m91 hm91 Fm91 (by first | omega | grind) (by omega)
  have zb96 := hm0.f_1_2
  have zb98 := hm0.f_1_1
  exact ⟨401, L_n_l51 401 m0 hm0 Fm0 (by first | omega | grind) (by omega)⟩
theorem zr_X7_refuse {X : Mm} {S : Sh} {m0 : Mm} {K : Int → Mm → Prop} {u1 : Int} (hS : Shp S) (hm0 : Inv X S m0) (l_u1 : 0 ≤ u1) (h_u1 : u1 ≤ 4) (hk : ∀ (r : Int) (M1 : Mm), Inv X S M1 → (∀ c p : Int, ¬ (c = 1 ∧ 4 ≤ p ∧ p ≤ 4) → M1 c p = m0 c p) → 0 ≤ r → r ≤ 0 → K r M1) : wp_X7_refuse S m0 1 u1 K := by
  have Fm0 : ∀ c p : Int, ¬ (c = 1 ∧ 4 ≤ p ∧ p ≤ 4) → m0 c p = m0 c p := fun c p _ => rfl
  refine u_X7_refuse ?_
  refine g_get 4 (0) (4000) rfl hS.k1 hm0.f_1_4 (fun v1 ev1 bv1 cv1 => ?_)
  refine g_if (fun w2 => ?_) (fun w2 => ?_)
  · refine g_C ?_
    refine ⟨by omega, ?_⟩
    exact hk 0 m0 hm0 Fm0 (by omega) (by omega)
  · refine g_C ?_
    refine g_C ?_
    refine g_get 3 (0) (400) rfl hS.k1 hm0.f_1_3 (fun v3 ev3 bv3 cv3 => ?_)
    refine g_M (by omega) (by omega) ?_
    refine g_A (by omega) (by omega) ?_
    refine g_A (by omega) (by omega) ?_
    refine g_put 4 rfl hS.k1 (hm0.w_1_4 (by omega) (by omega)) (fun m4 em4 hm4 => ?_)
    have Fm4 : ∀ c p : Int, ¬ (c = 1 ∧ 4 ≤ p ∧ p ≤ 4) → m4 c p = m0 c p := fun c p h => (congrFun (congrFun em4 _) _).trans ((up_ne (by omega)).trans (Fm0 c p h))
    refine g_C ?_
    refine ⟨by omega, ?_⟩
    exact hk 0 m4 hm4 Fm4 (by omega) (by omega)
theorem zr_X7_takeNumber {X : Mm} {S : Sh} {m0 : Mm} {K : Int → Mm → Prop} {u1 u2 : Int} (hS : Shp S) (hm0 : Inv X S m0) (l_u1 : 0 ≤ u1) (h_u1 : u1 ≤ 99) (l_u2 : (-1) ≤ u2) (h_u2 : u2 ≤ 99999) (hk : ∀ (r : Int) (M1 : Mm), Inv X S M1 → (∀ c p : Int, ¬ (c = 1 ∧ 2 ≤ p ∧ p ≤ 4) → M1 c p = m0 c p) → (-1) ≤ r → r ≤ 99999 → (m0 1 2 ≤ M1 1 2) → (r = -1 ∨ (u1 ≤ r ∧ r ≤ u2)) → (r = -1 ∨ m0 1 2 + 1 ≤ M1 1 2) → K r M1) : wp_X7_takeNumber S m0 1 u1 u2 K := by
  have Fm0 : ∀ c p : Int, ¬ (c = 1 ∧ 2 ≤ p ∧ p ≤ 4) → m0 c p = m0 c p := fun c p _ => rfl
  refine u_X7_takeNumber ?_
  refine ⟨hS.k1, ?_⟩
  refine zr_X7_look hS hm0 (fun v1 m2 hm2 fm2 bv1 cv1 yv1_0 yv1_1 yv1_2 => ?_)
  have zb3 := hm2.f_1_2
  have zb4 := hm2.f_1_1
  have Fm2 : ∀ c p : Int, ¬ (c = 1 ∧ 2 ≤ p ∧ p ≤ 4) → m2 c p = m0 c p := fun c p h => (fm2 c p (by omega)).trans (Fm0 c p h)
  refine u_X7_isDigit ?_
  refine g_C ?_
  refine g_if (fun w5 => ?_) (fun w5 => ?_)
  · refine g_C ?_
    refine ⟨by omega, ?_⟩
    refine g_ifF (by omega) ?_
    refine g_C ?_
    refine ⟨hS.k1, ?_⟩
    refine zr_X7_refuse hS hm2 (by omega) (by omega) (fun v6 m7 hm7 fm7 bv6 cv6 => ?_)
    have zb8 := hm7.f_1_2
    have zb9 := hm7.f_1_1
    have Fm7 : ∀ c p : Int, ¬ (c = 1 ∧ 2 ≤ p ∧ p ≤ 4) → m7 c p = m0 c p := fun c p h => (fm7 c p (by omega)).trans (Fm2 c p h)
    refine g_C ?_
    have zb10 := hm7.f_1_2
    have q11 : m7 1 2 = (m2 1 2) := (Eq.refl (m7 1 2)).trans ((fm7 _ _ (by omega)).trans (Eq.refl (m2 1 2)).symm)
    have zb12 := hm7.f_1_1
    have q13 : m7 1 1 = (m0 1 1) := (Eq.refl (m7 1 1)).trans ((fm7 _ _ (by omega)).trans ((fm2 _ _ (by omega)).trans (Eq.refl (m0 1 1)).symm))
    exact hk (-1) m7 hm7 Fm7 (by omega) (by omega) (by first | omega | grind) (by first | omega | grind) (by first | omega | grind)
  · refine g_C ?_
    refine g_if (fun w14 => ?_) (fun w14 => ?_)
    · refine g_C ?_
      refine ⟨by omega, ?_⟩
      refine g_ifF (by omega) ?_
      refine g_C ?_
      refine ⟨hS.k1, ?_⟩
      refine zr_X7_refuse hS hm2 (by omega) (by omega) (fun v15 m16 hm16 fm16 bv15 cv15 => ?_)
      have zb17 := hm16.f_1_2
      have zb18 := hm16.f_1_1
      have Fm16 : ∀ c p : Int, ¬ (c = 1 ∧ 2 ≤ p ∧ p ≤ 4) → m16 c p = m0 c p := fun c p h => (fm16 c p (by omega)).trans (Fm2 c p h)
      refine g_C ?_
      have zb19 := hm16.f_1_2
      have q20 : m16 1 2 = (m2 1 2) := (Eq.refl (m16 1 2)).trans ((fm16 _ _ (by omega)).trans (Eq.refl (m2 1 2)).symm)
      have zb21 := hm16.f_1_1
      have q22 : m16 1 1 = (m0 1 1) := (Eq.refl (m16 1 1)).trans ((fm16 _ _ (by omega)).trans ((fm2 _ _ (by omega)).trans (Eq.refl (m0 1 1)).symm))
      exact hk (-1) m16 hm16 Fm16 (by omega) (by omega) (by first | omega | grind) (by first | omega | grind) (by first | omega | grind)
    · refine g_C ?_
      refine ⟨by omega, ?_⟩
      refine g_ifT (by omega) ?_
      refine g_C ?_
      have L_n_l441 : ∀ (n_l441 : Nat) (u26 : Int) (m27 : Mm), Inv X S m27 → (∀ c p : Int, ¬ (c = 1 ∧ 2 ≤ p ∧ p ≤ 4) → m27 c p = m0 c p) → (-2147483648) ≤ u26 → u26 ≤ 2147483647 → (m0 1 2 ≤ m27 1 2) → (m0 1 2 + 1 ≤ m27 1 2 ∨ (m27 1 2 < m27 1 1 ∧ 48 ≤ iAnd (m27 2 (m27 1 2)) 255 ∧ iAnd (m27 2 (m27 1 2)) 255 ≤ 57)) → 401 - m27 1 2 ≤ (n_l441 : Int) → wp_X7_takeNumber_20 S K n_l441 1 u1 u2 u26 m27 := by
        intro n_l441
        induction n_l441 with
        | zero => intro u26 m27 hm27 Fm27 bu26 cu26 xn_l441_0 xn_l441_1 zn_l441; exfalso; have zz1_2 := hm27.f_1_2; have zz1_1 := hm27.f_1_1; omega
        | succ n_l441 ih_n_l441 =>
          intro u26 m27 hm27 Fm27 bu26 cu26 xn_l441_0 xn_l441_1 zn_l441
          refine u_X7_takeNumber_20 ?_
          refine g_get 2 (0) (400) rfl hS.k1 hm27.f_1_2 (fun v442 ev442 bv442 cv442 => ?_)
          refine g_get 1 (0) (400) rfl hS.k1 hm27.f_1_1 (fun v443 ev443 bv443 cv443 => ?_)
          have qv443 : v443 = (m0 1 1) := ev443.trans ((Fm27 _ _ (by omega)).trans (Eq.refl (m0 1 1)).symm)
          refine g_if (fun w444 => ?_) (fun w444 => ?_)
          · refine u_X7_takeNumber_92 ?_
            refine g_get 2 (0) (400) rfl hS.k1 hm27.f_1_2 (fun v445 ev445 bv445 cv445 => ?_)
            have qv445 : v445 = v442 := ev445.trans ev442.symm
            refine g_get 3 (0) (400) rfl hS.k1 hm27.f_1_3 (fun v446 ev446 bv446 cv446 => ?_)
            refine g_S (by omega) (by omega) ?_
            refine g_C ?_
            refine g_if (fun w447 => ?_) (fun w447 => ?_)
            · refine u_X7_takeNumber_115 ?_
              refine g_C ?_
              refine ⟨hS.k1, ?_⟩
              refine zr_X7_refuse hS hm27 (by omega) (by omega) (fun v448 m449 hm449 fm449 bv448 cv448 => ?_)
              have zb450 := hm449.f_1_2
              have zb451 := hm449.f_1_1
              have Fm449 : ∀ c p : Int, ¬ (c = 1 ∧ 2 ≤ p ∧ p ≤ 4) → m449 c p = m0 c p := fun c p h => (fm449 c p (by omega)).trans (Fm27 c p h)
              refine g_C ?_
              have zb452 := hm449.f_1_2
              have q453 : m449 1 2 = v442 := (Eq.refl (m449 1 2)).trans ((fm449 _ _ (by omega)).trans ev442.symm)
              have zb454 := hm449.f_1_1
              have q455 : m449 1 1 = (m0 1 1) := (Eq.refl (m449 1 1)).trans ((fm449 _ _ (by omega)).trans ((Fm27 _ _ (by omega)).trans (Eq.refl (m0 1 1)).symm))
              exact hk (-1) m449 hm449 Fm449 (by omega) (by omega) (by first | omega | grind) (by first | omega | grind) (by first | omega | grind)
            · refine g_if (fun w456 => ?_) (fun w456 => ?_)
              · refine u_X7_takeNumber_115 ?_
                refine g_C ?_
                refine ⟨hS.k1, ?_⟩
                refine zr_X7_refuse hS hm27 (by omega) (by omega) (fun v457 m458 hm458 fm458 bv457 cv457 => ?_)
                have zb459 := hm458.f_1_2
                have zb460 := hm458.f_1_1
                have Fm458 : ∀ c p : Int, ¬ (c = 1 ∧ 2 ≤ p ∧ p ≤ 4) → m458 c p = m0 c p := fun c p h => (fm458 c p (by omega)).trans (Fm27 c p h)
                refine g_C ?_
                have zb461 := hm458.f_1_2
                have q462 : m458 1 2 = v442 := (Eq.refl (m458 1 2)).trans ((fm458 _ _ (by omega)).trans ev442.symm)
                have zb463 := hm458.f_1_1
                have q464 : m458 1 1 = (m0 1 1) := (Eq.refl (m458 1 1)).trans ((fm458 _ _ (by omega)).trans ((Fm27 _ _ (by omega)).trans (Eq.refl (m0 1 1)).symm))
                exact hk (-1) m458 hm458 Fm458 (by omega) (by omega) (by first | omega | grind) (by first | omega | grind) (by first | omega | grind)
              · refine g_if (fun w465 => ?_) (fun w465 => ?_)
                · have zb466 := hm27.f_1_2
                  have zb468 := hm27.f_1_1
                  have q469 : m27 1 1 = (m0 1 1) := (Eq.refl (m27 1 1)).trans ((Fm27 _ _ (by omega)).trans (Eq.refl (m0 1 1)).symm)
                  exact hk u26 m27 hm27 Fm27 (by omega) (by omega) (by first | omega | grind) (by first | omega | grind) (by first | omega | grind)
                · refine u_X7_takeNumber_115 ?_
                  refine g_C ?_
                  refine ⟨hS.k1, ?_⟩
                  refine zr_X7_refuse hS hm27 (by omega) (by omega) (fun v470 m471 hm471 fm471 bv470 cv470 => ?_)
                  have zb472 := hm471.f_1_2
                  have zb473 := hm471.f_1_1
                  have Fm471 : ∀ c p : Int, ¬ (c = 1 ∧ 2 ≤ p ∧ p ≤ 4) → m471 c p = m0 c p := fun c p h => (fm471 c p (by omega)).trans (Fm27 c p h)
                  refine g_C ?_
                  have zb474 := hm471.f_1_2
                  have q475 : m471 1 2 = v442 := (Eq.refl (m471 1 2)).trans ((fm471 _ _ (by omega)).trans ev442.symm)
                  have zb476 := hm471.f_1_1
                  have q477 : m471 1 1 = (m0 1 1) := (Eq.refl (m471 1 1)).trans ((fm471 _ _ (by omega)).trans ((Fm27 _ _ (by omega)).trans (Eq.refl (m0 1 1)).symm))
                  exact hk (-1) m471 hm471 Fm471 (by omega) (by omega) (by first | omega | grind) (by first | omega | grind) (by first | omega | grind)
          · refine g_get 2 (0) (400) rfl hS.k1 hm27.f_1_2 (fun v478 ev478 bv478 cv478 => ?_)
            have qv478 : v478 = v442 := ev478.trans ev442.symm
            refine ⟨hS.k1, ?_⟩
            refine u_X7_byteAt ?_
            refine g_ifF (by omega) ?_
            refine g_get 1 (0) (400) rfl hS.k1 hm27.f_1_1 (fun v479 ev479 bv479 cv479 => ?_)
            have qv479 : v479 = (m0 1 1) := ev479.trans ((Fm27 _ _ (by omega)).trans (Eq.refl (m0 1 1)).symm)
            refine g_if (fun w480 => ?_) (fun w480 => ?_)
            · refine g_C ?_
              refine u_X7_isDigit ?_
              refine g_C ?_
              refine g_ifT (by omega) ?_
              refine g_C ?_
              refine ⟨by omega, ?_⟩
              refine g_ifT (by omega) ?_
              refine u_X7_takeNumber_92 ?_
              refine g_get 2 (0) (400) rfl hS.k1 hm27.f_1_2 (fun v481 ev481 bv481 cv481 => ?_)
              have qv481 : v481 = v442 := ev481.trans ev442.symm
              refine g_get 3 (0) (400) rfl hS.k1 hm27.f_1_3 (fun v482 ev482 bv482 cv482 => ?_)
              refine g_S (by omega) (by omega) ?_
              refine g_C ?_
              refine g_if (fun w483 => ?_) (fun w483 => ?_)
              · refine u_X7_takeNumber_115 ?_
                refine g_C ?_
                refine ⟨hS.k1, ?_⟩
                refine zr_X7_refuse hS hm27 (by omega) (by omega) (fun v484 m485 hm485 fm485 bv484 cv484 => ?_)
                have zb486 := hm485.f_1_2
                have zb487 := hm485.f_1_1
                have Fm485 : ∀ c p : Int, ¬ (c = 1 ∧ 2 ≤ p ∧ p ≤ 4) → m485 c p = m0 c p := fun c p h => (fm485 c p (by omega)).trans (Fm27 c p h)
                refine g_C ?_
                have zb488 := hm485.f_1_2
                have q489 : m485 1 2 = v442 := (Eq.refl (m485 1 2)).trans ((fm485 _ _ (by omega)).trans ev442.symm)
                have zb490 := hm485.f_1_1
                have q491 : m485 1 1 = (m0 1 1) := (Eq.refl (m485 1 1)).trans ((fm485 _ _ (by omega)).trans ((Fm27 _ _ (by omega)).trans (Eq.refl (m0 1 1)).symm))
                exact hk (-1) m485 hm485 Fm485 (by omega) (by omega) (by first | omega | grind) (by first | omega | grind) (by first | omega | grind)
              · refine g_if (fun w492 => ?_) (fun w492 => ?_)
                · refine u_X7_takeNumber_115 ?_
                  refine g_C ?_
                  refine ⟨hS.k1, ?_⟩
                  refine zr_X7_refuse hS hm27 (by omega) (by omega) (fun v493 m494 hm494 fm494 bv493 cv493 => ?_)
                  have zb495 := hm494.f_1_2
                  have zb496 := hm494.f_1_1
                  have Fm494 : ∀ c p : Int, ¬ (c = 1 ∧ 2 ≤ p ∧ p ≤ 4) → m494 c p = m0 c p := fun c p h => (fm494 c p (by omega)).trans (Fm27 c p h)
                  refine g_C ?_
                  have zb497 := hm494.f_1_2
                  have q498 : m494 1 2 = v442 := (Eq.refl (m494 1 2)).trans ((fm494 _ _ (by omega)).trans ev442.symm)
                  have zb499 := hm494.f_1_1
                  have q500 : m494 1 1 = (m0 1 1) := (Eq.refl (m494 1 1)).trans ((fm494 _ _ (by omega)).trans ((Fm27 _ _ (by omega)).trans (Eq.refl (m0 1 1)).symm))
                  exact hk (-1) m494 hm494 Fm494 (by omega) (by omega) (by first | omega | grind) (by first | omega | grind) (by first | omega | grind)
                · refine g_if (fun w501 => ?_) (fun w501 => ?_)
                  · have zb502 := hm27.f_1_2
                    have zb504 := hm27.f_1_1
                    have q505 : m27 1 1 = (m0 1 1) := (Eq.refl (m27 1 1)).trans ((Fm27 _ _ (by omega)).trans (Eq.refl (m0 1 1)).symm)
                    exact hk u26 m27 hm27 Fm27 (by omega) (by omega) (by first | omega | grind) (by first | omega | grind) (by first | omega | grind)
                  · refine u_X7_takeNumber_115 ?_
                    refine g_C ?_
                    refine ⟨hS.k1, ?_⟩
                    refine zr_X7_refuse hS hm27 (by omega) (by omega) (fun v506 m507 hm507 fm507 bv506 cv506 => ?_)
                    have zb508 := hm507.f_1_2
                    have zb509 := hm507.f_1_1
                    have Fm507 : ∀ c p : Int, ¬ (c = 1 ∧ 2 ≤ p ∧ p ≤ 4) → m507 c p = m0 c p := fun c p h => (fm507 c p (by omega)).trans (Fm27 c p h)
                    refine g_C ?_
                    have zb510 := hm507.f_1_2
                    have q511 : m507 1 2 = v442 := (Eq.refl (m507 1 2)).trans ((fm507 _ _ (by omega)).trans ev442.symm)
                    have zb512 := hm507.f_1_1
                    have q513 : m507 1 1 = (m0 1 1) := (Eq.refl (m507 1 1)).trans ((fm507 _ _ (by omega)).trans ((Fm27 _ _ (by omega)).trans (Eq.refl (m0 1 1)).symm))
                    exact hk (-1) m507 hm507 Fm507 (by omega) (by omega) (by first | omega | grind) (by first | omega | grind) (by first | omega | grind)
            · refine g_C ?_
              refine g_ifF (by omega) ?_
              refine g_getr 0 2 rfl hS.k1 hm27.f_1_0 (by decide) ?_
              refine g_ld (-128) (127) hS.k2 hS.l2 (by omega) (by omega) (hm27.a_2 (by omega) (by omega)) (fun v514 ev514 bv514 cv514 => ?_)
              refine g_C ?_
              refine g_iAndR (by omega) (by omega) (fun v515 dv515 bv515 cv515 => ?_)
              refine u_X7_isDigit ?_
              refine g_C ?_
              refine g_if (fun w516 => ?_) (fun w516 => ?_)
              · refine g_C ?_
                refine ⟨by omega, ?_⟩
                refine g_ifT (by omega) ?_
                refine u_X7_takeNumber_92 ?_
                refine g_get 2 (0) (400) rfl hS.k1 hm27.f_1_2 (fun v517 ev517 bv517 cv517 => ?_)
                have qv517 : v517 = v442 := ev517.trans ev442.symm
                refine g_get 3 (0) (400) rfl hS.k1 hm27.f_1_3 (fun v518 ev518 bv518 cv518 => ?_)
                refine g_S (by omega) (by omega) ?_
                refine g_C ?_
                refine g_if (fun w519 => ?_) (fun w519 => ?_)
                · refine u_X7_takeNumber_115 ?_
                  refine g_C ?_
                  refine ⟨hS.k1, ?_⟩
                  refine zr_X7_refuse hS hm27 (by omega) (by omega) (fun v520 m521 hm521 fm521 bv520 cv520 => ?_)
                  have zb522 := hm521.f_1_2
                  have zb523 := hm521.f_1_1
                  have Fm521 : ∀ c p : Int, ¬ (c = 1 ∧ 2 ≤ p ∧ p ≤ 4) → m521 c p = m0 c p := fun c p h => (fm521 c p (by omega)).trans (Fm27 c p h)
                  refine g_C ?_
                  have zb524 := hm521.f_1_2
                  have q525 : m521 1 2 = v442 := (Eq.refl (m521 1 2)).trans ((fm521 _ _ (by omega)).trans ev442.symm)
                  have zb526 := hm521.f_1_1
                  have q527 : m521 1 1 = (m0 1 1) := (Eq.refl (m521 1 1)).trans ((fm521 _ _ (by omega)).trans ((Fm27 _ _ (by omega)).trans (Eq.refl (m0 1 1)).symm))
                  exact hk (-1) m521 hm521 Fm521 (by omega) (by omega) (by first | omega | grind) (by first | omega | grind) (by first | omega | grind)
                · refine g_if (fun w528 => ?_) (fun w528 => ?_)
                  · refine u_X7_takeNumber_115 ?_
                    refine g_C ?_
                    refine ⟨hS.k1, ?_⟩
                    refine zr_X7_refuse hS hm27 (by omega) (by omega) (fun v529 m530 hm530 fm530 bv529 cv529 => ?_)
                    have zb531 := hm530.f_1_2
                    have zb532 := hm530.f_1_1
                    have Fm530 : ∀ c p : Int, ¬ (c = 1 ∧ 2 ≤ p ∧ p ≤ 4) → m530 c p = m0 c p := fun c p h => (fm530 c p (by omega)).trans (Fm27 c p h)
                    refine g_C ?_
                    have zb533 := hm530.f_1_2
                    have q534 : m530 1 2 = v442 := (Eq.refl (m530 1 2)).trans ((fm530 _ _ (by omega)).trans ev442.symm)
                    have zb535 := hm530.f_1_1
                    have q536 : m530 1 1 = (m0 1 1) := (Eq.refl (m530 1 1)).trans ((fm530 _ _ (by omega)).trans ((Fm27 _ _ (by omega)).trans (Eq.refl (m0 1 1)).symm))
                    exact hk (-1) m530 hm530 Fm530 (by omega) (by omega) (by first | omega | grind) (by first | omega | grind) (by first | omega | grind)
                  · refine g_if (fun w537 => ?_) (fun w537 => ?_)
                    · have zb538 := hm27.f_1_2
                      have zb540 := hm27.f_1_1
                      have q541 : m27 1 1 = (m0 1 1) := (Eq.refl (m27 1 1)).trans ((Fm27 _ _ (by omega)).trans (Eq.refl (m0 1 1)).symm)
                      exact hk u26 m27 hm27 Fm27 (by omega) (by omega) (by first | omega | grind) (by first | omega | grind) (by first | omega | grind)
                    · refine u_X7_takeNumber_115 ?_
                      refine g_C ?_
                      refine ⟨hS.k1, ?_⟩
                      refine zr_X7_refuse hS hm27 (by omega) (by omega) (fun v542 m543 hm543 fm543 bv542 cv542 => ?_)
                      have zb544 := hm543.f_1_2
                      have zb545 := hm543.f_1_1
                      have Fm543 : ∀ c p : Int, ¬ (c = 1 ∧ 2 ≤ p ∧ p ≤ 4) → m543 c p = m0 c p := fun c p h => (fm543 c p (by omega)).trans (Fm27 c p h)
                      refine g_C ?_
                      have zb546 := hm543.f_1_2
                      have q547 : m543 1 2 = v442 := (Eq.refl (m543 1 2)).trans ((fm543 _ _ (by omega)).trans ev442.symm)
                      have zb548 := hm543.f_1_1
                      have q549 : m543 1 1 = (m0 1 1) := (Eq.refl (m543 1 1)).trans ((fm543 _ _ (by omega)).trans ((Fm27 _ _ (by omega)).trans (Eq.refl (m0 1 1)).symm))
                      exact hk (-1) m543 hm543 Fm543 (by omega) (by omega) (by first | omega | grind) (by first | omega | grind) (by first | omega | grind)
              · refine g_C ?_
                refine g_if (fun w550 => ?_) (fun w550 => ?_)
                · refine g_C ?_
                  refine ⟨by omega, ?_⟩
                  refine g_ifT (by omega) ?_
                  refine u_X7_takeNumber_92 ?_
                  refine g_get 2 (0) (400) rfl hS.k1 hm27.f_1_2 (fun v551 ev551 bv551 cv551 => ?_)
                  have qv551 : v551 = v442 := ev551.trans ev442.symm
                  refine g_get 3 (0) (400) rfl hS.k1 hm27.f_1_3 (fun v552 ev552 bv552 cv552 => ?_)
                  refine g_S (by omega) (by omega) ?_
                  refine g_C ?_
                  refine g_if (fun w553 => ?_) (fun w553 => ?_)
                  · refine u_X7_takeNumber_115 ?_
                    refine g_C ?_
                    refine ⟨hS.k1, ?_⟩
                    refine zr_X7_refuse hS hm27 (by omega) (by omega) (fun v554 m555 hm555 fm555 bv554 cv554 => ?_)
                    have zb556 := hm555.f_1_2
                    have zb557 := hm555.f_1_1
                    have Fm555 : ∀ c p : Int, ¬ (c = 1 ∧ 2 ≤ p ∧ p ≤ 4) → m555 c p = m0 c p := fun c p h => (fm555 c p (by omega)).trans (Fm27 c p h)
                    refine g_C ?_
                    have zb558 := hm555.f_1_2
                    have q559 : m555 1 2 = v442 := (Eq.refl (m555 1 2)).trans ((fm555 _ _ (by omega)).trans ev442.symm)
                    have zb560 := hm555.f_1_1
                    have q561 : m555 1 1 = (m0 1 1) := (Eq.refl (m555 1 1)).trans ((fm555 _ _ (by omega)).trans ((Fm27 _ _ (by omega)).trans (Eq.refl (m0 1 1)).symm))
                    exact hk (-1) m555 hm555 Fm555 (by omega) (by omega) (by first | omega | grind) (by first | omega | grind) (by first | omega | grind)
                  · refine g_if (fun w562 => ?_) (fun w562 => ?_)
                    · refine u_X7_takeNumber_115 ?_
                      refine g_C ?_
                      refine ⟨hS.k1, ?_⟩
                      refine zr_X7_refuse hS hm27 (by omega) (by omega) (fun v563 m564 hm564 fm564 bv563 cv563 => ?_)
                      have zb565 := hm564.f_1_2
                      have zb566 := hm564.f_1_1
                      have Fm564 : ∀ c p : Int, ¬ (c = 1 ∧ 2 ≤ p ∧ p ≤ 4) → m564 c p = m0 c p := fun c p h => (fm564 c p (by omega)).trans (Fm27 c p h)
                      refine g_C ?_
                      have zb567 := hm564.f_1_2
                      have q568 : m564 1 2 = v442 := (Eq.refl (m564 1 2)).trans ((fm564 _ _ (by omega)).trans ev442.symm)
                      have zb569 := hm564.f_1_1
                      have q570 : m564 1 1 = (m0 1 1) := (Eq.refl (m564 1 1)).trans ((fm564 _ _ (by omega)).trans ((Fm27 _ _ (by omega)).trans (Eq.refl (m0 1 1)).symm))
                      exact hk (-1) m564 hm564 Fm564 (by omega) (by omega) (by first | omega | grind) (by first | omega | grind) (by first | omega | grind)
                    · refine g_if (fun w571 => ?_) (fun w571 => ?_)
                      · have zb572 := hm27.f_1_2
                        have zb574 := hm27.f_1_1
                        have q575 : m27 1 1 = (m0 1 1) := (Eq.refl (m27 1 1)).trans ((Fm27 _ _ (by omega)).trans (Eq.refl (m0 1 1)).symm)
                        exact hk u26 m27 hm27 Fm27 (by omega) (by omega) (by first | omega | grind) (by first | omega | grind) (by first | omega | grind)
                      · refine u_X7_takeNumber_115 ?_
                        refine g_C ?_
                        refine ⟨hS.k1, ?_⟩
                        refine zr_X7_refuse hS hm27 (by omega) (by omega) (fun v576 m577 hm577 fm577 bv576 cv576 => ?_)
                        have zb578 := hm577.f_1_2
                        have zb579 := hm577.f_1_1
                        have Fm577 : ∀ c p : Int, ¬ (c = 1 ∧ 2 ≤ p ∧ p ≤ 4) → m577 c p = m0 c p := fun c p h => (fm577 c p (by omega)).trans (Fm27 c p h)
                        refine g_C ?_
                        have zb580 := hm577.f_1_2
                        have q581 : m577 1 2 = v442 := (Eq.refl (m577 1 2)).trans ((fm577 _ _ (by omega)).trans ev442.symm)
                        have zb582 := hm577.f_1_1
                        have q583 : m577 1 1 = (m0 1 1) := (Eq.refl (m577 1 1)).trans ((fm577 _ _ (by omega)).trans ((Fm27 _ _ (by omega)).trans (Eq.refl (m0 1 1)).symm))
                        exact hk (-1) m577 hm577 Fm577 (by omega) (by omega) (by first | omega | grind) (by first | omega | grind) (by first | omega | grind)
                · refine g_C ?_
                  refine ⟨by omega, ?_⟩
                  refine g_ifF (by omega) ?_
                  refine g_get 2 (0) (400) rfl hS.k1 hm27.f_1_2 (fun v584 ev584 bv584 cv584 => ?_)
                  have qv584 : v584 = v442 := ev584.trans ev442.symm
                  refine g_get 3 (0) (400) rfl hS.k1 hm27.f_1_3 (fun v585 ev585 bv585 cv585 => ?_)
                  refine g_S (by omega) (by omega) ?_
                  refine g_C ?_
                  refine g_if (fun w586 => ?_) (fun w586 => ?_)
                  · refine u_X7_takeNumber_78 ?_
                    refine g_get 2 (0) (400) rfl hS.k1 hm27.f_1_2 (fun v587 ev587 bv587 cv587 => ?_)
                    have qv587 : v587 = v442 := ev587.trans ev442.symm
                    refine g_C ?_
                    refine g_A (by omega) (by omega) ?_
                    refine g_put 2 rfl hS.k1 (hm27.w_1_2 (by omega) (by omega)) (fun m588 em588 hm588 => ?_)
                    have Fm588 : ∀ c p : Int, ¬ (c = 1 ∧ 2 ≤ p ∧ p ≤ 4) → m588 c p = m0 c p := fun c p h => (congrFun (congrFun em588 _) _).trans ((up_ne (by omega)).trans (Fm27 c p h))
                    have zb589 := hm588.f_1_2
                    have q590 : m588 1 2 = (v587 + 1) := (Eq.refl (m588 1 2)).trans ((congrFun (congrFun em588 _) _).trans (up_ate (by omega)))
                    have zb591 := hm588.f_1_1
                    have q592 : m588 1 1 = (m0 1 1) := (Eq.refl (m588 1 1)).trans ((congrFun (congrFun em588 _) _).trans ((up_ne (by omega)).trans ((Fm27 _ _ (by omega)).trans (Eq.refl (m0 1 1)).symm)))
                    exact ih_n_l441 u26 m588 hm588 Fm588 (by omega) (by omega) (by first | omega | grind) (by first | omega | grind) (by omega)
                  · refine g_C ?_
                    refine g_Mw (fun v593 bv593 cv593 => ?_)
                    refine g_get 2 (0) (400) rfl hS.k1 hm27.f_1_2 (fun v594 ev594 bv594 cv594 => ?_)
                    have qv594 : v594 = v442 := ev594.trans ev442.symm
                    refine ⟨hS.k1, ?_⟩
                    refine u_X7_byteAt ?_
                    refine g_ifF (by omega) ?_
                    refine g_get 1 (0) (400) rfl hS.k1 hm27.f_1_1 (fun v595 ev595 bv595 cv595 => ?_)
                    have qv595 : v595 = (m0 1 1) := ev595.trans ((Fm27 _ _ (by omega)).trans (Eq.refl (m0 1 1)).symm)
                    refine g_if (fun w596 => ?_) (fun w596 => ?_)
                    · refine g_C ?_
                      refine g_Aw (fun v597 bv597 cv597 => ?_)
                      refine g_C ?_
                      refine g_Sw (fun v598 bv598 cv598 => ?_)
                      refine u_X7_takeNumber_78 ?_
                      refine g_get 2 (0) (400) rfl hS.k1 hm27.f_1_2 (fun v599 ev599 bv599 cv599 => ?_)
                      have qv599 : v599 = v442 := ev599.trans ev442.symm
                      refine g_C ?_
                      refine g_A (by omega) (by omega) ?_
                      refine g_put 2 rfl hS.k1 (hm27.w_1_2 (by omega) (by omega)) (fun m600 em600 hm600 => ?_)
                      have Fm600 : ∀ c p : Int, ¬ (c = 1 ∧ 2 ≤ p ∧ p ≤ 4) → m600 c p = m0 c p := fun c p h => (congrFun (congrFun em600 _) _).trans ((up_ne (by omega)).trans (Fm27 c p h))
                      have zb601 := hm600.f_1_2
                      have q602 : m600 1 2 = (v599 + 1) := (Eq.refl (m600 1 2)).trans ((congrFun (congrFun em600 _) _).trans (up_ate (by omega)))
                      have zb603 := hm600.f_1_1
                      have q604 : m600 1 1 = (m0 1 1) := (Eq.refl (m600 1 1)).trans ((congrFun (congrFun em600 _) _).trans ((up_ne (by omega)).trans ((Fm27 _ _ (by omega)).trans (Eq.refl (m0 1 1)).symm)))
                      exact ih_n_l441 v598 m600 hm600 Fm600 (by omega) (by omega) (by first | omega | grind) (by first | omega | grind) (by omega)
                    · refine g_C ?_
                      refine g_ifF (by omega) ?_
                      refine g_getr 0 2 rfl hS.k1 hm27.f_1_0 (by decide) ?_
                      refine g_ld (-128) (127) hS.k2 hS.l2 (by omega) (by omega) (hm27.a_2 (by omega) (by omega)) (fun v605 ev605 bv605 cv605 => ?_)
                      have qv605 : v605 = v514 := ev605.trans ((congrArg (m27 2) (show v594 = v478 by omega)).trans ev514.symm)
                      refine g_C ?_
                      refine g_iAndR (by omega) (by omega) (fun v606 dv606 bv606 cv606 => ?_)
                      refine g_Aw (fun v607 bv607 cv607 => ?_)
                      refine g_C ?_
                      refine g_Sw (fun v608 bv608 cv608 => ?_)
                      refine u_X7_takeNumber_78 ?_
                      refine g_get 2 (0) (400) rfl hS.k1 hm27.f_1_2 (fun v609 ev609 bv609 cv609 => ?_)
                      have qv609 : v609 = v442 := ev609.trans ev442.symm
                      refine g_C ?_
                      refine g_A (by omega) (by omega) ?_
                      refine g_put 2 rfl hS.k1 (hm27.w_1_2 (by omega) (by omega)) (fun m610 em610 hm610 => ?_)
                      have Fm610 : ∀ c p : Int, ¬ (c = 1 ∧ 2 ≤ p ∧ p ≤ 4) → m610 c p = m0 c p := fun c p h => (congrFun (congrFun em610 _) _).trans ((up_ne (by omega)).trans (Fm27 c p h))
                      have zb611 := hm610.f_1_2
                      have q612 : m610 1 2 = (v609 + 1) := (Eq.refl (m610 1 2)).trans ((congrFun (congrFun em610 _) _).trans (up_ate (by omega)))
                      have zb613 := hm610.f_1_1
                      have q614 : m610 1 1 = (m0 1 1) := (Eq.refl (m610 1 1)).trans ((congrFun (congrFun em610 _) _).trans ((up_ne (by omega)).trans ((Fm27 _ _ (by omega)).trans (Eq.refl (m0 1 1)).symm)))
                      exact ih_n_l441 v608 m610 hm610 Fm610 (by omega) (by omega) (by first | omega | grind) (by first | omega | grind) (by omega)
      have zb615 := hm2.f_1_2
      have zb617 := hm2.f_1_1
      have q618 : m2 1 1 = (m0 1 1) := (Eq.refl (m2 1 1)).trans ((fm2 _ _ (by omega)).trans (Eq.refl (m0 1 1)).symm)
      exact ⟨401, L_n_l441 401 0 m2 hm2 Fm2 (by omega) (by omega) (by first | omega | grind) (by first | omega | grind) (by omega)⟩
theorem zr_X7_takesWord {X : Mm} {S : Sh} {m0 : Mm} {K : Int → Mm → Prop} {u1 : Int} (hS : Shp S) (hm0 : Inv X S m0) (l_u1 : (-19) ≤ u1) (h_u1 : u1 ≤ (-3)) (hk : ∀ (r : Int) (M1 : Mm), Inv X S M1 → (∀ c p : Int, ¬ (c = 1 ∧ 2 ≤ p ∧ p ≤ 3) → M1 c p = m0 c p) → 0 ≤ r → r ≤ 1 → (m0 1 2 ≤ M1 1 2) → (r = 0 ∨ m0 1 2 + 2 ≤ M1 1 2) → K r M1) : wp_X7_takesWord S m0 1 u1 K := by
  have Fm0 : ∀ c p : Int, ¬ (c = 1 ∧ 2 ≤ p ∧ p ≤ 3) → m0 c p = m0 c p := fun c p _ => rfl
  refine u_X7_takesWord ?_
  refine ⟨hS.k1, ?_⟩
  refine zr_X7_look hS hm0 (fun v1 m2 hm2 fm2 bv1 cv1 yv1_0 yv1_1 yv1_2 => ?_)
  have zb3 := hm2.f_1_2
  have zb4 := hm2.f_1_1
  have Fm2 : ∀ c p : Int, ¬ (c = 1 ∧ 2 ≤ p ∧ p ≤ 3) → m2 c p = m0 c p := fun c p h => (fm2 c p (by omega)).trans (Fm0 c p h)
  refine g_slen2 (by omega) (by omega) (fun v5 ev5 bv5 cv5 => ?_)
  refine g_C ?_
  have L_n_l46 : ∀ (n_l46 : Nat) (u9 : Int), 0 ≤ u9 → u9 ≤ 6 → (m2 1 2 + u9 ≤ 400) → 7 - u9 ≤ (n_l46 : Int) → wp_X7_takesWord_12 S K n_l46 1 u1 v5 u9 m2 := by
    intro n_l46
    induction n_l46 with
    | zero => intro u9 bu9 cu9 xn_l46_0 zn_l46; exfalso; omega
    | succ n_l46 ih_n_l46 =>
      intro u9 bu9 cu9 xn_l46_0 zn_l46
      refine u_X7_takesWord_12 ?_
      refine g_if (fun w47 => ?_) (fun w47 => ?_)
      · refine g_get 2 (0) (400) rfl hS.k1 hm2.f_1_2 (fun v48 ev48 bv48 cv48 => ?_)
        have qv48 : v48 = (m2 1 2) := ev48.trans (Eq.refl (m2 1 2)).symm
        refine g_A (by omega) (by omega) ?_
        refine ⟨hS.k1, ?_⟩
        refine u_X7_byteAt ?_
        refine g_ifF (by omega) ?_
        refine g_get 1 (0) (400) rfl hS.k1 hm2.f_1_1 (fun v49 ev49 bv49 cv49 => ?_)
        have qv49 : v49 = (m0 1 1) := ev49.trans ((fm2 _ _ (by omega)).trans (Eq.refl (m0 1 1)).symm)
        refine g_if (fun w50 => ?_) (fun w50 => ?_)
        · refine g_C ?_
          refine g_C ?_
          refine g_ifT (by omega) ?_
          refine u_X7_takesWord_68 ?_
          refine g_get 2 (0) (400) rfl hS.k1 hm2.f_1_2 (fun v51 ev51 bv51 cv51 => ?_)
          have qv51 : v51 = (m2 1 2) := ev51.trans (Eq.refl (m2 1 2)).symm
          refine g_A (by omega) (by omega) ?_
          refine g_put 2 rfl hS.k1 (hm2.w_1_2 (by omega) (by omega)) (fun m52 em52 hm52 => ?_)
          have Fm52 : ∀ c p : Int, ¬ (c = 1 ∧ 2 ≤ p ∧ p ≤ 3) → m52 c p = m0 c p := fun c p h => (congrFun (congrFun em52 _) _).trans ((up_ne (by omega)).trans (Fm2 c p h))
          refine g_C ?_
          refine ⟨by omega, ?_⟩
          have zb53 := hm52.f_1_2
          have q54 : m52 1 2 = (v51 + v5) := (Eq.refl (m52 1 2)).trans ((congrFun (congrFun em52 _) _).trans (up_ate (by omega)))
          have zb55 := hm52.f_1_1
          have q56 : m52 1 1 = (m0 1 1) := (Eq.refl (m52 1 1)).trans ((congrFun (congrFun em52 _) _).trans ((up_ne (by omega)).trans ((fm2 _ _ (by omega)).trans (Eq.refl (m0 1 1)).symm)))
          exact hk 1 m52 hm52 Fm52 (by omega) (by omega) (by omega) (by omega)
        · refine g_C ?_
          refine g_if (fun w57 => ?_) (fun w57 => ?_)
          · refine g_C ?_
            refine g_C ?_
            refine g_ifT (by omega) ?_
            refine u_X7_takesWord_68 ?_
            refine g_get 2 (0) (400) rfl hS.k1 hm2.f_1_2 (fun v58 ev58 bv58 cv58 => ?_)
            have qv58 : v58 = (m2 1 2) := ev58.trans (Eq.refl (m2 1 2)).symm
            refine g_A (by omega) (by omega) ?_
            refine g_put 2 rfl hS.k1 (hm2.w_1_2 (by omega) (by omega)) (fun m59 em59 hm59 => ?_)
            have Fm59 : ∀ c p : Int, ¬ (c = 1 ∧ 2 ≤ p ∧ p ≤ 3) → m59 c p = m0 c p := fun c p h => (congrFun (congrFun em59 _) _).trans ((up_ne (by omega)).trans (Fm2 c p h))
            refine g_C ?_
            refine ⟨by omega, ?_⟩
            have zb60 := hm59.f_1_2
            have q61 : m59 1 2 = (v58 + v5) := (Eq.refl (m59 1 2)).trans ((congrFun (congrFun em59 _) _).trans (up_ate (by omega)))
            have zb62 := hm59.f_1_1
            have q63 : m59 1 1 = (m0 1 1) := (Eq.refl (m59 1 1)).trans ((congrFun (congrFun em59 _) _).trans ((up_ne (by omega)).trans ((fm2 _ _ (by omega)).trans (Eq.refl (m0 1 1)).symm)))
            exact hk 1 m59 hm59 Fm59 (by omega) (by omega) (by omega) (by omega)
          · refine g_getr 0 2 rfl hS.k1 hm2.f_1_0 (by decide) ?_
            refine g_ld (-128) (127) hS.k2 hS.l2 (by omega) (by omega) (hm2.a_2 (by omega) (by omega)) (fun v64 ev64 bv64 cv64 => ?_)
            refine g_C ?_
            refine g_iAndR (by omega) (by omega) (fun v65 dv65 bv65 cv65 => ?_)
            refine g_C ?_
            refine g_if (fun w66 => ?_) (fun w66 => ?_)
            · refine u_X7_takesWord_68 ?_
              refine g_get 2 (0) (400) rfl hS.k1 hm2.f_1_2 (fun v67 ev67 bv67 cv67 => ?_)
              have qv67 : v67 = (m2 1 2) := ev67.trans (Eq.refl (m2 1 2)).symm
              refine g_A (by omega) (by omega) ?_
              refine g_put 2 rfl hS.k1 (hm2.w_1_2 (by omega) (by omega)) (fun m68 em68 hm68 => ?_)
              have Fm68 : ∀ c p : Int, ¬ (c = 1 ∧ 2 ≤ p ∧ p ≤ 3) → m68 c p = m0 c p := fun c p h => (congrFun (congrFun em68 _) _).trans ((up_ne (by omega)).trans (Fm2 c p h))
              refine g_C ?_
              refine ⟨by omega, ?_⟩
              have zb69 := hm68.f_1_2
              have q70 : m68 1 2 = (v67 + v5) := (Eq.refl (m68 1 2)).trans ((congrFun (congrFun em68 _) _).trans (up_ate (by omega)))
              have zb71 := hm68.f_1_1
              have q72 : m68 1 1 = (m0 1 1) := (Eq.refl (m68 1 1)).trans ((congrFun (congrFun em68 _) _).trans ((up_ne (by omega)).trans ((fm2 _ _ (by omega)).trans (Eq.refl (m0 1 1)).symm)))
              exact hk 1 m68 hm68 Fm68 (by omega) (by omega) (by omega) (by omega)
            · refine g_C ?_
              refine g_if (fun w73 => ?_) (fun w73 => ?_)
              · refine u_X7_takesWord_68 ?_
                refine g_get 2 (0) (400) rfl hS.k1 hm2.f_1_2 (fun v74 ev74 bv74 cv74 => ?_)
                have qv74 : v74 = (m2 1 2) := ev74.trans (Eq.refl (m2 1 2)).symm
                refine g_A (by omega) (by omega) ?_
                refine g_put 2 rfl hS.k1 (hm2.w_1_2 (by omega) (by omega)) (fun m75 em75 hm75 => ?_)
                have Fm75 : ∀ c p : Int, ¬ (c = 1 ∧ 2 ≤ p ∧ p ≤ 3) → m75 c p = m0 c p := fun c p h => (congrFun (congrFun em75 _) _).trans ((up_ne (by omega)).trans (Fm2 c p h))
                refine g_C ?_
                refine ⟨by omega, ?_⟩
                have zb76 := hm75.f_1_2
                have q77 : m75 1 2 = (v74 + v5) := (Eq.refl (m75 1 2)).trans ((congrFun (congrFun em75 _) _).trans (up_ate (by omega)))
                have zb78 := hm75.f_1_1
                have q79 : m75 1 1 = (m0 1 1) := (Eq.refl (m75 1 1)).trans ((congrFun (congrFun em75 _) _).trans ((up_ne (by omega)).trans ((fm2 _ _ (by omega)).trans (Eq.refl (m0 1 1)).symm)))
                exact hk 1 m75 hm75 Fm75 (by omega) (by omega) (by omega) (by omega)
              · refine g_C ?_
                refine ⟨by omega, ?_⟩
                have zb80 := hm2.f_1_2
                have zb82 := hm2.f_1_1
                have q83 : m2 1 1 = (m0 1 1) := (Eq.refl (m2 1 1)).trans ((fm2 _ _ (by omega)).trans (Eq.refl (m0 1 1)).symm)
                exact hk 0 m2 hm2 Fm2 (by omega) (by omega) (by omega) (by omega)
      · refine g_get 2 (0) (400) rfl hS.k1 hm2.f_1_2 (fun v84 ev84 bv84 cv84 => ?_)
        have qv84 : v84 = (m2 1 2) := ev84.trans (Eq.refl (m2 1 2)).symm
        refine g_A (by omega) (by omega) ?_
        refine ⟨hS.k1, ?_⟩
        refine u_X7_byteAt ?_
        refine g_ifF (by omega) ?_
        refine g_get 1 (0) (400) rfl hS.k1 hm2.f_1_1 (fun v85 ev85 bv85 cv85 => ?_)
        have qv85 : v85 = (m0 1 1) := ev85.trans ((fm2 _ _ (by omega)).trans (Eq.refl (m0 1 1)).symm)
        refine g_if (fun w86 => ?_) (fun w86 => ?_)
        · refine g_C ?_
          refine g_sch (by omega) (by omega) (by omega) (by omega) (fun v87 bv87 cv87 => ?_)
          refine g_ifF (by omega) ?_
          refine g_C ?_
          refine ⟨by omega, ?_⟩
          have zb88 := hm2.f_1_2
          have zb90 := hm2.f_1_1
          have q91 : m2 1 1 = (m0 1 1) := (Eq.refl (m2 1 1)).trans ((fm2 _ _ (by omega)).trans (Eq.refl (m0 1 1)).symm)
          exact hk 0 m2 hm2 Fm2 (by omega) (by omega) (by omega) (by omega)
        · refine g_C ?_
          refine g_if (fun w92 => ?_) (fun w92 => ?_)
          · refine g_C ?_
            refine g_sch (by omega) (by omega) (by omega) (by omega) (fun v93 bv93 cv93 => ?_)
            refine g_ifF (by omega) ?_
            refine g_C ?_
            refine ⟨by omega, ?_⟩
            have zb94 := hm2.f_1_2
            have zb96 := hm2.f_1_1
            have q97 : m2 1 1 = (m0 1 1) := (Eq.refl (m2 1 1)).trans ((fm2 _ _ (by omega)).trans (Eq.refl (m0 1 1)).symm)
            exact hk 0 m2 hm2 Fm2 (by omega) (by omega) (by omega) (by omega)
          · refine g_getr 0 2 rfl hS.k1 hm2.f_1_0 (by decide) ?_
            refine g_ld (-128) (127) hS.k2 hS.l2 (by omega) (by omega) (hm2.a_2 (by omega) (by omega)) (fun v98 ev98 bv98 cv98 => ?_)
            refine g_C ?_
            refine g_iAndR (by omega) (by omega) (fun v99 dv99 bv99 cv99 => ?_)
            refine g_sch (by omega) (by omega) (by omega) (by omega) (fun v100 bv100 cv100 => ?_)
            refine g_if (fun w101 => ?_) (fun w101 => ?_)
            · refine g_A (by omega) (by omega) ?_
              have zb102 := hm2.f_1_2
              have zb104 := hm2.f_1_1
              have q105 : m2 1 1 = (m0 1 1) := (Eq.refl (m2 1 1)).trans ((fm2 _ _ (by omega)).trans (Eq.refl (m0 1 1)).symm)
              exact ih_n_l46 (u9 + 1) (by omega) (by omega) (by omega) (by omega)
            · refine g_C ?_
              refine ⟨by omega, ?_⟩
              have zb106 := hm2.f_1_2
              have zb108 := hm2.f_1_1
              have q109 : m2 1 1 = (m0 1 1) := (Eq.refl (m2 1 1)).trans ((fm2 _ _ (by omega)).trans (Eq.refl (m0 1 1)).symm)
              exact hk 0 m2 hm2 Fm2 (by omega) (by omega) (by omega) (by omega)
  have zb110 := hm2.f_1_2
  have zb112 := hm2.f_1_1
  have q113 : m2 1 1 = (m0 1 1) := (Eq.refl (m2 1 1)).trans ((fm2 _ _ (by omega)).trans (Eq.refl (m0 1 1)).symm)
  exact ⟨7, L_n_l46 7 0 (by omega) (by omega) (by omega) (by omega)⟩
theorem zr_X7_isAtEnd {X : Mm} {S : Sh} {m0 : Mm} {K : Int → Mm → Prop} (hS : Shp S) (hm0 : Inv X S m0)  (hk : ∀ (r : Int) (M1 : Mm), Inv X S M1 → (∀ c p : Int, ¬ (c = 1 ∧ 2 ≤ p ∧ p ≤ 3) → M1 c p = m0 c p) → 0 ≤ r → r ≤ 1 → (m0 1 2 ≤ M1 1 2) → K r M1) : wp_X7_isAtEnd S m0 1 K := by
  have Fm0 : ∀ c p : Int, ¬ (c = 1 ∧ 2 ≤ p ∧ p ≤ 3) → m0 c p = m0 c p := fun c p _ => rfl
  refine u_X7_isAtEnd ?_
  refine ⟨hS.k1, ?_⟩
  refine zr_X7_look hS hm0 (fun v1 m2 hm2 fm2 bv1 cv1 yv1_0 yv1_1 yv1_2 => ?_)
  have zb3 := hm2.f_1_2
  have Fm2 : ∀ c p : Int, ¬ (c = 1 ∧ 2 ≤ p ∧ p ≤ 3) → m2 c p = m0 c p := fun c p h => (fm2 c p (by omega)).trans (Fm0 c p h)
  refine g_C ?_
  refine g_if (fun w4 => ?_) (fun w4 => ?_)
  · refine g_C ?_
    refine ⟨by omega, ?_⟩
    have zb5 := hm2.f_1_2
    exact hk 0 m2 hm2 Fm2 (by omega) (by omega) (by omega)
  · refine g_C ?_
    refine ⟨by omega, ?_⟩
    have zb7 := hm2.f_1_2
    exact hk 1 m2 hm2 Fm2 (by omega) (by omega) (by omega)
theorem zr_X7_takesSign {X : Mm} {S : Sh} {m0 : Mm} {K : Int → Mm → Prop} {u1 : Int} (hS : Shp S) (hm0 : Inv X S m0) (l_u1 : 37 ≤ u1) (h_u1 : u1 ≤ 93) (hk : ∀ (r : Int) (M1 : Mm), Inv X S M1 → (∀ c p : Int, ¬ (c = 1 ∧ 2 ≤ p ∧ p ≤ 3) → M1 c p = m0 c p) → 0 ≤ r → r ≤ 1 → (m0 1 2 ≤ M1 1 2) → (r = 0 ∨ m0 1 2 + 1 ≤ M1 1 2) → K r M1) : wp_X7_takesSign S m0 1 u1 K := by
  have Fm0 : ∀ c p : Int, ¬ (c = 1 ∧ 2 ≤ p ∧ p ≤ 3) → m0 c p = m0 c p := fun c p _ => rfl
  refine u_X7_takesSign ?_
  refine ⟨hS.k1, ?_⟩
  refine zr_X7_look hS hm0 (fun v1 m2 hm2 fm2 bv1 cv1 yv1_0 yv1_1 yv1_2 => ?_)
  have zb3 := hm2.f_1_2
  have zb4 := hm2.f_1_1
  have Fm2 : ∀ c p : Int, ¬ (c = 1 ∧ 2 ≤ p ∧ p ≤ 3) → m2 c p = m0 c p := fun c p h => (fm2 c p (by omega)).trans (Fm0 c p h)
  refine g_if (fun w5 => ?_) (fun w5 => ?_)
  · refine g_get 2 (0) (400) rfl hS.k1 hm2.f_1_2 (fun v6 ev6 bv6 cv6 => ?_)
    have qv6 : v6 = (m2 1 2) := ev6.trans (Eq.refl (m2 1 2)).symm
    refine g_C ?_
    refine g_A (by omega) (by omega) ?_
    refine g_put 2 rfl hS.k1 (hm2.w_1_2 (by omega) (by omega)) (fun m7 em7 hm7 => ?_)
    have Fm7 : ∀ c p : Int, ¬ (c = 1 ∧ 2 ≤ p ∧ p ≤ 3) → m7 c p = m0 c p := fun c p h => (congrFun (congrFun em7 _) _).trans ((up_ne (by omega)).trans (Fm2 c p h))
    refine g_C ?_
    refine ⟨by omega, ?_⟩
    have zb8 := hm7.f_1_2
    have q9 : m7 1 2 = (v6 + 1) := (Eq.refl (m7 1 2)).trans ((congrFun (congrFun em7 _) _).trans (up_ate (by omega)))
    have zb10 := hm7.f_1_1
    have q11 : m7 1 1 = (m0 1 1) := (Eq.refl (m7 1 1)).trans ((congrFun (congrFun em7 _) _).trans ((up_ne (by omega)).trans ((fm2 _ _ (by omega)).trans (Eq.refl (m0 1 1)).symm)))
    exact hk 1 m7 hm7 Fm7 (by omega) (by omega) (by omega) (by omega)
  · refine g_C ?_
    refine ⟨by omega, ?_⟩
    have zb12 := hm2.f_1_2
    have zb14 := hm2.f_1_1
    have q15 : m2 1 1 = (m0 1 1) := (Eq.refl (m2 1 1)).trans ((fm2 _ _ (by omega)).trans (Eq.refl (m0 1 1)).symm)
    exact hk 0 m2 hm2 Fm2 (by omega) (by omega) (by omega) (by omega)
theorem z_X3_push {X : Mm} {S : Sh} {m0 : Mm} {K : Mm → Prop} {u1 : Int} (hS : Shp S) (hm0 : Inv X S m0) (l_u1 : (-27) ≤ u1) (h_u1 : u1 ≤ (-1)) (hk : ∀ (M1 : Mm), Inv X S M1 → (∀ c p : Int, ¬ (c = 52 ∧ 5 ≤ p ∧ p ≤ 5) ∧ ¬ c = 54 → M1 c p = m0 c p) → (M1 52 5 ≤ m0 52 5 + 1) → K M1) : wp_X3_push S m0 52 u1 K := by
  have Fm0 : ∀ c p : Int, ¬ (c = 52 ∧ 5 ≤ p ∧ p ≤ 5) ∧ ¬ c = 54 → m0 c p = m0 c p := fun c p _ => rfl
  refine u_X3_push ?_
  refine g_get 5 (0) (400) rfl hS.k52 hm0.f_52_5 (fun v1 ev1 bv1 cv1 => ?_)
  have qv1 : v1 = (m0 52 5) := ev1.trans (Eq.refl (m0 52 5)).symm
  refine g_C ?_
  refine g_if (fun w2 => ?_) (fun w2 => ?_)
  · have zb3 := hm0.f_52_5
    exact hk m0 hm0 Fm0 (by omega)
  · refine g_getr 4 54 rfl hS.k52 hm0.f_52_4 (by decide) ?_
    refine g_get 5 (0) (400) rfl hS.k52 hm0.f_52_5 (fun v5 ev5 bv5 cv5 => ?_)
    have qv5 : v5 = (m0 52 5) := ev5.trans (Eq.refl (m0 52 5)).symm
    refine g_st hS.k54 hS.l54 (by omega) (by omega) (hm0.wa_54 (by omega) (by omega)) (fun m6 em6 hm6 => ?_)
    have Fm6 : ∀ c p : Int, ¬ (c = 52 ∧ 5 ≤ p ∧ p ≤ 5) ∧ ¬ c = 54 → m6 c p = m0 c p := fun c p h => (congrFun (congrFun em6 _) _).trans ((up_ne (by omega)).trans (Fm0 c p h))
    refine g_get 5 (0) (400) rfl hS.k52 hm6.f_52_5 (fun v7 ev7 bv7 cv7 => ?_)
    have qv7 : v7 = (m0 52 5) := ev7.trans ((congrFun (congrFun em6 _) _).trans ((up_ne (by omega)).trans (Eq.refl (m0 52 5)).symm))
    refine g_C ?_
    refine g_A (by omega) (by omega) ?_
    refine g_put 5 rfl hS.k52 (hm6.w_52_5 (by omega) (by omega)) (fun m8 em8 hm8 => ?_)
    have Fm8 : ∀ c p : Int, ¬ (c = 52 ∧ 5 ≤ p ∧ p ≤ 5) ∧ ¬ c = 54 → m8 c p = m0 c p := fun c p h => (congrFun (congrFun em8 _) _).trans ((up_ne (by omega)).trans (Fm6 c p h))
    have zb9 := hm8.f_52_5
    have q10 : m8 52 5 = (v7 + 1) := (Eq.refl (m8 52 5)).trans ((congrFun (congrFun em8 _) _).trans (up_ate (by omega)))
    exact hk m8 hm8 Fm8 (by omega)
theorem z_X3_beginFact {X : Mm} {S : Sh} {m0 : Mm} {K : Int → Mm → Prop} (hS : Shp S) (hm0 : Inv X S m0)  (hk : ∀ (r : Int) (M1 : Mm), Inv X S M1 → (∀ c p : Int, ¬ (c = 52 ∧ 2 ≤ p ∧ p ≤ 3) ∧ ¬ (c = 52 ∧ 5 ≤ p ∧ p ≤ 8) ∧ ¬ c = 53 ∧ ¬ c = 54 ∧ ¬ (c = 1 ∧ 2 ≤ p ∧ p ≤ 4) → M1 c p = m0 c p) → 0 ≤ r → r ≤ 1 → (M1 52 2 + M1 52 5 - M1 1 2 ≤ m0 52 2 + m0 52 5 - m0 1 2) → (m0 1 2 ≤ M1 1 2) → K r M1) : wp_X3_beginFact S m0 52 K := by
  have Fm0 : ∀ c p : Int, ¬ (c = 52 ∧ 2 ≤ p ∧ p ≤ 3) ∧ ¬ (c = 52 ∧ 5 ≤ p ∧ p ≤ 8) ∧ ¬ c = 53 ∧ ¬ c = 54 ∧ ¬ (c = 1 ∧ 2 ≤ p ∧ p ≤ 4) → m0 c p = m0 c p := fun c p _ => rfl
  refine u_X3_beginFact ?_
  refine g_C ?_
  refine g_put 8 rfl hS.k52 (hm0.w_52_8 (by omega) (by omega)) (fun m1 em1 hm1 => ?_)
  have Fm1 : ∀ c p : Int, ¬ (c = 52 ∧ 2 ≤ p ∧ p ≤ 3) ∧ ¬ (c = 52 ∧ 5 ≤ p ∧ p ≤ 8) ∧ ¬ c = 53 ∧ ¬ c = 54 ∧ ¬ (c = 1 ∧ 2 ≤ p ∧ p ≤ 4) → m1 c p = m0 c p := fun c p h => (congrFun (congrFun em1 _) _).trans ((up_ne (by omega)).trans (Fm0 c p h))
  refine g_C ?_
  have L_n_l306 : ∀ (n_l306 : Nat) (u3 : Int) (m4 : Mm), Inv X S m4 → (∀ c p : Int, ¬ (c = 52 ∧ 2 ≤ p ∧ p ≤ 3) ∧ ¬ (c = 52 ∧ 5 ≤ p ∧ p ≤ 8) ∧ ¬ c = 53 ∧ ¬ c = 54 ∧ ¬ (c = 1 ∧ 2 ≤ p ∧ p ≤ 4) → m4 c p = m0 c p) → 0 ≤ u3 → u3 ≤ 11 → (m4 52 2 + m4 52 5 - m4 1 2 ≤ m0 52 2 + m0 52 5 - m0 1 2) → (m0 1 2 ≤ m4 1 2) → 12 - u3 ≤ (n_l306 : Int) → wp_X3_beginFact_7 S K n_l306 52 u3 m4 := by
    intro n_l306
    induction n_l306 with
    | zero => intro u3 m4 hm4 Fm4 bu3 cu3 xn_l306_0 xn_l306_1 zn_l306; exfalso; omega
    | succ n_l306 ih_n_l306 =>
      intro u3 m4 hm4 Fm4 bu3 cu3 xn_l306_0 xn_l306_1 zn_l306
      refine u_X3_beginFact_7 ?_
      refine g_C ?_
      refine g_if (fun w307 => ?_) (fun w307 => ?_)
      · refine g_C ?_
        refine ⟨by omega, ?_⟩
        have zb308 := hm4.f_52_2
        have zb310 := hm4.f_52_5
        have zb312 := hm4.f_1_2
        have zb314 := hm4.f_1_1
        have q315 : m4 1 1 = (m0 1 1) := (Eq.refl (m4 1 1)).trans ((Fm4 _ _ (by omega)).trans (Eq.refl (m0 1 1)).symm)
        exact hk 0 m4 hm4 Fm4 (by omega) (by omega) (by omega) (by omega)
      · refine g_getr 0 1 rfl hS.k52 hm4.f_52_0 (by decide) ?_
        refine g_C ?_
        refine ⟨hS.k1, ?_⟩
        have zb316 := hm4.f_52_2
        have zb318 := hm4.f_52_5
        have zb320 := hm4.f_1_2
        have zb322 := hm4.f_1_1
        have q323 : m4 1 1 = (m0 1 1) := (Eq.refl (m4 1 1)).trans ((Fm4 _ _ (by omega)).trans (Eq.refl (m0 1 1)).symm)
        refine zr_X7_takesSign hS hm4 (by omega) (by omega) (fun v324 m325 hm325 fm325 bv324 cv324 yv324_0 yv324_1 => ?_)
        have zb326 := hm325.f_52_2
        have zb327 := hm325.f_52_5
        have zb328 := hm325.f_1_2
        have zb329 := hm325.f_1_1
        have Fm325 : ∀ c p : Int, ¬ (c = 52 ∧ 2 ≤ p ∧ p ≤ 3) ∧ ¬ (c = 52 ∧ 5 ≤ p ∧ p ≤ 8) ∧ ¬ c = 53 ∧ ¬ c = 54 ∧ ¬ (c = 1 ∧ 2 ≤ p ∧ p ≤ 4) → m325 c p = m0 c p := fun c p h => (fm325 c p (by omega)).trans (Fm4 c p h)
        refine g_if (fun w330 => ?_) (fun w330 => ?_)
        · refine u_X3_beginFact_41 ?_
          refine g_get 6 (-2147483648) (2147483647) rfl hS.k52 hm325.f_52_6 (fun v331 ev331 bv331 cv331 => ?_)
          refine g_C ?_
          refine g_if (fun w332 => ?_) (fun w332 => ?_)
          · refine g_get 6 (-2147483648) (2147483647) rfl hS.k52 hm325.f_52_6 (fun v333 ev333 bv333 cv333 => ?_)
            have qv333 : v333 = v331 := ev333.trans ev331.symm
            refine g_C ?_
            refine g_A (by omega) (by omega) ?_
            refine g_put 6 rfl hS.k52 (hm325.w_52_6 (by omega) (by omega)) (fun m334 em334 hm334 => ?_)
            have Fm334 : ∀ c p : Int, ¬ (c = 52 ∧ 2 ≤ p ∧ p ≤ 3) ∧ ¬ (c = 52 ∧ 5 ≤ p ∧ p ≤ 8) ∧ ¬ c = 53 ∧ ¬ c = 54 ∧ ¬ (c = 1 ∧ 2 ≤ p ∧ p ≤ 4) → m334 c p = m0 c p := fun c p h => (congrFun (congrFun em334 _) _).trans ((up_ne (by omega)).trans (Fm325 c p h))
            refine g_get 7 (-2147483648) (2147483647) rfl hS.k52 hm334.f_52_7 (fun v335 ev335 bv335 cv335 => ?_)
            refine g_ifF (by omega) ?_
            refine g_C ?_
            refine u_X3_beginFact_83 ?_
            refine g_Aw (fun v336 bv336 cv336 => ?_)
            refine g_put 7 rfl hS.k52 (hm334.w_52_7 (by omega) (by omega)) (fun m337 em337 hm337 => ?_)
            have Fm337 : ∀ c p : Int, ¬ (c = 52 ∧ 2 ≤ p ∧ p ≤ 3) ∧ ¬ (c = 52 ∧ 5 ≤ p ∧ p ≤ 8) ∧ ¬ c = 53 ∧ ¬ c = 54 ∧ ¬ (c = 1 ∧ 2 ≤ p ∧ p ≤ 4) → m337 c p = m0 c p := fun c p h => (congrFun (congrFun em337 _) _).trans ((up_ne (by omega)).trans (Fm334 c p h))
            refine g_ifF (by omega) ?_
            refine g_C ?_
            refine u_X3_beginFact_99 ?_
            refine ⟨hS.k52, ?_⟩
            have zb338 := hm337.f_52_2
            have q339 : m337 52 2 = (m4 52 2) := (Eq.refl (m337 52 2)).trans ((congrFun (congrFun em337 _) _).trans ((up_ne (by omega)).trans ((congrFun (congrFun em334 _) _).trans ((up_ne (by omega)).trans ((fm325 _ _ (by omega)).trans (Eq.refl (m4 52 2)).symm)))))
            have zb340 := hm337.f_52_5
            have q341 : m337 52 5 = (m4 52 5) := (Eq.refl (m337 52 5)).trans ((congrFun (congrFun em337 _) _).trans ((up_ne (by omega)).trans ((congrFun (congrFun em334 _) _).trans ((up_ne (by omega)).trans ((fm325 _ _ (by omega)).trans (Eq.refl (m4 52 5)).symm)))))
            have zb342 := hm337.f_1_2
            have q343 : m337 1 2 = (m325 1 2) := (Eq.refl (m337 1 2)).trans ((congrFun (congrFun em337 _) _).trans ((up_ne (by omega)).trans ((congrFun (congrFun em334 _) _).trans ((up_ne (by omega)).trans (Eq.refl (m325 1 2)).symm))))
            have zb344 := hm337.f_1_1
            have q345 : m337 1 1 = (m0 1 1) := (Eq.refl (m337 1 1)).trans ((congrFun (congrFun em337 _) _).trans ((up_ne (by omega)).trans ((congrFun (congrFun em334 _) _).trans ((up_ne (by omega)).trans ((fm325 _ _ (by omega)).trans ((Fm4 _ _ (by omega)).trans (Eq.refl (m0 1 1)).symm))))))
            refine z_X3_push hS hm337 (by omega) (by omega) (fun m346 hm346 fm346 ym346_0 => ?_)
            have zb347 := hm346.f_52_2
            have zb348 := hm346.f_52_5
            have zb349 := hm346.f_1_2
            have zb350 := hm346.f_1_1
            have Fm346 : ∀ c p : Int, ¬ (c = 52 ∧ 2 ≤ p ∧ p ≤ 3) ∧ ¬ (c = 52 ∧ 5 ≤ p ∧ p ≤ 8) ∧ ¬ c = 53 ∧ ¬ c = 54 ∧ ¬ (c = 1 ∧ 2 ≤ p ∧ p ≤ 4) → m346 c p = m0 c p := fun c p h => (fm346 c p (by omega)).trans (Fm337 c p h)
            refine g_A (by omega) (by omega) ?_
            have zb351 := hm346.f_52_2
            have q352 : m346 52 2 = (m4 52 2) := (Eq.refl (m346 52 2)).trans ((fm346 _ _ (by omega)).trans ((congrFun (congrFun em337 _) _).trans ((up_ne (by omega)).trans ((congrFun (congrFun em334 _) _).trans ((up_ne (by omega)).trans ((fm325 _ _ (by omega)).trans (Eq.refl (m4 52 2)).symm))))))
            have zb353 := hm346.f_52_5
            have zb355 := hm346.f_1_2
            have q356 : m346 1 2 = (m325 1 2) := (Eq.refl (m346 1 2)).trans ((fm346 _ _ (by omega)).trans ((congrFun (congrFun em337 _) _).trans ((up_ne (by omega)).trans ((congrFun (congrFun em334 _) _).trans ((up_ne (by omega)).trans (Eq.refl (m325 1 2)).symm)))))
            have zb357 := hm346.f_1_1
            have q358 : m346 1 1 = (m0 1 1) := (Eq.refl (m346 1 1)).trans ((fm346 _ _ (by omega)).trans ((congrFun (congrFun em337 _) _).trans ((up_ne (by omega)).trans ((congrFun (congrFun em334 _) _).trans ((up_ne (by omega)).trans ((fm325 _ _ (by omega)).trans ((Fm4 _ _ (by omega)).trans (Eq.refl (m0 1 1)).symm)))))))
            exact ih_n_l306 (u3 + 1) m346 hm346 Fm346 (by omega) (by omega) (by omega) (by omega) (by omega)
          · refine g_getr 0 1 rfl hS.k52 hm325.f_52_0 (by decide) ?_
            refine g_C ?_
            refine ⟨hS.k1, ?_⟩
            refine zr_X7_refuse hS hm325 (by omega) (by omega) (fun v359 m360 hm360 fm360 bv359 cv359 => ?_)
            have zb361 := hm360.f_52_2
            have zb362 := hm360.f_52_5
            have zb363 := hm360.f_1_2
            have zb364 := hm360.f_1_1
            have Fm360 : ∀ c p : Int, ¬ (c = 52 ∧ 2 ≤ p ∧ p ≤ 3) ∧ ¬ (c = 52 ∧ 5 ≤ p ∧ p ≤ 8) ∧ ¬ c = 53 ∧ ¬ c = 54 ∧ ¬ (c = 1 ∧ 2 ≤ p ∧ p ≤ 4) → m360 c p = m0 c p := fun c p h => (fm360 c p (by omega)).trans (Fm325 c p h)
            refine ⟨by omega, ?_⟩
            have zb365 := hm360.f_52_2
            have q366 : m360 52 2 = (m4 52 2) := (Eq.refl (m360 52 2)).trans ((fm360 _ _ (by omega)).trans ((fm325 _ _ (by omega)).trans (Eq.refl (m4 52 2)).symm))
            have zb367 := hm360.f_52_5
            have q368 : m360 52 5 = (m4 52 5) := (Eq.refl (m360 52 5)).trans ((fm360 _ _ (by omega)).trans ((fm325 _ _ (by omega)).trans (Eq.refl (m4 52 5)).symm))
            have zb369 := hm360.f_1_2
            have q370 : m360 1 2 = (m325 1 2) := (Eq.refl (m360 1 2)).trans ((fm360 _ _ (by omega)).trans (Eq.refl (m325 1 2)).symm)
            have zb371 := hm360.f_1_1
            have q372 : m360 1 1 = (m0 1 1) := (Eq.refl (m360 1 1)).trans ((fm360 _ _ (by omega)).trans ((fm325 _ _ (by omega)).trans ((Fm4 _ _ (by omega)).trans (Eq.refl (m0 1 1)).symm)))
            exact hk v359 m360 hm360 Fm360 (by omega) (by omega) (by omega) (by omega)
        · refine g_getr 0 1 rfl hS.k52 hm325.f_52_0 (by decide) ?_
          refine g_C ?_
          refine ⟨hS.k1, ?_⟩
          have zb373 := hm325.f_52_2
          have q374 : m325 52 2 = (m4 52 2) := (Eq.refl (m325 52 2)).trans ((fm325 _ _ (by omega)).trans (Eq.refl (m4 52 2)).symm)
          have zb375 := hm325.f_52_5
          have q376 : m325 52 5 = (m4 52 5) := (Eq.refl (m325 52 5)).trans ((fm325 _ _ (by omega)).trans (Eq.refl (m4 52 5)).symm)
          have zb377 := hm325.f_1_2
          have zb379 := hm325.f_1_1
          have q380 : m325 1 1 = (m0 1 1) := (Eq.refl (m325 1 1)).trans ((fm325 _ _ (by omega)).trans ((Fm4 _ _ (by omega)).trans (Eq.refl (m0 1 1)).symm))
          refine zr_X7_takesWord hS hm325 (by omega) (by omega) (fun v381 m382 hm382 fm382 bv381 cv381 yv381_0 yv381_1 => ?_)
          have zb383 := hm382.f_52_2
          have zb384 := hm382.f_52_5
          have zb385 := hm382.f_1_2
          have zb386 := hm382.f_1_1
          have Fm382 : ∀ c p : Int, ¬ (c = 52 ∧ 2 ≤ p ∧ p ≤ 3) ∧ ¬ (c = 52 ∧ 5 ≤ p ∧ p ≤ 8) ∧ ¬ c = 53 ∧ ¬ c = 54 ∧ ¬ (c = 1 ∧ 2 ≤ p ∧ p ≤ 4) → m382 c p = m0 c p := fun c p h => (fm382 c p (by omega)).trans (Fm325 c p h)
          refine g_if (fun w387 => ?_) (fun w387 => ?_)
          · refine u_X3_beginFact_41 ?_
            refine g_get 6 (-2147483648) (2147483647) rfl hS.k52 hm382.f_52_6 (fun v388 ev388 bv388 cv388 => ?_)
            refine g_C ?_
            refine g_if (fun w389 => ?_) (fun w389 => ?_)
            · refine g_get 6 (-2147483648) (2147483647) rfl hS.k52 hm382.f_52_6 (fun v390 ev390 bv390 cv390 => ?_)
              have qv390 : v390 = v388 := ev390.trans ev388.symm
              refine g_C ?_
              refine g_A (by omega) (by omega) ?_
              refine g_put 6 rfl hS.k52 (hm382.w_52_6 (by omega) (by omega)) (fun m391 em391 hm391 => ?_)
              have Fm391 : ∀ c p : Int, ¬ (c = 52 ∧ 2 ≤ p ∧ p ≤ 3) ∧ ¬ (c = 52 ∧ 5 ≤ p ∧ p ≤ 8) ∧ ¬ c = 53 ∧ ¬ c = 54 ∧ ¬ (c = 1 ∧ 2 ≤ p ∧ p ≤ 4) → m391 c p = m0 c p := fun c p h => (congrFun (congrFun em391 _) _).trans ((up_ne (by omega)).trans (Fm382 c p h))
              refine g_get 7 (-2147483648) (2147483647) rfl hS.k52 hm391.f_52_7 (fun v392 ev392 bv392 cv392 => ?_)
              refine g_ifT (by omega) ?_
              refine g_C ?_
              refine u_X3_beginFact_83 ?_
              refine g_A (by omega) (by omega) ?_
              refine g_put 7 rfl hS.k52 (hm391.w_52_7 (by omega) (by omega)) (fun m393 em393 hm393 => ?_)
              have Fm393 : ∀ c p : Int, ¬ (c = 52 ∧ 2 ≤ p ∧ p ≤ 3) ∧ ¬ (c = 52 ∧ 5 ≤ p ∧ p ≤ 8) ∧ ¬ c = 53 ∧ ¬ c = 54 ∧ ¬ (c = 1 ∧ 2 ≤ p ∧ p ≤ 4) → m393 c p = m0 c p := fun c p h => (congrFun (congrFun em393 _) _).trans ((up_ne (by omega)).trans (Fm391 c p h))
              refine g_ifT (by omega) ?_
              refine g_C ?_
              refine u_X3_beginFact_99 ?_
              refine ⟨hS.k52, ?_⟩
              have zb394 := hm393.f_52_2
              have q395 : m393 52 2 = (m4 52 2) := (Eq.refl (m393 52 2)).trans ((congrFun (congrFun em393 _) _).trans ((up_ne (by omega)).trans ((congrFun (congrFun em391 _) _).trans ((up_ne (by omega)).trans ((fm382 _ _ (by omega)).trans ((fm325 _ _ (by omega)).trans (Eq.refl (m4 52 2)).symm))))))
              have zb396 := hm393.f_52_5
              have q397 : m393 52 5 = (m4 52 5) := (Eq.refl (m393 52 5)).trans ((congrFun (congrFun em393 _) _).trans ((up_ne (by omega)).trans ((congrFun (congrFun em391 _) _).trans ((up_ne (by omega)).trans ((fm382 _ _ (by omega)).trans ((fm325 _ _ (by omega)).trans (Eq.refl (m4 52 5)).symm))))))
              have zb398 := hm393.f_1_2
              have q399 : m393 1 2 = (m382 1 2) := (Eq.refl (m393 1 2)).trans ((congrFun (congrFun em393 _) _).trans ((up_ne (by omega)).trans ((congrFun (congrFun em391 _) _).trans ((up_ne (by omega)).trans (Eq.refl (m382 1 2)).symm))))
              have zb400 := hm393.f_1_1
              have q401 : m393 1 1 = (m0 1 1) := (Eq.refl (m393 1 1)).trans ((congrFun (congrFun em393 _) _).trans ((up_ne (by omega)).trans ((congrFun (congrFun em391 _) _).trans ((up_ne (by omega)).trans ((fm382 _ _ (by omega)).trans ((fm325 _ _ (by omega)).trans ((Fm4 _ _ (by omega)).trans (Eq.refl (m0 1 1)).symm)))))))
              refine z_X3_push hS hm393 (by omega) (by omega) (fun m402 hm402 fm402 ym402_0 => ?_)
              have zb403 := hm402.f_52_2
              have zb404 := hm402.f_52_5
              have zb405 := hm402.f_1_2
              have zb406 := hm402.f_1_1
              have Fm402 : ∀ c p : Int, ¬ (c = 52 ∧ 2 ≤ p ∧ p ≤ 3) ∧ ¬ (c = 52 ∧ 5 ≤ p ∧ p ≤ 8) ∧ ¬ c = 53 ∧ ¬ c = 54 ∧ ¬ (c = 1 ∧ 2 ≤ p ∧ p ≤ 4) → m402 c p = m0 c p := fun c p h => (fm402 c p (by omega)).trans (Fm393 c p h)
              refine g_A (by omega) (by omega) ?_
              have zb407 := hm402.f_52_2
              have q408 : m402 52 2 = (m4 52 2) := (Eq.refl (m402 52 2)).trans ((fm402 _ _ (by omega)).trans ((congrFun (congrFun em393 _) _).trans ((up_ne (by omega)).trans ((congrFun (congrFun em391 _) _).trans ((up_ne (by omega)).trans ((fm382 _ _ (by omega)).trans ((fm325 _ _ (by omega)).trans (Eq.refl (m4 52 2)).symm)))))))
              have zb409 := hm402.f_52_5
              have zb411 := hm402.f_1_2
              have q412 : m402 1 2 = (m382 1 2) := (Eq.refl (m402 1 2)).trans ((fm402 _ _ (by omega)).trans ((congrFun (congrFun em393 _) _).trans ((up_ne (by omega)).trans ((congrFun (congrFun em391 _) _).trans ((up_ne (by omega)).trans (Eq.refl (m382 1 2)).symm)))))
              have zb413 := hm402.f_1_1
              have q414 : m402 1 1 = (m0 1 1) := (Eq.refl (m402 1 1)).trans ((fm402 _ _ (by omega)).trans ((congrFun (congrFun em393 _) _).trans ((up_ne (by omega)).trans ((congrFun (congrFun em391 _) _).trans ((up_ne (by omega)).trans ((fm382 _ _ (by omega)).trans ((fm325 _ _ (by omega)).trans ((Fm4 _ _ (by omega)).trans (Eq.refl (m0 1 1)).symm))))))))
              exact ih_n_l306 (u3 + 1) m402 hm402 Fm402 (by omega) (by omega) (by omega) (by omega) (by omega)
            · refine g_getr 0 1 rfl hS.k52 hm382.f_52_0 (by decide) ?_
              refine g_C ?_
              refine ⟨hS.k1, ?_⟩
              refine zr_X7_refuse hS hm382 (by omega) (by omega) (fun v415 m416 hm416 fm416 bv415 cv415 => ?_)
              have zb417 := hm416.f_52_2
              have zb418 := hm416.f_52_5
              have zb419 := hm416.f_1_2
              have zb420 := hm416.f_1_1
              have Fm416 : ∀ c p : Int, ¬ (c = 52 ∧ 2 ≤ p ∧ p ≤ 3) ∧ ¬ (c = 52 ∧ 5 ≤ p ∧ p ≤ 8) ∧ ¬ c = 53 ∧ ¬ c = 54 ∧ ¬ (c = 1 ∧ 2 ≤ p ∧ p ≤ 4) → m416 c p = m0 c p := fun c p h => (fm416 c p (by omega)).trans (Fm382 c p h)
              refine ⟨by omega, ?_⟩
              have zb421 := hm416.f_52_2
              have q422 : m416 52 2 = (m4 52 2) := (Eq.refl (m416 52 2)).trans ((fm416 _ _ (by omega)).trans ((fm382 _ _ (by omega)).trans ((fm325 _ _ (by omega)).trans (Eq.refl (m4 52 2)).symm)))
              have zb423 := hm416.f_52_5
              have q424 : m416 52 5 = (m4 52 5) := (Eq.refl (m416 52 5)).trans ((fm416 _ _ (by omega)).trans ((fm382 _ _ (by omega)).trans ((fm325 _ _ (by omega)).trans (Eq.refl (m4 52 5)).symm)))
              have zb425 := hm416.f_1_2
              have q426 : m416 1 2 = (m382 1 2) := (Eq.refl (m416 1 2)).trans ((fm416 _ _ (by omega)).trans (Eq.refl (m382 1 2)).symm)
              have zb427 := hm416.f_1_1
              have q428 : m416 1 1 = (m0 1 1) := (Eq.refl (m416 1 1)).trans ((fm416 _ _ (by omega)).trans ((fm382 _ _ (by omega)).trans ((fm325 _ _ (by omega)).trans ((Fm4 _ _ (by omega)).trans (Eq.refl (m0 1 1)).symm))))
              exact hk v415 m416 hm416 Fm416 (by omega) (by omega) (by omega) (by omega)
          · refine g_C ?_
            refine ⟨by omega, ?_⟩
            have zb429 := hm382.f_52_2
            have q430 : m382 52 2 = (m4 52 2) := (Eq.refl (m382 52 2)).trans ((fm382 _ _ (by omega)).trans ((fm325 _ _ (by omega)).trans (Eq.refl (m4 52 2)).symm))
            have zb431 := hm382.f_52_5
            have q432 : m382 52 5 = (m4 52 5) := (Eq.refl (m382 52 5)).trans ((fm382 _ _ (by omega)).trans ((fm325 _ _ (by omega)).trans (Eq.refl (m4 52 5)).symm))
            have zb433 := hm382.f_1_2
            have zb435 := hm382.f_1_1
            have q436 : m382 1 1 = (m0 1 1) := (Eq.refl (m382 1 1)).trans ((fm382 _ _ (by omega)).trans ((fm325 _ _ (by omega)).trans ((Fm4 _ _ (by omega)).trans (Eq.refl (m0 1 1)).symm)))
            exact hk 1 m382 hm382 Fm382 (by omega) (by omega) (by omega) (by omega)
  have zb437 := hm1.f_52_2
  have q438 : m1 52 2 = (m0 52 2) := (Eq.refl (m1 52 2)).trans ((congrFun (congrFun em1 _) _).trans ((up_ne (by omega)).trans (Eq.refl (m0 52 2)).symm))
  have zb439 := hm1.f_52_5
  have q440 : m1 52 5 = (m0 52 5) := (Eq.refl (m1 52 5)).trans ((congrFun (congrFun em1 _) _).trans ((up_ne (by omega)).trans (Eq.refl (m0 52 5)).symm))
  have zb441 := hm1.f_1_2
  have q442 : m1 1 2 = (m0 1 2) := (Eq.refl (m1 1 2)).trans ((congrFun (congrFun em1 _) _).trans ((up_ne (by omega)).trans (Eq.refl (m0 1 2)).symm))
  have zb443 := hm1.f_1_1
  have q444 : m1 1 1 = (m0 1 1) := (Eq.refl (m1 1 1)).trans ((congrFun (congrFun em1 _) _).trans ((up_ne (by omega)).trans (Eq.refl (m0 1 1)).symm))
  exact ⟨12, L_n_l306 12 0 m1 hm1 Fm1 (by omega) (by omega) (by omega) (by omega) (by omega)⟩
theorem z_X3_dropTop {X : Mm} {S : Sh} {m0 : Mm} {K : Mm → Prop} (hS : Shp S) (hm0 : Inv X S m0)  (hk : ∀ (M1 : Mm), Inv X S M1 → (∀ c p : Int, ¬ (c = 52 ∧ 5 ≤ p ∧ p ≤ 6) → M1 c p = m0 c p) → (M1 52 5 + 1 ≤ m0 52 5 ∨ (m0 52 5 = 0 ∧ M1 52 5 = 0)) → (m0 52 5 ≤ M1 52 5 + 1) → K M1) : wp_X3_dropTop S m0 52 K := by
  have Fm0 : ∀ c p : Int, ¬ (c = 52 ∧ 5 ≤ p ∧ p ≤ 6) → m0 c p = m0 c p := fun c p _ => rfl
  refine u_X3_dropTop ?_
  refine g_get 5 (0) (400) rfl hS.k52 hm0.f_52_5 (fun v1 ev1 bv1 cv1 => ?_)
  have qv1 : v1 = (m0 52 5) := ev1.trans (Eq.refl (m0 52 5)).symm
  refine g_if (fun w2 => ?_) (fun w2 => ?_)
  · have zb3 := hm0.f_52_5
    exact hk m0 hm0 Fm0 (by omega) (by omega)
  · refine g_get 5 (0) (400) rfl hS.k52 hm0.f_52_5 (fun v5 ev5 bv5 cv5 => ?_)
    have qv5 : v5 = (m0 52 5) := ev5.trans (Eq.refl (m0 52 5)).symm
    refine g_C ?_
    refine g_S (by omega) (by omega) ?_
    refine g_put 5 rfl hS.k52 (hm0.w_52_5 (by omega) (by omega)) (fun m6 em6 hm6 => ?_)
    have Fm6 : ∀ c p : Int, ¬ (c = 52 ∧ 5 ≤ p ∧ p ≤ 6) → m6 c p = m0 c p := fun c p h => (congrFun (congrFun em6 _) _).trans ((up_ne (by omega)).trans (Fm0 c p h))
    refine g_getr 4 54 rfl hS.k52 hm6.f_52_4 (by decide) ?_
    refine g_get 5 (0) (400) rfl hS.k52 hm6.f_52_5 (fun v7 ev7 bv7 cv7 => ?_)
    have qv7 : v7 = (v5 - 1) := ev7.trans ((congrFun (congrFun em6 _) _).trans (up_ate (by omega)))
    refine g_ldu hS.k54 hS.l54 (by omega) (by omega) (fun v8 ev8 => ?_)
    refine g_C ?_
    refine g_if (fun w9 => ?_) (fun w9 => ?_)
    · refine u_X3_dropTop_45 ?_
      refine g_get 6 (-2147483648) (2147483647) rfl hS.k52 hm6.f_52_6 (fun v10 ev10 bv10 cv10 => ?_)
      refine g_C ?_
      refine g_Sw (fun v11 bv11 cv11 => ?_)
      refine g_put 6 rfl hS.k52 (hm6.w_52_6 (by omega) (by omega)) (fun m12 em12 hm12 => ?_)
      have Fm12 : ∀ c p : Int, ¬ (c = 52 ∧ 5 ≤ p ∧ p ≤ 6) → m12 c p = m0 c p := fun c p h => (congrFun (congrFun em12 _) _).trans ((up_ne (by omega)).trans (Fm6 c p h))
      have zb13 := hm12.f_52_5
      have q14 : m12 52 5 = (v5 - 1) := (Eq.refl (m12 52 5)).trans ((congrFun (congrFun em12 _) _).trans ((up_ne (by omega)).trans ((congrFun (congrFun em6 _) _).trans (up_ate (by omega)))))
      exact hk m12 hm12 Fm12 (by omega) (by omega)
    · refine g_getr 4 54 rfl hS.k52 hm6.f_52_4 (by decide) ?_
      refine g_get 5 (0) (400) rfl hS.k52 hm6.f_52_5 (fun v15 ev15 bv15 cv15 => ?_)
      have qv15 : v15 = (v5 - 1) := ev15.trans ((congrFun (congrFun em6 _) _).trans (up_ate (by omega)))
      refine g_ldu hS.k54 hS.l54 (by omega) (by omega) (fun v16 ev16 => ?_)
      have qv16 : v16 = v8 := ev16.trans ((congrArg (m6 54) (show v15 = v7 by omega)).trans ev8.symm)
      refine g_C ?_
      refine g_if (fun w17 => ?_) (fun w17 => ?_)
      · have zb18 := hm6.f_52_5
        have q19 : m6 52 5 = (v5 - 1) := (Eq.refl (m6 52 5)).trans ((congrFun (congrFun em6 _) _).trans (up_ate (by omega)))
        exact hk m6 hm6 Fm6 (by omega) (by omega)
      · refine u_X3_dropTop_45 ?_
        refine g_get 6 (-2147483648) (2147483647) rfl hS.k52 hm6.f_52_6 (fun v20 ev20 bv20 cv20 => ?_)
        refine g_C ?_
        refine g_Sw (fun v21 bv21 cv21 => ?_)
        refine g_put 6 rfl hS.k52 (hm6.w_52_6 (by omega) (by omega)) (fun m22 em22 hm22 => ?_)
        have Fm22 : ∀ c p : Int, ¬ (c = 52 ∧ 5 ≤ p ∧ p ≤ 6) → m22 c p = m0 c p := fun c p h => (congrFun (congrFun em22 _) _).trans ((up_ne (by omega)).trans (Fm6 c p h))
        have zb23 := hm22.f_52_5
        have q24 : m22 52 5 = (v5 - 1) := (Eq.refl (m22 52 5)).trans ((congrFun (congrFun em22 _) _).trans ((up_ne (by omega)).trans ((congrFun (congrFun em6 _) _).trans (up_ate (by omega)))))
        exact hk m22 hm22 Fm22 (by omega) (by omega)
theorem z_X3_write {X : Mm} {S : Sh} {m0 : Mm} {K : Mm → Prop} {u1 : Int} (hS : Shp S) (hm0 : Inv X S m0)  (hk : ∀ (M1 : Mm), Inv X S M1 → (∀ c p : Int, ¬ (c = 52 ∧ 2 ≤ p ∧ p ≤ 2) ∧ ¬ c = 53 → M1 c p = m0 c p) → (M1 52 2 ≤ m0 52 2 + 1) → K M1) : wp_X3_write S m0 52 u1 K := by
  have Fm0 : ∀ c p : Int, ¬ (c = 52 ∧ 2 ≤ p ∧ p ≤ 2) ∧ ¬ c = 53 → m0 c p = m0 c p := fun c p _ => rfl
  refine u_X3_write ?_
  refine g_get 2 (0) (400) rfl hS.k52 hm0.f_52_2 (fun v1 ev1 bv1 cv1 => ?_)
  have qv1 : v1 = (m0 52 2) := ev1.trans (Eq.refl (m0 52 2)).symm
  refine g_C ?_
  refine g_if (fun w2 => ?_) (fun w2 => ?_)
  · have zb3 := hm0.f_52_2
    exact hk m0 hm0 Fm0 (by omega)
  · refine g_getr 1 53 rfl hS.k52 hm0.f_52_1 (by decide) ?_
    refine g_get 2 (0) (400) rfl hS.k52 hm0.f_52_2 (fun v5 ev5 bv5 cv5 => ?_)
    have qv5 : v5 = (m0 52 2) := ev5.trans (Eq.refl (m0 52 2)).symm
    refine g_st hS.k53 hS.l53 (by omega) (by omega) (hm0.wa_53 (by omega) (by omega)) (fun m6 em6 hm6 => ?_)
    have Fm6 : ∀ c p : Int, ¬ (c = 52 ∧ 2 ≤ p ∧ p ≤ 2) ∧ ¬ c = 53 → m6 c p = m0 c p := fun c p h => (congrFun (congrFun em6 _) _).trans ((up_ne (by omega)).trans (Fm0 c p h))
    refine g_get 2 (0) (400) rfl hS.k52 hm6.f_52_2 (fun v7 ev7 bv7 cv7 => ?_)
    have qv7 : v7 = (m0 52 2) := ev7.trans ((congrFun (congrFun em6 _) _).trans ((up_ne (by omega)).trans (Eq.refl (m0 52 2)).symm))
    refine g_C ?_
    refine g_A (by omega) (by omega) ?_
    refine g_put 2 rfl hS.k52 (hm6.w_52_2 (by omega) (by omega)) (fun m8 em8 hm8 => ?_)
    have Fm8 : ∀ c p : Int, ¬ (c = 52 ∧ 2 ≤ p ∧ p ≤ 2) ∧ ¬ c = 53 → m8 c p = m0 c p := fun c p h => (congrFun (congrFun em8 _) _).trans ((up_ne (by omega)).trans (Fm6 c p h))
    have zb9 := hm8.f_52_2
    have q10 : m8 52 2 = (v7 + 1) := (Eq.refl (m8 52 2)).trans ((congrFun (congrFun em8 _) _).trans (up_ate (by omega)))
    exact hk m8 hm8 Fm8 (by omega)
theorem z_X3_unpile {X : Mm} {S : Sh} {m0 : Mm} {K : Mm → Prop} {u1 : Int} (hS : Shp S) (hm0 : Inv X S m0) (l_u1 : 0 ≤ u1) (h_u1 : u1 ≤ 6) (hk : ∀ (M1 : Mm), Inv X S M1 → (∀ c p : Int, ¬ (c = 52 ∧ 2 ≤ p ∧ p ≤ 2) ∧ ¬ (c = 52 ∧ 5 ≤ p ∧ p ≤ 6) ∧ ¬ c = 53 → M1 c p = m0 c p) → (M1 52 2 + M1 52 5 ≤ m0 52 2 + m0 52 5) → K M1) : wp_X3_unpile S m0 52 u1 K := by
  have Fm0 : ∀ c p : Int, ¬ (c = 52 ∧ 2 ≤ p ∧ p ≤ 2) ∧ ¬ (c = 52 ∧ 5 ≤ p ∧ p ≤ 6) ∧ ¬ c = 53 → m0 c p = m0 c p := fun c p _ => rfl
  refine u_X3_unpile ?_
  refine g_get 5 (0) (400) rfl hS.k52 hm0.f_52_5 (fun v1 ev1 bv1 cv1 => ?_)
  have qv1 : v1 = (m0 52 5) := ev1.trans (Eq.refl (m0 52 5)).symm
  refine g_C ?_
  refine g_S (by omega) (by omega) ?_
  have L_n_l146 : ∀ (n_l146 : Nat) (u4 : Int) (m5 : Mm), Inv X S m5 → (∀ c p : Int, ¬ (c = 52 ∧ 2 ≤ p ∧ p ≤ 2) ∧ ¬ (c = 52 ∧ 5 ≤ p ∧ p ≤ 6) ∧ ¬ c = 53 → m5 c p = m0 c p) → (-1) ≤ u4 → u4 ≤ 399 → (m5 52 2 + m5 52 5 ≤ m0 52 2 + m0 52 5) → (u4 + 1 ≤ m5 52 5) → u4 - (-2) ≤ (n_l146 : Int) → wp_X3_unpile_7 S K n_l146 52 u1 u4 m5 := by
    intro n_l146
    induction n_l146 with
    | zero => intro u4 m5 hm5 Fm5 bu4 cu4 xn_l146_0 xn_l146_1 zn_l146; exfalso; omega
    | succ n_l146 ih_n_l146 =>
      intro u4 m5 hm5 Fm5 bu4 cu4 xn_l146_0 xn_l146_1 zn_l146
      refine u_X3_unpile_7 ?_
      refine g_if (fun w147 => ?_) (fun w147 => ?_)
      · have zb148 := hm5.f_52_2
        have zb150 := hm5.f_52_5
        exact hk m5 hm5 Fm5 (by omega)
      · refine g_getr 4 54 rfl hS.k52 hm5.f_52_4 (by decide) ?_
        refine g_ldu hS.k54 hS.l54 (by omega) (by omega) (fun v152 ev152 => ?_)
        refine g_C ?_
        refine g_if (fun w153 => ?_) (fun w153 => ?_)
        · have zb154 := hm5.f_52_2
          have zb156 := hm5.f_52_5
          exact hk m5 hm5 Fm5 (by omega)
        · refine g_getr 4 54 rfl hS.k52 hm5.f_52_4 (by decide) ?_
          refine g_ldu hS.k54 hS.l54 (by omega) (by omega) (fun v158 ev158 => ?_)
          have qv158 : v158 = v152 := ev158.trans ev152.symm
          refine u_X3_bindingOf ?_
          refine g_if (fun w159 => ?_) (fun w159 => ?_)
          · refine g_C ?_
            refine g_if (fun w160 => ?_) (fun w160 => ?_)
            · refine g_getr 4 54 rfl hS.k52 hm5.f_52_4 (by decide) ?_
              refine g_ldu hS.k54 hS.l54 (by omega) (by omega) (fun v161 ev161 => ?_)
              have qv161 : v161 = v152 := ev161.trans ev152.symm
              refine ⟨hS.k52, ?_⟩
              have zb162 := hm5.f_52_2
              have zb164 := hm5.f_52_5
              refine z_X3_write hS hm5 (fun m166 hm166 fm166 ym166_0 => ?_)
              have zb167 := hm166.f_52_2
              have zb168 := hm166.f_52_5
              have Fm166 : ∀ c p : Int, ¬ (c = 52 ∧ 2 ≤ p ∧ p ≤ 2) ∧ ¬ (c = 52 ∧ 5 ≤ p ∧ p ≤ 6) ∧ ¬ c = 53 → m166 c p = m0 c p := fun c p h => (fm166 c p (by omega)).trans (Fm5 c p h)
              refine ⟨hS.k52, ?_⟩
              have zb169 := hm166.f_52_2
              have zb171 := hm166.f_52_5
              have q172 : m166 52 5 = (m5 52 5) := (Eq.refl (m166 52 5)).trans ((fm166 _ _ (by omega)).trans (Eq.refl (m5 52 5)).symm)
              refine z_X3_dropTop hS hm166 (fun m173 hm173 fm173 ym173_0 ym173_1 => ?_)
              have zb174 := hm173.f_52_2
              have zb175 := hm173.f_52_5
              have Fm173 : ∀ c p : Int, ¬ (c = 52 ∧ 2 ≤ p ∧ p ≤ 2) ∧ ¬ (c = 52 ∧ 5 ≤ p ∧ p ≤ 6) ∧ ¬ c = 53 → m173 c p = m0 c p := fun c p h => (fm173 c p (by omega)).trans (Fm166 c p h)
              refine g_A (by omega) (by omega) ?_
              have zb176 := hm173.f_52_2
              have q177 : m173 52 2 = (m166 52 2) := (Eq.refl (m173 52 2)).trans ((fm173 _ _ (by omega)).trans (Eq.refl (m166 52 2)).symm)
              have zb178 := hm173.f_52_5
              exact ih_n_l146 (u4 + (-1)) m173 hm173 Fm173 (by omega) (by omega) (by omega) (by omega) (by omega)
            · have zb180 := hm5.f_52_2
              have zb182 := hm5.f_52_5
              exact hk m5 hm5 Fm5 (by omega)
          · refine g_if (fun w184 => ?_) (fun w184 => ?_)
            · refine g_C ?_
              refine g_if (fun w185 => ?_) (fun w185 => ?_)
              · refine g_getr 4 54 rfl hS.k52 hm5.f_52_4 (by decide) ?_
                refine g_ldu hS.k54 hS.l54 (by omega) (by omega) (fun v186 ev186 => ?_)
                have qv186 : v186 = v152 := ev186.trans ev152.symm
                refine ⟨hS.k52, ?_⟩
                have zb187 := hm5.f_52_2
                have zb189 := hm5.f_52_5
                refine z_X3_write hS hm5 (fun m191 hm191 fm191 ym191_0 => ?_)
                have zb192 := hm191.f_52_2
                have zb193 := hm191.f_52_5
                have Fm191 : ∀ c p : Int, ¬ (c = 52 ∧ 2 ≤ p ∧ p ≤ 2) ∧ ¬ (c = 52 ∧ 5 ≤ p ∧ p ≤ 6) ∧ ¬ c = 53 → m191 c p = m0 c p := fun c p h => (fm191 c p (by omega)).trans (Fm5 c p h)
                refine ⟨hS.k52, ?_⟩
                have zb194 := hm191.f_52_2
                have zb196 := hm191.f_52_5
                have q197 : m191 52 5 = (m5 52 5) := (Eq.refl (m191 52 5)).trans ((fm191 _ _ (by omega)).trans (Eq.refl (m5 52 5)).symm)
                refine z_X3_dropTop hS hm191 (fun m198 hm198 fm198 ym198_0 ym198_1 => ?_)
                have zb199 := hm198.f_52_2
                have zb200 := hm198.f_52_5
                have Fm198 : ∀ c p : Int, ¬ (c = 52 ∧ 2 ≤ p ∧ p ≤ 2) ∧ ¬ (c = 52 ∧ 5 ≤ p ∧ p ≤ 6) ∧ ¬ c = 53 → m198 c p = m0 c p := fun c p h => (fm198 c p (by omega)).trans (Fm191 c p h)
                refine g_A (by omega) (by omega) ?_
                have zb201 := hm198.f_52_2
                have q202 : m198 52 2 = (m191 52 2) := (Eq.refl (m198 52 2)).trans ((fm198 _ _ (by omega)).trans (Eq.refl (m191 52 2)).symm)
                have zb203 := hm198.f_52_5
                exact ih_n_l146 (u4 + (-1)) m198 hm198 Fm198 (by omega) (by omega) (by omega) (by omega) (by omega)
              · have zb205 := hm5.f_52_2
                have zb207 := hm5.f_52_5
                exact hk m5 hm5 Fm5 (by omega)
            · refine g_if (fun w209 => ?_) (fun w209 => ?_)
              · refine g_C ?_
                refine g_if (fun w210 => ?_) (fun w210 => ?_)
                · refine g_getr 4 54 rfl hS.k52 hm5.f_52_4 (by decide) ?_
                  refine g_ldu hS.k54 hS.l54 (by omega) (by omega) (fun v211 ev211 => ?_)
                  have qv211 : v211 = v152 := ev211.trans ev152.symm
                  refine ⟨hS.k52, ?_⟩
                  have zb212 := hm5.f_52_2
                  have zb214 := hm5.f_52_5
                  refine z_X3_write hS hm5 (fun m216 hm216 fm216 ym216_0 => ?_)
                  have zb217 := hm216.f_52_2
                  have zb218 := hm216.f_52_5
                  have Fm216 : ∀ c p : Int, ¬ (c = 52 ∧ 2 ≤ p ∧ p ≤ 2) ∧ ¬ (c = 52 ∧ 5 ≤ p ∧ p ≤ 6) ∧ ¬ c = 53 → m216 c p = m0 c p := fun c p h => (fm216 c p (by omega)).trans (Fm5 c p h)
                  refine ⟨hS.k52, ?_⟩
                  have zb219 := hm216.f_52_2
                  have zb221 := hm216.f_52_5
                  have q222 : m216 52 5 = (m5 52 5) := (Eq.refl (m216 52 5)).trans ((fm216 _ _ (by omega)).trans (Eq.refl (m5 52 5)).symm)
                  refine z_X3_dropTop hS hm216 (fun m223 hm223 fm223 ym223_0 ym223_1 => ?_)
                  have zb224 := hm223.f_52_2
                  have zb225 := hm223.f_52_5
                  have Fm223 : ∀ c p : Int, ¬ (c = 52 ∧ 2 ≤ p ∧ p ≤ 2) ∧ ¬ (c = 52 ∧ 5 ≤ p ∧ p ≤ 6) ∧ ¬ c = 53 → m223 c p = m0 c p := fun c p h => (fm223 c p (by omega)).trans (Fm216 c p h)
                  refine g_A (by omega) (by omega) ?_
                  have zb226 := hm223.f_52_2
                  have q227 : m223 52 2 = (m216 52 2) := (Eq.refl (m223 52 2)).trans ((fm223 _ _ (by omega)).trans (Eq.refl (m216 52 2)).symm)
                  have zb228 := hm223.f_52_5
                  exact ih_n_l146 (u4 + (-1)) m223 hm223 Fm223 (by omega) (by omega) (by omega) (by omega) (by omega)
                · have zb230 := hm5.f_52_2
                  have zb232 := hm5.f_52_5
                  exact hk m5 hm5 Fm5 (by omega)
              · refine g_if (fun w234 => ?_) (fun w234 => ?_)
                · refine g_C ?_
                  refine g_if (fun w235 => ?_) (fun w235 => ?_)
                  · refine g_getr 4 54 rfl hS.k52 hm5.f_52_4 (by decide) ?_
                    refine g_ldu hS.k54 hS.l54 (by omega) (by omega) (fun v236 ev236 => ?_)
                    have qv236 : v236 = v152 := ev236.trans ev152.symm
                    refine ⟨hS.k52, ?_⟩
                    have zb237 := hm5.f_52_2
                    have zb239 := hm5.f_52_5
                    refine z_X3_write hS hm5 (fun m241 hm241 fm241 ym241_0 => ?_)
                    have zb242 := hm241.f_52_2
                    have zb243 := hm241.f_52_5
                    have Fm241 : ∀ c p : Int, ¬ (c = 52 ∧ 2 ≤ p ∧ p ≤ 2) ∧ ¬ (c = 52 ∧ 5 ≤ p ∧ p ≤ 6) ∧ ¬ c = 53 → m241 c p = m0 c p := fun c p h => (fm241 c p (by omega)).trans (Fm5 c p h)
                    refine ⟨hS.k52, ?_⟩
                    have zb244 := hm241.f_52_2
                    have zb246 := hm241.f_52_5
                    have q247 : m241 52 5 = (m5 52 5) := (Eq.refl (m241 52 5)).trans ((fm241 _ _ (by omega)).trans (Eq.refl (m5 52 5)).symm)
                    refine z_X3_dropTop hS hm241 (fun m248 hm248 fm248 ym248_0 ym248_1 => ?_)
                    have zb249 := hm248.f_52_2
                    have zb250 := hm248.f_52_5
                    have Fm248 : ∀ c p : Int, ¬ (c = 52 ∧ 2 ≤ p ∧ p ≤ 2) ∧ ¬ (c = 52 ∧ 5 ≤ p ∧ p ≤ 6) ∧ ¬ c = 53 → m248 c p = m0 c p := fun c p h => (fm248 c p (by omega)).trans (Fm241 c p h)
                    refine g_A (by omega) (by omega) ?_
                    have zb251 := hm248.f_52_2
                    have q252 : m248 52 2 = (m241 52 2) := (Eq.refl (m248 52 2)).trans ((fm248 _ _ (by omega)).trans (Eq.refl (m241 52 2)).symm)
                    have zb253 := hm248.f_52_5
                    exact ih_n_l146 (u4 + (-1)) m248 hm248 Fm248 (by omega) (by omega) (by omega) (by omega) (by omega)
                  · have zb255 := hm5.f_52_2
                    have zb257 := hm5.f_52_5
                    exact hk m5 hm5 Fm5 (by omega)
                · refine g_if (fun w259 => ?_) (fun w259 => ?_)
                  · refine g_C ?_
                    refine g_if (fun w260 => ?_) (fun w260 => ?_)
                    · refine g_getr 4 54 rfl hS.k52 hm5.f_52_4 (by decide) ?_
                      refine g_ldu hS.k54 hS.l54 (by omega) (by omega) (fun v261 ev261 => ?_)
                      have qv261 : v261 = v152 := ev261.trans ev152.symm
                      refine ⟨hS.k52, ?_⟩
                      have zb262 := hm5.f_52_2
                      have zb264 := hm5.f_52_5
                      refine z_X3_write hS hm5 (fun m266 hm266 fm266 ym266_0 => ?_)
                      have zb267 := hm266.f_52_2
                      have zb268 := hm266.f_52_5
                      have Fm266 : ∀ c p : Int, ¬ (c = 52 ∧ 2 ≤ p ∧ p ≤ 2) ∧ ¬ (c = 52 ∧ 5 ≤ p ∧ p ≤ 6) ∧ ¬ c = 53 → m266 c p = m0 c p := fun c p h => (fm266 c p (by omega)).trans (Fm5 c p h)
                      refine ⟨hS.k52, ?_⟩
                      have zb269 := hm266.f_52_2
                      have zb271 := hm266.f_52_5
                      have q272 : m266 52 5 = (m5 52 5) := (Eq.refl (m266 52 5)).trans ((fm266 _ _ (by omega)).trans (Eq.refl (m5 52 5)).symm)
                      refine z_X3_dropTop hS hm266 (fun m273 hm273 fm273 ym273_0 ym273_1 => ?_)
                      have zb274 := hm273.f_52_2
                      have zb275 := hm273.f_52_5
                      have Fm273 : ∀ c p : Int, ¬ (c = 52 ∧ 2 ≤ p ∧ p ≤ 2) ∧ ¬ (c = 52 ∧ 5 ≤ p ∧ p ≤ 6) ∧ ¬ c = 53 → m273 c p = m0 c p := fun c p h => (fm273 c p (by omega)).trans (Fm266 c p h)
                      refine g_A (by omega) (by omega) ?_
                      have zb276 := hm273.f_52_2
                      have q277 : m273 52 2 = (m266 52 2) := (Eq.refl (m273 52 2)).trans ((fm273 _ _ (by omega)).trans (Eq.refl (m266 52 2)).symm)
                      have zb278 := hm273.f_52_5
                      exact ih_n_l146 (u4 + (-1)) m273 hm273 Fm273 (by omega) (by omega) (by omega) (by omega) (by omega)
                    · have zb280 := hm5.f_52_2
                      have zb282 := hm5.f_52_5
                      exact hk m5 hm5 Fm5 (by omega)
                  · refine g_if (fun w284 => ?_) (fun w284 => ?_)
                    · refine g_C ?_
                      refine g_if (fun w285 => ?_) (fun w285 => ?_)
                      · refine g_getr 4 54 rfl hS.k52 hm5.f_52_4 (by decide) ?_
                        refine g_ldu hS.k54 hS.l54 (by omega) (by omega) (fun v286 ev286 => ?_)
                        have qv286 : v286 = v152 := ev286.trans ev152.symm
                        refine ⟨hS.k52, ?_⟩
                        have zb287 := hm5.f_52_2
                        have zb289 := hm5.f_52_5
                        refine z_X3_write hS hm5 (fun m291 hm291 fm291 ym291_0 => ?_)
                        have zb292 := hm291.f_52_2
                        have zb293 := hm291.f_52_5
                        have Fm291 : ∀ c p : Int, ¬ (c = 52 ∧ 2 ≤ p ∧ p ≤ 2) ∧ ¬ (c = 52 ∧ 5 ≤ p ∧ p ≤ 6) ∧ ¬ c = 53 → m291 c p = m0 c p := fun c p h => (fm291 c p (by omega)).trans (Fm5 c p h)
                        refine ⟨hS.k52, ?_⟩
                        have zb294 := hm291.f_52_2
                        have zb296 := hm291.f_52_5
                        have q297 : m291 52 5 = (m5 52 5) := (Eq.refl (m291 52 5)).trans ((fm291 _ _ (by omega)).trans (Eq.refl (m5 52 5)).symm)
                        refine z_X3_dropTop hS hm291 (fun m298 hm298 fm298 ym298_0 ym298_1 => ?_)
                        have zb299 := hm298.f_52_2
                        have zb300 := hm298.f_52_5
                        have Fm298 : ∀ c p : Int, ¬ (c = 52 ∧ 2 ≤ p ∧ p ≤ 2) ∧ ¬ (c = 52 ∧ 5 ≤ p ∧ p ≤ 6) ∧ ¬ c = 53 → m298 c p = m0 c p := fun c p h => (fm298 c p (by omega)).trans (Fm291 c p h)
                        refine g_A (by omega) (by omega) ?_
                        have zb301 := hm298.f_52_2
                        have q302 : m298 52 2 = (m291 52 2) := (Eq.refl (m298 52 2)).trans ((fm298 _ _ (by omega)).trans (Eq.refl (m291 52 2)).symm)
                        have zb303 := hm298.f_52_5
                        exact ih_n_l146 (u4 + (-1)) m298 hm298 Fm298 (by omega) (by omega) (by omega) (by omega) (by omega)
                      · have zb305 := hm5.f_52_2
                        have zb307 := hm5.f_52_5
                        exact hk m5 hm5 Fm5 (by omega)
                    · refine g_if (fun w309 => ?_) (fun w309 => ?_)
                      · refine g_C ?_
                        refine g_if (fun w310 => ?_) (fun w310 => ?_)
                        · refine g_getr 4 54 rfl hS.k52 hm5.f_52_4 (by decide) ?_
                          refine g_ldu hS.k54 hS.l54 (by omega) (by omega) (fun v311 ev311 => ?_)
                          have qv311 : v311 = v152 := ev311.trans ev152.symm
                          refine ⟨hS.k52, ?_⟩
                          have zb312 := hm5.f_52_2
                          have zb314 := hm5.f_52_5
                          refine z_X3_write hS hm5 (fun m316 hm316 fm316 ym316_0 => ?_)
                          have zb317 := hm316.f_52_2
                          have zb318 := hm316.f_52_5
                          have Fm316 : ∀ c p : Int, ¬ (c = 52 ∧ 2 ≤ p ∧ p ≤ 2) ∧ ¬ (c = 52 ∧ 5 ≤ p ∧ p ≤ 6) ∧ ¬ c = 53 → m316 c p = m0 c p := fun c p h => (fm316 c p (by omega)).trans (Fm5 c p h)
                          refine ⟨hS.k52, ?_⟩
                          have zb319 := hm316.f_52_2
                          have zb321 := hm316.f_52_5
                          have q322 : m316 52 5 = (m5 52 5) := (Eq.refl (m316 52 5)).trans ((fm316 _ _ (by omega)).trans (Eq.refl (m5 52 5)).symm)
                          refine z_X3_dropTop hS hm316 (fun m323 hm323 fm323 ym323_0 ym323_1 => ?_)
                          have zb324 := hm323.f_52_2
                          have zb325 := hm323.f_52_5
                          have Fm323 : ∀ c p : Int, ¬ (c = 52 ∧ 2 ≤ p ∧ p ≤ 2) ∧ ¬ (c = 52 ∧ 5 ≤ p ∧ p ≤ 6) ∧ ¬ c = 53 → m323 c p = m0 c p := fun c p h => (fm323 c p (by omega)).trans (Fm316 c p h)
                          refine g_A (by omega) (by omega) ?_
                          have zb326 := hm323.f_52_2
                          have q327 : m323 52 2 = (m316 52 2) := (Eq.refl (m323 52 2)).trans ((fm323 _ _ (by omega)).trans (Eq.refl (m316 52 2)).symm)
                          have zb328 := hm323.f_52_5
                          exact ih_n_l146 (u4 + (-1)) m323 hm323 Fm323 (by omega) (by omega) (by omega) (by omega) (by omega)
                        · have zb330 := hm5.f_52_2
                          have zb332 := hm5.f_52_5
                          exact hk m5 hm5 Fm5 (by omega)
                      · refine g_if (fun w334 => ?_) (fun w334 => ?_)
                        · refine g_C ?_
                          refine g_if (fun w335 => ?_) (fun w335 => ?_)
                          · refine g_getr 4 54 rfl hS.k52 hm5.f_52_4 (by decide) ?_
                            refine g_ldu hS.k54 hS.l54 (by omega) (by omega) (fun v336 ev336 => ?_)
                            have qv336 : v336 = v152 := ev336.trans ev152.symm
                            refine ⟨hS.k52, ?_⟩
                            have zb337 := hm5.f_52_2
                            have zb339 := hm5.f_52_5
                            refine z_X3_write hS hm5 (fun m341 hm341 fm341 ym341_0 => ?_)
                            have zb342 := hm341.f_52_2
                            have zb343 := hm341.f_52_5
                            have Fm341 : ∀ c p : Int, ¬ (c = 52 ∧ 2 ≤ p ∧ p ≤ 2) ∧ ¬ (c = 52 ∧ 5 ≤ p ∧ p ≤ 6) ∧ ¬ c = 53 → m341 c p = m0 c p := fun c p h => (fm341 c p (by omega)).trans (Fm5 c p h)
                            refine ⟨hS.k52, ?_⟩
                            have zb344 := hm341.f_52_2
                            have zb346 := hm341.f_52_5
                            have q347 : m341 52 5 = (m5 52 5) := (Eq.refl (m341 52 5)).trans ((fm341 _ _ (by omega)).trans (Eq.refl (m5 52 5)).symm)
                            refine z_X3_dropTop hS hm341 (fun m348 hm348 fm348 ym348_0 ym348_1 => ?_)
                            have zb349 := hm348.f_52_2
                            have zb350 := hm348.f_52_5
                            have Fm348 : ∀ c p : Int, ¬ (c = 52 ∧ 2 ≤ p ∧ p ≤ 2) ∧ ¬ (c = 52 ∧ 5 ≤ p ∧ p ≤ 6) ∧ ¬ c = 53 → m348 c p = m0 c p := fun c p h => (fm348 c p (by omega)).trans (Fm341 c p h)
                            refine g_A (by omega) (by omega) ?_
                            have zb351 := hm348.f_52_2
                            have q352 : m348 52 2 = (m341 52 2) := (Eq.refl (m348 52 2)).trans ((fm348 _ _ (by omega)).trans (Eq.refl (m341 52 2)).symm)
                            have zb353 := hm348.f_52_5
                            exact ih_n_l146 (u4 + (-1)) m348 hm348 Fm348 (by omega) (by omega) (by omega) (by omega) (by omega)
                          · have zb355 := hm5.f_52_2
                            have zb357 := hm5.f_52_5
                            exact hk m5 hm5 Fm5 (by omega)
                        · refine g_if (fun w359 => ?_) (fun w359 => ?_)
                          · refine g_C ?_
                            refine g_if (fun w360 => ?_) (fun w360 => ?_)
                            · refine g_getr 4 54 rfl hS.k52 hm5.f_52_4 (by decide) ?_
                              refine g_ldu hS.k54 hS.l54 (by omega) (by omega) (fun v361 ev361 => ?_)
                              have qv361 : v361 = v152 := ev361.trans ev152.symm
                              refine ⟨hS.k52, ?_⟩
                              have zb362 := hm5.f_52_2
                              have zb364 := hm5.f_52_5
                              refine z_X3_write hS hm5 (fun m366 hm366 fm366 ym366_0 => ?_)
                              have zb367 := hm366.f_52_2
                              have zb368 := hm366.f_52_5
                              have Fm366 : ∀ c p : Int, ¬ (c = 52 ∧ 2 ≤ p ∧ p ≤ 2) ∧ ¬ (c = 52 ∧ 5 ≤ p ∧ p ≤ 6) ∧ ¬ c = 53 → m366 c p = m0 c p := fun c p h => (fm366 c p (by omega)).trans (Fm5 c p h)
                              refine ⟨hS.k52, ?_⟩
                              have zb369 := hm366.f_52_2
                              have zb371 := hm366.f_52_5
                              have q372 : m366 52 5 = (m5 52 5) := (Eq.refl (m366 52 5)).trans ((fm366 _ _ (by omega)).trans (Eq.refl (m5 52 5)).symm)
                              refine z_X3_dropTop hS hm366 (fun m373 hm373 fm373 ym373_0 ym373_1 => ?_)
                              have zb374 := hm373.f_52_2
                              have zb375 := hm373.f_52_5
                              have Fm373 : ∀ c p : Int, ¬ (c = 52 ∧ 2 ≤ p ∧ p ≤ 2) ∧ ¬ (c = 52 ∧ 5 ≤ p ∧ p ≤ 6) ∧ ¬ c = 53 → m373 c p = m0 c p := fun c p h => (fm373 c p (by omega)).trans (Fm366 c p h)
                              refine g_A (by omega) (by omega) ?_
                              have zb376 := hm373.f_52_2
                              have q377 : m373 52 2 = (m366 52 2) := (Eq.refl (m373 52 2)).trans ((fm373 _ _ (by omega)).trans (Eq.refl (m366 52 2)).symm)
                              have zb378 := hm373.f_52_5
                              exact ih_n_l146 (u4 + (-1)) m373 hm373 Fm373 (by omega) (by omega) (by omega) (by omega) (by omega)
                            · have zb380 := hm5.f_52_2
                              have zb382 := hm5.f_52_5
                              exact hk m5 hm5 Fm5 (by omega)
                          · refine g_if (fun w384 => ?_) (fun w384 => ?_)
                            · refine g_C ?_
                              refine g_if (fun w385 => ?_) (fun w385 => ?_)
                              · refine g_getr 4 54 rfl hS.k52 hm5.f_52_4 (by decide) ?_
                                refine g_ldu hS.k54 hS.l54 (by omega) (by omega) (fun v386 ev386 => ?_)
                                have qv386 : v386 = v152 := ev386.trans ev152.symm
                                refine ⟨hS.k52, ?_⟩
                                have zb387 := hm5.f_52_2
                                have zb389 := hm5.f_52_5
                                refine z_X3_write hS hm5 (fun m391 hm391 fm391 ym391_0 => ?_)
                                have zb392 := hm391.f_52_2
                                have zb393 := hm391.f_52_5
                                have Fm391 : ∀ c p : Int, ¬ (c = 52 ∧ 2 ≤ p ∧ p ≤ 2) ∧ ¬ (c = 52 ∧ 5 ≤ p ∧ p ≤ 6) ∧ ¬ c = 53 → m391 c p = m0 c p := fun c p h => (fm391 c p (by omega)).trans (Fm5 c p h)
                                refine ⟨hS.k52, ?_⟩
                                have zb394 := hm391.f_52_2
                                have zb396 := hm391.f_52_5
                                have q397 : m391 52 5 = (m5 52 5) := (Eq.refl (m391 52 5)).trans ((fm391 _ _ (by omega)).trans (Eq.refl (m5 52 5)).symm)
                                refine z_X3_dropTop hS hm391 (fun m398 hm398 fm398 ym398_0 ym398_1 => ?_)
                                have zb399 := hm398.f_52_2
                                have zb400 := hm398.f_52_5
                                have Fm398 : ∀ c p : Int, ¬ (c = 52 ∧ 2 ≤ p ∧ p ≤ 2) ∧ ¬ (c = 52 ∧ 5 ≤ p ∧ p ≤ 6) ∧ ¬ c = 53 → m398 c p = m0 c p := fun c p h => (fm398 c p (by omega)).trans (Fm391 c p h)
                                refine g_A (by omega) (by omega) ?_
                                have zb401 := hm398.f_52_2
                                have q402 : m398 52 2 = (m391 52 2) := (Eq.refl (m398 52 2)).trans ((fm398 _ _ (by omega)).trans (Eq.refl (m391 52 2)).symm)
                                have zb403 := hm398.f_52_5
                                exact ih_n_l146 (u4 + (-1)) m398 hm398 Fm398 (by omega) (by omega) (by omega) (by omega) (by omega)
                              · have zb405 := hm5.f_52_2
                                have zb407 := hm5.f_52_5
                                exact hk m5 hm5 Fm5 (by omega)
                            · refine g_if (fun w409 => ?_) (fun w409 => ?_)
                              · refine g_C ?_
                                refine g_ifT (by omega) ?_
                                refine g_getr 4 54 rfl hS.k52 hm5.f_52_4 (by decide) ?_
                                refine g_ldu hS.k54 hS.l54 (by omega) (by omega) (fun v410 ev410 => ?_)
                                have qv410 : v410 = v152 := ev410.trans ev152.symm
                                refine ⟨hS.k52, ?_⟩
                                have zb411 := hm5.f_52_2
                                have zb413 := hm5.f_52_5
                                refine z_X3_write hS hm5 (fun m415 hm415 fm415 ym415_0 => ?_)
                                have zb416 := hm415.f_52_2
                                have zb417 := hm415.f_52_5
                                have Fm415 : ∀ c p : Int, ¬ (c = 52 ∧ 2 ≤ p ∧ p ≤ 2) ∧ ¬ (c = 52 ∧ 5 ≤ p ∧ p ≤ 6) ∧ ¬ c = 53 → m415 c p = m0 c p := fun c p h => (fm415 c p (by omega)).trans (Fm5 c p h)
                                refine ⟨hS.k52, ?_⟩
                                have zb418 := hm415.f_52_2
                                have zb420 := hm415.f_52_5
                                have q421 : m415 52 5 = (m5 52 5) := (Eq.refl (m415 52 5)).trans ((fm415 _ _ (by omega)).trans (Eq.refl (m5 52 5)).symm)
                                refine z_X3_dropTop hS hm415 (fun m422 hm422 fm422 ym422_0 ym422_1 => ?_)
                                have zb423 := hm422.f_52_2
                                have zb424 := hm422.f_52_5
                                have Fm422 : ∀ c p : Int, ¬ (c = 52 ∧ 2 ≤ p ∧ p ≤ 2) ∧ ¬ (c = 52 ∧ 5 ≤ p ∧ p ≤ 6) ∧ ¬ c = 53 → m422 c p = m0 c p := fun c p h => (fm422 c p (by omega)).trans (Fm415 c p h)
                                refine g_A (by omega) (by omega) ?_
                                have zb425 := hm422.f_52_2
                                have q426 : m422 52 2 = (m415 52 2) := (Eq.refl (m422 52 2)).trans ((fm422 _ _ (by omega)).trans (Eq.refl (m415 52 2)).symm)
                                have zb427 := hm422.f_52_5
                                exact ih_n_l146 (u4 + (-1)) m422 hm422 Fm422 (by omega) (by omega) (by omega) (by omega) (by omega)
                              · refine g_if (fun w429 => ?_) (fun w429 => ?_)
                                · refine g_C ?_
                                  refine g_ifT (by omega) ?_
                                  refine g_getr 4 54 rfl hS.k52 hm5.f_52_4 (by decide) ?_
                                  refine g_ldu hS.k54 hS.l54 (by omega) (by omega) (fun v430 ev430 => ?_)
                                  have qv430 : v430 = v152 := ev430.trans ev152.symm
                                  refine ⟨hS.k52, ?_⟩
                                  have zb431 := hm5.f_52_2
                                  have zb433 := hm5.f_52_5
                                  refine z_X3_write hS hm5 (fun m435 hm435 fm435 ym435_0 => ?_)
                                  have zb436 := hm435.f_52_2
                                  have zb437 := hm435.f_52_5
                                  have Fm435 : ∀ c p : Int, ¬ (c = 52 ∧ 2 ≤ p ∧ p ≤ 2) ∧ ¬ (c = 52 ∧ 5 ≤ p ∧ p ≤ 6) ∧ ¬ c = 53 → m435 c p = m0 c p := fun c p h => (fm435 c p (by omega)).trans (Fm5 c p h)
                                  refine ⟨hS.k52, ?_⟩
                                  have zb438 := hm435.f_52_2
                                  have zb440 := hm435.f_52_5
                                  have q441 : m435 52 5 = (m5 52 5) := (Eq.refl (m435 52 5)).trans ((fm435 _ _ (by omega)).trans (Eq.refl (m5 52 5)).symm)
                                  refine z_X3_dropTop hS hm435 (fun m442 hm442 fm442 ym442_0 ym442_1 => ?_)
                                  have zb443 := hm442.f_52_2
                                  have zb444 := hm442.f_52_5
                                  have Fm442 : ∀ c p : Int, ¬ (c = 52 ∧ 2 ≤ p ∧ p ≤ 2) ∧ ¬ (c = 52 ∧ 5 ≤ p ∧ p ≤ 6) ∧ ¬ c = 53 → m442 c p = m0 c p := fun c p h => (fm442 c p (by omega)).trans (Fm435 c p h)
                                  refine g_A (by omega) (by omega) ?_
                                  have zb445 := hm442.f_52_2
                                  have q446 : m442 52 2 = (m435 52 2) := (Eq.refl (m442 52 2)).trans ((fm442 _ _ (by omega)).trans (Eq.refl (m435 52 2)).symm)
                                  have zb447 := hm442.f_52_5
                                  exact ih_n_l146 (u4 + (-1)) m442 hm442 Fm442 (by omega) (by omega) (by omega) (by omega) (by omega)
                                · refine g_if (fun w449 => ?_) (fun w449 => ?_)
                                  · refine g_C ?_
                                    refine g_ifT (by omega) ?_
                                    refine g_getr 4 54 rfl hS.k52 hm5.f_52_4 (by decide) ?_
                                    refine g_ldu hS.k54 hS.l54 (by omega) (by omega) (fun v450 ev450 => ?_)
                                    have qv450 : v450 = v152 := ev450.trans ev152.symm
                                    refine ⟨hS.k52, ?_⟩
                                    have zb451 := hm5.f_52_2
                                    have zb453 := hm5.f_52_5
                                    refine z_X3_write hS hm5 (fun m455 hm455 fm455 ym455_0 => ?_)
                                    have zb456 := hm455.f_52_2
                                    have zb457 := hm455.f_52_5
                                    have Fm455 : ∀ c p : Int, ¬ (c = 52 ∧ 2 ≤ p ∧ p ≤ 2) ∧ ¬ (c = 52 ∧ 5 ≤ p ∧ p ≤ 6) ∧ ¬ c = 53 → m455 c p = m0 c p := fun c p h => (fm455 c p (by omega)).trans (Fm5 c p h)
                                    refine ⟨hS.k52, ?_⟩
                                    have zb458 := hm455.f_52_2
                                    have zb460 := hm455.f_52_5
                                    have q461 : m455 52 5 = (m5 52 5) := (Eq.refl (m455 52 5)).trans ((fm455 _ _ (by omega)).trans (Eq.refl (m5 52 5)).symm)
                                    refine z_X3_dropTop hS hm455 (fun m462 hm462 fm462 ym462_0 ym462_1 => ?_)
                                    have zb463 := hm462.f_52_2
                                    have zb464 := hm462.f_52_5
                                    have Fm462 : ∀ c p : Int, ¬ (c = 52 ∧ 2 ≤ p ∧ p ≤ 2) ∧ ¬ (c = 52 ∧ 5 ≤ p ∧ p ≤ 6) ∧ ¬ c = 53 → m462 c p = m0 c p := fun c p h => (fm462 c p (by omega)).trans (Fm455 c p h)
                                    refine g_A (by omega) (by omega) ?_
                                    have zb465 := hm462.f_52_2
                                    have q466 : m462 52 2 = (m455 52 2) := (Eq.refl (m462 52 2)).trans ((fm462 _ _ (by omega)).trans (Eq.refl (m455 52 2)).symm)
                                    have zb467 := hm462.f_52_5
                                    exact ih_n_l146 (u4 + (-1)) m462 hm462 Fm462 (by omega) (by omega) (by omega) (by omega) (by omega)
                                  · refine g_C ?_
                                    refine g_if (fun w469 => ?_) (fun w469 => ?_)
                                    · refine g_getr 4 54 rfl hS.k52 hm5.f_52_4 (by decide) ?_
                                      refine g_ldu hS.k54 hS.l54 (by omega) (by omega) (fun v470 ev470 => ?_)
                                      have qv470 : v470 = v152 := ev470.trans ev152.symm
                                      refine ⟨hS.k52, ?_⟩
                                      have zb471 := hm5.f_52_2
                                      have zb473 := hm5.f_52_5
                                      refine z_X3_write hS hm5 (fun m475 hm475 fm475 ym475_0 => ?_)
                                      have zb476 := hm475.f_52_2
                                      have zb477 := hm475.f_52_5
                                      have Fm475 : ∀ c p : Int, ¬ (c = 52 ∧ 2 ≤ p ∧ p ≤ 2) ∧ ¬ (c = 52 ∧ 5 ≤ p ∧ p ≤ 6) ∧ ¬ c = 53 → m475 c p = m0 c p := fun c p h => (fm475 c p (by omega)).trans (Fm5 c p h)
                                      refine ⟨hS.k52, ?_⟩
                                      have zb478 := hm475.f_52_2
                                      have zb480 := hm475.f_52_5
                                      have q481 : m475 52 5 = (m5 52 5) := (Eq.refl (m475 52 5)).trans ((fm475 _ _ (by omega)).trans (Eq.refl (m5 52 5)).symm)
                                      refine z_X3_dropTop hS hm475 (fun m482 hm482 fm482 ym482_0 ym482_1 => ?_)
                                      have zb483 := hm482.f_52_2
                                      have zb484 := hm482.f_52_5
                                      have Fm482 : ∀ c p : Int, ¬ (c = 52 ∧ 2 ≤ p ∧ p ≤ 2) ∧ ¬ (c = 52 ∧ 5 ≤ p ∧ p ≤ 6) ∧ ¬ c = 53 → m482 c p = m0 c p := fun c p h => (fm482 c p (by omega)).trans (Fm475 c p h)
                                      refine g_A (by omega) (by omega) ?_
                                      have zb485 := hm482.f_52_2
                                      have q486 : m482 52 2 = (m475 52 2) := (Eq.refl (m482 52 2)).trans ((fm482 _ _ (by omega)).trans (Eq.refl (m475 52 2)).symm)
                                      have zb487 := hm482.f_52_5
                                      exact ih_n_l146 (u4 + (-1)) m482 hm482 Fm482 (by omega) (by omega) (by omega) (by omega) (by omega)
                                    · have zb489 := hm5.f_52_2
                                      have zb491 := hm5.f_52_5
                                      exact hk m5 hm5 Fm5 (by omega)
  have zb493 := hm0.f_52_2
  have zb495 := hm0.f_52_5
  exact ⟨401, L_n_l146 401 (v1 - 1) m0 hm0 Fm0 (by omega) (by omega) (by omega) (by omega) (by omega)⟩
theorem z_X3_closeBrackets {X : Mm} {S : Sh} {m0 : Mm} {K : Mm → Prop} (hS : Shp S) (hm0 : Inv X S m0)  (hk : ∀ (M1 : Mm), Inv X S M1 → (∀ c p : Int, ¬ (c = 52 ∧ 2 ≤ p ∧ p ≤ 3) ∧ ¬ (c = 52 ∧ 5 ≤ p ∧ p ≤ 8) ∧ ¬ c = 53 ∧ ¬ c = 54 ∧ ¬ (c = 1 ∧ 2 ≤ p ∧ p ≤ 4) → M1 c p = m0 c p) → (M1 52 2 + M1 52 5 - M1 1 2 ≤ m0 52 2 + m0 52 5 - m0 1 2) → (m0 1 2 ≤ M1 1 2) → K M1) : wp_X3_closeBrackets S m0 52 K := by
  have Fm0 : ∀ c p : Int, ¬ (c = 52 ∧ 2 ≤ p ∧ p ≤ 3) ∧ ¬ (c = 52 ∧ 5 ≤ p ∧ p ≤ 8) ∧ ¬ c = 53 ∧ ¬ c = 54 ∧ ¬ (c = 1 ∧ 2 ≤ p ∧ p ≤ 4) → m0 c p = m0 c p := fun c p _ => rfl
  refine u_X3_closeBrackets ?_
  have L_n_l47 : ∀ (n_l47 : Nat) (m2 : Mm), Inv X S m2 → (∀ c p : Int, ¬ (c = 52 ∧ 2 ≤ p ∧ p ≤ 3) ∧ ¬ (c = 52 ∧ 5 ≤ p ∧ p ≤ 8) ∧ ¬ c = 53 ∧ ¬ c = 54 ∧ ¬ (c = 1 ∧ 2 ≤ p ∧ p ≤ 4) → m2 c p = m0 c p) → (m2 52 2 + m2 52 5 - m2 1 2 ≤ m0 52 2 + m0 52 5 - m0 1 2) → (m0 1 2 ≤ m2 1 2) → 401 - m2 1 2 ≤ (n_l47 : Int) → wp_X3_closeBrackets_0 S K n_l47 52 m2 := by
    intro n_l47
    induction n_l47 with
    | zero => intro m2 hm2 Fm2 xn_l47_0 xn_l47_1 zn_l47; exfalso; have zz52_2 := hm2.f_52_2; have zz52_5 := hm2.f_52_5; have zz1_2 := hm2.f_1_2; have zz1_1 := hm2.f_1_1; omega
    | succ n_l47 ih_n_l47 =>
      intro m2 hm2 Fm2 xn_l47_0 xn_l47_1 zn_l47
      refine u_X3_closeBrackets_0 ?_
      refine g_get 7 (-2147483648) (2147483647) rfl hS.k52 hm2.f_52_7 (fun v48 ev48 bv48 cv48 => ?_)
      refine g_if (fun w49 => ?_) (fun w49 => ?_)
      · have zb50 := hm2.f_52_2
        have zb52 := hm2.f_52_5
        have zb54 := hm2.f_1_2
        have zb56 := hm2.f_1_1
        have q57 : m2 1 1 = (m0 1 1) := (Eq.refl (m2 1 1)).trans ((Fm2 _ _ (by omega)).trans (Eq.refl (m0 1 1)).symm)
        exact hk m2 hm2 Fm2 (by omega) (by omega)
      · refine ⟨hS.k52, ?_⟩
        refine u_X3_isFactWhole ?_
        refine g_get 8 (0) (3) rfl hS.k52 hm2.f_52_8 (fun v58 ev58 bv58 cv58 => ?_)
        refine g_C ?_
        refine g_if (fun w59 => ?_) (fun w59 => ?_)
        · refine u_X3_isFactWhole_16 ?_
          refine g_C ?_
          refine ⟨by omega, ?_⟩
          refine g_ifF (by omega) ?_
          refine g_getr 0 1 rfl hS.k52 hm2.f_52_0 (by decide) ?_
          refine g_C ?_
          refine ⟨hS.k1, ?_⟩
          have zb60 := hm2.f_52_2
          have zb62 := hm2.f_52_5
          have zb64 := hm2.f_1_2
          have zb66 := hm2.f_1_1
          have q67 : m2 1 1 = (m0 1 1) := (Eq.refl (m2 1 1)).trans ((Fm2 _ _ (by omega)).trans (Eq.refl (m0 1 1)).symm)
          refine zr_X7_takesSign hS hm2 (by omega) (by omega) (fun v68 m69 hm69 fm69 bv68 cv68 yv68_0 yv68_1 => ?_)
          have zb70 := hm69.f_52_2
          have zb71 := hm69.f_52_5
          have zb72 := hm69.f_1_2
          have zb73 := hm69.f_1_1
          have Fm69 : ∀ c p : Int, ¬ (c = 52 ∧ 2 ≤ p ∧ p ≤ 3) ∧ ¬ (c = 52 ∧ 5 ≤ p ∧ p ≤ 8) ∧ ¬ c = 53 ∧ ¬ c = 54 ∧ ¬ (c = 1 ∧ 2 ≤ p ∧ p ≤ 4) → m69 c p = m0 c p := fun c p h => (fm69 c p (by omega)).trans (Fm2 c p h)
          refine g_if (fun w74 => ?_) (fun w74 => ?_)
          · have zb75 := hm69.f_52_2
            have q76 : m69 52 2 = (m2 52 2) := (Eq.refl (m69 52 2)).trans ((fm69 _ _ (by omega)).trans (Eq.refl (m2 52 2)).symm)
            have zb77 := hm69.f_52_5
            have q78 : m69 52 5 = (m2 52 5) := (Eq.refl (m69 52 5)).trans ((fm69 _ _ (by omega)).trans (Eq.refl (m2 52 5)).symm)
            have zb79 := hm69.f_1_2
            have zb81 := hm69.f_1_1
            have q82 : m69 1 1 = (m0 1 1) := (Eq.refl (m69 1 1)).trans ((fm69 _ _ (by omega)).trans ((Fm2 _ _ (by omega)).trans (Eq.refl (m0 1 1)).symm))
            exact hk m69 hm69 Fm69 (by omega) (by omega)
          · refine g_C ?_
            refine ⟨hS.k52, ?_⟩
            have zb83 := hm69.f_52_2
            have q84 : m69 52 2 = (m2 52 2) := (Eq.refl (m69 52 2)).trans ((fm69 _ _ (by omega)).trans (Eq.refl (m2 52 2)).symm)
            have zb85 := hm69.f_52_5
            have q86 : m69 52 5 = (m2 52 5) := (Eq.refl (m69 52 5)).trans ((fm69 _ _ (by omega)).trans (Eq.refl (m2 52 5)).symm)
            have zb87 := hm69.f_1_2
            have zb89 := hm69.f_1_1
            have q90 : m69 1 1 = (m0 1 1) := (Eq.refl (m69 1 1)).trans ((fm69 _ _ (by omega)).trans ((Fm2 _ _ (by omega)).trans (Eq.refl (m0 1 1)).symm))
            refine z_X3_unpile hS hm69 (by omega) (by omega) (fun m91 hm91 fm91 ym91_0 => ?_)
            have zb92 := hm91.f_52_2
            have zb93 := hm91.f_52_5
            have zb94 := hm91.f_1_2
            have zb95 := hm91.f_1_1
            have Fm91 : ∀ c p : Int, ¬ (c = 52 ∧ 2 ≤ p ∧ p ≤ 3) ∧ ¬ (c = 52 ∧ 5 ≤ p ∧ p ≤ 8) ∧ ¬ c = 53 ∧ ¬ c = 54 ∧ ¬ (c = 1 ∧ 2 ≤ p ∧ p ≤ 4) → m91 c p = m0 c p := fun c p h => (fm91 c p (by omega)).trans (Fm69 c p h)
            refine ⟨hS.k52, ?_⟩
            have zb96 := hm91.f_52_2
            have zb98 := hm91.f_52_5
            have zb100 := hm91.f_1_2
            have q101 : m91 1 2 = (m69 1 2) := (Eq.refl (m91 1 2)).trans ((fm91 _ _ (by omega)).trans (Eq.refl (m69 1 2)).symm)
            have zb102 := hm91.f_1_1
            have q103 : m91 1 1 = (m0 1 1) := (Eq.refl (m91 1 1)).trans ((fm91 _ _ (by omega)).trans ((fm69 _ _ (by omega)).trans ((Fm2 _ _ (by omega)).trans (Eq.refl (m0 1 1)).symm)))
            refine z_X3_dropTop hS hm91 (fun m104 hm104 fm104 ym104_0 ym104_1 => ?_)
            have zb105 := hm104.f_52_2
            have zb106 := hm104.f_52_5
            have zb107 := hm104.f_1_2
            have zb108 := hm104.f_1_1
            have Fm104 : ∀ c p : Int, ¬ (c = 52 ∧ 2 ≤ p ∧ p ≤ 3) ∧ ¬ (c = 52 ∧ 5 ≤ p ∧ p ≤ 8) ∧ ¬ c = 53 ∧ ¬ c = 54 ∧ ¬ (c = 1 ∧ 2 ≤ p ∧ p ≤ 4) → m104 c p = m0 c p := fun c p h => (fm104 c p (by omega)).trans (Fm91 c p h)
            refine g_get 7 (-2147483648) (2147483647) rfl hS.k52 hm104.f_52_7 (fun v109 ev109 bv109 cv109 => ?_)
            have qv109 : v109 = v48 := ev109.trans ((fm104 _ _ (by omega)).trans ((fm91 _ _ (by omega)).trans ((fm69 _ _ (by omega)).trans ev48.symm)))
            refine g_C ?_
            refine g_S (by omega) (by omega) ?_
            refine g_put 7 rfl hS.k52 (hm104.w_52_7 (by omega) (by omega)) (fun m110 em110 hm110 => ?_)
            have Fm110 : ∀ c p : Int, ¬ (c = 52 ∧ 2 ≤ p ∧ p ≤ 3) ∧ ¬ (c = 52 ∧ 5 ≤ p ∧ p ≤ 8) ∧ ¬ c = 53 ∧ ¬ c = 54 ∧ ¬ (c = 1 ∧ 2 ≤ p ∧ p ≤ 4) → m110 c p = m0 c p := fun c p h => (congrFun (congrFun em110 _) _).trans ((up_ne (by omega)).trans (Fm104 c p h))
            refine g_C ?_
            refine g_put 8 rfl hS.k52 (hm110.w_52_8 (by omega) (by omega)) (fun m111 em111 hm111 => ?_)
            have Fm111 : ∀ c p : Int, ¬ (c = 52 ∧ 2 ≤ p ∧ p ≤ 3) ∧ ¬ (c = 52 ∧ 5 ≤ p ∧ p ≤ 8) ∧ ¬ c = 53 ∧ ¬ c = 54 ∧ ¬ (c = 1 ∧ 2 ≤ p ∧ p ≤ 4) → m111 c p = m0 c p := fun c p h => (congrFun (congrFun em111 _) _).trans ((up_ne (by omega)).trans (Fm110 c p h))
            have zb112 := hm111.f_52_2
            have q113 : m111 52 2 = (m91 52 2) := (Eq.refl (m111 52 2)).trans ((congrFun (congrFun em111 _) _).trans ((up_ne (by omega)).trans ((congrFun (congrFun em110 _) _).trans ((up_ne (by omega)).trans ((fm104 _ _ (by omega)).trans (Eq.refl (m91 52 2)).symm)))))
            have zb114 := hm111.f_52_5
            have q115 : m111 52 5 = (m104 52 5) := (Eq.refl (m111 52 5)).trans ((congrFun (congrFun em111 _) _).trans ((up_ne (by omega)).trans ((congrFun (congrFun em110 _) _).trans ((up_ne (by omega)).trans (Eq.refl (m104 52 5)).symm))))
            have zb116 := hm111.f_1_2
            have q117 : m111 1 2 = (m69 1 2) := (Eq.refl (m111 1 2)).trans ((congrFun (congrFun em111 _) _).trans ((up_ne (by omega)).trans ((congrFun (congrFun em110 _) _).trans ((up_ne (by omega)).trans ((fm104 _ _ (by omega)).trans ((fm91 _ _ (by omega)).trans (Eq.refl (m69 1 2)).symm))))))
            have zb118 := hm111.f_1_1
            have q119 : m111 1 1 = (m0 1 1) := (Eq.refl (m111 1 1)).trans ((congrFun (congrFun em111 _) _).trans ((up_ne (by omega)).trans ((congrFun (congrFun em110 _) _).trans ((up_ne (by omega)).trans ((fm104 _ _ (by omega)).trans ((fm91 _ _ (by omega)).trans ((fm69 _ _ (by omega)).trans ((Fm2 _ _ (by omega)).trans (Eq.refl (m0 1 1)).symm))))))))
            exact ih_n_l47 m111 hm111 Fm111 (by omega) (by omega) (by omega)
        · refine g_get 8 (0) (3) rfl hS.k52 hm2.f_52_8 (fun v120 ev120 bv120 cv120 => ?_)
          have qv120 : v120 = v58 := ev120.trans ev58.symm
          refine g_C ?_
          refine g_if (fun w121 => ?_) (fun w121 => ?_)
          · refine g_C ?_
            refine ⟨by omega, ?_⟩
            refine g_ifT (by omega) ?_
            have zb122 := hm2.f_52_2
            have zb124 := hm2.f_52_5
            have zb126 := hm2.f_1_2
            have zb128 := hm2.f_1_1
            have q129 : m2 1 1 = (m0 1 1) := (Eq.refl (m2 1 1)).trans ((Fm2 _ _ (by omega)).trans (Eq.refl (m0 1 1)).symm)
            exact hk m2 hm2 Fm2 (by omega) (by omega)
          · refine u_X3_isFactWhole_16 ?_
            refine g_C ?_
            refine ⟨by omega, ?_⟩
            refine g_ifF (by omega) ?_
            refine g_getr 0 1 rfl hS.k52 hm2.f_52_0 (by decide) ?_
            refine g_C ?_
            refine ⟨hS.k1, ?_⟩
            have zb130 := hm2.f_52_2
            have zb132 := hm2.f_52_5
            have zb134 := hm2.f_1_2
            have zb136 := hm2.f_1_1
            have q137 : m2 1 1 = (m0 1 1) := (Eq.refl (m2 1 1)).trans ((Fm2 _ _ (by omega)).trans (Eq.refl (m0 1 1)).symm)
            refine zr_X7_takesSign hS hm2 (by omega) (by omega) (fun v138 m139 hm139 fm139 bv138 cv138 yv138_0 yv138_1 => ?_)
            have zb140 := hm139.f_52_2
            have zb141 := hm139.f_52_5
            have zb142 := hm139.f_1_2
            have zb143 := hm139.f_1_1
            have Fm139 : ∀ c p : Int, ¬ (c = 52 ∧ 2 ≤ p ∧ p ≤ 3) ∧ ¬ (c = 52 ∧ 5 ≤ p ∧ p ≤ 8) ∧ ¬ c = 53 ∧ ¬ c = 54 ∧ ¬ (c = 1 ∧ 2 ≤ p ∧ p ≤ 4) → m139 c p = m0 c p := fun c p h => (fm139 c p (by omega)).trans (Fm2 c p h)
            refine g_if (fun w144 => ?_) (fun w144 => ?_)
            · have zb145 := hm139.f_52_2
              have q146 : m139 52 2 = (m2 52 2) := (Eq.refl (m139 52 2)).trans ((fm139 _ _ (by omega)).trans (Eq.refl (m2 52 2)).symm)
              have zb147 := hm139.f_52_5
              have q148 : m139 52 5 = (m2 52 5) := (Eq.refl (m139 52 5)).trans ((fm139 _ _ (by omega)).trans (Eq.refl (m2 52 5)).symm)
              have zb149 := hm139.f_1_2
              have zb151 := hm139.f_1_1
              have q152 : m139 1 1 = (m0 1 1) := (Eq.refl (m139 1 1)).trans ((fm139 _ _ (by omega)).trans ((Fm2 _ _ (by omega)).trans (Eq.refl (m0 1 1)).symm))
              exact hk m139 hm139 Fm139 (by omega) (by omega)
            · refine g_C ?_
              refine ⟨hS.k52, ?_⟩
              have zb153 := hm139.f_52_2
              have q154 : m139 52 2 = (m2 52 2) := (Eq.refl (m139 52 2)).trans ((fm139 _ _ (by omega)).trans (Eq.refl (m2 52 2)).symm)
              have zb155 := hm139.f_52_5
              have q156 : m139 52 5 = (m2 52 5) := (Eq.refl (m139 52 5)).trans ((fm139 _ _ (by omega)).trans (Eq.refl (m2 52 5)).symm)
              have zb157 := hm139.f_1_2
              have zb159 := hm139.f_1_1
              have q160 : m139 1 1 = (m0 1 1) := (Eq.refl (m139 1 1)).trans ((fm139 _ _ (by omega)).trans ((Fm2 _ _ (by omega)).trans (Eq.refl (m0 1 1)).symm))
              refine z_X3_unpile hS hm139 (by omega) (by omega) (fun m161 hm161 fm161 ym161_0 => ?_)
              have zb162 := hm161.f_52_2
              have zb163 := hm161.f_52_5
              have zb164 := hm161.f_1_2
              have zb165 := hm161.f_1_1
              have Fm161 : ∀ c p : Int, ¬ (c = 52 ∧ 2 ≤ p ∧ p ≤ 3) ∧ ¬ (c = 52 ∧ 5 ≤ p ∧ p ≤ 8) ∧ ¬ c = 53 ∧ ¬ c = 54 ∧ ¬ (c = 1 ∧ 2 ≤ p ∧ p ≤ 4) → m161 c p = m0 c p := fun c p h => (fm161 c p (by omega)).trans (Fm139 c p h)
              refine ⟨hS.k52, ?_⟩
              have zb166 := hm161.f_52_2
              have zb168 := hm161.f_52_5
              have zb170 := hm161.f_1_2
              have q171 : m161 1 2 = (m139 1 2) := (Eq.refl (m161 1 2)).trans ((fm161 _ _ (by omega)).trans (Eq.refl (m139 1 2)).symm)
              have zb172 := hm161.f_1_1
              have q173 : m161 1 1 = (m0 1 1) := (Eq.refl (m161 1 1)).trans ((fm161 _ _ (by omega)).trans ((fm139 _ _ (by omega)).trans ((Fm2 _ _ (by omega)).trans (Eq.refl (m0 1 1)).symm)))
              refine z_X3_dropTop hS hm161 (fun m174 hm174 fm174 ym174_0 ym174_1 => ?_)
              have zb175 := hm174.f_52_2
              have zb176 := hm174.f_52_5
              have zb177 := hm174.f_1_2
              have zb178 := hm174.f_1_1
              have Fm174 : ∀ c p : Int, ¬ (c = 52 ∧ 2 ≤ p ∧ p ≤ 3) ∧ ¬ (c = 52 ∧ 5 ≤ p ∧ p ≤ 8) ∧ ¬ c = 53 ∧ ¬ c = 54 ∧ ¬ (c = 1 ∧ 2 ≤ p ∧ p ≤ 4) → m174 c p = m0 c p := fun c p h => (fm174 c p (by omega)).trans (Fm161 c p h)
              refine g_get 7 (-2147483648) (2147483647) rfl hS.k52 hm174.f_52_7 (fun v179 ev179 bv179 cv179 => ?_)
              have qv179 : v179 = v48 := ev179.trans ((fm174 _ _ (by omega)).trans ((fm161 _ _ (by omega)).trans ((fm139 _ _ (by omega)).trans ev48.symm)))
              refine g_C ?_
              refine g_S (by omega) (by omega) ?_
              refine g_put 7 rfl hS.k52 (hm174.w_52_7 (by omega) (by omega)) (fun m180 em180 hm180 => ?_)
              have Fm180 : ∀ c p : Int, ¬ (c = 52 ∧ 2 ≤ p ∧ p ≤ 3) ∧ ¬ (c = 52 ∧ 5 ≤ p ∧ p ≤ 8) ∧ ¬ c = 53 ∧ ¬ c = 54 ∧ ¬ (c = 1 ∧ 2 ≤ p ∧ p ≤ 4) → m180 c p = m0 c p := fun c p h => (congrFun (congrFun em180 _) _).trans ((up_ne (by omega)).trans (Fm174 c p h))
              refine g_C ?_
              refine g_put 8 rfl hS.k52 (hm180.w_52_8 (by omega) (by omega)) (fun m181 em181 hm181 => ?_)
              have Fm181 : ∀ c p : Int, ¬ (c = 52 ∧ 2 ≤ p ∧ p ≤ 3) ∧ ¬ (c = 52 ∧ 5 ≤ p ∧ p ≤ 8) ∧ ¬ c = 53 ∧ ¬ c = 54 ∧ ¬ (c = 1 ∧ 2 ≤ p ∧ p ≤ 4) → m181 c p = m0 c p := fun c p h => (congrFun (congrFun em181 _) _).trans ((up_ne (by omega)).trans (Fm180 c p h))
              have zb182 := hm181.f_52_2
              have q183 : m181 52 2 = (m161 52 2) := (Eq.refl (m181 52 2)).trans ((congrFun (congrFun em181 _) _).trans ((up_ne (by omega)).trans ((congrFun (congrFun em180 _) _).trans ((up_ne (by omega)).trans ((fm174 _ _ (by omega)).trans (Eq.refl (m161 52 2)).symm)))))
              have zb184 := hm181.f_52_5
              have q185 : m181 52 5 = (m174 52 5) := (Eq.refl (m181 52 5)).trans ((congrFun (congrFun em181 _) _).trans ((up_ne (by omega)).trans ((congrFun (congrFun em180 _) _).trans ((up_ne (by omega)).trans (Eq.refl (m174 52 5)).symm))))
              have zb186 := hm181.f_1_2
              have q187 : m181 1 2 = (m139 1 2) := (Eq.refl (m181 1 2)).trans ((congrFun (congrFun em181 _) _).trans ((up_ne (by omega)).trans ((congrFun (congrFun em180 _) _).trans ((up_ne (by omega)).trans ((fm174 _ _ (by omega)).trans ((fm161 _ _ (by omega)).trans (Eq.refl (m139 1 2)).symm))))))
              have zb188 := hm181.f_1_1
              have q189 : m181 1 1 = (m0 1 1) := (Eq.refl (m181 1 1)).trans ((congrFun (congrFun em181 _) _).trans ((up_ne (by omega)).trans ((congrFun (congrFun em180 _) _).trans ((up_ne (by omega)).trans ((fm174 _ _ (by omega)).trans ((fm161 _ _ (by omega)).trans ((fm139 _ _ (by omega)).trans ((Fm2 _ _ (by omega)).trans (Eq.refl (m0 1 1)).symm))))))))
              exact ih_n_l47 m181 hm181 Fm181 (by omega) (by omega) (by omega)
  have zb190 := hm0.f_52_2
  have zb192 := hm0.f_52_5
  have zb194 := hm0.f_1_2
  have zb196 := hm0.f_1_1
  exact ⟨401, L_n_l47 401 m0 hm0 Fm0 (by omega) (by omega) (by omega)⟩
theorem z_X3_endsHere {X : Mm} {S : Sh} {m0 : Mm} {K : Int → Mm → Prop} (hS : Shp S) (hm0 : Inv X S m0)  (hk : ∀ (r : Int) (M1 : Mm), Inv X S M1 → (∀ c p : Int, ¬ (c = 1 ∧ 2 ≤ p ∧ p ≤ 3) → M1 c p = m0 c p) → 0 ≤ r → r ≤ 1 → (m0 1 2 ≤ M1 1 2) → K r M1) : wp_X3_endsHere S m0 52 K := by
  have Fm0 : ∀ c p : Int, ¬ (c = 1 ∧ 2 ≤ p ∧ p ≤ 3) → m0 c p = m0 c p := fun c p _ => rfl
  refine u_X3_endsHere ?_
  refine g_get 8 (0) (3) rfl hS.k52 hm0.f_52_8 (fun v1 ev1 bv1 cv1 => ?_)
  refine g_if (fun w2 => ?_) (fun w2 => ?_)
  · refine u_X3_endsHere_21 ?_
    refine g_C ?_
    refine u_X3_endsHere_26 ?_
    refine g_ifF (by omega) ?_
    refine g_getr 0 1 rfl hS.k52 hm0.f_52_0 (by decide) ?_
    refine ⟨hS.k1, ?_⟩
    have zb3 := hm0.f_1_2
    have zb5 := hm0.f_1_1
    refine zr_X7_isAtEnd hS hm0 (fun v7 m8 hm8 fm8 bv7 cv7 yv7_0 => ?_)
    have zb9 := hm8.f_1_2
    have zb10 := hm8.f_1_1
    have Fm8 : ∀ c p : Int, ¬ (c = 1 ∧ 2 ≤ p ∧ p ≤ 3) → m8 c p = m0 c p := fun c p h => (fm8 c p (by omega)).trans (Fm0 c p h)
    refine g_if (fun w11 => ?_) (fun w11 => ?_)
    · refine u_X3_endsHere_53 ?_
      refine g_C ?_
      refine ⟨by omega, ?_⟩
      have zb12 := hm8.f_1_2
      have zb14 := hm8.f_1_1
      have q15 : m8 1 1 = (m0 1 1) := (Eq.refl (m8 1 1)).trans ((fm8 _ _ (by omega)).trans (Eq.refl (m0 1 1)).symm)
      exact hk 1 m8 hm8 Fm8 (by omega) (by omega) (by omega)
    · refine g_getr 0 1 rfl hS.k52 hm8.f_52_0 (by decide) ?_
      refine ⟨hS.k1, ?_⟩
      have zb16 := hm8.f_1_2
      have zb18 := hm8.f_1_1
      have q19 : m8 1 1 = (m0 1 1) := (Eq.refl (m8 1 1)).trans ((fm8 _ _ (by omega)).trans (Eq.refl (m0 1 1)).symm)
      refine zr_X7_look hS hm8 (fun v20 m21 hm21 fm21 bv20 cv20 yv20_0 yv20_1 yv20_2 => ?_)
      have zb22 := hm21.f_1_2
      have zb23 := hm21.f_1_1
      have Fm21 : ∀ c p : Int, ¬ (c = 1 ∧ 2 ≤ p ∧ p ≤ 3) → m21 c p = m0 c p := fun c p h => (fm21 c p (by omega)).trans (Fm8 c p h)
      refine g_C ?_
      refine g_if (fun w24 => ?_) (fun w24 => ?_)
      · refine g_C ?_
        refine ⟨by omega, ?_⟩
        have zb25 := hm21.f_1_2
        have zb27 := hm21.f_1_1
        have q28 : m21 1 1 = (m0 1 1) := (Eq.refl (m21 1 1)).trans ((fm21 _ _ (by omega)).trans ((fm8 _ _ (by omega)).trans (Eq.refl (m0 1 1)).symm))
        exact hk 0 m21 hm21 Fm21 (by omega) (by omega) (by omega)
      · refine u_X3_endsHere_53 ?_
        refine g_C ?_
        refine ⟨by omega, ?_⟩
        have zb29 := hm21.f_1_2
        have zb31 := hm21.f_1_1
        have q32 : m21 1 1 = (m0 1 1) := (Eq.refl (m21 1 1)).trans ((fm21 _ _ (by omega)).trans ((fm8 _ _ (by omega)).trans (Eq.refl (m0 1 1)).symm))
        exact hk 1 m21 hm21 Fm21 (by omega) (by omega) (by omega)
  · refine g_get 7 (-2147483648) (2147483647) rfl hS.k52 hm0.f_52_7 (fun v33 ev33 bv33 cv33 => ?_)
    refine g_if (fun w34 => ?_) (fun w34 => ?_)
    · refine u_X3_endsHere_25 ?_
      refine g_C ?_
      refine u_X3_endsHere_26 ?_
      refine g_ifT (by omega) ?_
      refine g_C ?_
      refine ⟨by omega, ?_⟩
      have zb35 := hm0.f_1_2
      have zb37 := hm0.f_1_1
      exact hk 0 m0 hm0 Fm0 (by omega) (by omega) (by omega)
    · refine ⟨hS.k52, ?_⟩
      refine u_X3_isFactWhole ?_
      refine g_get 8 (0) (3) rfl hS.k52 hm0.f_52_8 (fun v39 ev39 bv39 cv39 => ?_)
      have qv39 : v39 = v1 := ev39.trans ev1.symm
      refine g_C ?_
      refine g_if (fun w40 => ?_) (fun w40 => ?_)
      · refine u_X3_isFactWhole_16 ?_
        refine g_C ?_
        refine ⟨by omega, ?_⟩
        refine g_ifF (by omega) ?_
        refine u_X3_endsHere_21 ?_
        refine g_C ?_
        refine u_X3_endsHere_26 ?_
        refine g_ifF (by omega) ?_
        refine g_getr 0 1 rfl hS.k52 hm0.f_52_0 (by decide) ?_
        refine ⟨hS.k1, ?_⟩
        have zb41 := hm0.f_1_2
        have zb43 := hm0.f_1_1
        refine zr_X7_isAtEnd hS hm0 (fun v45 m46 hm46 fm46 bv45 cv45 yv45_0 => ?_)
        have zb47 := hm46.f_1_2
        have zb48 := hm46.f_1_1
        have Fm46 : ∀ c p : Int, ¬ (c = 1 ∧ 2 ≤ p ∧ p ≤ 3) → m46 c p = m0 c p := fun c p h => (fm46 c p (by omega)).trans (Fm0 c p h)
        refine g_if (fun w49 => ?_) (fun w49 => ?_)
        · refine u_X3_endsHere_53 ?_
          refine g_C ?_
          refine ⟨by omega, ?_⟩
          have zb50 := hm46.f_1_2
          have zb52 := hm46.f_1_1
          have q53 : m46 1 1 = (m0 1 1) := (Eq.refl (m46 1 1)).trans ((fm46 _ _ (by omega)).trans (Eq.refl (m0 1 1)).symm)
          exact hk 1 m46 hm46 Fm46 (by omega) (by omega) (by omega)
        · refine g_getr 0 1 rfl hS.k52 hm46.f_52_0 (by decide) ?_
          refine ⟨hS.k1, ?_⟩
          have zb54 := hm46.f_1_2
          have zb56 := hm46.f_1_1
          have q57 : m46 1 1 = (m0 1 1) := (Eq.refl (m46 1 1)).trans ((fm46 _ _ (by omega)).trans (Eq.refl (m0 1 1)).symm)
          refine zr_X7_look hS hm46 (fun v58 m59 hm59 fm59 bv58 cv58 yv58_0 yv58_1 yv58_2 => ?_)
          have zb60 := hm59.f_1_2
          have zb61 := hm59.f_1_1
          have Fm59 : ∀ c p : Int, ¬ (c = 1 ∧ 2 ≤ p ∧ p ≤ 3) → m59 c p = m0 c p := fun c p h => (fm59 c p (by omega)).trans (Fm46 c p h)
          refine g_C ?_
          refine g_if (fun w62 => ?_) (fun w62 => ?_)
          · refine g_C ?_
            refine ⟨by omega, ?_⟩
            have zb63 := hm59.f_1_2
            have zb65 := hm59.f_1_1
            have q66 : m59 1 1 = (m0 1 1) := (Eq.refl (m59 1 1)).trans ((fm59 _ _ (by omega)).trans ((fm46 _ _ (by omega)).trans (Eq.refl (m0 1 1)).symm))
            exact hk 0 m59 hm59 Fm59 (by omega) (by omega) (by omega)
          · refine u_X3_endsHere_53 ?_
            refine g_C ?_
            refine ⟨by omega, ?_⟩
            have zb67 := hm59.f_1_2
            have zb69 := hm59.f_1_1
            have q70 : m59 1 1 = (m0 1 1) := (Eq.refl (m59 1 1)).trans ((fm59 _ _ (by omega)).trans ((fm46 _ _ (by omega)).trans (Eq.refl (m0 1 1)).symm))
            exact hk 1 m59 hm59 Fm59 (by omega) (by omega) (by omega)
      · refine g_get 8 (0) (3) rfl hS.k52 hm0.f_52_8 (fun v71 ev71 bv71 cv71 => ?_)
        have qv71 : v71 = v1 := ev71.trans ev1.symm
        refine g_C ?_
        refine g_if (fun w72 => ?_) (fun w72 => ?_)
        · refine g_C ?_
          refine ⟨by omega, ?_⟩
          refine g_ifT (by omega) ?_
          refine u_X3_endsHere_25 ?_
          refine g_C ?_
          refine u_X3_endsHere_26 ?_
          refine g_ifT (by omega) ?_
          refine g_C ?_
          refine ⟨by omega, ?_⟩
          have zb73 := hm0.f_1_2
          have zb75 := hm0.f_1_1
          exact hk 0 m0 hm0 Fm0 (by omega) (by omega) (by omega)
        · refine u_X3_isFactWhole_16 ?_
          refine g_C ?_
          refine ⟨by omega, ?_⟩
          refine g_ifF (by omega) ?_
          refine u_X3_endsHere_21 ?_
          refine g_C ?_
          refine u_X3_endsHere_26 ?_
          refine g_ifF (by omega) ?_
          refine g_getr 0 1 rfl hS.k52 hm0.f_52_0 (by decide) ?_
          refine ⟨hS.k1, ?_⟩
          have zb77 := hm0.f_1_2
          have zb79 := hm0.f_1_1
          refine zr_X7_isAtEnd hS hm0 (fun v81 m82 hm82 fm82 bv81 cv81 yv81_0 => ?_)
          have zb83 := hm82.f_1_2
          have zb84 := hm82.f_1_1
          have Fm82 : ∀ c p : Int, ¬ (c = 1 ∧ 2 ≤ p ∧ p ≤ 3) → m82 c p = m0 c p := fun c p h => (fm82 c p (by omega)).trans (Fm0 c p h)
          refine g_if (fun w85 => ?_) (fun w85 => ?_)
          · refine u_X3_endsHere_53 ?_
            refine g_C ?_
            refine ⟨by omega, ?_⟩
            have zb86 := hm82.f_1_2
            have zb88 := hm82.f_1_1
            have q89 : m82 1 1 = (m0 1 1) := (Eq.refl (m82 1 1)).trans ((fm82 _ _ (by omega)).trans (Eq.refl (m0 1 1)).symm)
            exact hk 1 m82 hm82 Fm82 (by omega) (by omega) (by omega)
          · refine g_getr 0 1 rfl hS.k52 hm82.f_52_0 (by decide) ?_
            refine ⟨hS.k1, ?_⟩
            have zb90 := hm82.f_1_2
            have zb92 := hm82.f_1_1
            have q93 : m82 1 1 = (m0 1 1) := (Eq.refl (m82 1 1)).trans ((fm82 _ _ (by omega)).trans (Eq.refl (m0 1 1)).symm)
            refine zr_X7_look hS hm82 (fun v94 m95 hm95 fm95 bv94 cv94 yv94_0 yv94_1 yv94_2 => ?_)
            have zb96 := hm95.f_1_2
            have zb97 := hm95.f_1_1
            have Fm95 : ∀ c p : Int, ¬ (c = 1 ∧ 2 ≤ p ∧ p ≤ 3) → m95 c p = m0 c p := fun c p h => (fm95 c p (by omega)).trans (Fm82 c p h)
            refine g_C ?_
            refine g_if (fun w98 => ?_) (fun w98 => ?_)
            · refine g_C ?_
              refine ⟨by omega, ?_⟩
              have zb99 := hm95.f_1_2
              have zb101 := hm95.f_1_1
              have q102 : m95 1 1 = (m0 1 1) := (Eq.refl (m95 1 1)).trans ((fm95 _ _ (by omega)).trans ((fm82 _ _ (by omega)).trans (Eq.refl (m0 1 1)).symm))
              exact hk 0 m95 hm95 Fm95 (by omega) (by omega) (by omega)
            · refine u_X3_endsHere_53 ?_
              refine g_C ?_
              refine ⟨by omega, ?_⟩
              have zb103 := hm95.f_1_2
              have zb105 := hm95.f_1_1
              have q106 : m95 1 1 = (m0 1 1) := (Eq.refl (m95 1 1)).trans ((fm95 _ _ (by omega)).trans ((fm82 _ _ (by omega)).trans (Eq.refl (m0 1 1)).symm))
              exact hk 1 m95 hm95 Fm95 (by omega) (by omega) (by omega)
theorem z_X3_pileUp {X : Mm} {S : Sh} {m0 : Mm} {K : Mm → Prop} {u1 : Int} (hS : Shp S) (hm0 : Inv X S m0) (l_u1 : (-24) ≤ u1) (h_u1 : u1 ≤ (-1)) (hk : ∀ (M1 : Mm), Inv X S M1 → (∀ c p : Int, ¬ (c = 52 ∧ 2 ≤ p ∧ p ≤ 2) ∧ ¬ (c = 52 ∧ 5 ≤ p ∧ p ≤ 6) ∧ ¬ c = 53 ∧ ¬ c = 54 → M1 c p = m0 c p) → (M1 52 2 + M1 52 5 ≤ m0 52 2 + m0 52 5 + 1) → K M1) : wp_X3_pileUp S m0 52 u1 K := by
  have Fm0 : ∀ c p : Int, ¬ (c = 52 ∧ 2 ≤ p ∧ p ≤ 2) ∧ ¬ (c = 52 ∧ 5 ≤ p ∧ p ≤ 6) ∧ ¬ c = 53 ∧ ¬ c = 54 → m0 c p = m0 c p := fun c p _ => rfl
  refine u_X3_pileUp ?_
  refine u_X3_bindingOf ?_
  refine g_if (fun w1 => ?_) (fun w1 => ?_)
  · refine g_C ?_
    refine ⟨hS.k52, ?_⟩
    have zb2 := hm0.f_52_2
    have zb4 := hm0.f_52_5
    refine z_X3_unpile hS hm0 (by omega) (by omega) (fun m6 hm6 fm6 ym6_0 => ?_)
    have zb7 := hm6.f_52_2
    have zb8 := hm6.f_52_5
    have Fm6 : ∀ c p : Int, ¬ (c = 52 ∧ 2 ≤ p ∧ p ≤ 2) ∧ ¬ (c = 52 ∧ 5 ≤ p ∧ p ≤ 6) ∧ ¬ c = 53 ∧ ¬ c = 54 → m6 c p = m0 c p := fun c p h => (fm6 c p (by omega)).trans (Fm0 c p h)
    refine ⟨hS.k52, ?_⟩
    have zb9 := hm6.f_52_2
    have zb11 := hm6.f_52_5
    refine z_X3_push hS hm6 (by omega) (by omega) (fun m13 hm13 fm13 ym13_0 => ?_)
    have zb14 := hm13.f_52_2
    have zb15 := hm13.f_52_5
    have Fm13 : ∀ c p : Int, ¬ (c = 52 ∧ 2 ≤ p ∧ p ≤ 2) ∧ ¬ (c = 52 ∧ 5 ≤ p ∧ p ≤ 6) ∧ ¬ c = 53 ∧ ¬ c = 54 → m13 c p = m0 c p := fun c p h => (fm13 c p (by omega)).trans (Fm6 c p h)
    have zb16 := hm13.f_52_2
    have q17 : m13 52 2 = (m6 52 2) := (Eq.refl (m13 52 2)).trans ((fm13 _ _ (by omega)).trans (Eq.refl (m6 52 2)).symm)
    have zb18 := hm13.f_52_5
    exact hk m13 hm13 Fm13 (by omega)
  · refine g_if (fun w20 => ?_) (fun w20 => ?_)
    · refine g_C ?_
      refine ⟨hS.k52, ?_⟩
      have zb21 := hm0.f_52_2
      have zb23 := hm0.f_52_5
      refine z_X3_unpile hS hm0 (by omega) (by omega) (fun m25 hm25 fm25 ym25_0 => ?_)
      have zb26 := hm25.f_52_2
      have zb27 := hm25.f_52_5
      have Fm25 : ∀ c p : Int, ¬ (c = 52 ∧ 2 ≤ p ∧ p ≤ 2) ∧ ¬ (c = 52 ∧ 5 ≤ p ∧ p ≤ 6) ∧ ¬ c = 53 ∧ ¬ c = 54 → m25 c p = m0 c p := fun c p h => (fm25 c p (by omega)).trans (Fm0 c p h)
      refine ⟨hS.k52, ?_⟩
      have zb28 := hm25.f_52_2
      have zb30 := hm25.f_52_5
      refine z_X3_push hS hm25 (by omega) (by omega) (fun m32 hm32 fm32 ym32_0 => ?_)
      have zb33 := hm32.f_52_2
      have zb34 := hm32.f_52_5
      have Fm32 : ∀ c p : Int, ¬ (c = 52 ∧ 2 ≤ p ∧ p ≤ 2) ∧ ¬ (c = 52 ∧ 5 ≤ p ∧ p ≤ 6) ∧ ¬ c = 53 ∧ ¬ c = 54 → m32 c p = m0 c p := fun c p h => (fm32 c p (by omega)).trans (Fm25 c p h)
      have zb35 := hm32.f_52_2
      have q36 : m32 52 2 = (m25 52 2) := (Eq.refl (m32 52 2)).trans ((fm32 _ _ (by omega)).trans (Eq.refl (m25 52 2)).symm)
      have zb37 := hm32.f_52_5
      exact hk m32 hm32 Fm32 (by omega)
    · refine g_if (fun w39 => ?_) (fun w39 => ?_)
      · refine g_C ?_
        refine ⟨hS.k52, ?_⟩
        have zb40 := hm0.f_52_2
        have zb42 := hm0.f_52_5
        refine z_X3_unpile hS hm0 (by omega) (by omega) (fun m44 hm44 fm44 ym44_0 => ?_)
        have zb45 := hm44.f_52_2
        have zb46 := hm44.f_52_5
        have Fm44 : ∀ c p : Int, ¬ (c = 52 ∧ 2 ≤ p ∧ p ≤ 2) ∧ ¬ (c = 52 ∧ 5 ≤ p ∧ p ≤ 6) ∧ ¬ c = 53 ∧ ¬ c = 54 → m44 c p = m0 c p := fun c p h => (fm44 c p (by omega)).trans (Fm0 c p h)
        refine ⟨hS.k52, ?_⟩
        have zb47 := hm44.f_52_2
        have zb49 := hm44.f_52_5
        refine z_X3_push hS hm44 (by omega) (by omega) (fun m51 hm51 fm51 ym51_0 => ?_)
        have zb52 := hm51.f_52_2
        have zb53 := hm51.f_52_5
        have Fm51 : ∀ c p : Int, ¬ (c = 52 ∧ 2 ≤ p ∧ p ≤ 2) ∧ ¬ (c = 52 ∧ 5 ≤ p ∧ p ≤ 6) ∧ ¬ c = 53 ∧ ¬ c = 54 → m51 c p = m0 c p := fun c p h => (fm51 c p (by omega)).trans (Fm44 c p h)
        have zb54 := hm51.f_52_2
        have q55 : m51 52 2 = (m44 52 2) := (Eq.refl (m51 52 2)).trans ((fm51 _ _ (by omega)).trans (Eq.refl (m44 52 2)).symm)
        have zb56 := hm51.f_52_5
        exact hk m51 hm51 Fm51 (by omega)
      · refine g_if (fun w58 => ?_) (fun w58 => ?_)
        · refine g_C ?_
          refine ⟨hS.k52, ?_⟩
          have zb59 := hm0.f_52_2
          have zb61 := hm0.f_52_5
          refine z_X3_unpile hS hm0 (by omega) (by omega) (fun m63 hm63 fm63 ym63_0 => ?_)
          have zb64 := hm63.f_52_2
          have zb65 := hm63.f_52_5
          have Fm63 : ∀ c p : Int, ¬ (c = 52 ∧ 2 ≤ p ∧ p ≤ 2) ∧ ¬ (c = 52 ∧ 5 ≤ p ∧ p ≤ 6) ∧ ¬ c = 53 ∧ ¬ c = 54 → m63 c p = m0 c p := fun c p h => (fm63 c p (by omega)).trans (Fm0 c p h)
          refine ⟨hS.k52, ?_⟩
          have zb66 := hm63.f_52_2
          have zb68 := hm63.f_52_5
          refine z_X3_push hS hm63 (by omega) (by omega) (fun m70 hm70 fm70 ym70_0 => ?_)
          have zb71 := hm70.f_52_2
          have zb72 := hm70.f_52_5
          have Fm70 : ∀ c p : Int, ¬ (c = 52 ∧ 2 ≤ p ∧ p ≤ 2) ∧ ¬ (c = 52 ∧ 5 ≤ p ∧ p ≤ 6) ∧ ¬ c = 53 ∧ ¬ c = 54 → m70 c p = m0 c p := fun c p h => (fm70 c p (by omega)).trans (Fm63 c p h)
          have zb73 := hm70.f_52_2
          have q74 : m70 52 2 = (m63 52 2) := (Eq.refl (m70 52 2)).trans ((fm70 _ _ (by omega)).trans (Eq.refl (m63 52 2)).symm)
          have zb75 := hm70.f_52_5
          exact hk m70 hm70 Fm70 (by omega)
        · refine g_if (fun w77 => ?_) (fun w77 => ?_)
          · refine g_C ?_
            refine ⟨hS.k52, ?_⟩
            have zb78 := hm0.f_52_2
            have zb80 := hm0.f_52_5
            refine z_X3_unpile hS hm0 (by omega) (by omega) (fun m82 hm82 fm82 ym82_0 => ?_)
            have zb83 := hm82.f_52_2
            have zb84 := hm82.f_52_5
            have Fm82 : ∀ c p : Int, ¬ (c = 52 ∧ 2 ≤ p ∧ p ≤ 2) ∧ ¬ (c = 52 ∧ 5 ≤ p ∧ p ≤ 6) ∧ ¬ c = 53 ∧ ¬ c = 54 → m82 c p = m0 c p := fun c p h => (fm82 c p (by omega)).trans (Fm0 c p h)
            refine ⟨hS.k52, ?_⟩
            have zb85 := hm82.f_52_2
            have zb87 := hm82.f_52_5
            refine z_X3_push hS hm82 (by omega) (by omega) (fun m89 hm89 fm89 ym89_0 => ?_)
            have zb90 := hm89.f_52_2
            have zb91 := hm89.f_52_5
            have Fm89 : ∀ c p : Int, ¬ (c = 52 ∧ 2 ≤ p ∧ p ≤ 2) ∧ ¬ (c = 52 ∧ 5 ≤ p ∧ p ≤ 6) ∧ ¬ c = 53 ∧ ¬ c = 54 → m89 c p = m0 c p := fun c p h => (fm89 c p (by omega)).trans (Fm82 c p h)
            have zb92 := hm89.f_52_2
            have q93 : m89 52 2 = (m82 52 2) := (Eq.refl (m89 52 2)).trans ((fm89 _ _ (by omega)).trans (Eq.refl (m82 52 2)).symm)
            have zb94 := hm89.f_52_5
            exact hk m89 hm89 Fm89 (by omega)
          · refine g_if (fun w96 => ?_) (fun w96 => ?_)
            · refine g_C ?_
              refine ⟨hS.k52, ?_⟩
              have zb97 := hm0.f_52_2
              have zb99 := hm0.f_52_5
              refine z_X3_unpile hS hm0 (by omega) (by omega) (fun m101 hm101 fm101 ym101_0 => ?_)
              have zb102 := hm101.f_52_2
              have zb103 := hm101.f_52_5
              have Fm101 : ∀ c p : Int, ¬ (c = 52 ∧ 2 ≤ p ∧ p ≤ 2) ∧ ¬ (c = 52 ∧ 5 ≤ p ∧ p ≤ 6) ∧ ¬ c = 53 ∧ ¬ c = 54 → m101 c p = m0 c p := fun c p h => (fm101 c p (by omega)).trans (Fm0 c p h)
              refine ⟨hS.k52, ?_⟩
              have zb104 := hm101.f_52_2
              have zb106 := hm101.f_52_5
              refine z_X3_push hS hm101 (by omega) (by omega) (fun m108 hm108 fm108 ym108_0 => ?_)
              have zb109 := hm108.f_52_2
              have zb110 := hm108.f_52_5
              have Fm108 : ∀ c p : Int, ¬ (c = 52 ∧ 2 ≤ p ∧ p ≤ 2) ∧ ¬ (c = 52 ∧ 5 ≤ p ∧ p ≤ 6) ∧ ¬ c = 53 ∧ ¬ c = 54 → m108 c p = m0 c p := fun c p h => (fm108 c p (by omega)).trans (Fm101 c p h)
              have zb111 := hm108.f_52_2
              have q112 : m108 52 2 = (m101 52 2) := (Eq.refl (m108 52 2)).trans ((fm108 _ _ (by omega)).trans (Eq.refl (m101 52 2)).symm)
              have zb113 := hm108.f_52_5
              exact hk m108 hm108 Fm108 (by omega)
            · refine g_if (fun w115 => ?_) (fun w115 => ?_)
              · refine g_C ?_
                refine ⟨hS.k52, ?_⟩
                have zb116 := hm0.f_52_2
                have zb118 := hm0.f_52_5
                refine z_X3_unpile hS hm0 (by omega) (by omega) (fun m120 hm120 fm120 ym120_0 => ?_)
                have zb121 := hm120.f_52_2
                have zb122 := hm120.f_52_5
                have Fm120 : ∀ c p : Int, ¬ (c = 52 ∧ 2 ≤ p ∧ p ≤ 2) ∧ ¬ (c = 52 ∧ 5 ≤ p ∧ p ≤ 6) ∧ ¬ c = 53 ∧ ¬ c = 54 → m120 c p = m0 c p := fun c p h => (fm120 c p (by omega)).trans (Fm0 c p h)
                refine ⟨hS.k52, ?_⟩
                have zb123 := hm120.f_52_2
                have zb125 := hm120.f_52_5
                refine z_X3_push hS hm120 (by omega) (by omega) (fun m127 hm127 fm127 ym127_0 => ?_)
                have zb128 := hm127.f_52_2
                have zb129 := hm127.f_52_5
                have Fm127 : ∀ c p : Int, ¬ (c = 52 ∧ 2 ≤ p ∧ p ≤ 2) ∧ ¬ (c = 52 ∧ 5 ≤ p ∧ p ≤ 6) ∧ ¬ c = 53 ∧ ¬ c = 54 → m127 c p = m0 c p := fun c p h => (fm127 c p (by omega)).trans (Fm120 c p h)
                have zb130 := hm127.f_52_2
                have q131 : m127 52 2 = (m120 52 2) := (Eq.refl (m127 52 2)).trans ((fm127 _ _ (by omega)).trans (Eq.refl (m120 52 2)).symm)
                have zb132 := hm127.f_52_5
                exact hk m127 hm127 Fm127 (by omega)
              · refine g_if (fun w134 => ?_) (fun w134 => ?_)
                · refine g_C ?_
                  refine ⟨hS.k52, ?_⟩
                  have zb135 := hm0.f_52_2
                  have zb137 := hm0.f_52_5
                  refine z_X3_unpile hS hm0 (by omega) (by omega) (fun m139 hm139 fm139 ym139_0 => ?_)
                  have zb140 := hm139.f_52_2
                  have zb141 := hm139.f_52_5
                  have Fm139 : ∀ c p : Int, ¬ (c = 52 ∧ 2 ≤ p ∧ p ≤ 2) ∧ ¬ (c = 52 ∧ 5 ≤ p ∧ p ≤ 6) ∧ ¬ c = 53 ∧ ¬ c = 54 → m139 c p = m0 c p := fun c p h => (fm139 c p (by omega)).trans (Fm0 c p h)
                  refine ⟨hS.k52, ?_⟩
                  have zb142 := hm139.f_52_2
                  have zb144 := hm139.f_52_5
                  refine z_X3_push hS hm139 (by omega) (by omega) (fun m146 hm146 fm146 ym146_0 => ?_)
                  have zb147 := hm146.f_52_2
                  have zb148 := hm146.f_52_5
                  have Fm146 : ∀ c p : Int, ¬ (c = 52 ∧ 2 ≤ p ∧ p ≤ 2) ∧ ¬ (c = 52 ∧ 5 ≤ p ∧ p ≤ 6) ∧ ¬ c = 53 ∧ ¬ c = 54 → m146 c p = m0 c p := fun c p h => (fm146 c p (by omega)).trans (Fm139 c p h)
                  have zb149 := hm146.f_52_2
                  have q150 : m146 52 2 = (m139 52 2) := (Eq.refl (m146 52 2)).trans ((fm146 _ _ (by omega)).trans (Eq.refl (m139 52 2)).symm)
                  have zb151 := hm146.f_52_5
                  exact hk m146 hm146 Fm146 (by omega)
                · refine g_if (fun w153 => ?_) (fun w153 => ?_)
                  · refine g_C ?_
                    refine ⟨hS.k52, ?_⟩
                    have zb154 := hm0.f_52_2
                    have zb156 := hm0.f_52_5
                    refine z_X3_unpile hS hm0 (by omega) (by omega) (fun m158 hm158 fm158 ym158_0 => ?_)
                    have zb159 := hm158.f_52_2
                    have zb160 := hm158.f_52_5
                    have Fm158 : ∀ c p : Int, ¬ (c = 52 ∧ 2 ≤ p ∧ p ≤ 2) ∧ ¬ (c = 52 ∧ 5 ≤ p ∧ p ≤ 6) ∧ ¬ c = 53 ∧ ¬ c = 54 → m158 c p = m0 c p := fun c p h => (fm158 c p (by omega)).trans (Fm0 c p h)
                    refine ⟨hS.k52, ?_⟩
                    have zb161 := hm158.f_52_2
                    have zb163 := hm158.f_52_5
                    refine z_X3_push hS hm158 (by omega) (by omega) (fun m165 hm165 fm165 ym165_0 => ?_)
                    have zb166 := hm165.f_52_2
                    have zb167 := hm165.f_52_5
                    have Fm165 : ∀ c p : Int, ¬ (c = 52 ∧ 2 ≤ p ∧ p ≤ 2) ∧ ¬ (c = 52 ∧ 5 ≤ p ∧ p ≤ 6) ∧ ¬ c = 53 ∧ ¬ c = 54 → m165 c p = m0 c p := fun c p h => (fm165 c p (by omega)).trans (Fm158 c p h)
                    have zb168 := hm165.f_52_2
                    have q169 : m165 52 2 = (m158 52 2) := (Eq.refl (m165 52 2)).trans ((fm165 _ _ (by omega)).trans (Eq.refl (m158 52 2)).symm)
                    have zb170 := hm165.f_52_5
                    exact hk m165 hm165 Fm165 (by omega)
                  · refine g_if (fun w172 => ?_) (fun w172 => ?_)
                    · refine g_C ?_
                      refine ⟨hS.k52, ?_⟩
                      have zb173 := hm0.f_52_2
                      have zb175 := hm0.f_52_5
                      refine z_X3_unpile hS hm0 (by omega) (by omega) (fun m177 hm177 fm177 ym177_0 => ?_)
                      have zb178 := hm177.f_52_2
                      have zb179 := hm177.f_52_5
                      have Fm177 : ∀ c p : Int, ¬ (c = 52 ∧ 2 ≤ p ∧ p ≤ 2) ∧ ¬ (c = 52 ∧ 5 ≤ p ∧ p ≤ 6) ∧ ¬ c = 53 ∧ ¬ c = 54 → m177 c p = m0 c p := fun c p h => (fm177 c p (by omega)).trans (Fm0 c p h)
                      refine ⟨hS.k52, ?_⟩
                      have zb180 := hm177.f_52_2
                      have zb182 := hm177.f_52_5
                      refine z_X3_push hS hm177 (by omega) (by omega) (fun m184 hm184 fm184 ym184_0 => ?_)
                      have zb185 := hm184.f_52_2
                      have zb186 := hm184.f_52_5
                      have Fm184 : ∀ c p : Int, ¬ (c = 52 ∧ 2 ≤ p ∧ p ≤ 2) ∧ ¬ (c = 52 ∧ 5 ≤ p ∧ p ≤ 6) ∧ ¬ c = 53 ∧ ¬ c = 54 → m184 c p = m0 c p := fun c p h => (fm184 c p (by omega)).trans (Fm177 c p h)
                      have zb187 := hm184.f_52_2
                      have q188 : m184 52 2 = (m177 52 2) := (Eq.refl (m184 52 2)).trans ((fm184 _ _ (by omega)).trans (Eq.refl (m177 52 2)).symm)
                      have zb189 := hm184.f_52_5
                      exact hk m184 hm184 Fm184 (by omega)
                    · refine g_if (fun w191 => ?_) (fun w191 => ?_)
                      · refine g_C ?_
                        refine ⟨hS.k52, ?_⟩
                        have zb192 := hm0.f_52_2
                        have zb194 := hm0.f_52_5
                        refine z_X3_unpile hS hm0 (by omega) (by omega) (fun m196 hm196 fm196 ym196_0 => ?_)
                        have zb197 := hm196.f_52_2
                        have zb198 := hm196.f_52_5
                        have Fm196 : ∀ c p : Int, ¬ (c = 52 ∧ 2 ≤ p ∧ p ≤ 2) ∧ ¬ (c = 52 ∧ 5 ≤ p ∧ p ≤ 6) ∧ ¬ c = 53 ∧ ¬ c = 54 → m196 c p = m0 c p := fun c p h => (fm196 c p (by omega)).trans (Fm0 c p h)
                        refine ⟨hS.k52, ?_⟩
                        have zb199 := hm196.f_52_2
                        have zb201 := hm196.f_52_5
                        refine z_X3_push hS hm196 (by omega) (by omega) (fun m203 hm203 fm203 ym203_0 => ?_)
                        have zb204 := hm203.f_52_2
                        have zb205 := hm203.f_52_5
                        have Fm203 : ∀ c p : Int, ¬ (c = 52 ∧ 2 ≤ p ∧ p ≤ 2) ∧ ¬ (c = 52 ∧ 5 ≤ p ∧ p ≤ 6) ∧ ¬ c = 53 ∧ ¬ c = 54 → m203 c p = m0 c p := fun c p h => (fm203 c p (by omega)).trans (Fm196 c p h)
                        have zb206 := hm203.f_52_2
                        have q207 : m203 52 2 = (m196 52 2) := (Eq.refl (m203 52 2)).trans ((fm203 _ _ (by omega)).trans (Eq.refl (m196 52 2)).symm)
                        have zb208 := hm203.f_52_5
                        exact hk m203 hm203 Fm203 (by omega)
                      · refine g_if (fun w210 => ?_) (fun w210 => ?_)
                        · refine g_C ?_
                          refine ⟨hS.k52, ?_⟩
                          have zb211 := hm0.f_52_2
                          have zb213 := hm0.f_52_5
                          refine z_X3_unpile hS hm0 (by omega) (by omega) (fun m215 hm215 fm215 ym215_0 => ?_)
                          have zb216 := hm215.f_52_2
                          have zb217 := hm215.f_52_5
                          have Fm215 : ∀ c p : Int, ¬ (c = 52 ∧ 2 ≤ p ∧ p ≤ 2) ∧ ¬ (c = 52 ∧ 5 ≤ p ∧ p ≤ 6) ∧ ¬ c = 53 ∧ ¬ c = 54 → m215 c p = m0 c p := fun c p h => (fm215 c p (by omega)).trans (Fm0 c p h)
                          refine ⟨hS.k52, ?_⟩
                          have zb218 := hm215.f_52_2
                          have zb220 := hm215.f_52_5
                          refine z_X3_push hS hm215 (by omega) (by omega) (fun m222 hm222 fm222 ym222_0 => ?_)
                          have zb223 := hm222.f_52_2
                          have zb224 := hm222.f_52_5
                          have Fm222 : ∀ c p : Int, ¬ (c = 52 ∧ 2 ≤ p ∧ p ≤ 2) ∧ ¬ (c = 52 ∧ 5 ≤ p ∧ p ≤ 6) ∧ ¬ c = 53 ∧ ¬ c = 54 → m222 c p = m0 c p := fun c p h => (fm222 c p (by omega)).trans (Fm215 c p h)
                          have zb225 := hm222.f_52_2
                          have q226 : m222 52 2 = (m215 52 2) := (Eq.refl (m222 52 2)).trans ((fm222 _ _ (by omega)).trans (Eq.refl (m215 52 2)).symm)
                          have zb227 := hm222.f_52_5
                          exact hk m222 hm222 Fm222 (by omega)
                        · refine g_if (fun w229 => ?_) (fun w229 => ?_)
                          · refine g_C ?_
                            refine ⟨hS.k52, ?_⟩
                            have zb230 := hm0.f_52_2
                            have zb232 := hm0.f_52_5
                            refine z_X3_unpile hS hm0 (by omega) (by omega) (fun m234 hm234 fm234 ym234_0 => ?_)
                            have zb235 := hm234.f_52_2
                            have zb236 := hm234.f_52_5
                            have Fm234 : ∀ c p : Int, ¬ (c = 52 ∧ 2 ≤ p ∧ p ≤ 2) ∧ ¬ (c = 52 ∧ 5 ≤ p ∧ p ≤ 6) ∧ ¬ c = 53 ∧ ¬ c = 54 → m234 c p = m0 c p := fun c p h => (fm234 c p (by omega)).trans (Fm0 c p h)
                            refine ⟨hS.k52, ?_⟩
                            have zb237 := hm234.f_52_2
                            have zb239 := hm234.f_52_5
                            refine z_X3_push hS hm234 (by omega) (by omega) (fun m241 hm241 fm241 ym241_0 => ?_)
                            have zb242 := hm241.f_52_2
                            have zb243 := hm241.f_52_5
                            have Fm241 : ∀ c p : Int, ¬ (c = 52 ∧ 2 ≤ p ∧ p ≤ 2) ∧ ¬ (c = 52 ∧ 5 ≤ p ∧ p ≤ 6) ∧ ¬ c = 53 ∧ ¬ c = 54 → m241 c p = m0 c p := fun c p h => (fm241 c p (by omega)).trans (Fm234 c p h)
                            have zb244 := hm241.f_52_2
                            have q245 : m241 52 2 = (m234 52 2) := (Eq.refl (m241 52 2)).trans ((fm241 _ _ (by omega)).trans (Eq.refl (m234 52 2)).symm)
                            have zb246 := hm241.f_52_5
                            exact hk m241 hm241 Fm241 (by omega)
                          · refine g_C ?_
                            refine ⟨hS.k52, ?_⟩
                            have zb248 := hm0.f_52_2
                            have zb250 := hm0.f_52_5
                            refine z_X3_unpile hS hm0 (by omega) (by omega) (fun m252 hm252 fm252 ym252_0 => ?_)
                            have zb253 := hm252.f_52_2
                            have zb254 := hm252.f_52_5
                            have Fm252 : ∀ c p : Int, ¬ (c = 52 ∧ 2 ≤ p ∧ p ≤ 2) ∧ ¬ (c = 52 ∧ 5 ≤ p ∧ p ≤ 6) ∧ ¬ c = 53 ∧ ¬ c = 54 → m252 c p = m0 c p := fun c p h => (fm252 c p (by omega)).trans (Fm0 c p h)
                            refine ⟨hS.k52, ?_⟩
                            have zb255 := hm252.f_52_2
                            have zb257 := hm252.f_52_5
                            refine z_X3_push hS hm252 (by omega) (by omega) (fun m259 hm259 fm259 ym259_0 => ?_)
                            have zb260 := hm259.f_52_2
                            have zb261 := hm259.f_52_5
                            have Fm259 : ∀ c p : Int, ¬ (c = 52 ∧ 2 ≤ p ∧ p ≤ 2) ∧ ¬ (c = 52 ∧ 5 ≤ p ∧ p ≤ 6) ∧ ¬ c = 53 ∧ ¬ c = 54 → m259 c p = m0 c p := fun c p h => (fm259 c p (by omega)).trans (Fm252 c p h)
                            have zb262 := hm259.f_52_2
                            have q263 : m259 52 2 = (m252 52 2) := (Eq.refl (m259 52 2)).trans ((fm259 _ _ (by omega)).trans (Eq.refl (m252 52 2)).symm)
                            have zb264 := hm259.f_52_5
                            exact hk m259 hm259 Fm259 (by omega)
theorem zr_X7_continuesWith {X : Mm} {S : Sh} {m0 : Mm} {K : Int → Mm → Prop} {u1 : Int} (hS : Shp S) (hm0 : Inv X S m0) (l_u1 : 61 ≤ u1) (h_u1 : u1 ≤ 61) (hk : ∀ (r : Int) (M1 : Mm), Inv X S M1 → (∀ c p : Int, ¬ (c = 1 ∧ 2 ≤ p ∧ p ≤ 3) → M1 c p = m0 c p) → 0 ≤ r → r ≤ 1 → (m0 1 2 ≤ M1 1 2) → (r = 0 ∨ m0 1 2 + 1 ≤ M1 1 2) → K r M1) : wp_X7_continuesWith S m0 1 u1 K := by
  have Fm0 : ∀ c p : Int, ¬ (c = 1 ∧ 2 ≤ p ∧ p ≤ 3) → m0 c p = m0 c p := fun c p _ => rfl
  refine u_X7_continuesWith ?_
  refine g_get 2 (0) (400) rfl hS.k1 hm0.f_1_2 (fun v1 ev1 bv1 cv1 => ?_)
  have qv1 : v1 = (m0 1 2) := ev1.trans (Eq.refl (m0 1 2)).symm
  refine ⟨hS.k1, ?_⟩
  refine u_X7_byteAt ?_
  refine g_ifF (by omega) ?_
  refine g_get 1 (0) (400) rfl hS.k1 hm0.f_1_1 (fun v2 ev2 bv2 cv2 => ?_)
  have qv2 : v2 = (m0 1 1) := ev2.trans (Eq.refl (m0 1 1)).symm
  refine g_if (fun w3 => ?_) (fun w3 => ?_)
  · refine g_C ?_
    refine g_ifF (by omega) ?_
    refine g_C ?_
    refine ⟨by omega, ?_⟩
    have zb4 := hm0.f_1_2
    have zb6 := hm0.f_1_1
    exact hk 0 m0 hm0 Fm0 (by omega) (by omega) (by omega) (by omega)
  · refine g_C ?_
    refine g_ifF (by omega) ?_
    refine g_getr 0 2 rfl hS.k1 hm0.f_1_0 (by decide) ?_
    refine g_ld (-128) (127) hS.k2 hS.l2 (by omega) (by omega) (hm0.a_2 (by omega) (by omega)) (fun v8 ev8 bv8 cv8 => ?_)
    refine g_C ?_
    refine g_iAndR (by omega) (by omega) (fun v9 dv9 bv9 cv9 => ?_)
    refine g_if (fun w10 => ?_) (fun w10 => ?_)
    · refine g_get 2 (0) (400) rfl hS.k1 hm0.f_1_2 (fun v11 ev11 bv11 cv11 => ?_)
      have qv11 : v11 = (m0 1 2) := ev11.trans (Eq.refl (m0 1 2)).symm
      refine g_C ?_
      refine g_A (by omega) (by omega) ?_
      refine g_put 2 rfl hS.k1 (hm0.w_1_2 (by omega) (by omega)) (fun m12 em12 hm12 => ?_)
      have Fm12 : ∀ c p : Int, ¬ (c = 1 ∧ 2 ≤ p ∧ p ≤ 3) → m12 c p = m0 c p := fun c p h => (congrFun (congrFun em12 _) _).trans ((up_ne (by omega)).trans (Fm0 c p h))
      refine g_C ?_
      refine ⟨by omega, ?_⟩
      have zb13 := hm12.f_1_2
      have q14 : m12 1 2 = (v11 + 1) := (Eq.refl (m12 1 2)).trans ((congrFun (congrFun em12 _) _).trans (up_ate (by omega)))
      have zb15 := hm12.f_1_1
      have q16 : m12 1 1 = (m0 1 1) := (Eq.refl (m12 1 1)).trans ((congrFun (congrFun em12 _) _).trans ((up_ne (by omega)).trans (Eq.refl (m0 1 1)).symm))
      exact hk 1 m12 hm12 Fm12 (by omega) (by omega) (by omega) (by omega)
    · refine g_C ?_
      refine ⟨by omega, ?_⟩
      have zb17 := hm0.f_1_2
      have zb19 := hm0.f_1_1
      exact hk 0 m0 hm0 Fm0 (by omega) (by omega) (by omega) (by omega)
theorem z_X3_takeComparison {X : Mm} {S : Sh} {m0 : Mm} {K : Int → Mm → Prop} (hS : Shp S) (hm0 : Inv X S m0)  (hk : ∀ (r : Int) (M1 : Mm), Inv X S M1 → (∀ c p : Int, ¬ (c = 1 ∧ 2 ≤ p ∧ p ≤ 3) → M1 c p = m0 c p) → (-21) ≤ r → r ≤ 0 → (m0 1 2 ≤ M1 1 2) → (r = 0 ∨ m0 1 2 + 1 ≤ M1 1 2) → K r M1) : wp_X3_takeComparison S m0 52 K := by
  have Fm0 : ∀ c p : Int, ¬ (c = 1 ∧ 2 ≤ p ∧ p ≤ 3) → m0 c p = m0 c p := fun c p _ => rfl
  refine u_X3_takeComparison ?_
  refine g_getr 0 1 rfl hS.k52 hm0.f_52_0 (by decide) ?_
  refine g_C ?_
  refine ⟨hS.k1, ?_⟩
  have zb1 := hm0.f_1_2
  have zb3 := hm0.f_1_1
  refine zr_X7_takesSign hS hm0 (by omega) (by omega) (fun v5 m6 hm6 fm6 bv5 cv5 yv5_0 yv5_1 => ?_)
  have zb7 := hm6.f_1_2
  have zb8 := hm6.f_1_1
  have Fm6 : ∀ c p : Int, ¬ (c = 1 ∧ 2 ≤ p ∧ p ≤ 3) → m6 c p = m0 c p := fun c p h => (fm6 c p (by omega)).trans (Fm0 c p h)
  refine g_if (fun w9 => ?_) (fun w9 => ?_)
  · refine g_getr 0 1 rfl hS.k52 hm6.f_52_0 (by decide) ?_
    refine g_C ?_
    refine ⟨hS.k1, ?_⟩
    have zb10 := hm6.f_1_2
    have zb12 := hm6.f_1_1
    have q13 : m6 1 1 = (m0 1 1) := (Eq.refl (m6 1 1)).trans ((fm6 _ _ (by omega)).trans (Eq.refl (m0 1 1)).symm)
    refine zr_X7_takesSign hS hm6 (by omega) (by omega) (fun v14 m15 hm15 fm15 bv14 cv14 yv14_0 yv14_1 => ?_)
    have zb16 := hm15.f_1_2
    have zb17 := hm15.f_1_1
    have Fm15 : ∀ c p : Int, ¬ (c = 1 ∧ 2 ≤ p ∧ p ≤ 3) → m15 c p = m0 c p := fun c p h => (fm15 c p (by omega)).trans (Fm6 c p h)
    refine g_if (fun w18 => ?_) (fun w18 => ?_)
    · refine g_getr 0 1 rfl hS.k52 hm15.f_52_0 (by decide) ?_
      refine g_C ?_
      refine ⟨hS.k1, ?_⟩
      have zb19 := hm15.f_1_2
      have zb21 := hm15.f_1_1
      have q22 : m15 1 1 = (m0 1 1) := (Eq.refl (m15 1 1)).trans ((fm15 _ _ (by omega)).trans ((fm6 _ _ (by omega)).trans (Eq.refl (m0 1 1)).symm))
      refine zr_X7_takesSign hS hm15 (by omega) (by omega) (fun v23 m24 hm24 fm24 bv23 cv23 yv23_0 yv23_1 => ?_)
      have zb25 := hm24.f_1_2
      have zb26 := hm24.f_1_1
      have Fm24 : ∀ c p : Int, ¬ (c = 1 ∧ 2 ≤ p ∧ p ≤ 3) → m24 c p = m0 c p := fun c p h => (fm24 c p (by omega)).trans (Fm15 c p h)
      refine g_if (fun w27 => ?_) (fun w27 => ?_)
      · refine g_C ?_
        have zb28 := hm24.f_1_2
        have zb30 := hm24.f_1_1
        have q31 : m24 1 1 = (m0 1 1) := (Eq.refl (m24 1 1)).trans ((fm24 _ _ (by omega)).trans ((fm15 _ _ (by omega)).trans ((fm6 _ _ (by omega)).trans (Eq.refl (m0 1 1)).symm)))
        exact hk 0 m24 hm24 Fm24 (by omega) (by omega) (by omega) (by omega)
      · refine g_getr 0 1 rfl hS.k52 hm24.f_52_0 (by decide) ?_
        refine g_C ?_
        refine ⟨hS.k1, ?_⟩
        have zb32 := hm24.f_1_2
        have zb34 := hm24.f_1_1
        have q35 : m24 1 1 = (m0 1 1) := (Eq.refl (m24 1 1)).trans ((fm24 _ _ (by omega)).trans ((fm15 _ _ (by omega)).trans ((fm6 _ _ (by omega)).trans (Eq.refl (m0 1 1)).symm)))
        refine zr_X7_continuesWith hS hm24 (by omega) (by omega) (fun v36 m37 hm37 fm37 bv36 cv36 yv36_0 yv36_1 => ?_)
        have zb38 := hm37.f_1_2
        have zb39 := hm37.f_1_1
        have Fm37 : ∀ c p : Int, ¬ (c = 1 ∧ 2 ≤ p ∧ p ≤ 3) → m37 c p = m0 c p := fun c p h => (fm37 c p (by omega)).trans (Fm24 c p h)
        refine g_if (fun w40 => ?_) (fun w40 => ?_)
        · refine g_C ?_
          have zb41 := hm37.f_1_2
          have zb43 := hm37.f_1_1
          have q44 : m37 1 1 = (m0 1 1) := (Eq.refl (m37 1 1)).trans ((fm37 _ _ (by omega)).trans ((fm24 _ _ (by omega)).trans ((fm15 _ _ (by omega)).trans ((fm6 _ _ (by omega)).trans (Eq.refl (m0 1 1)).symm))))
          exact hk (-21) m37 hm37 Fm37 (by omega) (by omega) (by omega) (by omega)
        · refine g_C ?_
          have zb45 := hm37.f_1_2
          have zb47 := hm37.f_1_1
          have q48 : m37 1 1 = (m0 1 1) := (Eq.refl (m37 1 1)).trans ((fm37 _ _ (by omega)).trans ((fm24 _ _ (by omega)).trans ((fm15 _ _ (by omega)).trans ((fm6 _ _ (by omega)).trans (Eq.refl (m0 1 1)).symm))))
          exact hk (-20) m37 hm37 Fm37 (by omega) (by omega) (by omega) (by omega)
    · refine g_getr 0 1 rfl hS.k52 hm15.f_52_0 (by decide) ?_
      refine g_C ?_
      refine ⟨hS.k1, ?_⟩
      have zb49 := hm15.f_1_2
      have zb51 := hm15.f_1_1
      have q52 : m15 1 1 = (m0 1 1) := (Eq.refl (m15 1 1)).trans ((fm15 _ _ (by omega)).trans ((fm6 _ _ (by omega)).trans (Eq.refl (m0 1 1)).symm))
      refine zr_X7_continuesWith hS hm15 (by omega) (by omega) (fun v53 m54 hm54 fm54 bv53 cv53 yv53_0 yv53_1 => ?_)
      have zb55 := hm54.f_1_2
      have zb56 := hm54.f_1_1
      have Fm54 : ∀ c p : Int, ¬ (c = 1 ∧ 2 ≤ p ∧ p ≤ 3) → m54 c p = m0 c p := fun c p h => (fm54 c p (by omega)).trans (Fm15 c p h)
      refine g_if (fun w57 => ?_) (fun w57 => ?_)
      · refine g_C ?_
        have zb58 := hm54.f_1_2
        have zb60 := hm54.f_1_1
        have q61 : m54 1 1 = (m0 1 1) := (Eq.refl (m54 1 1)).trans ((fm54 _ _ (by omega)).trans ((fm15 _ _ (by omega)).trans ((fm6 _ _ (by omega)).trans (Eq.refl (m0 1 1)).symm)))
        exact hk (-17) m54 hm54 Fm54 (by omega) (by omega) (by omega) (by omega)
      · refine g_C ?_
        have zb62 := hm54.f_1_2
        have zb64 := hm54.f_1_1
        have q65 : m54 1 1 = (m0 1 1) := (Eq.refl (m54 1 1)).trans ((fm54 _ _ (by omega)).trans ((fm15 _ _ (by omega)).trans ((fm6 _ _ (by omega)).trans (Eq.refl (m0 1 1)).symm)))
        exact hk (-18) m54 hm54 Fm54 (by omega) (by omega) (by omega) (by omega)
  · refine g_C ?_
    have zb66 := hm6.f_1_2
    have zb68 := hm6.f_1_1
    have q69 : m6 1 1 = (m0 1 1) := (Eq.refl (m6 1 1)).trans ((fm6 _ _ (by omega)).trans (Eq.refl (m0 1 1)).symm)
    exact hk (-19) m6 hm6 Fm6 (by omega) (by omega) (by omega) (by omega)
theorem z_X3_readComparison {X : Mm} {S : Sh} {m0 : Mm} {K : Int → Mm → Prop} (hS : Shp S) (hm0 : Inv X S m0)  (hk : ∀ (r : Int) (M1 : Mm), Inv X S M1 → (∀ c p : Int, ¬ (c = 52 ∧ 2 ≤ p ∧ p ≤ 3) ∧ ¬ (c = 52 ∧ 5 ≤ p ∧ p ≤ 8) ∧ ¬ c = 53 ∧ ¬ c = 54 ∧ ¬ (c = 1 ∧ 2 ≤ p ∧ p ≤ 4) → M1 c p = m0 c p) → 0 ≤ r → r ≤ 1 → (M1 52 2 + M1 52 5 - M1 1 2 ≤ m0 52 2 + m0 52 5 - m0 1 2) → (m0 1 2 ≤ M1 1 2) → K r M1) : wp_X3_readComparison S m0 52 K := by
  have Fm0 : ∀ c p : Int, ¬ (c = 52 ∧ 2 ≤ p ∧ p ≤ 3) ∧ ¬ (c = 52 ∧ 5 ≤ p ∧ p ≤ 8) ∧ ¬ c = 53 ∧ ¬ c = 54 ∧ ¬ (c = 1 ∧ 2 ≤ p ∧ p ≤ 4) → m0 c p = m0 c p := fun c p _ => rfl
  refine u_X3_readComparison ?_
  refine ⟨hS.k52, ?_⟩
  have zb1 := hm0.f_52_2
  have zb3 := hm0.f_52_5
  have zb5 := hm0.f_1_2
  have zb7 := hm0.f_1_1
  refine z_X3_takeComparison hS hm0 (fun v9 m10 hm10 fm10 bv9 cv9 yv9_0 yv9_1 => ?_)
  have zb11 := hm10.f_52_2
  have zb12 := hm10.f_52_5
  have zb13 := hm10.f_1_2
  have zb14 := hm10.f_1_1
  have Fm10 : ∀ c p : Int, ¬ (c = 52 ∧ 2 ≤ p ∧ p ≤ 3) ∧ ¬ (c = 52 ∧ 5 ≤ p ∧ p ≤ 8) ∧ ¬ c = 53 ∧ ¬ c = 54 ∧ ¬ (c = 1 ∧ 2 ≤ p ∧ p ≤ 4) → m10 c p = m0 c p := fun c p h => (fm10 c p (by omega)).trans (Fm0 c p h)
  refine g_if (fun w15 => ?_) (fun w15 => ?_)
  · refine g_get 3 (0) (60) rfl hS.k52 hm10.f_52_3 (fun v16 ev16 bv16 cv16 => ?_)
    refine g_C ?_
    refine g_if (fun w17 => ?_) (fun w17 => ?_)
    · refine g_get 3 (0) (60) rfl hS.k52 hm10.f_52_3 (fun v18 ev18 bv18 cv18 => ?_)
      have qv18 : v18 = v16 := ev18.trans ev16.symm
      refine g_C ?_
      refine g_A (by omega) (by omega) ?_
      refine g_put 3 rfl hS.k52 (hm10.w_52_3 (by omega) (by omega)) (fun m19 em19 hm19 => ?_)
      have Fm19 : ∀ c p : Int, ¬ (c = 52 ∧ 2 ≤ p ∧ p ≤ 3) ∧ ¬ (c = 52 ∧ 5 ≤ p ∧ p ≤ 8) ∧ ¬ c = 53 ∧ ¬ c = 54 ∧ ¬ (c = 1 ∧ 2 ≤ p ∧ p ≤ 4) → m19 c p = m0 c p := fun c p h => (congrFun (congrFun em19 _) _).trans ((up_ne (by omega)).trans (Fm10 c p h))
      refine ⟨hS.k52, ?_⟩
      have zb20 := hm19.f_52_2
      have q21 : m19 52 2 = (m0 52 2) := (Eq.refl (m19 52 2)).trans ((congrFun (congrFun em19 _) _).trans ((up_ne (by omega)).trans ((fm10 _ _ (by omega)).trans (Eq.refl (m0 52 2)).symm)))
      have zb22 := hm19.f_52_5
      have q23 : m19 52 5 = (m0 52 5) := (Eq.refl (m19 52 5)).trans ((congrFun (congrFun em19 _) _).trans ((up_ne (by omega)).trans ((fm10 _ _ (by omega)).trans (Eq.refl (m0 52 5)).symm)))
      have zb24 := hm19.f_1_2
      have q25 : m19 1 2 = (m10 1 2) := (Eq.refl (m19 1 2)).trans ((congrFun (congrFun em19 _) _).trans ((up_ne (by omega)).trans (Eq.refl (m10 1 2)).symm))
      have zb26 := hm19.f_1_1
      have q27 : m19 1 1 = (m0 1 1) := (Eq.refl (m19 1 1)).trans ((congrFun (congrFun em19 _) _).trans ((up_ne (by omega)).trans ((fm10 _ _ (by omega)).trans (Eq.refl (m0 1 1)).symm)))
      refine z_X3_pileUp hS hm19 (by omega) (by omega) (fun m28 hm28 fm28 ym28_0 => ?_)
      have zb29 := hm28.f_52_2
      have zb30 := hm28.f_52_5
      have zb31 := hm28.f_1_2
      have zb32 := hm28.f_1_1
      have Fm28 : ∀ c p : Int, ¬ (c = 52 ∧ 2 ≤ p ∧ p ≤ 3) ∧ ¬ (c = 52 ∧ 5 ≤ p ∧ p ≤ 8) ∧ ¬ c = 53 ∧ ¬ c = 54 ∧ ¬ (c = 1 ∧ 2 ≤ p ∧ p ≤ 4) → m28 c p = m0 c p := fun c p h => (fm28 c p (by omega)).trans (Fm19 c p h)
      refine g_C ?_
      refine g_put 8 rfl hS.k52 (hm28.w_52_8 (by omega) (by omega)) (fun m33 em33 hm33 => ?_)
      have Fm33 : ∀ c p : Int, ¬ (c = 52 ∧ 2 ≤ p ∧ p ≤ 3) ∧ ¬ (c = 52 ∧ 5 ≤ p ∧ p ≤ 8) ∧ ¬ c = 53 ∧ ¬ c = 54 ∧ ¬ (c = 1 ∧ 2 ≤ p ∧ p ≤ 4) → m33 c p = m0 c p := fun c p h => (congrFun (congrFun em33 _) _).trans ((up_ne (by omega)).trans (Fm28 c p h))
      refine g_C ?_
      refine ⟨by omega, ?_⟩
      have zb34 := hm33.f_52_2
      have q35 : m33 52 2 = (m28 52 2) := (Eq.refl (m33 52 2)).trans ((congrFun (congrFun em33 _) _).trans ((up_ne (by omega)).trans (Eq.refl (m28 52 2)).symm))
      have zb36 := hm33.f_52_5
      have q37 : m33 52 5 = (m28 52 5) := (Eq.refl (m33 52 5)).trans ((congrFun (congrFun em33 _) _).trans ((up_ne (by omega)).trans (Eq.refl (m28 52 5)).symm))
      have zb38 := hm33.f_1_2
      have q39 : m33 1 2 = (m10 1 2) := (Eq.refl (m33 1 2)).trans ((congrFun (congrFun em33 _) _).trans ((up_ne (by omega)).trans ((fm28 _ _ (by omega)).trans ((congrFun (congrFun em19 _) _).trans ((up_ne (by omega)).trans (Eq.refl (m10 1 2)).symm)))))
      have zb40 := hm33.f_1_1
      have q41 : m33 1 1 = (m0 1 1) := (Eq.refl (m33 1 1)).trans ((congrFun (congrFun em33 _) _).trans ((up_ne (by omega)).trans ((fm28 _ _ (by omega)).trans ((congrFun (congrFun em19 _) _).trans ((up_ne (by omega)).trans ((fm10 _ _ (by omega)).trans (Eq.refl (m0 1 1)).symm))))))
      exact hk 1 m33 hm33 Fm33 (by omega) (by omega) (by omega) (by omega)
    · refine g_getr 0 1 rfl hS.k52 hm10.f_52_0 (by decide) ?_
      refine g_C ?_
      refine ⟨hS.k1, ?_⟩
      refine zr_X7_refuse hS hm10 (by omega) (by omega) (fun v42 m43 hm43 fm43 bv42 cv42 => ?_)
      have zb44 := hm43.f_52_2
      have zb45 := hm43.f_52_5
      have zb46 := hm43.f_1_2
      have zb47 := hm43.f_1_1
      have Fm43 : ∀ c p : Int, ¬ (c = 52 ∧ 2 ≤ p ∧ p ≤ 3) ∧ ¬ (c = 52 ∧ 5 ≤ p ∧ p ≤ 8) ∧ ¬ c = 53 ∧ ¬ c = 54 ∧ ¬ (c = 1 ∧ 2 ≤ p ∧ p ≤ 4) → m43 c p = m0 c p := fun c p h => (fm43 c p (by omega)).trans (Fm10 c p h)
      refine ⟨by omega, ?_⟩
      have zb48 := hm43.f_52_2
      have q49 : m43 52 2 = (m0 52 2) := (Eq.refl (m43 52 2)).trans ((fm43 _ _ (by omega)).trans ((fm10 _ _ (by omega)).trans (Eq.refl (m0 52 2)).symm))
      have zb50 := hm43.f_52_5
      have q51 : m43 52 5 = (m0 52 5) := (Eq.refl (m43 52 5)).trans ((fm43 _ _ (by omega)).trans ((fm10 _ _ (by omega)).trans (Eq.refl (m0 52 5)).symm))
      have zb52 := hm43.f_1_2
      have q53 : m43 1 2 = (m10 1 2) := (Eq.refl (m43 1 2)).trans ((fm43 _ _ (by omega)).trans (Eq.refl (m10 1 2)).symm)
      have zb54 := hm43.f_1_1
      have q55 : m43 1 1 = (m0 1 1) := (Eq.refl (m43 1 1)).trans ((fm43 _ _ (by omega)).trans ((fm10 _ _ (by omega)).trans (Eq.refl (m0 1 1)).symm))
      exact hk v42 m43 hm43 Fm43 (by omega) (by omega) (by omega) (by omega)
  · refine g_getr 0 1 rfl hS.k52 hm10.f_52_0 (by decide) ?_
    refine g_C ?_
    refine ⟨hS.k1, ?_⟩
    refine zr_X7_refuse hS hm10 (by omega) (by omega) (fun v56 m57 hm57 fm57 bv56 cv56 => ?_)
    have zb58 := hm57.f_52_2
    have zb59 := hm57.f_52_5
    have zb60 := hm57.f_1_2
    have zb61 := hm57.f_1_1
    have Fm57 : ∀ c p : Int, ¬ (c = 52 ∧ 2 ≤ p ∧ p ≤ 3) ∧ ¬ (c = 52 ∧ 5 ≤ p ∧ p ≤ 8) ∧ ¬ c = 53 ∧ ¬ c = 54 ∧ ¬ (c = 1 ∧ 2 ≤ p ∧ p ≤ 4) → m57 c p = m0 c p := fun c p h => (fm57 c p (by omega)).trans (Fm10 c p h)
    refine ⟨by omega, ?_⟩
    have zb62 := hm57.f_52_2
    have q63 : m57 52 2 = (m0 52 2) := (Eq.refl (m57 52 2)).trans ((fm57 _ _ (by omega)).trans ((fm10 _ _ (by omega)).trans (Eq.refl (m0 52 2)).symm))
    have zb64 := hm57.f_52_5
    have q65 : m57 52 5 = (m0 52 5) := (Eq.refl (m57 52 5)).trans ((fm57 _ _ (by omega)).trans ((fm10 _ _ (by omega)).trans (Eq.refl (m0 52 5)).symm))
    have zb66 := hm57.f_1_2
    have q67 : m57 1 2 = (m10 1 2) := (Eq.refl (m57 1 2)).trans ((fm57 _ _ (by omega)).trans (Eq.refl (m10 1 2)).symm)
    have zb68 := hm57.f_1_1
    have q69 : m57 1 1 = (m0 1 1) := (Eq.refl (m57 1 1)).trans ((fm57 _ _ (by omega)).trans ((fm10 _ _ (by omega)).trans (Eq.refl (m0 1 1)).symm))
    exact hk v56 m57 hm57 Fm57 (by omega) (by omega) (by omega) (by omega)
theorem z_X3_readIf {X : Mm} {S : Sh} {m0 : Mm} {K : Int → Mm → Prop} (hS : Shp S) (hm0 : Inv X S m0)  (hk : ∀ (r : Int) (M1 : Mm), Inv X S M1 → (∀ c p : Int, ¬ (c = 52 ∧ 2 ≤ p ∧ p ≤ 3) ∧ ¬ (c = 52 ∧ 5 ≤ p ∧ p ≤ 8) ∧ ¬ c = 53 ∧ ¬ c = 54 ∧ ¬ (c = 1 ∧ 2 ≤ p ∧ p ≤ 4) → M1 c p = m0 c p) → 0 ≤ r → r ≤ 1 → (M1 52 2 + M1 52 5 - M1 1 2 ≤ m0 52 2 + m0 52 5 - m0 1 2) → (m0 1 2 ≤ M1 1 2) → K r M1) : wp_X3_readIf S m0 52 K := by
  have Fm0 : ∀ c p : Int, ¬ (c = 52 ∧ 2 ≤ p ∧ p ≤ 3) ∧ ¬ (c = 52 ∧ 5 ≤ p ∧ p ≤ 8) ∧ ¬ c = 53 ∧ ¬ c = 54 ∧ ¬ (c = 1 ∧ 2 ≤ p ∧ p ≤ 4) → m0 c p = m0 c p := fun c p _ => rfl
  refine u_X3_readIf ?_
  refine g_getr 0 1 rfl hS.k52 hm0.f_52_0 (by decide) ?_
  refine g_C ?_
  refine ⟨hS.k1, ?_⟩
  have zb1 := hm0.f_52_2
  have zb3 := hm0.f_52_5
  have zb5 := hm0.f_1_2
  have zb7 := hm0.f_1_1
  refine zr_X7_takesWord hS hm0 (by omega) (by omega) (fun v9 m10 hm10 fm10 bv9 cv9 yv9_0 yv9_1 => ?_)
  have zb11 := hm10.f_52_2
  have zb12 := hm10.f_52_5
  have zb13 := hm10.f_1_2
  have zb14 := hm10.f_1_1
  have Fm10 : ∀ c p : Int, ¬ (c = 52 ∧ 2 ≤ p ∧ p ≤ 3) ∧ ¬ (c = 52 ∧ 5 ≤ p ∧ p ≤ 8) ∧ ¬ c = 53 ∧ ¬ c = 54 ∧ ¬ (c = 1 ∧ 2 ≤ p ∧ p ≤ 4) → m10 c p = m0 c p := fun c p h => (fm10 c p (by omega)).trans (Fm0 c p h)
  refine g_if (fun w15 => ?_) (fun w15 => ?_)
  · refine g_C ?_
    refine ⟨hS.k52, ?_⟩
    have zb16 := hm10.f_52_2
    have q17 : m10 52 2 = (m0 52 2) := (Eq.refl (m10 52 2)).trans ((fm10 _ _ (by omega)).trans (Eq.refl (m0 52 2)).symm)
    have zb18 := hm10.f_52_5
    have q19 : m10 52 5 = (m0 52 5) := (Eq.refl (m10 52 5)).trans ((fm10 _ _ (by omega)).trans (Eq.refl (m0 52 5)).symm)
    have zb20 := hm10.f_1_2
    have zb22 := hm10.f_1_1
    have q23 : m10 1 1 = (m0 1 1) := (Eq.refl (m10 1 1)).trans ((fm10 _ _ (by omega)).trans (Eq.refl (m0 1 1)).symm)
    refine z_X3_unpile hS hm10 (by omega) (by omega) (fun m24 hm24 fm24 ym24_0 => ?_)
    have zb25 := hm24.f_52_2
    have zb26 := hm24.f_52_5
    have zb27 := hm24.f_1_2
    have zb28 := hm24.f_1_1
    have Fm24 : ∀ c p : Int, ¬ (c = 52 ∧ 2 ≤ p ∧ p ≤ 3) ∧ ¬ (c = 52 ∧ 5 ≤ p ∧ p ≤ 8) ∧ ¬ c = 53 ∧ ¬ c = 54 ∧ ¬ (c = 1 ∧ 2 ≤ p ∧ p ≤ 4) → m24 c p = m0 c p := fun c p h => (fm24 c p (by omega)).trans (Fm10 c p h)
    refine ⟨hS.k52, ?_⟩
    have zb29 := hm24.f_52_2
    have zb31 := hm24.f_52_5
    have zb33 := hm24.f_1_2
    have q34 : m24 1 2 = (m10 1 2) := (Eq.refl (m24 1 2)).trans ((fm24 _ _ (by omega)).trans (Eq.refl (m10 1 2)).symm)
    have zb35 := hm24.f_1_1
    have q36 : m24 1 1 = (m0 1 1) := (Eq.refl (m24 1 1)).trans ((fm24 _ _ (by omega)).trans ((fm10 _ _ (by omega)).trans (Eq.refl (m0 1 1)).symm))
    refine z_X3_beginFact hS hm24 (fun v37 m38 hm38 fm38 bv37 cv37 yv37_0 yv37_1 => ?_)
    have zb39 := hm38.f_52_2
    have zb40 := hm38.f_52_5
    have zb41 := hm38.f_1_2
    have zb42 := hm38.f_1_1
    have Fm38 : ∀ c p : Int, ¬ (c = 52 ∧ 2 ≤ p ∧ p ≤ 3) ∧ ¬ (c = 52 ∧ 5 ≤ p ∧ p ≤ 8) ∧ ¬ c = 53 ∧ ¬ c = 54 ∧ ¬ (c = 1 ∧ 2 ≤ p ∧ p ≤ 4) → m38 c p = m0 c p := fun c p h => (fm38 c p (by omega)).trans (Fm24 c p h)
    refine ⟨by omega, ?_⟩
    have zb43 := hm38.f_52_2
    have zb45 := hm38.f_52_5
    have zb47 := hm38.f_1_2
    have zb49 := hm38.f_1_1
    have q50 : m38 1 1 = (m0 1 1) := (Eq.refl (m38 1 1)).trans ((fm38 _ _ (by omega)).trans ((fm24 _ _ (by omega)).trans ((fm10 _ _ (by omega)).trans (Eq.refl (m0 1 1)).symm)))
    exact hk v37 m38 hm38 Fm38 (by omega) (by omega) (by omega) (by omega)
  · refine g_getr 0 1 rfl hS.k52 hm10.f_52_0 (by decide) ?_
    refine g_C ?_
    refine ⟨hS.k1, ?_⟩
    refine zr_X7_refuse hS hm10 (by omega) (by omega) (fun v51 m52 hm52 fm52 bv51 cv51 => ?_)
    have zb53 := hm52.f_52_2
    have zb54 := hm52.f_52_5
    have zb55 := hm52.f_1_2
    have zb56 := hm52.f_1_1
    have Fm52 : ∀ c p : Int, ¬ (c = 52 ∧ 2 ≤ p ∧ p ≤ 3) ∧ ¬ (c = 52 ∧ 5 ≤ p ∧ p ≤ 8) ∧ ¬ c = 53 ∧ ¬ c = 54 ∧ ¬ (c = 1 ∧ 2 ≤ p ∧ p ≤ 4) → m52 c p = m0 c p := fun c p h => (fm52 c p (by omega)).trans (Fm10 c p h)
    refine ⟨by omega, ?_⟩
    have zb57 := hm52.f_52_2
    have q58 : m52 52 2 = (m0 52 2) := (Eq.refl (m52 52 2)).trans ((fm52 _ _ (by omega)).trans ((fm10 _ _ (by omega)).trans (Eq.refl (m0 52 2)).symm))
    have zb59 := hm52.f_52_5
    have q60 : m52 52 5 = (m0 52 5) := (Eq.refl (m52 52 5)).trans ((fm52 _ _ (by omega)).trans ((fm10 _ _ (by omega)).trans (Eq.refl (m0 52 5)).symm))
    have zb61 := hm52.f_1_2
    have q62 : m52 1 2 = (m10 1 2) := (Eq.refl (m52 1 2)).trans ((fm52 _ _ (by omega)).trans (Eq.refl (m10 1 2)).symm)
    have zb63 := hm52.f_1_1
    have q64 : m52 1 1 = (m0 1 1) := (Eq.refl (m52 1 1)).trans ((fm52 _ _ (by omega)).trans ((fm10 _ _ (by omega)).trans (Eq.refl (m0 1 1)).symm))
    exact hk v51 m52 hm52 Fm52 (by omega) (by omega) (by omega) (by omega)
theorem z_X3_takeArithmetic {X : Mm} {S : Sh} {m0 : Mm} {K : Int → Mm → Prop} (hS : Shp S) (hm0 : Inv X S m0)  (hk : ∀ (r : Int) (M1 : Mm), Inv X S M1 → (∀ c p : Int, ¬ (c = 1 ∧ 2 ≤ p ∧ p ≤ 3) → M1 c p = m0 c p) → (-16) ≤ r → r ≤ 0 → (m0 1 2 ≤ M1 1 2) → (r = 0 ∨ m0 1 2 + 1 ≤ M1 1 2) → K r M1) : wp_X3_takeArithmetic S m0 52 K := by
  have Fm0 : ∀ c p : Int, ¬ (c = 1 ∧ 2 ≤ p ∧ p ≤ 3) → m0 c p = m0 c p := fun c p _ => rfl
  refine u_X3_takeArithmetic ?_
  refine g_getr 0 1 rfl hS.k52 hm0.f_52_0 (by decide) ?_
  refine g_C ?_
  refine ⟨hS.k1, ?_⟩
  have zb1 := hm0.f_1_2
  have zb3 := hm0.f_1_1
  refine zr_X7_takesSign hS hm0 (by omega) (by omega) (fun v5 m6 hm6 fm6 bv5 cv5 yv5_0 yv5_1 => ?_)
  have zb7 := hm6.f_1_2
  have zb8 := hm6.f_1_1
  have Fm6 : ∀ c p : Int, ¬ (c = 1 ∧ 2 ≤ p ∧ p ≤ 3) → m6 c p = m0 c p := fun c p h => (fm6 c p (by omega)).trans (Fm0 c p h)
  refine g_if (fun w9 => ?_) (fun w9 => ?_)
  · refine g_getr 0 1 rfl hS.k52 hm6.f_52_0 (by decide) ?_
    refine g_C ?_
    refine ⟨hS.k1, ?_⟩
    have zb10 := hm6.f_1_2
    have zb12 := hm6.f_1_1
    have q13 : m6 1 1 = (m0 1 1) := (Eq.refl (m6 1 1)).trans ((fm6 _ _ (by omega)).trans (Eq.refl (m0 1 1)).symm)
    refine zr_X7_takesSign hS hm6 (by omega) (by omega) (fun v14 m15 hm15 fm15 bv14 cv14 yv14_0 yv14_1 => ?_)
    have zb16 := hm15.f_1_2
    have zb17 := hm15.f_1_1
    have Fm15 : ∀ c p : Int, ¬ (c = 1 ∧ 2 ≤ p ∧ p ≤ 3) → m15 c p = m0 c p := fun c p h => (fm15 c p (by omega)).trans (Fm6 c p h)
    refine g_if (fun w18 => ?_) (fun w18 => ?_)
    · refine g_getr 0 1 rfl hS.k52 hm15.f_52_0 (by decide) ?_
      refine g_C ?_
      refine ⟨hS.k1, ?_⟩
      have zb19 := hm15.f_1_2
      have zb21 := hm15.f_1_1
      have q22 : m15 1 1 = (m0 1 1) := (Eq.refl (m15 1 1)).trans ((fm15 _ _ (by omega)).trans ((fm6 _ _ (by omega)).trans (Eq.refl (m0 1 1)).symm))
      refine zr_X7_takesSign hS hm15 (by omega) (by omega) (fun v23 m24 hm24 fm24 bv23 cv23 yv23_0 yv23_1 => ?_)
      have zb25 := hm24.f_1_2
      have zb26 := hm24.f_1_1
      have Fm24 : ∀ c p : Int, ¬ (c = 1 ∧ 2 ≤ p ∧ p ≤ 3) → m24 c p = m0 c p := fun c p h => (fm24 c p (by omega)).trans (Fm15 c p h)
      refine g_if (fun w27 => ?_) (fun w27 => ?_)
      · refine g_getr 0 1 rfl hS.k52 hm24.f_52_0 (by decide) ?_
        refine g_C ?_
        refine ⟨hS.k1, ?_⟩
        have zb28 := hm24.f_1_2
        have zb30 := hm24.f_1_1
        have q31 : m24 1 1 = (m0 1 1) := (Eq.refl (m24 1 1)).trans ((fm24 _ _ (by omega)).trans ((fm15 _ _ (by omega)).trans ((fm6 _ _ (by omega)).trans (Eq.refl (m0 1 1)).symm)))
        refine zr_X7_takesSign hS hm24 (by omega) (by omega) (fun v32 m33 hm33 fm33 bv32 cv32 yv32_0 yv32_1 => ?_)
        have zb34 := hm33.f_1_2
        have zb35 := hm33.f_1_1
        have Fm33 : ∀ c p : Int, ¬ (c = 1 ∧ 2 ≤ p ∧ p ≤ 3) → m33 c p = m0 c p := fun c p h => (fm33 c p (by omega)).trans (Fm24 c p h)
        refine g_if (fun w36 => ?_) (fun w36 => ?_)
        · refine g_getr 0 1 rfl hS.k52 hm33.f_52_0 (by decide) ?_
          refine g_C ?_
          refine ⟨hS.k1, ?_⟩
          have zb37 := hm33.f_1_2
          have zb39 := hm33.f_1_1
          have q40 : m33 1 1 = (m0 1 1) := (Eq.refl (m33 1 1)).trans ((fm33 _ _ (by omega)).trans ((fm24 _ _ (by omega)).trans ((fm15 _ _ (by omega)).trans ((fm6 _ _ (by omega)).trans (Eq.refl (m0 1 1)).symm))))
          refine zr_X7_takesSign hS hm33 (by omega) (by omega) (fun v41 m42 hm42 fm42 bv41 cv41 yv41_0 yv41_1 => ?_)
          have zb43 := hm42.f_1_2
          have zb44 := hm42.f_1_1
          have Fm42 : ∀ c p : Int, ¬ (c = 1 ∧ 2 ≤ p ∧ p ≤ 3) → m42 c p = m0 c p := fun c p h => (fm42 c p (by omega)).trans (Fm33 c p h)
          refine g_if (fun w45 => ?_) (fun w45 => ?_)
          · refine g_C ?_
            have zb46 := hm42.f_1_2
            have zb48 := hm42.f_1_1
            have q49 : m42 1 1 = (m0 1 1) := (Eq.refl (m42 1 1)).trans ((fm42 _ _ (by omega)).trans ((fm33 _ _ (by omega)).trans ((fm24 _ _ (by omega)).trans ((fm15 _ _ (by omega)).trans ((fm6 _ _ (by omega)).trans (Eq.refl (m0 1 1)).symm)))))
            exact hk 0 m42 hm42 Fm42 (by omega) (by omega) (by omega) (by omega)
          · refine g_C ?_
            have zb50 := hm42.f_1_2
            have zb52 := hm42.f_1_1
            have q53 : m42 1 1 = (m0 1 1) := (Eq.refl (m42 1 1)).trans ((fm42 _ _ (by omega)).trans ((fm33 _ _ (by omega)).trans ((fm24 _ _ (by omega)).trans ((fm15 _ _ (by omega)).trans ((fm6 _ _ (by omega)).trans (Eq.refl (m0 1 1)).symm)))))
            exact hk (-16) m42 hm42 Fm42 (by omega) (by omega) (by omega) (by omega)
        · refine g_C ?_
          have zb54 := hm33.f_1_2
          have zb56 := hm33.f_1_1
          have q57 : m33 1 1 = (m0 1 1) := (Eq.refl (m33 1 1)).trans ((fm33 _ _ (by omega)).trans ((fm24 _ _ (by omega)).trans ((fm15 _ _ (by omega)).trans ((fm6 _ _ (by omega)).trans (Eq.refl (m0 1 1)).symm))))
          exact hk (-15) m33 hm33 Fm33 (by omega) (by omega) (by omega) (by omega)
      · refine g_C ?_
        have zb58 := hm24.f_1_2
        have zb60 := hm24.f_1_1
        have q61 : m24 1 1 = (m0 1 1) := (Eq.refl (m24 1 1)).trans ((fm24 _ _ (by omega)).trans ((fm15 _ _ (by omega)).trans ((fm6 _ _ (by omega)).trans (Eq.refl (m0 1 1)).symm)))
        exact hk (-14) m24 hm24 Fm24 (by omega) (by omega) (by omega) (by omega)
    · refine g_C ?_
      have zb62 := hm15.f_1_2
      have zb64 := hm15.f_1_1
      have q65 : m15 1 1 = (m0 1 1) := (Eq.refl (m15 1 1)).trans ((fm15 _ _ (by omega)).trans ((fm6 _ _ (by omega)).trans (Eq.refl (m0 1 1)).symm))
      exact hk (-13) m15 hm15 Fm15 (by omega) (by omega) (by omega) (by omega)
  · refine g_C ?_
    have zb66 := hm6.f_1_2
    have zb68 := hm6.f_1_1
    have q69 : m6 1 1 = (m0 1 1) := (Eq.refl (m6 1 1)).trans ((fm6 _ _ (by omega)).trans (Eq.refl (m0 1 1)).symm)
    exact hk (-12) m6 hm6 Fm6 (by omega) (by omega) (by omega) (by omega)
theorem z_X3_readJoint {X : Mm} {S : Sh} {m0 : Mm} {K : Int → Mm → Prop} (hS : Shp S) (hm0 : Inv X S m0)  (hk : ∀ (r : Int) (M1 : Mm), Inv X S M1 → (∀ c p : Int, ¬ (c = 52 ∧ 2 ≤ p ∧ p ≤ 3) ∧ ¬ (c = 52 ∧ 5 ≤ p ∧ p ≤ 8) ∧ ¬ c = 53 ∧ ¬ c = 54 ∧ ¬ (c = 1 ∧ 2 ≤ p ∧ p ≤ 4) → M1 c p = m0 c p) → 0 ≤ r → r ≤ 1 → (M1 52 2 + M1 52 5 - M1 1 2 ≤ m0 52 2 + m0 52 5 - m0 1 2) → (m0 1 2 ≤ M1 1 2) → K r M1) : wp_X3_readJoint S m0 52 K := by
  have Fm0 : ∀ c p : Int, ¬ (c = 52 ∧ 2 ≤ p ∧ p ≤ 3) ∧ ¬ (c = 52 ∧ 5 ≤ p ∧ p ≤ 8) ∧ ¬ c = 53 ∧ ¬ c = 54 ∧ ¬ (c = 1 ∧ 2 ≤ p ∧ p ≤ 4) → m0 c p = m0 c p := fun c p _ => rfl
  refine u_X3_readJoint ?_
  refine g_get 8 (0) (3) rfl hS.k52 hm0.f_52_8 (fun v1 ev1 bv1 cv1 => ?_)
  refine g_C ?_
  refine g_if (fun w2 => ?_) (fun w2 => ?_)
  · refine ⟨hS.k52, ?_⟩
    have zb3 := hm0.f_52_2
    have zb5 := hm0.f_52_5
    have zb7 := hm0.f_1_2
    have zb9 := hm0.f_1_1
    refine z_X3_takeArithmetic hS hm0 (fun v11 m12 hm12 fm12 bv11 cv11 yv11_0 yv11_1 => ?_)
    have zb13 := hm12.f_52_2
    have zb14 := hm12.f_52_5
    have zb15 := hm12.f_1_2
    have zb16 := hm12.f_1_1
    have Fm12 : ∀ c p : Int, ¬ (c = 52 ∧ 2 ≤ p ∧ p ≤ 3) ∧ ¬ (c = 52 ∧ 5 ≤ p ∧ p ≤ 8) ∧ ¬ c = 53 ∧ ¬ c = 54 ∧ ¬ (c = 1 ∧ 2 ≤ p ∧ p ≤ 4) → m12 c p = m0 c p := fun c p h => (fm12 c p (by omega)).trans (Fm0 c p h)
    refine u_X3_readJoint_16 ?_
    refine g_if (fun w17 => ?_) (fun w17 => ?_)
    · refine g_get 8 (0) (3) rfl hS.k52 hm12.f_52_8 (fun v18 ev18 bv18 cv18 => ?_)
      have qv18 : v18 = v1 := ev18.trans ((fm12 _ _ (by omega)).trans ev1.symm)
      refine g_if (fun w19 => ?_) (fun w19 => ?_)
      · refine g_get 8 (0) (3) rfl hS.k52 hm12.f_52_8 (fun v20 ev20 bv20 cv20 => ?_)
        have qv20 : v20 = v1 := ev20.trans ((fm12 _ _ (by omega)).trans ev1.symm)
        refine g_C ?_
        refine g_if (fun w21 => ?_) (fun w21 => ?_)
        · refine g_getr 0 1 rfl hS.k52 hm12.f_52_0 (by decide) ?_
          refine g_C ?_
          refine ⟨hS.k1, ?_⟩
          have zb22 := hm12.f_52_2
          have q23 : m12 52 2 = (m0 52 2) := (Eq.refl (m12 52 2)).trans ((fm12 _ _ (by omega)).trans (Eq.refl (m0 52 2)).symm)
          have zb24 := hm12.f_52_5
          have q25 : m12 52 5 = (m0 52 5) := (Eq.refl (m12 52 5)).trans ((fm12 _ _ (by omega)).trans (Eq.refl (m0 52 5)).symm)
          have zb26 := hm12.f_1_2
          have zb28 := hm12.f_1_1
          have q29 : m12 1 1 = (m0 1 1) := (Eq.refl (m12 1 1)).trans ((fm12 _ _ (by omega)).trans (Eq.refl (m0 1 1)).symm)
          refine zr_X7_takesWord hS hm12 (by omega) (by omega) (fun v30 m31 hm31 fm31 bv30 cv30 yv30_0 yv30_1 => ?_)
          have zb32 := hm31.f_52_2
          have zb33 := hm31.f_52_5
          have zb34 := hm31.f_1_2
          have zb35 := hm31.f_1_1
          have Fm31 : ∀ c p : Int, ¬ (c = 52 ∧ 2 ≤ p ∧ p ≤ 3) ∧ ¬ (c = 52 ∧ 5 ≤ p ∧ p ≤ 8) ∧ ¬ c = 53 ∧ ¬ c = 54 ∧ ¬ (c = 1 ∧ 2 ≤ p ∧ p ≤ 4) → m31 c p = m0 c p := fun c p h => (fm31 c p (by omega)).trans (Fm12 c p h)
          refine g_if (fun w36 => ?_) (fun w36 => ?_)
          · refine g_getr 0 1 rfl hS.k52 hm31.f_52_0 (by decide) ?_
            refine g_C ?_
            refine ⟨hS.k1, ?_⟩
            have zb37 := hm31.f_52_2
            have q38 : m31 52 2 = (m0 52 2) := (Eq.refl (m31 52 2)).trans ((fm31 _ _ (by omega)).trans ((fm12 _ _ (by omega)).trans (Eq.refl (m0 52 2)).symm))
            have zb39 := hm31.f_52_5
            have q40 : m31 52 5 = (m0 52 5) := (Eq.refl (m31 52 5)).trans ((fm31 _ _ (by omega)).trans ((fm12 _ _ (by omega)).trans (Eq.refl (m0 52 5)).symm))
            have zb41 := hm31.f_1_2
            have zb43 := hm31.f_1_1
            have q44 : m31 1 1 = (m0 1 1) := (Eq.refl (m31 1 1)).trans ((fm31 _ _ (by omega)).trans ((fm12 _ _ (by omega)).trans (Eq.refl (m0 1 1)).symm))
            refine zr_X7_takesWord hS hm31 (by omega) (by omega) (fun v45 m46 hm46 fm46 bv45 cv45 yv45_0 yv45_1 => ?_)
            have zb47 := hm46.f_52_2
            have zb48 := hm46.f_52_5
            have zb49 := hm46.f_1_2
            have zb50 := hm46.f_1_1
            have Fm46 : ∀ c p : Int, ¬ (c = 52 ∧ 2 ≤ p ∧ p ≤ 3) ∧ ¬ (c = 52 ∧ 5 ≤ p ∧ p ≤ 8) ∧ ¬ c = 53 ∧ ¬ c = 54 ∧ ¬ (c = 1 ∧ 2 ≤ p ∧ p ≤ 4) → m46 c p = m0 c p := fun c p h => (fm46 c p (by omega)).trans (Fm31 c p h)
            refine g_if (fun w51 => ?_) (fun w51 => ?_)
            · refine g_C ?_
              refine u_X3_readJoint_88 ?_
              refine g_ifF (by omega) ?_
              refine g_getr 0 1 rfl hS.k52 hm46.f_52_0 (by decide) ?_
              refine g_C ?_
              refine ⟨hS.k1, ?_⟩
              refine zr_X7_refuse hS hm46 (by omega) (by omega) (fun v52 m53 hm53 fm53 bv52 cv52 => ?_)
              have zb54 := hm53.f_52_2
              have zb55 := hm53.f_52_5
              have zb56 := hm53.f_1_2
              have zb57 := hm53.f_1_1
              have Fm53 : ∀ c p : Int, ¬ (c = 52 ∧ 2 ≤ p ∧ p ≤ 3) ∧ ¬ (c = 52 ∧ 5 ≤ p ∧ p ≤ 8) ∧ ¬ c = 53 ∧ ¬ c = 54 ∧ ¬ (c = 1 ∧ 2 ≤ p ∧ p ≤ 4) → m53 c p = m0 c p := fun c p h => (fm53 c p (by omega)).trans (Fm46 c p h)
              refine ⟨by omega, ?_⟩
              have zb58 := hm53.f_52_2
              have q59 : m53 52 2 = (m0 52 2) := (Eq.refl (m53 52 2)).trans ((fm53 _ _ (by omega)).trans ((fm46 _ _ (by omega)).trans ((fm31 _ _ (by omega)).trans ((fm12 _ _ (by omega)).trans (Eq.refl (m0 52 2)).symm))))
              have zb60 := hm53.f_52_5
              have q61 : m53 52 5 = (m0 52 5) := (Eq.refl (m53 52 5)).trans ((fm53 _ _ (by omega)).trans ((fm46 _ _ (by omega)).trans ((fm31 _ _ (by omega)).trans ((fm12 _ _ (by omega)).trans (Eq.refl (m0 52 5)).symm))))
              have zb62 := hm53.f_1_2
              have q63 : m53 1 2 = (m46 1 2) := (Eq.refl (m53 1 2)).trans ((fm53 _ _ (by omega)).trans (Eq.refl (m46 1 2)).symm)
              have zb64 := hm53.f_1_1
              have q65 : m53 1 1 = (m0 1 1) := (Eq.refl (m53 1 1)).trans ((fm53 _ _ (by omega)).trans ((fm46 _ _ (by omega)).trans ((fm31 _ _ (by omega)).trans ((fm12 _ _ (by omega)).trans (Eq.refl (m0 1 1)).symm))))
              exact hk v52 m53 hm53 Fm53 (by omega) (by omega) (by omega) (by omega)
            · refine g_C ?_
              refine u_X3_readJoint_88 ?_
              refine g_ifT (by omega) ?_
              refine ⟨hS.k52, ?_⟩
              have zb66 := hm46.f_52_2
              have q67 : m46 52 2 = (m0 52 2) := (Eq.refl (m46 52 2)).trans ((fm46 _ _ (by omega)).trans ((fm31 _ _ (by omega)).trans ((fm12 _ _ (by omega)).trans (Eq.refl (m0 52 2)).symm)))
              have zb68 := hm46.f_52_5
              have q69 : m46 52 5 = (m0 52 5) := (Eq.refl (m46 52 5)).trans ((fm46 _ _ (by omega)).trans ((fm31 _ _ (by omega)).trans ((fm12 _ _ (by omega)).trans (Eq.refl (m0 52 5)).symm)))
              have zb70 := hm46.f_1_2
              have zb72 := hm46.f_1_1
              have q73 : m46 1 1 = (m0 1 1) := (Eq.refl (m46 1 1)).trans ((fm46 _ _ (by omega)).trans ((fm31 _ _ (by omega)).trans ((fm12 _ _ (by omega)).trans (Eq.refl (m0 1 1)).symm)))
              refine z_X3_pileUp hS hm46 (by omega) (by omega) (fun m74 hm74 fm74 ym74_0 => ?_)
              have zb75 := hm74.f_52_2
              have zb76 := hm74.f_52_5
              have zb77 := hm74.f_1_2
              have zb78 := hm74.f_1_1
              have Fm74 : ∀ c p : Int, ¬ (c = 52 ∧ 2 ≤ p ∧ p ≤ 3) ∧ ¬ (c = 52 ∧ 5 ≤ p ∧ p ≤ 8) ∧ ¬ c = 53 ∧ ¬ c = 54 ∧ ¬ (c = 1 ∧ 2 ≤ p ∧ p ≤ 4) → m74 c p = m0 c p := fun c p h => (fm74 c p (by omega)).trans (Fm46 c p h)
              refine ⟨hS.k52, ?_⟩
              have zb79 := hm74.f_52_2
              have zb81 := hm74.f_52_5
              have zb83 := hm74.f_1_2
              have q84 : m74 1 2 = (m46 1 2) := (Eq.refl (m74 1 2)).trans ((fm74 _ _ (by omega)).trans (Eq.refl (m46 1 2)).symm)
              have zb85 := hm74.f_1_1
              have q86 : m74 1 1 = (m0 1 1) := (Eq.refl (m74 1 1)).trans ((fm74 _ _ (by omega)).trans ((fm46 _ _ (by omega)).trans ((fm31 _ _ (by omega)).trans ((fm12 _ _ (by omega)).trans (Eq.refl (m0 1 1)).symm))))
              refine z_X3_beginFact hS hm74 (fun v87 m88 hm88 fm88 bv87 cv87 yv87_0 yv87_1 => ?_)
              have zb89 := hm88.f_52_2
              have zb90 := hm88.f_52_5
              have zb91 := hm88.f_1_2
              have zb92 := hm88.f_1_1
              have Fm88 : ∀ c p : Int, ¬ (c = 52 ∧ 2 ≤ p ∧ p ≤ 3) ∧ ¬ (c = 52 ∧ 5 ≤ p ∧ p ≤ 8) ∧ ¬ c = 53 ∧ ¬ c = 54 ∧ ¬ (c = 1 ∧ 2 ≤ p ∧ p ≤ 4) → m88 c p = m0 c p := fun c p h => (fm88 c p (by omega)).trans (Fm74 c p h)
              refine ⟨by omega, ?_⟩
              have zb93 := hm88.f_52_2
              have zb95 := hm88.f_52_5
              have zb97 := hm88.f_1_2
              have zb99 := hm88.f_1_1
              have q100 : m88 1 1 = (m0 1 1) := (Eq.refl (m88 1 1)).trans ((fm88 _ _ (by omega)).trans ((fm74 _ _ (by omega)).trans ((fm46 _ _ (by omega)).trans ((fm31 _ _ (by omega)).trans ((fm12 _ _ (by omega)).trans (Eq.refl (m0 1 1)).symm)))))
              exact hk v87 m88 hm88 Fm88 (by omega) (by omega) (by omega) (by omega)
          · refine g_C ?_
            refine u_X3_readJoint_88 ?_
            refine g_ifT (by omega) ?_
            refine ⟨hS.k52, ?_⟩
            have zb101 := hm31.f_52_2
            have q102 : m31 52 2 = (m0 52 2) := (Eq.refl (m31 52 2)).trans ((fm31 _ _ (by omega)).trans ((fm12 _ _ (by omega)).trans (Eq.refl (m0 52 2)).symm))
            have zb103 := hm31.f_52_5
            have q104 : m31 52 5 = (m0 52 5) := (Eq.refl (m31 52 5)).trans ((fm31 _ _ (by omega)).trans ((fm12 _ _ (by omega)).trans (Eq.refl (m0 52 5)).symm))
            have zb105 := hm31.f_1_2
            have zb107 := hm31.f_1_1
            have q108 : m31 1 1 = (m0 1 1) := (Eq.refl (m31 1 1)).trans ((fm31 _ _ (by omega)).trans ((fm12 _ _ (by omega)).trans (Eq.refl (m0 1 1)).symm))
            refine z_X3_pileUp hS hm31 (by omega) (by omega) (fun m109 hm109 fm109 ym109_0 => ?_)
            have zb110 := hm109.f_52_2
            have zb111 := hm109.f_52_5
            have zb112 := hm109.f_1_2
            have zb113 := hm109.f_1_1
            have Fm109 : ∀ c p : Int, ¬ (c = 52 ∧ 2 ≤ p ∧ p ≤ 3) ∧ ¬ (c = 52 ∧ 5 ≤ p ∧ p ≤ 8) ∧ ¬ c = 53 ∧ ¬ c = 54 ∧ ¬ (c = 1 ∧ 2 ≤ p ∧ p ≤ 4) → m109 c p = m0 c p := fun c p h => (fm109 c p (by omega)).trans (Fm31 c p h)
            refine ⟨hS.k52, ?_⟩
            have zb114 := hm109.f_52_2
            have zb116 := hm109.f_52_5
            have zb118 := hm109.f_1_2
            have q119 : m109 1 2 = (m31 1 2) := (Eq.refl (m109 1 2)).trans ((fm109 _ _ (by omega)).trans (Eq.refl (m31 1 2)).symm)
            have zb120 := hm109.f_1_1
            have q121 : m109 1 1 = (m0 1 1) := (Eq.refl (m109 1 1)).trans ((fm109 _ _ (by omega)).trans ((fm31 _ _ (by omega)).trans ((fm12 _ _ (by omega)).trans (Eq.refl (m0 1 1)).symm)))
            refine z_X3_beginFact hS hm109 (fun v122 m123 hm123 fm123 bv122 cv122 yv122_0 yv122_1 => ?_)
            have zb124 := hm123.f_52_2
            have zb125 := hm123.f_52_5
            have zb126 := hm123.f_1_2
            have zb127 := hm123.f_1_1
            have Fm123 : ∀ c p : Int, ¬ (c = 52 ∧ 2 ≤ p ∧ p ≤ 3) ∧ ¬ (c = 52 ∧ 5 ≤ p ∧ p ≤ 8) ∧ ¬ c = 53 ∧ ¬ c = 54 ∧ ¬ (c = 1 ∧ 2 ≤ p ∧ p ≤ 4) → m123 c p = m0 c p := fun c p h => (fm123 c p (by omega)).trans (Fm109 c p h)
            refine ⟨by omega, ?_⟩
            have zb128 := hm123.f_52_2
            have zb130 := hm123.f_52_5
            have zb132 := hm123.f_1_2
            have zb134 := hm123.f_1_1
            have q135 : m123 1 1 = (m0 1 1) := (Eq.refl (m123 1 1)).trans ((fm123 _ _ (by omega)).trans ((fm109 _ _ (by omega)).trans ((fm31 _ _ (by omega)).trans ((fm12 _ _ (by omega)).trans (Eq.refl (m0 1 1)).symm))))
            exact hk v122 m123 hm123 Fm123 (by omega) (by omega) (by omega) (by omega)
        · refine ⟨hS.k52, ?_⟩
          have zb136 := hm12.f_52_2
          have q137 : m12 52 2 = (m0 52 2) := (Eq.refl (m12 52 2)).trans ((fm12 _ _ (by omega)).trans (Eq.refl (m0 52 2)).symm)
          have zb138 := hm12.f_52_5
          have q139 : m12 52 5 = (m0 52 5) := (Eq.refl (m12 52 5)).trans ((fm12 _ _ (by omega)).trans (Eq.refl (m0 52 5)).symm)
          have zb140 := hm12.f_1_2
          have zb142 := hm12.f_1_1
          have q143 : m12 1 1 = (m0 1 1) := (Eq.refl (m12 1 1)).trans ((fm12 _ _ (by omega)).trans (Eq.refl (m0 1 1)).symm)
          refine z_X3_readComparison hS hm12 (fun v144 m145 hm145 fm145 bv144 cv144 yv144_0 yv144_1 => ?_)
          have zb146 := hm145.f_52_2
          have zb147 := hm145.f_52_5
          have zb148 := hm145.f_1_2
          have zb149 := hm145.f_1_1
          have Fm145 : ∀ c p : Int, ¬ (c = 52 ∧ 2 ≤ p ∧ p ≤ 3) ∧ ¬ (c = 52 ∧ 5 ≤ p ∧ p ≤ 8) ∧ ¬ c = 53 ∧ ¬ c = 54 ∧ ¬ (c = 1 ∧ 2 ≤ p ∧ p ≤ 4) → m145 c p = m0 c p := fun c p h => (fm145 c p (by omega)).trans (Fm12 c p h)
          refine ⟨by omega, ?_⟩
          have zb150 := hm145.f_52_2
          have zb152 := hm145.f_52_5
          have zb154 := hm145.f_1_2
          have zb156 := hm145.f_1_1
          have q157 : m145 1 1 = (m0 1 1) := (Eq.refl (m145 1 1)).trans ((fm145 _ _ (by omega)).trans ((fm12 _ _ (by omega)).trans (Eq.refl (m0 1 1)).symm))
          exact hk v144 m145 hm145 Fm145 (by omega) (by omega) (by omega) (by omega)
      · refine ⟨hS.k52, ?_⟩
        have zb158 := hm12.f_52_2
        have q159 : m12 52 2 = (m0 52 2) := (Eq.refl (m12 52 2)).trans ((fm12 _ _ (by omega)).trans (Eq.refl (m0 52 2)).symm)
        have zb160 := hm12.f_52_5
        have q161 : m12 52 5 = (m0 52 5) := (Eq.refl (m12 52 5)).trans ((fm12 _ _ (by omega)).trans (Eq.refl (m0 52 5)).symm)
        have zb162 := hm12.f_1_2
        have zb164 := hm12.f_1_1
        have q165 : m12 1 1 = (m0 1 1) := (Eq.refl (m12 1 1)).trans ((fm12 _ _ (by omega)).trans (Eq.refl (m0 1 1)).symm)
        refine z_X3_readIf hS hm12 (fun v166 m167 hm167 fm167 bv166 cv166 yv166_0 yv166_1 => ?_)
        have zb168 := hm167.f_52_2
        have zb169 := hm167.f_52_5
        have zb170 := hm167.f_1_2
        have zb171 := hm167.f_1_1
        have Fm167 : ∀ c p : Int, ¬ (c = 52 ∧ 2 ≤ p ∧ p ≤ 3) ∧ ¬ (c = 52 ∧ 5 ≤ p ∧ p ≤ 8) ∧ ¬ c = 53 ∧ ¬ c = 54 ∧ ¬ (c = 1 ∧ 2 ≤ p ∧ p ≤ 4) → m167 c p = m0 c p := fun c p h => (fm167 c p (by omega)).trans (Fm12 c p h)
        refine ⟨by omega, ?_⟩
        have zb172 := hm167.f_52_2
        have zb174 := hm167.f_52_5
        have zb176 := hm167.f_1_2
        have zb178 := hm167.f_1_1
        have q179 : m167 1 1 = (m0 1 1) := (Eq.refl (m167 1 1)).trans ((fm167 _ _ (by omega)).trans ((fm12 _ _ (by omega)).trans (Eq.refl (m0 1 1)).symm))
        exact hk v166 m167 hm167 Fm167 (by omega) (by omega) (by omega) (by omega)
    · refine ⟨hS.k52, ?_⟩
      have zb180 := hm12.f_52_2
      have q181 : m12 52 2 = (m0 52 2) := (Eq.refl (m12 52 2)).trans ((fm12 _ _ (by omega)).trans (Eq.refl (m0 52 2)).symm)
      have zb182 := hm12.f_52_5
      have q183 : m12 52 5 = (m0 52 5) := (Eq.refl (m12 52 5)).trans ((fm12 _ _ (by omega)).trans (Eq.refl (m0 52 5)).symm)
      have zb184 := hm12.f_1_2
      have zb186 := hm12.f_1_1
      have q187 : m12 1 1 = (m0 1 1) := (Eq.refl (m12 1 1)).trans ((fm12 _ _ (by omega)).trans (Eq.refl (m0 1 1)).symm)
      refine z_X3_pileUp hS hm12 (by omega) (by omega) (fun m188 hm188 fm188 ym188_0 => ?_)
      have zb189 := hm188.f_52_2
      have zb190 := hm188.f_52_5
      have zb191 := hm188.f_1_2
      have zb192 := hm188.f_1_1
      have Fm188 : ∀ c p : Int, ¬ (c = 52 ∧ 2 ≤ p ∧ p ≤ 3) ∧ ¬ (c = 52 ∧ 5 ≤ p ∧ p ≤ 8) ∧ ¬ c = 53 ∧ ¬ c = 54 ∧ ¬ (c = 1 ∧ 2 ≤ p ∧ p ≤ 4) → m188 c p = m0 c p := fun c p h => (fm188 c p (by omega)).trans (Fm12 c p h)
      refine g_C ?_
      refine ⟨by omega, ?_⟩
      have zb193 := hm188.f_52_2
      have zb195 := hm188.f_52_5
      have zb197 := hm188.f_1_2
      have q198 : m188 1 2 = (m12 1 2) := (Eq.refl (m188 1 2)).trans ((fm188 _ _ (by omega)).trans (Eq.refl (m12 1 2)).symm)
      have zb199 := hm188.f_1_1
      have q200 : m188 1 1 = (m0 1 1) := (Eq.refl (m188 1 1)).trans ((fm188 _ _ (by omega)).trans ((fm12 _ _ (by omega)).trans (Eq.refl (m0 1 1)).symm))
      exact hk 1 m188 hm188 Fm188 (by omega) (by omega) (by omega) (by omega)
  · refine g_C ?_
    refine u_X3_readJoint_16 ?_
    refine g_ifT (by omega) ?_
    refine g_get 8 (0) (3) rfl hS.k52 hm0.f_52_8 (fun v201 ev201 bv201 cv201 => ?_)
    have qv201 : v201 = v1 := ev201.trans ev1.symm
    refine g_ifT (by omega) ?_
    refine g_get 8 (0) (3) rfl hS.k52 hm0.f_52_8 (fun v202 ev202 bv202 cv202 => ?_)
    have qv202 : v202 = v1 := ev202.trans ev1.symm
    refine g_C ?_
    refine g_ifT (by omega) ?_
    refine g_getr 0 1 rfl hS.k52 hm0.f_52_0 (by decide) ?_
    refine g_C ?_
    refine ⟨hS.k1, ?_⟩
    have zb203 := hm0.f_52_2
    have zb205 := hm0.f_52_5
    have zb207 := hm0.f_1_2
    have zb209 := hm0.f_1_1
    refine zr_X7_takesWord hS hm0 (by omega) (by omega) (fun v211 m212 hm212 fm212 bv211 cv211 yv211_0 yv211_1 => ?_)
    have zb213 := hm212.f_52_2
    have zb214 := hm212.f_52_5
    have zb215 := hm212.f_1_2
    have zb216 := hm212.f_1_1
    have Fm212 : ∀ c p : Int, ¬ (c = 52 ∧ 2 ≤ p ∧ p ≤ 3) ∧ ¬ (c = 52 ∧ 5 ≤ p ∧ p ≤ 8) ∧ ¬ c = 53 ∧ ¬ c = 54 ∧ ¬ (c = 1 ∧ 2 ≤ p ∧ p ≤ 4) → m212 c p = m0 c p := fun c p h => (fm212 c p (by omega)).trans (Fm0 c p h)
    refine g_if (fun w217 => ?_) (fun w217 => ?_)
    · refine g_getr 0 1 rfl hS.k52 hm212.f_52_0 (by decide) ?_
      refine g_C ?_
      refine ⟨hS.k1, ?_⟩
      have zb218 := hm212.f_52_2
      have q219 : m212 52 2 = (m0 52 2) := (Eq.refl (m212 52 2)).trans ((fm212 _ _ (by omega)).trans (Eq.refl (m0 52 2)).symm)
      have zb220 := hm212.f_52_5
      have q221 : m212 52 5 = (m0 52 5) := (Eq.refl (m212 52 5)).trans ((fm212 _ _ (by omega)).trans (Eq.refl (m0 52 5)).symm)
      have zb222 := hm212.f_1_2
      have zb224 := hm212.f_1_1
      have q225 : m212 1 1 = (m0 1 1) := (Eq.refl (m212 1 1)).trans ((fm212 _ _ (by omega)).trans (Eq.refl (m0 1 1)).symm)
      refine zr_X7_takesWord hS hm212 (by omega) (by omega) (fun v226 m227 hm227 fm227 bv226 cv226 yv226_0 yv226_1 => ?_)
      have zb228 := hm227.f_52_2
      have zb229 := hm227.f_52_5
      have zb230 := hm227.f_1_2
      have zb231 := hm227.f_1_1
      have Fm227 : ∀ c p : Int, ¬ (c = 52 ∧ 2 ≤ p ∧ p ≤ 3) ∧ ¬ (c = 52 ∧ 5 ≤ p ∧ p ≤ 8) ∧ ¬ c = 53 ∧ ¬ c = 54 ∧ ¬ (c = 1 ∧ 2 ≤ p ∧ p ≤ 4) → m227 c p = m0 c p := fun c p h => (fm227 c p (by omega)).trans (Fm212 c p h)
      refine g_if (fun w232 => ?_) (fun w232 => ?_)
      · refine g_C ?_
        refine u_X3_readJoint_88 ?_
        refine g_ifF (by omega) ?_
        refine g_getr 0 1 rfl hS.k52 hm227.f_52_0 (by decide) ?_
        refine g_C ?_
        refine ⟨hS.k1, ?_⟩
        refine zr_X7_refuse hS hm227 (by omega) (by omega) (fun v233 m234 hm234 fm234 bv233 cv233 => ?_)
        have zb235 := hm234.f_52_2
        have zb236 := hm234.f_52_5
        have zb237 := hm234.f_1_2
        have zb238 := hm234.f_1_1
        have Fm234 : ∀ c p : Int, ¬ (c = 52 ∧ 2 ≤ p ∧ p ≤ 3) ∧ ¬ (c = 52 ∧ 5 ≤ p ∧ p ≤ 8) ∧ ¬ c = 53 ∧ ¬ c = 54 ∧ ¬ (c = 1 ∧ 2 ≤ p ∧ p ≤ 4) → m234 c p = m0 c p := fun c p h => (fm234 c p (by omega)).trans (Fm227 c p h)
        refine ⟨by omega, ?_⟩
        have zb239 := hm234.f_52_2
        have q240 : m234 52 2 = (m0 52 2) := (Eq.refl (m234 52 2)).trans ((fm234 _ _ (by omega)).trans ((fm227 _ _ (by omega)).trans ((fm212 _ _ (by omega)).trans (Eq.refl (m0 52 2)).symm)))
        have zb241 := hm234.f_52_5
        have q242 : m234 52 5 = (m0 52 5) := (Eq.refl (m234 52 5)).trans ((fm234 _ _ (by omega)).trans ((fm227 _ _ (by omega)).trans ((fm212 _ _ (by omega)).trans (Eq.refl (m0 52 5)).symm)))
        have zb243 := hm234.f_1_2
        have q244 : m234 1 2 = (m227 1 2) := (Eq.refl (m234 1 2)).trans ((fm234 _ _ (by omega)).trans (Eq.refl (m227 1 2)).symm)
        have zb245 := hm234.f_1_1
        have q246 : m234 1 1 = (m0 1 1) := (Eq.refl (m234 1 1)).trans ((fm234 _ _ (by omega)).trans ((fm227 _ _ (by omega)).trans ((fm212 _ _ (by omega)).trans (Eq.refl (m0 1 1)).symm)))
        exact hk v233 m234 hm234 Fm234 (by omega) (by omega) (by omega) (by omega)
      · refine g_C ?_
        refine u_X3_readJoint_88 ?_
        refine g_ifT (by omega) ?_
        refine ⟨hS.k52, ?_⟩
        have zb247 := hm227.f_52_2
        have q248 : m227 52 2 = (m0 52 2) := (Eq.refl (m227 52 2)).trans ((fm227 _ _ (by omega)).trans ((fm212 _ _ (by omega)).trans (Eq.refl (m0 52 2)).symm))
        have zb249 := hm227.f_52_5
        have q250 : m227 52 5 = (m0 52 5) := (Eq.refl (m227 52 5)).trans ((fm227 _ _ (by omega)).trans ((fm212 _ _ (by omega)).trans (Eq.refl (m0 52 5)).symm))
        have zb251 := hm227.f_1_2
        have zb253 := hm227.f_1_1
        have q254 : m227 1 1 = (m0 1 1) := (Eq.refl (m227 1 1)).trans ((fm227 _ _ (by omega)).trans ((fm212 _ _ (by omega)).trans (Eq.refl (m0 1 1)).symm))
        refine z_X3_pileUp hS hm227 (by omega) (by omega) (fun m255 hm255 fm255 ym255_0 => ?_)
        have zb256 := hm255.f_52_2
        have zb257 := hm255.f_52_5
        have zb258 := hm255.f_1_2
        have zb259 := hm255.f_1_1
        have Fm255 : ∀ c p : Int, ¬ (c = 52 ∧ 2 ≤ p ∧ p ≤ 3) ∧ ¬ (c = 52 ∧ 5 ≤ p ∧ p ≤ 8) ∧ ¬ c = 53 ∧ ¬ c = 54 ∧ ¬ (c = 1 ∧ 2 ≤ p ∧ p ≤ 4) → m255 c p = m0 c p := fun c p h => (fm255 c p (by omega)).trans (Fm227 c p h)
        refine ⟨hS.k52, ?_⟩
        have zb260 := hm255.f_52_2
        have zb262 := hm255.f_52_5
        have zb264 := hm255.f_1_2
        have q265 : m255 1 2 = (m227 1 2) := (Eq.refl (m255 1 2)).trans ((fm255 _ _ (by omega)).trans (Eq.refl (m227 1 2)).symm)
        have zb266 := hm255.f_1_1
        have q267 : m255 1 1 = (m0 1 1) := (Eq.refl (m255 1 1)).trans ((fm255 _ _ (by omega)).trans ((fm227 _ _ (by omega)).trans ((fm212 _ _ (by omega)).trans (Eq.refl (m0 1 1)).symm)))
        refine z_X3_beginFact hS hm255 (fun v268 m269 hm269 fm269 bv268 cv268 yv268_0 yv268_1 => ?_)
        have zb270 := hm269.f_52_2
        have zb271 := hm269.f_52_5
        have zb272 := hm269.f_1_2
        have zb273 := hm269.f_1_1
        have Fm269 : ∀ c p : Int, ¬ (c = 52 ∧ 2 ≤ p ∧ p ≤ 3) ∧ ¬ (c = 52 ∧ 5 ≤ p ∧ p ≤ 8) ∧ ¬ c = 53 ∧ ¬ c = 54 ∧ ¬ (c = 1 ∧ 2 ≤ p ∧ p ≤ 4) → m269 c p = m0 c p := fun c p h => (fm269 c p (by omega)).trans (Fm255 c p h)
        refine ⟨by omega, ?_⟩
        have zb274 := hm269.f_52_2
        have zb276 := hm269.f_52_5
        have zb278 := hm269.f_1_2
        have zb280 := hm269.f_1_1
        have q281 : m269 1 1 = (m0 1 1) := (Eq.refl (m269 1 1)).trans ((fm269 _ _ (by omega)).trans ((fm255 _ _ (by omega)).trans ((fm227 _ _ (by omega)).trans ((fm212 _ _ (by omega)).trans (Eq.refl (m0 1 1)).symm))))
        exact hk v268 m269 hm269 Fm269 (by omega) (by omega) (by omega) (by omega)
    · refine g_C ?_
      refine u_X3_readJoint_88 ?_
      refine g_ifT (by omega) ?_
      refine ⟨hS.k52, ?_⟩
      have zb282 := hm212.f_52_2
      have q283 : m212 52 2 = (m0 52 2) := (Eq.refl (m212 52 2)).trans ((fm212 _ _ (by omega)).trans (Eq.refl (m0 52 2)).symm)
      have zb284 := hm212.f_52_5
      have q285 : m212 52 5 = (m0 52 5) := (Eq.refl (m212 52 5)).trans ((fm212 _ _ (by omega)).trans (Eq.refl (m0 52 5)).symm)
      have zb286 := hm212.f_1_2
      have zb288 := hm212.f_1_1
      have q289 : m212 1 1 = (m0 1 1) := (Eq.refl (m212 1 1)).trans ((fm212 _ _ (by omega)).trans (Eq.refl (m0 1 1)).symm)
      refine z_X3_pileUp hS hm212 (by omega) (by omega) (fun m290 hm290 fm290 ym290_0 => ?_)
      have zb291 := hm290.f_52_2
      have zb292 := hm290.f_52_5
      have zb293 := hm290.f_1_2
      have zb294 := hm290.f_1_1
      have Fm290 : ∀ c p : Int, ¬ (c = 52 ∧ 2 ≤ p ∧ p ≤ 3) ∧ ¬ (c = 52 ∧ 5 ≤ p ∧ p ≤ 8) ∧ ¬ c = 53 ∧ ¬ c = 54 ∧ ¬ (c = 1 ∧ 2 ≤ p ∧ p ≤ 4) → m290 c p = m0 c p := fun c p h => (fm290 c p (by omega)).trans (Fm212 c p h)
      refine ⟨hS.k52, ?_⟩
      have zb295 := hm290.f_52_2
      have zb297 := hm290.f_52_5
      have zb299 := hm290.f_1_2
      have q300 : m290 1 2 = (m212 1 2) := (Eq.refl (m290 1 2)).trans ((fm290 _ _ (by omega)).trans (Eq.refl (m212 1 2)).symm)
      have zb301 := hm290.f_1_1
      have q302 : m290 1 1 = (m0 1 1) := (Eq.refl (m290 1 1)).trans ((fm290 _ _ (by omega)).trans ((fm212 _ _ (by omega)).trans (Eq.refl (m0 1 1)).symm))
      refine z_X3_beginFact hS hm290 (fun v303 m304 hm304 fm304 bv303 cv303 yv303_0 yv303_1 => ?_)
      have zb305 := hm304.f_52_2
      have zb306 := hm304.f_52_5
      have zb307 := hm304.f_1_2
      have zb308 := hm304.f_1_1
      have Fm304 : ∀ c p : Int, ¬ (c = 52 ∧ 2 ≤ p ∧ p ≤ 3) ∧ ¬ (c = 52 ∧ 5 ≤ p ∧ p ≤ 8) ∧ ¬ c = 53 ∧ ¬ c = 54 ∧ ¬ (c = 1 ∧ 2 ≤ p ∧ p ≤ 4) → m304 c p = m0 c p := fun c p h => (fm304 c p (by omega)).trans (Fm290 c p h)
      refine ⟨by omega, ?_⟩
      have zb309 := hm304.f_52_2
      have zb311 := hm304.f_52_5
      have zb313 := hm304.f_1_2
      have zb315 := hm304.f_1_1
      have q316 : m304 1 1 = (m0 1 1) := (Eq.refl (m304 1 1)).trans ((fm304 _ _ (by omega)).trans ((fm290 _ _ (by omega)).trans ((fm212 _ _ (by omega)).trans (Eq.refl (m0 1 1)).symm)))
      exact hk v303 m304 hm304 Fm304 (by omega) (by omega) (by omega) (by omega)
theorem z_X3_takeValueWord {X : Mm} {S : Sh} {m0 : Mm} {K : Int → Mm → Prop} (hS : Shp S) (hm0 : Inv X S m0)  (hk : ∀ (r : Int) (M1 : Mm), Inv X S M1 → (∀ c p : Int, ¬ (c = 1 ∧ 2 ≤ p ∧ p ≤ 3) → M1 c p = m0 c p) → (-11) ≤ r → r ≤ (-1) → (m0 1 2 ≤ M1 1 2) → (r = -1 ∨ m0 1 2 + 1 ≤ M1 1 2) → K r M1) : wp_X3_takeValueWord S m0 52 K := by
  have Fm0 : ∀ c p : Int, ¬ (c = 1 ∧ 2 ≤ p ∧ p ≤ 3) → m0 c p = m0 c p := fun c p _ => rfl
  refine u_X3_takeValueWord ?_
  refine g_C ?_
  have L_n_l254 : ∀ (n_l254 : Nat) (u2 : Int) (m3 : Mm), Inv X S m3 → (∀ c p : Int, ¬ (c = 1 ∧ 2 ≤ p ∧ p ≤ 3) → m3 c p = m0 c p) → 0 ≤ u2 → u2 ≤ 10 → (m0 1 2 ≤ m3 1 2) → 11 - u2 ≤ (n_l254 : Int) → wp_X3_takeValueWord_2 S K n_l254 52 u2 m3 := by
    intro n_l254
    induction n_l254 with
    | zero => intro u2 m3 hm3 Fm3 bu2 cu2 xn_l254_0 zn_l254; exfalso; omega
    | succ n_l254 ih_n_l254 =>
      intro u2 m3 hm3 Fm3 bu2 cu2 xn_l254_0 zn_l254
      refine u_X3_takeValueWord_2 ?_
      refine g_C ?_
      refine g_if (fun w255 => ?_) (fun w255 => ?_)
      · refine g_C ?_
        have zb256 := hm3.f_1_2
        have zb258 := hm3.f_1_1
        have q259 : m3 1 1 = (m0 1 1) := (Eq.refl (m3 1 1)).trans ((Fm3 _ _ (by omega)).trans (Eq.refl (m0 1 1)).symm)
        exact hk (-1) m3 hm3 Fm3 (by omega) (by omega) (by omega) (by omega)
      · refine g_getr 0 1 rfl hS.k52 hm3.f_52_0 (by decide) ?_
        refine u_X10_nameOf ?_
        refine g_if (fun w260 => ?_) (fun w260 => ?_)
        · refine g_C ?_
          refine ⟨hS.k1, ?_⟩
          have zb261 := hm3.f_1_2
          have zb263 := hm3.f_1_1
          have q264 : m3 1 1 = (m0 1 1) := (Eq.refl (m3 1 1)).trans ((Fm3 _ _ (by omega)).trans (Eq.refl (m0 1 1)).symm)
          refine zr_X7_takesWord hS hm3 (by omega) (by omega) (fun v265 m266 hm266 fm266 bv265 cv265 yv265_0 yv265_1 => ?_)
          have zb267 := hm266.f_1_2
          have zb268 := hm266.f_1_1
          have Fm266 : ∀ c p : Int, ¬ (c = 1 ∧ 2 ≤ p ∧ p ≤ 3) → m266 c p = m0 c p := fun c p h => (fm266 c p (by omega)).trans (Fm3 c p h)
          refine g_if (fun w269 => ?_) (fun w269 => ?_)
          · refine g_A (by omega) (by omega) ?_
            have zb270 := hm266.f_1_2
            have zb272 := hm266.f_1_1
            have q273 : m266 1 1 = (m0 1 1) := (Eq.refl (m266 1 1)).trans ((fm266 _ _ (by omega)).trans ((Fm3 _ _ (by omega)).trans (Eq.refl (m0 1 1)).symm))
            exact ih_n_l254 (u2 + 1) m266 hm266 Fm266 (by omega) (by omega) (by omega) (by omega)
          · refine g_C ?_
            refine g_S (by omega) (by omega) ?_
            have zb274 := hm266.f_1_2
            have zb276 := hm266.f_1_1
            have q277 : m266 1 1 = (m0 1 1) := (Eq.refl (m266 1 1)).trans ((fm266 _ _ (by omega)).trans ((Fm3 _ _ (by omega)).trans (Eq.refl (m0 1 1)).symm))
            exact hk ((-2) - u2) m266 hm266 Fm266 (by omega) (by omega) (by omega) (by omega)
        · refine g_if (fun w278 => ?_) (fun w278 => ?_)
          · refine g_C ?_
            refine ⟨hS.k1, ?_⟩
            have zb279 := hm3.f_1_2
            have zb281 := hm3.f_1_1
            have q282 : m3 1 1 = (m0 1 1) := (Eq.refl (m3 1 1)).trans ((Fm3 _ _ (by omega)).trans (Eq.refl (m0 1 1)).symm)
            refine zr_X7_takesWord hS hm3 (by omega) (by omega) (fun v283 m284 hm284 fm284 bv283 cv283 yv283_0 yv283_1 => ?_)
            have zb285 := hm284.f_1_2
            have zb286 := hm284.f_1_1
            have Fm284 : ∀ c p : Int, ¬ (c = 1 ∧ 2 ≤ p ∧ p ≤ 3) → m284 c p = m0 c p := fun c p h => (fm284 c p (by omega)).trans (Fm3 c p h)
            refine g_if (fun w287 => ?_) (fun w287 => ?_)
            · refine g_A (by omega) (by omega) ?_
              have zb288 := hm284.f_1_2
              have zb290 := hm284.f_1_1
              have q291 : m284 1 1 = (m0 1 1) := (Eq.refl (m284 1 1)).trans ((fm284 _ _ (by omega)).trans ((Fm3 _ _ (by omega)).trans (Eq.refl (m0 1 1)).symm))
              exact ih_n_l254 (u2 + 1) m284 hm284 Fm284 (by omega) (by omega) (by omega) (by omega)
            · refine g_C ?_
              refine g_S (by omega) (by omega) ?_
              have zb292 := hm284.f_1_2
              have zb294 := hm284.f_1_1
              have q295 : m284 1 1 = (m0 1 1) := (Eq.refl (m284 1 1)).trans ((fm284 _ _ (by omega)).trans ((Fm3 _ _ (by omega)).trans (Eq.refl (m0 1 1)).symm))
              exact hk ((-2) - u2) m284 hm284 Fm284 (by omega) (by omega) (by omega) (by omega)
          · refine g_if (fun w296 => ?_) (fun w296 => ?_)
            · refine g_C ?_
              refine ⟨hS.k1, ?_⟩
              have zb297 := hm3.f_1_2
              have zb299 := hm3.f_1_1
              have q300 : m3 1 1 = (m0 1 1) := (Eq.refl (m3 1 1)).trans ((Fm3 _ _ (by omega)).trans (Eq.refl (m0 1 1)).symm)
              refine zr_X7_takesWord hS hm3 (by omega) (by omega) (fun v301 m302 hm302 fm302 bv301 cv301 yv301_0 yv301_1 => ?_)
              have zb303 := hm302.f_1_2
              have zb304 := hm302.f_1_1
              have Fm302 : ∀ c p : Int, ¬ (c = 1 ∧ 2 ≤ p ∧ p ≤ 3) → m302 c p = m0 c p := fun c p h => (fm302 c p (by omega)).trans (Fm3 c p h)
              refine g_if (fun w305 => ?_) (fun w305 => ?_)
              · refine g_A (by omega) (by omega) ?_
                have zb306 := hm302.f_1_2
                have zb308 := hm302.f_1_1
                have q309 : m302 1 1 = (m0 1 1) := (Eq.refl (m302 1 1)).trans ((fm302 _ _ (by omega)).trans ((Fm3 _ _ (by omega)).trans (Eq.refl (m0 1 1)).symm))
                exact ih_n_l254 (u2 + 1) m302 hm302 Fm302 (by omega) (by omega) (by omega) (by omega)
              · refine g_C ?_
                refine g_S (by omega) (by omega) ?_
                have zb310 := hm302.f_1_2
                have zb312 := hm302.f_1_1
                have q313 : m302 1 1 = (m0 1 1) := (Eq.refl (m302 1 1)).trans ((fm302 _ _ (by omega)).trans ((Fm3 _ _ (by omega)).trans (Eq.refl (m0 1 1)).symm))
                exact hk ((-2) - u2) m302 hm302 Fm302 (by omega) (by omega) (by omega) (by omega)
            · refine g_if (fun w314 => ?_) (fun w314 => ?_)
              · refine g_C ?_
                refine ⟨hS.k1, ?_⟩
                have zb315 := hm3.f_1_2
                have zb317 := hm3.f_1_1
                have q318 : m3 1 1 = (m0 1 1) := (Eq.refl (m3 1 1)).trans ((Fm3 _ _ (by omega)).trans (Eq.refl (m0 1 1)).symm)
                refine zr_X7_takesWord hS hm3 (by omega) (by omega) (fun v319 m320 hm320 fm320 bv319 cv319 yv319_0 yv319_1 => ?_)
                have zb321 := hm320.f_1_2
                have zb322 := hm320.f_1_1
                have Fm320 : ∀ c p : Int, ¬ (c = 1 ∧ 2 ≤ p ∧ p ≤ 3) → m320 c p = m0 c p := fun c p h => (fm320 c p (by omega)).trans (Fm3 c p h)
                refine g_if (fun w323 => ?_) (fun w323 => ?_)
                · refine g_A (by omega) (by omega) ?_
                  have zb324 := hm320.f_1_2
                  have zb326 := hm320.f_1_1
                  have q327 : m320 1 1 = (m0 1 1) := (Eq.refl (m320 1 1)).trans ((fm320 _ _ (by omega)).trans ((Fm3 _ _ (by omega)).trans (Eq.refl (m0 1 1)).symm))
                  exact ih_n_l254 (u2 + 1) m320 hm320 Fm320 (by omega) (by omega) (by omega) (by omega)
                · refine g_C ?_
                  refine g_S (by omega) (by omega) ?_
                  have zb328 := hm320.f_1_2
                  have zb330 := hm320.f_1_1
                  have q331 : m320 1 1 = (m0 1 1) := (Eq.refl (m320 1 1)).trans ((fm320 _ _ (by omega)).trans ((Fm3 _ _ (by omega)).trans (Eq.refl (m0 1 1)).symm))
                  exact hk ((-2) - u2) m320 hm320 Fm320 (by omega) (by omega) (by omega) (by omega)
              · refine g_if (fun w332 => ?_) (fun w332 => ?_)
                · refine g_C ?_
                  refine ⟨hS.k1, ?_⟩
                  have zb333 := hm3.f_1_2
                  have zb335 := hm3.f_1_1
                  have q336 : m3 1 1 = (m0 1 1) := (Eq.refl (m3 1 1)).trans ((Fm3 _ _ (by omega)).trans (Eq.refl (m0 1 1)).symm)
                  refine zr_X7_takesWord hS hm3 (by omega) (by omega) (fun v337 m338 hm338 fm338 bv337 cv337 yv337_0 yv337_1 => ?_)
                  have zb339 := hm338.f_1_2
                  have zb340 := hm338.f_1_1
                  have Fm338 : ∀ c p : Int, ¬ (c = 1 ∧ 2 ≤ p ∧ p ≤ 3) → m338 c p = m0 c p := fun c p h => (fm338 c p (by omega)).trans (Fm3 c p h)
                  refine g_if (fun w341 => ?_) (fun w341 => ?_)
                  · refine g_A (by omega) (by omega) ?_
                    have zb342 := hm338.f_1_2
                    have zb344 := hm338.f_1_1
                    have q345 : m338 1 1 = (m0 1 1) := (Eq.refl (m338 1 1)).trans ((fm338 _ _ (by omega)).trans ((Fm3 _ _ (by omega)).trans (Eq.refl (m0 1 1)).symm))
                    exact ih_n_l254 (u2 + 1) m338 hm338 Fm338 (by omega) (by omega) (by omega) (by omega)
                  · refine g_C ?_
                    refine g_S (by omega) (by omega) ?_
                    have zb346 := hm338.f_1_2
                    have zb348 := hm338.f_1_1
                    have q349 : m338 1 1 = (m0 1 1) := (Eq.refl (m338 1 1)).trans ((fm338 _ _ (by omega)).trans ((Fm3 _ _ (by omega)).trans (Eq.refl (m0 1 1)).symm))
                    exact hk ((-2) - u2) m338 hm338 Fm338 (by omega) (by omega) (by omega) (by omega)
                · refine g_if (fun w350 => ?_) (fun w350 => ?_)
                  · refine g_C ?_
                    refine ⟨hS.k1, ?_⟩
                    have zb351 := hm3.f_1_2
                    have zb353 := hm3.f_1_1
                    have q354 : m3 1 1 = (m0 1 1) := (Eq.refl (m3 1 1)).trans ((Fm3 _ _ (by omega)).trans (Eq.refl (m0 1 1)).symm)
                    refine zr_X7_takesWord hS hm3 (by omega) (by omega) (fun v355 m356 hm356 fm356 bv355 cv355 yv355_0 yv355_1 => ?_)
                    have zb357 := hm356.f_1_2
                    have zb358 := hm356.f_1_1
                    have Fm356 : ∀ c p : Int, ¬ (c = 1 ∧ 2 ≤ p ∧ p ≤ 3) → m356 c p = m0 c p := fun c p h => (fm356 c p (by omega)).trans (Fm3 c p h)
                    refine g_if (fun w359 => ?_) (fun w359 => ?_)
                    · refine g_A (by omega) (by omega) ?_
                      have zb360 := hm356.f_1_2
                      have zb362 := hm356.f_1_1
                      have q363 : m356 1 1 = (m0 1 1) := (Eq.refl (m356 1 1)).trans ((fm356 _ _ (by omega)).trans ((Fm3 _ _ (by omega)).trans (Eq.refl (m0 1 1)).symm))
                      exact ih_n_l254 (u2 + 1) m356 hm356 Fm356 (by omega) (by omega) (by omega) (by omega)
                    · refine g_C ?_
                      refine g_S (by omega) (by omega) ?_
                      have zb364 := hm356.f_1_2
                      have zb366 := hm356.f_1_1
                      have q367 : m356 1 1 = (m0 1 1) := (Eq.refl (m356 1 1)).trans ((fm356 _ _ (by omega)).trans ((Fm3 _ _ (by omega)).trans (Eq.refl (m0 1 1)).symm))
                      exact hk ((-2) - u2) m356 hm356 Fm356 (by omega) (by omega) (by omega) (by omega)
                  · refine g_if (fun w368 => ?_) (fun w368 => ?_)
                    · refine g_C ?_
                      refine ⟨hS.k1, ?_⟩
                      have zb369 := hm3.f_1_2
                      have zb371 := hm3.f_1_1
                      have q372 : m3 1 1 = (m0 1 1) := (Eq.refl (m3 1 1)).trans ((Fm3 _ _ (by omega)).trans (Eq.refl (m0 1 1)).symm)
                      refine zr_X7_takesWord hS hm3 (by omega) (by omega) (fun v373 m374 hm374 fm374 bv373 cv373 yv373_0 yv373_1 => ?_)
                      have zb375 := hm374.f_1_2
                      have zb376 := hm374.f_1_1
                      have Fm374 : ∀ c p : Int, ¬ (c = 1 ∧ 2 ≤ p ∧ p ≤ 3) → m374 c p = m0 c p := fun c p h => (fm374 c p (by omega)).trans (Fm3 c p h)
                      refine g_if (fun w377 => ?_) (fun w377 => ?_)
                      · refine g_A (by omega) (by omega) ?_
                        have zb378 := hm374.f_1_2
                        have zb380 := hm374.f_1_1
                        have q381 : m374 1 1 = (m0 1 1) := (Eq.refl (m374 1 1)).trans ((fm374 _ _ (by omega)).trans ((Fm3 _ _ (by omega)).trans (Eq.refl (m0 1 1)).symm))
                        exact ih_n_l254 (u2 + 1) m374 hm374 Fm374 (by omega) (by omega) (by omega) (by omega)
                      · refine g_C ?_
                        refine g_S (by omega) (by omega) ?_
                        have zb382 := hm374.f_1_2
                        have zb384 := hm374.f_1_1
                        have q385 : m374 1 1 = (m0 1 1) := (Eq.refl (m374 1 1)).trans ((fm374 _ _ (by omega)).trans ((Fm3 _ _ (by omega)).trans (Eq.refl (m0 1 1)).symm))
                        exact hk ((-2) - u2) m374 hm374 Fm374 (by omega) (by omega) (by omega) (by omega)
                    · refine g_if (fun w386 => ?_) (fun w386 => ?_)
                      · refine g_C ?_
                        refine ⟨hS.k1, ?_⟩
                        have zb387 := hm3.f_1_2
                        have zb389 := hm3.f_1_1
                        have q390 : m3 1 1 = (m0 1 1) := (Eq.refl (m3 1 1)).trans ((Fm3 _ _ (by omega)).trans (Eq.refl (m0 1 1)).symm)
                        refine zr_X7_takesWord hS hm3 (by omega) (by omega) (fun v391 m392 hm392 fm392 bv391 cv391 yv391_0 yv391_1 => ?_)
                        have zb393 := hm392.f_1_2
                        have zb394 := hm392.f_1_1
                        have Fm392 : ∀ c p : Int, ¬ (c = 1 ∧ 2 ≤ p ∧ p ≤ 3) → m392 c p = m0 c p := fun c p h => (fm392 c p (by omega)).trans (Fm3 c p h)
                        refine g_if (fun w395 => ?_) (fun w395 => ?_)
                        · refine g_A (by omega) (by omega) ?_
                          have zb396 := hm392.f_1_2
                          have zb398 := hm392.f_1_1
                          have q399 : m392 1 1 = (m0 1 1) := (Eq.refl (m392 1 1)).trans ((fm392 _ _ (by omega)).trans ((Fm3 _ _ (by omega)).trans (Eq.refl (m0 1 1)).symm))
                          exact ih_n_l254 (u2 + 1) m392 hm392 Fm392 (by omega) (by omega) (by omega) (by omega)
                        · refine g_C ?_
                          refine g_S (by omega) (by omega) ?_
                          have zb400 := hm392.f_1_2
                          have zb402 := hm392.f_1_1
                          have q403 : m392 1 1 = (m0 1 1) := (Eq.refl (m392 1 1)).trans ((fm392 _ _ (by omega)).trans ((Fm3 _ _ (by omega)).trans (Eq.refl (m0 1 1)).symm))
                          exact hk ((-2) - u2) m392 hm392 Fm392 (by omega) (by omega) (by omega) (by omega)
                      · refine g_if (fun w404 => ?_) (fun w404 => ?_)
                        · refine g_C ?_
                          refine ⟨hS.k1, ?_⟩
                          have zb405 := hm3.f_1_2
                          have zb407 := hm3.f_1_1
                          have q408 : m3 1 1 = (m0 1 1) := (Eq.refl (m3 1 1)).trans ((Fm3 _ _ (by omega)).trans (Eq.refl (m0 1 1)).symm)
                          refine zr_X7_takesWord hS hm3 (by omega) (by omega) (fun v409 m410 hm410 fm410 bv409 cv409 yv409_0 yv409_1 => ?_)
                          have zb411 := hm410.f_1_2
                          have zb412 := hm410.f_1_1
                          have Fm410 : ∀ c p : Int, ¬ (c = 1 ∧ 2 ≤ p ∧ p ≤ 3) → m410 c p = m0 c p := fun c p h => (fm410 c p (by omega)).trans (Fm3 c p h)
                          refine g_if (fun w413 => ?_) (fun w413 => ?_)
                          · refine g_A (by omega) (by omega) ?_
                            have zb414 := hm410.f_1_2
                            have zb416 := hm410.f_1_1
                            have q417 : m410 1 1 = (m0 1 1) := (Eq.refl (m410 1 1)).trans ((fm410 _ _ (by omega)).trans ((Fm3 _ _ (by omega)).trans (Eq.refl (m0 1 1)).symm))
                            exact ih_n_l254 (u2 + 1) m410 hm410 Fm410 (by omega) (by omega) (by omega) (by omega)
                          · refine g_C ?_
                            refine g_S (by omega) (by omega) ?_
                            have zb418 := hm410.f_1_2
                            have zb420 := hm410.f_1_1
                            have q421 : m410 1 1 = (m0 1 1) := (Eq.refl (m410 1 1)).trans ((fm410 _ _ (by omega)).trans ((Fm3 _ _ (by omega)).trans (Eq.refl (m0 1 1)).symm))
                            exact hk ((-2) - u2) m410 hm410 Fm410 (by omega) (by omega) (by omega) (by omega)
                        · refine g_C ?_
                          refine ⟨hS.k1, ?_⟩
                          have zb422 := hm3.f_1_2
                          have zb424 := hm3.f_1_1
                          have q425 : m3 1 1 = (m0 1 1) := (Eq.refl (m3 1 1)).trans ((Fm3 _ _ (by omega)).trans (Eq.refl (m0 1 1)).symm)
                          refine zr_X7_takesWord hS hm3 (by omega) (by omega) (fun v426 m427 hm427 fm427 bv426 cv426 yv426_0 yv426_1 => ?_)
                          have zb428 := hm427.f_1_2
                          have zb429 := hm427.f_1_1
                          have Fm427 : ∀ c p : Int, ¬ (c = 1 ∧ 2 ≤ p ∧ p ≤ 3) → m427 c p = m0 c p := fun c p h => (fm427 c p (by omega)).trans (Fm3 c p h)
                          refine g_if (fun w430 => ?_) (fun w430 => ?_)
                          · refine g_A (by omega) (by omega) ?_
                            have zb431 := hm427.f_1_2
                            have zb433 := hm427.f_1_1
                            have q434 : m427 1 1 = (m0 1 1) := (Eq.refl (m427 1 1)).trans ((fm427 _ _ (by omega)).trans ((Fm3 _ _ (by omega)).trans (Eq.refl (m0 1 1)).symm))
                            exact ih_n_l254 (u2 + 1) m427 hm427 Fm427 (by omega) (by omega) (by omega) (by omega)
                          · refine g_C ?_
                            refine g_S (by omega) (by omega) ?_
                            have zb435 := hm427.f_1_2
                            have zb437 := hm427.f_1_1
                            have q438 : m427 1 1 = (m0 1 1) := (Eq.refl (m427 1 1)).trans ((fm427 _ _ (by omega)).trans ((Fm3 _ _ (by omega)).trans (Eq.refl (m0 1 1)).symm))
                            exact hk ((-2) - u2) m427 hm427 Fm427 (by omega) (by omega) (by omega) (by omega)
  have zb439 := hm0.f_1_2
  have zb441 := hm0.f_1_1
  exact ⟨11, L_n_l254 11 0 m0 hm0 Fm0 (by omega) (by omega) (by omega) (by omega)⟩
theorem zr_X7_isAtDigit {X : Mm} {S : Sh} {m0 : Mm} {K : Int → Mm → Prop} (hS : Shp S) (hm0 : Inv X S m0)  (hk : ∀ (r : Int) (M1 : Mm), Inv X S M1 → (∀ c p : Int, ¬ (c = 1 ∧ 2 ≤ p ∧ p ≤ 3) → M1 c p = m0 c p) → 0 ≤ r → r ≤ 1 → (m0 1 2 ≤ M1 1 2) → K r M1) : wp_X7_isAtDigit S m0 1 K := by
  have Fm0 : ∀ c p : Int, ¬ (c = 1 ∧ 2 ≤ p ∧ p ≤ 3) → m0 c p = m0 c p := fun c p _ => rfl
  refine u_X7_isAtDigit ?_
  refine ⟨hS.k1, ?_⟩
  refine zr_X7_look hS hm0 (fun v1 m2 hm2 fm2 bv1 cv1 yv1_0 yv1_1 yv1_2 => ?_)
  have zb3 := hm2.f_1_2
  have Fm2 : ∀ c p : Int, ¬ (c = 1 ∧ 2 ≤ p ∧ p ≤ 3) → m2 c p = m0 c p := fun c p h => (fm2 c p (by omega)).trans (Fm0 c p h)
  refine u_X7_isDigit ?_
  refine g_C ?_
  refine g_if (fun w4 => ?_) (fun w4 => ?_)
  · refine g_C ?_
    refine ⟨by omega, ?_⟩
    refine ⟨by omega, ?_⟩
    have zb5 := hm2.f_1_2
    exact hk 0 m2 hm2 Fm2 (by omega) (by omega) (by omega)
  · refine g_C ?_
    refine g_if (fun w7 => ?_) (fun w7 => ?_)
    · refine g_C ?_
      refine ⟨by omega, ?_⟩
      refine ⟨by omega, ?_⟩
      have zb8 := hm2.f_1_2
      exact hk 0 m2 hm2 Fm2 (by omega) (by omega) (by omega)
    · refine g_C ?_
      refine ⟨by omega, ?_⟩
      refine ⟨by omega, ?_⟩
      have zb10 := hm2.f_1_2
      exact hk 1 m2 hm2 Fm2 (by omega) (by omega) (by omega)
theorem z_X3_readValue {X : Mm} {S : Sh} {m0 : Mm} {K : Int → Mm → Prop} (hS : Shp S) (hm0 : Inv X S m0)  (hk : ∀ (r : Int) (M1 : Mm), Inv X S M1 → (∀ c p : Int, ¬ (c = 52 ∧ 2 ≤ p ∧ p ≤ 3) ∧ ¬ (c = 52 ∧ 5 ≤ p ∧ p ≤ 8) ∧ ¬ c = 53 ∧ ¬ c = 54 ∧ ¬ (c = 1 ∧ 2 ≤ p ∧ p ≤ 4) → M1 c p = m0 c p) → 0 ≤ r → r ≤ 1 → (M1 52 2 + M1 52 5 - M1 1 2 ≤ m0 52 2 + m0 52 5 - m0 1 2) → (m0 1 2 ≤ M1 1 2) → K r M1) : wp_X3_readValue S m0 52 K := by
  have Fm0 : ∀ c p : Int, ¬ (c = 52 ∧ 2 ≤ p ∧ p ≤ 3) ∧ ¬ (c = 52 ∧ 5 ≤ p ∧ p ≤ 8) ∧ ¬ c = 53 ∧ ¬ c = 54 ∧ ¬ (c = 1 ∧ 2 ≤ p ∧ p ≤ 4) → m0 c p = m0 c p := fun c p _ => rfl
  refine u_X3_readValue ?_
  refine g_getr 0 1 rfl hS.k52 hm0.f_52_0 (by decide) ?_
  refine ⟨hS.k1, ?_⟩
  have zb1 := hm0.f_52_2
  have zb3 := hm0.f_52_5
  have zb5 := hm0.f_1_2
  have zb7 := hm0.f_1_1
  refine zr_X7_isAtDigit hS hm0 (fun v9 m10 hm10 fm10 bv9 cv9 yv9_0 => ?_)
  have zb11 := hm10.f_52_2
  have zb12 := hm10.f_52_5
  have zb13 := hm10.f_1_2
  have zb14 := hm10.f_1_1
  have Fm10 : ∀ c p : Int, ¬ (c = 52 ∧ 2 ≤ p ∧ p ≤ 3) ∧ ¬ (c = 52 ∧ 5 ≤ p ∧ p ≤ 8) ∧ ¬ c = 53 ∧ ¬ c = 54 ∧ ¬ (c = 1 ∧ 2 ≤ p ∧ p ≤ 4) → m10 c p = m0 c p := fun c p h => (fm10 c p (by omega)).trans (Fm0 c p h)
  refine g_if (fun w15 => ?_) (fun w15 => ?_)
  · refine ⟨hS.k52, ?_⟩
    have zb16 := hm10.f_52_2
    have q17 : m10 52 2 = (m0 52 2) := (Eq.refl (m10 52 2)).trans ((fm10 _ _ (by omega)).trans (Eq.refl (m0 52 2)).symm)
    have zb18 := hm10.f_52_5
    have q19 : m10 52 5 = (m0 52 5) := (Eq.refl (m10 52 5)).trans ((fm10 _ _ (by omega)).trans (Eq.refl (m0 52 5)).symm)
    have zb20 := hm10.f_1_2
    have zb22 := hm10.f_1_1
    have q23 : m10 1 1 = (m0 1 1) := (Eq.refl (m10 1 1)).trans ((fm10 _ _ (by omega)).trans (Eq.refl (m0 1 1)).symm)
    refine z_X3_takeValueWord hS hm10 (fun v24 m25 hm25 fm25 bv24 cv24 yv24_0 yv24_1 => ?_)
    have zb26 := hm25.f_52_2
    have zb27 := hm25.f_52_5
    have zb28 := hm25.f_1_2
    have zb29 := hm25.f_1_1
    have Fm25 : ∀ c p : Int, ¬ (c = 52 ∧ 2 ≤ p ∧ p ≤ 3) ∧ ¬ (c = 52 ∧ 5 ≤ p ∧ p ≤ 8) ∧ ¬ c = 53 ∧ ¬ c = 54 ∧ ¬ (c = 1 ∧ 2 ≤ p ∧ p ≤ 4) → m25 c p = m0 c p := fun c p h => (fm25 c p (by omega)).trans (Fm10 c p h)
    refine u_X3_readValue_27 ?_
    refine g_C ?_
    refine g_if (fun w30 => ?_) (fun w30 => ?_)
    · refine g_get 3 (0) (60) rfl hS.k52 hm25.f_52_3 (fun v31 ev31 bv31 cv31 => ?_)
      refine g_C ?_
      refine g_if (fun w32 => ?_) (fun w32 => ?_)
      · refine g_get 3 (0) (60) rfl hS.k52 hm25.f_52_3 (fun v33 ev33 bv33 cv33 => ?_)
        have qv33 : v33 = v31 := ev33.trans ev31.symm
        refine g_C ?_
        refine g_A (by omega) (by omega) ?_
        refine g_put 3 rfl hS.k52 (hm25.w_52_3 (by omega) (by omega)) (fun m34 em34 hm34 => ?_)
        have Fm34 : ∀ c p : Int, ¬ (c = 52 ∧ 2 ≤ p ∧ p ≤ 3) ∧ ¬ (c = 52 ∧ 5 ≤ p ∧ p ≤ 8) ∧ ¬ c = 53 ∧ ¬ c = 54 ∧ ¬ (c = 1 ∧ 2 ≤ p ∧ p ≤ 4) → m34 c p = m0 c p := fun c p h => (congrFun (congrFun em34 _) _).trans ((up_ne (by omega)).trans (Fm25 c p h))
        refine ⟨hS.k52, ?_⟩
        have zb35 := hm34.f_52_2
        have q36 : m34 52 2 = (m0 52 2) := (Eq.refl (m34 52 2)).trans ((congrFun (congrFun em34 _) _).trans ((up_ne (by omega)).trans ((fm25 _ _ (by omega)).trans ((fm10 _ _ (by omega)).trans (Eq.refl (m0 52 2)).symm))))
        have zb37 := hm34.f_52_5
        have q38 : m34 52 5 = (m0 52 5) := (Eq.refl (m34 52 5)).trans ((congrFun (congrFun em34 _) _).trans ((up_ne (by omega)).trans ((fm25 _ _ (by omega)).trans ((fm10 _ _ (by omega)).trans (Eq.refl (m0 52 5)).symm))))
        have zb39 := hm34.f_1_2
        have q40 : m34 1 2 = (m25 1 2) := (Eq.refl (m34 1 2)).trans ((congrFun (congrFun em34 _) _).trans ((up_ne (by omega)).trans (Eq.refl (m25 1 2)).symm))
        have zb41 := hm34.f_1_1
        have q42 : m34 1 1 = (m0 1 1) := (Eq.refl (m34 1 1)).trans ((congrFun (congrFun em34 _) _).trans ((up_ne (by omega)).trans ((fm25 _ _ (by omega)).trans ((fm10 _ _ (by omega)).trans (Eq.refl (m0 1 1)).symm))))
        refine z_X3_write hS hm34 (fun m43 hm43 fm43 ym43_0 => ?_)
        have zb44 := hm43.f_52_2
        have zb45 := hm43.f_52_5
        have zb46 := hm43.f_1_2
        have zb47 := hm43.f_1_1
        have Fm43 : ∀ c p : Int, ¬ (c = 52 ∧ 2 ≤ p ∧ p ≤ 3) ∧ ¬ (c = 52 ∧ 5 ≤ p ∧ p ≤ 8) ∧ ¬ c = 53 ∧ ¬ c = 54 ∧ ¬ (c = 1 ∧ 2 ≤ p ∧ p ≤ 4) → m43 c p = m0 c p := fun c p h => (fm43 c p (by omega)).trans (Fm34 c p h)
        refine g_C ?_
        refine ⟨by omega, ?_⟩
        have zb48 := hm43.f_52_2
        have zb50 := hm43.f_52_5
        have q51 : m43 52 5 = (m0 52 5) := (Eq.refl (m43 52 5)).trans ((fm43 _ _ (by omega)).trans ((congrFun (congrFun em34 _) _).trans ((up_ne (by omega)).trans ((fm25 _ _ (by omega)).trans ((fm10 _ _ (by omega)).trans (Eq.refl (m0 52 5)).symm)))))
        have zb52 := hm43.f_1_2
        have q53 : m43 1 2 = (m25 1 2) := (Eq.refl (m43 1 2)).trans ((fm43 _ _ (by omega)).trans ((congrFun (congrFun em34 _) _).trans ((up_ne (by omega)).trans (Eq.refl (m25 1 2)).symm)))
        have zb54 := hm43.f_1_1
        have q55 : m43 1 1 = (m0 1 1) := (Eq.refl (m43 1 1)).trans ((fm43 _ _ (by omega)).trans ((congrFun (congrFun em34 _) _).trans ((up_ne (by omega)).trans ((fm25 _ _ (by omega)).trans ((fm10 _ _ (by omega)).trans (Eq.refl (m0 1 1)).symm)))))
        exact hk 1 m43 hm43 Fm43 (by omega) (by omega) (by omega) (by omega)
      · refine g_getr 0 1 rfl hS.k52 hm25.f_52_0 (by decide) ?_
        refine g_C ?_
        refine ⟨hS.k1, ?_⟩
        refine zr_X7_refuse hS hm25 (by omega) (by omega) (fun v56 m57 hm57 fm57 bv56 cv56 => ?_)
        have zb58 := hm57.f_52_2
        have zb59 := hm57.f_52_5
        have zb60 := hm57.f_1_2
        have zb61 := hm57.f_1_1
        have Fm57 : ∀ c p : Int, ¬ (c = 52 ∧ 2 ≤ p ∧ p ≤ 3) ∧ ¬ (c = 52 ∧ 5 ≤ p ∧ p ≤ 8) ∧ ¬ c = 53 ∧ ¬ c = 54 ∧ ¬ (c = 1 ∧ 2 ≤ p ∧ p ≤ 4) → m57 c p = m0 c p := fun c p h => (fm57 c p (by omega)).trans (Fm25 c p h)
        refine ⟨by omega, ?_⟩
        have zb62 := hm57.f_52_2
        have q63 : m57 52 2 = (m0 52 2) := (Eq.refl (m57 52 2)).trans ((fm57 _ _ (by omega)).trans ((fm25 _ _ (by omega)).trans ((fm10 _ _ (by omega)).trans (Eq.refl (m0 52 2)).symm)))
        have zb64 := hm57.f_52_5
        have q65 : m57 52 5 = (m0 52 5) := (Eq.refl (m57 52 5)).trans ((fm57 _ _ (by omega)).trans ((fm25 _ _ (by omega)).trans ((fm10 _ _ (by omega)).trans (Eq.refl (m0 52 5)).symm)))
        have zb66 := hm57.f_1_2
        have q67 : m57 1 2 = (m25 1 2) := (Eq.refl (m57 1 2)).trans ((fm57 _ _ (by omega)).trans (Eq.refl (m25 1 2)).symm)
        have zb68 := hm57.f_1_1
        have q69 : m57 1 1 = (m0 1 1) := (Eq.refl (m57 1 1)).trans ((fm57 _ _ (by omega)).trans ((fm25 _ _ (by omega)).trans ((fm10 _ _ (by omega)).trans (Eq.refl (m0 1 1)).symm)))
        exact hk v56 m57 hm57 Fm57 (by omega) (by omega) (by omega) (by omega)
    · refine g_getr 0 1 rfl hS.k52 hm25.f_52_0 (by decide) ?_
      refine g_C ?_
      refine ⟨hS.k1, ?_⟩
      refine zr_X7_refuse hS hm25 (by omega) (by omega) (fun v70 m71 hm71 fm71 bv70 cv70 => ?_)
      have zb72 := hm71.f_52_2
      have zb73 := hm71.f_52_5
      have zb74 := hm71.f_1_2
      have zb75 := hm71.f_1_1
      have Fm71 : ∀ c p : Int, ¬ (c = 52 ∧ 2 ≤ p ∧ p ≤ 3) ∧ ¬ (c = 52 ∧ 5 ≤ p ∧ p ≤ 8) ∧ ¬ c = 53 ∧ ¬ c = 54 ∧ ¬ (c = 1 ∧ 2 ≤ p ∧ p ≤ 4) → m71 c p = m0 c p := fun c p h => (fm71 c p (by omega)).trans (Fm25 c p h)
      refine ⟨by omega, ?_⟩
      have zb76 := hm71.f_52_2
      have q77 : m71 52 2 = (m0 52 2) := (Eq.refl (m71 52 2)).trans ((fm71 _ _ (by omega)).trans ((fm25 _ _ (by omega)).trans ((fm10 _ _ (by omega)).trans (Eq.refl (m0 52 2)).symm)))
      have zb78 := hm71.f_52_5
      have q79 : m71 52 5 = (m0 52 5) := (Eq.refl (m71 52 5)).trans ((fm71 _ _ (by omega)).trans ((fm25 _ _ (by omega)).trans ((fm10 _ _ (by omega)).trans (Eq.refl (m0 52 5)).symm)))
      have zb80 := hm71.f_1_2
      have q81 : m71 1 2 = (m25 1 2) := (Eq.refl (m71 1 2)).trans ((fm71 _ _ (by omega)).trans (Eq.refl (m25 1 2)).symm)
      have zb82 := hm71.f_1_1
      have q83 : m71 1 1 = (m0 1 1) := (Eq.refl (m71 1 1)).trans ((fm71 _ _ (by omega)).trans ((fm25 _ _ (by omega)).trans ((fm10 _ _ (by omega)).trans (Eq.refl (m0 1 1)).symm)))
      exact hk v70 m71 hm71 Fm71 (by omega) (by omega) (by omega) (by omega)
  · refine g_getr 0 1 rfl hS.k52 hm10.f_52_0 (by decide) ?_
    refine g_C ?_
    refine g_C ?_
    refine ⟨hS.k1, ?_⟩
    have zb84 := hm10.f_52_2
    have q85 : m10 52 2 = (m0 52 2) := (Eq.refl (m10 52 2)).trans ((fm10 _ _ (by omega)).trans (Eq.refl (m0 52 2)).symm)
    have zb86 := hm10.f_52_5
    have q87 : m10 52 5 = (m0 52 5) := (Eq.refl (m10 52 5)).trans ((fm10 _ _ (by omega)).trans (Eq.refl (m0 52 5)).symm)
    have zb88 := hm10.f_1_2
    have zb90 := hm10.f_1_1
    have q91 : m10 1 1 = (m0 1 1) := (Eq.refl (m10 1 1)).trans ((fm10 _ _ (by omega)).trans (Eq.refl (m0 1 1)).symm)
    refine zr_X7_takeNumber hS hm10 (by omega) (by omega) (by omega) (by omega) (fun v92 m93 hm93 fm93 bv92 cv92 yv92_0 yv92_1 yv92_2 => ?_)
    have zb94 := hm93.f_52_2
    have zb95 := hm93.f_52_5
    have zb96 := hm93.f_1_2
    have zb97 := hm93.f_1_1
    have Fm93 : ∀ c p : Int, ¬ (c = 52 ∧ 2 ≤ p ∧ p ≤ 3) ∧ ¬ (c = 52 ∧ 5 ≤ p ∧ p ≤ 8) ∧ ¬ c = 53 ∧ ¬ c = 54 ∧ ¬ (c = 1 ∧ 2 ≤ p ∧ p ≤ 4) → m93 c p = m0 c p := fun c p h => (fm93 c p (by omega)).trans (Fm10 c p h)
    refine u_X3_readValue_27 ?_
    refine g_C ?_
    refine g_if (fun w98 => ?_) (fun w98 => ?_)
    · refine g_get 3 (0) (60) rfl hS.k52 hm93.f_52_3 (fun v99 ev99 bv99 cv99 => ?_)
      refine g_C ?_
      refine g_if (fun w100 => ?_) (fun w100 => ?_)
      · refine g_get 3 (0) (60) rfl hS.k52 hm93.f_52_3 (fun v101 ev101 bv101 cv101 => ?_)
        have qv101 : v101 = v99 := ev101.trans ev99.symm
        refine g_C ?_
        refine g_A (by omega) (by omega) ?_
        refine g_put 3 rfl hS.k52 (hm93.w_52_3 (by omega) (by omega)) (fun m102 em102 hm102 => ?_)
        have Fm102 : ∀ c p : Int, ¬ (c = 52 ∧ 2 ≤ p ∧ p ≤ 3) ∧ ¬ (c = 52 ∧ 5 ≤ p ∧ p ≤ 8) ∧ ¬ c = 53 ∧ ¬ c = 54 ∧ ¬ (c = 1 ∧ 2 ≤ p ∧ p ≤ 4) → m102 c p = m0 c p := fun c p h => (congrFun (congrFun em102 _) _).trans ((up_ne (by omega)).trans (Fm93 c p h))
        refine ⟨hS.k52, ?_⟩
        have zb103 := hm102.f_52_2
        have q104 : m102 52 2 = (m0 52 2) := (Eq.refl (m102 52 2)).trans ((congrFun (congrFun em102 _) _).trans ((up_ne (by omega)).trans ((fm93 _ _ (by omega)).trans ((fm10 _ _ (by omega)).trans (Eq.refl (m0 52 2)).symm))))
        have zb105 := hm102.f_52_5
        have q106 : m102 52 5 = (m0 52 5) := (Eq.refl (m102 52 5)).trans ((congrFun (congrFun em102 _) _).trans ((up_ne (by omega)).trans ((fm93 _ _ (by omega)).trans ((fm10 _ _ (by omega)).trans (Eq.refl (m0 52 5)).symm))))
        have zb107 := hm102.f_1_2
        have q108 : m102 1 2 = (m93 1 2) := (Eq.refl (m102 1 2)).trans ((congrFun (congrFun em102 _) _).trans ((up_ne (by omega)).trans (Eq.refl (m93 1 2)).symm))
        have zb109 := hm102.f_1_1
        have q110 : m102 1 1 = (m0 1 1) := (Eq.refl (m102 1 1)).trans ((congrFun (congrFun em102 _) _).trans ((up_ne (by omega)).trans ((fm93 _ _ (by omega)).trans ((fm10 _ _ (by omega)).trans (Eq.refl (m0 1 1)).symm))))
        refine z_X3_write hS hm102 (fun m111 hm111 fm111 ym111_0 => ?_)
        have zb112 := hm111.f_52_2
        have zb113 := hm111.f_52_5
        have zb114 := hm111.f_1_2
        have zb115 := hm111.f_1_1
        have Fm111 : ∀ c p : Int, ¬ (c = 52 ∧ 2 ≤ p ∧ p ≤ 3) ∧ ¬ (c = 52 ∧ 5 ≤ p ∧ p ≤ 8) ∧ ¬ c = 53 ∧ ¬ c = 54 ∧ ¬ (c = 1 ∧ 2 ≤ p ∧ p ≤ 4) → m111 c p = m0 c p := fun c p h => (fm111 c p (by omega)).trans (Fm102 c p h)
        refine g_C ?_
        refine ⟨by omega, ?_⟩
        have zb116 := hm111.f_52_2
        have zb118 := hm111.f_52_5
        have q119 : m111 52 5 = (m0 52 5) := (Eq.refl (m111 52 5)).trans ((fm111 _ _ (by omega)).trans ((congrFun (congrFun em102 _) _).trans ((up_ne (by omega)).trans ((fm93 _ _ (by omega)).trans ((fm10 _ _ (by omega)).trans (Eq.refl (m0 52 5)).symm)))))
        have zb120 := hm111.f_1_2
        have q121 : m111 1 2 = (m93 1 2) := (Eq.refl (m111 1 2)).trans ((fm111 _ _ (by omega)).trans ((congrFun (congrFun em102 _) _).trans ((up_ne (by omega)).trans (Eq.refl (m93 1 2)).symm)))
        have zb122 := hm111.f_1_1
        have q123 : m111 1 1 = (m0 1 1) := (Eq.refl (m111 1 1)).trans ((fm111 _ _ (by omega)).trans ((congrFun (congrFun em102 _) _).trans ((up_ne (by omega)).trans ((fm93 _ _ (by omega)).trans ((fm10 _ _ (by omega)).trans (Eq.refl (m0 1 1)).symm)))))
        exact hk 1 m111 hm111 Fm111 (by omega) (by omega) (by omega) (by omega)
      · refine g_getr 0 1 rfl hS.k52 hm93.f_52_0 (by decide) ?_
        refine g_C ?_
        refine ⟨hS.k1, ?_⟩
        refine zr_X7_refuse hS hm93 (by omega) (by omega) (fun v124 m125 hm125 fm125 bv124 cv124 => ?_)
        have zb126 := hm125.f_52_2
        have zb127 := hm125.f_52_5
        have zb128 := hm125.f_1_2
        have zb129 := hm125.f_1_1
        have Fm125 : ∀ c p : Int, ¬ (c = 52 ∧ 2 ≤ p ∧ p ≤ 3) ∧ ¬ (c = 52 ∧ 5 ≤ p ∧ p ≤ 8) ∧ ¬ c = 53 ∧ ¬ c = 54 ∧ ¬ (c = 1 ∧ 2 ≤ p ∧ p ≤ 4) → m125 c p = m0 c p := fun c p h => (fm125 c p (by omega)).trans (Fm93 c p h)
        refine ⟨by omega, ?_⟩
        have zb130 := hm125.f_52_2
        have q131 : m125 52 2 = (m0 52 2) := (Eq.refl (m125 52 2)).trans ((fm125 _ _ (by omega)).trans ((fm93 _ _ (by omega)).trans ((fm10 _ _ (by omega)).trans (Eq.refl (m0 52 2)).symm)))
        have zb132 := hm125.f_52_5
        have q133 : m125 52 5 = (m0 52 5) := (Eq.refl (m125 52 5)).trans ((fm125 _ _ (by omega)).trans ((fm93 _ _ (by omega)).trans ((fm10 _ _ (by omega)).trans (Eq.refl (m0 52 5)).symm)))
        have zb134 := hm125.f_1_2
        have q135 : m125 1 2 = (m93 1 2) := (Eq.refl (m125 1 2)).trans ((fm125 _ _ (by omega)).trans (Eq.refl (m93 1 2)).symm)
        have zb136 := hm125.f_1_1
        have q137 : m125 1 1 = (m0 1 1) := (Eq.refl (m125 1 1)).trans ((fm125 _ _ (by omega)).trans ((fm93 _ _ (by omega)).trans ((fm10 _ _ (by omega)).trans (Eq.refl (m0 1 1)).symm)))
        exact hk v124 m125 hm125 Fm125 (by omega) (by omega) (by omega) (by omega)
    · refine g_getr 0 1 rfl hS.k52 hm93.f_52_0 (by decide) ?_
      refine g_C ?_
      refine ⟨hS.k1, ?_⟩
      refine zr_X7_refuse hS hm93 (by omega) (by omega) (fun v138 m139 hm139 fm139 bv138 cv138 => ?_)
      have zb140 := hm139.f_52_2
      have zb141 := hm139.f_52_5
      have zb142 := hm139.f_1_2
      have zb143 := hm139.f_1_1
      have Fm139 : ∀ c p : Int, ¬ (c = 52 ∧ 2 ≤ p ∧ p ≤ 3) ∧ ¬ (c = 52 ∧ 5 ≤ p ∧ p ≤ 8) ∧ ¬ c = 53 ∧ ¬ c = 54 ∧ ¬ (c = 1 ∧ 2 ≤ p ∧ p ≤ 4) → m139 c p = m0 c p := fun c p h => (fm139 c p (by omega)).trans (Fm93 c p h)
      refine ⟨by omega, ?_⟩
      have zb144 := hm139.f_52_2
      have q145 : m139 52 2 = (m0 52 2) := (Eq.refl (m139 52 2)).trans ((fm139 _ _ (by omega)).trans ((fm93 _ _ (by omega)).trans ((fm10 _ _ (by omega)).trans (Eq.refl (m0 52 2)).symm)))
      have zb146 := hm139.f_52_5
      have q147 : m139 52 5 = (m0 52 5) := (Eq.refl (m139 52 5)).trans ((fm139 _ _ (by omega)).trans ((fm93 _ _ (by omega)).trans ((fm10 _ _ (by omega)).trans (Eq.refl (m0 52 5)).symm)))
      have zb148 := hm139.f_1_2
      have q149 : m139 1 2 = (m93 1 2) := (Eq.refl (m139 1 2)).trans ((fm139 _ _ (by omega)).trans (Eq.refl (m93 1 2)).symm)
      have zb150 := hm139.f_1_1
      have q151 : m139 1 1 = (m0 1 1) := (Eq.refl (m139 1 1)).trans ((fm139 _ _ (by omega)).trans ((fm93 _ _ (by omega)).trans ((fm10 _ _ (by omega)).trans (Eq.refl (m0 1 1)).symm)))
      exact hk v138 m139 hm139 Fm139 (by omega) (by omega) (by omega) (by omega)
theorem z_X3_readClause {X : Mm} {S : Sh} {m0 : Mm} {K : Int → Mm → Prop} {u1 : Int} (hS : Shp S) (hm0 : Inv X S m0) (l_u1 : 0 ≤ u1) (h_u1 : u1 ≤ 12) (p0 : m0 52 2 ≤ m0 1 2) (hk : ∀ (r : Int) (M1 : Mm), Inv X S M1 → (∀ c p : Int, ¬ (c = 52 ∧ 2 ≤ p ∧ p ≤ 3) ∧ ¬ (c = 52 ∧ 5 ≤ p ∧ p ≤ 8) ∧ ¬ c = 53 ∧ ¬ c = 54 ∧ ¬ (c = 1 ∧ 2 ≤ p ∧ p ≤ 4) → M1 c p = m0 c p) → 0 ≤ r → r ≤ 1 → (r = 0 ∨ M1 52 2 + 1 ≤ M1 1 2) → (m0 1 2 ≤ M1 1 2) → K r M1) : wp_X3_readClause S m0 52 u1 K := by
  have Fm0 : ∀ c p : Int, ¬ (c = 52 ∧ 2 ≤ p ∧ p ≤ 3) ∧ ¬ (c = 52 ∧ 5 ≤ p ∧ p ≤ 8) ∧ ¬ c = 53 ∧ ¬ c = 54 ∧ ¬ (c = 1 ∧ 2 ≤ p ∧ p ≤ 4) → m0 c p = m0 c p := fun c p _ => rfl
  refine u_X3_readClause ?_
  refine g_getr 0 1 rfl hS.k52 hm0.f_52_0 (by decide) ?_
  refine g_C ?_
  refine ⟨hS.k1, ?_⟩
  have zb1 := hm0.f_52_2
  have zb3 := hm0.f_52_5
  have zb5 := hm0.f_1_2
  have zb7 := hm0.f_1_1
  refine zr_X7_takesWord hS hm0 (by omega) (by omega) (fun v9 m10 hm10 fm10 bv9 cv9 yv9_0 yv9_1 => ?_)
  have zb11 := hm10.f_52_2
  have zb12 := hm10.f_52_5
  have zb13 := hm10.f_1_2
  have zb14 := hm10.f_1_1
  have Fm10 : ∀ c p : Int, ¬ (c = 52 ∧ 2 ≤ p ∧ p ≤ 3) ∧ ¬ (c = 52 ∧ 5 ≤ p ∧ p ≤ 8) ∧ ¬ c = 53 ∧ ¬ c = 54 ∧ ¬ (c = 1 ∧ 2 ≤ p ∧ p ≤ 4) → m10 c p = m0 c p := fun c p h => (fm10 c p (by omega)).trans (Fm0 c p h)
  refine g_if (fun w15 => ?_) (fun w15 => ?_)
  · refine g_C ?_
    refine g_if (fun w16 => ?_) (fun w16 => ?_)
    · refine g_C ?_
      refine g_put 5 rfl hS.k52 (hm10.w_52_5 (by omega) (by omega)) (fun m17 em17 hm17 => ?_)
      have Fm17 : ∀ c p : Int, ¬ (c = 52 ∧ 2 ≤ p ∧ p ≤ 3) ∧ ¬ (c = 52 ∧ 5 ≤ p ∧ p ≤ 8) ∧ ¬ c = 53 ∧ ¬ c = 54 ∧ ¬ (c = 1 ∧ 2 ≤ p ∧ p ≤ 4) → m17 c p = m0 c p := fun c p h => (congrFun (congrFun em17 _) _).trans ((up_ne (by omega)).trans (Fm10 c p h))
      refine g_C ?_
      refine g_put 6 rfl hS.k52 (hm17.w_52_6 (by omega) (by omega)) (fun m18 em18 hm18 => ?_)
      have Fm18 : ∀ c p : Int, ¬ (c = 52 ∧ 2 ≤ p ∧ p ≤ 3) ∧ ¬ (c = 52 ∧ 5 ≤ p ∧ p ≤ 8) ∧ ¬ c = 53 ∧ ¬ c = 54 ∧ ¬ (c = 1 ∧ 2 ≤ p ∧ p ≤ 4) → m18 c p = m0 c p := fun c p h => (congrFun (congrFun em18 _) _).trans ((up_ne (by omega)).trans (Fm17 c p h))
      refine g_C ?_
      refine g_put 7 rfl hS.k52 (hm18.w_52_7 (by omega) (by omega)) (fun m19 em19 hm19 => ?_)
      have Fm19 : ∀ c p : Int, ¬ (c = 52 ∧ 2 ≤ p ∧ p ≤ 3) ∧ ¬ (c = 52 ∧ 5 ≤ p ∧ p ≤ 8) ∧ ¬ c = 53 ∧ ¬ c = 54 ∧ ¬ (c = 1 ∧ 2 ≤ p ∧ p ≤ 4) → m19 c p = m0 c p := fun c p h => (congrFun (congrFun em19 _) _).trans ((up_ne (by omega)).trans (Fm18 c p h))
      refine g_C ?_
      refine g_put 8 rfl hS.k52 (hm19.w_52_8 (by omega) (by omega)) (fun m20 em20 hm20 => ?_)
      have Fm20 : ∀ c p : Int, ¬ (c = 52 ∧ 2 ≤ p ∧ p ≤ 3) ∧ ¬ (c = 52 ∧ 5 ≤ p ∧ p ≤ 8) ∧ ¬ c = 53 ∧ ¬ c = 54 ∧ ¬ (c = 1 ∧ 2 ≤ p ∧ p ≤ 4) → m20 c p = m0 c p := fun c p h => (congrFun (congrFun em20 _) _).trans ((up_ne (by omega)).trans (Fm19 c p h))
      refine g_C ?_
      have L_n_l295 : ∀ (n_l295 : Nat) (u22 : Int) (m23 : Mm), Inv X S m23 → (∀ c p : Int, ¬ (c = 52 ∧ 2 ≤ p ∧ p ≤ 3) ∧ ¬ (c = 52 ∧ 5 ≤ p ∧ p ≤ 8) ∧ ¬ c = 53 ∧ ¬ c = 54 ∧ ¬ (c = 1 ∧ 2 ≤ p ∧ p ≤ 4) → m23 c p = m0 c p) → 0 ≤ u22 → u22 ≤ 400 → (m23 52 2 + m23 52 5 + 2 ≤ m23 1 2) → (m0 1 2 ≤ m23 1 2) → 401 - u22 ≤ (n_l295 : Int) → wp_X3_readClause_58 S K n_l295 52 u22 m23 := by
        intro n_l295
        induction n_l295 with
        | zero => intro u22 m23 hm23 Fm23 bu22 cu22 xn_l295_0 xn_l295_1 zn_l295; exfalso; omega
        | succ n_l295 ih_n_l295 =>
          intro u22 m23 hm23 Fm23 bu22 cu22 xn_l295_0 xn_l295_1 zn_l295
          refine u_X3_readClause_58 ?_
          refine g_C ?_
          refine g_if (fun w296 => ?_) (fun w296 => ?_)
          · refine g_C ?_
            refine ⟨by omega, ?_⟩
            have zb297 := hm23.f_52_2
            have zb299 := hm23.f_52_5
            have zb301 := hm23.f_1_2
            have zb303 := hm23.f_1_1
            have q304 : m23 1 1 = (m0 1 1) := (Eq.refl (m23 1 1)).trans ((Fm23 _ _ (by omega)).trans (Eq.refl (m0 1 1)).symm)
            exact hk 0 m23 hm23 Fm23 (by omega) (by omega) (by omega) (by omega)
          · refine ⟨hS.k52, ?_⟩
            have zb305 := hm23.f_52_2
            have zb307 := hm23.f_52_5
            have zb309 := hm23.f_1_2
            have zb311 := hm23.f_1_1
            have q312 : m23 1 1 = (m0 1 1) := (Eq.refl (m23 1 1)).trans ((Fm23 _ _ (by omega)).trans (Eq.refl (m0 1 1)).symm)
            refine z_X3_readValue hS hm23 (fun v313 m314 hm314 fm314 bv313 cv313 yv313_0 yv313_1 => ?_)
            have zb315 := hm314.f_52_2
            have zb316 := hm314.f_52_5
            have zb317 := hm314.f_1_2
            have zb318 := hm314.f_1_1
            have Fm314 : ∀ c p : Int, ¬ (c = 52 ∧ 2 ≤ p ∧ p ≤ 3) ∧ ¬ (c = 52 ∧ 5 ≤ p ∧ p ≤ 8) ∧ ¬ c = 53 ∧ ¬ c = 54 ∧ ¬ (c = 1 ∧ 2 ≤ p ∧ p ≤ 4) → m314 c p = m0 c p := fun c p h => (fm314 c p (by omega)).trans (Fm23 c p h)
            refine g_if (fun w319 => ?_) (fun w319 => ?_)
            · refine ⟨hS.k52, ?_⟩
              have zb320 := hm314.f_52_2
              have zb322 := hm314.f_52_5
              have zb324 := hm314.f_1_2
              have zb326 := hm314.f_1_1
              have q327 : m314 1 1 = (m0 1 1) := (Eq.refl (m314 1 1)).trans ((fm314 _ _ (by omega)).trans ((Fm23 _ _ (by omega)).trans (Eq.refl (m0 1 1)).symm))
              refine z_X3_closeBrackets hS hm314 (fun m328 hm328 fm328 ym328_0 ym328_1 => ?_)
              have zb329 := hm328.f_52_2
              have zb330 := hm328.f_52_5
              have zb331 := hm328.f_1_2
              have zb332 := hm328.f_1_1
              have Fm328 : ∀ c p : Int, ¬ (c = 52 ∧ 2 ≤ p ∧ p ≤ 3) ∧ ¬ (c = 52 ∧ 5 ≤ p ∧ p ≤ 8) ∧ ¬ c = 53 ∧ ¬ c = 54 ∧ ¬ (c = 1 ∧ 2 ≤ p ∧ p ≤ 4) → m328 c p = m0 c p := fun c p h => (fm328 c p (by omega)).trans (Fm314 c p h)
              refine ⟨hS.k52, ?_⟩
              have zb333 := hm328.f_52_2
              have zb335 := hm328.f_52_5
              have zb337 := hm328.f_1_2
              have zb339 := hm328.f_1_1
              have q340 : m328 1 1 = (m0 1 1) := (Eq.refl (m328 1 1)).trans ((fm328 _ _ (by omega)).trans ((fm314 _ _ (by omega)).trans ((Fm23 _ _ (by omega)).trans (Eq.refl (m0 1 1)).symm)))
              refine z_X3_endsHere hS hm328 (fun v341 m342 hm342 fm342 bv341 cv341 yv341_0 => ?_)
              have zb343 := hm342.f_52_2
              have zb344 := hm342.f_52_5
              have zb345 := hm342.f_1_2
              have zb346 := hm342.f_1_1
              have Fm342 : ∀ c p : Int, ¬ (c = 52 ∧ 2 ≤ p ∧ p ≤ 3) ∧ ¬ (c = 52 ∧ 5 ≤ p ∧ p ≤ 8) ∧ ¬ c = 53 ∧ ¬ c = 54 ∧ ¬ (c = 1 ∧ 2 ≤ p ∧ p ≤ 4) → m342 c p = m0 c p := fun c p h => (fm342 c p (by omega)).trans (Fm328 c p h)
              refine g_if (fun w347 => ?_) (fun w347 => ?_)
              · refine ⟨hS.k52, ?_⟩
                have zb348 := hm342.f_52_2
                have q349 : m342 52 2 = (m328 52 2) := (Eq.refl (m342 52 2)).trans ((fm342 _ _ (by omega)).trans (Eq.refl (m328 52 2)).symm)
                have zb350 := hm342.f_52_5
                have q351 : m342 52 5 = (m328 52 5) := (Eq.refl (m342 52 5)).trans ((fm342 _ _ (by omega)).trans (Eq.refl (m328 52 5)).symm)
                have zb352 := hm342.f_1_2
                have zb354 := hm342.f_1_1
                have q355 : m342 1 1 = (m0 1 1) := (Eq.refl (m342 1 1)).trans ((fm342 _ _ (by omega)).trans ((fm328 _ _ (by omega)).trans ((fm314 _ _ (by omega)).trans ((Fm23 _ _ (by omega)).trans (Eq.refl (m0 1 1)).symm))))
                refine z_X3_readJoint hS hm342 (fun v356 m357 hm357 fm357 bv356 cv356 yv356_0 yv356_1 => ?_)
                have zb358 := hm357.f_52_2
                have zb359 := hm357.f_52_5
                have zb360 := hm357.f_1_2
                have zb361 := hm357.f_1_1
                have Fm357 : ∀ c p : Int, ¬ (c = 52 ∧ 2 ≤ p ∧ p ≤ 3) ∧ ¬ (c = 52 ∧ 5 ≤ p ∧ p ≤ 8) ∧ ¬ c = 53 ∧ ¬ c = 54 ∧ ¬ (c = 1 ∧ 2 ≤ p ∧ p ≤ 4) → m357 c p = m0 c p := fun c p h => (fm357 c p (by omega)).trans (Fm342 c p h)
                refine g_if (fun w362 => ?_) (fun w362 => ?_)
                · refine g_A (by omega) (by omega) ?_
                  have zb363 := hm357.f_52_2
                  have zb365 := hm357.f_52_5
                  have zb367 := hm357.f_1_2
                  have zb369 := hm357.f_1_1
                  have q370 : m357 1 1 = (m0 1 1) := (Eq.refl (m357 1 1)).trans ((fm357 _ _ (by omega)).trans ((fm342 _ _ (by omega)).trans ((fm328 _ _ (by omega)).trans ((fm314 _ _ (by omega)).trans ((Fm23 _ _ (by omega)).trans (Eq.refl (m0 1 1)).symm)))))
                  exact ih_n_l295 (u22 + 1) m357 hm357 Fm357 (by omega) (by omega) (by omega) (by omega) (by omega)
                · refine g_C ?_
                  refine ⟨by omega, ?_⟩
                  have zb371 := hm357.f_52_2
                  have zb373 := hm357.f_52_5
                  have zb375 := hm357.f_1_2
                  have zb377 := hm357.f_1_1
                  have q378 : m357 1 1 = (m0 1 1) := (Eq.refl (m357 1 1)).trans ((fm357 _ _ (by omega)).trans ((fm342 _ _ (by omega)).trans ((fm328 _ _ (by omega)).trans ((fm314 _ _ (by omega)).trans ((Fm23 _ _ (by omega)).trans (Eq.refl (m0 1 1)).symm)))))
                  exact hk 0 m357 hm357 Fm357 (by omega) (by omega) (by omega) (by omega)
              · refine g_C ?_
                refine ⟨hS.k52, ?_⟩
                have zb379 := hm342.f_52_2
                have q380 : m342 52 2 = (m328 52 2) := (Eq.refl (m342 52 2)).trans ((fm342 _ _ (by omega)).trans (Eq.refl (m328 52 2)).symm)
                have zb381 := hm342.f_52_5
                have q382 : m342 52 5 = (m328 52 5) := (Eq.refl (m342 52 5)).trans ((fm342 _ _ (by omega)).trans (Eq.refl (m328 52 5)).symm)
                have zb383 := hm342.f_1_2
                have zb385 := hm342.f_1_1
                have q386 : m342 1 1 = (m0 1 1) := (Eq.refl (m342 1 1)).trans ((fm342 _ _ (by omega)).trans ((fm328 _ _ (by omega)).trans ((fm314 _ _ (by omega)).trans ((Fm23 _ _ (by omega)).trans (Eq.refl (m0 1 1)).symm))))
                refine z_X3_unpile hS hm342 (by omega) (by omega) (fun m387 hm387 fm387 ym387_0 => ?_)
                have zb388 := hm387.f_52_2
                have zb389 := hm387.f_52_5
                have zb390 := hm387.f_1_2
                have zb391 := hm387.f_1_1
                have Fm387 : ∀ c p : Int, ¬ (c = 52 ∧ 2 ≤ p ∧ p ≤ 3) ∧ ¬ (c = 52 ∧ 5 ≤ p ∧ p ≤ 8) ∧ ¬ c = 53 ∧ ¬ c = 54 ∧ ¬ (c = 1 ∧ 2 ≤ p ∧ p ≤ 4) → m387 c p = m0 c p := fun c p h => (fm387 c p (by omega)).trans (Fm342 c p h)
                refine g_get 8 (0) (3) rfl hS.k52 hm387.f_52_8 (fun v392 ev392 bv392 cv392 => ?_)
                refine g_if (fun w393 => ?_) (fun w393 => ?_)
                · refine g_C ?_
                  refine u_X3_readClause_105 ?_
                  refine ⟨hS.k52, ?_⟩
                  have zb394 := hm387.f_52_2
                  have zb396 := hm387.f_52_5
                  have zb398 := hm387.f_1_2
                  have q399 : m387 1 2 = (m342 1 2) := (Eq.refl (m387 1 2)).trans ((fm387 _ _ (by omega)).trans (Eq.refl (m342 1 2)).symm)
                  have zb400 := hm387.f_1_1
                  have q401 : m387 1 1 = (m0 1 1) := (Eq.refl (m387 1 1)).trans ((fm387 _ _ (by omega)).trans ((fm342 _ _ (by omega)).trans ((fm328 _ _ (by omega)).trans ((fm314 _ _ (by omega)).trans ((Fm23 _ _ (by omega)).trans (Eq.refl (m0 1 1)).symm)))))
                  refine z_X3_write hS hm387 (fun m402 hm402 fm402 ym402_0 => ?_)
                  have zb403 := hm402.f_52_2
                  have zb404 := hm402.f_52_5
                  have zb405 := hm402.f_1_2
                  have zb406 := hm402.f_1_1
                  have Fm402 : ∀ c p : Int, ¬ (c = 52 ∧ 2 ≤ p ∧ p ≤ 3) ∧ ¬ (c = 52 ∧ 5 ≤ p ∧ p ≤ 8) ∧ ¬ c = 53 ∧ ¬ c = 54 ∧ ¬ (c = 1 ∧ 2 ≤ p ∧ p ≤ 4) → m402 c p = m0 c p := fun c p h => (fm402 c p (by omega)).trans (Fm387 c p h)
                  refine g_C ?_
                  refine ⟨by omega, ?_⟩
                  have zb407 := hm402.f_52_2
                  have zb409 := hm402.f_52_5
                  have q410 : m402 52 5 = (m387 52 5) := (Eq.refl (m402 52 5)).trans ((fm402 _ _ (by omega)).trans (Eq.refl (m387 52 5)).symm)
                  have zb411 := hm402.f_1_2
                  have q412 : m402 1 2 = (m342 1 2) := (Eq.refl (m402 1 2)).trans ((fm402 _ _ (by omega)).trans ((fm387 _ _ (by omega)).trans (Eq.refl (m342 1 2)).symm))
                  have zb413 := hm402.f_1_1
                  have q414 : m402 1 1 = (m0 1 1) := (Eq.refl (m402 1 1)).trans ((fm402 _ _ (by omega)).trans ((fm387 _ _ (by omega)).trans ((fm342 _ _ (by omega)).trans ((fm328 _ _ (by omega)).trans ((fm314 _ _ (by omega)).trans ((Fm23 _ _ (by omega)).trans (Eq.refl (m0 1 1)).symm))))))
                  exact hk 1 m402 hm402 Fm402 (by omega) (by omega) (by omega) (by omega)
                · refine g_C ?_
                  refine u_X3_readClause_105 ?_
                  refine ⟨hS.k52, ?_⟩
                  have zb415 := hm387.f_52_2
                  have zb417 := hm387.f_52_5
                  have zb419 := hm387.f_1_2
                  have q420 : m387 1 2 = (m342 1 2) := (Eq.refl (m387 1 2)).trans ((fm387 _ _ (by omega)).trans (Eq.refl (m342 1 2)).symm)
                  have zb421 := hm387.f_1_1
                  have q422 : m387 1 1 = (m0 1 1) := (Eq.refl (m387 1 1)).trans ((fm387 _ _ (by omega)).trans ((fm342 _ _ (by omega)).trans ((fm328 _ _ (by omega)).trans ((fm314 _ _ (by omega)).trans ((Fm23 _ _ (by omega)).trans (Eq.refl (m0 1 1)).symm)))))
                  refine z_X3_write hS hm387 (fun m423 hm423 fm423 ym423_0 => ?_)
                  have zb424 := hm423.f_52_2
                  have zb425 := hm423.f_52_5
                  have zb426 := hm423.f_1_2
                  have zb427 := hm423.f_1_1
                  have Fm423 : ∀ c p : Int, ¬ (c = 52 ∧ 2 ≤ p ∧ p ≤ 3) ∧ ¬ (c = 52 ∧ 5 ≤ p ∧ p ≤ 8) ∧ ¬ c = 53 ∧ ¬ c = 54 ∧ ¬ (c = 1 ∧ 2 ≤ p ∧ p ≤ 4) → m423 c p = m0 c p := fun c p h => (fm423 c p (by omega)).trans (Fm387 c p h)
                  refine g_C ?_
                  refine ⟨by omega, ?_⟩
                  have zb428 := hm423.f_52_2
                  have zb430 := hm423.f_52_5
                  have q431 : m423 52 5 = (m387 52 5) := (Eq.refl (m423 52 5)).trans ((fm423 _ _ (by omega)).trans (Eq.refl (m387 52 5)).symm)
                  have zb432 := hm423.f_1_2
                  have q433 : m423 1 2 = (m342 1 2) := (Eq.refl (m423 1 2)).trans ((fm423 _ _ (by omega)).trans ((fm387 _ _ (by omega)).trans (Eq.refl (m342 1 2)).symm))
                  have zb434 := hm423.f_1_1
                  have q435 : m423 1 1 = (m0 1 1) := (Eq.refl (m423 1 1)).trans ((fm423 _ _ (by omega)).trans ((fm387 _ _ (by omega)).trans ((fm342 _ _ (by omega)).trans ((fm328 _ _ (by omega)).trans ((fm314 _ _ (by omega)).trans ((Fm23 _ _ (by omega)).trans (Eq.refl (m0 1 1)).symm))))))
                  exact hk 1 m423 hm423 Fm423 (by omega) (by omega) (by omega) (by omega)
            · refine g_C ?_
              refine ⟨by omega, ?_⟩
              have zb436 := hm314.f_52_2
              have zb438 := hm314.f_52_5
              have zb440 := hm314.f_1_2
              have zb442 := hm314.f_1_1
              have q443 : m314 1 1 = (m0 1 1) := (Eq.refl (m314 1 1)).trans ((fm314 _ _ (by omega)).trans ((Fm23 _ _ (by omega)).trans (Eq.refl (m0 1 1)).symm))
              exact hk 0 m314 hm314 Fm314 (by omega) (by omega) (by omega) (by omega)
      have zb444 := hm20.f_52_2
      have q445 : m20 52 2 = (m0 52 2) := (Eq.refl (m20 52 2)).trans ((congrFun (congrFun em20 _) _).trans ((up_ne (by omega)).trans ((congrFun (congrFun em19 _) _).trans ((up_ne (by omega)).trans ((congrFun (congrFun em18 _) _).trans ((up_ne (by omega)).trans ((congrFun (congrFun em17 _) _).trans ((up_ne (by omega)).trans ((fm10 _ _ (by omega)).trans (Eq.refl (m0 52 2)).symm)))))))))
      have zb446 := hm20.f_52_5
      have q447 : m20 52 5 = 0 := (Eq.refl (m20 52 5)).trans ((congrFun (congrFun em20 _) _).trans ((up_ne (by omega)).trans ((congrFun (congrFun em19 _) _).trans ((up_ne (by omega)).trans ((congrFun (congrFun em18 _) _).trans ((up_ne (by omega)).trans ((congrFun (congrFun em17 _) _).trans (up_ate (by omega)))))))))
      have zb448 := hm20.f_1_2
      have q449 : m20 1 2 = (m10 1 2) := (Eq.refl (m20 1 2)).trans ((congrFun (congrFun em20 _) _).trans ((up_ne (by omega)).trans ((congrFun (congrFun em19 _) _).trans ((up_ne (by omega)).trans ((congrFun (congrFun em18 _) _).trans ((up_ne (by omega)).trans ((congrFun (congrFun em17 _) _).trans ((up_ne (by omega)).trans (Eq.refl (m10 1 2)).symm))))))))
      have zb450 := hm20.f_1_1
      have q451 : m20 1 1 = (m0 1 1) := (Eq.refl (m20 1 1)).trans ((congrFun (congrFun em20 _) _).trans ((up_ne (by omega)).trans ((congrFun (congrFun em19 _) _).trans ((up_ne (by omega)).trans ((congrFun (congrFun em18 _) _).trans ((up_ne (by omega)).trans ((congrFun (congrFun em17 _) _).trans ((up_ne (by omega)).trans ((fm10 _ _ (by omega)).trans (Eq.refl (m0 1 1)).symm)))))))))
      exact ⟨401, L_n_l295 401 0 m20 hm20 Fm20 (by omega) (by omega) (by omega) (by omega) (by omega)⟩
    · refine g_getr 0 1 rfl hS.k52 hm10.f_52_0 (by decide) ?_
      refine g_C ?_
      refine ⟨hS.k1, ?_⟩
      refine zr_X7_refuse hS hm10 (by omega) (by omega) (fun v452 m453 hm453 fm453 bv452 cv452 => ?_)
      have zb454 := hm453.f_52_2
      have zb455 := hm453.f_52_5
      have zb456 := hm453.f_1_2
      have zb457 := hm453.f_1_1
      have Fm453 : ∀ c p : Int, ¬ (c = 52 ∧ 2 ≤ p ∧ p ≤ 3) ∧ ¬ (c = 52 ∧ 5 ≤ p ∧ p ≤ 8) ∧ ¬ c = 53 ∧ ¬ c = 54 ∧ ¬ (c = 1 ∧ 2 ≤ p ∧ p ≤ 4) → m453 c p = m0 c p := fun c p h => (fm453 c p (by omega)).trans (Fm10 c p h)
      refine ⟨by omega, ?_⟩
      have zb458 := hm453.f_52_2
      have q459 : m453 52 2 = (m0 52 2) := (Eq.refl (m453 52 2)).trans ((fm453 _ _ (by omega)).trans ((fm10 _ _ (by omega)).trans (Eq.refl (m0 52 2)).symm))
      have zb460 := hm453.f_52_5
      have q461 : m453 52 5 = (m0 52 5) := (Eq.refl (m453 52 5)).trans ((fm453 _ _ (by omega)).trans ((fm10 _ _ (by omega)).trans (Eq.refl (m0 52 5)).symm))
      have zb462 := hm453.f_1_2
      have q463 : m453 1 2 = (m10 1 2) := (Eq.refl (m453 1 2)).trans ((fm453 _ _ (by omega)).trans (Eq.refl (m10 1 2)).symm)
      have zb464 := hm453.f_1_1
      have q465 : m453 1 1 = (m0 1 1) := (Eq.refl (m453 1 1)).trans ((fm453 _ _ (by omega)).trans ((fm10 _ _ (by omega)).trans (Eq.refl (m0 1 1)).symm))
      exact hk v452 m453 hm453 Fm453 (by omega) (by omega) (by omega) (by omega)
  · refine g_getr 0 1 rfl hS.k52 hm10.f_52_0 (by decide) ?_
    refine g_C ?_
    refine ⟨hS.k1, ?_⟩
    refine zr_X7_refuse hS hm10 (by omega) (by omega) (fun v466 m467 hm467 fm467 bv466 cv466 => ?_)
    have zb468 := hm467.f_52_2
    have zb469 := hm467.f_52_5
    have zb470 := hm467.f_1_2
    have zb471 := hm467.f_1_1
    have Fm467 : ∀ c p : Int, ¬ (c = 52 ∧ 2 ≤ p ∧ p ≤ 3) ∧ ¬ (c = 52 ∧ 5 ≤ p ∧ p ≤ 8) ∧ ¬ c = 53 ∧ ¬ c = 54 ∧ ¬ (c = 1 ∧ 2 ≤ p ∧ p ≤ 4) → m467 c p = m0 c p := fun c p h => (fm467 c p (by omega)).trans (Fm10 c p h)
    refine ⟨by omega, ?_⟩
    have zb472 := hm467.f_52_2
    have q473 : m467 52 2 = (m0 52 2) := (Eq.refl (m467 52 2)).trans ((fm467 _ _ (by omega)).trans ((fm10 _ _ (by omega)).trans (Eq.refl (m0 52 2)).symm))
    have zb474 := hm467.f_52_5
    have q475 : m467 52 5 = (m0 52 5) := (Eq.refl (m467 52 5)).trans ((fm467 _ _ (by omega)).trans ((fm10 _ _ (by omega)).trans (Eq.refl (m0 52 5)).symm))
    have zb476 := hm467.f_1_2
    have q477 : m467 1 2 = (m10 1 2) := (Eq.refl (m467 1 2)).trans ((fm467 _ _ (by omega)).trans (Eq.refl (m10 1 2)).symm)
    have zb478 := hm467.f_1_1
    have q479 : m467 1 1 = (m0 1 1) := (Eq.refl (m467 1 1)).trans ((fm467 _ _ (by omega)).trans ((fm10 _ _ (by omega)).trans (Eq.refl (m0 1 1)).symm))
    exact hk v466 m467 hm467 Fm467 (by omega) (by omega) (by omega) (by omega)
theorem z_X3_read {X : Mm} {S : Sh} {m0 : Mm} {K : Int → Mm → Prop} (hS : Shp S) (hm0 : Inv X S m0)  (hk : ∀ (r : Int) (M1 : Mm), Inv X S M1 → (∀ c p : Int, ¬ (c = 52 ∧ 2 ≤ p ∧ p ≤ 3) ∧ ¬ (c = 52 ∧ 5 ≤ p ∧ p ≤ 8) ∧ ¬ c = 53 ∧ ¬ c = 54 ∧ ¬ (c = 1 ∧ 2 ≤ p ∧ p ≤ 4) → M1 c p = m0 c p) → 0 ≤ r → r ≤ 1 → (r = 0 ∨ M1 52 2 ≤ 399) → K r M1) : wp_X3_read S m0 52 K := by
  have Fm0 : ∀ c p : Int, ¬ (c = 52 ∧ 2 ≤ p ∧ p ≤ 3) ∧ ¬ (c = 52 ∧ 5 ≤ p ∧ p ≤ 8) ∧ ¬ c = 53 ∧ ¬ c = 54 ∧ ¬ (c = 1 ∧ 2 ≤ p ∧ p ≤ 4) → m0 c p = m0 c p := fun c p _ => rfl
  refine u_X3_read ?_
  refine g_C ?_
  refine g_put 2 rfl hS.k52 (hm0.w_52_2 (by omega) (by omega)) (fun m1 em1 hm1 => ?_)
  have Fm1 : ∀ c p : Int, ¬ (c = 52 ∧ 2 ≤ p ∧ p ≤ 3) ∧ ¬ (c = 52 ∧ 5 ≤ p ∧ p ≤ 8) ∧ ¬ c = 53 ∧ ¬ c = 54 ∧ ¬ (c = 1 ∧ 2 ≤ p ∧ p ≤ 4) → m1 c p = m0 c p := fun c p h => (congrFun (congrFun em1 _) _).trans ((up_ne (by omega)).trans (Fm0 c p h))
  refine g_C ?_
  refine g_put 3 rfl hS.k52 (hm1.w_52_3 (by omega) (by omega)) (fun m2 em2 hm2 => ?_)
  have Fm2 : ∀ c p : Int, ¬ (c = 52 ∧ 2 ≤ p ∧ p ≤ 3) ∧ ¬ (c = 52 ∧ 5 ≤ p ∧ p ≤ 8) ∧ ¬ c = 53 ∧ ¬ c = 54 ∧ ¬ (c = 1 ∧ 2 ≤ p ∧ p ≤ 4) → m2 c p = m0 c p := fun c p h => (congrFun (congrFun em2 _) _).trans ((up_ne (by omega)).trans (Fm1 c p h))
  refine g_getr 0 1 rfl hS.k52 hm2.f_52_0 (by decide) ?_
  refine ⟨hS.k1, ?_⟩
  refine u_X7_rewind ?_
  refine g_C ?_
  refine g_put 2 rfl hS.k1 (hm2.w_1_2 (by omega) (by omega)) (fun m3 em3 hm3 => ?_)
  have Fm3 : ∀ c p : Int, ¬ (c = 52 ∧ 2 ≤ p ∧ p ≤ 3) ∧ ¬ (c = 52 ∧ 5 ≤ p ∧ p ≤ 8) ∧ ¬ c = 53 ∧ ¬ c = 54 ∧ ¬ (c = 1 ∧ 2 ≤ p ∧ p ≤ 4) → m3 c p = m0 c p := fun c p h => (congrFun (congrFun em3 _) _).trans ((up_ne (by omega)).trans (Fm2 c p h))
  refine g_C ?_
  refine g_put 3 rfl hS.k1 (hm3.w_1_3 (by omega) (by omega)) (fun m4 em4 hm4 => ?_)
  have Fm4 : ∀ c p : Int, ¬ (c = 52 ∧ 2 ≤ p ∧ p ≤ 3) ∧ ¬ (c = 52 ∧ 5 ≤ p ∧ p ≤ 8) ∧ ¬ c = 53 ∧ ¬ c = 54 ∧ ¬ (c = 1 ∧ 2 ≤ p ∧ p ≤ 4) → m4 c p = m0 c p := fun c p h => (congrFun (congrFun em4 _) _).trans ((up_ne (by omega)).trans (Fm3 c p h))
  refine g_C ?_
  refine g_put 4 rfl hS.k1 (hm4.w_1_4 (by omega) (by omega)) (fun m5 em5 hm5 => ?_)
  have Fm5 : ∀ c p : Int, ¬ (c = 52 ∧ 2 ≤ p ∧ p ≤ 3) ∧ ¬ (c = 52 ∧ 5 ≤ p ∧ p ≤ 8) ∧ ¬ c = 53 ∧ ¬ c = 54 ∧ ¬ (c = 1 ∧ 2 ≤ p ∧ p ≤ 4) → m5 c p = m0 c p := fun c p h => (congrFun (congrFun em5 _) _).trans ((up_ne (by omega)).trans (Fm4 c p h))
  refine g_C ?_
  have L_n_l164 : ∀ (n_l164 : Nat) (u7 : Int) (m8 : Mm), Inv X S m8 → (∀ c p : Int, ¬ (c = 52 ∧ 2 ≤ p ∧ p ≤ 3) ∧ ¬ (c = 52 ∧ 5 ≤ p ∧ p ≤ 8) ∧ ¬ c = 53 ∧ ¬ c = 54 ∧ ¬ (c = 1 ∧ 2 ≤ p ∧ p ≤ 4) → m8 c p = m0 c p) → 0 ≤ u7 → u7 ≤ 13 → (m8 52 2 ≤ m8 1 2) → 14 - u7 ≤ (n_l164 : Int) → wp_X3_read_19 S K n_l164 52 u7 m8 := by
    intro n_l164
    induction n_l164 with
    | zero => intro u7 m8 hm8 Fm8 bu7 cu7 xn_l164_0 zn_l164; exfalso; omega
    | succ n_l164 ih_n_l164 =>
      intro u7 m8 hm8 Fm8 bu7 cu7 xn_l164_0 zn_l164
      refine u_X3_read_19 ?_
      refine g_C ?_
      refine g_if (fun w165 => ?_) (fun w165 => ?_)
      · refine g_C ?_
        refine ⟨by omega, ?_⟩
        have zb166 := hm8.f_52_2
        have zb168 := hm8.f_52_5
        have zb170 := hm8.f_1_2
        have zb172 := hm8.f_1_1
        have q173 : m8 1 1 = (m0 1 1) := (Eq.refl (m8 1 1)).trans ((Fm8 _ _ (by omega)).trans (Eq.refl (m0 1 1)).symm)
        exact hk 0 m8 hm8 Fm8 (by omega) (by omega) (by omega)
      · refine ⟨hS.k52, ?_⟩
        have zb174 := hm8.f_52_2
        have zb176 := hm8.f_52_5
        have zb178 := hm8.f_1_2
        have zb180 := hm8.f_1_1
        have q181 : m8 1 1 = (m0 1 1) := (Eq.refl (m8 1 1)).trans ((Fm8 _ _ (by omega)).trans (Eq.refl (m0 1 1)).symm)
        refine z_X3_readClause hS hm8 (by omega) (by omega) (by omega) (fun v182 m183 hm183 fm183 bv182 cv182 yv182_0 yv182_1 => ?_)
        have zb184 := hm183.f_52_2
        have zb185 := hm183.f_52_5
        have zb186 := hm183.f_1_2
        have zb187 := hm183.f_1_1
        have Fm183 : ∀ c p : Int, ¬ (c = 52 ∧ 2 ≤ p ∧ p ≤ 3) ∧ ¬ (c = 52 ∧ 5 ≤ p ∧ p ≤ 8) ∧ ¬ c = 53 ∧ ¬ c = 54 ∧ ¬ (c = 1 ∧ 2 ≤ p ∧ p ≤ 4) → m183 c p = m0 c p := fun c p h => (fm183 c p (by omega)).trans (Fm8 c p h)
        refine g_if (fun w188 => ?_) (fun w188 => ?_)
        · refine g_getr 0 1 rfl hS.k52 hm183.f_52_0 (by decide) ?_
          refine ⟨hS.k1, ?_⟩
          have zb189 := hm183.f_52_2
          have zb191 := hm183.f_52_5
          have zb193 := hm183.f_1_2
          have zb195 := hm183.f_1_1
          have q196 : m183 1 1 = (m0 1 1) := (Eq.refl (m183 1 1)).trans ((fm183 _ _ (by omega)).trans ((Fm8 _ _ (by omega)).trans (Eq.refl (m0 1 1)).symm))
          refine zr_X7_isAtEnd hS hm183 (fun v197 m198 hm198 fm198 bv197 cv197 yv197_0 => ?_)
          have zb199 := hm198.f_52_2
          have zb200 := hm198.f_52_5
          have zb201 := hm198.f_1_2
          have zb202 := hm198.f_1_1
          have Fm198 : ∀ c p : Int, ¬ (c = 52 ∧ 2 ≤ p ∧ p ≤ 3) ∧ ¬ (c = 52 ∧ 5 ≤ p ∧ p ≤ 8) ∧ ¬ c = 53 ∧ ¬ c = 54 ∧ ¬ (c = 1 ∧ 2 ≤ p ∧ p ≤ 4) → m198 c p = m0 c p := fun c p h => (fm198 c p (by omega)).trans (Fm183 c p h)
          refine g_if (fun w203 => ?_) (fun w203 => ?_)
          · refine g_getr 0 1 rfl hS.k52 hm198.f_52_0 (by decide) ?_
            refine g_C ?_
            refine ⟨hS.k1, ?_⟩
            have zb204 := hm198.f_52_2
            have q205 : m198 52 2 = (m183 52 2) := (Eq.refl (m198 52 2)).trans ((fm198 _ _ (by omega)).trans (Eq.refl (m183 52 2)).symm)
            have zb206 := hm198.f_52_5
            have q207 : m198 52 5 = (m183 52 5) := (Eq.refl (m198 52 5)).trans ((fm198 _ _ (by omega)).trans (Eq.refl (m183 52 5)).symm)
            have zb208 := hm198.f_1_2
            have zb210 := hm198.f_1_1
            have q211 : m198 1 1 = (m0 1 1) := (Eq.refl (m198 1 1)).trans ((fm198 _ _ (by omega)).trans ((fm183 _ _ (by omega)).trans ((Fm8 _ _ (by omega)).trans (Eq.refl (m0 1 1)).symm)))
            refine zr_X7_takesSign hS hm198 (by omega) (by omega) (fun v212 m213 hm213 fm213 bv212 cv212 yv212_0 yv212_1 => ?_)
            have zb214 := hm213.f_52_2
            have zb215 := hm213.f_52_5
            have zb216 := hm213.f_1_2
            have zb217 := hm213.f_1_1
            have Fm213 : ∀ c p : Int, ¬ (c = 52 ∧ 2 ≤ p ∧ p ≤ 3) ∧ ¬ (c = 52 ∧ 5 ≤ p ∧ p ≤ 8) ∧ ¬ c = 53 ∧ ¬ c = 54 ∧ ¬ (c = 1 ∧ 2 ≤ p ∧ p ≤ 4) → m213 c p = m0 c p := fun c p h => (fm213 c p (by omega)).trans (Fm198 c p h)
            refine g_if (fun w218 => ?_) (fun w218 => ?_)
            · refine g_A (by omega) (by omega) ?_
              have zb219 := hm213.f_52_2
              have q220 : m213 52 2 = (m183 52 2) := (Eq.refl (m213 52 2)).trans ((fm213 _ _ (by omega)).trans ((fm198 _ _ (by omega)).trans (Eq.refl (m183 52 2)).symm))
              have zb221 := hm213.f_52_5
              have q222 : m213 52 5 = (m183 52 5) := (Eq.refl (m213 52 5)).trans ((fm213 _ _ (by omega)).trans ((fm198 _ _ (by omega)).trans (Eq.refl (m183 52 5)).symm))
              have zb223 := hm213.f_1_2
              have zb225 := hm213.f_1_1
              have q226 : m213 1 1 = (m0 1 1) := (Eq.refl (m213 1 1)).trans ((fm213 _ _ (by omega)).trans ((fm198 _ _ (by omega)).trans ((fm183 _ _ (by omega)).trans ((Fm8 _ _ (by omega)).trans (Eq.refl (m0 1 1)).symm))))
              exact ih_n_l164 (u7 + 1) m213 hm213 Fm213 (by omega) (by omega) (by omega) (by omega)
            · refine g_getr 0 1 rfl hS.k52 hm213.f_52_0 (by decide) ?_
              refine g_C ?_
              refine ⟨hS.k1, ?_⟩
              refine zr_X7_refuse hS hm213 (by omega) (by omega) (fun v227 m228 hm228 fm228 bv227 cv227 => ?_)
              have zb229 := hm228.f_52_2
              have zb230 := hm228.f_52_5
              have zb231 := hm228.f_1_2
              have zb232 := hm228.f_1_1
              have Fm228 : ∀ c p : Int, ¬ (c = 52 ∧ 2 ≤ p ∧ p ≤ 3) ∧ ¬ (c = 52 ∧ 5 ≤ p ∧ p ≤ 8) ∧ ¬ c = 53 ∧ ¬ c = 54 ∧ ¬ (c = 1 ∧ 2 ≤ p ∧ p ≤ 4) → m228 c p = m0 c p := fun c p h => (fm228 c p (by omega)).trans (Fm213 c p h)
              refine ⟨by omega, ?_⟩
              have zb233 := hm228.f_52_2
              have q234 : m228 52 2 = (m183 52 2) := (Eq.refl (m228 52 2)).trans ((fm228 _ _ (by omega)).trans ((fm213 _ _ (by omega)).trans ((fm198 _ _ (by omega)).trans (Eq.refl (m183 52 2)).symm)))
              have zb235 := hm228.f_52_5
              have q236 : m228 52 5 = (m183 52 5) := (Eq.refl (m228 52 5)).trans ((fm228 _ _ (by omega)).trans ((fm213 _ _ (by omega)).trans ((fm198 _ _ (by omega)).trans (Eq.refl (m183 52 5)).symm)))
              have zb237 := hm228.f_1_2
              have q238 : m228 1 2 = (m213 1 2) := (Eq.refl (m228 1 2)).trans ((fm228 _ _ (by omega)).trans (Eq.refl (m213 1 2)).symm)
              have zb239 := hm228.f_1_1
              have q240 : m228 1 1 = (m0 1 1) := (Eq.refl (m228 1 1)).trans ((fm228 _ _ (by omega)).trans ((fm213 _ _ (by omega)).trans ((fm198 _ _ (by omega)).trans ((fm183 _ _ (by omega)).trans ((Fm8 _ _ (by omega)).trans (Eq.refl (m0 1 1)).symm)))))
              exact hk v227 m228 hm228 Fm228 (by omega) (by omega) (by omega)
          · refine g_C ?_
            refine ⟨by omega, ?_⟩
            have zb241 := hm198.f_52_2
            have q242 : m198 52 2 = (m183 52 2) := (Eq.refl (m198 52 2)).trans ((fm198 _ _ (by omega)).trans (Eq.refl (m183 52 2)).symm)
            have zb243 := hm198.f_52_5
            have q244 : m198 52 5 = (m183 52 5) := (Eq.refl (m198 52 5)).trans ((fm198 _ _ (by omega)).trans (Eq.refl (m183 52 5)).symm)
            have zb245 := hm198.f_1_2
            have zb247 := hm198.f_1_1
            have q248 : m198 1 1 = (m0 1 1) := (Eq.refl (m198 1 1)).trans ((fm198 _ _ (by omega)).trans ((fm183 _ _ (by omega)).trans ((Fm8 _ _ (by omega)).trans (Eq.refl (m0 1 1)).symm)))
            exact hk 1 m198 hm198 Fm198 (by omega) (by omega) (by omega)
        · refine g_C ?_
          refine ⟨by omega, ?_⟩
          have zb249 := hm183.f_52_2
          have zb251 := hm183.f_52_5
          have zb253 := hm183.f_1_2
          have zb255 := hm183.f_1_1
          have q256 : m183 1 1 = (m0 1 1) := (Eq.refl (m183 1 1)).trans ((fm183 _ _ (by omega)).trans ((Fm8 _ _ (by omega)).trans (Eq.refl (m0 1 1)).symm))
          exact hk 0 m183 hm183 Fm183 (by omega) (by omega) (by omega)
  have zb257 := hm5.f_52_2
  have q258 : m5 52 2 = 0 := (Eq.refl (m5 52 2)).trans ((congrFun (congrFun em5 _) _).trans ((up_ne (by omega)).trans ((congrFun (congrFun em4 _) _).trans ((up_ne (by omega)).trans ((congrFun (congrFun em3 _) _).trans ((up_ne (by omega)).trans ((congrFun (congrFun em2 _) _).trans ((up_ne (by omega)).trans ((congrFun (congrFun em1 _) _).trans (up_ate (by omega)))))))))))
  have zb259 := hm5.f_52_5
  have q260 : m5 52 5 = (m0 52 5) := (Eq.refl (m5 52 5)).trans ((congrFun (congrFun em5 _) _).trans ((up_ne (by omega)).trans ((congrFun (congrFun em4 _) _).trans ((up_ne (by omega)).trans ((congrFun (congrFun em3 _) _).trans ((up_ne (by omega)).trans ((congrFun (congrFun em2 _) _).trans ((up_ne (by omega)).trans ((congrFun (congrFun em1 _) _).trans ((up_ne (by omega)).trans (Eq.refl (m0 52 5)).symm))))))))))
  have zb261 := hm5.f_1_2
  have q262 : m5 1 2 = 0 := (Eq.refl (m5 1 2)).trans ((congrFun (congrFun em5 _) _).trans ((up_ne (by omega)).trans ((congrFun (congrFun em4 _) _).trans ((up_ne (by omega)).trans ((congrFun (congrFun em3 _) _).trans (up_ate (by omega)))))))
  have zb263 := hm5.f_1_1
  have q264 : m5 1 1 = (m0 1 1) := (Eq.refl (m5 1 1)).trans ((congrFun (congrFun em5 _) _).trans ((up_ne (by omega)).trans ((congrFun (congrFun em4 _) _).trans ((up_ne (by omega)).trans ((congrFun (congrFun em3 _) _).trans ((up_ne (by omega)).trans ((congrFun (congrFun em2 _) _).trans ((up_ne (by omega)).trans ((congrFun (congrFun em1 _) _).trans ((up_ne (by omega)).trans (Eq.refl (m0 1 1)).symm))))))))))
  exact ⟨14, L_n_l164 14 0 m5 hm5 Fm5 (by omega) (by omega) (by omega) (by omega)⟩
