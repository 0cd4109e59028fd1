section
theorem Inv.rfm {X : Mm} {S : Sh} {M : Mm} (h : Inv X S M) : RfM M := ⟨h.f_336_0, h.f_336_3, h.f_336_4, h.f_336_5, h.f_336_6, h.f_336_7, h.f_336_15, h.f_336_17, h.f_336_19, h.f_336_20, h.f_336_24, h.f_336_26, h.f_336_27, h.f_336_28, h.f_336_30, h.f_336_31, h.f_336_32, h.f_336_34, h.f_336_35, h.f_336_36, h.f_336_37⟩
theorem fl_e {X : Mm} (c p : Int) (hc : ¬ c = -1) : up X (-1) 0 1 c p = X c p := up_ne (fun z => hc z.1)
theorem good_fl {X : Mm} (g : Good X) : Good (up X (-1) 0 1) := by
  have e : ∀ c p : Int, ¬ c = -1 → up X (-1) 0 1 c p = X c p := fl_e
  have pe : ∀ (t : Int) (n : Nat) (i d : Int), pfx (up X (-1) 0 1) t n i d = pfx X t n i d := by
    intro t n
    induction n with
    | zero => intro i d; rfl
    | succ n ih => intro i d; simp only [pfx, ih, e 338 _ (by decide)]
  have re : ∀ t : Int, rulOK (up X (-1) 0 1) t = rulOK X t := by
    intro t
    simp only [rulOK, pfr, pe, e 341 _ (by decide), e 340 _ (by decide)]
  unfold Good at g ⊢
  simp only [re, e 336 _ (by decide), e 355 _ (by decide), e 357 _ (by decide)]
  exact g
theorem bd_348 : ∀ p : Nat, p < 57 → bd 348 p = bd 346 p := by decide +kernel
theorem pT_348 : pT.getD 348 0 = 57 ∧ pT.getD 346 0 = 158 := by decide +kernel
theorem s_X12_laysBack {S : Sh} {M : Mm} {K : Mm → Prop} (hS : Shp S) (hR : RfM M) (h : ∀ M1, (∀ a j : Int, ¬ (a = 346 ∧ 0 ≤ j ∧ j < 57) → M1 a j = M a j) → (∀ j : Int, 0 ≤ j ∧ j < 57 → M1 346 j = M 348 j) → K M1) : wp_X12_laysBack S M 336 K := by
  have key : ∀ (n : Nat) (k : Int) (M2 : Mm), 0 ≤ k ∧ k ≤ 57 → 58 - k ≤ n → (∀ a j : Int, ¬ (a = 346 ∧ 0 ≤ j ∧ j < 57) → M2 a j = M a j) → (∀ j : Int, 0 ≤ j ∧ j < k → M2 346 j = M 348 j) → wp_X12_laysBack_2 S K n 336 k M2 := by
    intro n
    induction n with
    | zero => intro k M2 hk h2; exact absurd h2 (by omega)
    | succ n ih =>
      intro k M2 hk hn hs hc
      have f26 : M2 336 26 = 348 := (hs 336 26 (by decide)).trans hR.f26
      have f20 : M2 336 20 = 346 := (hs 336 20 (by decide)).trans hR.f20
      simp only [wp_X12_laysBack_2, wGetR, wGet, wC, wIf, wA, wLd, wSt, nc, f26, f20, hS.k336, hS.k346, hS.l346, hS.k348, hS.l348]
      refine ⟨fun q => h M2 hs (fun j hj => hc j (by omega)), fun q => ⟨trivial, by decide, trivial, by decide, trivial, by omega, trivial, by omega, ?_⟩⟩
      rw [w32_id (by omega) (by omega)]
      refine ih (k + 1) _ (by omega) (by omega) (fun x j hx => ?_) (fun j hj => ?_)
      · rw [up_ne (fun z => hx (by omega))]; exact hs x j hx
      · by_cases e : j = k
        · subst e
          rw [up_at]
          exact hs 348 j (by omega)
        · rw [up_ne (fun z => e z.2)]
          exact hc j (by omega)
  exact ⟨58, key 58 0 M (by omega) (by omega) (fun _ _ _ => rfl) (fun j hj => absurd hj (by omega))⟩
theorem z_X12_heatIn {X : Mm} {S : Sh} {m0 : Mm} {K : Int → Mm → Prop} {u1 : Int} (hS : Shp S) (hm0 : Inv X S m0) (l_u1 : (-2147483648) ≤ u1) (h_u1 : u1 ≤ 2147483647) (hk : ∀ (r : Int), (-2147483648) ≤ r → r ≤ 2147483647 → K r m0) : wp_X12_heatIn S m0 336 u1 K := by
  refine u_X12_heatIn ?_
  refine g_C ?_
  refine g_C ?_
  have L_n_l197 : ∀ (n_l197 : Nat) (u3 : Int) (u4 : Int), (-2147483648) ≤ u3 → u3 ≤ 2147483647 → 0 ≤ u4 → u4 ≤ 4 → 5 - u4 ≤ (n_l197 : Int) → wp_X12_heatIn_4 S K n_l197 336 u1 u3 u4 m0 := by
    intro n_l197
    induction n_l197 with
    | zero => intro u3 u4 bu3 cu3 bu4 cu4 zn_l197; exfalso; omega
    | succ n_l197 ih_n_l197 =>
      intro u3 u4 bu3 cu3 bu4 cu4 zn_l197
      refine u_X12_heatIn_4 ?_
      refine g_getr 20 346 rfl hS.k336 hm0.f_336_20 (by decide) ?_
      refine g_C ?_
      refine g_ld (0) (4) hS.k346 hS.l346 (by omega) (by omega) (hm0.f_346_9) (fun v198 ev198 bv198 cv198 => ?_)
      refine g_if (fun w199 => ?_) (fun w199 => ?_)
      · exact hk u3 (by omega) (by omega)
      · refine g_get 23 (0) (1) rfl hS.k336 hm0.f_336_23 (fun v200 ev200 bv200 cv200 => ?_)
        refine g_if (fun w201 => ?_) (fun w201 => ?_)
        · exact hk u3 (by omega) (by omega)
        · refine g_C ?_
          refine g_C ?_
          refine g_M (by omega) (by omega) ?_
          refine g_A (by omega) (by omega) ?_
          refine g_getr 20 346 rfl hS.k336 hm0.f_336_20 (by decide) ?_
          refine g_ld (0) (99) hS.k346 hS.l346 (by omega) (by omega) (fam_346_81_3_0_3 hm0 (a := u4) (by omega) (by omega) (by omega)) (fun v202 ev202 bv202 cv202 => ?_)
          refine g_if (fun w203 => ?_) (fun w203 => ?_)
          · refine u_X12_heatIn_67 ?_
            refine g_C ?_
            refine u_X12_heatIn_68 ?_
            refine g_A (by omega) (by omega) ?_
            refine g_A (by omega) (by omega) ?_
            exact ih_n_l197 (u3 + 0) (u4 + 1) (by omega) (by omega) (by omega) (by omega) (by omega)
          · refine g_getr 20 346 rfl hS.k336 hm0.f_336_20 (by decide) ?_
            refine g_C ?_
            refine g_A (by omega) (by omega) ?_
            refine g_ld (0) (99) hS.k346 hS.l346 (by omega) (by omega) (fam_346_82_3_0_3 hm0 (a := u4) (by omega) (by omega) (by omega)) (fun v204 ev204 bv204 cv204 => ?_)
            refine g_if (fun w205 => ?_) (fun w205 => ?_)
            · refine u_X12_heatIn_67 ?_
              refine g_C ?_
              refine u_X12_heatIn_68 ?_
              refine g_A (by omega) (by omega) ?_
              refine g_A (by omega) (by omega) ?_
              exact ih_n_l197 (u3 + 0) (u4 + 1) (by omega) (by omega) (by omega) (by omega) (by omega)
            · refine g_getr 20 346 rfl hS.k336 hm0.f_336_20 (by decide) ?_
              refine g_C ?_
              refine g_A (by omega) (by omega) ?_
              refine g_ld (0) (5) hS.k346 hS.l346 (by omega) (by omega) (fam_346_83_3_0_3 hm0 (a := u4) (by omega) (by omega) (by omega)) (fun v206 ev206 bv206 cv206 => ?_)
              refine u_X12_heatIn_68 ?_
              refine g_Aw (fun v207 bv207 cv207 => ?_)
              refine g_A (by omega) (by omega) ?_
              exact ih_n_l197 v207 (u4 + 1) (by omega) (by omega) (by omega) (by omega) (by omega)
  exact ⟨5, L_n_l197 5 0 0 (by omega) (by omega) (by omega) (by omega) (by omega)⟩
theorem z_X12_one {X : Mm} {S : Sh} {m0 : Mm} {K : Int → Mm → Prop} {u0 u1 u3 : Int} (hS : Shp S) (hm0 : Inv X S m0) (l_u0 : 0 ≤ u0) (h_u0 : u0 ≤ 15) (hk : ∀ (r : Int), K r m0) : wp_X12_one S m0 u0 u1 u3 K := by
  refine u_X12_one ?_
  refine g_if (fun w1 => ?_) (fun w1 => ?_)
  · refine g_LAw (fun v2 bv2 cv2 => ?_)
    exact hk v2
  · refine g_if (fun w3 => ?_) (fun w3 => ?_)
    · refine g_LSw (fun v4 bv4 cv4 => ?_)
      exact hk v4
    · refine g_if (fun w5 => ?_) (fun w5 => ?_)
      · refine g_LMw (fun v6 bv6 cv6 => ?_)
        exact hk v6
      · refine g_if (fun w7 => ?_) (fun w7 => ?_)
        · refine g_C ?_
          refine g_cmp (fun w8 => ?_) (fun w8 => ?_) (fun w8 => ?_)
          · refine g_ifT (by omega) ?_
            refine g_D64 (by omega) (fun v9 bv9 cv9 => ?_)
            exact hk v9
          · refine g_ifF (by omega) ?_
            refine g_C ?_
            exact hk 0
          · refine g_ifT (by omega) ?_
            refine g_D64 (by omega) (fun v10 bv10 cv10 => ?_)
            exact hk v10
        · refine g_if (fun w11 => ?_) (fun w11 => ?_)
          · refine g_cmp (fun w12 => ?_) (fun w12 => ?_) (fun w12 => ?_)
            · refine g_ifF (by omega) ?_
              refine g_C ?_
              exact hk 1
            · refine g_ifT (by omega) ?_
              refine g_C ?_
              exact hk 0
            · refine g_ifT (by omega) ?_
              refine g_C ?_
              exact hk 0
          · refine g_if (fun w13 => ?_) (fun w13 => ?_)
            · refine g_cmp (fun w14 => ?_) (fun w14 => ?_) (fun w14 => ?_)
              · refine g_ifF (by omega) ?_
                refine g_C ?_
                exact hk 1
              · refine g_ifF (by omega) ?_
                refine g_C ?_
                exact hk 1
              · refine g_ifT (by omega) ?_
                refine g_C ?_
                exact hk 0
            · refine g_if (fun w15 => ?_) (fun w15 => ?_)
              · refine g_cmp (fun w16 => ?_) (fun w16 => ?_) (fun w16 => ?_)
                · refine g_ifT (by omega) ?_
                  refine g_C ?_
                  exact hk 0
                · refine g_ifF (by omega) ?_
                  refine g_C ?_
                  exact hk 1
                · refine g_ifT (by omega) ?_
                  refine g_C ?_
                  exact hk 0
              · refine g_if (fun w17 => ?_) (fun w17 => ?_)
                · refine g_cmp (fun w18 => ?_) (fun w18 => ?_) (fun w18 => ?_)
                  · refine g_ifT (by omega) ?_
                    refine g_C ?_
                    exact hk 0
                  · refine g_ifF (by omega) ?_
                    refine g_C ?_
                    exact hk 1
                  · refine g_ifF (by omega) ?_
                    refine g_C ?_
                    exact hk 1
                · refine g_if (fun w19 => ?_) (fun w19 => ?_)
                  · refine g_cmp (fun w20 => ?_) (fun w20 => ?_) (fun w20 => ?_)
                    · refine g_ifT (by omega) ?_
                      refine g_C ?_
                      exact hk 0
                    · refine g_ifT (by omega) ?_
                      refine g_C ?_
                      exact hk 0
                    · refine g_ifF (by omega) ?_
                      refine g_C ?_
                      exact hk 1
                  · refine g_if (fun w21 => ?_) (fun w21 => ?_)
                    · refine g_o64 (fun v22 bv22 cv22 => ?_)
                      exact hk v22
                    · refine g_if (fun w23 => ?_) (fun w23 => ?_)
                      · refine g_o64 (fun v24 bv24 cv24 => ?_)
                        exact hk v24
                      · refine g_if (fun w25 => ?_) (fun w25 => ?_)
                        · refine g_o64 (fun v26 bv26 cv26 => ?_)
                          exact hk v26
                        · refine g_if (fun w27 => ?_) (fun w27 => ?_)
                          · refine g_C ?_
                            refine g_cmp (fun w28 => ?_) (fun w28 => ?_) (fun w28 => ?_)
                            · refine g_ifT (by omega) ?_
                              refine g_D64 (by omega) (fun v29 bv29 cv29 => ?_)
                              exact hk v29
                            · refine g_ifF (by omega) ?_
                              refine g_C ?_
                              exact hk 0
                            · refine g_ifT (by omega) ?_
                              refine g_D64 (by omega) (fun v30 bv30 cv30 => ?_)
                              exact hk v30
                          · refine g_o64 (fun v31 bv31 cv31 => ?_)
                            exact hk v31
theorem z_X12_pop {X : Mm} {S : Sh} {m0 : Mm} {K : Int → Mm → Prop} (hS : Shp S) (hm0 : Inv X S m0) (p0 : 1 ≤ m0 336 18) (p1 : m0 336 18 ≤ 64) (hk : ∀ (r : Int) (M1 : Mm), Inv X S M1 → (∀ c p : Int, ¬ c = 344 ∧ ¬ (c = 336 ∧ 18 ≤ p ∧ p ≤ 18) → M1 c p = m0 c p) → (M1 336 18 = m0 336 18 - 1) → K r M1) : wp_X12_pop S m0 336 K := by
  have Fm0 : ∀ c p : Int, ¬ c = 344 ∧ ¬ (c = 336 ∧ 18 ≤ p ∧ p ≤ 18) → m0 c p = m0 c p := fun c p _ => rfl
  refine u_X12_pop ?_
  refine g_get 18 (-2147483648) (2147483647) rfl hS.k336 hm0.f_336_18 (fun v1 ev1 bv1 cv1 => ?_)
  have qv1 : v1 = (m0 336 18) := ev1.trans (Eq.refl (m0 336 18)).symm
  refine g_C ?_
  refine g_S (by omega) (by omega) ?_
  refine g_put 18 rfl hS.k336 (hm0.w_336_18 (by omega) (by omega)) (fun m2 em2 hm2 => ?_)
  have Fm2 : ∀ c p : Int, ¬ c = 344 ∧ ¬ (c = 336 ∧ 18 ≤ p ∧ p ≤ 18) → m2 c p = m0 c p := fun c p h => (congrFun (congrFun em2 _) _).trans ((up_ne (by omega)).trans (Fm0 c p h))
  refine g_getr 17 344 rfl hS.k336 hm2.f_336_17 (by decide) ?_
  refine g_get 18 (-2147483648) (2147483647) rfl hS.k336 hm2.f_336_18 (fun v3 ev3 bv3 cv3 => ?_)
  have qv3 : v3 = (v1 - 1) := ev3.trans ((congrFun (congrFun em2 _) _).trans (up_ate (by omega)))
  refine g_ldu hS.k344 hS.l344 (by omega) (by omega) (fun v4 ev4 => ?_)
  have zb5 := hm2.f_336_18
  have q6 : m2 336 18 = (v1 - 1) := (Eq.refl (m2 336 18)).trans ((congrFun (congrFun em2 _) _).trans (up_ate (by omega)))
  exact hk v4 m2 hm2 Fm2 (by omega)
theorem z_X12_push {X : Mm} {S : Sh} {m0 : Mm} {K : Mm → Prop} {u1 : Int} (hS : Shp S) (hm0 : Inv X S m0) (p0 : 0 ≤ m0 336 18) (p1 : m0 336 18 ≤ 63) (hk : ∀ (M1 : Mm), Inv X S M1 → (∀ c p : Int, ¬ c = 344 ∧ ¬ (c = 336 ∧ 18 ≤ p ∧ p ≤ 18) → M1 c p = m0 c p) → (M1 336 18 = m0 336 18 + 1) → K M1) : wp_X12_push S m0 336 u1 K := by
  have Fm0 : ∀ c p : Int, ¬ c = 344 ∧ ¬ (c = 336 ∧ 18 ≤ p ∧ p ≤ 18) → m0 c p = m0 c p := fun c p _ => rfl
  refine u_X12_push ?_
  refine g_getr 17 344 rfl hS.k336 hm0.f_336_17 (by decide) ?_
  refine g_get 18 (-2147483648) (2147483647) rfl hS.k336 hm0.f_336_18 (fun v1 ev1 bv1 cv1 => ?_)
  have qv1 : v1 = (m0 336 18) := ev1.trans (Eq.refl (m0 336 18)).symm
  refine g_st hS.k344 hS.l344 (by omega) (by omega) (hm0.wa_344 (by omega) (by omega)) (fun m2 em2 hm2 => ?_)
  have Fm2 : ∀ c p : Int, ¬ c = 344 ∧ ¬ (c = 336 ∧ 18 ≤ p ∧ p ≤ 18) → m2 c p = m0 c p := fun c p h => (congrFun (congrFun em2 _) _).trans ((up_ne (by omega)).trans (Fm0 c p h))
  refine g_get 18 (-2147483648) (2147483647) rfl hS.k336 hm2.f_336_18 (fun v3 ev3 bv3 cv3 => ?_)
  have qv3 : v3 = (m0 336 18) := ev3.trans ((congrFun (congrFun em2 _) _).trans ((up_ne (by omega)).trans (Eq.refl (m0 336 18)).symm))
  refine g_C ?_
  refine g_A (by omega) (by omega) ?_
  refine g_put 18 rfl hS.k336 (hm2.w_336_18 (by omega) (by omega)) (fun m4 em4 hm4 => ?_)
  have Fm4 : ∀ c p : Int, ¬ c = 344 ∧ ¬ (c = 336 ∧ 18 ≤ p ∧ p ≤ 18) → m4 c p = m0 c p := fun c p h => (congrFun (congrFun em4 _) _).trans ((up_ne (by omega)).trans (Fm2 c p h))
  have zb5 := hm4.f_336_18
  have q6 : m4 336 18 = (v3 + 1) := (Eq.refl (m4 336 18)).trans ((congrFun (congrFun em4 _) _).trans (up_ate (by omega)))
  exact hk m4 hm4 Fm4 (by omega)
theorem z_X12_reckons {X : Mm} {S : Sh} {m0 : Mm} {K : Int → Mm → Prop} {u1 u2 u3 : Int} (hS : Shp S) (hm0 : Inv X S m0) (h1 : 0 ≤ u1) (h2 : u1 < X 336 2) (hp : pfr X u1 u2 u3) (hk : ∀ (r : Int) (M1 : Mm), Inv X S M1 → (∀ c p : Int, ¬ c = 344 ∧ ¬ c = 345 ∧ ¬ (c = 336 ∧ 18 ≤ p ∧ p ≤ 18) → M1 c p = m0 c p) → K r M1) : wp_X12_reckons S m0 336 u1 u2 u3 K := by
  obtain ⟨p1, p2, p3, p4⟩ := hp
  have hx2 := hm0.good.2.2.1
  have F0 : ∀ c p : Int, ¬ c = 344 ∧ ¬ c = 345 ∧ ¬ (c = 336 ∧ 18 ≤ p ∧ p ≤ 18) → m0 c p = m0 c p := fun c p _ => rfl
  refine u_X12_reckons ?_
  refine g_C ?_
  refine g_put 18 rfl hS.k336 (hm0.w_336_18 (by omega) (by omega)) (fun m1 em1 hm1 => ?_)
  have F1 : ∀ c p : Int, ¬ c = 344 ∧ ¬ c = 345 ∧ ¬ (c = 336 ∧ 18 ≤ p ∧ p ≤ 18) → m1 c p = m0 c p := fun c p h => (congrFun (congrFun em1 _) _).trans (up_ne (by omega))
  have t1 : m1 336 18 = 0 := (congrFun (congrFun em1 _) _).trans (up_at _ _ _ _)
  have L : ∀ (n : Nat) (i : Int) (m : Mm), Inv X S m → (∀ c p : Int, ¬ c = 344 ∧ ¬ c = 345 ∧ ¬ (c = 336 ∧ 18 ≤ p ∧ p ≤ 18) → m c p = m0 c p) → u2 ≤ i → i ≤ u3 → (0 ≤ m 336 18 ∧ m 336 18 ≤ 64) → pfx X u1 (u3 - i).toNat i (m 336 18) → u3 + 1 - i ≤ (n : Int) → wp_X12_reckons_8 S K n 336 u1 u3 i m := by
    intro n
    induction n with
    | zero => intro i m _ _ _ _ _ _ h5; exfalso; omega
    | succ n ih =>
      intro i m hm F a1 a2 a3 a4 a5
      refine u_X12_reckons_8 ?_
      refine g_if (fun w => ?_) (fun w => ?_)
      · have e : (u3 - i).toNat = 0 := by omega
        rw [e] at a4
        have a6 : m 336 18 = 1 := a4
        refine ⟨hS.k336, ?_⟩
        refine z_X12_pop hS hm (by omega) (by omega) (fun r m2 hm2 f2 y => ?_)
        exact hk r m2 hm2 (fun c p h => (f2 c p (by omega)).trans (F c p h))
      · obtain ⟨k, ek⟩ : ∃ k : Nat, (u3 - i).toNat = k + 1 := ⟨(u3 - i).toNat - 1, by omega⟩
        have ek2 : (u3 - (i + 1)).toNat = k := by omega
        rw [ek] at a4
        have sg : m 338 (400 * u1 + i) = X 338 (400 * u1 + i) := hm.2.1 _ _ (Or.inr (Or.inl ⟨rfl, by omega⟩))
        refine g_getr 3 338 rfl hS.k336 hm.f_336_3 (by decide) ?_
        refine g_C ?_
        refine g_M (by omega) (by omega) ?_
        refine g_A (by omega) (by omega) ?_
        refine g_ldu hS.k338 hS.l338 (by omega) (by omega) (fun v ev => ?_)
        refine g_C ?_
        refine g_Oe (fun s es => ?_)
        refine g_getr 3 338 rfl hS.k336 hm.f_336_3 (by decide) ?_
        refine g_C ?_
        refine g_M (by omega) (by omega) ?_
        refine g_A (by omega) (by omega) ?_
        refine g_ldu hS.k338 hS.l338 (by omega) (by omega) (fun v2 ev2 => ?_)
        refine g_C ?_
        refine g_Oe (fun t et => ?_)
        have es2 : iAnd (X 338 (400 * u1 + i)) 15 = s := by rw [es, ev, sg]
        have et2 : iShr (X 338 (400 * u1 + i)) 4 = t := by rw [et, ev2, sg]
        have sb : 0 ≤ s ∧ s ≤ 15 := by rw [es]; exact iAnd_bd (by decide) (by decide)
        unfold pfx at a4
        rw [es2, et2] at a4
        have nx : ∀ m4 : Mm, Inv X S m4 → (∀ c p : Int, ¬ c = 344 ∧ ¬ c = 345 ∧ ¬ (c = 336 ∧ 18 ≤ p ∧ p ≤ 18) → m4 c p = m0 c p) → (0 ≤ m4 336 18 ∧ m4 336 18 ≤ 64) → pfx X u1 k (i + 1) (m4 336 18) → wp_X12_reckons_129 S (fun a0 a1 a2 a3 M => wp_X12_reckons_8 S K n a0 a1 a2 a3 M) K 336 u1 u3 i m4 := by
          intro m4 b1 b2 b3 b4
          refine u_X12_reckons_129 ?_
          refine g_A (by omega) (by omega) ?_
          exact ih (i + 1) m4 b1 b2 (by omega) (by omega) b3 (by rw [ek2]; exact b4) (by omega)
        have ps : ∀ x : Int, m 336 18 < 64 → pfx X u1 k (i + 1) (m 336 18 + 1) → wp_X12_push S m 336 x (fun M => wp_X12_reckons_129 S (fun a0 a1 a2 a3 M => wp_X12_reckons_8 S K n a0 a1 a2 a3 M) K 336 u1 u3 i M) := by
          intro x b1 b2
          refine z_X12_push hS hm (by omega) (by omega) (fun m4 hm4 f4 y4 => ?_)
          exact nx m4 hm4 (fun c p h => (f4 c p (by omega)).trans (F c p h)) (by omega) (by rw [y4]; exact b2)
        refine g_if (fun w2 => ?_) (fun w2 => ?_)
        · refine g_C ?_
          refine g_if (fun w3 => ?_) (fun w3 => ?_)
          · refine g_C ?_
            refine g_if (fun w4 => ?_) (fun w4 => ?_)
            · have a7 : 2 ≤ m 336 18 ∧ pfx X u1 k (i + 1) (m 336 18 - 1) := by
                rcases a4 with q | q | q | q
                · exact absurd q.1 w2
                · exact absurd q.1 w3
                · exact absurd q.1 w4
                · exact q.2.2.2
              refine ⟨hS.k336, ?_⟩
              refine z_X12_pop hS hm (by omega) (by omega) (fun x m2 hm2 f2 y2 => ?_)
              refine ⟨hS.k336, ?_⟩
              refine z_X12_pop hS hm2 (by omega) (by omega) (fun x3 m3 hm3 f3 y3 => ?_)
              refine z_X12_one hS hm3 (by omega) (by omega) (fun x4 => ?_)
              refine ⟨hS.k336, ?_⟩
              refine z_X12_push hS hm3 (by omega) (by omega) (fun m4 hm4 f4 y4 => ?_)
              refine nx m4 hm4 (fun c p h => (f4 c p (by omega)).trans ((f3 c p (by omega)).trans ((f2 c p (by omega)).trans (F c p h)))) (by omega) ?_
              rw [show m4 336 18 = m 336 18 - 1 by omega]
              exact a7.2
            · have a7 : 1 ≤ m 336 18 ∧ pfx X u1 k (i + 1) (m 336 18) := by
                rcases a4 with q | q | q | q
                · exact absurd q.1 w2
                · exact absurd q.1 w3
                · exact q.2
                · exact absurd q.2.2.1 w4
              refine g_C ?_
              refine ⟨hS.k336, ?_⟩
              refine z_X12_pop hS hm (by omega) (by omega) (fun x m2 hm2 f2 y2 => ?_)
              refine g_LSw (fun x3 _ _ => ?_)
              refine ⟨hS.k336, ?_⟩
              refine z_X12_push hS hm2 (by omega) (by omega) (fun m4 hm4 f4 y4 => ?_)
              refine nx m4 hm4 (fun c p h => (f4 c p (by omega)).trans ((f2 c p (by omega)).trans (F c p h))) (by omega) ?_
              rw [show m4 336 18 = m 336 18 by omega]
              exact a7.2
          · have a7 : 0 ≤ t ∧ t ≤ 9 ∧ m 336 18 < 64 ∧ pfx X u1 k (i + 1) (m 336 18 + 1) := by
              rcases a4 with q | q | q | q
              · exact absurd q.1 (by omega)
              · exact q.2
              · exact absurd q.1 (by omega)
              · exact absurd (by omega) q.2.1
            refine g_getr 19 345 rfl hS.k336 hm.f_336_19 (by decide) ?_
            refine g_ldu hS.k345 hS.l345 (by omega) (by omega) (fun x ex => ?_)
            exact ⟨hS.k336, ps x a7.2.2.1 a7.2.2.2⟩
        · have a7 : m 336 18 < 64 ∧ pfx X u1 k (i + 1) (m 336 18 + 1) := by
            rcases a4 with q | q | q | q
            · exact q.2
            · exact absurd q.1 (by omega)
            · exact absurd q.1 (by omega)
            · exact absurd (by omega) q.1
          refine g_C ?_
          exact ⟨hS.k336, ps t a7.1 a7.2⟩
  refine ⟨(u3 + 1 - u2).toNat, L _ u2 m1 hm1 F1 (by omega) (by omega) (by omega) ?_ (by omega)⟩
  rw [t1]
  exact p4
theorem z_X12_summedBy {X : Mm} {S : Sh} {m0 : Mm} {K : Int → Mm → Prop} {u1 : Int} (hS : Shp S) (hm0 : Inv X S m0) (l_u1 : 0 ≤ u1) (h_u1 : u1 ≤ 5) (p0 : u1 < X 336 2) (hk : ∀ (r : Int) (M1 : Mm), Inv X S M1 → (∀ c p : Int, ¬ c = 344 ∧ ¬ c = 345 ∧ ¬ (c = 336 ∧ 18 ≤ p ∧ p ≤ 18) → M1 c p = m0 c p) → K r M1) : wp_X12_summedBy S m0 336 u1 K := by
  have rk := hm0.good.2.2.2 u1 l_u1 p0
  have rk1 := rk.1.2
  have rk2 := hm0.good.2.2.1
  refine u_X12_summedBy ?_
  refine g_C ?_
  have L : ∀ (n : Nat) (i : Int) (m : Mm), Inv X S m → (∀ c p : Int, ¬ c = 344 ∧ ¬ c = 345 ∧ ¬ (c = 336 ∧ 18 ≤ p ∧ p ≤ 18) → m c p = m0 c p) → 0 ≤ i → i ≤ 12 → 13 - i ≤ (n : Int) → wp_X12_summedBy_2 S K n 336 u1 i m := by
    intro n
    induction n with
    | zero => intro i m _ _ _ _ h5; exfalso; omega
    | succ n ih =>
      intro i m hm F a1 a2 a5
      refine u_X12_summedBy_2 ?_
      refine g_getr 6 341 rfl hS.k336 hm.f_336_6 (by decide) ?_
      refine g_ldu hS.k341 hS.l341 (by omega) (by omega) (fun v ev => ?_)
      have ec : v = X 341 u1 := ev.trans (hm.2.1 _ _ (Or.inr (Or.inr (Or.inr ⟨rfl, p0⟩))))
      refine g_if (fun w => ?_) (fun w => ?_)
      · refine g_C ?_
        exact hk 0 m hm F
      · obtain ⟨r1, r2⟩ := rk.2 i a1 (by omega)
        have cl : ∀ (m' : Mm) (q : Int), Inv X S m' → 0 ≤ q → q ≤ 3 → m' 340 (48 * u1 + 4 * i + q) = X 340 (48 * u1 + 4 * i + q) := fun m' q hm' q0 q3 => hm'.2.1 _ _ (Or.inr (Or.inr (Or.inl ⟨rfl, by omega⟩)))
        have c0 : ∀ m' : Mm, Inv X S m' → m' 340 (48 * u1 + 4 * i) = X 340 (48 * u1 + 4 * i) := fun m' hm' => hm'.2.1 _ _ (Or.inr (Or.inr (Or.inl ⟨rfl, by omega⟩)))
        have fin : ∀ m' : Mm, Inv X S m' → (∀ c p : Int, ¬ c = 344 ∧ ¬ c = 345 ∧ ¬ (c = 336 ∧ 18 ≤ p ∧ p ≤ 18) → m' c p = m0 c p) → wp_X12_summedBy_58 S K 336 u1 (48 * u1 + 4 * i) m' := by
          intro m' hm' F'
          refine u_X12_summedBy_58 ?_
          refine g_getr 5 340 rfl hS.k336 hm'.f_336_5 (by decide) ?_
          refine g_ldu hS.k340 hS.l340 (by omega) (by omega) (fun x ex => ?_)
          refine g_getr 5 340 rfl hS.k336 hm'.f_336_5 (by decide) ?_
          refine g_C ?_
          refine g_A (by omega) (by omega) ?_
          refine g_ldu hS.k340 hS.l340 (by omega) (by omega) (fun y ey => ?_)
          refine ⟨hS.k336, ?_⟩
          refine z_X12_reckons hS hm' l_u1 p0 ?_ (fun r m2 hm2 F2 => hk r m2 hm2 (fun c p h => (F2 c p h).trans (F' c p h)))
          rw [ex, ey, c0 m' hm', cl m' 1 hm' (by decide) (by decide)]
          exact r1
        refine g_C ?_
        refine g_M (by omega) (by omega) ?_
        refine g_C ?_
        refine g_M (by omega) (by omega) ?_
        refine g_A (by omega) (by omega) ?_
        refine g_getr 5 340 rfl hS.k336 hm.f_336_5 (by decide) ?_
        refine g_C ?_
        refine g_A (by omega) (by omega) ?_
        refine g_ldu hS.k340 hS.l340 (by omega) (by omega) (fun x ex => ?_)
        have ex2 := cl m 2 hm (by decide) (by decide)
        refine g_if (fun w2 => ?_) (fun w2 => ?_)
        · exact fin m hm F
        · refine g_getr 5 340 rfl hS.k336 hm.f_336_5 (by decide) ?_
          refine g_C ?_
          refine g_A (by omega) (by omega) ?_
          refine g_ldu hS.k340 hS.l340 (by omega) (by omega) (fun y ey => ?_)
          refine g_getr 5 340 rfl hS.k336 hm.f_336_5 (by decide) ?_
          refine g_C ?_
          refine g_A (by omega) (by omega) ?_
          refine g_ldu hS.k340 hS.l340 (by omega) (by omega) (fun z ez => ?_)
          refine ⟨hS.k336, ?_⟩
          refine z_X12_reckons hS hm l_u1 p0 ?_ (fun r m2 hm2 F2 => ?_)
          · rcases r2 with r2 | r2
            · exfalso; omega
            · rw [ey, ez, ex2, cl m 3 hm (by decide) (by decide)]
              exact r2
          · have F3 : ∀ c p : Int, ¬ c = 344 ∧ ¬ c = 345 ∧ ¬ (c = 336 ∧ 18 ≤ p ∧ p ≤ 18) → m2 c p = m0 c p := fun c p h => (F2 c p h).trans (F c p h)
            refine g_C ?_
            refine g_cmp (fun q => ?_) (fun q => ?_) (fun q => ?_)
            · refine g_ifT (by decide) ?_
              refine g_A (by omega) (by omega) ?_
              exact ih (i + 1) m2 hm2 F3 (by omega) (by omega) (by omega)
            · refine g_ifF (by decide) ?_
              exact fin m2 hm2 F3
            · refine g_ifT (by decide) ?_
              refine g_A (by omega) (by omega) ?_
              exact ih (i + 1) m2 hm2 F3 (by omega) (by omega) (by omega)
  exact ⟨13, L 13 0 m0 hm0 (fun _ _ _ => rfl) (by omega) (by omega) (by omega)⟩
end
section
theorem z_X12_turnsIn {X : Mm} {S : Sh} {m0 : Mm} {K : Int → Mm → Prop} {u1 u2 u3 u4 u5 u6 u7 : Int} (hS : Shp S) (hm0 : Inv X S m0) (l_u1 : 0 ≤ u1) (h_u1 : u1 ≤ 4) (l_u2 : 0 ≤ u2) (h_u2 : u2 ≤ 400) (l_u3 : 0 ≤ u3) (h_u3 : u3 ≤ 3) (l_u4 : (-2147483648) ≤ u4) (h_u4 : u4 ≤ 2147483647) (l_u5 : (-2147483648) ≤ u5) (h_u5 : u5 ≤ 2147483647) (l_u6 : 0 ≤ u6) (h_u6 : u6 ≤ 1) (l_u7 : 0 ≤ u7) (h_u7 : u7 ≤ 1024) (hk : ∀ (r : Int) (M1 : Mm), Inv X S M1 → (∀ c p : Int, ¬ c = 344 ∧ ¬ c = 345 ∧ ¬ (c = 336 ∧ 18 ≤ p ∧ p ≤ 18) → M1 c p = m0 c p) → (-2147483648) ≤ r → r ≤ 2147483647 → K r M1) : wp_X12_turnsIn S m0 336 u1 u2 u3 u4 u5 u6 u7 K := by
  have Fm0 : ∀ c p : Int, ¬ c = 344 ∧ ¬ c = 345 ∧ ¬ (c = 336 ∧ 18 ≤ p ∧ p ≤ 18) → m0 c p = m0 c p := fun c p _ => rfl
  refine u_X12_turnsIn ?_
  refine ⟨hS.k336, ?_⟩
  refine z_X12_heatIn hS hm0 (by omega) (by omega) (fun v1 bv1 cv1 => ?_)
  refine g_get 21 (-1) (5) rfl hS.k336 hm0.f_336_21 (fun v2 ev2 bv2 cv2 => ?_)
  have qv2 : v2 = (m0 336 21) := (ev2.trans (hm0.g (by decide))).trans (((Eq.refl (m0 336 21)).trans (hm0.g (by decide))).symm)
  refine g_if (fun w3 => ?_) (fun w3 => ?_)
  · refine g_getr 19 345 rfl hS.k336 hm0.f_336_19 (by decide) ?_
    refine g_C ?_
    refine g_C ?_
    refine g_st hS.k345 hS.l345 (by omega) (by omega) (hm0.wa_345 (by omega) (by omega)) (fun m4 em4 hm4 => ?_)
    have Fm4 : ∀ c p : Int, ¬ c = 344 ∧ ¬ c = 345 ∧ ¬ (c = 336 ∧ 18 ≤ p ∧ p ≤ 18) → m4 c p = m0 c p := fun c p h => (congrFun (congrFun em4 _) _).trans ((up_ne (by omega)).trans (Fm0 c p h))
    refine g_getr 19 345 rfl hS.k336 hm4.f_336_19 (by decide) ?_
    refine g_C ?_
    refine g_C ?_
    refine ⟨hS.k336, ?_⟩
    refine u_X12_handOf ?_
    refine g_getr 20 346 rfl hS.k336 hm4.f_336_20 (by decide) ?_
    refine g_C ?_
    refine g_C ?_
    refine g_M (by omega) (by omega) ?_
    refine g_A (by omega) (by omega) ?_
    refine g_A (by omega) (by omega) ?_
    refine g_ld (0) (20) hS.k346 hS.l346 (by omega) (by omega) (fam_346_13_5_0_4 hm4 (a := u1) (by omega) (by omega) (by omega)) (fun v5 ev5 bv5 cv5 => ?_)
    refine g_C ?_
    refine g_st hS.k345 hS.l345 (by omega) (by omega) (hm4.wa_345 (by omega) (by omega)) (fun m6 em6 hm6 => ?_)
    have Fm6 : ∀ c p : Int, ¬ c = 344 ∧ ¬ c = 345 ∧ ¬ (c = 336 ∧ 18 ≤ p ∧ p ≤ 18) → m6 c p = m0 c p := fun c p h => (congrFun (congrFun em6 _) _).trans ((up_ne (by omega)).trans (Fm4 c p h))
    refine g_getr 19 345 rfl hS.k336 hm6.f_336_19 (by decide) ?_
    refine g_C ?_
    refine g_C ?_
    refine g_st hS.k345 hS.l345 (by omega) (by omega) (hm6.wa_345 (by omega) (by omega)) (fun m7 em7 hm7 => ?_)
    have Fm7 : ∀ c p : Int, ¬ c = 344 ∧ ¬ c = 345 ∧ ¬ (c = 336 ∧ 18 ≤ p ∧ p ≤ 18) → m7 c p = m0 c p := fun c p h => (congrFun (congrFun em7 _) _).trans ((up_ne (by omega)).trans (Fm6 c p h))
    refine g_getr 19 345 rfl hS.k336 hm7.f_336_19 (by decide) ?_
    refine g_C ?_
    refine g_C ?_
    refine g_st hS.k345 hS.l345 (by omega) (by omega) (hm7.wa_345 (by omega) (by omega)) (fun m8 em8 hm8 => ?_)
    have Fm8 : ∀ c p : Int, ¬ c = 344 ∧ ¬ c = 345 ∧ ¬ (c = 336 ∧ 18 ≤ p ∧ p ≤ 18) → m8 c p = m0 c p := fun c p h => (congrFun (congrFun em8 _) _).trans ((up_ne (by omega)).trans (Fm7 c p h))
    refine g_getr 19 345 rfl hS.k336 hm8.f_336_19 (by decide) ?_
    refine g_C ?_
    refine g_C ?_
    refine g_st hS.k345 hS.l345 (by omega) (by omega) (hm8.wa_345 (by omega) (by omega)) (fun m9 em9 hm9 => ?_)
    have Fm9 : ∀ c p : Int, ¬ c = 344 ∧ ¬ c = 345 ∧ ¬ (c = 336 ∧ 18 ≤ p ∧ p ≤ 18) → m9 c p = m0 c p := fun c p h => (congrFun (congrFun em9 _) _).trans ((up_ne (by omega)).trans (Fm8 c p h))
    refine g_getr 19 345 rfl hS.k336 hm9.f_336_19 (by decide) ?_
    refine g_C ?_
    refine g_C ?_
    refine g_st hS.k345 hS.l345 (by omega) (by omega) (hm9.wa_345 (by omega) (by omega)) (fun m10 em10 hm10 => ?_)
    have Fm10 : ∀ c p : Int, ¬ c = 344 ∧ ¬ c = 345 ∧ ¬ (c = 336 ∧ 18 ≤ p ∧ p ≤ 18) → m10 c p = m0 c p := fun c p h => (congrFun (congrFun em10 _) _).trans ((up_ne (by omega)).trans (Fm9 c p h))
    refine g_getr 19 345 rfl hS.k336 hm10.f_336_19 (by decide) ?_
    refine g_C ?_
    refine g_C ?_
    refine g_st hS.k345 hS.l345 (by omega) (by omega) (hm10.wa_345 (by omega) (by omega)) (fun m11 em11 hm11 => ?_)
    have Fm11 : ∀ c p : Int, ¬ c = 344 ∧ ¬ c = 345 ∧ ¬ (c = 336 ∧ 18 ≤ p ∧ p ≤ 18) → m11 c p = m0 c p := fun c p h => (congrFun (congrFun em11 _) _).trans ((up_ne (by omega)).trans (Fm10 c p h))
    refine g_getr 19 345 rfl hS.k336 hm11.f_336_19 (by decide) ?_
    refine g_C ?_
    refine g_C ?_
    refine g_st hS.k345 hS.l345 (by omega) (by omega) (hm11.wa_345 (by omega) (by omega)) (fun m12 em12 hm12 => ?_)
    have Fm12 : ∀ c p : Int, ¬ c = 344 ∧ ¬ c = 345 ∧ ¬ (c = 336 ∧ 18 ≤ p ∧ p ≤ 18) → m12 c p = m0 c p := fun c p h => (congrFun (congrFun em12 _) _).trans ((up_ne (by omega)).trans (Fm11 c p h))
    refine g_getr 19 345 rfl hS.k336 hm12.f_336_19 (by decide) ?_
    refine g_C ?_
    refine g_C ?_
    refine g_st hS.k345 hS.l345 (by omega) (by omega) (hm12.wa_345 (by omega) (by omega)) (fun m13 em13 hm13 => ?_)
    have Fm13 : ∀ c p : Int, ¬ c = 344 ∧ ¬ c = 345 ∧ ¬ (c = 336 ∧ 18 ≤ p ∧ p ≤ 18) → m13 c p = m0 c p := fun c p h => (congrFun (congrFun em13 _) _).trans ((up_ne (by omega)).trans (Fm12 c p h))
    refine g_getr 19 345 rfl hS.k336 hm13.f_336_19 (by decide) ?_
    refine g_C ?_
    refine g_getr 20 346 rfl hS.k336 hm13.f_336_20 (by decide) ?_
    refine g_C ?_
    refine g_ld (0) (99) hS.k346 hS.l346 (by omega) (by omega) (hm13.f_346_2) (fun v14 ev14 bv14 cv14 => ?_)
    refine g_if (fun w15 => ?_) (fun w15 => ?_)
    · refine g_C ?_
      refine u_X12_turnsIn_136 ?_
      refine g_st hS.k345 hS.l345 (by omega) (by omega) (hm13.wa_345 (by omega) (by omega)) (fun m16 em16 hm16 => ?_)
      have Fm16 : ∀ c p : Int, ¬ c = 344 ∧ ¬ c = 345 ∧ ¬ (c = 336 ∧ 18 ≤ p ∧ p ≤ 18) → m16 c p = m0 c p := fun c p h => (congrFun (congrFun em16 _) _).trans ((up_ne (by omega)).trans (Fm13 c p h))
      refine g_get 21 (-1) (5) rfl hS.k336 hm16.f_336_21 (fun v17 ev17 bv17 cv17 => ?_)
      have qv17 : v17 = (m0 336 21) := (ev17.trans (hm16.g (by decide))).trans (((Eq.refl (m0 336 21)).trans (hm0.g (by decide))).symm)
      refine ⟨hS.k336, ?_⟩
      have zb18 := hm16.f_336_21
      have q19 : m16 336 21 = (m0 336 21) := (hm16.g (by decide)).trans (((Eq.refl (m0 336 21)).trans (hm0.g (by decide))).symm)
      have q20 : (m0 336 21) = X 336 21 := (Eq.refl (m0 336 21)).trans (hm0.g (by decide))
      have gq20 := hm0.good.1
      refine z_X12_summedBy hS hm16 (by omega) (by omega) (by omega) (fun v21 m22 hm22 fm22 => ?_)
      have zb23 := hm22.f_336_21
      have Fm22 : ∀ c p : Int, ¬ c = 344 ∧ ¬ c = 345 ∧ ¬ (c = 336 ∧ 18 ≤ p ∧ p ≤ 18) → m22 c p = m0 c p := fun c p h => (fm22 c p (by omega)).trans (Fm16 c p h)
      refine g_C ?_
      refine g_cmp (fun w24 => ?_) (fun w24 => ?_) (fun w24 => ?_)
      · refine g_ifF (by omega) ?_
        refine g_C ?_
        have zb25 := hm22.f_336_21
        have q26 : m22 336 21 = (m0 336 21) := (hm22.g (by decide)).trans (((Eq.refl (m0 336 21)).trans (hm0.g (by decide))).symm)
        exact hk 0 m22 hm22 Fm22 (by omega) (by omega)
      · refine g_ifT (by omega) ?_
        refine g_C ?_
        refine g_cmp (fun w27 => ?_) (fun w27 => ?_) (fun w27 => ?_)
        · refine g_ifT (by omega) ?_
          refine g_w32 (by omega) (by omega) ?_
          have zb29 := hm22.f_336_21
          have q30 : m22 336 21 = (m0 336 21) := (hm22.g (by decide)).trans (((Eq.refl (m0 336 21)).trans (hm0.g (by decide))).symm)
          exact hk v21 m22 hm22 Fm22 (by omega) (by omega)
        · exfalso; omega
        · exfalso; omega
      · refine g_ifT (by omega) ?_
        refine g_C ?_
        refine g_cmp (fun w31 => ?_) (fun w31 => ?_) (fun w31 => ?_)
        · refine g_ifT (by omega) ?_
          refine g_w32 (by omega) (by omega) ?_
          have zb33 := hm22.f_336_21
          have q34 : m22 336 21 = (m0 336 21) := (hm22.g (by decide)).trans (((Eq.refl (m0 336 21)).trans (hm0.g (by decide))).symm)
          exact hk v21 m22 hm22 Fm22 (by omega) (by omega)
        · refine g_ifT (by omega) ?_
          refine g_w32 (by omega) (by omega) ?_
          have zb36 := hm22.f_336_21
          have q37 : m22 336 21 = (m0 336 21) := (hm22.g (by decide)).trans (((Eq.refl (m0 336 21)).trans (hm0.g (by decide))).symm)
          exact hk v21 m22 hm22 Fm22 (by omega) (by omega)
        · refine g_ifF (by omega) ?_
          refine g_C ?_
          have zb38 := hm22.f_336_21
          have q39 : m22 336 21 = (m0 336 21) := (hm22.g (by decide)).trans (((Eq.refl (m0 336 21)).trans (hm0.g (by decide))).symm)
          exact hk 50 m22 hm22 Fm22 (by omega) (by omega)
    · refine g_C ?_
      refine u_X12_turnsIn_136 ?_
      refine g_st hS.k345 hS.l345 (by omega) (by omega) (hm13.wa_345 (by omega) (by omega)) (fun m40 em40 hm40 => ?_)
      have Fm40 : ∀ c p : Int, ¬ c = 344 ∧ ¬ c = 345 ∧ ¬ (c = 336 ∧ 18 ≤ p ∧ p ≤ 18) → m40 c p = m0 c p := fun c p h => (congrFun (congrFun em40 _) _).trans ((up_ne (by omega)).trans (Fm13 c p h))
      refine g_get 21 (-1) (5) rfl hS.k336 hm40.f_336_21 (fun v41 ev41 bv41 cv41 => ?_)
      have qv41 : v41 = (m0 336 21) := (ev41.trans (hm40.g (by decide))).trans (((Eq.refl (m0 336 21)).trans (hm0.g (by decide))).symm)
      refine ⟨hS.k336, ?_⟩
      have zb42 := hm40.f_336_21
      have q43 : m40 336 21 = (m0 336 21) := (hm40.g (by decide)).trans (((Eq.refl (m0 336 21)).trans (hm0.g (by decide))).symm)
      have q44 : (m0 336 21) = X 336 21 := (Eq.refl (m0 336 21)).trans (hm0.g (by decide))
      have gq44 := hm0.good.1
      refine z_X12_summedBy hS hm40 (by omega) (by omega) (by omega) (fun v45 m46 hm46 fm46 => ?_)
      have zb47 := hm46.f_336_21
      have Fm46 : ∀ c p : Int, ¬ c = 344 ∧ ¬ c = 345 ∧ ¬ (c = 336 ∧ 18 ≤ p ∧ p ≤ 18) → m46 c p = m0 c p := fun c p h => (fm46 c p (by omega)).trans (Fm40 c p h)
      refine g_C ?_
      refine g_cmp (fun w48 => ?_) (fun w48 => ?_) (fun w48 => ?_)
      · refine g_ifF (by omega) ?_
        refine g_C ?_
        have zb49 := hm46.f_336_21
        have q50 : m46 336 21 = (m0 336 21) := (hm46.g (by decide)).trans (((Eq.refl (m0 336 21)).trans (hm0.g (by decide))).symm)
        exact hk 0 m46 hm46 Fm46 (by omega) (by omega)
      · refine g_ifT (by omega) ?_
        refine g_C ?_
        refine g_cmp (fun w51 => ?_) (fun w51 => ?_) (fun w51 => ?_)
        · refine g_ifT (by omega) ?_
          refine g_w32 (by omega) (by omega) ?_
          have zb53 := hm46.f_336_21
          have q54 : m46 336 21 = (m0 336 21) := (hm46.g (by decide)).trans (((Eq.refl (m0 336 21)).trans (hm0.g (by decide))).symm)
          exact hk v45 m46 hm46 Fm46 (by omega) (by omega)
        · exfalso; omega
        · exfalso; omega
      · refine g_ifT (by omega) ?_
        refine g_C ?_
        refine g_cmp (fun w55 => ?_) (fun w55 => ?_) (fun w55 => ?_)
        · refine g_ifT (by omega) ?_
          refine g_w32 (by omega) (by omega) ?_
          have zb57 := hm46.f_336_21
          have q58 : m46 336 21 = (m0 336 21) := (hm46.g (by decide)).trans (((Eq.refl (m0 336 21)).trans (hm0.g (by decide))).symm)
          exact hk v45 m46 hm46 Fm46 (by omega) (by omega)
        · refine g_ifT (by omega) ?_
          refine g_w32 (by omega) (by omega) ?_
          have zb60 := hm46.f_336_21
          have q61 : m46 336 21 = (m0 336 21) := (hm46.g (by decide)).trans (((Eq.refl (m0 336 21)).trans (hm0.g (by decide))).symm)
          exact hk v45 m46 hm46 Fm46 (by omega) (by omega)
        · refine g_ifF (by omega) ?_
          refine g_C ?_
          have zb62 := hm46.f_336_21
          have q63 : m46 336 21 = (m0 336 21) := (hm46.g (by decide)).trans (((Eq.refl (m0 336 21)).trans (hm0.g (by decide))).symm)
          exact hk 50 m46 hm46 Fm46 (by omega) (by omega)
  · refine g_C ?_
    refine ⟨hS.k336, ?_⟩
    refine u_X12_handOf ?_
    refine g_getr 20 346 rfl hS.k336 hm0.f_336_20 (by decide) ?_
    refine g_C ?_
    refine g_C ?_
    refine g_M (by omega) (by omega) ?_
    refine g_A (by omega) (by omega) ?_
    refine g_A (by omega) (by omega) ?_
    refine g_ld (0) (20) hS.k346 hS.l346 (by omega) (by omega) (fam_346_13_5_0_4 hm0 (a := u1) (by omega) (by omega) (by omega)) (fun v64 ev64 bv64 cv64 => ?_)
    refine g_C ?_
    refine g_iDivc (d := 4) (by omega) (by omega) (by decide) (fun v65 bv65 cv65 => ?_)
    refine g_A (by omega) (by omega) ?_
    refine g_Aw (fun v66 bv66 cv66 => ?_)
    have zb67 := hm0.f_336_21
    have q68 : m0 336 21 = (m0 336 21) := (hm0.g (by decide)).trans (((Eq.refl (m0 336 21)).trans (hm0.g (by decide))).symm)
    exact hk v66 m0 hm0 Fm0 (by omega) (by omega)
end
