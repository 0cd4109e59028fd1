theorem zx_enforce {X : Mm} {S : Sh} {m0 : Mm} {K : Mm → Prop} (hS : Shp S) (hm0 : Inv X S m0) (hk : ∀ (M1 : Mm), Inv X S M1 → (∀ c p : Int, ¬ (c = 55 ∧ p = 1) → M1 c p = m0 c p) → M1 55 1 = (if m0 3 2 < 0 then -2 else m0 30 (m0 3 2)) → K M1) : wp_X11_enforce S m0 0 K := by
  have b := hm0.f_3_2
  refine u_X11_enforce ?_
  refine g_getr 1 3 rfl hS.k0 hm0.f_0_1 (by decide) ?_
  refine g_getu 2 rfl hS.k3 (fun v1 ev1 => ?_)
  refine g_if (fun w2 => ?_) (fun w2 => ?_)
  · refine u_X11_enforce_26 ?_
    refine g_C ?_
    refine u_X11_enforce_27 ?_
    refine g_getr 10 55 rfl hS.k0 hm0.f_0_10 (by decide) ?_
    refine g_ifT rfl ?_
    refine g_C ?_
    refine g_putr 1 rfl hS.k55 (rowv_ne (S := S) (Or.inl rfl)) (hm0.wrow55 (Or.inl rfl)) (fun m3 em3 hm3 => ?_)
    exact hk m3 hm3 (fun c p q => (congrFun (congrFun em3 _) _).trans (up_ne q)) ((congrFun (congrFun em3 _) _).trans ((up_at _ _ _ _).trans (by rw [if_pos (by omega)])))
  · refine g_getr 1 3 rfl hS.k0 hm0.f_0_1 (by decide) ?_
    refine g_getu 2 rfl hS.k3 (fun v4 ev4 => ?_)
    refine g_C ?_
    refine g_ifF (by omega) ?_
    refine g_C ?_
    refine u_X11_enforce_27 ?_
    refine g_getr 10 55 rfl hS.k0 hm0.f_0_10 (by decide) ?_
    refine g_ifF (by decide) ?_
    refine g_getr 6 30 rfl hS.k0 hm0.f_0_6 (by decide) ?_
    refine g_getr 1 3 rfl hS.k0 hm0.f_0_1 (by decide) ?_
    refine g_getu 2 rfl hS.k3 (fun v5 ev5 => ?_)
    refine g_ldrw hS.k30 hS.l30 (by omega) (by omega) (hm0.row30 (by omega) (by omega)) (fun v6 ev6 hr_v6 => ?_)
    refine g_putr 1 rfl hS.k55 (rowv_ne (S := S) hr_v6) (hm0.wrow55 hr_v6) (fun m7 em7 hm7 => ?_)
    exact hk m7 hm7 (fun c p q => (congrFun (congrFun em7 _) _).trans (up_ne q)) ((congrFun (congrFun em7 _) _).trans ((up_at _ _ _ _).trans (by rw [if_neg (by omega), ev6, ev5])))
