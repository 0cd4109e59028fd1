theorem z_X3_write {X : Mm} {S : Sh} {m0 : Mm} {K : Mm → Prop} {u1 : Int} (hS : Shp S) (hm0 : Inv X S m0)  (hk : ∀ (M1 : Mm), Inv X S M1 → (∀ c p : Int, ¬ (c = 52 ∧ 2 ≤ p ∧ p ≤ 2) ∧ ¬ c = 53 → M1 c p = m0 c p) → (M1 52 2 ≤ m0 52 2 + 1) → K M1) : wp_X3_write S m0 52 u1 K := by
  have Fm0 : ∀ c p : Int, ¬ (c = 52 ∧ 2 ≤ p ∧ p ≤ 2) ∧ ¬ c = 53 → m0 c p = m0 c p := fun c p _ => rfl
  refine u_X3_write ?_
  refine g_get 2 (0) (400) rfl hS.k52 hm0.f_52_2 (fun v1 ev1 bv1 cv1 => ?_)
  have qv1 : v1 = (m0 52 2) := ev1.trans (Eq.refl (m0 52 2)).symm
  refine g_C ?_
  refine g_if (fun w2 => ?_) (fun w2 => ?_)
  · have zb3 := hm0.f_52_2
    exact hk m0 hm0 Fm0 (by omega)
  · refine g_getr 1 53 rfl hS.k52 hm0.f_52_1 (by decide) ?_
    refine g_get 2 (0) (400) rfl hS.k52 hm0.f_52_2 (fun v5 ev5 bv5 cv5 => ?_)
    have qv5 : v5 = (m0 52 2) := ev5.trans (Eq.refl (m0 52 2)).symm
    refine g_st hS.k53 hS.l53 (by omega) (by omega) (hm0.wa_53 (by omega) (by omega)) (fun m6 em6 hm6 => ?_)
    have Fm6 : ∀ c p : Int, ¬ (c = 52 ∧ 2 ≤ p ∧ p ≤ 2) ∧ ¬ c = 53 → m6 c p = m0 c p := fun c p h => (congrFun (congrFun em6 _) _).trans ((up_ne (by omega)).trans (Fm0 c p h))
    refine g_get 2 (0) (400) rfl hS.k52 hm6.f_52_2 (fun v7 ev7 bv7 cv7 => ?_)
    have qv7 : v7 = (m0 52 2) := ev7.trans ((congrFun (congrFun em6 _) _).trans ((up_ne (by omega)).trans (Eq.refl (m0 52 2)).symm))
    refine g_C ?_
    refine g_A (by omega) (by omega) ?_
    refine g_put 2 rfl hS.k52 (hm6.w_52_2 (by omega) (by omega)) (fun m8 em8 hm8 => ?_)
    have Fm8 : ∀ c p : Int, ¬ (c = 52 ∧ 2 ≤ p ∧ p ≤ 2) ∧ ¬ c = 53 → m8 c p = m0 c p := fun c p h => (congrFun (congrFun em8 _) _).trans ((up_ne (by omega)).trans (Fm6 c p h))
    have zb9 := hm8.f_52_2
    have q10 : m8 52 2 = (v7 + 1) := (Eq.refl (m8 52 2)).trans ((congrFun (congrFun em8 _) _).trans (up_ate (by omega)))
    exact hk m8 hm8 Fm8 (by omega)
