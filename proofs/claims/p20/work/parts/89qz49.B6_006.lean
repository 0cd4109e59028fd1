theorem zz_end {S : Sh} {m0 : Mm} {K : Int → Int → Mm → Prop} {K1 : Int → Mm → Prop} {u n : Int} (hS : Shp S) (hz : RZ S m0 n) (hK : ∀ (r : Int) (M : Mm), wp_X12_end S M 336 u (fun r2 M2 => K r r2 M2) → K1 r M) (hk : ∀ (r : Int) (M1 : Mm), RZ S M1 n → K r r M1) : wp_X11_end S m0 0 u K1 := by
  have hj := hz.1
  have hm0 := hj.inv
  have b1 := hm0.f_1_1
  have a1 := hj.2.2.1.1
  have a3 := hj.2.2.1.2.2
  refine u_X11_end ?_
  refine g_if (fun w => ?_) (fun w => ?_)
  · refine g_C ?_
    refine hK _ _ ?_
    refine u_X12_end ?_
    exact g_ifT w (g_C (hk _ m0 hz))
  · refine g_getr 0 1 rfl hS.k0 hm0.f_0_0 (by decide) ?_
    refine g_getu 1 rfl hS.k1 (fun v ev => ?_)
    refine g_if (fun w2 => ?_) (fun w2 => ?_)
    · refine g_getr 0 1 rfl hS.k0 hm0.f_0_0 (by decide) ?_
      refine g_putR 1 rfl hS.k1 (fun m1 e1 => ?_)
      have f1 : ∀ c p : Int, ¬ (c = 1 ∧ p = 1) → m1 c p = m0 c p := fun c p q => (congrFun (congrFun e1 _) _).trans (up_ne q)
      have x1 : m1 1 1 = u := (congrFun (congrFun e1 _) _).trans (up_at _ _ _ _)
      have j1 : Jc S m1 := by rw [e1]; exact hj.1.len11 (by omega) (by omega)
      refine hK _ _ ?_
      refine u_X12_end ?_
      refine g_ifF w ?_
      refine g_getu 1 rfl hS.k336 (fun v2 ev2 => ?_)
      rw [f1 336 1 (by omega)] at ev2
      refine g_ifT (by omega) ?_
      refine g_putR 1 rfl hS.k336 (fun m2 e2 => ?_)
      have f2 : ∀ c p : Int, ¬ (c = 336 ∧ p = 1) → m2 c p = m1 c p := fun c p q => (congrFun (congrFun e2 _) _).trans (up_ne q)
      have x2 : m2 336 1 = u := (congrFun (congrFun e2 _) _).trans (up_at _ _ _ _)
      have j2 : Jc S m2 := by rw [e2]; exact j1.len12 (by omega) (by omega)
      exact hk u m2 (hz.keep (hj.tape j2 (fun c p _ q1 q2 _ => by rw [f2 c p (by omega), f1 c p q1]) (by rw [f2 1 1 (by omega), x1, x2]) (by rw [f2 0 7 (by omega), f1 0 7 (by omega), f2 336 2 (by omega), f1 336 2 (by omega)]; exact a3)) (fun c p q => by unfold KZ at q; rw [f2 c p (by omega), f1 c p (by omega)]))
    · refine g_C ?_
      refine hK _ _ ?_
      refine u_X12_end ?_
      refine g_ifF w ?_
      refine g_getu 1 rfl hS.k336 (fun v2 ev2 => ?_)
      exact g_ifF (by omega) (g_C (hk _ m0 hz))
