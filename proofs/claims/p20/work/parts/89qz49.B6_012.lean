theorem zs_test12 {X : Mm} {S : Sh} {m0 : Mm} {K : Int → Mm → Prop} {a b c d : Int} (hS : Shp S) (hm : Inv X S m0) (hn : b = -1 → ∀ M1 : Mm, Inv X S M1 → (∀ c p : Int, ¬ (c = 346 ∧ p = 157) → M1 c p = m0 c p) → M1 346 157 = 0 → K 0 M1) (h0 : ¬ b = -1 → ¬ gTs m0 a b c d → K (-2) m0) (hk : ∀ M1 : Mm, gTs m0 a b c d → Inv X S M1 → (∀ c p : Int, ¬ (c = 346 ∧ (p = 157 ∨ (117 + 4 * m0 346 157 ≤ p ∧ p ≤ 120 + 4 * m0 346 157))) → M1 c p = m0 c p) → M1 346 (117 + 4 * m0 346 157) = a → M1 346 (117 + 4 * m0 346 157 + 1) = b → M1 346 (117 + 4 * m0 346 157 + 2) = c → M1 346 (117 + 4 * m0 346 157 + 3) = d → M1 346 157 = m0 346 157 + 1 → K (m0 346 157 + 1) M1) : wp_X12_test S m0 336 a b c d K := by
  have b157 := hm.f_346_157
  refine u_X12_test ?_
  refine g_C ?_
  refine g_if (fun w => ?_) (fun w => ?_)
  · refine ⟨hS.k336, ?_⟩
    refine zs_isDairy hS hm (fun c1 => g_ifF (by decide) ?_) (fun c1 => g_ifT rfl (g_C (h0 w (fun z => z.1 c1))))
    refine g_C ?_
    refine g_C ?_
    refine g_C ?_
    refine zs_in (fun c2 => g_ifF (by decide) ?_) (fun c2 => g_ifT rfl (g_C (h0 w (fun z => c2 z.2.1))))
    refine g_C ?_
    refine g_C ?_
    refine g_C ?_
    refine zs_in (fun c3 => g_ifF (by decide) ?_) (fun c3 => g_ifT rfl (g_C (h0 w (fun z => c3 z.2.2.1))))
    refine g_C ?_
    refine g_C ?_
    refine g_C ?_
    refine zs_in (fun c4 => g_ifF (by decide) ?_) (fun c4 => g_ifT rfl (g_C (h0 w (fun z => c4 z.2.2.2.1))))
    refine g_C ?_
    refine g_C ?_
    refine g_C ?_
    refine zs_in (fun c5 => g_ifF (by decide) ?_) (fun c5 => g_ifT rfl (g_C (h0 w (fun z => c5 z.2.2.2.2.1))))
    refine g_getr 20 346 rfl hS.k336 hm.f_336_20 (by decide) ?_
    refine g_C ?_
    refine g_ldu hS.k346 hS.l346 (by decide) (by decide) (fun v ev => ?_)
    refine g_C ?_
    refine g_if (fun w2 => ?_) (fun w2 => g_C (h0 w (fun z => z.2.2.2.2.2 (by omega))))
    refine g_C ?_
    refine g_C ?_
    refine g_getr 20 346 rfl hS.k336 hm.f_336_20 (by decide) ?_
    refine g_C ?_
    refine g_ldu hS.k346 hS.l346 (by decide) (by decide) (fun t et => ?_)
    subst et
    refine g_M (by omega) (by omega) ?_
    refine g_A (by omega) (by omega) ?_
    refine g_getr 20 346 rfl hS.k336 hm.f_336_20 (by decide) ?_
    refine g_st hS.k346 hS.l346 (by omega) (by omega) (wfm_346_117_4_0_9 hm (a := m0 346 157) (by omega) (by omega) (by omega) (by omega) (by omega)) (fun m1 e1 hm1 => ?_)
    have f1 : ∀ c p : Int, ¬ (c = 346 ∧ p = 117 + 4 * m0 346 157) → m1 c p = m0 c p := fun c p q => (congrFun (congrFun e1 _) _).trans (up_ne q)
    have y1 : m1 346 (117 + 4 * m0 346 157) = a := (congrFun (congrFun e1 _) _).trans (up_at _ _ _ _)
    refine g_getr 20 346 rfl hS.k336 hm1.f_336_20 (by decide) ?_
    refine g_C ?_
    refine g_A (by omega) (by omega) ?_
    refine g_st hS.k346 hS.l346 (by omega) (by omega) (wfm_346_118_4_0_9 hm1 (a := m0 346 157) (by omega) (by omega) (by omega) (by omega) (by omega)) (fun m2 e2 hm2 => ?_)
    have f2 : ∀ c p : Int, ¬ (c = 346 ∧ p = 117 + 4 * m0 346 157 + 1) → m2 c p = m1 c p := fun c p q => (congrFun (congrFun e2 _) _).trans (up_ne q)
    have y2 : m2 346 (117 + 4 * m0 346 157 + 1) = b := (congrFun (congrFun e2 _) _).trans (up_at _ _ _ _)
    refine g_getr 20 346 rfl hS.k336 hm2.f_336_20 (by decide) ?_
    refine g_C ?_
    refine g_A (by omega) (by omega) ?_
    refine g_st hS.k346 hS.l346 (by omega) (by omega) (wfm_346_119_4_0_9 hm2 (a := m0 346 157) (by omega) (by omega) (by omega) (by omega) (by omega)) (fun m3 e3 hm3 => ?_)
    have f3 : ∀ c p : Int, ¬ (c = 346 ∧ p = 117 + 4 * m0 346 157 + 2) → m3 c p = m2 c p := fun c p q => (congrFun (congrFun e3 _) _).trans (up_ne q)
    have y3 : m3 346 (117 + 4 * m0 346 157 + 2) = c := (congrFun (congrFun e3 _) _).trans (up_at _ _ _ _)
    refine g_getr 20 346 rfl hS.k336 hm3.f_336_20 (by decide) ?_
    refine g_C ?_
    refine g_A (by omega) (by omega) ?_
    refine g_st hS.k346 hS.l346 (by omega) (by omega) (wfm_346_120_4_0_9 hm3 (a := m0 346 157) (by omega) (by omega) (by omega) (by omega) (by omega)) (fun m4 e4 hm4 => ?_)
    have f4 : ∀ c p : Int, ¬ (c = 346 ∧ p = 117 + 4 * m0 346 157 + 3) → m4 c p = m3 c p := fun c p q => (congrFun (congrFun e4 _) _).trans (up_ne q)
    have y4 : m4 346 (117 + 4 * m0 346 157 + 3) = d := (congrFun (congrFun e4 _) _).trans (up_at _ _ _ _)
    refine g_getr 20 346 rfl hS.k336 hm4.f_336_20 (by decide) ?_
    refine g_C ?_
    refine g_ldu hS.k346 hS.l346 (by decide) (by decide) (fun t et => ?_)
    have et2 : t = m0 346 157 := by rw [et, f4 346 157 (by omega), f3 346 157 (by omega), f2 346 157 (by omega), f1 346 157 (by omega)]
    refine g_C ?_
    refine g_A (by omega) (by omega) ?_
    refine g_st hS.k346 hS.l346 (by decide) (by decide) (hm4.w_346_157 (by omega) (by omega)) (fun m5 e5 hm5 => ?_)
    have f5 : ∀ c p : Int, ¬ (c = 346 ∧ p = 157) → m5 c p = m4 c p := fun c p q => (congrFun (congrFun e5 _) _).trans (up_ne q)
    have y5 : m5 346 157 = t + 1 := (congrFun (congrFun e5 _) _).trans (up_at _ _ _ _)
    refine g_getr 20 346 rfl hS.k336 hm5.f_336_20 (by decide) ?_
    refine g_C ?_
    refine g_ldu hS.k346 hS.l346 (by decide) (by decide) (fun t2 et3 => ?_)
    have e6 : t2 = m0 346 157 + 1 := by omega
    rw [e6]
    refine hk m5 ⟨c1, c2, c3, c4, c5, by omega⟩ hm5 (fun c p q => ?_) ?_ ?_ ?_ ?_ (by omega)
    · rw [f5 c p (by omega), f4 c p (by omega), f3 c p (by omega), f2 c p (by omega), f1 c p (by omega)]
    · rw [f5 346 _ (by omega), f4 346 _ (by omega), f3 346 _ (by omega), f2 346 _ (by omega), y1]
    · rw [f5 346 _ (by omega), f4 346 _ (by omega), f3 346 _ (by omega), y2]
    · rw [f5 346 _ (by omega), f4 346 _ (by omega), y3]
    · rw [f5 346 _ (by omega), y4]
  · refine g_getr 20 346 rfl hS.k336 hm.f_336_20 (by decide) ?_
    refine g_C ?_
    refine g_C ?_
    refine g_st hS.k346 hS.l346 (by decide) (by decide) (hm.w_346_157 (by omega) (by omega)) (fun m5 e5 hm5 => ?_)
    refine g_C ?_
    exact hn (by omega) m5 hm5 (fun c p q => (congrFun (congrFun e5 _) _).trans (up_ne q)) ((congrFun (congrFun e5 _) _).trans (up_at _ _ _ _))
