/-! meet of both sides, to the letter -/
theorem g_Ax {a b : Int} {K : Int → Prop} (h : ∀ v : Int, v = w32 (a + b) → -2147483648 ≤ v → v ≤ 2147483647 → K v) : wA a b K := h _ rfl (w32_r _).1 (w32_r _).2
abbrev cMe (m : Mm) (w j : Int) : Prop := (0 ≤ w ∧ w < m 4 7) ∧ m 23 w = -1 ∧ (0 ≤ j ∧ j < m 4 5) ∧ cSu m w j ∧ ∀ l : Int, 0 ≤ l → l < j → ¬ cSu m w l
theorem zs_meet11 {X : Mm} {S : Sh} {m0 : Mm} {K : Int → Mm → Prop} {w : Int} (hS : Shp S) (hm : Inv X S m0) (h0 : (0 ≤ w ∧ w < m0 4 7 → m0 23 w = -1 → ∀ j : Int, 0 ≤ j → j < m0 4 5 → ¬ cSu m0 w j) → K (-1) m0) (hk : ∀ (j i : Int) (M1 M2 : Mm), cMe m0 w j → KP m0 M1 i → Inv X S M2 → (∀ c p : Int, ¬ (c = 23 ∧ p = w) → ¬ (c = 16 ∧ p = 1) → ¬ (c = 20 ∧ p = j) → M2 c p = M1 c p) → M2 23 w = m0 16 0 → M2 16 1 = w32 (m0 16 1 + m0 15 w) → M2 20 j = -1 → K j M2) : wp_X11_meet S m0 0 w K := by
  have b7 := hm.f_4_7
  have b5 := hm.f_4_5
  have hb : isSt 16 := by decide
  refine u_X11_meet ?_
  refine ⟨hS.k0, ?_⟩
  refine zs_isWant11 hS hm (fun c1 => g_ifF (by decide) ?_) (fun c1 => g_ifT rfl (g_C ?_))
  rotate_left
  · refine u_X11_meet_17 ?_
    refine g_C ?_
    exact g_ifF (fun z => z rfl) (g_C (h0 (fun z => absurd z c1)))
  refine ⟨hS.k0, ?_⟩
  refine zs_jugFor hS hm c1.1 (by omega) (fun q => ?_) (fun j e23 j0 j1 su fi => ?_)
  · refine u_X11_meet_17 ?_
    refine g_C ?_
    exact g_ifF (fun z => z rfl) (g_C (h0 (fun _ => q)))
  refine u_X11_meet_17 ?_
  refine g_C ?_
  refine g_ifT (by omega) ?_
  refine ⟨hS.k0, ?_⟩
  refine zk_keepPast hS hm (fun i m1 hm1 kp => ?_)
  refine g_getr 1 3 rfl hS.k0 hm1.f_0_1 (by decide) ?_
  refine g_getr 1 16 rfl hS.k3 hm1.f_3_1 (by decide) ?_
  refine g_getr 8 23 rfl hS.k16 hm1.f_16_8 (by decide) ?_
  refine g_getr 1 3 rfl hS.k0 hm1.f_0_1 (by decide) ?_
  refine g_getr 1 16 rfl hS.k3 hm1.f_3_1 (by decide) ?_
  refine g_getu 0 rfl hS.k16 (fun v ev => ?_)
  have bh := hm1.f_16_0
  refine g_st hS.k23 hS.l23 (by omega) (by omega) (hm1.waB_5_7 hb c1.1 (by omega) (by omega) (by omega)) (fun m2 e2 hm2 => ?_)
  have f2 : ∀ c p : Int, ¬ (c = 23 ∧ p = w) → m2 c p = m1 c p := fun c p q => (congrFun (congrFun e2 _) _).trans (up_ne q)
  have y2 : m2 23 w = v := (congrFun (congrFun e2 _) _).trans (up_at _ _ _ _)
  refine g_getr 1 3 rfl hS.k0 hm2.f_0_1 (by decide) ?_
  refine g_getr 1 16 rfl hS.k3 hm2.f_3_1 (by decide) ?_
  refine g_getu 1 rfl hS.k16 (fun v2 ev2 => ?_)
  refine g_getr 1 3 rfl hS.k0 hm2.f_0_1 (by decide) ?_
  refine g_getr 0 4 rfl hS.k3 hm2.f_3_0 (by decide) ?_
  refine g_getr 18 15 rfl hS.k4 hm2.f_4_18 (by decide) ?_
  refine g_ldu hS.k15 hS.l15 (by omega) (by omega) (fun v3 ev3 => ?_)
  refine g_Ax (fun v4 ev4 bv4 cv4 => ?_)
  refine g_put 1 rfl hS.k16 (hm2.w_16_1 bv4 cv4) (fun m3 e3 hm3 => ?_)
  have f3 : ∀ c p : Int, ¬ (c = 16 ∧ p = 1) → m3 c p = m2 c p := fun c p q => (congrFun (congrFun e3 _) _).trans (up_ne q)
  have y3 : m3 16 1 = v4 := (congrFun (congrFun e3 _) _).trans (up_at _ _ _ _)
  refine g_getr 1 3 rfl hS.k0 hm3.f_0_1 (by decide) ?_
  refine g_getr 1 16 rfl hS.k3 hm3.f_3_1 (by decide) ?_
  refine g_getr 5 20 rfl hS.k16 hm3.f_16_5 (by decide) ?_
  refine g_C ?_
  refine g_st hS.k20 hS.l20 (by omega) (by omega) (hm3.waB_5_4 hb j0 (by omega) (by omega) (by omega)) (fun m4 e4 hm4 => ?_)
  have f4 : ∀ c p : Int, ¬ (c = 20 ∧ p = j) → m4 c p = m3 c p := fun c p q => (congrFun (congrFun e4 _) _).trans (up_ne q)
  have y4 : m4 20 j = -1 := (congrFun (congrFun e4 _) _).trans (up_at _ _ _ _)
  refine hk j i m1 m4 ⟨c1, e23, ⟨j0, j1⟩, su, fi⟩ kp hm4 (fun c p q1 q2 q3 => by rw [f4 c p q3, f3 c p q2, f2 c p q1]) ?_ ?_ y4
  · rw [f4 23 w (by omega), f3 23 w (by omega), y2, ev, kp.f (by omega) (by omega)]
  · rw [f4 16 1 (by omega), y3, ev4, ev2, ev3, f2 16 1 (by omega), f2 15 w (by omega), kp.f (by omega) (by omega), kp.f (by omega) (by omega)]
abbrev rMe (m : Mm) (w j : Int) : Prop := (0 ≤ w ∧ w < m 346 6) ∧ m 346 (51 + w) < 0 ∧ (0 ≤ j ∧ j < m 346 5) ∧ rSu m w j ∧ ∀ l : Int, 0 ≤ l → l < j → ¬ rSu m w l
theorem zs_meet12 {X : Mm} {S : Sh} {m0 : Mm} {K : Int → Mm → Prop} {w : Int} (hS : Shp S) (hm : Inv X S m0) (h0 : (0 ≤ w ∧ w < m0 346 6 → m0 346 (51 + w) < 0 → ∀ j : Int, 0 ≤ j → j < m0 346 5 → ¬ rSu m0 w j) → K (-1) m0) (hk : ∀ (j u s : Int) (M1 M2 : Mm), rMe m0 w j → KA m0 M1 u s → Inv X S M2 → (∀ c p : Int, ¬ (c = 346 ∧ (p = 35 + 4 * j + 3 ∨ p = 51 + w ∨ p = 8)) → M2 c p = M1 c p) → M2 346 (35 + 4 * j + 3) = 1 → M2 346 (51 + w) = m0 346 7 → M2 346 8 = w32 (m0 346 8 + m0 346 (93 + 4 * w + 3)) → K j M2) : wp_X12_meet S m0 336 w K := by
  have b6 := hm.f_346_6
  have b5 := hm.f_346_5
  refine u_X12_meet ?_
  refine ⟨hS.k336, ?_⟩
  refine zs_isWant12 hS hm (fun c1 => g_ifT (by decide) ?_) (fun c1 => g_ifF (by decide) (g_C (h0 (fun z => absurd z c1))))
  refine ⟨hS.k336, ?_⟩
  refine zs_firstFor hS hm c1.1 (by omega) (fun q => g_ifF (by decide) (g_C (h0 (fun _ => q)))) (fun j e51 j0 j1 su fi => ?_)
  refine g_ifT j0 ?_
  refine ⟨hS.k336, ?_⟩
  refine zk_keepsAct hS hm (fun u s m1 hm1 ka => ?_)
  refine g_getr 20 346 rfl hS.k336 hm1.f_336_20 (by decide) ?_
  refine g_C ?_
  refine g_C ?_
  refine g_M (by omega) (by omega) ?_
  refine g_A (by omega) (by omega) ?_
  refine g_C ?_
  refine g_A (by omega) (by omega) ?_
  refine g_C ?_
  refine g_st hS.k346 hS.l346 (by omega) (by omega) (wfm_346_38_4_0_3 hm1 (a := j) (by omega) (by omega) (by omega) (by omega) (by omega)) (fun m2 e2 hm2 => ?_)
  have f2 : ∀ c p : Int, ¬ (c = 346 ∧ p = 35 + 4 * j + 3) → m2 c p = m1 c p := fun c p q => (congrFun (congrFun e2 _) _).trans (up_ne q)
  have y2 : m2 346 (35 + 4 * j + 3) = 1 := (congrFun (congrFun e2 _) _).trans (up_at _ _ _ _)
  refine g_getr 20 346 rfl hS.k336 hm2.f_336_20 (by decide) ?_
  refine g_C ?_
  refine g_A (by omega) (by omega) ?_
  refine g_getr 20 346 rfl hS.k336 hm2.f_336_20 (by decide) ?_
  refine g_C ?_
  refine g_ld (-2147483648) (2147483647) hS.k346 hS.l346 (by omega) (by omega) (hm2.f_346_7) (fun v ev bv cv => ?_)
  refine g_st hS.k346 hS.l346 (by omega) (by omega) (wfm_346_51_1_0_5 hm2 (a := w) (by omega) (by omega) (by omega) bv cv) (fun m3 e3 hm3 => ?_)
  have f3 : ∀ c p : Int, ¬ (c = 346 ∧ p = 51 + w) → m3 c p = m2 c p := fun c p q => (congrFun (congrFun e3 _) _).trans (up_ne q)
  have y3 : m3 346 (51 + w) = v := (congrFun (congrFun e3 _) _).trans (up_at _ _ _ _)
  refine g_getr 20 346 rfl hS.k336 hm3.f_336_20 (by decide) ?_
  refine g_C ?_
  refine g_ldu hS.k346 hS.l346 (by omega) (by omega) (fun v2 ev2 => ?_)
  refine g_C ?_
  refine ⟨hS.k336, ?_⟩
  refine zt_wantOf hS hm3 c1.1 (by omega) (by omega) (by omega) ?_
  refine g_Ax (fun v4 ev4 bv4 cv4 => ?_)
  refine g_st hS.k346 hS.l346 (by omega) (by omega) (hm3.w_346_8 bv4 cv4) (fun m4 e4 hm4 => ?_)
  have f4 : ∀ c p : Int, ¬ (c = 346 ∧ p = 8) → m4 c p = m3 c p := fun c p q => (congrFun (congrFun e4 _) _).trans (up_ne q)
  have y4 : m4 346 8 = v4 := (congrFun (congrFun e4 _) _).trans (up_at _ _ _ _)
  refine hk j u s m1 m4 ⟨c1, e51, ⟨j0, j1⟩, su, fi⟩ ka hm4 (fun c p q => by rw [f4 c p (by omega), f3 c p (by omega), f2 c p (by omega)]) ?_ ?_ ?_
  · rw [f4 346 _ (by omega), f3 346 _ (by omega), y2]
  · rw [f4 346 _ (by omega), y3, ev, f2 346 7 (by omega), ka.f (by omega) (by omega)]
  · rw [y4, ev4, ev2, f3 346 8 (by omega), f3 346 (93 + 4 * w + 3) (by omega), f2 346 8 (by omega), f2 346 (93 + 4 * w + 3) (by omega), ka.f (by omega) (by omega), ka.f (by omega) (by omega)]
