theorem zs_test11 {X : Mm} {S : Sh} {m0 : Mm} {K : Int → Mm → Prop} {a b c d : Int} (hS : Shp S) (hm : Inv X S m0) (hn : ¬ m0 4 0 = 0 → b = -1 → ∀ M1 : Mm, Inv X S M1 → (∀ c p : Int, ¬ (c = 3 ∧ p = 4) → M1 c p = m0 c p) → M1 3 4 = 0 → K 0 M1) (h0 : ¬ (¬ m0 4 0 = 0 ∧ b = -1) → ¬ gTc m0 a b c d → K (-2) m0) (hk : ∀ M1 : Mm, gTc m0 a b c d → Inv X S M1 → (∀ c p : Int, ¬ (c = 3 ∧ p = 4) → ¬ (24 ≤ c ∧ c ≤ 27 ∧ p = m0 3 4) → M1 c p = m0 c p) → M1 24 (m0 3 4) = a → M1 25 (m0 3 4) = b → M1 26 (m0 3 4) = c → M1 27 (m0 3 4) = d → M1 3 4 = m0 3 4 + 1 → K (m0 3 4 + 1) M1) : wp_X11_test S m0 0 a b c d K := by
  have b34 := hm.f_3_4
  refine u_X11_test ?_
  refine g_getr 1 3 rfl hS.k0 hm.f_0_1 (by decide) ?_
  refine g_getr 0 4 rfl hS.k3 hm.f_3_0 (by decide) ?_
  refine g_getu 0 rfl hS.k4 (fun v ev => ?_)
  refine g_if (fun w => ?_) (fun w => g_C (h0 (fun z => z.1 (by omega)) (fun z => z.1 (by omega))))
  have c1 : ¬ m0 4 0 = 0 := by omega
  refine g_C ?_
  refine g_if (fun w2 => ?_) (fun w2 => ?_)
  · have no : ¬ gTc m0 a b c d → K (-2) m0 := h0 (fun z => w2 z.2)
    refine zs_turned11 (fun c2 => g_ifF (by decide) ?_) (fun c2 => g_ifT rfl (g_C (no (fun z => c2 z.2.2.1))))
    refine zs_turned11 (fun c3 => g_ifF (by decide) ?_) (fun c3 => g_ifT rfl (g_C (no (fun z => c3 z.2.2.2.1))))
    refine g_C ?_
    refine g_if (fun w3 => g_C (no (fun z => absurd z.2.2.2.2.1.1 (by omega)))) (fun w3 => ?_)
    refine g_C ?_
    refine g_if (fun w4 => g_C (no (fun z => absurd z.2.2.2.2.1.2 (by omega)))) (fun w4 => ?_)
    refine g_if (fun w5 => g_C (no (fun z => absurd z.2.2.2.2.2.1.1 (by omega)))) (fun w5 => ?_)
    refine g_C ?_
    refine g_if (fun w6 => ?_) (fun w6 => g_C (no (fun z => absurd z.2.2.2.2.2.1.2 (by omega))))
    refine g_getr 1 3 rfl hS.k0 hm.f_0_1 (by decide) ?_
    refine g_getu 4 rfl hS.k3 (fun t et => ?_)
    refine g_C ?_
    refine g_if (fun w7 => ?_) (fun w7 => g_C (no (fun z => absurd z.2.2.2.2.2.2 (by omega))))
    have gt : gTc m0 a b c d := ⟨c1, w2, c2, c3, ⟨by omega, by omega⟩, ⟨by omega, by omega⟩, by omega⟩
    refine g_getr 1 3 rfl hS.k0 hm.f_0_1 (by decide) ?_
    refine ⟨hS.k3, ?_⟩
    refine u_X4_addTest ?_
    refine g_getu 4 rfl hS.k3 (fun t1 et1 => ?_)
    refine g_C ?_
    refine g_ifF (by omega) ?_
    refine g_getr 5 24 rfl hS.k3 hm.f_3_5 (by decide) ?_
    refine g_getu 4 rfl hS.k3 (fun t2 et2 => ?_)
    subst et2
    refine g_st hS.k24 hS.l24 (by omega) (by omega) (hm.wa_24 (by omega) (by omega) (by omega) (by omega)) (fun m1 e1 hm1 => ?_)
    have f1 : ∀ c p : Int, ¬ (c = 24 ∧ p = m0 3 4) → m1 c p = m0 c p := fun c p q => (congrFun (congrFun e1 _) _).trans (up_ne q)
    have y1 : m1 24 (m0 3 4) = a := (congrFun (congrFun e1 _) _).trans (up_at _ _ _ _)
    refine g_getr 6 25 rfl hS.k3 hm1.f_3_6 (by decide) ?_
    refine g_getu 4 rfl hS.k3 (fun t3 et3 => ?_)
    rw [f1 3 4 (by omega)] at et3
    subst et3
    refine g_st hS.k25 hS.l25 (by omega) (by omega) (hm1.wa_25 (by omega) (by omega) (by omega) (by omega)) (fun m2 e2 hm2 => ?_)
    have f2 : ∀ c p : Int, ¬ (c = 25 ∧ p = m0 3 4) → m2 c p = m1 c p := fun c p q => (congrFun (congrFun e2 _) _).trans (up_ne q)
    have y2 : m2 25 (m0 3 4) = b := (congrFun (congrFun e2 _) _).trans (up_at _ _ _ _)
    refine g_getr 7 26 rfl hS.k3 hm2.f_3_7 (by decide) ?_
    refine g_getu 4 rfl hS.k3 (fun t4 et4 => ?_)
    rw [f2 3 4 (by omega), f1 3 4 (by omega)] at et4
    subst et4
    refine g_st hS.k26 hS.l26 (by omega) (by omega) (hm2.wa_26 (by omega) (by omega) (by omega) (by omega)) (fun m3 e3 hm3 => ?_)
    have f3 : ∀ c p : Int, ¬ (c = 26 ∧ p = m0 3 4) → m3 c p = m2 c p := fun c p q => (congrFun (congrFun e3 _) _).trans (up_ne q)
    have y3 : m3 26 (m0 3 4) = c := (congrFun (congrFun e3 _) _).trans (up_at _ _ _ _)
    refine g_getr 8 27 rfl hS.k3 hm3.f_3_8 (by decide) ?_
    refine g_getu 4 rfl hS.k3 (fun t5 et5 => ?_)
    rw [f3 3 4 (by omega), f2 3 4 (by omega), f1 3 4 (by omega)] at et5
    subst et5
    refine g_st hS.k27 hS.l27 (by omega) (by omega) (hm3.wa_27 (by omega) (by omega) (by omega) (by omega)) (fun m4 e4 hm4 => ?_)
    have f4 : ∀ c p : Int, ¬ (c = 27 ∧ p = m0 3 4) → m4 c p = m3 c p := fun c p q => (congrFun (congrFun e4 _) _).trans (up_ne q)
    have y4 : m4 27 (m0 3 4) = d := (congrFun (congrFun e4 _) _).trans (up_at _ _ _ _)
    refine g_getu 4 rfl hS.k3 (fun t6 et6 => ?_)
    rw [f4 3 4 (by omega), f3 3 4 (by omega), f2 3 4 (by omega), f1 3 4 (by omega)] at et6
    refine g_C ?_
    refine g_A (by omega) (by omega) ?_
    refine g_put 4 rfl hS.k3 (hm4.w_3_4 (by omega) (by omega)) (fun m5 e5 hm5 => ?_)
    have f5 : ∀ c p : Int, ¬ (c = 3 ∧ p = 4) → m5 c p = m4 c p := fun c p q => (congrFun (congrFun e5 _) _).trans (up_ne q)
    have y5 : m5 3 4 = t6 + 1 := (congrFun (congrFun e5 _) _).trans (up_at _ _ _ _)
    refine g_getr 1 3 rfl hS.k0 hm5.f_0_1 (by decide) ?_
    refine g_getu 4 rfl hS.k3 (fun t7 et7 => ?_)
    have e6 : t7 = m0 3 4 + 1 := by omega
    rw [e6]
    refine hk m5 gt hm5 (fun c p q q2 => ?_) ?_ ?_ ?_ ?_ (by omega)
    · rw [f5 c p q, f4 c p (by omega), f3 c p (by omega), f2 c p (by omega), f1 c p (by omega)]
    · rw [f5 24 _ (by omega), f4 24 _ (by omega), f3 24 _ (by omega), f2 24 _ (by omega), y1]
    · rw [f5 25 _ (by omega), f4 25 _ (by omega), f3 25 _ (by omega), y2]
    · rw [f5 26 _ (by omega), f4 26 _ (by omega), y3]
    · rw [f5 27 _ (by omega), y4]
  · refine g_getr 1 3 rfl hS.k0 hm.f_0_1 (by decide) ?_
    refine g_C ?_
    refine g_put 4 rfl hS.k3 (hm.w_3_4 (by omega) (by omega)) (fun m5 e5 hm5 => ?_)
    refine g_C ?_
    exact hn c1 (by omega) m5 hm5 (fun c p q => (congrFun (congrFun e5 _) _).trans (up_ne q)) ((congrFun (congrFun e5 _) _).trans (up_at _ _ _ _))
