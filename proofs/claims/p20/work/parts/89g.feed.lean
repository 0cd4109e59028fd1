theorem zk_feed12 {S : Sh} {m0 : Mm} {K : Int → Mm → Prop} {u1 u2 u3 u4 u5 l : Int} (hS : Shp S) (hj : Jc S m0) (hl : m0 336 1 = l) (h0 : ¬ l + 20 ≤ 400 → K (-1) m0) (hk : ∀ M1 : Mm, Jc S M1 → 0 ≤ l → l + 20 ≤ 400 → (∀ c p : Int, ¬ (c = 336 ∧ p = 1) → ¬ (c = 337 ∧ l ≤ p ∧ p < l + 20) → M1 c p = m0 c p) → M1 336 1 = l + 20 → ((∀ j : Int, 0 ≤ j → j < 4 → M1 337 (l + j) = i2b (iShr u1 (24 - 8 * j))) ∧ (∀ j : Int, 0 ≤ j → j < 4 → M1 337 (l + 4 + j) = i2b (iShr u2 (24 - 8 * j))) ∧ (∀ j : Int, 0 ≤ j → j < 4 → M1 337 (l + 8 + j) = i2b (iShr u3 (24 - 8 * j))) ∧ (∀ j : Int, 0 ≤ j → j < 4 → M1 337 (l + 12 + j) = i2b (iShr u4 (24 - 8 * j))) ∧ (∀ j : Int, 0 ≤ j → j < 4 → M1 337 (l + 16 + j) = i2b (iShr u5 (24 - 8 * j)))) → K (l + 20) M1) : wp_X12_feed S m0 336 u1 u2 u3 u4 u5 K := by
  have hm0 := hj.inv
  have b1 := hm0.f_336_1
  refine u_X12_feed ?_
  refine g_getu 1 rfl hS.k336 (fun v ev => ?_)
  refine g_C ?_
  refine g_A (by omega) (by omega) ?_
  refine g_C ?_
  refine g_if (fun w => ?_) (fun w => g_C (h0 (by omega)))
  refine ⟨hS.k336, ?_⟩
  refine zk_four (l := l) hS hj hl (by omega) (by omega) (fun m1 j1 f1 e1' w1 => ?_)
  have e1 : m1 336 1 = l + 4 := by omega
  refine ⟨hS.k336, ?_⟩
  refine zk_four (l := l + 4) hS j1 e1 (by omega) (by omega) (fun m2 j2 f2 e2' w2 => ?_)
  have e2 : m2 336 1 = l + 8 := by omega
  refine ⟨hS.k336, ?_⟩
  refine zk_four (l := l + 8) hS j2 e2 (by omega) (by omega) (fun m3 j3 f3 e3' w3 => ?_)
  have e3 : m3 336 1 = l + 12 := by omega
  refine ⟨hS.k336, ?_⟩
  refine zk_four (l := l + 12) hS j3 e3 (by omega) (by omega) (fun m4 j4 f4 e4' w4 => ?_)
  have e4 : m4 336 1 = l + 16 := by omega
  refine ⟨hS.k336, ?_⟩
  refine zk_four (l := l + 16) hS j4 e4 (by omega) (by omega) (fun m5 j5 f5 e5' w5 => ?_)
  have e5 : m5 336 1 = l + 20 := by omega
  refine g_getu 1 rfl hS.k336 (fun r er => ?_)
  rw [show r = l + 20 by omega]
  refine hk m5 j5 (by omega) (by omega) (fun c p q1 q2 => ?_) (by omega) ⟨fun j j0 j1 => ?_, fun j j0 j1 => ?_, fun j j0 j1 => ?_, fun j j0 j1 => ?_, fun j j0 j1 => ?_⟩
  · rw [f5 c p q1 (by omega), f4 c p q1 (by omega), f3 c p q1 (by omega), f2 c p q1 (by omega), f1 c p q1 (by omega)]
  · rw [f5 _ _ (by omega) (by omega), f4 _ _ (by omega) (by omega), f3 _ _ (by omega) (by omega), f2 _ _ (by omega) (by omega)]; exact w1 j j0 j1
  · rw [f5 _ _ (by omega) (by omega), f4 _ _ (by omega) (by omega), f3 _ _ (by omega) (by omega)]; exact w2 j j0 j1
  · rw [f5 _ _ (by omega) (by omega), f4 _ _ (by omega) (by omega)]; exact w3 j j0 j1
  · rw [f5 _ _ (by omega) (by omega)]; exact w4 j j0 j1
  · exact w5 j j0 j1
theorem zk_feed11 {S : Sh} {m0 : Mm} {K : Int → Mm → Prop} {u1 u2 u3 u4 u5 l : Int} (hS : Shp S) (hj : Jc S m0) (hl : m0 1 1 = l) (h0 : ¬ l + 20 ≤ 400 → K (-1) m0) (hk : ∀ M1 : Mm, Jc S M1 → 0 ≤ l → l + 20 ≤ 400 → (∀ c p : Int, ¬ (c = 1 ∧ p = 1) → ¬ (c = 2 ∧ l ≤ p ∧ p < l + 20) → M1 c p = m0 c p) → M1 1 1 = l + 20 → ((∀ j : Int, 0 ≤ j → j < 4 → M1 2 (l + j) = i2b (iShr u1 (24 - 8 * j))) ∧ (∀ j : Int, 0 ≤ j → j < 4 → M1 2 (l + 4 + j) = i2b (iShr u2 (24 - 8 * j))) ∧ (∀ j : Int, 0 ≤ j → j < 4 → M1 2 (l + 8 + j) = i2b (iShr u3 (24 - 8 * j))) ∧ (∀ j : Int, 0 ≤ j → j < 4 → M1 2 (l + 12 + j) = i2b (iShr u4 (24 - 8 * j))) ∧ (∀ j : Int, 0 ≤ j → j < 4 → M1 2 (l + 16 + j) = i2b (iShr u5 (24 - 8 * j)))) → K (l + 20) M1) : wp_X11_feed S m0 0 u1 u2 u3 u4 u5 K := by
  have hm0 := hj.inv
  have b1 := hm0.f_1_1
  refine u_X11_feed ?_
  refine g_getr 0 1 rfl hS.k0 hm0.f_0_0 (by decide) ?_
  refine g_C ?_
  refine ⟨hS.k1, ?_⟩
  refine u_X7_hasRoomFor ?_
  refine g_getu 1 rfl hS.k1 (fun v ev => ?_)
  refine g_A (by omega) (by omega) ?_
  refine g_C ?_
  refine g_if (fun w => g_C ⟨by decide, g_ifF (by decide) (g_C (h0 (by omega)))⟩) (fun w => g_C ⟨by decide, g_ifT (by decide) ?_⟩)
  refine g_getr 0 1 rfl hS.k0 hj.inv.f_0_0 (by decide) ?_
  refine ⟨hS.k1, ?_⟩
  refine zk_add (l := l) hS hj hl (by omega) (by omega) (fun m1 j1 f1 e1' w1 => ?_)
  have e1 : m1 1 1 = l + 4 := by omega
  refine g_getr 0 1 rfl hS.k0 j1.inv.f_0_0 (by decide) ?_
  refine ⟨hS.k1, ?_⟩
  refine zk_add (l := l + 4) hS j1 e1 (by omega) (by omega) (fun m2 j2 f2 e2' w2 => ?_)
  have e2 : m2 1 1 = l + 8 := by omega
  refine g_getr 0 1 rfl hS.k0 j2.inv.f_0_0 (by decide) ?_
  refine ⟨hS.k1, ?_⟩
  refine zk_add (l := l + 8) hS j2 e2 (by omega) (by omega) (fun m3 j3 f3 e3' w3 => ?_)
  have e3 : m3 1 1 = l + 12 := by omega
  refine g_getr 0 1 rfl hS.k0 j3.inv.f_0_0 (by decide) ?_
  refine ⟨hS.k1, ?_⟩
  refine zk_add (l := l + 12) hS j3 e3 (by omega) (by omega) (fun m4 j4 f4 e4' w4 => ?_)
  have e4 : m4 1 1 = l + 16 := by omega
  refine g_getr 0 1 rfl hS.k0 j4.inv.f_0_0 (by decide) ?_
  refine ⟨hS.k1, ?_⟩
  refine zk_add (l := l + 16) hS j4 e4 (by omega) (by omega) (fun m5 j5 f5 e5' w5 => ?_)
  have e5 : m5 1 1 = l + 20 := by omega
  refine g_getr 0 1 rfl hS.k0 j5.inv.f_0_0 (by decide) ?_
  refine g_getu 1 rfl hS.k1 (fun r er => ?_)
  rw [show r = l + 20 by omega]
  refine hk m5 j5 (by omega) (by omega) (fun c p q1 q2 => ?_) (by omega) ⟨fun j j0 j1 => ?_, fun j j0 j1 => ?_, fun j j0 j1 => ?_, fun j j0 j1 => ?_, fun j j0 j1 => ?_⟩
  · rw [f5 c p q1 (by omega), f4 c p q1 (by omega), f3 c p q1 (by omega), f2 c p q1 (by omega), f1 c p q1 (by omega)]
  · rw [f5 _ _ (by omega) (by omega), f4 _ _ (by omega) (by omega), f3 _ _ (by omega) (by omega), f2 _ _ (by omega) (by omega)]; exact w1 j j0 j1
  · rw [f5 _ _ (by omega) (by omega), f4 _ _ (by omega) (by omega), f3 _ _ (by omega) (by omega)]; exact w2 j j0 j1
  · rw [f5 _ _ (by omega) (by omega), f4 _ _ (by omega) (by omega)]; exact w3 j j0 j1
  · rw [f5 _ _ (by omega) (by omega)]; exact w4 j j0 j1
  · exact w5 j j0 j1
