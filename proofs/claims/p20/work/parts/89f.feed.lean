theorem g_i2be {a : Int} {K : Int → Prop} (h : ∀ v : Int, v = i2b a → K v) : wO1 i2b a K := h _ rfl
theorem g_stbR {S : Sh} {M : Mm} {x : Int} {ci n : Nat} {i v : Int} {K : Mm → Prop} (hk : isK S x ci) (hn : S.2.2 x = n) (h0 : 0 ≤ i) (h1 : i < n) (hz : -128 ≤ v ∧ v ≤ 127) (h : ∀ M' : Mm, M' = up M x i v → K M') : wStB S M x ci i v K := ⟨hk, ⟨h0, by rw [hn]; exact h1⟩, hz, h _ rfl⟩
theorem Jc.byte {S : Sh} {M : Mm} {c i v : Int} (h : Jc S M) (hc : c = 337 ∨ c = 2) (v0 : -128 ≤ v) (v1 : v ≤ 127) : Jc S (up M c i v) := by
  refine h.put (fun c' p' e1 e2 => ?_) (by omega)
  rcases hc with e | e
  · have e3 : c' = 337 := by omega
    rw [e3, bd_u (b := (-128, 127)) (by decide +kernel)]
    exact Or.inr ⟨v0, v1⟩
  · have e3 : c' = 2 := by omega
    rw [e3, bd_u (b := (-128, 127)) (by decide +kernel)]
    exact Or.inr ⟨v0, v1⟩
theorem Jc.len11 {S : Sh} {M : Mm} {v : Int} (h : Jc S M) (h0 : 0 ≤ v) (h1 : v ≤ 400) : Jc S (up M 1 1 v) := by
  refine h.put (fun c p e1 e2 => ?_) (by decide)
  have e1 : c = 1 := by omega
  have e2 : p = 1 := by omega
  subst e1 e2
  exact okb_of (l := 0) (u := 400) (by decide +kernel) h0 h1
theorem zk_four {S : Sh} {m0 : Mm} {K : Mm → Prop} {u l : Int} (hS : Shp S) (hj : Jc S m0) (hl : m0 336 1 = l) (l0 : 0 ≤ l) (l1 : l + 4 ≤ 400) (hk : ∀ M1 : Mm, Jc S M1 → (∀ c p : Int, ¬ (c = 336 ∧ p = 1) → ¬ (c = 337 ∧ l ≤ p ∧ p < l + 4) → M1 c p = m0 c p) → M1 336 1 = l + 4 → (∀ j : Int, 0 ≤ j → j < 4 → M1 337 (l + j) = i2b (iShr u (24 - 8 * j))) → K M1) : wp_X12_four S m0 336 u K := by
  refine u_X12_four ?_
  refine g_C ?_
  have L : ∀ (n : Nat) (j s : Int) (m : Mm), Jc S m → 0 ≤ j → j ≤ 4 → s = 24 - 8 * j → m 336 1 = l + j → (∀ c p : Int, ¬ (c = 336 ∧ p = 1) → ¬ (c = 337 ∧ l ≤ p ∧ p < l + 4) → m c p = m0 c p) → (∀ i : Int, 0 ≤ i → i < j → m 337 (l + i) = i2b (iShr u (24 - 8 * i))) → 5 - j ≤ (n : Int) → wp_X12_four_3 S K n 336 u s m := by
    intro n
    induction n with
    | zero => intro j s m _ _ _ _ _ _ _ h; exfalso; omega
    | succ n ih =>
      intro j s m jm j0 j4 es e1 F B h
      have hm := jm.inv
      refine u_X12_four_3 ?_
      refine g_if (fun w => hk m jm F (by omega) (fun i i0 i1 => B i i0 (by omega))) (fun w => ?_)
      refine g_getr 0 337 rfl hS.k336 hm.f_336_0 (by decide) ?_
      refine g_getu 1 rfl hS.k336 (fun v ev => ?_)
      refine g_Oe (fun x ex => ?_)
      refine g_i2be (fun y ey => ?_)
      have yr : -128 ≤ y ∧ y ≤ 127 := by rw [ey]; exact i2b_r _
      refine g_stbR hS.k337 hS.l337 (by omega) (by omega) yr (fun m1 e1' => ?_)
      have f1 : ∀ c p : Int, ¬ (c = 337 ∧ p = v) → m1 c p = m c p := fun c p q => (congrFun (congrFun e1' _) _).trans (up_ne q)
      have x1 : m1 337 v = y := (congrFun (congrFun e1' _) _).trans (up_at _ _ _ _)
      have j1 : Jc S m1 := by rw [e1']; exact jm.byte (by decide) yr.1 yr.2
      refine g_getu 1 rfl hS.k336 (fun v2 ev2 => ?_)
      rw [f1 336 1 (by omega)] at ev2
      refine g_C ?_
      refine g_A (by omega) (by omega) ?_
      refine g_putR 1 rfl hS.k336 (fun m2 e2 => ?_)
      have f2 : ∀ c p : Int, ¬ (c = 336 ∧ p = 1) → m2 c p = m1 c p := fun c p q => (congrFun (congrFun e2 _) _).trans (up_ne q)
      have x2 : m2 336 1 = v2 + 1 := (congrFun (congrFun e2 _) _).trans (up_at _ _ _ _)
      have j2 : Jc S m2 := by rw [e2]; exact j1.len12 (by omega) (by omega)
      refine g_A (by omega) (by omega) ?_
      refine ih (j + 1) _ m2 j2 (by omega) (by omega) (by omega) (by omega) (fun c p q1 q2 => ?_) (fun i i0 i1 => ?_) (by omega)
      · rw [f2 c p q1, f1 c p (by omega)]
        exact F c p q1 q2
      · by_cases ei : i = j
        · rw [f2 _ _ (by omega), show l + i = v by omega, x1, ey, ex, es, ei]
        · rw [f2 _ _ (by omega), f1 _ _ (by omega)]
          exact B i i0 (by omega)
  exact ⟨5, L 5 0 24 m0 hj (by decide) (by decide) (by decide) (by omega) (fun _ _ _ _ => rfl) (fun i i0 i1 => absurd i1 (by omega)) (by decide)⟩
theorem zk_add {S : Sh} {m0 : Mm} {K : Mm → Prop} {u l : Int} (hS : Shp S) (hj : Jc S m0) (hl : m0 1 1 = l) (l0 : 0 ≤ l) (l1 : l + 4 ≤ 400) (hk : ∀ M1 : Mm, Jc S M1 → (∀ c p : Int, ¬ (c = 1 ∧ p = 1) → ¬ (c = 2 ∧ l ≤ p ∧ p < l + 4) → M1 c p = m0 c p) → M1 1 1 = l + 4 → (∀ j : Int, 0 ≤ j → j < 4 → M1 2 (l + j) = i2b (iShr u (24 - 8 * j))) → K M1) : wp_X7_add S m0 1 u K := by
  refine u_X7_add ?_
  refine g_C ?_
  have L : ∀ (n : Nat) (j s : Int) (m : Mm), Jc S m → 0 ≤ j → j ≤ 4 → s = 24 - 8 * j → m 1 1 = l + j → (∀ c p : Int, ¬ (c = 1 ∧ p = 1) → ¬ (c = 2 ∧ l ≤ p ∧ p < l + 4) → m c p = m0 c p) → (∀ i : Int, 0 ≤ i → i < j → m 2 (l + i) = i2b (iShr u (24 - 8 * i))) → 5 - j ≤ (n : Int) → wp_X7_add_3 S K n 1 u s m := by
    intro n
    induction n with
    | zero => intro j s m _ _ _ _ _ _ _ h; exfalso; omega
    | succ n ih =>
      intro j s m jm j0 j4 es e1 F B h
      have hm := jm.inv
      refine u_X7_add_3 ?_
      refine g_if (fun w => hk m jm F (by omega) (fun i i0 i1 => B i i0 (by omega))) (fun w => ?_)
      refine g_getu 1 rfl hS.k1 (fun v0 ev0 => ?_)
      refine g_C ?_
      refine g_ifF (by omega) ?_
      refine g_getr 0 2 rfl hS.k1 hm.f_1_0 (by decide) ?_
      refine g_getu 1 rfl hS.k1 (fun v ev => ?_)
      refine g_Oe (fun x ex => ?_)
      refine g_i2be (fun y ey => ?_)
      have yr : -128 ≤ y ∧ y ≤ 127 := by rw [ey]; exact i2b_r _
      refine g_stbR hS.k2 hS.l2 (by omega) (by omega) yr (fun m1 e1' => ?_)
      have f1 : ∀ c p : Int, ¬ (c = 2 ∧ p = v) → m1 c p = m c p := fun c p q => (congrFun (congrFun e1' _) _).trans (up_ne q)
      have x1 : m1 2 v = y := (congrFun (congrFun e1' _) _).trans (up_at _ _ _ _)
      have j1 : Jc S m1 := by rw [e1']; exact jm.byte (by decide) yr.1 yr.2
      refine g_getu 1 rfl hS.k1 (fun v2 ev2 => ?_)
      rw [f1 1 1 (by omega)] at ev2
      refine g_C ?_
      refine g_A (by omega) (by omega) ?_
      refine g_putR 1 rfl hS.k1 (fun m2 e2 => ?_)
      have f2 : ∀ c p : Int, ¬ (c = 1 ∧ p = 1) → m2 c p = m1 c p := fun c p q => (congrFun (congrFun e2 _) _).trans (up_ne q)
      have x2 : m2 1 1 = v2 + 1 := (congrFun (congrFun e2 _) _).trans (up_at _ _ _ _)
      have j2 : Jc S m2 := by rw [e2]; exact j1.len11 (by omega) (by omega)
      refine u_X7_add_40 ?_
      refine g_A (by omega) (by omega) ?_
      refine ih (j + 1) _ m2 j2 (by omega) (by omega) (by omega) (by omega) (fun c p q1 q2 => ?_) (fun i i0 i1 => ?_) (by omega)
      · rw [f2 c p q1, f1 c p (by omega)]
        exact F c p q1 q2
      · by_cases ei : i = j
        · rw [f2 _ _ (by omega), show l + i = v by omega, x1, ey, ex, es, ei]
        · rw [f2 _ _ (by omega), f1 _ _ (by omega)]
          exact B i i0 (by omega)
  exact ⟨5, L 5 0 24 m0 hj (by decide) (by decide) (by decide) (by omega) (fun _ _ _ _ => rfl) (fun i i0 i1 => absurd i1 (by omega)) (by decide)⟩
