theorem Ya.on {M M1 : Mm} (h : Ya M) (hs : ∀ c p : Int, ¬ c = 346 → ¬ (c = 336 ∧ p = 25) → M1 c p = M c p) : Ya M1 := by
  obtain ⟨⟨a1, a2, a3⟩, a4, a5⟩ := h
  unfold Ya
  rw [hs 1 1 (by omega) (by omega), hs 336 1 (by omega) (by omega), hs 0 7 (by omega) (by omega), hs 336 2 (by omega) (by omega), hs 3 2 (by omega) (by omega), hs 336 21 (by omega) (by omega), hs 76 2 (by omega) (by omega), hs 355 0 (by omega) (by omega), hs 357 0 (by omega) (by omega), hs 101 2 (by omega) (by omega), hs 355 1 (by omega) (by omega), hs 357 1 (by omega) (by omega), hs 126 2 (by omega) (by omega), hs 355 2 (by omega) (by omega), hs 357 2 (by omega) (by omega), hs 151 2 (by omega) (by omega), hs 355 3 (by omega) (by omega), hs 357 3 (by omega) (by omega)]
  exact ⟨⟨a1, fun p p0 p1 => by rw [hs 2 p (by omega) (by omega), hs 337 p (by omega) (by omega)]; exact a2 p p0 p1, a3⟩, a4, a5⟩
theorem g_putzR {S : Sh} {M : Mm} {x : Int} {ci k : Nat} {v : Int} {K : Mm → Prop} (j : Int) (hj : (k : Int) = j) (hk : isK S x ci) (hz : v = 0 ∨ v = 1) (h : ∀ M', M' = up M x j v → K M') : wPutZ S M x ci k v K := by
  subst hj
  exact ⟨hk, hz, h _ rfl⟩
theorem g_stzR {S : Sh} {M : Mm} {x : Int} {ci n : Nat} {i v : Int} {K : Mm → Prop} (hk : isK S x ci) (hn : S.2.2 x = n) (h0 : 0 ≤ i) (h1 : i < n) (hz : v = 0 ∨ v = 1) (h : ∀ M', M' = up M x i v → K M') : wStZ S M x ci i v K := ⟨hk, ⟨h0, by rw [hn]; exact h1⟩, hz, h _ rfl⟩
theorem Jc.chg {S : Sh} {M M1 : Mm} (h : Jc S M) (hb : ∀ c p : Nat, c < 358 → p < pT.getD c 0 → M1 c p = M c p ∨ okb (bd c p) (M1 c p)) (h30 : ∀ i : Int, M1 30 i = M 30 i) (h55 : M1 55 1 = M 55 1) (hg : Good M1) (hp : PL3 M1) : Jc S M1 := by
  refine ⟨fun c p hc hp => ?_, fun i i0 i1 => by rw [h30]; exact h.2.1 i i0 i1, by rw [h55]; exact h.2.2.1, hg, hp⟩
  rcases hb c p hc hp with q | q
  · rw [q]; exact h.1 c p hc hp
  · exact q
theorem PL3.same {M M1 : Mm} (h : PL3 M) (h6 : ∀ p : Int, M1 346 p = M 346 p) (h7 : ∀ p : Int, M1 347 p = M 347 p) (h4 : ∀ p : Int, M1 354 p = M 354 p) (h5 : M1 336 25 = M 336 25) : PL3 M1 := by
  unfold PL3 at h ⊢
  have e6 : M1 346 = M 346 := funext h6
  have e7 : M1 347 = M 347 := funext h7
  have e4 : M1 354 = M 354 := funext h4
  rw [e6, e7, e4, h5]
  exact h
theorem Good.eq {X Y : Mm} (h : Good X) (h1 : ∀ p : Int, (p = 21 ∨ p = 2) → Y 336 p = X 336 p) (h3 : ∀ c p : Int, (c = 355 ∨ c = 357 ∨ c = 341 ∨ c = 340 ∨ c = 338) → Y c p = X c p) : Good Y := h.same (h1 21 (by decide)) (h1 2 (by decide)) (fun c k q => h3 c k (by omega)) (fun p _ => h3 341 p (by decide)) (fun p _ => h3 340 p (by decide)) (fun p _ => h3 338 p (by decide))
theorem Jc.bnd {S : Sh} {M : Mm} (h : Jc S M) (c p : Nat) (l u : Int) (hc : c < 358) (hp : p < pT.getD c 0) (hb : bd c p = (l, u)) (hlu : l ≤ u) : l ≤ M c p ∧ M c p ≤ u := h.inv.rd c p l u hc hp hb hlu
/-- one write to one place -/
theorem Jc.up1 {S : Sh} {M M1 : Mm} (h : Jc S M) (c0 p0 : Nat) {v : Int} (e : M1 = up M c0 p0 v) (hb : okb (bd c0 p0) v) (h30 : ¬ c0 = 30 ∧ ¬ (c0 = 55 ∧ p0 = 1)) (hg : Good M1) (hp : ¬ (c0 = 346 ∨ c0 = 347 ∨ c0 = 354 ∨ (c0 = 336 ∧ p0 = 25))) : Jc S M1 := by
  have f : ∀ c p : Int, ¬ (c = c0 ∧ p = p0) → M1 c p = M c p := fun c p q => (congrFun (congrFun e _) _).trans (up_ne q)
  refine h.chg (fun c p hc hp' => ?_) (fun i => f 30 i (by omega)) (f 55 1 (by omega)) hg (h.2.2.2.2.same (fun p => f 346 p (by omega)) (fun p => f 347 p (by omega)) (fun p => f 354 p (by omega)) (f 336 25 (by omega)))
  by_cases z : (c : Int) = c0 ∧ (p : Int) = p0
  · have z1 : c = c0 := by omega
    have z2 : p = p0 := by omega
    subst z1 z2
    refine Or.inr ?_
    rw [e, up_at]
    exact hb
  · exact Or.inl (f c p z)
theorem zj_seed12 {S : Sh} {m0 : Mm} {K : Int → Mm → Prop} {u1 : Int} (hS : Shp S) (h1 : 0 ≤ u1 → K (m0 336 22) (up m0 336 22 u1)) (h2 : u1 < 0 → K (-1) m0) : wp_X12_seed S m0 336 u1 K := by
  refine u_X12_seed ?_
  refine g_if (fun w => ?_) (fun w => g_C (h2 (by omega)))
  refine g_getu 22 rfl hS.k336 (fun v ev => ?_)
  refine g_putR 22 rfl hS.k336 (fun m1 e1 => ?_)
  rw [ev, e1]
  exact h1 w
theorem zj_seed11 {S : Sh} {m0 : Mm} {K : Int → Mm → Prop} {u1 : Int} (hS : Shp S) (hj : Jc S m0) (h1 : 0 ≤ u1 → K (m0 3 3) (up m0 3 3 u1)) (h2 : u1 < 0 → K (-1) m0) : wp_X11_seed S m0 0 u1 K := by
  have hm0 := hj.inv
  refine u_X11_seed ?_
  refine g_if (fun w => ?_) (fun w => g_C (h2 (by omega)))
  refine g_getr 1 3 rfl hS.k0 hm0.f_0_1 (by decide) ?_
  refine g_getu 3 rfl hS.k3 (fun v ev => ?_)
  refine g_getr 1 3 rfl hS.k0 hm0.f_0_1 (by decide) ?_
  refine g_putR 3 rfl hS.k3 (fun m1 e1 => ?_)
  rw [ev, e1]
  exact h1 w
theorem bq_347 : ∀ r : Nat, r < 20 → ∀ p : Nat, p < 57 → bd 347 (57 * r + p) = bd 346 p := by decide +kernel
theorem bq_354 : ∀ r : Nat, r < 4 → ∀ p : Nat, p < 158 → bd 354 (158 * r + p) = bd 346 p := by decide +kernel
theorem pT_said : pT.getD 346 0 = 158 ∧ pT.getD 347 0 = 1140 ∧ pT.getD 354 0 = 632 ∧ pT.getD 342 0 = 117 := by decide +kernel
theorem bd_said : bd 346 0 = (0, 6) ∧ bd 346 4 = (0, 5) ∧ bd 346 5 = (0, 4) := by decide +kernel
