section
/-! go and meet of both sides, to the letter -/
theorem zs_roadFor {X : Mm} {S : Sh} {m : Mm} {K : Int → Mm → Prop} {h p : Int} (hS : Shp S) (hm : Inv X S m) (i0 : 0 ≤ h) (i1 : h ≤ 4) (p0 : 0 ≤ p) (p1 : p ≤ 5) (h0 : ¬ m 18 h = 0 → K 0 m) (hk : m 18 h = 0 → 0 ≤ m 17 h → m 17 h ≤ 5 → K (m 5 (6 * m 17 h + p)) m) : wp_X5_roadFor S m 16 4 h p K := by
  have hb : isSt 16 := by decide
  refine u_X5_roadFor ?_
  refine ⟨hS.k16, ?_⟩
  refine zt_atPlace hS hm hb i0 i1 (fun c3 => g_ifF (by decide) ?_) (fun c3 => g_ifT rfl (g_C (h0 c3)))
  refine g_getr 2 17 rfl hS.k16 hm.f_16_2 (by decide) ?_
  refine g_ldu hS.k17 hS.l17 (by omega) (by omega) (fun v ev => ?_)
  have q17 : 0 ≤ m 17 h ∧ m 17 h ≤ 5 := hm.aB_5_1 hb (i := h) (by omega) (by omega)
  refine ⟨hS.k4, ?_⟩
  refine u_X8_roadHours ?_
  refine g_getr 8 5 rfl hS.k4 hm.f_4_8 (by decide) ?_
  refine u_X8_pair ?_
  refine g_C ?_
  refine g_M (by omega) (by omega) ?_
  refine g_A (by omega) (by omega) ?_
  refine g_ldu hS.k5 hS.l5 (by omega) (by omega) (fun v2 ev2 => ?_)
  rw [ev2, show v * 6 + p = 6 * m 17 h + p by omega]
  exact hk c3 q17.1 q17.2
abbrev cGo (m : Mm) (h p : Int) : Prop := (0 ≤ h ∧ h < m 4 4) ∧ (0 ≤ p ∧ p < m 4 0) ∧ m 18 h = 0 ∧ ¬ m 5 (6 * m 17 h + p) = 0
theorem zs_go11 {X : Mm} {S : Sh} {m0 : Mm} {K : Int → Mm → Prop} {h p : Int} (hS : Shp S) (hm : Inv X S m0) (h0 : ¬ cGo m0 h p → K (-1) m0) (hk : ∀ (i : Int) (M1 M2 : Mm), cGo m0 h p → KP m0 M1 i → Inv X S M2 → (∀ c q : Int, ¬ (q = h ∧ (c = 17 ∨ c = 18)) → M2 c q = M1 c q) → M2 17 h = p → M2 18 h = m0 5 (6 * m0 17 h + p) → K (m0 5 (6 * m0 17 h + p)) M2) : wp_X11_go S m0 0 h p K := by
  have b4 := hm.f_4_4
  have b0 := hm.f_4_0
  have hb : isSt 16 := by decide
  refine u_X11_go ?_
  refine ⟨hS.k0, ?_⟩
  refine zs_isHand11 hS hm (fun c1 => g_ifF (by decide) ?_) (fun c1 => g_ifT rfl (g_C (h0 (fun z => c1 z.1))))
  refine ⟨hS.k0, ?_⟩
  refine zs_isPlace11 hS hm (fun c2 => g_ifT (by decide) ?_) (fun c2 => g_ifF (by decide) (g_C (h0 (fun z => c2 z.2.1))))
  refine g_getr 1 3 rfl hS.k0 hm.f_0_1 (by decide) ?_
  refine g_getr 1 16 rfl hS.k3 hm.f_3_1 (by decide) ?_
  refine g_getr 1 3 rfl hS.k0 hm.f_0_1 (by decide) ?_
  refine g_getr 0 4 rfl hS.k3 hm.f_3_0 (by decide) ?_
  refine ⟨hS.k16, ?_⟩
  refine zs_roadFor hS hm (by omega) (by omega) (by omega) (by omega) (fun c3 => g_ifF (by decide) (g_C (h0 (fun z => c3 z.2.2.1)))) (fun c3 q0 q1 => ?_)
  refine g_if (fun c4 => ?_) (fun c4 => g_C (h0 (fun z => c4 z.2.2.2)))
  have br : 0 ≤ m0 5 (6 * m0 17 h + p) ∧ m0 5 (6 * m0 17 h + p) ≤ 5 := hm.a_5 (i := 6 * m0 17 h + p) (by omega) (by omega)
  refine ⟨hS.k0, ?_⟩
  refine zk_keepPast hS hm (fun i m1 hm1 kp => ?_)
  refine g_getr 1 3 rfl hS.k0 hm1.f_0_1 (by decide) ?_
  refine g_getr 1 16 rfl hS.k3 hm1.f_3_1 (by decide) ?_
  refine ⟨hS.k16, ?_⟩
  refine u_X5_setOut ?_
  refine g_getr 2 17 rfl hS.k16 hm1.f_16_2 (by decide) ?_
  refine g_st hS.k17 hS.l17 (by omega) (by omega) (hm1.waB_5_1 hb c1.1 (by omega) (by omega) (by omega)) (fun m2 e2 hm2 => ?_)
  have f2 : ∀ c q : Int, ¬ (c = 17 ∧ q = h) → m2 c q = m1 c q := fun c q z => (congrFun (congrFun e2 _) _).trans (up_ne z)
  have y2 : m2 17 h = p := (congrFun (congrFun e2 _) _).trans (up_at _ _ _ _)
  refine g_getr 3 18 rfl hS.k16 hm2.f_16_3 (by decide) ?_
  refine g_st hS.k18 hS.l18 (by omega) (by omega) (hm2.waB_5_2 hb c1.1 (by omega) (by omega) (by omega)) (fun m3 e3 hm3 => ?_)
  have f3 : ∀ c q : Int, ¬ (c = 18 ∧ q = h) → m3 c q = m2 c q := fun c q z => (congrFun (congrFun e3 _) _).trans (up_ne z)
  have y3 : m3 18 h = m0 5 (6 * m0 17 h + p) := (congrFun (congrFun e3 _) _).trans (up_at _ _ _ _)
  exact hk i m1 m3 ⟨c1, c2, c3, c4⟩ kp hm3 (fun c q z => by rw [f3 c q (by omega), f2 c q (by omega)]) (by rw [f3 17 h (by omega), y2]) y3
/-- the ROADS of a row, as a table -/
def RO (D f : Int → Int) : Prop := ∀ a c : Int, 0 ≤ a → a ≤ 5 → 0 ≤ c → c ≤ 5 → (f (6 * a + c) = 0 ∧ ¬ Rt D a c) ∨ (1 ≤ f (6 * a + c) ∧ Rt D a c ∧ ∀ k : Int, 0 ≤ k → k < D 3 → rMt D a c k → D (57 + 3 * k + 2) = f (6 * a + c))
theorem zs_roadR {X : Mm} {S : Sh} {m : Mm} {K : Int → Mm → Prop} {f : Int → Int} {a b : Int} (hS : Shp S) (hm : Inv X S m) (r : RO (m 346) f) (a0 : 0 ≤ a) (a1 : a ≤ 5) (b0 : 0 ≤ b) (b1 : b ≤ 5) (hk : 0 ≤ f (6 * a + b) → K (f (6 * a + b)) m) : wp_X12_roadOf S m 336 a b K := by
  rcases r a b a0 a1 b0 b1 with ⟨e, n⟩ | ⟨e, n, q⟩
  · rw [e] at hk
    refine zs_roadOf hS hm (fun _ => hk (by omega)) (fun k k0 k1 z => absurd ⟨k, k0, k1, z⟩ n)
  · refine zs_roadOf hS hm (fun z => absurd n z) (fun k k0 k1 z => ?_)
    rw [q k k0 k1 z]
    exact hk (by omega)
abbrev rGo (m : Mm) (f : Int → Int) (h p : Int) : Prop := (0 ≤ h ∧ h < m 346 4) ∧ (0 ≤ p ∧ p < m 346 0) ∧ m 346 (10 + 5 * h + 1) = 0 ∧ 0 < f (6 * m 346 (10 + 5 * h + 0) + p)
theorem zs_canGo {X : Mm} {S : Sh} {m : Mm} {K : Int → Mm → Prop} {f : Int → Int} {h p : Int} (hS : Shp S) (hm : Inv X S m) (r : RO (m 346) f) (i0 : 0 ≤ h) (i1 : h ≤ 4) (p0 : 0 ≤ p) (p1 : p ≤ 5) (h1 : (m 346 (10 + 5 * h + 1) = 0 ∧ 0 < f (6 * m 346 (10 + 5 * h + 0) + p)) → K 1 m) (h0 : ¬ (m 346 (10 + 5 * h + 1) = 0 ∧ 0 < f (6 * m 346 (10 + 5 * h + 0) + p)) → K 0 m) : wp_X12_canGo S m 336 h p K := by
  refine u_X12_canGo ?_
  refine ⟨hS.k336, ?_⟩
  refine zt_atR hS hm i0 i1 (fun c3 => g_ifF (by decide) ?_) (fun c3 => g_ifT rfl (g_C ⟨by decide, h0 (fun z => c3 z.1)⟩))
  refine g_C ?_
  refine ⟨hS.k336, ?_⟩
  refine zt_handOf hS hm i0 i1 (by omega) (by omega) ?_
  have q0 : 0 ≤ m 346 (10 + 5 * h + 0) ∧ m 346 (10 + 5 * h + 0) ≤ 5 := fam_346_10_5_0_4 hm (a := h) (by omega) (by omega) (by omega)
  refine ⟨hS.k336, ?_⟩
  refine zs_roadR hS hm r q0.1 q0.2 p0 p1 (fun _ => ?_)
  exact g_if (fun w => g_C ⟨by decide, h0 (fun z => by omega)⟩) (fun w => g_C ⟨by decide, h1 ⟨c3, by omega⟩⟩)
theorem zs_goes {X : Mm} {S : Sh} {m : Mm} {K : Mm → Prop} {f : Int → Int} {h p : Int} (hS : Shp S) (hm : Inv X S m) (r : RO (m 346) f) (fb : ∀ i : Int, 0 ≤ i → i < 36 → 0 ≤ f i ∧ f i ≤ 5) (i0 : 0 ≤ h) (i1 : h ≤ 4) (p0 : 0 ≤ p) (p1 : p ≤ 5) (pp : p < X 346 0) (hk : ∀ M2 : Mm, Inv X S M2 → (∀ c q : Int, ¬ (c = 346 ∧ (q = 10 + 5 * h + 1 ∨ q = 10 + 5 * h)) → M2 c q = m c q) → M2 346 (10 + 5 * h + 1) = f (6 * m 346 (10 + 5 * h + 0) + p) → M2 346 (10 + 5 * h) = p → K M2) : wp_X12_goes S m 336 h p K := by
  refine u_X12_goes ?_
  refine g_getr 20 346 rfl hS.k336 hm.f_336_20 (by decide) ?_
  refine g_C ?_
  refine g_C ?_
  refine g_M (by omega) (by omega) ?_
  refine g_A (by omega) (by omega) ?_
  refine g_C ?_
  refine g_A (by omega) (by omega) ?_
  refine g_C ?_
  refine ⟨hS.k336, ?_⟩
  refine zt_handOf hS hm i0 i1 (by omega) (by omega) ?_
  have q0 : 0 ≤ m 346 (10 + 5 * h + 0) ∧ m 346 (10 + 5 * h + 0) ≤ 5 := fam_346_10_5_0_4 hm (a := h) (by omega) (by omega) (by omega)
  refine ⟨hS.k336, ?_⟩
  refine zs_roadR hS hm r q0.1 q0.2 p0 p1 (fun _ => ?_)
  have bb := fb (6 * m 346 (10 + 5 * h + 0) + p) (by omega) (by omega)
  refine g_st hS.k346 hS.l346 (by omega) (by omega) (wfm_346_11_5_0_4 hm (a := h) (by omega) (by omega) (by omega) (by omega) (by omega)) (fun m2 e2 hm2 => ?_)
  have f2 : ∀ c q : Int, ¬ (c = 346 ∧ q = 10 + 5 * h + 1) → m2 c q = m c q := fun c q z => (congrFun (congrFun e2 _) _).trans (up_ne z)
  have y2 : m2 346 (10 + 5 * h + 1) = f (6 * m 346 (10 + 5 * h + 0) + p) := (congrFun (congrFun e2 _) _).trans (up_at _ _ _ _)
  refine g_getr 20 346 rfl hS.k336 hm2.f_336_20 (by decide) ?_
  refine g_C ?_
  refine g_C ?_
  refine g_M (by omega) (by omega) ?_
  refine g_A (by omega) (by omega) ?_
  refine g_st hS.k346 hS.l346 (by omega) (by omega) (wfm_346_10_5_0_4 hm2 (a := h) (by omega) (by omega) (by omega) (by omega) (by omega) pp) (fun m3 e3 hm3 => ?_)
  have f3 : ∀ c q : Int, ¬ (c = 346 ∧ q = 10 + 5 * h) → m3 c q = m2 c q := fun c q z => (congrFun (congrFun e3 _) _).trans (up_ne z)
  have y3 : m3 346 (10 + 5 * h) = p := (congrFun (congrFun e3 _) _).trans (up_at _ _ _ _)
  exact hk m3 hm3 (fun c q z => by rw [f3 c q (by omega), f2 c q (by omega)]) (by rw [f3 346 _ (by omega), y2]) y3
theorem RO.same {D D' f : Int → Int} (h : RO D f) (b3 : D 3 ≤ 8) (G : ∀ p : Int, (p = 3 ∨ (57 ≤ p ∧ p < 81)) → D' p = D p) : RO D' f := by
  have g3 := G 3 (by omega)
  have A : ∀ a c k : Int, 0 ≤ k → k < D 3 → (rMt D' a c k ↔ rMt D a c k) := fun a c k k0 k1 => by
    unfold rMt
    rw [G (57 + 3 * k) (by omega), G (57 + 3 * k + 1) (by omega)]
  have B : ∀ a c : Int, Rt D' a c ↔ Rt D a c := fun a c => by
    constructor
    · rintro ⟨k, k0, k1, k2⟩
      rw [g3] at k1
      exact ⟨k, k0, k1, (A a c k k0 k1).1 k2⟩
    · rintro ⟨k, k0, k1, k2⟩
      exact ⟨k, k0, by rw [g3]; exact k1, (A a c k k0 k1).2 k2⟩
  intro a c a0 a1 c0 c1
  rcases h a c a0 a1 c0 c1 with ⟨e, n⟩ | ⟨e, n, q⟩
  · exact Or.inl ⟨e, fun z => n ((B a c).1 z)⟩
  · refine Or.inr ⟨e, (B a c).2 n, fun k k0 k1 z => ?_⟩
    rw [g3] at k1
    rw [G (57 + 3 * k + 2) (by omega)]
    exact q k k0 k1 ((A a c k k0 k1).1 z)
theorem zs_go12 {X : Mm} {S : Sh} {m0 : Mm} {K : Int → Mm → Prop} {f : Int → Int} {h p : Int} (hS : Shp S) (hm : Inv X S m0) (r : RO (m0 346) f) (fb : ∀ i : Int, 0 ≤ i → i < 36 → 0 ≤ f i ∧ f i ≤ 5) (h0 : ¬ rGo m0 f h p → K (-1) m0) (hk : ∀ (u s : Int) (M1 M2 : Mm), rGo m0 f h p → KA m0 M1 u s → Inv X S M2 → (∀ c q : Int, ¬ (c = 346 ∧ (q = 10 + 5 * h + 1 ∨ q = 10 + 5 * h)) → M2 c q = M1 c q) → M2 346 (10 + 5 * h + 1) = f (6 * m0 346 (10 + 5 * h + 0) + p) → M2 346 (10 + 5 * h) = p → K (f (6 * m0 346 (10 + 5 * h + 0) + p)) M2) : wp_X12_go S m0 336 h p K := by
  have b4 := hm.f_346_4
  have b0 := hm.f_346_0
  have b3 := hm.f_346_3
  have x0 : m0 346 0 = X 346 0 := hm.g (by decide)
  refine u_X12_go ?_
  refine ⟨hS.k336, ?_⟩
  refine zs_isHand12 hS hm (fun c1 => g_ifF (by decide) ?_) (fun c1 => g_ifT rfl (g_C (h0 (fun z => c1 z.1))))
  refine ⟨hS.k336, ?_⟩
  refine zs_isPlace12 hS hm (fun c2 => g_ifF (by decide) ?_) (fun c2 => g_ifT rfl (g_C (h0 (fun z => c2 z.2.1))))
  refine ⟨hS.k336, ?_⟩
  refine zs_canGo hS hm r (by omega) (by omega) (by omega) (by omega) (fun c3 => g_ifT (by decide) ?_) (fun c3 => g_ifF (by decide) (g_C (h0 (fun z => c3 z.2.2))))
  refine ⟨hS.k336, ?_⟩
  refine zk_keepsAct hS hm (fun u s m1 hm1 ka => ?_)
  have r1 : RO (m1 346) f := r.same b3.2 (fun q _ => ka.f (by omega) (by omega))
  refine ⟨hS.k336, ?_⟩
  refine zs_goes hS hm1 r1 fb (by omega) (by omega) (by omega) (by omega) (by omega) (fun m2 hm2 f2 y1 y0 => ?_)
  rw [ka.f (by omega) (by omega)] at y1
  refine g_C ?_
  refine ⟨hS.k336, ?_⟩
  refine zt_handOf hS hm2 (by omega) (by omega) (by omega) (by omega) ?_
  rw [y1]
  exact hk u s m1 m2 ⟨c1, c2, c3⟩ ka hm2 f2 y1 y0
/-- the first JUG that meets a WANT -/
abbrev cSu (m : Mm) (w j : Int) : Prop := m 20 j = m 12 w ∧ m 13 w ≤ m 22 j ∧ m 22 j ≤ m 14 w
theorem zs_jugFor {X : Mm} {S : Sh} {m : Mm} {K : Int → Mm → Prop} {w : Int} (hS : Shp S) (hm : Inv X S m) (w0 : 0 ≤ w) (w1 : w ≤ 5) (h0 : (m 23 w = -1 → ∀ j : Int, 0 ≤ j → j < m 4 5 → ¬ cSu m w j) → K (-1) m) (hk : ∀ j : Int, m 23 w = -1 → 0 ≤ j → j < m 4 5 → cSu m w j → (∀ l : Int, 0 ≤ l → l < j → ¬ cSu m w l) → K j m) : wp_X11_jugFor S m 0 w K := by
  have b5 := hm.f_4_5
  refine u_X11_jugFor ?_
  refine g_getr 1 3 rfl hS.k0 hm.f_0_1 (by decide) ?_
  refine g_getr 1 16 rfl hS.k3 hm.f_3_1 (by decide) ?_
  refine g_getr 8 23 rfl hS.k16 hm.f_16_8 (by decide) ?_
  refine g_ldu hS.k23 hS.l23 (by omega) (by omega) (fun v ev => ?_)
  refine g_C ?_
  refine g_if (fun c => ?_) (fun c => g_C (h0 (fun z => absurd (ev.trans z) c)))
  refine g_C ?_
  have L : ∀ (n : Nat) (i : Int), 0 ≤ i → i ≤ m 4 5 → (∀ l : Int, 0 ≤ l → l < i → ¬ cSu m w l) → 5 - i ≤ (n : Int) → wp_X11_jugFor_20 S K n 0 w i m := by
    intro n
    induction n with
    | zero => intro i i0 i1 _ hn; exfalso; omega
    | succ n ih =>
      intro i i0 i1 hi hn
      refine u_X11_jugFor_20 ?_
      refine g_getr 1 3 rfl hS.k0 hm.f_0_1 (by decide) ?_
      refine g_getr 0 4 rfl hS.k3 hm.f_3_0 (by decide) ?_
      refine g_getu 5 rfl hS.k4 (fun v2 ev2 => ?_)
      refine g_if (fun c2 => g_C (h0 (fun _ l l0 l1 => hi l l0 (by omega)))) (fun c2 => ?_)
      have next : ¬ cSu m w i → wp_X11_jugFor_99 S (fun a0 a1 a2 M => wp_X11_jugFor_20 S K n a0 a1 a2 M) K 0 w i m := by
        intro q
        refine u_X11_jugFor_99 ?_
        refine g_A (by omega) (by omega) ?_
        refine ih (i + 1) (by omega) (by omega) (fun l l0 l1 => ?_) (by omega)
        by_cases e : l = i
        · rw [e]; exact q
        · exact hi l l0 (by omega)
      refine g_getr 1 3 rfl hS.k0 hm.f_0_1 (by decide) ?_
      refine g_getr 1 16 rfl hS.k3 hm.f_3_1 (by decide) ?_
      refine g_getr 5 20 rfl hS.k16 hm.f_16_5 (by decide) ?_
      refine g_ldu hS.k20 hS.l20 (by omega) (by omega) (fun v3 ev3 => ?_)
      refine g_getr 1 3 rfl hS.k0 hm.f_0_1 (by decide) ?_
      refine g_getr 0 4 rfl hS.k3 hm.f_3_0 (by decide) ?_
      refine g_getr 15 12 rfl hS.k4 hm.f_4_15 (by decide) ?_
      refine g_ldu hS.k12 hS.l12 (by omega) (by omega) (fun v4 ev4 => ?_)
      refine g_if (fun c3 => g_C ?_) (fun c3 => g_C ?_)
      · refine u_X11_jugFor_66 ?_
        exact g_ifT rfl (next (fun z => c3 (by rw [ev3, ev4]; exact z.1)))
      · refine u_X11_jugFor_66 ?_
        refine g_ifF (by decide) ?_
        refine g_getr 1 3 rfl hS.k0 hm.f_0_1 (by decide) ?_
        refine g_getr 0 4 rfl hS.k3 hm.f_3_0 (by decide) ?_
        refine g_getr 1 3 rfl hS.k0 hm.f_0_1 (by decide) ?_
        refine g_getr 1 16 rfl hS.k3 hm.f_3_1 (by decide) ?_
        refine g_getr 7 22 rfl hS.k16 hm.f_16_7 (by decide) ?_
        refine g_ldu hS.k22 hS.l22 (by omega) (by omega) (fun v5 ev5 => ?_)
        refine ⟨hS.k4, ?_⟩
        refine u_X8_suits ?_
        refine g_getr 16 13 rfl hS.k4 hm.f_4_16 (by decide) ?_
        refine g_ldu hS.k13 hS.l13 (by omega) (by omega) (fun v6 ev6 => ?_)
        refine g_if (fun c4 => g_C ⟨by decide, g_ifT rfl (next (fun z => by have := z.2.1; omega))⟩) (fun c4 => ?_)
        refine g_getr 17 14 rfl hS.k4 hm.f_4_17 (by decide) ?_
        refine g_ldu hS.k14 hS.l14 (by omega) (by omega) (fun v7 ev7 => ?_)
        refine g_if (fun c5 => g_C ⟨by decide, g_ifT rfl (next (fun z => by have := z.2.2; omega))⟩) (fun c5 => ?_)
        exact g_C ⟨by decide, g_ifF (by decide) (hk i (ev.symm.trans c) i0 (by omega) ⟨by omega, by omega, by omega⟩ hi)⟩
  exact ⟨5, L 5 0 (by omega) (by omega) (fun l l0 l1 => absurd l1 (by omega)) (by omega)⟩
abbrev rSu (m : Mm) (w j : Int) : Prop := StR m j ∧ m 346 (35 + 4 * j + 0) = m 346 (93 + 4 * w + 0) ∧ m 346 (93 + 4 * w + 1) ≤ m 346 (35 + 4 * j + 2) ∧ m 346 (35 + 4 * j + 2) ≤ m 346 (93 + 4 * w + 2)
theorem zs_firstFor {X : Mm} {S : Sh} {m : Mm} {K : Int → Mm → Prop} {w : Int} (hS : Shp S) (hm : Inv X S m) (w0 : 0 ≤ w) (w1 : w ≤ 5) (h0 : (m 346 (51 + w) < 0 → ∀ j : Int, 0 ≤ j → j < m 346 5 → ¬ rSu m w j) → K (-1) m) (hk : ∀ j : Int, m 346 (51 + w) < 0 → 0 ≤ j → j < m 346 5 → rSu m w j → (∀ l : Int, 0 ≤ l → l < j → ¬ rSu m w l) → K j m) : wp_X12_firstFor S m 336 w K := by
  have b5 := hm.f_346_5
  refine u_X12_firstFor ?_
  refine g_getr 20 346 rfl hS.k336 hm.f_336_20 (by decide) ?_
  refine g_C ?_
  refine g_A (by omega) (by omega) ?_
  refine g_ldu hS.k346 hS.l346 (by omega) (by omega) (fun v ev => ?_)
  refine g_if (fun c => ?_) (fun c => g_C (h0 (fun z => absurd z (by omega))))
  refine g_C ?_
  have L : ∀ (n : Nat) (i : Int), 0 ≤ i → i ≤ m 346 5 → (∀ l : Int, 0 ≤ l → l < i → ¬ rSu m w l) → 5 - i ≤ (n : Int) → wp_X12_firstFor_16 S K n 336 w i m := by
    intro n
    induction n with
    | zero => intro i i0 i1 _ hn; exfalso; omega
    | succ n ih =>
      intro i i0 i1 hi hn
      refine u_X12_firstFor_16 ?_
      refine g_getr 20 346 rfl hS.k336 hm.f_336_20 (by decide) ?_
      refine g_C ?_
      refine g_ldu hS.k346 hS.l346 (by omega) (by omega) (fun v2 ev2 => ?_)
      refine g_if (fun c2 => g_C (h0 (fun _ l l0 l1 => hi l l0 (by omega)))) (fun c2 => ?_)
      have next : ¬ rSu m w i → wp_X12_firstFor_78 S (fun a0 a1 a2 M => wp_X12_firstFor_16 S K n a0 a1 a2 M) K 336 w i m := by
        intro q
        refine u_X12_firstFor_78 ?_
        refine g_A (by omega) (by omega) ?_
        refine ih (i + 1) (by omega) (by omega) (fun l l0 l1 => ?_) (by omega)
        by_cases e : l = i
        · rw [e]; exact q
        · exact hi l l0 (by omega)
      refine ⟨hS.k336, ?_⟩
      refine zt_stands hS hm i0 (by omega) (fun c3 => g_ifF (by decide) ?_) (fun c3 => g_ifT rfl (next (fun z => c3 z.1)))
      refine g_C ?_
      refine ⟨hS.k336, ?_⟩
      refine zt_jugOf hS hm i0 (by omega) (by omega) (by omega) ?_
      refine g_C ?_
      refine ⟨hS.k336, ?_⟩
      refine zt_wantOf hS hm w0 w1 (by omega) (by omega) ?_
      refine g_if (fun c4 => next (fun z => c4 z.2.1)) (fun c4 => ?_)
      refine g_C ?_
      refine ⟨hS.k336, ?_⟩
      refine zt_jugOf hS hm i0 (by omega) (by omega) (by omega) ?_
      refine g_C ?_
      refine g_C ?_
      refine ⟨hS.k336, ?_⟩
      refine zt_wantOf hS hm w0 w1 (by omega) (by omega) ?_
      refine g_C ?_
      refine g_C ?_
      refine ⟨hS.k336, ?_⟩
      refine zt_wantOf hS hm w0 w1 (by omega) (by omega) ?_
      refine g_C ?_
      refine z_in (fun a b => ?_) (fun c5 => g_ifT rfl (next (fun z => c5 ⟨z.2.2.1, z.2.2.2⟩)))
      refine g_ifF (by decide) (hk i (by omega) i0 (by omega) ⟨c3, by omega, a, b⟩ hi)
  exact ⟨5, L 5 0 (by omega) (by omega) (fun l l0 l1 => absurd l1 (by omega)) (by omega)⟩
end
section
/-! meet of both sides, to the letter -/
theorem g_Ax {a b : Int} {K : Int → Prop} (h : ∀ v : Int, v = w32 (a + b) → -2147483648 ≤ v → v ≤ 2147483647 → K v) : wA a b K := h _ rfl (w32_r _).1 (w32_r _).2
abbrev cMe (m : Mm) (w j : Int) : Prop := (0 ≤ w ∧ w < m 4 7) ∧ m 23 w = -1 ∧ (0 ≤ j ∧ j < m 4 5) ∧ cSu m w j ∧ ∀ l : Int, 0 ≤ l → l < j → ¬ cSu m w l
theorem zs_meet11 {X : Mm} {S : Sh} {m0 : Mm} {K : Int → Mm → Prop} {w : Int} (hS : Shp S) (hm : Inv X S m0) (h0 : (0 ≤ w ∧ w < m0 4 7 → m0 23 w = -1 → ∀ j : Int, 0 ≤ j → j < m0 4 5 → ¬ cSu m0 w j) → K (-1) m0) (hk : ∀ (j i : Int) (M1 M2 : Mm), cMe m0 w j → KP m0 M1 i → Inv X S M2 → (∀ c p : Int, ¬ (c = 23 ∧ p = w) → ¬ (c = 16 ∧ p = 1) → ¬ (c = 20 ∧ p = j) → M2 c p = M1 c p) → M2 23 w = m0 16 0 → M2 16 1 = w32 (m0 16 1 + m0 15 w) → M2 20 j = -1 → K j M2) : wp_X11_meet S m0 0 w K := by
  have b7 := hm.f_4_7
  have b5 := hm.f_4_5
  have hb : isSt 16 := by decide
  refine u_X11_meet ?_
  refine ⟨hS.k0, ?_⟩
  refine zs_isWant11 hS hm (fun c1 => g_ifF (by decide) ?_) (fun c1 => g_ifT rfl (g_C ?_))
  rotate_left
  · refine u_X11_meet_17 ?_
    refine g_C ?_
    exact g_ifF (fun z => z rfl) (g_C (h0 (fun z => absurd z c1)))
  refine ⟨hS.k0, ?_⟩
  refine zs_jugFor hS hm c1.1 (by omega) (fun q => ?_) (fun j e23 j0 j1 su fi => ?_)
  · refine u_X11_meet_17 ?_
    refine g_C ?_
    exact g_ifF (fun z => z rfl) (g_C (h0 (fun _ => q)))
  refine u_X11_meet_17 ?_
  refine g_C ?_
  refine g_ifT (by first | decide | omega) ?_
  refine ⟨hS.k0, ?_⟩
  refine zk_keepPast hS hm (fun i m1 hm1 kp => ?_)
  refine g_getr 1 3 rfl hS.k0 hm1.f_0_1 (by decide) ?_
  refine g_getr 1 16 rfl hS.k3 hm1.f_3_1 (by decide) ?_
  refine g_getr 8 23 rfl hS.k16 hm1.f_16_8 (by decide) ?_
  refine g_getr 1 3 rfl hS.k0 hm1.f_0_1 (by decide) ?_
  refine g_getr 1 16 rfl hS.k3 hm1.f_3_1 (by decide) ?_
  refine g_getu 0 rfl hS.k16 (fun v ev => ?_)
  have bh := hm1.f_16_0
  refine g_st hS.k23 hS.l23 (by omega) (by omega) (hm1.waB_5_7 hb c1.1 (by omega) (by omega) (by omega)) (fun m2 e2 hm2 => ?_)
  have f2 : ∀ c p : Int, ¬ (c = 23 ∧ p = w) → m2 c p = m1 c p := fun c p q => (congrFun (congrFun e2 _) _).trans (up_ne q)
  have y2 : m2 23 w = v := (congrFun (congrFun e2 _) _).trans (up_at _ _ _ _)
  refine g_getr 1 3 rfl hS.k0 hm2.f_0_1 (by decide) ?_
  refine g_getr 1 16 rfl hS.k3 hm2.f_3_1 (by decide) ?_
  refine g_getu 1 rfl hS.k16 (fun v2 ev2 => ?_)
  refine g_getr 1 3 rfl hS.k0 hm2.f_0_1 (by decide) ?_
  refine g_getr 0 4 rfl hS.k3 hm2.f_3_0 (by decide) ?_
  refine g_getr 18 15 rfl hS.k4 hm2.f_4_18 (by decide) ?_
  refine g_ldu hS.k15 hS.l15 (by omega) (by omega) (fun v3 ev3 => ?_)
  refine g_Ax (fun v4 ev4 bv4 cv4 => ?_)
  refine g_put 1 rfl hS.k16 (hm2.w_16_1 bv4 cv4) (fun m3 e3 hm3 => ?_)
  have f3 : ∀ c p : Int, ¬ (c = 16 ∧ p = 1) → m3 c p = m2 c p := fun c p q => (congrFun (congrFun e3 _) _).trans (up_ne q)
  have y3 : m3 16 1 = v4 := (congrFun (congrFun e3 _) _).trans (up_at _ _ _ _)
  refine g_getr 1 3 rfl hS.k0 hm3.f_0_1 (by decide) ?_
  refine g_getr 1 16 rfl hS.k3 hm3.f_3_1 (by decide) ?_
  refine g_getr 5 20 rfl hS.k16 hm3.f_16_5 (by decide) ?_
  refine g_C ?_
  refine g_st hS.k20 hS.l20 (by omega) (by omega) (hm3.waB_5_4 hb j0 (by omega) (by omega) (by omega)) (fun m4 e4 hm4 => ?_)
  have f4 : ∀ c p : Int, ¬ (c = 20 ∧ p = j) → m4 c p = m3 c p := fun c p q => (congrFun (congrFun e4 _) _).trans (up_ne q)
  have y4 : m4 20 j = -1 := (congrFun (congrFun e4 _) _).trans (up_at _ _ _ _)
  refine hk j i m1 m4 ⟨c1, e23, ⟨j0, j1⟩, su, fi⟩ kp hm4 (fun c p q1 q2 q3 => by rw [f4 c p q3, f3 c p q2, f2 c p q1]) ?_ ?_ y4
  · rw [f4 23 w (by first | decide | exact fun z => absurd z.1 (by decide) | exact ⟨fun z => absurd z.1 (by decide), fun z => absurd z.1 (by decide)⟩ | omega), f3 23 w (by first | decide | exact fun z => absurd z.1 (by decide) | exact ⟨fun z => absurd z.1 (by decide), fun z => absurd z.1 (by decide)⟩ | omega), y2, ev, kp.f (by omega) (by omega)]
  · rw [f4 16 1 (by first | decide | exact fun z => absurd z.1 (by decide) | exact ⟨fun z => absurd z.1 (by decide), fun z => absurd z.1 (by decide)⟩ | omega), y3, ev4, ev2, ev3, f2 16 1 (by first | decide | exact fun z => absurd z.1 (by decide) | exact ⟨fun z => absurd z.1 (by decide), fun z => absurd z.1 (by decide)⟩ | omega), f2 15 w (by first | decide | exact fun z => absurd z.1 (by decide) | exact ⟨fun z => absurd z.1 (by decide), fun z => absurd z.1 (by decide)⟩ | omega), kp.f (by omega) (by omega), kp.f (by omega) (by omega)]
abbrev rMe (m : Mm) (w j : Int) : Prop := (0 ≤ w ∧ w < m 346 6) ∧ m 346 (51 + w) < 0 ∧ (0 ≤ j ∧ j < m 346 5) ∧ rSu m w j ∧ ∀ l : Int, 0 ≤ l → l < j → ¬ rSu m w l
theorem zs_meet12 {X : Mm} {S : Sh} {m0 : Mm} {K : Int → Mm → Prop} {w : Int} (hS : Shp S) (hm : Inv X S m0) (h0 : (0 ≤ w ∧ w < m0 346 6 → m0 346 (51 + w) < 0 → ∀ j : Int, 0 ≤ j → j < m0 346 5 → ¬ rSu m0 w j) → K (-1) m0) (hk : ∀ (j u s : Int) (M1 M2 : Mm), rMe m0 w j → KA m0 M1 u s → Inv X S M2 → (∀ c p : Int, ¬ (c = 346 ∧ (p = 35 + 4 * j + 3 ∨ p = 51 + w ∨ p = 8)) → M2 c p = M1 c p) → M2 346 (35 + 4 * j + 3) = 1 → M2 346 (51 + w) = m0 346 7 → M2 346 8 = w32 (m0 346 8 + m0 346 (93 + 4 * w + 3)) → K j M2) : wp_X12_meet S m0 336 w K := by
  have b6 := hm.f_346_6
  have b5 := hm.f_346_5
  refine u_X12_meet ?_
  refine ⟨hS.k336, ?_⟩
  refine zs_isWant12 hS hm (fun c1 => g_ifT (by decide) ?_) (fun c1 => g_ifF (by decide) (g_C (h0 (fun z => absurd z c1))))
  refine ⟨hS.k336, ?_⟩
  refine zs_firstFor hS hm c1.1 (by omega) (fun q => g_ifF (by decide) (g_C (h0 (fun _ => q)))) (fun j e51 j0 j1 su fi => ?_)
  refine g_ifT j0 ?_
  refine ⟨hS.k336, ?_⟩
  refine zk_keepsAct hS hm (fun u s m1 hm1 ka => ?_)
  refine g_getr 20 346 rfl hS.k336 hm1.f_336_20 (by decide) ?_
  refine g_C ?_
  refine g_C ?_
  refine g_M (by omega) (by omega) ?_
  refine g_A (by omega) (by omega) ?_
  refine g_C ?_
  refine g_A (by omega) (by omega) ?_
  refine g_C ?_
  refine g_st hS.k346 hS.l346 (by omega) (by omega) (wfm_346_38_4_0_3 hm1 (a := j) (by omega) (by omega) (by omega) (by omega) (by omega)) (fun m2 e2 hm2 => ?_)
  have f2 : ∀ c p : Int, ¬ (c = 346 ∧ p = 35 + 4 * j + 3) → m2 c p = m1 c p := fun c p q => (congrFun (congrFun e2 _) _).trans (up_ne q)
  have y2 : m2 346 (35 + 4 * j + 3) = 1 := (congrFun (congrFun e2 _) _).trans (up_at _ _ _ _)
  refine g_getr 20 346 rfl hS.k336 hm2.f_336_20 (by decide) ?_
  refine g_C ?_
  refine g_A (by omega) (by omega) ?_
  refine g_getr 20 346 rfl hS.k336 hm2.f_336_20 (by decide) ?_
  refine g_C ?_
  refine g_ld (-2147483648) (2147483647) hS.k346 hS.l346 (by omega) (by omega) (hm2.f_346_7) (fun v ev bv cv => ?_)
  refine g_st hS.k346 hS.l346 (by omega) (by omega) (wfm_346_51_1_0_5 hm2 (a := w) (by omega) (by omega) (by omega) bv cv) (fun m3 e3 hm3 => ?_)
  have f3 : ∀ c p : Int, ¬ (c = 346 ∧ p = 51 + w) → m3 c p = m2 c p := fun c p q => (congrFun (congrFun e3 _) _).trans (up_ne q)
  have y3 : m3 346 (51 + w) = v := (congrFun (congrFun e3 _) _).trans (up_at _ _ _ _)
  refine g_getr 20 346 rfl hS.k336 hm3.f_336_20 (by decide) ?_
  refine g_C ?_
  refine g_ldu hS.k346 hS.l346 (by omega) (by omega) (fun v2 ev2 => ?_)
  refine g_C ?_
  refine ⟨hS.k336, ?_⟩
  refine zt_wantOf hS hm3 c1.1 (by omega) (by omega) (by omega) ?_
  refine g_Ax (fun v4 ev4 bv4 cv4 => ?_)
  refine g_st hS.k346 hS.l346 (by omega) (by omega) (hm3.w_346_8 bv4 cv4) (fun m4 e4 hm4 => ?_)
  have f4 : ∀ c p : Int, ¬ (c = 346 ∧ p = 8) → m4 c p = m3 c p := fun c p q => (congrFun (congrFun e4 _) _).trans (up_ne q)
  have y4 : m4 346 8 = v4 := (congrFun (congrFun e4 _) _).trans (up_at _ _ _ _)
  refine hk j u s m1 m4 ⟨c1, e51, ⟨j0, j1⟩, su, fi⟩ ka hm4 (fun c p q => by rw [f4 c p (by first | exact fun y => absurd (y.1 ▸ z) (by decide) | exact fun y => absurd (y.1 ▸ q) (by decide) | exact z | exact q | exact z.1 | exact q.1 | exact z.2 | exact q.2 | omega), f3 c p (by first | exact fun y => absurd (y.1 ▸ z) (by decide) | exact fun y => absurd (y.1 ▸ q) (by decide) | exact z | exact q | exact z.1 | exact q.1 | exact z.2 | exact q.2 | omega), f2 c p (by first | exact fun y => absurd (y.1 ▸ z) (by decide) | exact fun y => absurd (y.1 ▸ q) (by decide) | exact z | exact q | exact z.1 | exact q.1 | exact z.2 | exact q.2 | omega)]) ?_ ?_ ?_
  · rw [f4 346 _ (by first | decide | exact fun z => absurd z.1 (by decide) | exact ⟨fun z => absurd z.1 (by decide), fun z => absurd z.1 (by decide)⟩ | omega), f3 346 _ (by first | decide | exact fun z => absurd z.1 (by decide) | exact ⟨fun z => absurd z.1 (by decide), fun z => absurd z.1 (by decide)⟩ | omega), y2]
  · rw [f4 346 _ (by first | decide | exact fun z => absurd z.1 (by decide) | exact ⟨fun z => absurd z.1 (by decide), fun z => absurd z.1 (by decide)⟩ | omega), y3, ev, f2 346 7 (by first | decide | exact fun z => absurd z.1 (by decide) | exact ⟨fun z => absurd z.1 (by decide), fun z => absurd z.1 (by decide)⟩ | omega), ka.f (by omega) (by omega)]
  · rw [y4, ev4, ev2, f3 346 8 (by first | decide | exact fun z => absurd z.1 (by decide) | exact ⟨fun z => absurd z.1 (by decide), fun z => absurd z.1 (by decide)⟩ | omega), f3 346 (93 + 4 * w + 3) (by first | decide | exact fun z => absurd z.1 (by decide) | exact ⟨fun z => absurd z.1 (by decide), fun z => absurd z.1 (by decide)⟩ | omega), f2 346 8 (by first | decide | exact fun z => absurd z.1 (by decide) | exact ⟨fun z => absurd z.1 (by decide), fun z => absurd z.1 (by decide)⟩ | omega), f2 346 (93 + 4 * w + 3) (by first | decide | exact fun z => absurd z.1 (by decide) | exact ⟨fun z => absurd z.1 (by decide), fun z => absurd z.1 (by decide)⟩ | omega), ka.f (by omega) (by omega), ka.f (by omega) (by omega)]
end
section
/-! how warm it is -/
def htF (a b c : Int → Int) (t : Int) : Nat → Int
  | 0 => 0
  | n + 1 => if a n ≤ t ∧ t ≤ b n then htF a b c t n + c n else htF a b c t n
theorem htF_b {a b c : Int → Int} {t : Int} : ∀ n : Nat, (∀ k : Int, 0 ≤ k → k < n → 0 ≤ c k ∧ c k ≤ 5) → 0 ≤ htF a b c t n ∧ htF a b c t n ≤ 5 * n := by
  intro n
  induction n with
  | zero => intro _; exact ⟨Int.le_refl 0, by show (0 : Int) ≤ 5 * ((0 : Nat) : Int); omega⟩
  | succ n ih =>
    intro h
    have q := ih (fun k k0 k1 => h k k0 (by omega))
    have z := h (n : Int) (by omega) (by omega)
    show 0 ≤ (if a n ≤ t ∧ t ≤ b n then htF a b c t n + c n else htF a b c t n) ∧ (if a n ≤ t ∧ t ≤ b n then htF a b c t n + c n else htF a b c t n) ≤ 5 * ((n + 1 : Nat) : Int)
    by_cases e : a n ≤ t ∧ t ≤ b n
    · rw [if_pos e]; omega
    · rw [if_neg e]; omega
theorem htF_same {a b c a' b' c' : Int → Int} {t : Int} : ∀ n : Nat, (∀ k : Int, 0 ≤ k → k < n → a' k = a k ∧ b' k = b k ∧ c' k = c k) → htF a' b' c' t n = htF a b c t n := by
  intro n
  induction n with
  | zero => intro _; rfl
  | succ n ih =>
    intro h
    obtain ⟨e1, e2, e3⟩ := h (n : Int) (by omega) (by omega)
    show (if a' n ≤ t ∧ t ≤ b' n then htF a' b' c' t n + c' n else htF a' b' c' t n) = (if a n ≤ t ∧ t ≤ b n then htF a b c t n + c n else htF a b c t n)
    rw [ih (fun k k0 k1 => h k k0 (by omega)), e1, e2, e3]
def ht8 (m : Mm) (t : Int) : Int := htF (m 9) (m 10) (m 11) t (m 4 6).toNat
theorem zh_heat8 {X : Mm} {S : Sh} {m : Mm} {K : Int → Mm → Prop} {t : Int} (hS : Shp S) (hm : Inv X S m) (hk : 0 ≤ ht8 m t → ht8 m t ≤ 20 → K (ht8 m t) m) : wp_X8_heatIn S m 4 t K := by
  have b6 := hm.f_4_6
  have bn : ∀ n : Nat, n ≤ 4 → 0 ≤ htF (m 9) (m 10) (m 11) t n ∧ htF (m 9) (m 10) (m 11) t n ≤ 5 * n := fun n hn => htF_b n (fun k k0 k1 => hm.a_11 (i := k) k0 (by omega))
  refine u_X8_heatIn ?_
  refine g_C ?_
  refine g_C ?_
  have L : ∀ (n i : Nat), (i : Int) ≤ m 4 6 → 5 - (i : Int) ≤ (n : Int) → wp_X8_heatIn_4 S K n 4 t (htF (m 9) (m 10) (m 11) t i) (i : Int) m := by
    intro n
    induction n with
    | zero => intro i hi hn; exfalso; omega
    | succ n ih =>
      intro i hi hn
      have bi := bn i (by omega)
      refine u_X8_heatIn_4 ?_
      refine g_getu 6 rfl hS.k4 (fun v ev => ?_)
      refine g_if (fun w => ?_) (fun w => ?_)
      · have e : i = (m 4 6).toNat := by omega
        subst e
        exact hk bi.1 (by have := bi.2; unfold ht8; omega)
      have e1 : htF (m 9) (m 10) (m 11) t (i + 1) = (if m 9 (i : Int) ≤ t ∧ t ≤ m 10 (i : Int) then htF (m 9) (m 10) (m 11) t i + m 11 (i : Int) else htF (m 9) (m 10) (m 11) t i) := rfl
      have nx : ∀ u : Int, u = htF (m 9) (m 10) (m 11) t (i + 1) → wp_X8_heatIn_41 S (fun a0 a1 a2 a3 M => wp_X8_heatIn_4 S K n a0 a1 a2 a3 M) K 4 t u (i : Int) m := by
        intro u eu
        rw [eu]
        refine u_X8_heatIn_41 ?_
        refine g_A (by omega) (by omega) ?_
        rw [show (i : Int) + 1 = ((i + 1 : Nat) : Int) by omega]
        exact ih (i + 1) (by omega) (by omega)
      refine g_getr 12 9 rfl hS.k4 hm.f_4_12 (by decide) ?_
      refine g_ldu hS.k9 hS.l9 (by omega) (by omega) (fun v2 ev2 => ?_)
      refine g_if (fun w2 => nx _ (by rw [e1, if_neg (fun z => by have := z.1; omega)])) (fun w2 => ?_)
      refine g_getr 13 10 rfl hS.k4 hm.f_4_13 (by decide) ?_
      refine g_ldu hS.k10 hS.l10 (by omega) (by omega) (fun v3 ev3 => ?_)
      refine g_if (fun w3 => nx _ (by rw [e1, if_neg (fun z => by have := z.2; omega)])) (fun w3 => ?_)
      refine g_getr 14 11 rfl hS.k4 hm.f_4_14 (by decide) ?_
      refine g_ldu hS.k11 hS.l11 (by omega) (by omega) (fun v4 ev4 => ?_)
      have bc := hm.a_11 (i := (i : Int)) (by omega) (by omega)
      refine g_A (by omega) (by omega) (nx _ ?_)
      rw [e1, if_pos ⟨by omega, by omega⟩, ev4]
  exact ⟨5, L 5 0 (by omega) (by omega)⟩
def htR (D : Int → Int) (t : Int) : Int := htF (fun k => D (81 + 3 * k)) (fun k => D (81 + 3 * k + 1)) (fun k => D (81 + 3 * k + 2)) t (D 9).toNat
theorem zh_heat12 {X : Mm} {S : Sh} {m : Mm} {K : Int → Mm → Prop} {t : Int} (hS : Shp S) (hm : Inv X S m) (hk : 0 ≤ (if m 336 23 = 0 then htR (m 346) t else 0) → (if m 336 23 = 0 then htR (m 346) t else 0) ≤ 20 → K (if m 336 23 = 0 then htR (m 346) t else 0) m) : wp_X12_heatIn S m 336 t K := by
  have b9 := hm.f_346_9
  have bc : ∀ k : Int, 0 ≤ k → k ≤ 3 → 0 ≤ m 346 (81 + 3 * k + 2) ∧ m 346 (81 + 3 * k + 2) ≤ 5 := fun k k0 k1 => fam_346_83_3_0_3 hm (a := k) (by omega) k0 k1
  have bn : ∀ n : Nat, n ≤ 4 → 0 ≤ htF (fun k => m 346 (81 + 3 * k)) (fun k => m 346 (81 + 3 * k + 1)) (fun k => m 346 (81 + 3 * k + 2)) t n ∧ htF (fun k => m 346 (81 + 3 * k)) (fun k => m 346 (81 + 3 * k + 1)) (fun k => m 346 (81 + 3 * k + 2)) t n ≤ 5 * n := fun n hn => htF_b n (fun k k0 k1 => bc k k0 (by omega))
  refine u_X12_heatIn ?_
  refine g_C ?_
  refine g_C ?_
  by_cases ic : m 336 23 = 0
  · rw [if_pos ic] at hk
    have L : ∀ (n i : Nat), (i : Int) ≤ m 346 9 → 5 - (i : Int) ≤ (n : Int) → wp_X12_heatIn_4 S K n 336 t (htF (fun k => m 346 (81 + 3 * k)) (fun k => m 346 (81 + 3 * k + 1)) (fun k => m 346 (81 + 3 * k + 2)) t i) (i : Int) m := by
      intro n
      induction n with
      | zero => intro i hi hn; exfalso; omega
      | succ n ih =>
        intro i hi hn
        have bi := bn i (by omega)
        refine u_X12_heatIn_4 ?_
        refine g_getr 20 346 rfl hS.k336 hm.f_336_20 (by decide) ?_
        refine g_C ?_
        refine g_ldu hS.k346 hS.l346 (by omega) (by omega) (fun v ev => ?_)
        refine g_if (fun w => ?_) (fun w => ?_)
        · have e : i = (m 346 9).toNat := by omega
          subst e
          exact hk bi.1 (by have := bi.2; unfold htR; omega)
        refine g_getu 23 rfl hS.k336 (fun v1 ev1 => ?_)
        refine g_if (fun w1 => absurd (ev1.trans ic) w1) (fun w1 => ?_)
        have e1 : htF (fun k => m 346 (81 + 3 * k)) (fun k => m 346 (81 + 3 * k + 1)) (fun k => m 346 (81 + 3 * k + 2)) t (i + 1) = (if m 346 (81 + 3 * (i : Int)) ≤ t ∧ t ≤ m 346 (81 + 3 * (i : Int) + 1) then htF (fun k => m 346 (81 + 3 * k)) (fun k => m 346 (81 + 3 * k + 1)) (fun k => m 346 (81 + 3 * k + 2)) t i + m 346 (81 + 3 * (i : Int) + 2) else htF (fun k => m 346 (81 + 3 * k)) (fun k => m 346 (81 + 3 * k + 1)) (fun k => m 346 (81 + 3 * k + 2)) t i) := rfl
        have nx : ∀ u v : Int, u + v = htF (fun k => m 346 (81 + 3 * k)) (fun k => m 346 (81 + 3 * k + 1)) (fun k => m 346 (81 + 3 * k + 2)) t (i + 1) → wp_X12_heatIn_68 S (fun a0 a1 a2 a3 M => wp_X12_heatIn_4 S K n a0 a1 a2 a3 M) K 336 t (i : Int) u v m := by
          intro u v eu
          have b2 := bn (i + 1) (by omega)
          refine u_X12_heatIn_68 ?_
          refine g_A (by omega) (by omega) ?_
          rw [eu]
          refine g_A (by omega) (by omega) ?_
          rw [show (i : Int) + 1 = ((i + 1 : Nat) : Int) by omega]
          exact ih (i + 1) (by omega) (by omega)
        have nz : htF (fun k => m 346 (81 + 3 * k)) (fun k => m 346 (81 + 3 * k + 1)) (fun k => m 346 (81 + 3 * k + 2)) t i = htF (fun k => m 346 (81 + 3 * k)) (fun k => m 346 (81 + 3 * k + 1)) (fun k => m 346 (81 + 3 * k + 2)) t (i + 1) → wp_X12_heatIn_67 S (fun a0 a1 a2 a3 M => wp_X12_heatIn_4 S K n a0 a1 a2 a3 M) K 336 t (i : Int) (htF (fun k => m 346 (81 + 3 * k)) (fun k => m 346 (81 + 3 * k + 1)) (fun k => m 346 (81 + 3 * k + 2)) t i) m := by
          intro eu
          refine u_X12_heatIn_67 ?_
          refine g_C ?_
          exact nx _ _ (by omega)
        refine g_C ?_
        refine g_C ?_
        refine g_M (by omega) (by omega) ?_
        refine g_A (by omega) (by omega) ?_
        refine g_getr 20 346 rfl hS.k336 hm.f_336_20 (by decide) ?_
        refine g_ldu hS.k346 hS.l346 (by omega) (by omega) (fun v2 ev2 => ?_)
        refine g_if (fun w2 => nz (by rw [e1, if_neg (fun z => by have := z.1; omega)])) (fun w2 => ?_)
        refine g_getr 20 346 rfl hS.k336 hm.f_336_20 (by decide) ?_
        refine g_C ?_
        refine g_A (by omega) (by omega) ?_
        refine g_ldu hS.k346 hS.l346 (by omega) (by omega) (fun v3 ev3 => ?_)
        refine g_if (fun w3 => nz (by rw [e1, if_neg (fun z => by have := z.2; omega)])) (fun w3 => ?_)
        refine g_getr 20 346 rfl hS.k336 hm.f_336_20 (by decide) ?_
        refine g_C ?_
        refine g_A (by omega) (by omega) ?_
        refine g_ldu hS.k346 hS.l346 (by omega) (by omega) (fun v4 ev4 => ?_)
        refine nx _ _ ?_
        rw [e1, if_pos ⟨by omega, by omega⟩, ev4]
    exact ⟨5, L 5 0 (by omega) (by omega)⟩
  · rw [if_neg ic] at hk
    refine ⟨1, ?_⟩
    refine u_X12_heatIn_4 ?_
    refine g_getr 20 346 rfl hS.k336 hm.f_336_20 (by decide) ?_
    refine g_C ?_
    refine g_ldu hS.k346 hS.l346 (by omega) (by omega) (fun v ev => ?_)
    refine g_if (fun w => hk (by omega) (by omega)) (fun w => ?_)
    refine g_getu 23 rfl hS.k336 (fun v1 ev1 => ?_)
    exact g_if (fun w1 => hk (by omega) (by omega)) (fun w1 => absurd (ev1.symm.trans (by omega)) ic)
theorem ht_eq {M : Mm} {D : Int → Int} {t : Int} (h : TL 4 D M) : ht8 M t = htR D t := by
  obtain ⟨⟨c0, c1, c2, c3, c4, c5, c6, c7⟩, r, hs, ts, ws⟩ := h
  unfold ht8 htR
  rw [c6]
  exact htF_same _ (fun k k0 k1 => ts k k0 (by omega))
theorem zh_heat10 {X : Mm} {S : Sh} {m : Mm} {K : Int → Mm → Prop} {t : Int} (hS : Shp S) (hm : Inv X S m) (hk : 0 ≤ (if m 55 2 = 0 then ht8 m t else 0) → (if m 55 2 = 0 then ht8 m t else 0) ≤ 20 → K (if m 55 2 = 0 then ht8 m t else 0) m) : wp_X10_heatIn S m 55 t K := by
  refine u_X10_heatIn ?_
  refine g_getu 2 rfl hS.k55 (fun v ev => ?_)
  by_cases ic : m 55 2 = 0
  · rw [if_pos ic] at hk
    refine g_ifT (ev.trans ic) ?_
    refine g_getr 0 4 rfl hS.k55 hm.f_55_0 (by decide) ?_
    refine ⟨hS.k4, ?_⟩
    exact zh_heat8 hS hm hk
  · rw [if_neg ic] at hk
    exact g_ifF (fun z => ic (ev.symm.trans z)) (g_C (hk (by omega) (by omega)))
end
section
/-! how far milk turns in an HOUR: both sides by one word row -/
def wds (h sp ti jg tu he t ro ho so : Int) (j : Int) : Int := if j = 0 then h else if j = 1 then sp else if j = 2 then ti else if j = 3 then jg else if j = 4 then tu else if j = 5 then he else if j = 6 then t else if j = 7 then ro else if j = 8 then ho else so
theorem ev1_same {w w' : Int → Int} {L : List Int} {x : Int} (hx : ¬ x = -1) (hw : ∀ j : Int, 0 ≤ j → j ≤ 9 → w' j = w j) : ev1 w' L x = ev1 w L x := by
  unfold ev1
  by_cases e : -11 ≤ x
  · rw [if_pos e, if_pos e]
    by_cases e2 : 0 ≤ x
    · rw [if_pos e2, if_pos e2]
    · rw [if_neg e2, if_neg e2, hw (-2 - x) (by omega) (by omega)]
  · rw [if_neg e, if_neg e]
theorem evl_same {w w' : Int → Int} (hw : ∀ j : Int, 0 ≤ j → j ≤ 9 → w' j = w j) : ∀ (V L : List Int), (∀ x : Int, x ∈ V → ¬ x = -1) → evl w' L V = evl w L V := by
  intro V
  induction V with
  | nil => intro L _; rfl
  | cons x V ih =>
    intro L h
    show evl w' (ev1 w' L x) V = evl w (ev1 w L x) V
    rw [ev1_same (h x (List.mem_cons_self ..)) hw]
    exact ih _ (fun y hy => h y (List.mem_cons_of_mem _ hy))
/-- no sign of a rule is -1 -/
def N1 (Cs : List Cz) : Prop := ∀ c : Cz, c ∈ Cs → (∀ x : Int, x ∈ c.1 → ¬ x = -1) ∧ (∀ x : Int, x ∈ c.2.2 → ¬ x = -1)
theorem evC_same {w w' : Int → Int} (hw : ∀ j : Int, 0 ≤ j → j ≤ 9 → w' j = w j) : ∀ Cs : List Cz, N1 Cs → evC w' Cs = evC w Cs := by
  intro Cs
  induction Cs with
  | nil => intro _; rfl
  | cons c l ih =>
    intro h
    obtain ⟨h1, h2⟩ := h c (List.mem_cons_self ..)
    show (if c.2.1 = true ∧ (evl w' [] c.2.2).headD 0 = 0 then evC w' l else (evl w' [] c.1).headD 0) = (if c.2.1 = true ∧ (evl w [] c.2.2).headD 0 = 0 then evC w l else (evl w [] c.1).headD 0)
    rw [evl_same hw _ _ h1, evl_same hw _ _ h2, ih (fun d hd => h d (List.mem_cons_of_mem _ hd))]
/-- by the rule, or without one -/
def tvO (o : Option (List Cz)) (w : Int → Int) : Int := match o with
  | none => w 1 + w 2 / 4 + w 5
  | some Cs => max 0 (min 50 (evC w Cs))
/-- the rule in force in the class, in the reference -/
def RC (S : Sh) (m : Mm) (o : Option (List Cz)) : Prop := match o with
  | none => m 55 1 = -2
  | some Cs => ¬ m 55 1 = -2 ∧ ¬ m 55 1 = -1 ∧ rowv S (m 55 1) ∧ Hs (m (m 55 1)) 0 (codC Cs) ∧ rlen S (m 55 1) = ((codC Cs).length : Int) ∧ 0 < (codC Cs).length ∧ Tys Cs ∧ nvs (codC Cs) ≤ 60
def RR (m : Mm) (o : Option (List Cz)) : Prop := match o with
  | none => m 336 21 < 0
  | some Cs => 0 ≤ m 336 21 ∧ RwR m (m 336 21) Cs ∧ nvs (rowC Cs) ≤ 60 ∧ N1 Cs
theorem RC.same {S : Sh} {m m' : Mm} {o : Option (List Cz)} (h : RC S m o) (h55 : m' 55 1 = m 55 1) (hr : ∀ c p : Int, (c = 55 ∧ p = 1) ∨ c = m 55 1 → m' c p = m c p) : RC S m' o := by
  cases o with
  | none => exact h55.trans h
  | some Cs =>
    obtain ⟨a, b, c, d, e⟩ := h
    show ¬ m' 55 1 = -2 ∧ ¬ m' 55 1 = -1 ∧ rowv S (m' 55 1) ∧ Hs (m' (m' 55 1)) 0 (codC Cs) ∧ rlen S (m' 55 1) = ((codC Cs).length : Int) ∧ 0 < (codC Cs).length ∧ Tys Cs ∧ nvs (codC Cs) ≤ 60
    rw [h55, show m' (m 55 1) = m (m 55 1) from funext (fun p => hr _ p (Or.inr rfl))]
    exact ⟨a, b, c, d, e⟩
def wdH (m : Mm) (he : Int) : Int → Int := wds (m 55 4) (m 7 (m 55 4)) (m 55 7) (m 55 5) (m 55 6) he (m 55 8) (m 55 10) (m 55 11) (if m 55 6 < m 4 2 then 0 else 1)
theorem iDiv4 : ∀ v : Nat, v < 100 → iDiv (v : Int) 4 = (v : Int) / 4 := by decide +kernel
theorem w32_50 : ∀ v : Nat, v < 51 → w32 (v : Int) = (v : Int) := by decide +kernel
theorem tvO_b {o : Option (List Cz)} {w : Int → Int} (b1 : 0 ≤ w 1 ∧ w 1 ≤ 20) (b2 : 0 ≤ w 2 ∧ w 2 ≤ 99) (b5 : 0 ≤ w 5 ∧ w 5 ≤ 20) : 0 ≤ tvO o w ∧ tvO o w ≤ 64 := by
  cases o with
  | none =>
    show 0 ≤ w 1 + w 2 / 4 + w 5 ∧ w 1 + w 2 / 4 + w 5 ≤ 64
    omega
  | some Cs =>
    show 0 ≤ max 0 (min 50 (evC w Cs)) ∧ max 0 (min 50 (evC w Cs)) ≤ 64
    omega
theorem zh_turns {X : Mm} {S : Sh} {m : Mm} {K : Int → Mm → Prop} {o : Option (List Cz)} (hS : Shp S) (hm : Inv X S m) (hr : RC S m o) (hk : ∀ M1 : Mm, Inv X S M1 → (∀ c p : Int, ¬ c = 56 → ¬ (c = 55 ∧ p = 9) → M1 c p = m c p) → K (tvO o (wdH m (if m 55 2 = 0 then ht8 m (m 55 8) else 0))) M1) : wp_X10_turns S m 55 K := by
  refine u_X10_turns ?_
  refine g_getu 8 rfl hS.k55 (fun t et => ?_)
  subst et
  refine ⟨hS.k55, ?_⟩
  refine zh_heat10 hS hm (fun b0 b1 => ?_)
  obtain ⟨he, ehe⟩ : ∃ he : Int, he = (if m 55 2 = 0 then ht8 m (m 55 8) else 0) := ⟨_, rfl⟩
  rw [← ehe] at hk b0 b1 ⊢
  refine g_put 9 rfl hS.k55 (hm.w_55_9 b0 b1) (fun m1 e1 hm1 => ?_)
  have f1 : ∀ c p : Int, ¬ (c = 55 ∧ p = 9) → m1 c p = m c p := fun c p q => (congrFun (congrFun e1 _) _).trans (up_ne q)
  have y1 : m1 55 9 = he := (congrFun (congrFun e1 _) _).trans (up_at _ _ _ _)
  have b4 := hm1.f_55_4
  have b7 := hm1.f_55_7
  cases o with
  | none =>
    have e2 : m1 55 1 = -2 := (f1 55 1 (by first | decide | exact fun z => absurd z.1 (by decide) | exact ⟨fun z => absurd z.1 (by decide), fun z => absurd z.1 (by decide)⟩ | omega)).trans hr
    refine ⟨hS.k55, ?_, ?_⟩
    · rw [show (((1 : Nat) : Int)) = 1 from rfl, e2]; decide
    rw [show (((1 : Nat) : Int)) = 1 from rfl, e2]
    refine Or.inl ⟨rfl, ?_⟩
    refine g_ifF (fun z => z rfl) ?_
    refine g_getr 0 4 rfl hS.k55 hm1.f_55_0 (by decide) ?_
    refine g_getr 10 7 rfl hS.k4 hm1.f_4_10 (by decide) ?_
    refine g_getu 4 rfl hS.k55 (fun h eh => ?_)
    refine g_ldu hS.k7 hS.l7 (by omega) (by omega) (fun sp esp => ?_)
    refine g_getu 7 rfl hS.k55 (fun ti eti => ?_)
    refine g_C ?_
    have bs := hm1.a_7 (i := h) (by omega) (by omega)
    have q4 := iDiv4 ti.toNat (by omega)
    rw [Int.toNat_of_nonneg (by omega)] at q4
    refine ⟨by decide, ?_⟩
    rw [q4]
    refine g_A (by omega) (by omega) ?_
    refine g_getu 9 rfl hS.k55 (fun h9 eh9 => ?_)
    have e9 : h9 = he := eh9.trans y1
    refine g_A (by omega) (by omega) ?_
    have z : sp + ti / 4 + h9 = tvO none (wdH m he) := by
      show sp + ti / 4 + h9 = m 7 (m 55 4) + m 55 7 / 4 + he
      rw [e9, esp, eti, eh, f1 55 7 (by first | decide | exact fun z => absurd z.1 (by decide) | exact ⟨fun z => absurd z.1 (by decide), fun z => absurd z.1 (by decide)⟩ | omega), f1 55 4 (by first | decide | exact fun z => absurd z.1 (by decide) | exact ⟨fun z => absurd z.1 (by decide), fun z => absurd z.1 (by decide)⟩ | omega), f1 7 _ (by first | decide | exact fun z => absurd z.1 (by decide) | exact ⟨fun z => absurd z.1 (by decide), fun z => absurd z.1 (by decide)⟩ | omega)]
    rw [z]
    exact hk m1 hm1 (fun c p _ q => f1 c p q)
  | some Cs =>
    obtain ⟨a1, a2, a3, a4, a5, a6, a7, a8⟩ := hr
    have e2 : m1 55 1 = m 55 1 := f1 55 1 (by first | decide | exact fun z => absurd z.1 (by decide) | exact ⟨fun z => absurd z.1 (by decide), fun z => absurd z.1 (by decide)⟩ | omega)
    refine ⟨hS.k55, ?_, ?_⟩
    · rw [show (((1 : Nat) : Int)) = 1 from rfl, e2]; exact a2
    rw [show (((1 : Nat) : Int)) = 1 from rfl, e2]
    refine g_lenrow a3 (fun v ev v0 v1 => ?_)
    refine g_ifT (by first | decide | omega) ?_
    refine g_C ?_
    refine g_C ?_
    refine ⟨hS.k55, ?_⟩
    have rw1 : ∀ p : Int, m1 (m 55 1) p = m (m 55 1) p := fun p => by
      by_cases z : m 55 1 = 55 ∧ p = 9
      · exfalso
        have q := a3
        rcases q with q | q
        · omega
        · have := q.2.2
          omega
      · exact f1 _ p z
    refine zg_sumByRule hS hm1 e2 a3 (by rw [show m1 (m 55 1) = m (m 55 1) from funext rw1]; exact a4) a5 a7 a8 (fun m2 hm2 f2 => ?_)
    have ew : wdC m1 = wdH m he := by
      funext j
      show (if j = 0 then m1 55 4 else if j = 1 then m1 7 (m1 55 4) else if j = 2 then m1 55 7 else if j = 3 then m1 55 5 else if j = 4 then m1 55 6 else if j = 5 then m1 55 9 else if j = 6 then m1 55 8 else if j = 7 then m1 55 10 else if j = 8 then m1 55 11 else if m1 55 6 < m1 4 2 then 0 else 1) = _
      rw [f1 55 4 (by first | decide | exact fun z => absurd z.1 (by decide) | exact ⟨fun z => absurd z.1 (by decide), fun z => absurd z.1 (by decide)⟩ | omega), f1 7 _ (by first | decide | exact fun z => absurd z.1 (by decide) | exact ⟨fun z => absurd z.1 (by decide), fun z => absurd z.1 (by decide)⟩ | omega), f1 55 7 (by first | decide | exact fun z => absurd z.1 (by decide) | exact ⟨fun z => absurd z.1 (by decide), fun z => absurd z.1 (by decide)⟩ | omega), f1 55 5 (by first | decide | exact fun z => absurd z.1 (by decide) | exact ⟨fun z => absurd z.1 (by decide), fun z => absurd z.1 (by decide)⟩ | omega), f1 55 6 (by first | decide | exact fun z => absurd z.1 (by decide) | exact ⟨fun z => absurd z.1 (by decide), fun z => absurd z.1 (by decide)⟩ | omega), y1, f1 55 8 (by first | decide | exact fun z => absurd z.1 (by decide) | exact ⟨fun z => absurd z.1 (by decide), fun z => absurd z.1 (by decide)⟩ | omega), f1 55 10 (by first | decide | exact fun z => absurd z.1 (by decide) | exact ⟨fun z => absurd z.1 (by decide), fun z => absurd z.1 (by decide)⟩ | omega), f1 55 11 (by first | decide | exact fun z => absurd z.1 (by decide) | exact ⟨fun z => absurd z.1 (by decide), fun z => absurd z.1 (by decide)⟩ | omega), f1 4 2 (by first | decide | exact fun z => absurd z.1 (by decide) | exact ⟨fun z => absurd z.1 (by decide), fun z => absurd z.1 (by decide)⟩ | omega)]
      rfl
    rw [ew]
    obtain ⟨e, ee⟩ : ∃ e : Int, e = evC (wdH m he) Cs := ⟨_, rfl⟩
    rw [← ee]
    show K (w32 (max 0 (min 50 e))) m2
    have q5 := w32_50 (max 0 (min 50 e)).toNat (by omega)
    rw [Int.toNat_of_nonneg (by omega)] at q5
    rw [q5, ee]
    exact hk m2 hm2 (fun c p q1 q2 => by rw [f2 c p q1, f1 c p q2])
end
section
theorem g_cmpx {a b : Int} {K : Int → Prop} (h : ∀ v : Int, ((a < b ∧ v = -1) ∨ (a = b ∧ v = 0) ∨ (b < a ∧ v = 1)) → K v) : wCmp a b K := g_cmp (fun e => h _ (Or.inl ⟨e, rfl⟩)) (fun e => h _ (Or.inr (Or.inl ⟨e, rfl⟩))) (fun e => h _ (Or.inr (Or.inr ⟨e, rfl⟩)))
theorem zh_turnsIn {X : Mm} {S : Sh} {m : Mm} {K : Int → Mm → Prop} {o : Option (List Cz)} {h ti jg tu t ro ho : Int} (hS : Shp S) (hm : Inv X S m) (hr : RR m o) (h0 : 0 ≤ h) (h4 : h ≤ 4) (t0 : 0 ≤ ti) (t9 : ti ≤ 99) (hk : ∀ M1 : Mm, Inv X S M1 → (∀ c p : Int, ¬ c = 344 → ¬ c = 345 → ¬ (c = 336 ∧ p = 18) → M1 c p = m c p) → K (tvO o (wds h (m 346 (10 + 5 * h + 3)) ti jg tu (if m 336 23 = 0 then htR (m 346) t else 0) t ro ho (if tu < m 346 2 then 0 else 1))) M1) : wp_X12_turnsIn S m 336 h ti jg tu t ro ho K := by
  refine u_X12_turnsIn ?_
  refine ⟨hS.k336, ?_⟩
  refine zh_heat12 hS hm (fun b0 b1 => ?_)
  obtain ⟨he, ehe⟩ : ∃ he : Int, he = (if m 336 23 = 0 then htR (m 346) t else 0) := ⟨_, rfl⟩
  rw [← ehe] at hk b0 b1 ⊢
  have bs : 0 ≤ m 346 (10 + 5 * h + 3) ∧ m 346 (10 + 5 * h + 3) ≤ 20 := fam_346_13_5_0_4 hm (a := h) (by omega) (by omega) (by omega)
  refine g_getu 21 rfl hS.k336 (fun fo efo => ?_)
  cases o with
  | none =>
    have q : m 336 21 < 0 := hr
    refine g_ifF (by omega) ?_
    refine g_C ?_
    refine ⟨hS.k336, ?_⟩
    refine zt_handOf hS hm h0 h4 (by omega) (by omega) ?_
    refine g_C ?_
    have q4 := iDiv4 ti.toNat (by omega)
    rw [Int.toNat_of_nonneg (by omega)] at q4
    refine ⟨by decide, ?_⟩
    rw [q4]
    refine g_A (by omega) (by omega) ?_
    refine g_A (by omega) (by omega) ?_
    exact hk m hm (fun c p _ _ _ => rfl)
  | some Cs =>
    obtain ⟨a1, a2, a3, a4⟩ := hr
    have b21 := hm.f_336_21
    refine g_ifT (by omega) ?_
    refine g_getr 19 345 rfl hS.k336 hm.f_336_19 (by decide) ?_
    refine g_C ?_
    refine g_C ?_
    refine g_st hS.k345 hS.l345 (by decide) (by decide) (hm.wa_345 (by decide) (by decide)) (fun m1 e1 hm1 => ?_)
    have f1 : ∀ c p : Int, ¬ (c = 345 ∧ p = 0) → m1 c p = m c p := fun c p q => (congrFun (congrFun e1 _) _).trans (up_ne q)
    have y1 : m1 345 0 = h := (congrFun (congrFun e1 _) _).trans (up_at _ _ _ _)
    refine g_getr 19 345 rfl hS.k336 hm1.f_336_19 (by decide) ?_
    refine g_C ?_
    refine g_C ?_
    refine ⟨hS.k336, ?_⟩
    refine zt_handOf hS hm1 h0 h4 (by omega) (by omega) ?_
    rw [f1 346 _ (by omega)]
    refine g_C ?_
    refine g_st hS.k345 hS.l345 (by decide) (by decide) (hm1.wa_345 (by decide) (by decide)) (fun m2 e2 hm2 => ?_)
    have f2 : ∀ c p : Int, ¬ (c = 345 ∧ p = 1) → m2 c p = m1 c p := fun c p q => (congrFun (congrFun e2 _) _).trans (up_ne q)
    have y2 : m2 345 1 = m 346 (10 + 5 * h + 3) := (congrFun (congrFun e2 _) _).trans (up_at _ _ _ _)
    refine g_getr 19 345 rfl hS.k336 hm2.f_336_19 (by decide) ?_
    refine g_C ?_
    refine g_C ?_
    refine g_st hS.k345 hS.l345 (by decide) (by decide) (hm2.wa_345 (by decide) (by decide)) (fun m3 e3 hm3 => ?_)
    have f3 : ∀ c p : Int, ¬ (c = 345 ∧ p = 2) → m3 c p = m2 c p := fun c p q => (congrFun (congrFun e3 _) _).trans (up_ne q)
    have y3 : m3 345 2 = ti := (congrFun (congrFun e3 _) _).trans (up_at _ _ _ _)
    refine g_getr 19 345 rfl hS.k336 hm3.f_336_19 (by decide) ?_
    refine g_C ?_
    refine g_C ?_
    refine g_st hS.k345 hS.l345 (by decide) (by decide) (hm3.wa_345 (by decide) (by decide)) (fun m4 e4 hm4 => ?_)
    have f4 : ∀ c p : Int, ¬ (c = 345 ∧ p = 3) → m4 c p = m3 c p := fun c p q => (congrFun (congrFun e4 _) _).trans (up_ne q)
    have y4 : m4 345 3 = jg := (congrFun (congrFun e4 _) _).trans (up_at _ _ _ _)
    refine g_getr 19 345 rfl hS.k336 hm4.f_336_19 (by decide) ?_
    refine g_C ?_
    refine g_C ?_
    refine g_st hS.k345 hS.l345 (by decide) (by decide) (hm4.wa_345 (by decide) (by decide)) (fun m5 e5 hm5 => ?_)
    have f5 : ∀ c p : Int, ¬ (c = 345 ∧ p = 4) → m5 c p = m4 c p := fun c p q => (congrFun (congrFun e5 _) _).trans (up_ne q)
    have y5 : m5 345 4 = tu := (congrFun (congrFun e5 _) _).trans (up_at _ _ _ _)
    refine g_getr 19 345 rfl hS.k336 hm5.f_336_19 (by decide) ?_
    refine g_C ?_
    refine g_C ?_
    refine g_st hS.k345 hS.l345 (by decide) (by decide) (hm5.wa_345 (by decide) (by decide)) (fun m6 e6 hm6 => ?_)
    have f6 : ∀ c p : Int, ¬ (c = 345 ∧ p = 5) → m6 c p = m5 c p := fun c p q => (congrFun (congrFun e6 _) _).trans (up_ne q)
    have y6 : m6 345 5 = he := (congrFun (congrFun e6 _) _).trans (up_at _ _ _ _)
    refine g_getr 19 345 rfl hS.k336 hm6.f_336_19 (by decide) ?_
    refine g_C ?_
    refine g_C ?_
    refine g_st hS.k345 hS.l345 (by decide) (by decide) (hm6.wa_345 (by decide) (by decide)) (fun m7 e7 hm7 => ?_)
    have f7 : ∀ c p : Int, ¬ (c = 345 ∧ p = 6) → m7 c p = m6 c p := fun c p q => (congrFun (congrFun e7 _) _).trans (up_ne q)
    have y7 : m7 345 6 = t := (congrFun (congrFun e7 _) _).trans (up_at _ _ _ _)
    refine g_getr 19 345 rfl hS.k336 hm7.f_336_19 (by decide) ?_
    refine g_C ?_
    refine g_C ?_
    refine g_st hS.k345 hS.l345 (by decide) (by decide) (hm7.wa_345 (by decide) (by decide)) (fun m8 e8 hm8 => ?_)
    have f8 : ∀ c p : Int, ¬ (c = 345 ∧ p = 7) → m8 c p = m7 c p := fun c p q => (congrFun (congrFun e8 _) _).trans (up_ne q)
    have y8 : m8 345 7 = ro := (congrFun (congrFun e8 _) _).trans (up_at _ _ _ _)
    refine g_getr 19 345 rfl hS.k336 hm8.f_336_19 (by decide) ?_
    refine g_C ?_
    refine g_C ?_
    refine g_st hS.k345 hS.l345 (by decide) (by decide) (hm8.wa_345 (by decide) (by decide)) (fun m9 e9 hm9 => ?_)
    have f9 : ∀ c p : Int, ¬ (c = 345 ∧ p = 8) → m9 c p = m8 c p := fun c p q => (congrFun (congrFun e9 _) _).trans (up_ne q)
    have y9 : m9 345 8 = ho := (congrFun (congrFun e9 _) _).trans (up_at _ _ _ _)
    have F9 : ∀ c p : Int, ¬ c = 345 → m9 c p = m c p := fun c p q => by rw [f9 c p (by omega), f8 c p (by omega), f7 c p (by omega), f6 c p (by omega), f5 c p (by omega), f4 c p (by omega), f3 c p (by omega), f2 c p (by omega), f1 c p (by omega)]
    refine g_getr 19 345 rfl hS.k336 hm9.f_336_19 (by decide) ?_
    refine g_C ?_
    refine g_getr 20 346 rfl hS.k336 hm9.f_336_20 (by decide) ?_
    refine g_C ?_
    refine g_ldu hS.k346 hS.l346 (by decide) (by decide) (fun sr esr => ?_)
    rw [F9 346 2 (by omega)] at esr
    have go : ∀ so : Int, so = (if tu < m 346 2 then 0 else 1) → wp_X12_turnsIn_136 S K 336 345 9 so m9 := by
      intro so eso
      refine u_X12_turnsIn_136 ?_
      refine g_st hS.k345 hS.l345 (by decide) (by decide) (hm9.wa_345 (by decide) (by decide)) (fun m10 e10 hm10 => ?_)
      have f10 : ∀ c p : Int, ¬ (c = 345 ∧ p = 9) → m10 c p = m9 c p := fun c p q => (congrFun (congrFun e10 _) _).trans (up_ne q)
      have y10 : m10 345 9 = so := (congrFun (congrFun e10 _) _).trans (up_at _ _ _ _)
      have F10 : ∀ c p : Int, ¬ c = 345 → m10 c p = m c p := fun c p q => by rw [f10 c p (by omega), F9 c p q]
      refine g_getu 21 rfl hS.k336 (fun f21 ef21 => ?_)
      rw [F10 336 21 (by omega)] at ef21
      subst ef21
      refine ⟨hS.k336, ?_⟩
      have r10 : RwR m10 (m 336 21) Cs := by
        obtain ⟨r1, r2, r3, r4, r5⟩ := a2
        refine ⟨?_, ?_, by rw [F10 341 _ (by omega)]; exact r3, r4, r5⟩
        · rw [show (fun j => m10 338 (400 * m 336 21 + j)) = (fun j => m 338 (400 * m 336 21 + j)) from funext (fun j => F10 338 _ (by omega))]
          exact r1
        · exact Tbl.same Cs 0 0 (fun p _ => F10 340 p (by omega)) r2
      refine zk_summedBy hS hm10 a1 (by omega) r10 a3 (fun m11 hm11 f11 => ?_)
      have ew : evC (wdR m10) Cs = evC (wds h (m 346 (10 + 5 * h + 3)) ti jg tu he t ro ho (if tu < m 346 2 then 0 else 1)) Cs := by
        refine evC_same (fun j j0 j9 => ?_) Cs a4
        show m10 345 j = _
        rcases (show j = 0 ∨ j = 1 ∨ j = 2 ∨ j = 3 ∨ j = 4 ∨ j = 5 ∨ j = 6 ∨ j = 7 ∨ j = 8 ∨ j = 9 by omega) with e | e | e | e | e | e | e | e | e | e <;> subst e
        · rw [f10 345 0 (by decide), f9 345 0 (by decide), f8 345 0 (by decide), f7 345 0 (by decide), f6 345 0 (by decide), f5 345 0 (by decide), f4 345 0 (by decide), f3 345 0 (by decide), f2 345 0 (by decide), y1]; rfl
        · rw [f10 345 1 (by decide), f9 345 1 (by decide), f8 345 1 (by decide), f7 345 1 (by decide), f6 345 1 (by decide), f5 345 1 (by decide), f4 345 1 (by decide), f3 345 1 (by decide), y2]; rfl
        · rw [f10 345 2 (by decide), f9 345 2 (by decide), f8 345 2 (by decide), f7 345 2 (by decide), f6 345 2 (by decide), f5 345 2 (by decide), f4 345 2 (by decide), y3]; rfl
        · rw [f10 345 3 (by decide), f9 345 3 (by decide), f8 345 3 (by decide), f7 345 3 (by decide), f6 345 3 (by decide), f5 345 3 (by decide), y4]; rfl
        · rw [f10 345 4 (by decide), f9 345 4 (by decide), f8 345 4 (by decide), f7 345 4 (by decide), f6 345 4 (by decide), y5]; rfl
        · rw [f10 345 5 (by decide), f9 345 5 (by decide), f8 345 5 (by decide), f7 345 5 (by decide), y6]; rfl
        · rw [f10 345 6 (by decide), f9 345 6 (by decide), f8 345 6 (by decide), y7]; rfl
        · rw [f10 345 7 (by decide), f9 345 7 (by decide), y8]; rfl
        · rw [f10 345 8 (by decide), y9]; rfl
        · rw [y10, eso]; rfl
      rw [ew]
      have K0 := hk m11 hm11 (fun c p q1 q2 q3 => by rw [f11 c p ⟨q1, q3⟩, F10 c p q2])
      obtain ⟨e, ee⟩ : ∃ e : Int, e = evC (wds h (m 346 (10 + 5 * h + 3)) ti jg tu he t ro ho (if tu < m 346 2 then 0 else 1)) Cs := ⟨_, rfl⟩
      have K1 : K (max 0 (min 50 e)) m11 := by rw [ee]; exact K0
      rw [← ee]
      refine g_C ?_
      refine g_cmpx (fun c1 e1 => ?_)
      refine g_if (fun w1 => ?_) (fun w1 => g_C (by rw [show (0 : Int) = max 0 (min 50 e) by omega]; exact K1))
      refine g_C ?_
      refine g_cmpx (fun c2 e2 => ?_)
      refine g_if (fun w2 => ?_) (fun w2 => g_C (by rw [show (50 : Int) = max 0 (min 50 e) by omega]; exact K1))
      show K (w32 e) m11
      have q5 := w32_50 e.toNat (by omega)
      rw [Int.toNat_of_nonneg (by omega)] at q5
      rw [q5, show e = max 0 (min 50 e) by omega]
      exact K1
    exact g_if (fun w => g_C (go 0 (by rw [if_pos (by omega)]))) (fun w => g_C (go 1 (by rw [if_neg (by omega)])))
end
