/-! go and meet of both sides, to the letter -/
theorem zs_roadFor {X : Mm} {S : Sh} {m : Mm} {K : Int → Mm → Prop} {h p : Int} (hS : Shp S) (hm : Inv X S m) (i0 : 0 ≤ h) (i1 : h ≤ 4) (p0 : 0 ≤ p) (p1 : p ≤ 5) (h0 : ¬ m 18 h = 0 → K 0 m) (hk : m 18 h = 0 → 0 ≤ m 17 h → m 17 h ≤ 5 → K (m 5 (6 * m 17 h + p)) m) : wp_X5_roadFor S m 16 4 h p K := by
  have hb : isSt 16 := by decide
  refine u_X5_roadFor ?_
  refine ⟨hS.k16, ?_⟩
  refine zt_atPlace hS hm hb i0 i1 (fun c3 => g_ifF (by decide) ?_) (fun c3 => g_ifT rfl (g_C (h0 c3)))
  refine g_getr 2 17 rfl hS.k16 hm.f_16_2 (by decide) ?_
  refine g_ldu hS.k17 hS.l17 (by omega) (by omega) (fun v ev => ?_)
  have q17 : 0 ≤ m 17 h ∧ m 17 h ≤ 5 := hm.aB_5_1 hb (i := h) (by omega) (by omega)
  refine ⟨hS.k4, ?_⟩
  refine u_X8_roadHours ?_
  refine g_getr 8 5 rfl hS.k4 hm.f_4_8 (by decide) ?_
  refine u_X8_pair ?_
  refine g_C ?_
  refine g_M (by omega) (by omega) ?_
  refine g_A (by omega) (by omega) ?_
  refine g_ldu hS.k5 hS.l5 (by omega) (by omega) (fun v2 ev2 => ?_)
  rw [ev2, show v * 6 + p = 6 * m 17 h + p by omega]
  exact hk c3 q17.1 q17.2
abbrev cGo (m : Mm) (h p : Int) : Prop := (0 ≤ h ∧ h < m 4 4) ∧ (0 ≤ p ∧ p < m 4 0) ∧ m 18 h = 0 ∧ ¬ m 5 (6 * m 17 h + p) = 0
theorem zs_go11 {X : Mm} {S : Sh} {m0 : Mm} {K : Int → Mm → Prop} {h p : Int} (hS : Shp S) (hm : Inv X S m0) (h0 : ¬ cGo m0 h p → K (-1) m0) (hk : ∀ (i : Int) (M1 M2 : Mm), cGo m0 h p → KP m0 M1 i → Inv X S M2 → (∀ c q : Int, ¬ (q = h ∧ (c = 17 ∨ c = 18)) → M2 c q = M1 c q) → M2 17 h = p → M2 18 h = m0 5 (6 * m0 17 h + p) → K (m0 5 (6 * m0 17 h + p)) M2) : wp_X11_go S m0 0 h p K := by
  have b4 := hm.f_4_4
  have b0 := hm.f_4_0
  have hb : isSt 16 := by decide
  refine u_X11_go ?_
  refine ⟨hS.k0, ?_⟩
  refine zs_isHand11 hS hm (fun c1 => g_ifF (by decide) ?_) (fun c1 => g_ifT rfl (g_C (h0 (fun z => c1 z.1))))
  refine ⟨hS.k0, ?_⟩
  refine zs_isPlace11 hS hm (fun c2 => g_ifT (by decide) ?_) (fun c2 => g_ifF (by decide) (g_C (h0 (fun z => c2 z.2.1))))
  refine g_getr 1 3 rfl hS.k0 hm.f_0_1 (by decide) ?_
  refine g_getr 1 16 rfl hS.k3 hm.f_3_1 (by decide) ?_
  refine g_getr 1 3 rfl hS.k0 hm.f_0_1 (by decide) ?_
  refine g_getr 0 4 rfl hS.k3 hm.f_3_0 (by decide) ?_
  refine ⟨hS.k16, ?_⟩
  refine zs_roadFor hS hm (by omega) (by omega) (by omega) (by omega) (fun c3 => g_ifF (by decide) (g_C (h0 (fun z => c3 z.2.2.1)))) (fun c3 q0 q1 => ?_)
  refine g_if (fun c4 => ?_) (fun c4 => g_C (h0 (fun z => c4 z.2.2.2)))
  have br : 0 ≤ m0 5 (6 * m0 17 h + p) ∧ m0 5 (6 * m0 17 h + p) ≤ 5 := hm.a_5 (i := 6 * m0 17 h + p) (by omega) (by omega)
  refine ⟨hS.k0, ?_⟩
  refine zk_keepPast hS hm (fun i m1 hm1 kp => ?_)
  refine g_getr 1 3 rfl hS.k0 hm1.f_0_1 (by decide) ?_
  refine g_getr 1 16 rfl hS.k3 hm1.f_3_1 (by decide) ?_
  refine ⟨hS.k16, ?_⟩
  refine u_X5_setOut ?_
  refine g_getr 2 17 rfl hS.k16 hm1.f_16_2 (by decide) ?_
  refine g_st hS.k17 hS.l17 (by omega) (by omega) (hm1.waB_5_1 hb c1.1 (by omega) (by omega) (by omega)) (fun m2 e2 hm2 => ?_)
  have f2 : ∀ c q : Int, ¬ (c = 17 ∧ q = h) → m2 c q = m1 c q := fun c q z => (congrFun (congrFun e2 _) _).trans (up_ne z)
  have y2 : m2 17 h = p := (congrFun (congrFun e2 _) _).trans (up_at _ _ _ _)
  refine g_getr 3 18 rfl hS.k16 hm2.f_16_3 (by decide) ?_
  refine g_st hS.k18 hS.l18 (by omega) (by omega) (hm2.waB_5_2 hb c1.1 (by omega) (by omega) (by omega)) (fun m3 e3 hm3 => ?_)
  have f3 : ∀ c q : Int, ¬ (c = 18 ∧ q = h) → m3 c q = m2 c q := fun c q z => (congrFun (congrFun e3 _) _).trans (up_ne z)
  have y3 : m3 18 h = m0 5 (6 * m0 17 h + p) := (congrFun (congrFun e3 _) _).trans (up_at _ _ _ _)
  exact hk i m1 m3 ⟨c1, c2, c3, c4⟩ kp hm3 (fun c q z => by rw [f3 c q (by omega), f2 c q (by omega)]) (by rw [f3 17 h (by omega), y2]) y3
/-- the ROADS of a row, as a table -/
def RO (D f : Int → Int) : Prop := ∀ a c : Int, 0 ≤ a → a ≤ 5 → 0 ≤ c → c ≤ 5 → (f (6 * a + c) = 0 ∧ ¬ Rt D a c) ∨ (1 ≤ f (6 * a + c) ∧ Rt D a c ∧ ∀ k : Int, 0 ≤ k → k < D 3 → rMt D a c k → D (57 + 3 * k + 2) = f (6 * a + c))
theorem zs_roadR {X : Mm} {S : Sh} {m : Mm} {K : Int → Mm → Prop} {f : Int → Int} {a b : Int} (hS : Shp S) (hm : Inv X S m) (r : RO (m 346) f) (a0 : 0 ≤ a) (a1 : a ≤ 5) (b0 : 0 ≤ b) (b1 : b ≤ 5) (hk : 0 ≤ f (6 * a + b) → K (f (6 * a + b)) m) : wp_X12_roadOf S m 336 a b K := by
  rcases r a b a0 a1 b0 b1 with ⟨e, n⟩ | ⟨e, n, q⟩
  · rw [e] at hk
    refine zs_roadOf hS hm (fun _ => hk (by omega)) (fun k k0 k1 z => absurd ⟨k, k0, k1, z⟩ n)
  · refine zs_roadOf hS hm (fun z => absurd n z) (fun k k0 k1 z => ?_)
    rw [q k k0 k1 z]
    exact hk (by omega)
abbrev rGo (m : Mm) (f : Int → Int) (h p : Int) : Prop := (0 ≤ h ∧ h < m 346 4) ∧ (0 ≤ p ∧ p < m 346 0) ∧ m 346 (10 + 5 * h + 1) = 0 ∧ 0 < f (6 * m 346 (10 + 5 * h + 0) + p)
theorem zs_canGo {X : Mm} {S : Sh} {m : Mm} {K : Int → Mm → Prop} {f : Int → Int} {h p : Int} (hS : Shp S) (hm : Inv X S m) (r : RO (m 346) f) (i0 : 0 ≤ h) (i1 : h ≤ 4) (p0 : 0 ≤ p) (p1 : p ≤ 5) (h1 : (m 346 (10 + 5 * h + 1) = 0 ∧ 0 < f (6 * m 346 (10 + 5 * h + 0) + p)) → K 1 m) (h0 : ¬ (m 346 (10 + 5 * h + 1) = 0 ∧ 0 < f (6 * m 346 (10 + 5 * h + 0) + p)) → K 0 m) : wp_X12_canGo S m 336 h p K := by
  refine u_X12_canGo ?_
  refine ⟨hS.k336, ?_⟩
  refine zt_atR hS hm i0 i1 (fun c3 => g_ifF (by decide) ?_) (fun c3 => g_ifT rfl (g_C ⟨by decide, h0 (fun z => c3 z.1)⟩))
  refine g_C ?_
  refine ⟨hS.k336, ?_⟩
  refine zt_handOf hS hm i0 i1 (by omega) (by omega) ?_
  have q0 : 0 ≤ m 346 (10 + 5 * h + 0) ∧ m 346 (10 + 5 * h + 0) ≤ 5 := fam_346_10_5_0_4 hm (a := h) (by omega) (by omega) (by omega)
  refine ⟨hS.k336, ?_⟩
  refine zs_roadR hS hm r q0.1 q0.2 p0 p1 (fun _ => ?_)
  exact g_if (fun w => g_C ⟨by decide, h0 (fun z => by omega)⟩) (fun w => g_C ⟨by decide, h1 ⟨c3, by omega⟩⟩)
theorem zs_goes {X : Mm} {S : Sh} {m : Mm} {K : Mm → Prop} {f : Int → Int} {h p : Int} (hS : Shp S) (hm : Inv X S m) (r : RO (m 346) f) (fb : ∀ i : Int, 0 ≤ i → i < 36 → 0 ≤ f i ∧ f i ≤ 5) (i0 : 0 ≤ h) (i1 : h ≤ 4) (p0 : 0 ≤ p) (p1 : p ≤ 5) (pp : p < X 346 0) (hk : ∀ M2 : Mm, Inv X S M2 → (∀ c q : Int, ¬ (c = 346 ∧ (q = 10 + 5 * h + 1 ∨ q = 10 + 5 * h)) → M2 c q = m c q) → M2 346 (10 + 5 * h + 1) = f (6 * m 346 (10 + 5 * h + 0) + p) → M2 346 (10 + 5 * h) = p → K M2) : wp_X12_goes S m 336 h p K := by
  refine u_X12_goes ?_
  refine g_getr 20 346 rfl hS.k336 hm.f_336_20 (by decide) ?_
  refine g_C ?_
  refine g_C ?_
  refine g_M (by omega) (by omega) ?_
  refine g_A (by omega) (by omega) ?_
  refine g_C ?_
  refine g_A (by omega) (by omega) ?_
  refine g_C ?_
  refine ⟨hS.k336, ?_⟩
  refine zt_handOf hS hm i0 i1 (by omega) (by omega) ?_
  have q0 : 0 ≤ m 346 (10 + 5 * h + 0) ∧ m 346 (10 + 5 * h + 0) ≤ 5 := fam_346_10_5_0_4 hm (a := h) (by omega) (by omega) (by omega)
  refine ⟨hS.k336, ?_⟩
  refine zs_roadR hS hm r q0.1 q0.2 p0 p1 (fun _ => ?_)
  have bb := fb (6 * m 346 (10 + 5 * h + 0) + p) (by omega) (by omega)
  refine g_st hS.k346 hS.l346 (by omega) (by omega) (wfm_346_11_5_0_4 hm (a := h) (by omega) (by omega) (by omega) (by omega) (by omega)) (fun m2 e2 hm2 => ?_)
  have f2 : ∀ c q : Int, ¬ (c = 346 ∧ q = 10 + 5 * h + 1) → m2 c q = m c q := fun c q z => (congrFun (congrFun e2 _) _).trans (up_ne z)
  have y2 : m2 346 (10 + 5 * h + 1) = f (6 * m 346 (10 + 5 * h + 0) + p) := (congrFun (congrFun e2 _) _).trans (up_at _ _ _ _)
  refine g_getr 20 346 rfl hS.k336 hm2.f_336_20 (by decide) ?_
  refine g_C ?_
  refine g_C ?_
  refine g_M (by omega) (by omega) ?_
  refine g_A (by omega) (by omega) ?_
  refine g_st hS.k346 hS.l346 (by omega) (by omega) (wfm_346_10_5_0_4 hm2 (a := h) (by omega) (by omega) (by omega) (by omega) (by omega) pp) (fun m3 e3 hm3 => ?_)
  have f3 : ∀ c q : Int, ¬ (c = 346 ∧ q = 10 + 5 * h) → m3 c q = m2 c q := fun c q z => (congrFun (congrFun e3 _) _).trans (up_ne z)
  have y3 : m3 346 (10 + 5 * h) = p := (congrFun (congrFun e3 _) _).trans (up_at _ _ _ _)
  exact hk m3 hm3 (fun c q z => by rw [f3 c q (by omega), f2 c q (by omega)]) (by rw [f3 346 _ (by omega), y2]) y3
theorem RO.same {D D' f : Int → Int} (h : RO D f) (b3 : D 3 ≤ 8) (G : ∀ p : Int, (p = 3 ∨ (57 ≤ p ∧ p < 81)) → D' p = D p) : RO D' f := by
  have g3 := G 3 (by omega)
  have A : ∀ a c k : Int, 0 ≤ k → k < D 3 → (rMt D' a c k ↔ rMt D a c k) := fun a c k k0 k1 => by
    unfold rMt
    rw [G (57 + 3 * k) (by omega), G (57 + 3 * k + 1) (by omega)]
  have B : ∀ a c : Int, Rt D' a c ↔ Rt D a c := fun a c => by
    constructor
    · rintro ⟨k, k0, k1, k2⟩
      rw [g3] at k1
      exact ⟨k, k0, k1, (A a c k k0 k1).1 k2⟩
    · rintro ⟨k, k0, k1, k2⟩
      exact ⟨k, k0, by rw [g3]; exact k1, (A a c k k0 k1).2 k2⟩
  intro a c a0 a1 c0 c1
  rcases h a c a0 a1 c0 c1 with ⟨e, n⟩ | ⟨e, n, q⟩
  · exact Or.inl ⟨e, fun z => n ((B a c).1 z)⟩
  · refine Or.inr ⟨e, (B a c).2 n, fun k k0 k1 z => ?_⟩
    rw [g3] at k1
    rw [G (57 + 3 * k + 2) (by omega)]
    exact q k k0 k1 ((A a c k k0 k1).1 z)
theorem zs_go12 {X : Mm} {S : Sh} {m0 : Mm} {K : Int → Mm → Prop} {f : Int → Int} {h p : Int} (hS : Shp S) (hm : Inv X S m0) (r : RO (m0 346) f) (fb : ∀ i : Int, 0 ≤ i → i < 36 → 0 ≤ f i ∧ f i ≤ 5) (h0 : ¬ rGo m0 f h p → K (-1) m0) (hk : ∀ (u s : Int) (M1 M2 : Mm), rGo m0 f h p → KA m0 M1 u s → Inv X S M2 → (∀ c q : Int, ¬ (c = 346 ∧ (q = 10 + 5 * h + 1 ∨ q = 10 + 5 * h)) → M2 c q = M1 c q) → M2 346 (10 + 5 * h + 1) = f (6 * m0 346 (10 + 5 * h + 0) + p) → M2 346 (10 + 5 * h) = p → K (f (6 * m0 346 (10 + 5 * h + 0) + p)) M2) : wp_X12_go S m0 336 h p K := by
  have b4 := hm.f_346_4
  have b0 := hm.f_346_0
  have b3 := hm.f_346_3
  have x0 : m0 346 0 = X 346 0 := hm.g (by decide)
  refine u_X12_go ?_
  refine ⟨hS.k336, ?_⟩
  refine zs_isHand12 hS hm (fun c1 => g_ifF (by decide) ?_) (fun c1 => g_ifT rfl (g_C (h0 (fun z => c1 z.1))))
  refine ⟨hS.k336, ?_⟩
  refine zs_isPlace12 hS hm (fun c2 => g_ifF (by decide) ?_) (fun c2 => g_ifT rfl (g_C (h0 (fun z => c2 z.2.1))))
  refine ⟨hS.k336, ?_⟩
  refine zs_canGo hS hm r (by omega) (by omega) (by omega) (by omega) (fun c3 => g_ifT (by decide) ?_) (fun c3 => g_ifF (by decide) (g_C (h0 (fun z => c3 z.2.2))))
  refine ⟨hS.k336, ?_⟩
  refine zk_keepsAct hS hm (fun u s m1 hm1 ka => ?_)
  have r1 : RO (m1 346) f := r.same b3.2 (fun q _ => ka.f (by omega) (by omega))
  refine ⟨hS.k336, ?_⟩
  refine zs_goes hS hm1 r1 fb (by omega) (by omega) (by omega) (by omega) (by omega) (fun m2 hm2 f2 y1 y0 => ?_)
  rw [ka.f (by omega) (by omega)] at y1
  refine g_C ?_
  refine ⟨hS.k336, ?_⟩
  refine zt_handOf hS hm2 (by omega) (by omega) (by omega) (by omega) ?_
  rw [y1]
  exact hk u s m1 m2 ⟨c1, c2, c3⟩ ka hm2 f2 y1 y0
/-- the first JUG that meets a WANT -/
abbrev cSu (m : Mm) (w j : Int) : Prop := m 20 j = m 12 w ∧ m 13 w ≤ m 22 j ∧ m 22 j ≤ m 14 w
theorem zs_jugFor {X : Mm} {S : Sh} {m : Mm} {K : Int → Mm → Prop} {w : Int} (hS : Shp S) (hm : Inv X S m) (w0 : 0 ≤ w) (w1 : w ≤ 5) (h0 : (m 23 w = -1 → ∀ j : Int, 0 ≤ j → j < m 4 5 → ¬ cSu m w j) → K (-1) m) (hk : ∀ j : Int, m 23 w = -1 → 0 ≤ j → j < m 4 5 → cSu m w j → (∀ l : Int, 0 ≤ l → l < j → ¬ cSu m w l) → K j m) : wp_X11_jugFor S m 0 w K := by
  have b5 := hm.f_4_5
  refine u_X11_jugFor ?_
  refine g_getr 1 3 rfl hS.k0 hm.f_0_1 (by decide) ?_
  refine g_getr 1 16 rfl hS.k3 hm.f_3_1 (by decide) ?_
  refine g_getr 8 23 rfl hS.k16 hm.f_16_8 (by decide) ?_
  refine g_ldu hS.k23 hS.l23 (by omega) (by omega) (fun v ev => ?_)
  refine g_C ?_
  refine g_if (fun c => ?_) (fun c => g_C (h0 (fun z => absurd (ev.trans z) c)))
  refine g_C ?_
  have L : ∀ (n : Nat) (i : Int), 0 ≤ i → i ≤ m 4 5 → (∀ l : Int, 0 ≤ l → l < i → ¬ cSu m w l) → 5 - i ≤ (n : Int) → wp_X11_jugFor_20 S K n 0 w i m := by
    intro n
    induction n with
    | zero => intro i i0 i1 _ hn; exfalso; omega
    | succ n ih =>
      intro i i0 i1 hi hn
      refine u_X11_jugFor_20 ?_
      refine g_getr 1 3 rfl hS.k0 hm.f_0_1 (by decide) ?_
      refine g_getr 0 4 rfl hS.k3 hm.f_3_0 (by decide) ?_
      refine g_getu 5 rfl hS.k4 (fun v2 ev2 => ?_)
      refine g_if (fun c2 => g_C (h0 (fun _ l l0 l1 => hi l l0 (by omega)))) (fun c2 => ?_)
      have next : ¬ cSu m w i → wp_X11_jugFor_99 S (fun a0 a1 a2 M => wp_X11_jugFor_20 S K n a0 a1 a2 M) K 0 w i m := by
        intro q
        refine u_X11_jugFor_99 ?_
        refine g_A (by omega) (by omega) ?_
        refine ih (i + 1) (by omega) (by omega) (fun l l0 l1 => ?_) (by omega)
        by_cases e : l = i
        · rw [e]; exact q
        · exact hi l l0 (by omega)
      refine g_getr 1 3 rfl hS.k0 hm.f_0_1 (by decide) ?_
      refine g_getr 1 16 rfl hS.k3 hm.f_3_1 (by decide) ?_
      refine g_getr 5 20 rfl hS.k16 hm.f_16_5 (by decide) ?_
      refine g_ldu hS.k20 hS.l20 (by omega) (by omega) (fun v3 ev3 => ?_)
      refine g_getr 1 3 rfl hS.k0 hm.f_0_1 (by decide) ?_
      refine g_getr 0 4 rfl hS.k3 hm.f_3_0 (by decide) ?_
      refine g_getr 15 12 rfl hS.k4 hm.f_4_15 (by decide) ?_
      refine g_ldu hS.k12 hS.l12 (by omega) (by omega) (fun v4 ev4 => ?_)
      refine g_if (fun c3 => g_C ?_) (fun c3 => g_C ?_)
      · refine u_X11_jugFor_66 ?_
        exact g_ifT rfl (next (fun z => c3 (by rw [ev3, ev4]; exact z.1)))
      · refine u_X11_jugFor_66 ?_
        refine g_ifF (by decide) ?_
        refine g_getr 1 3 rfl hS.k0 hm.f_0_1 (by decide) ?_
        refine g_getr 0 4 rfl hS.k3 hm.f_3_0 (by decide) ?_
        refine g_getr 1 3 rfl hS.k0 hm.f_0_1 (by decide) ?_
        refine g_getr 1 16 rfl hS.k3 hm.f_3_1 (by decide) ?_
        refine g_getr 7 22 rfl hS.k16 hm.f_16_7 (by decide) ?_
        refine g_ldu hS.k22 hS.l22 (by omega) (by omega) (fun v5 ev5 => ?_)
        refine ⟨hS.k4, ?_⟩
        refine u_X8_suits ?_
        refine g_getr 16 13 rfl hS.k4 hm.f_4_16 (by decide) ?_
        refine g_ldu hS.k13 hS.l13 (by omega) (by omega) (fun v6 ev6 => ?_)
        refine g_if (fun c4 => g_C ⟨by decide, g_ifT rfl (next (fun z => by have := z.2.1; omega))⟩) (fun c4 => ?_)
        refine g_getr 17 14 rfl hS.k4 hm.f_4_17 (by decide) ?_
        refine g_ldu hS.k14 hS.l14 (by omega) (by omega) (fun v7 ev7 => ?_)
        refine g_if (fun c5 => g_C ⟨by decide, g_ifT rfl (next (fun z => by have := z.2.2; omega))⟩) (fun c5 => ?_)
        exact g_C ⟨by decide, g_ifF (by decide) (hk i (ev.symm.trans c) i0 (by omega) ⟨by omega, by omega, by omega⟩ hi)⟩
  exact ⟨5, L 5 0 (by omega) (by omega) (fun l l0 l1 => absurd l1 (by omega)) (by omega)⟩
abbrev rSu (m : Mm) (w j : Int) : Prop := StR m j ∧ m 346 (35 + 4 * j + 0) = m 346 (93 + 4 * w + 0) ∧ m 346 (93 + 4 * w + 1) ≤ m 346 (35 + 4 * j + 2) ∧ m 346 (35 + 4 * j + 2) ≤ m 346 (93 + 4 * w + 2)
theorem zs_firstFor {X : Mm} {S : Sh} {m : Mm} {K : Int → Mm → Prop} {w : Int} (hS : Shp S) (hm : Inv X S m) (w0 : 0 ≤ w) (w1 : w ≤ 5) (h0 : (m 346 (51 + w) < 0 → ∀ j : Int, 0 ≤ j → j < m 346 5 → ¬ rSu m w j) → K (-1) m) (hk : ∀ j : Int, m 346 (51 + w) < 0 → 0 ≤ j → j < m 346 5 → rSu m w j → (∀ l : Int, 0 ≤ l → l < j → ¬ rSu m w l) → K j m) : wp_X12_firstFor S m 336 w K := by
  have b5 := hm.f_346_5
  refine u_X12_firstFor ?_
  refine g_getr 20 346 rfl hS.k336 hm.f_336_20 (by decide) ?_
  refine g_C ?_
  refine g_A (by omega) (by omega) ?_
  refine g_ldu hS.k346 hS.l346 (by omega) (by omega) (fun v ev => ?_)
  refine g_if (fun c => ?_) (fun c => g_C (h0 (fun z => absurd z (by omega))))
  refine g_C ?_
  have L : ∀ (n : Nat) (i : Int), 0 ≤ i → i ≤ m 346 5 → (∀ l : Int, 0 ≤ l → l < i → ¬ rSu m w l) → 5 - i ≤ (n : Int) → wp_X12_firstFor_16 S K n 336 w i m := by
    intro n
    induction n with
    | zero => intro i i0 i1 _ hn; exfalso; omega
    | succ n ih =>
      intro i i0 i1 hi hn
      refine u_X12_firstFor_16 ?_
      refine g_getr 20 346 rfl hS.k336 hm.f_336_20 (by decide) ?_
      refine g_C ?_
      refine g_ldu hS.k346 hS.l346 (by omega) (by omega) (fun v2 ev2 => ?_)
      refine g_if (fun c2 => g_C (h0 (fun _ l l0 l1 => hi l l0 (by omega)))) (fun c2 => ?_)
      have next : ¬ rSu m w i → wp_X12_firstFor_78 S (fun a0 a1 a2 M => wp_X12_firstFor_16 S K n a0 a1 a2 M) K 336 w i m := by
        intro q
        refine u_X12_firstFor_78 ?_
        refine g_A (by omega) (by omega) ?_
        refine ih (i + 1) (by omega) (by omega) (fun l l0 l1 => ?_) (by omega)
        by_cases e : l = i
        · rw [e]; exact q
        · exact hi l l0 (by omega)
      refine ⟨hS.k336, ?_⟩
      refine zt_stands hS hm i0 (by omega) (fun c3 => g_ifF (by decide) ?_) (fun c3 => g_ifT rfl (next (fun z => c3 z.1)))
      refine g_C ?_
      refine ⟨hS.k336, ?_⟩
      refine zt_jugOf hS hm i0 (by omega) (by omega) (by omega) ?_
      refine g_C ?_
      refine ⟨hS.k336, ?_⟩
      refine zt_wantOf hS hm w0 w1 (by omega) (by omega) ?_
      refine g_if (fun c4 => next (fun z => c4 z.2.1)) (fun c4 => ?_)
      refine g_C ?_
      refine ⟨hS.k336, ?_⟩
      refine zt_jugOf hS hm i0 (by omega) (by omega) (by omega) ?_
      refine g_C ?_
      refine g_C ?_
      refine ⟨hS.k336, ?_⟩
      refine zt_wantOf hS hm w0 w1 (by omega) (by omega) ?_
      refine g_C ?_
      refine g_C ?_
      refine ⟨hS.k336, ?_⟩
      refine zt_wantOf hS hm w0 w1 (by omega) (by omega) ?_
      refine g_C ?_
      refine z_in (fun a b => ?_) (fun c5 => g_ifT rfl (next (fun z => c5 ⟨z.2.2.1, z.2.2.2⟩)))
      refine g_ifF (by decide) (hk i (by omega) i0 (by omega) ⟨c3, by omega, a, b⟩ hi)
  exact ⟨5, L 5 0 (by omega) (by omega) (fun l l0 l1 => absurd l1 (by omega)) (by omega)⟩
