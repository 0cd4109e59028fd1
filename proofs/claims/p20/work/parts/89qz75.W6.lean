/-! RELAY of both sides -/
theorem s_fillx2 {X : Mm} {S : Sh} {M : Mm} {c v a b : Int} {n : Nat} {K : Mm → Prop} (hm : Inv X S M) (hk : isK S c 14) (hl : S.2.2 c = n) (hn : n ≤ 6000) (h0 : 0 ≤ a) (hab : a ≤ b) (hb : b ≤ n) (hw : ∀ (M : Mm) (i : Int), Inv X S M → 0 ≤ i → i < n → Inv X S (up M c i v)) (H : ∀ M' : Mm, Inv X S M' → (∀ c' p : Int, ¬ c' = c → M' c' p = M c' p) → (∀ p : Int, a ≤ p → p < b → M' c p = v) → K M') : wp_J7_fill_fda19 S M c a b v K := by
  have key : ∀ (k : Nat) (i : Int) (M1 : Mm), Inv X S M1 → a ≤ i → i ≤ b → (∀ c' p : Int, ¬ c' = c → M1 c' p = M c' p) → (∀ p : Int, a ≤ p → p < i → M1 c p = v) → b + 1 - i ≤ k → wp_J7_fill_fda19_10 S K k c b v i M1 := by
    intro k
    induction k with
    | zero => intro i M1 _ _ _ _ _ h4; exfalso; omega
    | succ k ih =>
      intro i M1 h1 h2 h3 hf hv h4
      refine g_if (fun q => H M1 h1 hf (fun p p0 p1 => hv p p0 (by omega))) (fun q => ?_)
      refine g_st hk hl (by omega) (by omega) (hw M1 i h1 (by omega) (by omega)) (fun M2 e2 h5 => ?_)
      refine g_A (by omega) (by omega) ?_
      refine ih (i + 1) M2 h5 (by omega) (by omega) (fun c' p q => ?_) (fun p p0 p1 => ?_) (by omega)
      · rw [e2, up_ne (fun z => q z.1)]
        exact hf c' p q
      · rw [e2]
        by_cases e : p = i
        · rw [e]; exact up_at _ _ _ _
        · rw [up_ne (fun z => e z.2)]
          exact hv p p0 (by omega)
  refine g_len (n : Int) hk hl ⟨rfl, by omega⟩ ?_
  refine g_ifT hab (g_ifT h0 (g_ifT hb ?_))
  exact ⟨(b + 1 - a).toNat, key _ a M hm (Int.le_refl a) hab (fun _ _ _ => rfl) (fun p p0 p1 => absurd p1 (by omega)) (by omega)⟩
theorem zq_solve {X : Mm} {S : Sh} {m : Mm} {K : Mm → Prop} {o : Option (List Cz)} {D : Int → Int} {H n : Nat} {lh lb : Nat → Int} {j lo hi s : Int} (hS : Shp S) (hm : Inv X S m) (cc : RvC D H n lh lb j) (rc : RC S m o) (tl : TL 4 D m) (ic : m 55 2 = 0) (e6 : m 58 6 = (n : Int)) (e7 : m 58 7 = j) (el : ∀ i : Nat, i < n → m 59 i = lh i ∧ m 60 i = lb i) (s0 : 0 ≤ s) (s9 : s ≤ 999) (l0 : 0 ≤ lo) (l9 : lo ≤ 999) (h0 : 0 ≤ hi) (h9 : hi ≤ 999) (hk : ∀ M1 : Mm, Inv X S M1 → (∀ c p : Int, ¬ c = 56 → ¬ (c = 55 ∧ 4 ≤ p) → ¬ c = 61 → ¬ c = 62 → ¬ (c = 58 ∧ 8 ≤ p) → M1 c p = m c p) → RvE S o D n lh lb j lo hi M1 → VS o D H n lh lb j lo hi M1 → M1 58 8 = s → ¬ M1 61 s = -1 → K M1) : wp_X2_solve S m 58 s lo hi K := by
  have n5 := cc.2.2.2.2.1
  refine u_X2_solve ?_
  refine g_put 8 rfl hS.k58 (hm.w_58_8 s0 s9) (fun m1 e1 hm1 => ?_)
  have f1 : ∀ c p : Int, ¬ (c = 58 ∧ p = 8) → m1 c p = m c p := fun c p q => (congrFun (congrFun e1 _) _).trans (up_ne q)
  have x1 : m1 58 8 = s := (congrFun (congrFun e1 _) _).trans (up_at _ _ _ _)
  refine g_put 9 rfl hS.k58 (hm1.w_58_9 (by omega) (by omega)) (fun m2 e2 hm2 => ?_)
  have f2 : ∀ c p : Int, ¬ (c = 58 ∧ p = 9) → m2 c p = m1 c p := fun c p q => (congrFun (congrFun e2 _) _).trans (up_ne q)
  have x2 : m2 58 9 = lo := (congrFun (congrFun e2 _) _).trans (up_at _ _ _ _)
  refine g_put 10 rfl hS.k58 (hm2.w_58_10 (by omega) (by omega)) (fun m3 e3 hm3 => ?_)
  have f3 : ∀ c p : Int, ¬ (c = 58 ∧ p = 10) → m3 c p = m2 c p := fun c p q => (congrFun (congrFun e3 _) _).trans (up_ne q)
  have x3 : m3 58 10 = hi := (congrFun (congrFun e3 _) _).trans (up_at _ _ _ _)
  refine g_getr 4 61 rfl hS.k58 hm3.f_58_4 (by decide) ?_
  refine g_C ?_
  refine g_getu 6 rfl hS.k58 (fun v ev => ?_)
  rw [f3 58 6 (by decide), f2 58 6 (by decide), f1 58 6 (by decide), e6] at ev
  refine g_C ?_
  refine g_A (by omega) (by omega) ?_
  refine g_C ?_
  refine g_M (by omega) (by omega) ?_
  refine g_C ?_
  refine s_fillx2 hm3 hS.k61 hS.l61 (by decide) (by decide) (by omega) (by omega) (fun M i h0 h1 h2 => h0.wa_61 h1 h2 (by omega) (by omega)) (fun m4 hm4 f4 z4 => ?_)
  have F : ∀ c p : Int, ¬ c = 61 → ¬ (c = 58 ∧ 8 ≤ p) → m4 c p = m c p := fun c p a1 a2 => by rw [f4 c p a1, f3 c p (by omega), f2 c p (by omega), f1 c p (by omega)]
  have E : RvE S o D n lh lb j lo hi m4 := by
    refine ⟨rc.keep (fun c p q => F c p (by omega) (by omega)), tl.move cc.1 cc.2.1 (fun p _ _ => F _ p (by omega) (by omega)) (fun c p q => F _ p (by unfold inT at q; omega) (by unfold inT at q; omega)) (fun p _ => rfl), ?_, ?_, ?_, ?_, ?_, fun i hi => ?_⟩
    · rw [F 55 2 (by decide) (by decide)]; exact ic
    · rw [F 58 6 (by decide) (by decide)]; exact e6
    · rw [F 58 7 (by decide) (by decide)]; exact e7
    · rw [f4 58 9 (by decide), f3 58 9 (by decide)]; exact x2
    · rw [f4 58 10 (by decide)]; exact x3
    · rw [F 59 i (by decide) (by omega), F 60 i (by decide) (by omega)]
      exact el i hi
  have v4 : VS o D H n lh lb j lo hi m4 := fun k s kn s0 s9 => Or.inl (z4 _ (by omega) (by omega))
  have y8 : m4 58 8 = s := by rw [f4 58 8 (by decide), f3 58 8 (by decide), f2 58 8 (by decide)]; exact x1
  refine g_C ?_
  refine ⟨hS.k58, ?_⟩
  refine zq_visit5 hS hm4 cc E v4 (Nat.zero_le n) s0 s9 (fun m5 hm5 f5 v5 _ nn => ?_)
  refine hk m5 hm5 (fun c p a1 a2 a3 a4 a5 => by rw [f5 c p a1 a2 a3 a4, F c p a3 a5]) (E.keep cc.1 cc.2.1 f5) v5 (by rw [f5 58 8 (by decide) (by decide) (by decide) (by decide)]; exact y8) ?_
  rw [show (0 : Int) * 1000 + s = s by omega] at nn
  exact nn
theorem zs_turned {S : Sh} {m : Mm} {K : Int → Mm → Prop} {v : Int} (h1 : 0 ≤ v ∧ v ≤ 999 → K 1 m) (h0 : ¬ (0 ≤ v ∧ v ≤ 999) → K 0 m) : wp_X11_isTurned S m v K := by
  refine u_X11_isTurned ?_
  refine g_if (fun q => g_C ⟨by decide, h0 (by omega)⟩) (fun q => ?_)
  refine g_C ?_
  exact g_if (fun q2 => g_C ⟨by decide, h0 (by omega)⟩) (fun q2 => g_C ⟨by decide, h1 (by omega)⟩)
abbrev gRl (m : Mm) (j c lo hi w : Int) : Prop := ((0 ≤ j ∧ j < m 346 5) ∧ StR m j) ∧ (0 ≤ c ∧ c < m 346 0) ∧ (0 ≤ lo ∧ lo ≤ 999) ∧ (lo ≤ hi ∧ hi ≤ 999) ∧ (0 ≤ w ∧ w ≤ 6)
theorem zz_relay {S : Sh} {m0 : Mm} {K : Int → Int → Mm → Prop} {K1 : Int → Mm → Prop} {nn j c lo hi w : Int} (hS : Shp S) (hz : RZ S m0 nn) (hn : nn ≤ 700) (hK : ∀ (r : Int) (M : Mm), wp_X12_relay S M 336 j c lo hi w (fun r2 M2 => K r r2 M2) → K1 r M) (hk : ∀ (r : Int) (M1 : Mm), RZ S M1 nn → K r r M1) : wp_X11_relay S m0 0 j c lo hi w K1 := by
  have hm := hz.inv
  have ct := hz.ct
  have db := hz.db
  have wk := hz.wk
  have p6 := wk.1
  obtain ⟨o, rc, rr⟩ := hz.rule
  have i0 := hz.2.2.2.2.2.2.2.2
  have h16 : m0 16 0 ≤ nn := hz.2.2.2.1.1
  have b16 := hm.f_16_0
  have e7 : m0 16 0 = m0 346 7 := hz.sr.1.1
  obtain ⟨P, eP⟩ : ∃ P : Int, P = m0 4 0 := ⟨_, rfl⟩
  have e0 : m0 346 0 = P := by rw [eP]; exact ct.1.symm
  rw [← eP] at wk p6
  have no : ¬ gRl m0 j c lo hi w → wp_X12_relay S m0 336 j c lo hi w (fun r2 M2 => K (-3) r2 M2) := by
    intro q
    refine u_X12_relay ?_
    refine ⟨hS.k336, ?_⟩
    refine zs_isJug12 hS hm (fun c2 => g_ifF (by decide) ?_) (fun c2 => g_ifT rfl (g_C (hk _ m0 hz)))
    refine ⟨hS.k336, ?_⟩
    refine zt_stands hS hm c2.1 (by omega) (fun c3 => g_ifF (by decide) ?_) (fun c3 => g_ifT rfl (g_C (hk _ m0 hz)))
    refine ⟨hS.k336, ?_⟩
    refine zs_isPlace12 hS hm (fun c4 => g_ifF (by decide) ?_) (fun c4 => g_ifT rfl (g_C (hk _ m0 hz)))
    refine g_C ?_
    refine g_C ?_
    refine g_C ?_
    refine zs_in (fun c5 => g_ifF (by decide) ?_) (fun c5 => g_ifT rfl (g_C (hk _ m0 hz)))
    refine g_C ?_
    refine g_C ?_
    refine g_C ?_
    refine zs_in (fun c6 => g_ifF (by decide) ?_) (fun c6 => g_ifT rfl (g_C (hk _ m0 hz)))
    refine g_C ?_
    refine g_C ?_
    refine g_C ?_
    exact zs_in (fun c7 => absurd ⟨⟨c2, c3⟩, c4, c5, c6, c7⟩ q) (fun c7 => g_ifF (by decide) (g_C (hk _ m0 hz)))
  refine u_X11_relay ?_
  refine ⟨hS.k0, ?_⟩
  refine zq_stand11 hS hz (fun c2 c3 => g_ifF (by decide) ?_) (fun c2 => g_ifT rfl (g_C (hK _ _ (no (fun q => c2 q.1)))))
  refine ⟨hS.k0, ?_⟩
  refine zs_isPlace11 hS hm (fun c4 => g_ifF (by decide) ?_) (fun c4 => g_ifT rfl (g_C (hK _ _ (no (fun q => c4 (by rw [← eP, ← e0]; exact q.2.1))))))
  rw [← eP] at c4
  refine g_if (fun q => g_C (hK _ _ (no (fun y => by have := y.2.2.2.2; omega)))) (fun q => ?_)
  refine g_C ?_
  refine g_if (fun q2 => ?_) (fun q2 => g_C (hK _ _ (no (fun y => by have := y.2.2.2.2; omega))))
  refine zs_turned (fun c5 => g_ifF (by decide) ?_) (fun c5 => g_ifT rfl (g_C (hK _ _ (no (fun y => c5 y.2.2.1)))))
  refine zs_turned (fun c6 => g_ifF (by decide) ?_) (fun c6 => g_ifT rfl (g_C (hK _ _ (no (fun y => c6 (by have a1 := y.2.2.1; have a2 := y.2.2.2.1; omega))))))
  refine g_if (fun q3 => ?_) (fun q3 => g_C (hK _ _ (no (fun y => q3 y.2.2.2.1.1))))
  have zj := hz.jg c2.1 c2.2
  have st : m0 20 j = m0 346 (35 + 4 * j) ∧ 0 ≤ m0 346 (35 + 4 * j) := by
    unfold StR at c3
    omega
  have pl : m0 346 (35 + 4 * j) < P := by
    rw [← e0]
    exact (hz.1.1.2.2.2.2).1.2 j c2.1 c2.2
  obtain ⟨a, ea⟩ : ∃ a : Int, a = m0 346 (35 + 4 * j) := ⟨_, rfl⟩
  rw [← ea] at st pl
  have b22 := hm.a_22 (i := j) c2.1 (by omega)
  obtain ⟨s, es⟩ : ∃ s : Int, s = m0 22 j := ⟨_, rfl⟩
  rw [← es] at b22
  have tx : m0 346 (35 + 4 * j + 2) = s := by rw [es]; exact zj.2.1.symm
  obtain ⟨H, eH⟩ : ∃ H : Nat, (H : Int) = m0 346 4 := ⟨(m0 346 4).toNat, by omega⟩
  -- without a WAY, or with a WAY and no HANDS
  have nw : (¬ m0 6 (6 * a + c) < 1000 ∨ (¬ a = c ∧ H = 0)) → wp_X12_relay S m0 336 j c lo hi w (fun r2 M2 => K (-2) r2 M2) := by
    intro bad
    refine u_X12_relay ?_
    refine ⟨hS.k336, ?_⟩
    refine zs_isJug12 hS hm (fun _ => g_ifF (by decide) ?_) (fun y => absurd c2 y)
    refine ⟨hS.k336, ?_⟩
    refine zt_stands hS hm c2.1 (by omega) (fun _ => g_ifF (by decide) ?_) (fun y => absurd c3 y)
    refine ⟨hS.k336, ?_⟩
    refine zs_isPlace12 hS hm (fun _ => g_ifF (by decide) ?_) (fun y => absurd (by rw [e0]; exact c4) y)
    refine g_C ?_
    refine g_C ?_
    refine g_C ?_
    refine zs_in (fun _ => g_ifF (by decide) ?_) (fun y => absurd c5 y)
    refine g_C ?_
    refine g_C ?_
    refine g_C ?_
    refine zs_in (fun _ => g_ifF (by decide) ?_) (fun y => absurd (by omega) y)
    refine g_C ?_
    refine g_C ?_
    refine g_C ?_
    refine zs_in (fun _ => g_ifT (by decide) ?_) (fun y => absurd (by omega) y)
    refine ⟨hS.k336, ?_⟩
    refine zq_fillsHours (f := m0 5) (g := m0 6) hS hm hz.ro e0 wk hz.fb c4.1 c4.2 (fun m1 hm1 f1 T => ?_)
    have z1 : RZ S m1 nn := hz.keep (hz.1.of hm1) (fun c p q => f1 c p (by unfold KZ at q; omega))
    have e461 : m1 346 = m0 346 := funext (fun p => f1 346 p (by omega))
    have ta := T a st.2 pl
    refine g_getr 27 349 rfl hS.k336 hm1.f_336_27 (by decide) ?_
    refine g_C ?_
    refine ⟨hS.k336, ?_⟩
    refine zt_jugOf hS hm1 c2.1 (by omega) (by decide) (by decide) ?_
    rw [e461, Int.add_zero, ← ea]
    refine g_ldu hS.k349 hS.l349 st.2 (by omega) (fun v ev => ?_)
    rw [ta] at ev
    refine g_C ?_
    by_cases q4 : m0 6 (6 * a + c) < 1000
    · obtain ⟨ac, h00⟩ := bad.resolve_left (fun y => y q4)
      have d25 := wk.d25 hz.fb st.2 pl c4.1 c4.2 q4
      rw [if_pos q4] at ev
      refine g_ifT (by omega) ?_
      refine g_C ?_
      refine ⟨hS.k336, ?_⟩
      refine zt_jugOf hS hm1 c2.1 (by omega) (by decide) (by decide) ?_
      rw [e461, Int.add_zero, ← ea]
      obtain ⟨n, n5, lg⟩ := legs_at wk hz.fb c4.1 c4.2 5 a st.2 pl (ctL_5 (h := fun x => m0 6 (6 * x + c)) st.2 (by omega)) q4
      have n0 : 0 < n := by
        rcases n with _ | n
        · exact absurd lg.1 ac
        · exact Nat.succ_pos n
      refine ⟨hS.k336, ?_⟩
      refine zq_fillsRoads (f := m0 5) (g := m0 6) hS hm1 (by rw [e461]; exact hz.ro) (by rw [e461]; exact e0) wk hz.fb c4.1 c4.2 lg n5 T (fun m2 hm2 f2 y29 y50 => ?_)
      have z2 : RZ S m2 nn := hz.keep (hz.1.of hm2) (fun c p q => (f2 c p (by unfold KZ at q; omega) (by unfold KZ at q; omega)).trans (f1 c p (by unfold KZ at q; omega)))
      refine g_getu 29 rfl hS.k336 (fun v2 ev2 => ?_)
      rw [y29] at ev2
      refine g_ifF (by omega) ?_
      refine g_getr 20 346 rfl hS.k336 hm2.f_336_20 (by decide) ?_
      refine g_C ?_
      refine g_ldu hS.k346 hS.l346 (by decide) (by decide) (fun v3 ev3 => ?_)
      rw [f2 346 4 (by omega) (by omega), e461, ← eH] at ev3
      refine g_ifF (by omega) (g_C ?_)
      exact hk _ m2 z2
    · rw [if_neg q4] at ev
      refine g_ifF (by omega) (g_C ?_)
      exact hk _ m1 z1
  refine g_getr 1 3 rfl hS.k0 hm.f_0_1 (by decide) ?_
  refine g_getr 1 16 rfl hS.k3 hm.f_3_1 (by decide) ?_
  refine g_getr 5 20 rfl hS.k16 hm.f_16_5 (by decide) ?_
  refine g_ldu hS.k20 hS.l20 c2.1 (by omega) (fun v ev => ?_)
  rw [st.1] at ev
  rw [ev]
  refine g_getr 1 3 rfl hS.k0 hm.f_0_1 (by decide) ?_
  refine g_getr 0 4 rfl hS.k3 hm.f_3_0 (by decide) ?_
  refine ⟨hS.k4, ?_⟩
  refine zq_has11 hS hm st.2 (by omega) c4.1 (by omega) (fun q4 => g_ifF (by decide) ?_) (fun q4 => g_ifT rfl (g_C (hK _ _ (nw (Or.inl q4)))))
  obtain ⟨n, n5, lg⟩ := legs_at wk hz.fb c4.1 c4.2 5 a st.2 pl (ctL_5 (h := fun x => m0 6 (6 * x + c)) st.2 (by omega)) q4
  have nac : a = c → n = 0 := fun e => by
    rcases n with _ | n
    · rfl
    · exact absurd e (lg.2 0 (Nat.succ_pos n)).1
  obtain ⟨lh, elh⟩ : ∃ lh : Nat → Int, lh = lhF (m0 5) (m0 6) P c a := ⟨_, rfl⟩
  obtain ⟨lb, elb⟩ : ∃ lb : Nat → Int, lb = lbF (m0 5) (m0 6) P c a (m0 346 7) := ⟨_, rfl⟩
  have cc : RvC (m0 346) H n lh lb j := by
    refine ⟨hz.rd.1.1, hz.rd.1.2, fun h h0 h4 => HB.of hm h0 h4, eH, n5, ⟨c2.1, by omega⟩, fun i hi => ?_⟩
    have q5 := (lg.2 i hi).2.2.2.2.1
    have q6 := lb_b (t := m0 346 7) lg i (by omega)
    rw [elh, elb]
    omega
  have hH : H ≤ 5 := by omega
  -- with a WAY
  have hw : (0 < n → 0 < H) → wp_X11_relay_107 S K1 0 j c lo hi w a m0 := by
    intro h0
    have go : ∀ (r : Int) (M : Mm), RZ S M nn → (∀ c p : Int, ¬ (55 ≤ c ∧ c ≤ 62) → M c p = m0 c p) → ((w = 0 → r = rwF H (crR o (m0 346) j lh lb n) (okR lo hi) n s) ∧ (w = 1 → r = leF H (crR o (m0 346) j lh lb n) n s) ∧ (2 ≤ w → (rwF H (crR o (m0 346) j lh lb n) (okR lo hi) n s = 0 ∨ (n : Int) ≤ w - 2) → r = -2) ∧ (∀ i r' : Nat, 0 < rwF H (crR o (m0 346) j lh lb n) (okR lo hi) n s → w - 2 = (i : Int) → n = i + 1 + r' → r = ((fhF H (crR o (m0 346) j lh lb n) (okR lo hi) r' (tpF H (crR o (m0 346) j lh lb n) (okR lo hi) n s i) : Nat) : Int))) → wp_X12_relay S M 336 j c lo hi w (fun r2 M2 => K r r2 M2) := by
      intro r M zM F hr
      have hM := zM.inv
      have e46 : M 346 = m0 346 := funext (fun p => F 346 p (by omega))
      refine u_X12_relay ?_
      refine ⟨hS.k336, ?_⟩
      refine zs_isJug12 hS hM (fun _ => g_ifF (by decide) ?_) (fun y => absurd (by rw [e46]; exact c2) y)
      refine ⟨hS.k336, ?_⟩
      refine zt_stands hS hM c2.1 (by omega) (fun _ => g_ifF (by decide) ?_) (fun y => absurd ((StR.same e46).2 c3) y)
      refine ⟨hS.k336, ?_⟩
      refine zs_isPlace12 hS hM (fun _ => g_ifF (by decide) ?_) (fun y => absurd (by rw [e46, e0]; exact c4) y)
      refine g_C ?_
      refine g_C ?_
      refine g_C ?_
      refine zs_in (fun _ => g_ifF (by decide) ?_) (fun y => absurd c5 y)
      refine g_C ?_
      refine g_C ?_
      refine g_C ?_
      refine zs_in (fun _ => g_ifF (by decide) ?_) (fun y => absurd (by omega) y)
      refine g_C ?_
      refine g_C ?_
      refine g_C ?_
      refine zs_in (fun _ => g_ifT (by decide) ?_) (fun y => absurd (by omega) y)
      refine ⟨hS.k336, ?_⟩
      refine zq_fillsHours (f := m0 5) (g := m0 6) hS hM (by rw [e46]; exact hz.ro) (by rw [e46]; exact e0) wk hz.fb c4.1 c4.2 (fun m1 hm1 f1 T => ?_)
      have e461 : m1 346 = m0 346 := (funext (fun p => f1 346 p (by omega))).trans e46
      have ta := T a st.2 pl
      refine g_getr 27 349 rfl hS.k336 hm1.f_336_27 (by decide) ?_
      refine g_C ?_
      refine ⟨hS.k336, ?_⟩
      refine zt_jugOf hS hm1 c2.1 (by omega) (by decide) (by decide) ?_
      rw [e461, Int.add_zero, ← ea]
      refine g_ldu hS.k349 hS.l349 st.2 (by omega) (fun v ev => ?_)
      have d25 := wk.d25 hz.fb st.2 pl c4.1 c4.2 q4
      rw [ta, if_pos q4] at ev
      refine g_C ?_
      refine g_ifT (by omega) ?_
      refine g_C ?_
      refine ⟨hS.k336, ?_⟩
      refine zt_jugOf hS hm1 c2.1 (by omega) (by decide) (by decide) ?_
      rw [e461, Int.add_zero, ← ea]
      refine ⟨hS.k336, ?_⟩
      refine zq_fillsRoads (f := m0 5) (g := m0 6) hS hm1 (by rw [e461]; exact hz.ro) (by rw [e461]; exact e0) wk hz.fb c4.1 c4.2 lg n5 T (fun m2 hm2 f2 y29 y50 => ?_)
      have F2 : ∀ c p : Int, ¬ (55 ≤ c ∧ c ≤ 62) → ¬ c = 349 → ¬ c = 350 → ¬ (c = 336 ∧ p = 29) → m2 c p = m0 c p := fun c p a1 a2 a3 a4 => by rw [f2 c p a3 a4, f1 c p a2, F c p a1]
      have e462 : m2 346 = m0 346 := funext (fun p => F2 346 p (by omega) (by omega) (by omega) (by omega))
      have KZ2 : ∀ (M1 : Mm), Inv (sf M) S M1 → rF m2 M1 → RZ S M1 nn := fun M1 h1 r1 => zM.keep (zM.1.of h1) (fun c p q => ((r1 c p (by unfold KZ at q; omega) (by unfold KZ at q; omega) (by unfold KZ at q; omega)).trans (f2 c p (by unfold KZ at q; omega) (by unfold KZ at q; omega))).trans (f1 c p (by unfold KZ at q; omega)))
      have lp : wp_X12_relay_120 S (fun r2 M2 => K r r2 M2) 336 j lo hi w m2 := by
        refine zq_relay12 (o := o) (D := m0 346) (H := H) (n := n) (lh := lh) (lb := lb) (s := s) hS hm2 (rr.keep (fun c p z => F2 c p (by omega) (by omega) (by omega) (by omega))) (by rw [F2 336 23 (by omega) (by omega) (by omega) (by omega)]; exact i0.2) e462 cc h0 y29 (by rw [elh]; exact y50) (by rw [elb, elh]; exact ⟨rfl, fun _ => rfl⟩) tx b22.1 b22.2 (by omega) (by omega) (fun M1 h1 r1 x => ?_) (fun M1 h1 r1 x => ?_) (fun M1 h1 r1 x y => ?_) (fun i r' M1 h1 r1 x y z => ?_)
        · rw [← hr.1 x]; exact hk r M1 (KZ2 M1 h1 r1)
        · rw [← hr.2.1 x]; exact hk r M1 (KZ2 M1 h1 r1)
        · rw [← hr.2.2.1 x y]; exact hk r M1 (KZ2 M1 h1 r1)
        · rw [← hr.2.2.2 i r' x y z]; exact hk r M1 (KZ2 M1 h1 r1)
      refine g_getu 29 rfl hS.k336 (fun v2 ev2 => ?_)
      rw [y29] at ev2
      refine g_if (fun _ => lp) (fun z => ?_)
      refine g_getr 20 346 rfl hS.k336 hm2.f_336_20 (by decide) ?_
      refine g_C ?_
      refine g_ldu hS.k346 hS.l346 (by decide) (by decide) (fun v3 ev3 => ?_)
      rw [e462, ← eH] at ev3
      exact g_ifT (by have := h0 (by omega); omega) lp
    refine u_X11_relay_107 ?_
    refine g_getr 12 58 rfl hS.k0 hm.f_0_12 (by decide) ?_
    refine g_getr 1 3 rfl hS.k0 hm.f_0_1 (by decide) ?_
    refine g_getr 1 16 rfl hS.k3 hm.f_3_1 (by decide) ?_
    refine g_getu 0 rfl hS.k16 (fun t et => ?_)
    rw [e7] at et
    rw [et]
    refine ⟨hS.k58, ?_⟩
    refine zq_setOut11 (P := P) hS hm eP.symm p6 c4.1 c4.2 lg n5 st.2 pl c2.1 (by omega) (by omega) (by omega) (fun m1 hm1 f1 y6 y7 y59 => ?_)
    refine g_getr 12 58 rfl hS.k0 hm1.f_0_12 (by decide) ?_
    refine g_getr 1 3 rfl hS.k0 hm1.f_0_1 (by decide) ?_
    refine g_getr 1 16 rfl hS.k3 hm1.f_3_1 (by decide) ?_
    refine g_getr 7 22 rfl hS.k16 hm1.f_16_7 (by decide) ?_
    refine g_ldu hS.k22 hS.l22 c2.1 (by omega) (fun v2 ev2 => ?_)
    rw [f1 22 j (by omega) (by omega) (by omega), ← es] at ev2
    rw [ev2]
    refine ⟨hS.k58, ?_⟩
    refine zq_solve (o := o) (D := m0 346) (H := H) (n := n) (lh := lh) (lb := lb) hS hm1 cc (rc.keep (fun c p q => f1 c p (by omega) (by omega) (by omega))) (hz.tl.move hz.rd.1.1 hz.rd.1.2 (fun p _ _ => f1 _ p (by omega) (by omega) (by omega)) (fun c p q => f1 _ p (by unfold inT at q; omega) (by unfold inT at q; omega) (by unfold inT at q; omega)) (fun p _ => rfl)) (by rw [f1 55 2 (by omega) (by omega) (by omega)]; exact i0.1) y6 y7 (by rw [elh, elb]; exact y59) b22.1 b22.2 c5.1 c5.2 c6.1 c6.2 (fun m2 hm2 f2 E2 V2 y8 vi => ?_)
    have F2 : ∀ c p : Int, ¬ (55 ≤ c ∧ c ≤ 62) → m2 c p = m0 c p := fun c p a1 => by rw [f2 c p (by omega) (by omega) (by omega) (by omega) (by omega), f1 c p (by omega) (by omega) (by omega)]
    have kp : ∀ M : Mm, Inv (sf m0) S M → (∀ c p : Int, ¬ c = 56 → ¬ (c = 55 ∧ 4 ≤ p) → M c p = m2 c p) → RZ S M nn ∧ ∀ c p : Int, ¬ (55 ≤ c ∧ c ≤ 62) → M c p = m0 c p := fun M hM G => by
      have G2 : ∀ c p : Int, ¬ (55 ≤ c ∧ c ≤ 62) → M c p = m0 c p := fun c p a1 => by rw [G c p (by omega) (by omega), F2 c p a1]
      refine ⟨hz.keep (hz.1.of hM) (fun c p q => ?_), G2⟩
      by_cases y : 55 ≤ c ∧ c ≤ 62
      · have y2 : c = 55 ∧ (p = 1 ∨ p = 2) := by unfold KZ at q; omega
        rw [G c p (by omega) (by omega), f2 c p (by omega) (by omega) (by omega) (by omega) (by omega), f1 c p (by omega) (by omega) (by omega)]
      · exact G2 c p y
    obtain ⟨z2, _⟩ := kp m2 hm2 (fun _ _ _ _ => rfl)
    obtain ⟨v1, v3, _⟩ := (V2 0 s (Nat.zero_le n) b22.1 b22.2).resolve_left (by rw [show ((0 : Nat) : Int) * 1000 + s = s by omega]; exact vi)
    rw [show ((0 : Nat) : Int) * 1000 + s = s by omega, Nat.sub_zero] at v1 v3
    refine g_if (fun w1 => ?_) (fun w1 => ?_)
    · refine g_getr 12 58 rfl hS.k0 hm2.f_0_12 (by decide) ?_
      refine ⟨hS.k58, ?_⟩
      refine u_X2_howMany ?_
      refine g_getr 4 61 rfl hS.k58 hm2.f_58_4 (by decide) ?_
      refine g_getu 8 rfl hS.k58 (fun x ex => ?_)
      rw [y8] at ex
      rw [ex]
      refine g_ldu hS.k61 hS.l61 b22.1 (by omega) (fun r er => ?_)
      exact hK _ _ (go r m2 z2 F2 ⟨fun _ => er.trans v1, fun y => by omega, fun y => by omega, fun i r' _ y => by omega⟩)
    refine g_if (fun w2 => ?_) (fun w2 => ?_)
    · refine g_getr 12 58 rfl hS.k0 hm2.f_0_12 (by decide) ?_
      refine ⟨hS.k58, ?_⟩
      refine u_X2_leastTurned ?_
      refine g_getr 5 62 rfl hS.k58 hm2.f_58_5 (by decide) ?_
      refine g_getu 8 rfl hS.k58 (fun x ex => ?_)
      rw [y8] at ex
      rw [ex]
      refine g_ldu hS.k62 hS.l62 b22.1 (by omega) (fun r er => ?_)
      exact hK _ _ (go r m2 z2 F2 ⟨fun y => by omega, fun _ => er.trans v3, fun y => by omega, fun i r' _ y => by omega⟩)
    · refine g_getr 12 58 rfl hS.k0 hm2.f_0_12 (by decide) ?_
      refine g_C ?_
      refine g_S (by omega) (by omega) ?_
      refine ⟨hS.k58, ?_⟩
      refine zq_ofFirst (o := o) (D := m0 346) (H := H) (n := n) (lh := lh) (lb := lb) (lo := lo) (hi := hi) (s := s) hS hm2 cc E2 V2 b22.1 b22.2 y8 vi (by omega) (by omega) (fun y => ?_) (fun i r' M1 h1 g1 y1 y2 y3 => ?_)
      · exact hK _ _ (go _ m2 z2 F2 ⟨fun y => by omega, fun y => by omega, fun _ _ => rfl, fun i r' z1 z2 z3 => by omega⟩)
      · obtain ⟨zM, GM⟩ := kp M1 h1 g1
        exact hK _ _ (go _ M1 zM GM ⟨fun y => by omega, fun y => by omega, fun _ z => by omega, fun i2 r2 z1 z2 z3 => by rw [show i2 = i by omega, show r2 = r' by omega]⟩)
  refine g_if (fun e => hw (fun y => by have := nac e; omega)) (fun e => ?_)
  refine g_getr 1 3 rfl hS.k0 hm.f_0_1 (by decide) ?_
  refine g_getr 0 4 rfl hS.k3 hm.f_3_0 (by decide) ?_
  refine g_getu 4 rfl hS.k4 (fun v4 ev4 => ?_)
  rw [ct.2.2.2.2.1, ← eH] at ev4
  exact g_if (fun y => hw (fun _ => by omega)) (fun y => g_C (hK _ _ (nw (Or.inr ⟨e, by omega⟩))))
