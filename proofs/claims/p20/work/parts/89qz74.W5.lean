/-! RELAY of the reference -/
abbrev rF (m M : Mm) : Prop := ∀ c p : Int, ¬ c = 344 → ¬ c = 345 → ¬ (c = 336 ∧ p = 18) → M c p = m c p
theorem zq_fillsRoads {X : Mm} {S : Sh} {m : Mm} {K : Mm → Prop} {P c a : Int} {f g : Int → Int} {n : Nat} (hS : Shp S) (hm : Inv X S m) (r : RO (m 346) f) (eP : m 346 0 = P) (w : Wok P f g) (fb : ∀ p : Int, 0 ≤ p → p < 36 → f p ≤ 5) (c0 : 0 ≤ c) (c1 : c < P) (l : LgP f g P c a n) (n5 : n ≤ 5) (T : ∀ p : Int, 0 ≤ p → p < P → m 349 p = if g (6 * p + c) < 1000 then g (6 * p + c) else 99) (hk : ∀ M1 : Mm, Inv X S M1 → (∀ c p : Int, ¬ c = 350 → ¬ (c = 336 ∧ p = 29) → M1 c p = m c p) → M1 336 29 = (n : Int) → (∀ i : Nat, i < n → M1 350 i = lhF f g P c a i) → K M1) : wp_X12_fillsRoads S m 336 a c K := by
  have p6 := w.1
  have L : ∀ (q k : Nat) (M : Mm), k ≤ n → Inv X S M → (∀ c p : Int, ¬ c = 350 → ¬ (c = 336 ∧ p = 29) → M c p = m c p) → M 336 29 = (k : Int) → (∀ i : Nat, i < k → M 350 i = lhF f g P c a i) → n + 1 - k ≤ q → wp_X12_fillsRoads_7 S K q 336 c (plF f g P c a k) M := by
    intro q
    induction q with
    | zero => intro k M k1 _ _ _ _ hl; exfalso; omega
    | succ q ih =>
      intro k M k1 hM F y29 Tk hl
      have e46 : M 346 = m 346 := funext (fun p => F 346 p (by omega) (by omega))
      refine u_X12_fillsRoads_7 ?_
      refine g_if (fun z => ?_) (fun z => ?_)
      · by_cases e : k = n
        · rw [e] at y29 Tk
          exact hk M hM F y29 Tk
        · exact absurd z (l.2 k (by omega)).1
      have kn : k < n := by
        by_cases e : k = n
        · rw [e] at z
          exact absurd l.1 z
        · omega
      obtain ⟨q1, q2, q3, q4, q5, q6⟩ := l.2 k kn
      refine ⟨hS.k336, ?_⟩
      refine zq_next12 (f := f) (g := g) hS hM (by rw [e46]; exact r) (by rw [e46]; exact eP) w fb q2.1 q2.2 c0 c1 q3 (fun p p0 p1 => by rw [F 349 p (by omega) (by omega)]; exact T p p0 p1) ?_
      rw [← q6]
      refine g_getr 28 350 rfl hS.k336 hM.f_336_28 (by decide) ?_
      refine g_getu 29 rfl hS.k336 (fun v1 ev1 => ?_)
      rw [y29] at ev1
      rw [ev1]
      refine ⟨hS.k336, ?_⟩
      refine zs_roadR hS hM (by rw [e46]; exact r) q2.1 (by omega) q4.1 (by omega) (fun f0 => ?_)
      have eh : f (6 * plF f g P c a k + plF f g P c a (k + 1)) = lhF f g P c a k := rfl
      rw [eh]
      refine g_st hS.k350 hS.l350 (by omega) (by omega) (hM.wa_350 (by omega) (by omega) (by omega) (by omega)) (fun m1 e1 hm1 => ?_)
      have f1 : ∀ c p : Int, ¬ (c = 350 ∧ p = (k : Int)) → m1 c p = M c p := fun c p q => (congrFun (congrFun e1 _) _).trans (up_ne q)
      have x1 : m1 350 k = lhF f g P c a k := (congrFun (congrFun e1 _) _).trans (up_at _ _ _ _)
      refine g_getu 29 rfl hS.k336 (fun v2 ev2 => ?_)
      rw [f1 336 29 (by omega), y29] at ev2
      refine g_C ?_
      refine g_A (by omega) (by omega) ?_
      refine g_put 29 rfl hS.k336 (hm1.w_336_29 (by omega) (by omega)) (fun m2 e2 hm2 => ?_)
      have f2 : ∀ c p : Int, ¬ (c = 336 ∧ p = 29) → m2 c p = m1 c p := fun c p q => (congrFun (congrFun e2 _) _).trans (up_ne q)
      have x2 : m2 336 29 = v2 + 1 := (congrFun (congrFun e2 _) _).trans (up_at _ _ _ _)
      refine ih (k + 1) m2 (by omega) hm2 (fun c' p b1 b2 => by rw [f2 c' p (by omega), f1 c' p (by omega), F c' p b1 b2]) (x2.trans (by omega)) (fun i hi => ?_) (by omega)
      by_cases e : i = k
      · rw [e, f2 350 _ (by omega), x1]
      · rw [f2 350 _ (by omega), f1 350 _ (by omega)]
        exact Tk i (by omega)
  refine u_X12_fillsRoads ?_
  refine g_C ?_
  refine g_put 29 rfl hS.k336 (hm.w_336_29 (by decide) (by decide)) (fun m2 e2 hm2 => ?_)
  have f2 : ∀ c p : Int, ¬ (c = 336 ∧ p = 29) → m2 c p = m c p := fun c p q => (congrFun (congrFun e2 _) _).trans (up_ne q)
  have x2 : m2 336 29 = 0 := (congrFun (congrFun e2 _) _).trans (up_at _ _ _ _)
  exact ⟨n + 1, L (n + 1) 0 m2 (Nat.zero_le n) hm2 (fun c' p _ b2 => f2 c' p b2) x2 (fun i hi => absurd hi (Nat.not_lt_zero i)) (by omega)⟩
theorem zq_handIn {X : Mm} {S : Sh} {m : Mm} {K : Int → Mm → Prop} {c n k r H : Nat} (hS : Shp S) (hm : Inv X S m) (eH : m 346 4 = (H : Int)) (hH : H ≤ 5) (e29 : m 336 29 = (n : Int)) (en : n = k + 1 + r) (n5 : n ≤ 5) (h0 : 0 < H) (hc : c ≤ 15625) (hk : K ((c / H ^ r % H : Nat) : Int) m) : wp_X12_handIn S m 336 c k K := by
  have pp : 0 < H ^ r := Nat.pow_pos h0
  have pz := pw_b H (by omega) r (by omega)
  have dl := Nat.div_le_self c (H ^ r)
  have d0 := Int.natCast_nonneg (c / H ^ r)
  refine u_X12_handIn ?_
  refine g_getr 20 346 rfl hS.k336 hm.f_336_20 (by decide) ?_
  refine g_C ?_
  refine g_ldu hS.k346 hS.l346 (by decide) (by decide) (fun v1 ev1 => ?_)
  refine g_getu 29 rfl hS.k336 (fun v2 ev2 => ?_)
  rw [e29] at ev2
  refine g_C ?_
  refine g_S (by omega) (by omega) ?_
  refine g_S (by omega) (by omega) ?_
  refine zq_power (B := H) (N := r) (by omega) (by omega) hH (by omega) ?_
  refine ⟨by omega, ?_⟩
  rw [div32 (by omega) (by omega) (by omega) (by omega), ← Int.natCast_ediv]
  refine g_getr 20 346 rfl hS.k336 hm.f_336_20 (by decide) ?_
  refine g_C ?_
  refine g_ldu hS.k346 hS.l346 (by decide) (by decide) (fun v3 ev3 => ?_)
  rw [eH] at ev3
  rw [ev3]
  refine ⟨by omega, ?_⟩
  rw [rem32e (by omega) (by omega) (by omega) (by omega), ← Int.natCast_emod]
  exact hk
theorem zq_byRow {X : Mm} {S : Sh} {m : Mm} {K : Int → Mm → Prop} {o : Option (List Cz)} {D : Int → Int} {H n c : Nat} {lh lb : Nat → Int} {j s : Int} (hS : Shp S) (hm : Inv X S m) (hr : RR m o) (ic : m 336 23 = 0) (eD : m 346 = D) (cc : RvC D H n lh lb j) (h0 : 0 < n → 0 < H) (e29 : m 336 29 = (n : Int)) (e50 : ∀ i : Nat, i < n → m 350 i = lh i) (el : lb 0 = D 7 ∧ ∀ i : Nat, lb (i + 1) = lb i + lh i) (es : D (35 + 4 * j + 2) = s) (s0 : 0 ≤ s) (s9 : s ≤ 999) (hc : c ≤ 15625) (hk : ∀ M1 : Mm, Inv X S M1 → rF m M1 → K (vrF H (crR o D j lh lb n) n s c) M1) : wp_X12_turnedByRow S m 336 j c K := by
  obtain ⟨db, b3, hb, eH, n5, bj, bl⟩ := id cc
  have b4 := db.1
  have hH : H ≤ 5 := by omega
  have cb := crR_b (o := o) (D := D) (j := j) (lh := lh) (lb := lb) (n := n) (H := H) hb hH
  have L : ∀ (r k : Nat) (t : Int) (M : Mm), n = k + r → Inv X S M → rF m M → 0 ≤ t → t ≤ 999 → vrF H (crR o D j lh lb n) r t c = vrF H (crR o D j lh lb n) n s c → wp_X12_turnedByRow_19 S K (r + 1) 336 j c t (lb k) k M := by
    intro r
    induction r with
    | zero =>
      intro k t M en hM F t0 t9 e
      refine u_X12_turnedByRow_19 ?_
      refine g_getu 29 rfl hS.k336 (fun v ev => ?_)
      rw [F 336 29 (by omega) (by omega) (by omega), e29] at ev
      refine g_ifT (by omega) ?_
      have e2 : t = vrF H (crR o D j lh lb n) n s c := e
      rw [e2]
      exact hk M hM F
    | succ r ih =>
      intro k t M en hM F t0 t9 e
      have e46 : M 346 = D := by rw [← eD]; exact funext (fun p => F 346 p (by omega) (by omega) (by omega))
      have kn : k < n := by omega
      have bk := bl k kn
      have hpos := h0 (by omega)
      have dl : c / H ^ r % H < H := Nat.mod_lt _ hpos
      obtain ⟨h, eh⟩ : ∃ h : Nat, h = c / H ^ r % H := ⟨_, rfl⟩
      rw [← eh] at dl
      have tb := cb r h t dl t0 t9
      have ec : crR o D j lh lb n r h t = (hT o D (h : Int) j 1 (lb k) t (lh k).toNat).1 := by
        unfold crR
        rw [show n - 1 - r = k by omega]
      refine u_X12_turnedByRow_19 ?_
      refine g_getu 29 rfl hS.k336 (fun v ev => ?_)
      rw [F 336 29 (by omega) (by omega) (by omega), e29] at ev
      refine g_ifF (by omega) ?_
      refine ⟨hS.k336, ?_⟩
      refine zq_handIn (n := n) (k := k) (r := r) (H := H) hS hM (by rw [e46]; exact eH.symm) hH (by rw [F 336 29 (by omega) (by omega) (by omega)]; exact e29) (by omega) n5 hpos hc ?_
      rw [← eh]
      refine g_getr 28 350 rfl hS.k336 hM.f_336_28 (by decide) ?_
      refine g_ldu hS.k350 hS.l350 (by omega) (by omega) (fun v1 ev1 => ?_)
      rw [F 350 k (by omega) (by omega) (by omega), e50 k kn] at ev1
      rw [ev1]
      refine g_C ?_
      refine ⟨hS.k336, ?_⟩
      refine zq_turnedBy (o := o) hS hM (hr.keep (fun c p z => F c p (by omega) (by omega) (by omega))) (by rw [F 336 23 (by omega) (by omega) (by omega)]; exact ic) (by omega) (by omega) t0 t9 bk.1.1 (by omega) bk.2.1 (by omega) (fun m1 hm1 f1 => ?_)
      rw [e46, ← ec]
      have F1 : rF m m1 := fun c p a1 a2 a3 => by rw [f1 c p a1 a2 a3, F c p a1 a2 a3]
      refine g_getr 28 350 rfl hS.k336 hm1.f_336_28 (by decide) ?_
      refine g_ldu hS.k350 hS.l350 (by omega) (by omega) (fun v2 ev2 => ?_)
      rw [F1 350 k (by omega) (by omega) (by omega), e50 k kn] at ev2
      rw [ev2]
      refine g_A (by omega) (by omega) ?_
      refine g_A (by omega) (by omega) ?_
      rw [← el.2 k]
      refine ih (k + 1) _ m1 (by omega) hm1 F1 tb.1 tb.2 ?_
      rw [← e, eh]
      rfl
  refine u_X12_turnedByRow ?_
  refine g_C ?_
  refine ⟨hS.k336, ?_⟩
  refine zt_jugOf hS hm bj.1 bj.2 (by decide) (by decide) ?_
  rw [eD, es]
  refine g_getr 20 346 rfl hS.k336 hm.f_336_20 (by decide) ?_
  refine g_C ?_
  refine g_ldu hS.k346 hS.l346 (by decide) (by decide) (fun t et => ?_)
  rw [eD, ← el.1] at et
  rw [et]
  refine g_C ?_
  exact ⟨n + 1, L n 0 s m (by omega) hm (fun _ _ _ _ _ => rfl) s0 s9 rfl⟩
theorem zq_relay12 {X : Mm} {S : Sh} {m : Mm} {K : Int → Mm → Prop} {o : Option (List Cz)} {D : Int → Int} {H n : Nat} {lh lb : Nat → Int} {j lo hi s w : Int} (hS : Shp S) (hm : Inv X S m) (hr : RR m o) (ic : m 336 23 = 0) (eD : m 346 = D) (cc : RvC D H n lh lb j) (h0 : 0 < n → 0 < H) (e29 : m 336 29 = (n : Int)) (e50 : ∀ i : Nat, i < n → m 350 i = lh i) (el : lb 0 = D 7 ∧ ∀ i : Nat, lb (i + 1) = lb i + lh i) (es : D (35 + 4 * j + 2) = s) (s0 : 0 ≤ s) (s9 : s ≤ 999) (w0 : 0 ≤ w) (w6 : w ≤ 6) (k0 : ∀ M1 : Mm, Inv X S M1 → rF m M1 → w = 0 → K (rwF H (crR o D j lh lb n) (okR lo hi) n s) M1) (k1 : ∀ M1 : Mm, Inv X S M1 → rF m M1 → w = 1 → K (leF H (crR o D j lh lb n) n s) M1) (k2 : ∀ M1 : Mm, Inv X S M1 → rF m M1 → 2 ≤ w → (rwF H (crR o D j lh lb n) (okR lo hi) n s = 0 ∨ (n : Int) ≤ w - 2) → K (-2) M1) (k3 : ∀ (i r : Nat) (M1 : Mm), Inv X S M1 → rF m M1 → 0 < rwF H (crR o D j lh lb n) (okR lo hi) n s → w - 2 = (i : Int) → n = i + 1 + r → K ((fhF H (crR o D j lh lb n) (okR lo hi) r (tpF H (crR o D j lh lb n) (okR lo hi) n s i) : Nat) : Int) M1) : wp_X12_relay_120 S K 336 j lo hi w m := by
  obtain ⟨db, b3, hb, eH, n5, bj, bl⟩ := id cc
  have b4 := db.1
  have hH : H ≤ 5 := by omega
  have cb := crR_b (o := o) (D := D) (j := j) (lh := lh) (lb := lb) (n := n) (H := H) hb hH
  have pN := pw_b H (by omega) n (by omega)
  have pos : 0 < H ^ n := by
    by_cases z : n = 0
    · rw [z]; exact Nat.one_pos
    · exact Nat.pow_pos (h0 (by omega))
  obtain ⟨V, eV⟩ : ∃ V : Nat → Int, V = fun c => vrF H (crR o D j lh lb n) n s c := ⟨_, rfl⟩
  have Vb : ∀ c : Nat, 0 ≤ V c ∧ V c ≤ 999 := fun c => by
    rw [eV]
    exact vr_b cb n s c h0 s0 s9
  have cN : cntF (fun c => okR lo hi (V c)) (H ^ n) = rwF H (crR o D j lh lb n) (okR lo hi) n s := by
    rw [eV]
    exact rw_cnt n s
  have mN : mnF V (H ^ n) = leF H (crR o D j lh lb n) n s := by
    rw [eV]
    exact le_mn cb n s s0 s9
  have L : ∀ (l c : Nat) (a b t : Int) (M : Mm), c ≤ H ^ n → Inv X S M → rF m M → a = cntF (fun c => okR lo hi (V c)) c → ((a = 0 ∧ b = -1) ∨ (0 < a ∧ ∃ x : Nat, b = (x : Int) ∧ x < c ∧ okR lo hi (V x) = true ∧ ∀ y : Nat, y < x → ¬ okR lo hi (V y) = true)) → ((c = 0 ∧ t = -1) ∨ (0 < c ∧ t = mnF V c)) → H ^ n + 1 - c ≤ l → wp_X12_relay_132 S K l 336 j lo hi w a b t c M := by
    intro l
    induction l with
    | zero => intro c a b t M c1 _ _ _ _ _ hl; exfalso; omega
    | succ l ih =>
      intro c a b t M c1 hM F ea hb1 ht hl
      have e46 : M 346 = D := by rw [← eD]; exact funext (fun p => F 346 p (by omega) (by omega) (by omega))
      have f29 : M 336 29 = (n : Int) := by rw [F 336 29 (by omega) (by omega) (by omega)]; exact e29
      refine u_X12_relay_132 ?_
      refine g_getr 20 346 rfl hS.k336 hM.f_336_20 (by decide) ?_
      refine g_C ?_
      refine g_ldu hS.k346 hS.l346 (by decide) (by decide) (fun v1 ev1 => ?_)
      rw [e46, ← eH] at ev1
      refine g_getu 29 rfl hS.k336 (fun v2 ev2 => ?_)
      rw [f29] at ev2
      refine zq_power (B := H) (N := n) ev1 ev2 hH (by omega) ?_
      refine g_if (fun q => ?_) (fun q => ?_)
      · have ec : c = H ^ n := by omega
        rw [ec] at ea hb1 ht
        rw [cN] at ea
        have ht2 : t = leF H (crR o D j lh lb n) n s := by
          rw [← mN]
          rcases ht with z | z
          · omega
          · exact z.2
        refine g_C ?_
        refine g_if (fun q2 => ?_) (fun q2 => ?_)
        · have bad : (rwF H (crR o D j lh lb n) (okR lo hi) n s = 0 ∨ (n : Int) ≤ w - 2) → wp_X12_relay_250 S K M := fun y => by
            refine u_X12_relay_250 ?_
            exact g_C (k2 M hM F q2 y)
          refine g_if (fun q3 => bad (Or.inl ?_)) (fun q3 => ?_)
          · rcases hb1 with z | ⟨_, x, z, _⟩
            · omega
            · omega
          refine g_C ?_
          refine g_S (by omega) (by omega) ?_
          refine g_getu 29 rfl hS.k336 (fun v3 ev3 => ?_)
          rw [f29] at ev3
          refine g_if (fun q4 => ?_) (fun q4 => bad (Or.inr (by omega)))
          obtain ⟨a0, x, ex, x1, x2, x3⟩ : 0 < a ∧ ∃ x : Nat, b = (x : Int) ∧ x < H ^ n ∧ okR lo hi (V x) = true ∧ ∀ y : Nat, y < x → ¬ okR lo hi (V y) = true := by
            rcases hb1 with z | z
            · omega
            · exact z
          have rp : 0 < rwF H (crR o D j lh lb n) (okR lo hi) n s := by omega
          obtain ⟨i, ei⟩ : ∃ i : Nat, w - 2 = (i : Int) := ⟨(w - 2).toNat, by omega⟩
          obtain ⟨r, er⟩ : ∃ r : Nat, n = i + 1 + r := ⟨n - (i + 1), by omega⟩
          obtain ⟨g1, g2, g3⟩ := fc_at n s rp
          have xe : x = fcF H (crR o D j lh lb n) (okR lo hi) n s := by
            rcases Nat.lt_trichotomy x (fcF H (crR o D j lh lb n) (okR lo hi) n s) with z | z | z
            · have q5 := g3 x z
              rw [eV] at x2
              exact absurd x2 q5
            · exact z
            · have q5 := x3 _ z
              rw [eV] at q5
              exact absurd g2 q5
          refine g_C ?_
          refine g_S (by omega) (by omega) ?_
          refine ⟨hS.k336, ?_⟩
          rw [ex, ei]
          refine zq_handIn (n := n) (k := i) (r := r) (H := H) hS hM (by rw [e46]; exact eH.symm) hH f29 er n5 (h0 (by omega)) (by omega) ?_
          rw [xe, fc_dg rp er]
          exact k3 i r M hM F rp ei er
        · refine g_if (fun q3 => ?_) (fun q3 => ?_)
          · rw [ht2]
            exact k1 M hM F (by omega)
          · rw [ea]
            exact k0 M hM F (by omega)
      have c2 : c < H ^ n := by omega
      refine ⟨hS.k336, ?_⟩
      refine zq_byRow (o := o) (D := D) (H := H) (n := n) (lh := lh) (lb := lb) (s := s) hS hM (hr.keep (fun c p z => F c p (by omega) (by omega) (by omega))) (by rw [F 336 23 (by omega) (by omega) (by omega)]; exact ic) e46 cc h0 f29 (fun i hi => by rw [F 350 i (by omega) (by omega) (by omega)]; exact e50 i hi) el es s0 s9 (by omega) (fun m1 hm1 f1 => ?_)
      have F1 : rF m m1 := fun c p a1 a2 a3 => by rw [f1 c p a1 a2 a3, F c p a1 a2 a3]
      obtain ⟨x, ex⟩ : ∃ x : Int, x = V c := ⟨_, rfl⟩
      have ex2 : vrF H (crR o D j lh lb n) n s c = x := by rw [ex, eV]
      rw [ex2]
      have xb := Vb c
      rw [← ex] at xb
      have cb2 := cntF_b (p := fun c => okR lo hi (V c)) c
      have t2 : ∀ t' : Int, t' = mnF V (c + 1) → wp_X12_relay_178 S (fun a0 a1 a2 a3 a4 a5 a6 a7 a8 M => wp_X12_relay_132 S K l a0 a1 a2 a3 a4 a5 a6 a7 a8 M) K 336 j lo hi w a b c x t' m1 := by
        intro t' et
        refine u_X12_relay_178 ?_
        refine g_C ?_
        refine g_C ?_
        refine g_C ?_
        refine zs_in (fun y => g_ifT (by decide) ?_) (fun y => g_ifF (by decide) ?_)
        · have oks : okR lo hi (V c) = true := by rw [← ex]; exact decide_eq_true y
          have ea2 : a + 1 = cntF (fun c => okR lo hi (V c)) (c + 1) := by rw [cntF_1 (p := fun c => okR lo hi (V c)) oks, ea]
          refine g_if (fun z => ?_) (fun z => ?_)
          · refine u_X12_relay_206 ?_
            refine g_A (by omega) (by omega) ?_
            refine u_X12_relay_209 ?_
            refine g_A (by omega) (by omega) ?_
            refine ih (c + 1) (a + 1) b t' m1 (by omega) hm1 F1 ea2 (Or.inr ?_) (Or.inr ⟨by omega, et⟩) (by omega)
            rcases hb1 with z1 | ⟨z1, x', z2, z3, z4⟩
            · exact absurd z1.1 z
            · exact ⟨by omega, x', z2, by omega, z4⟩
          · refine u_X12_relay_206 ?_
            refine g_A (by omega) (by omega) ?_
            refine u_X12_relay_209 ?_
            refine g_A (by omega) (by omega) ?_
            have a0 : cntF (fun c => okR lo hi (V c)) c = 0 := by omega
            exact ih (c + 1) (a + 1) c t' m1 (by omega) hm1 F1 ea2 (Or.inr ⟨by omega, c, rfl, by omega, oks, fun y hy => cntF_no (p := fun c => okR lo hi (V c)) c a0 y hy⟩) (Or.inr ⟨by omega, et⟩) (by omega)
        · have oks : ¬ okR lo hi (V c) = true := fun z => by
            rw [← ex] at z
            exact y (of_decide_eq_true z)
          have ea2 : a = cntF (fun c => okR lo hi (V c)) (c + 1) := by rw [cntF_2 (p := fun c => okR lo hi (V c)) oks, ea]
          refine u_X12_relay_209 ?_
          refine g_A (by omega) (by omega) ?_
          refine ih (c + 1) a b t' m1 (by omega) hm1 F1 ea2 ?_ (Or.inr ⟨by omega, et⟩) (by omega)
          rcases hb1 with z1 | ⟨z1, x', z2, z3, z4⟩
          · exact Or.inl z1
          · exact Or.inr ⟨z1, x', z2, by omega, z4⟩
      have ms : mnF V (c + 1) = min (mnF V c) x := by rw [ex]; rfl
      have m9 := mnF_9 (h := V) c
      have m0 := mnF_0 (h := V) c (fun y _ => (Vb y).1)
      refine g_if (fun z => ?_) (fun z => ?_)
      · refine u_X12_relay_171 ?_
        refine t2 x ?_
        have cz : c = 0 := by
          rcases ht with y | y
          · exact y.1
          · omega
        rw [ms, cz]
        show x = min 999 x
        omega
      · have ht2 : t = mnF V c := by
          rcases ht with y | y
          · omega
          · exact y.2
        refine g_if (fun z2 => ?_) (fun z2 => ?_)
        · exact t2 t (by rw [ms]; omega)
        · refine u_X12_relay_171 ?_
          exact t2 x (by rw [ms]; omega)
  refine u_X12_relay_120 ?_
  refine g_C ?_
  refine g_C ?_
  refine g_C ?_
  refine g_C ?_
  exact ⟨H ^ n + 1, L (H ^ n + 1) 0 0 (-1) (-1) m (Nat.zero_le _) hm (fun _ _ _ _ _ => rfl) rfl (Or.inl ⟨rfl, rfl⟩) (Or.inl ⟨rfl, rfl⟩) (by omega)⟩
