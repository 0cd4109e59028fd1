/-! HOURS that go on: ahead, ice -/
def hrn (o : Option (List Cz)) (i : Int) (D : Int → Int) : Nat → Int → Int
  | 0 => D
  | k + 1 => hrow o i (hrn o i D k)
abbrev mv (p : Int) : Prop := p = 7 ∨ (10 ≤ p ∧ p < 35 ∧ ((p - 10) % 5 = 1 ∨ (p - 10) % 5 = 2)) ∨ (35 ≤ p ∧ p < 51 ∧ (p - 35) % 4 = 2)
theorem hrn_e {o : Option (List Cz)} {i : Int} {D : Int → Int} (b4 : D 4 ≤ 5) (b5 : D 5 ≤ 4) : ∀ (k : Nat) (p : Int), ¬ mv p → hrn o i D k p = D p := by
  intro k
  induction k with
  | zero => intro p _; rfl
  | succ k ih =>
    intro p q
    show hrow o i (hrn o i D k) p = D p
    have e4 := ih 4 (by unfold mv; omega)
    have e5 := ih 5 (by unfold mv; omega)
    rw [hrow_e (by unfold mv at q; omega)]
    exact ih p q
theorem hrn_7 {o : Option (List Cz)} {i : Int} {D : Int → Int} : ∀ k : Nat, hrn o i D k 7 = D 7 + k := by
  intro k
  induction k with
  | zero => show D 7 = D 7 + ((0 : Nat) : Int); omega
  | succ k ih =>
    show hrow o i (hrn o i D k) 7 = _
    rw [hrow_7, ih]
    omega
theorem DB.hrn {o : Option (List Cz)} {i : Int} {D : Int → Int} (db : DB D) (k : Nat) : DB (hrn o i D k) := db.move (fun p q => hrn_e db.1.2 db.2.1.2 k p (by unfold mv; omega))
theorem TL.hrn {o : Option (List Cz)} {i u : Int} {D : Int → Int} {m M : Mm} (tl : TL u D m) (db : DB D) (b3 : D 3 ≤ 8) (k : Nat) (h0 : ∀ p : Int, 0 ≤ p → p < 8 → M u p = m u p) (hh : ∀ c p : Int, inT c p → M (u + c) p = m (u + c) p) : TL u (hrn o i D k) M := tl.move db b3 h0 hh (fun p q => hrn_e db.1.2 db.2.1.2 k p (by unfold mv; unfold tp at q; omega))
/-- the class: n HOURS over the supposed STATE -/
theorem zn_passSeveral {X : Mm} {S : Sh} {m : Mm} {K : Mm → Prop} {o : Option (List Cz)} {D : Int → Int} {i n : Int} (hS : Shp S) (hm : Inv X S m) (rc : RC S m o) (db : DB D) (b3 : D 3 ≤ 8) (sr : SR m 68 D) (tl : TL 4 D m) (ic : m 55 2 = 0 ↔ i = 0) (n0 : 0 ≤ n) (n1 : n ≤ 200) (h7 : D 7 + n ≤ 998) (hk : ∀ M1 : Mm, Inv X S M1 → (∀ c p : Int, ¬ c = 56 → ¬ (c = 55 ∧ 4 ≤ p) → ¬ (68 ≤ c ∧ c ≤ 75) → M1 c p = m c p) → SR M1 68 (hrn o i D n.toNat) → K M1) : wp_X1_passSeveral S m 57 68 n K := by
  have hb : isSt 68 := by decide
  have L : ∀ (w : Nat) (k : Nat) (M : Mm), (k : Int) ≤ n → Inv X S M → (∀ c p : Int, ¬ c = 56 → ¬ (c = 55 ∧ 4 ≤ p) → ¬ (68 ≤ c ∧ c ≤ 75) → M c p = m c p) → SR M 68 (hrn o i D k) → n + 1 - k ≤ (w : Int) → wp_X1_passSeveral_2 S K w 57 68 n k M := by
    intro w
    induction w with
    | zero => intro k M k1 _ _ _ hw; exfalso; omega
    | succ w ih =>
      intro k M k1 hM F R hw
      refine u_X1_passSeveral_2 ?_
      refine g_if (fun q => ?_) (fun q => ?_)
      · have e : n.toNat = k := by omega
        rw [← e] at R
        exact hk M hM F R
      · refine ⟨hS.k57, ?_⟩
        have h68 : M 68 0 = D 7 + k := by rw [R.1.1, hrn_7]
        refine zh_pass hS hM (rc.keep (fun c p q => F c p (by omega) (by omega) (by omega))) hb (Or.inr rfl) (fun M1 hM1 ph => ?_)
        have R1 := (SR_hour (o := o) (i := i) hM hb (Or.inr rfl) (db.hrn k) R (tl.hrn db b3 k (fun p _ _ => F _ p (by omega) (by omega) (by omega)) (fun c p q => F _ p (by unfold inT at q; omega) (by unfold inT at q; omega) (by unfold inT at q; omega))) (by rw [F 55 2 (by omega) (by omega) (by omega)]; exact ic) (by omega) ph).1
        refine g_A (by omega) (by omega) ?_
        refine ih (k + 1) M1 (by omega) hM1 (fun c p q1 q2 q3 => ?_) R1 (by omega)
        rw [ph.1 c p q1 q2 (by omega) (by omega) (by omega), F c p q1 q2 q3]
  refine u_X1_passSeveral ?_
  refine g_C ?_
  exact ⟨(n + 1).toNat, L (n + 1).toNat 0 m (by omega) hm (fun _ _ _ _ _ => rfl) sr (by omega)⟩
/-- the reference: an HOUR of its row -/
abbrev jB (m : Mm) : Prop := ∀ j : Int, 0 ≤ j → j < m 346 5 → 0 ≤ m 346 (35 + 4 * j + 2) ∧ m 346 (35 + 4 * j + 2) ≤ 999
theorem zn_passes {X : Mm} {S : Sh} {m : Mm} {K : Int → Mm → Prop} {o : Option (List Cz)} (hS : Shp S) (hm : Inv X S m) (rr : RR m o) (b7 : 0 ≤ m 346 7 ∧ m 346 7 ≤ 9999) (bj : jB m) (hk : ∀ (r : Int) (M1 : Mm), Inv X S M1 → (∀ c p : Int, ¬ c = 344 → ¬ c = 345 → ¬ (c = 336 ∧ p = 18) → ¬ c = 346 → M1 c p = m c p) → M1 346 = hrow o (m 336 23) (m 346) → jB M1 → K r M1) : wp_X12_passes S m 336 K := by
  have b4 := hm.f_346_4
  have b5 := hm.f_346_5
  refine zh_passes hS hm rr b7 bj (fun M1 hM1 pr => ?_)
  refine hk _ M1 hM1 (fun c p q1 q2 q3 q4 => pr.1 c p q1 q2 q3 (fun z => q4 z.1)) (pr.row b4.2) (fun j j0 j1 => ?_)
  have e5 : M1 346 5 = m 346 5 := pr.1 346 5 (by omega) (by omega) (by omega) (by omega)
  rw [e5] at j1
  have bt := tnR_b (o := o) hm j0 (by omega)
  have bb := bj j j0 j1
  rw [pr.2.1 j j0 j1]
  unfold nuR
  split <;> omega
theorem zn_sup {X : Mm} {S : Sh} {m0 : Mm} {K : Mm → Prop} {D : Int → Int} (hS : Shp S) (hm : Inv X S m0) (db : DB D) (sr : SR m0 16 D) (hk : ∀ M1 : Mm, Inv X S M1 → (∀ c p : Int, ¬ (68 ≤ c ∧ c ≤ 75) → M1 c p = m0 c p) → SR M1 68 D → K M1) : wp_X5_become S m0 68 16 K := by
  refine zb_state hS hm (by decide) (by decide) (by decide) (fun m1 hm1 f1 v0 v1 q1 q2 q3 q4 q5 q6 q7 => ?_)
  refine hk m1 hm1 (fun c p q => f1 c p (by omega)) (sr.move db (fun p p0 p1 => ?_) (fun c p q => ?_) (fun _ _ _ => rfl))
  · rcases (show p = 0 ∨ p = 1 by omega) with z | z <;> subst z
    · exact v0
    · exact v1
  · obtain ⟨p0, q⟩ := q
    rcases (show c = 1 ∨ c = 2 ∨ c = 3 ∨ c = 4 ∨ c = 5 ∨ c = 6 ∨ c = 7 by omega) with z | z | z | z | z | z | z <;> subst z
    · exact q1 p p0 (by omega)
    · exact q2 p p0 (by omega)
    · exact q3 p p0 (by omega)
    · exact q4 p p0 (by omega)
    · exact q5 p p0 (by omega)
    · exact q6 p p0 (by omega)
    · exact q7 p p0 (by omega)
/-- the row goes on and is laid back -/
theorem RZ.laid {S : Sh} {m0 m1 m2 : Mm} {n : Int} (z : RZ S m1 n) (hm2 : Inv (sf m1) S m2) (F : ∀ c p : Int, ¬ c = 344 → ¬ c = 345 → ¬ c = 348 → ¬ (c = 336 ∧ (p = 18 ∨ p = 33)) → m2 c p = m1 c p) : RZ S m2 n := z.keep (z.1.of hm2) (fun c p q => F c p (by unfold KZ at q; omega) (by unfold KZ at q; omega) (by unfold KZ at q; omega) (by unfold KZ at q; omega))
theorem zz_ahead {S : Sh} {m0 : Mm} {K : Int → Int → Mm → Prop} {K1 : Int → Mm → Prop} {n x w y : Int} (hS : Shp S) (hz : RZ S m0 n) (hn : n ≤ 700) (hK : ∀ (r : Int) (M : Mm), wp_X12_ahead S M 336 x w y (fun r2 M2 => K r r2 M2) → K1 r M) (hk : ∀ (r : Int) (M1 : Mm), RZ S M1 n → K r r M1) : wp_X11_ahead S m0 0 x w y K1 := by
  have hm := hz.inv
  have ct := hz.ct
  have db := hz.db
  have c4 : m0 4 4 = m0 346 4 := ct.2.2.2.2.1
  have c5 : m0 4 5 = m0 346 5 := ct.2.2.2.2.2.1
  obtain ⟨o, rc, rr⟩ := hz.rule
  have h7 : m0 16 0 = m0 346 7 := hz.sr.1.1
  have b16 := hm.f_16_0
  have hb16 : m0 16 0 ≤ n := hz.2.2.2.1.1
  have i0 := hz.2.2.2.2.2.2.2.2
  obtain ⟨D, eD⟩ : ∃ D : Int → Int, D = m0 346 := ⟨_, rfl⟩
  -- the reference
  have ref : ∀ (r : Int) (m1 : Mm), RZ S m1 n → m1 346 = m0 346 → RR m1 o → m1 336 23 = 0 → ((0 ≤ w ∧ w ≤ 100) → (0 ≤ y ∧ y ≤ 1) → (y = 0 → (0 ≤ x ∧ x < m0 346 5) → (D (35 + 4 * x + 3) = 1 → r = -1) ∧ (¬ D (35 + 4 * x + 3) = 1 → r = hrn o 0 D w.toNat (35 + 4 * x + 2))) ∧ (y = 1 → (0 ≤ x ∧ x < m0 346 4) → r = hrn o 0 D w.toNat (10 + 5 * x + 2))) → (¬ ((0 ≤ w ∧ w ≤ 100) ∧ (0 ≤ y ∧ y ≤ 1) ∧ (y = 0 → (0 ≤ x ∧ x < m0 346 5)) ∧ (y = 1 → (0 ≤ x ∧ x < m0 346 4))) → r = -2) → wp_X12_ahead S m1 336 x w y (fun r2 M2 => K r r2 M2) := by
    intro r m1 z1 e46 rr1 x23 e1 e2
    have hm1 := z1.inv
    have go : (0 ≤ w ∧ w ≤ 100) → (0 ≤ y ∧ y ≤ 1) → (y = 0 → (0 ≤ x ∧ x < m0 346 5)) → (y = 1 → (0 ≤ x ∧ x < m0 346 4)) → wp_X12_ahead_48 S (fun r2 M2 => K r r2 M2) 336 x w y m1 := by
      intro wb yb xj xh
      obtain ⟨r0, r1⟩ := e1 wb yb
      refine u_X12_ahead_48 ?_
      refine ⟨hS.k336, ?_⟩
      refine zx_keeps hS hm1 (fun m2 hm2 f2 g2 => ?_)
      refine g_C ?_
      have e46' : m2 346 = D := by rw [eD, ← e46]; exact funext (fun p => f2 346 p (by omega))
      have L : ∀ (l k : Nat) (M : Mm), (k : Int) ≤ w → Inv (up (sf m1) (-1) 0 1) S M → (∀ c p : Int, ¬ c = 344 → ¬ c = 345 → ¬ (c = 336 ∧ p = 18) → ¬ c = 346 → M c p = m2 c p) → M 346 = hrn o 0 D k → jB M → w + 1 - k ≤ (l : Int) → wp_X12_ahead_55 S (fun r2 M2 => K r r2 M2) l 336 x w y k M := by
        intro l
        induction l with
        | zero => intro k M k1 _ _ _ _ hl; exfalso; omega
        | succ l ih =>
          intro k M k1 hM F eM bj hl
          refine u_X12_ahead_55 ?_
          refine g_if (fun q => ?_) (fun q => ?_)
          · have ek : w.toNat = k := by omega
            have ee : ∀ p : Int, ¬ mv p → M 346 p = D p := fun p q => by rw [eM]; exact hrn_e (by rw [eD]; omega) (by rw [eD]; omega) k p q
            have fin : ∀ v : Int, v = r → wp_X12_ahead_106 S (fun r2 M2 => K r r2 M2) 336 v M := by
              intro v ev
              refine u_X12_ahead_106 ?_
              refine ⟨hS.k336, ?_⟩
              refine zx_laysBack hS hM (up_at _ _ _ _) (fun m3 hm3 f3 g3 => ?_)
              rw [ev]
              refine hk _ m3 (RZ.laid (m0 := m0) z1 hm3.unflag (fun c p q1 q2 q3 q4 => ?_))
              by_cases z : c = 346
              · subst z
                by_cases z2 : 0 ≤ p ∧ p < 57
                · rw [g3 p z2, F 348 p (by omega) (by omega) (by omega) (by omega), g2 p z2]
                · rw [f3 346 p (by omega), ee p (by unfold mv; omega), eD, e46]
              · rw [f3 c p (by omega), F c p q1 q2 (by omega) z, f2 c p q3]
            refine g_C ?_
            refine g_if (fun q2 => ?_) (fun q2 => ?_)
            · have y0 : y = 0 := by omega
              have xb := xj y0
              obtain ⟨t1, t2⟩ := r0 y0 xb
              refine g_C ?_
              refine ⟨hS.k336, ?_⟩
              refine zt_jugOf hS hM xb.1 (by omega) (by omega) (by omega) ?_
              rw [ee (35 + 4 * x + 3) (by unfold mv; omega)]
              refine g_C ?_
              refine g_if (fun q3 => ?_) (fun q3 => ?_)
              · refine g_C ?_
                refine ⟨hS.k336, ?_⟩
                refine zt_jugOf hS hM xb.1 (by omega) (by omega) (by omega) ?_
                exact fin _ (by rw [t2 q3, eM, ek])
              · refine g_C ?_
                exact fin _ (t1 (by omega)).symm
            · have y1 : y = 1 := by omega
              have xb := xh y1
              refine g_C ?_
              refine ⟨hS.k336, ?_⟩
              refine zt_handOf hS hM xb.1 (by omega) (by omega) (by omega) ?_
              exact fin _ (by rw [r1 y1 xb, eM, ek])
          · refine ⟨hS.k336, ?_⟩
            refine zn_passes (o := o) hS hM (rr1.keep (fun c p q => by rw [F c p (by omega) (by omega) (by omega) (by omega), f2 c p (by omega)])) (by rw [eM, hrn_7, eD]; omega) bj (fun r9 m3 hm3 f3 e3 b3 => ?_)
            refine g_A (by omega) (by omega) ?_
            refine ih (k + 1) m3 (by omega) hm3 (fun c p q1 q2 q3 q4 => by rw [f3 c p q1 q2 q3 q4, F c p q1 q2 q3 q4]) ?_ b3 (by omega)
            rw [e3, F 336 23 (by omega) (by omega) (by omega) (by omega), f2 336 23 (by omega), x23, eM]
            rfl
      refine ⟨(w + 1).toNat, L (w + 1).toNat 0 m2 (by omega) hm2 (fun _ _ _ _ _ _ => rfl) e46' (fun j j0 j1 => ?_) (by omega)⟩
      rw [e46', eD] at j1 ⊢
      rw [← (hz.jg j0 j1).2.1]
      exact hm.aB_5_6 (c := 16) (by decide) j0 (by omega)
    refine u_X12_ahead ?_
    refine g_C ?_
    refine g_C ?_
    refine g_C ?_
    refine zs_in (fun wb => g_ifF (by decide) ?_) (fun wb => g_ifT rfl (g_C (by rw [e2 (fun z => wb z.1)]; exact hk _ m1 z1)))
    refine g_C ?_
    refine g_C ?_
    refine g_C ?_
    refine zs_in (fun yb => g_ifF (by decide) ?_) (fun yb => g_ifT rfl (g_C (by rw [e2 (fun z => yb z.2.1)]; exact hk _ m1 z1)))
    refine g_if (fun q => ?_) (fun q => ?_)
    · refine ⟨hS.k336, ?_⟩
      refine zs_isHand12 hS hm1 (fun c1 => g_ifT (by decide) ?_) (fun c1 => g_ifF (by decide) (g_C ?_))
      · rw [e46] at c1
        exact go wb yb (fun z => absurd z q) (fun _ => c1)
      · rw [e46] at c1
        rw [e2 (fun z => c1 (z.2.2.2 (by omega)))]
        exact hk _ m1 z1
    · refine ⟨hS.k336, ?_⟩
      refine zs_isJug12 hS hm1 (fun c1 => g_ifT (by decide) ?_) (fun c1 => g_ifF (by decide) (g_C ?_))
      · rw [e46] at c1
        exact go wb yb (fun _ => c1) (fun z => absurd z (by omega))
      · rw [e46] at c1
        rw [e2 (fun z => c1 (z.2.2.1 (by omega)))]
        exact hk _ m1 z1
  -- the class
  have no : ¬ ((0 ≤ w ∧ w ≤ 100) ∧ (0 ≤ y ∧ y ≤ 1) ∧ (y = 0 → (0 ≤ x ∧ x < m0 346 5)) ∧ (y = 1 → (0 ≤ x ∧ x < m0 346 4))) → wp_X12_ahead S m0 336 x w y (fun r2 M2 => K (-2) r2 M2) := fun q => ref _ m0 hz rfl rr i0.2 (fun wb yb => ⟨fun y0 xb => absurd ⟨wb, yb, fun _ => xb, fun y1 => absurd y1 (by omega)⟩ q, fun y1 xb => absurd ⟨wb, yb, fun y0 => absurd y0 (by omega), fun _ => xb⟩ q⟩) (fun _ => rfl)
  have run : (0 ≤ w ∧ w ≤ 100) → (0 ≤ y ∧ y ≤ 1) → (y = 0 → (0 ≤ x ∧ x < m0 346 5) ∧ ¬ D (35 + 4 * x + 3) = 1) → (y = 1 → (0 ≤ x ∧ x < m0 346 4)) → wp_X11_ahead_70 S K1 0 x w y m0 := by
    intro wb yb xj xh
    refine u_X11_ahead_70 ?_
    refine g_getr 15 68 rfl hS.k0 hm.f_0_15 (by decide) ?_
    refine g_getr 1 3 rfl hS.k0 hm.f_0_1 (by decide) ?_
    refine g_getr 1 16 rfl hS.k3 hm.f_3_1 (by decide) ?_
    refine ⟨hS.k68, ?_⟩
    refine zn_sup (D := D) hS hm (by rw [eD]; exact hz.rd.1.1) (by rw [eD]; exact hz.sr) (fun m1 hm1 f1 s1 => ?_)
    refine g_getr 11 57 rfl hS.k0 hm1.f_0_11 (by decide) ?_
    refine g_getr 15 68 rfl hS.k0 hm1.f_0_15 (by decide) ?_
    refine ⟨hS.k57, ?_⟩
    have tl1 : TL 4 D m1 := by rw [eD]; exact hz.tl.move hz.rd.1.1 hz.rd.1.2 (fun p _ _ => f1 _ p (by omega)) (fun c p q => f1 _ p (by unfold inT at q; omega)) (fun p _ => rfl)
    refine zn_passSeveral (o := o) (D := D) (i := 0) hS hm1 (rc.keep (fun c p q => f1 c p (by omega))) (by rw [eD]; exact hz.rd.1.1) (by rw [eD]; exact hz.rd.1.2) s1 tl1 (by rw [f1 55 2 (by omega), i0.1]) wb.1 (by omega) (by rw [eD]; omega) (fun m2 hm2 f2 s2 => ?_)
    have F : ∀ c p : Int, ¬ c = 56 → ¬ (c = 55 ∧ 4 ≤ p) → ¬ (68 ≤ c ∧ c ≤ 75) → m2 c p = m0 c p := fun c p q1 q2 q3 => by rw [f2 c p q1 q2 q3, f1 c p q3]
    have z2 : RZ S m2 n := hz.keep (hz.1.of hm2) (fun c p q => F c p (by unfold KZ at q; omega) (by unfold KZ at q; omega) (by unfold KZ at q; omega))
    have e46 : m2 346 = m0 346 := funext (fun p => F 346 p (by omega) (by omega) (by omega))
    have rr2 : RR m2 o := rr.keep (fun c p q => F c p (by omega) (by omega) (by omega))
    have x23 : m2 336 23 = 0 := by rw [F 336 23 (by omega) (by omega) (by omega)]; exact i0.2
    refine g_if (fun q => ?_) (fun q => ?_)
    · have y1 : y = 1 := by omega
      have xb := xh y1
      refine g_getr 15 68 rfl hS.k0 hm2.f_0_15 (by decide) ?_
      refine g_getr 4 71 rfl hS.k68 hm2.f_68_4 (by decide) ?_
      refine g_ldu hS.k71 hS.l71 (by omega) (by omega) (fun v ev => ?_)
      refine hK _ _ (ref _ m2 z2 e46 rr2 x23 (fun _ _ => ⟨fun y0 => absurd y0 (by omega), fun _ _ => ?_⟩) (fun z => absurd ⟨wb, yb, fun y0 => absurd y0 (by omega), fun _ => xb⟩ z))
      rw [ev]
      exact (s2.2.1 x xb.1 (by rw [hrn_e (by rw [eD]; omega) (by rw [eD]; omega) _ 4 (by unfold mv; omega), eD]; exact xb.2)).2.2
    · have y0 : y = 0 := by omega
      obtain ⟨xb, xg⟩ := xj y0
      refine g_getr 15 68 rfl hS.k0 hm2.f_0_15 (by decide) ?_
      refine g_getr 7 74 rfl hS.k68 hm2.f_68_7 (by decide) ?_
      refine g_ldu hS.k74 hS.l74 (by omega) (by omega) (fun v ev => ?_)
      refine hK _ _ (ref _ m2 z2 e46 rr2 x23 (fun _ _ => ⟨fun _ _ => ⟨fun z => absurd z xg, fun _ => ?_⟩, fun y1 => absurd y1 (by omega)⟩) (fun z => absurd ⟨wb, yb, fun _ => xb, fun y1 => absurd y1 (by omega)⟩ z))
      rw [ev]
      exact (s2.2.2.1 x xb.1 (by rw [hrn_e (by rw [eD]; omega) (by rw [eD]; omega) _ 5 (by unfold mv; omega), eD]; exact xb.2)).2.1
  have mid : ∀ t : Int, (t = 0 ∨ t = 1) → (t = 1 → (0 ≤ y ∧ y ≤ 1) ∧ (y = 0 → (0 ≤ x ∧ x < m0 346 5)) ∧ (y = 1 → (0 ≤ x ∧ x < m0 346 4))) → (t = 0 → ¬ ((0 ≤ y ∧ y ≤ 1) ∧ (y = 0 → (0 ≤ x ∧ x < m0 346 5)) ∧ (y = 1 → (0 ≤ x ∧ x < m0 346 4)))) → wp_X11_ahead_30 S K1 0 x w y t m0 := by
    intro t tb t1 t0
    refine u_X11_ahead_30 ?_
    refine g_if (fun q => g_C (hK _ _ (no (fun z => t0 q z.2)))) (fun q => ?_)
    obtain ⟨yb, xj, xh⟩ := t1 (by omega)
    refine g_if (fun q1 => g_C (hK _ _ (no (fun z => absurd z.1.1 (by omega))))) (fun q1 => ?_)
    refine g_C ?_
    refine g_if (fun q2 => ?_) (fun q2 => g_C (hK _ _ (no (fun z => absurd z.1.2 (by omega)))))
    refine g_if (fun q3 => run ⟨by omega, q2⟩ yb (fun z => absurd z q3) xh) (fun q3 => ?_)
    have y0 : y = 0 := by omega
    have xb := xj y0
    have zj := hz.jg xb.1 xb.2
    refine g_getr 1 3 rfl hS.k0 hm.f_0_1 (by decide) ?_
    refine g_getr 1 16 rfl hS.k3 hm.f_3_1 (by decide) ?_
    refine ⟨hS.k16, ?_⟩
    refine zh_gone hS hm (by decide) xb.1 (by omega) (fun s1 s2 => g_ifF (by decide) (g_C ?_)) (fun s => g_ifT rfl ?_)
    · have s1 : m0 20 x = -1 := s1
      have s2 : m0 21 x = -1 := s2
      refine hK _ _ (ref _ m0 hz rfl rr i0.2 (fun _ _ => ⟨fun _ _ => ⟨fun _ => rfl, fun z => absurd (by rw [eD]; omega) z⟩, fun y1 => absurd y1 (by omega)⟩) (fun z => absurd ⟨⟨by omega, q2⟩, yb, xj, xh⟩ z))
    · have s : ¬ (m0 20 x = -1 ∧ m0 21 x = -1) := s
      exact run ⟨by omega, q2⟩ yb (fun _ => ⟨xb, by rw [eD]; omega⟩) xh
  refine u_X11_ahead ?_
  refine g_if (fun q => ?_) (fun q => ?_)
  · refine g_C ?_
    refine g_if (fun q1 => ?_) (fun q1 => ?_)
    · refine u_X11_ahead_29 ?_
      refine g_C ?_
      exact mid 0 (Or.inl rfl) (fun z => absurd z (by decide)) (fun _ z => by have := z.1; omega)
    · refine ⟨hS.k0, ?_⟩
      refine zs_isHand11 hS hm (fun c1 => g_ifF (by decide) (g_C ?_)) (fun c1 => g_ifT rfl ?_)
      · exact mid 1 (Or.inr rfl) (fun _ => ⟨by omega, fun z => absurd z q, fun _ => by omega⟩) (fun z => absurd z (by decide))
      · refine u_X11_ahead_29 ?_
        refine g_C ?_
        exact mid 0 (Or.inl rfl) (fun z => absurd z (by decide)) (fun _ z => c1 (by have := z.2.2 (by omega); omega))
  · refine ⟨hS.k0, ?_⟩
    refine zs_isJug11 hS hm (fun c1 => ?_) (fun c1 => ?_)
    · exact mid 1 (Or.inr rfl) (fun _ => ⟨by omega, fun _ => by omega, fun z => absurd z (by omega)⟩) (fun z => absurd z (by decide))
    · exact mid 0 (Or.inl rfl) (fun z => absurd z (by decide)) (fun _ z => c1 (by have := z.2.1 (by omega); omega))
