section
/-! a JUG in a HAND that is not TIRED at first, HOUR by HOUR: WHO and PROBE -/
def stq (o : Option (List Cz)) (D : Int → Int) (h j ro t a b : Int) : Int := tvO o (wds h (D (10 + 5 * h + 3)) b j a (htR D t) t ro 1 (if a < D 2 then 0 else 1))
def hT (o : Option (List Cz)) (D : Int → Int) (h j ro t s : Int) : Nat → Int × Int
  | 0 => (s, 0)
  | k + 1 => (min ((hT o D h j ro t s k).1 + stq o D h j ro (t + k) (hT o D h j ro t s k).1 (hT o D h j ro t s k).2) 999, min ((hT o D h j ro t s k).2 + D (10 + 5 * h + 4)) 99)
theorem hT_s1 {o : Option (List Cz)} {D : Int → Int} {h j ro t s : Int} {k : Nat} : (hT o D h j ro t s (k + 1)).1 = min ((hT o D h j ro t s k).1 + stq o D h j ro (t + k) (hT o D h j ro t s k).1 (hT o D h j ro t s k).2) 999 := rfl
theorem hT_s2 {o : Option (List Cz)} {D : Int → Int} {h j ro t s : Int} {k : Nat} : (hT o D h j ro t s (k + 1)).2 = min ((hT o D h j ro t s k).2 + D (10 + 5 * h + 4)) 99 := rfl
def HB (D : Int → Int) (h : Int) : Prop := (0 ≤ D (10 + 5 * h + 3) ∧ D (10 + 5 * h + 3) ≤ 20) ∧ (0 ≤ D (10 + 5 * h + 4) ∧ D (10 + 5 * h + 4) ≤ 5) ∧ ∀ t : Int, 0 ≤ htR D t ∧ htR D t ≤ 20
theorem HB.of {X : Mm} {S : Sh} {m : Mm} {h : Int} (hm : Inv X S m) (h0 : 0 ≤ h) (h4 : h ≤ 4) : HB (m 346) h := by
  refine ⟨fam_346_13_5_0_4 hm (a := h) (by omega) h0 h4, fam_346_14_5_0_4 hm (a := h) (by omega) h0 h4, fun t => ?_⟩
  have b9 := hm.f_346_9
  have q := htF_b (a := fun k => m 346 (81 + 3 * k)) (b := fun k => m 346 (81 + 3 * k + 1)) (c := fun k => m 346 (81 + 3 * k + 2)) (t := t) (m 346 9).toNat (fun k k0 k1 => fam_346_83_3_0_3 hm (a := k) (by omega) (by omega) (by omega))
  unfold htR
  omega
theorem stq_b {o : Option (List Cz)} {D : Int → Int} {h j ro t a b : Int} (hb : HB D h) (b0 : 0 ≤ b) (b9 : b ≤ 99) : 0 ≤ stq o D h j ro t a b ∧ stq o D h j ro t a b ≤ 64 := by
  unfold stq
  exact tvO_b hb.1 ⟨b0, b9⟩ (hb.2.2 t)
theorem hT_b {o : Option (List Cz)} {D : Int → Int} {h j ro t s : Int} (hb : HB D h) (s0 : 0 ≤ s) (s9 : s ≤ 999) : ∀ k : Nat, (0 ≤ (hT o D h j ro t s k).1 ∧ (hT o D h j ro t s k).1 ≤ 999) ∧ (0 ≤ (hT o D h j ro t s k).2 ∧ (hT o D h j ro t s k).2 ≤ 99) := by
  intro k
  induction k with
  | zero => exact ⟨⟨s0, s9⟩, by show (0 : Int) ≤ 0; decide, by show (0 : Int) ≤ 99; decide⟩
  | succ k ih =>
    have z := stq_b (o := o) (j := j) (ro := ro) (t := t + k) (a := (hT o D h j ro t s k).1) hb ih.2.1 ih.2.2
    have d := hb.2.1
    rw [hT_s1, hT_s2]
    omega
theorem zq_turnedBy {X : Mm} {S : Sh} {m : Mm} {K : Int → Mm → Prop} {o : Option (List Cz)} {h j s n t ro : Int} (hS : Shp S) (hm : Inv X S m) (hr : RR m o) (ic : m 336 23 = 0) (h0 : 0 ≤ h) (h4 : h ≤ 4) (s0 : 0 ≤ s) (s9 : s ≤ 999) (n0 : 0 ≤ n) (n9 : n ≤ 9999) (t0 : 0 ≤ t) (t9 : t ≤ 9999) (hk : ∀ M1 : Mm, Inv X S M1 → (∀ c p : Int, ¬ c = 344 → ¬ c = 345 → ¬ (c = 336 ∧ p = 18) → M1 c p = m c p) → K (hT o (m 346) h j ro t s n.toNat).1 M1) : wp_X12_turnedBy S m 336 h j s n t ro K := by
  have hb : HB (m 346) h := HB.of hm h0 h4
  have L : ∀ (l k : Nat) (a b : Int) (M : Mm), (k : Int) ≤ n → Inv X S M → (∀ c p : Int, ¬ c = 344 → ¬ c = 345 → ¬ (c = 336 ∧ p = 18) → M c p = m c p) → a = (hT o (m 346) h j ro t s k).1 → b = (hT o (m 346) h j ro t s k).2 → n.toNat + 1 - k ≤ l → wp_X12_turnedBy_9 S K l 336 h j n t ro a b k M := by
    intro l
    induction l with
    | zero => intro k a b M k1 _ _ _ _ hl; exfalso; omega
    | succ l ih =>
      intro k a b M k1 hM F ea eb hl
      have q := hT_b (o := o) (j := j) (ro := ro) (t := t) hb s0 s9 k
      rw [← ea, ← eb] at q
      have e46 : M 346 = m 346 := funext (fun p => F 346 p (by omega) (by omega) (by omega))
      refine u_X12_turnedBy_9 ?_
      refine g_if (fun w => ?_) (fun w => ?_)
      · have ek : n.toNat = k := by omega
        rw [ek, ← ea] at hk
        exact hk M hM F
      refine g_A (by omega) (by omega) ?_
      refine g_C ?_
      refine ⟨hS.k336, ?_⟩
      refine zh_turnsIn hS hM (hr.keep (fun c p z => F c p (by omega) (by omega) (by omega))) h0 h4 q.2.1 q.2.2 (fun m1 hm1 f1 => ?_)
      have ez : tvO o (wds h (M 346 (10 + 5 * h + 3)) b j a (if M 336 23 = 0 then htR (M 346) (t + (k : Int)) else 0) (t + (k : Int)) ro 1 (if a < M 346 2 then 0 else 1)) = stq o (m 346) h j ro (t + (k : Int)) a b := by
        rw [F 336 23 (by omega) (by omega) (by omega), if_pos ic, e46]
        rfl
      rw [ez]
      have z := stq_b (o := o) (j := j) (ro := ro) (t := t + (k : Int)) (a := a) hb q.2.1 q.2.2
      have d := hb.2.1
      have F1 : ∀ c p : Int, ¬ c = 344 → ¬ c = 345 → ¬ (c = 336 ∧ p = 18) → m1 c p = m c p := fun c p a1 a2 a3 => by rw [f1 c p a1 a2 a3, F c p a1 a2 a3]
      refine g_A (by omega) (by omega) ?_
      refine g_C ?_
      refine zh_atMost ?_
      refine ⟨hS.k336, ?_⟩
      refine zh_moreTired hS hm1 h0 h4 q.2.1 q.2.2 ?_
      rw [F1 346 _ (by omega) (by omega) (by omega)]
      refine g_A (by omega) (by omega) ?_
      exact ih (k + 1) _ _ m1 (by omega) hm1 F1 (by rw [hT_s1, ← ea, ← eb]) (by rw [hT_s2, ← eb]) (by omega)
  refine u_X12_turnedBy ?_
  refine g_C ?_
  refine g_C ?_
  exact ⟨n.toNat + 1, L (n.toNat + 1) 0 s 0 m (by omega) hm (fun _ _ _ _ _ => rfl) rfl rfl (by omega)⟩
/-- the class's hand and jug that are supposed -/
def HS (M : Mm) (o : Option (List Cz)) (D : Int → Int) (h j ro t s : Int) (k : Nat) : Prop := M 55 4 = h ∧ M 55 5 = j ∧ M 55 6 = (hT o D h j ro t s k).1 ∧ M 55 7 = (hT o D h j ro t s k).2 ∧ M 55 8 = t + (k : Int) ∧ M 55 10 = ro ∧ M 55 11 = 1
theorem zq_suppose {X : Mm} {S : Sh} {m : Mm} {K : Mm → Prop} {h j s t : Int} (hS : Shp S) (hm : Inv X S m) (h0 : 0 ≤ h) (h4 : h ≤ 4) (j0 : 0 ≤ j) (j3 : j ≤ 3) (s0 : 0 ≤ s) (s9 : s ≤ 999) (t0 : 0 ≤ t) (t9 : t ≤ 999) (hk : ∀ M1 : Mm, Inv X S M1 → (∀ c p : Int, ¬ (c = 55 ∧ 4 ≤ p) → M1 c p = m c p) → (∀ (o : Option (List Cz)) (D : Int → Int), HS M1 o D h j 0 t s 0) → K M1) : wp_X10_suppose S m 55 h j s t K := by
  refine u_X10_suppose ?_
  refine g_put 4 rfl hS.k55 (hm.w_55_4 h0 h4) (fun m1 e1 hm1 => ?_)
  have f1 : ∀ c p : Int, ¬ (c = 55 ∧ p = 4) → m1 c p = m c p := fun c p q => (congrFun (congrFun e1 _) _).trans (up_ne q)
  have y1 : m1 55 4 = h := (congrFun (congrFun e1 _) _).trans (up_at _ _ _ _)
  refine g_put 5 rfl hS.k55 (hm1.w_55_5 j0 j3) (fun m2 e2 hm2 => ?_)
  have f2 : ∀ c p : Int, ¬ (c = 55 ∧ p = 5) → m2 c p = m1 c p := fun c p q => (congrFun (congrFun e2 _) _).trans (up_ne q)
  have y2 : m2 55 5 = j := (congrFun (congrFun e2 _) _).trans (up_at _ _ _ _)
  refine g_put 6 rfl hS.k55 (hm2.w_55_6 s0 s9) (fun m3 e3 hm3 => ?_)
  have f3 : ∀ c p : Int, ¬ (c = 55 ∧ p = 6) → m3 c p = m2 c p := fun c p q => (congrFun (congrFun e3 _) _).trans (up_ne q)
  have y3 : m3 55 6 = s := (congrFun (congrFun e3 _) _).trans (up_at _ _ _ _)
  refine g_C ?_
  refine g_put 7 rfl hS.k55 (hm3.w_55_7 (by decide) (by decide)) (fun m4 e4 hm4 => ?_)
  have f4 : ∀ c p : Int, ¬ (c = 55 ∧ p = 7) → m4 c p = m3 c p := fun c p q => (congrFun (congrFun e4 _) _).trans (up_ne q)
  have y4 : m4 55 7 = 0 := (congrFun (congrFun e4 _) _).trans (up_at _ _ _ _)
  refine g_put 8 rfl hS.k55 (hm4.w_55_8 t0 t9) (fun m5 e5 hm5 => ?_)
  have f5 : ∀ c p : Int, ¬ (c = 55 ∧ p = 8) → m5 c p = m4 c p := fun c p q => (congrFun (congrFun e5 _) _).trans (up_ne q)
  have y5 : m5 55 8 = t := (congrFun (congrFun e5 _) _).trans (up_at _ _ _ _)
  refine g_C ?_
  refine g_put 10 rfl hS.k55 (hm5.w_55_10 (by decide) (by decide)) (fun m6 e6 hm6 => ?_)
  have f6 : ∀ c p : Int, ¬ (c = 55 ∧ p = 10) → m6 c p = m5 c p := fun c p q => (congrFun (congrFun e6 _) _).trans (up_ne q)
  have y6 : m6 55 10 = 0 := (congrFun (congrFun e6 _) _).trans (up_at _ _ _ _)
  refine g_C ?_
  refine g_put 11 rfl hS.k55 (hm6.w_55_11 (by decide) (by decide)) (fun m7 e7 hm7 => ?_)
  have f7 : ∀ c p : Int, ¬ (c = 55 ∧ p = 11) → m7 c p = m6 c p := fun c p q => (congrFun (congrFun e7 _) _).trans (up_ne q)
  have y7 : m7 55 11 = 1 := (congrFun (congrFun e7 _) _).trans (up_at _ _ _ _)
  refine hk m7 hm7 (fun c p q => ?_) (fun o D => ⟨?_, ?_, ?_, ?_, ?_, ?_, y7⟩)
  · rw [f7 c p (by omega), f6 c p (by omega), f5 c p (by omega), f4 c p (by omega), f3 c p (by omega), f2 c p (by omega), f1 c p (by omega)]
  · rw [f7 55 4 (by decide), f6 55 4 (by decide), f5 55 4 (by decide), f4 55 4 (by decide), f3 55 4 (by decide), f2 55 4 (by decide), y1]
  · rw [f7 55 5 (by decide), f6 55 5 (by decide), f5 55 5 (by decide), f4 55 5 (by decide), f3 55 5 (by decide), y2]
  · rw [f7 55 6 (by decide), f6 55 6 (by decide), f5 55 6 (by decide), f4 55 6 (by decide), y3]
    rfl
  · rw [f7 55 7 (by decide), f6 55 7 (by decide), f5 55 7 (by decide), y4]
    rfl
  · rw [f7 55 8 (by decide), f6 55 8 (by decide), y5]
    exact (Int.add_zero t).symm
  · rw [f7 55 10 (by decide), y6]
theorem zq_holdFor {X : Mm} {S : Sh} {m : Mm} {K : Mm → Prop} {o : Option (List Cz)} {D : Int → Int} {h j ro t s n : Int} {k : Nat} (hS : Shp S) (hm : Inv X S m) (hr : RC S m o) (tl : TL 4 D m) (ic : m 55 2 = 0) (hb : HB D h) (h0 : 0 ≤ h) (h4 : h ≤ 4) (hD : h < D 4) (s0 : 0 ≤ s) (s9 : s ≤ 999) (t0 : 0 ≤ t) (n0 : 0 ≤ n) (tn : t + (k : Int) + n ≤ 999) (hs : HS m o D h j ro t s k) (hk : ∀ M1 : Mm, Inv X S M1 → (∀ c p : Int, ¬ c = 56 → ¬ (c = 55 ∧ 4 ≤ p) → M1 c p = m c p) → HS M1 o D h j ro t s (k + n.toNat) → K M1) : wp_X10_holdFor S m 55 n K := by
  have t7 : m 7 h = D (10 + 5 * h + 3) := (tl.2.2.1 h h0 hD).1
  have t8 : m 8 h = D (10 + 5 * h + 4) := (tl.2.2.1 h h0 hD).2
  have t2 : m 4 2 = D 2 := tl.1.2.2.1
  have he : ∀ x : Int, heC m x = htR D x := fun x => by
    unfold heC
    rw [if_pos ic]
    exact ht_eq tl
  have L : ∀ (l i : Nat) (M : Mm), (i : Int) ≤ n → Inv X S M → (∀ c p : Int, ¬ c = 56 → ¬ (c = 55 ∧ 4 ≤ p) → M c p = m c p) → HS M o D h j ro t s (k + i) → n.toNat + 1 - i ≤ l → wp_X10_holdFor_2 S K l 55 n i M := by
    intro l
    induction l with
    | zero => intro i M i1 _ _ _ hl; exfalso; omega
    | succ l ih =>
      intro i M i1 hM F H hl
      have q := hT_b (o := o) (j := j) (ro := ro) (t := t) hb s0 s9 (k + i)
      refine u_X10_holdFor_2 ?_
      refine g_if (fun w => ?_) (fun w => ?_)
      · have ei : n.toNat = i := by omega
        rw [ei] at hk
        exact hk M hM F H
      obtain ⟨y4, y5, y6, y7, y8, y10, y11⟩ := id H
      obtain ⟨x, ex⟩ : ∃ x : Int, x = t + ((k + i : Nat) : Int) := ⟨_, rfl⟩
      obtain ⟨a, ea⟩ : ∃ a : Int, a = (hT o D h j ro t s (k + i)).1 := ⟨_, rfl⟩
      obtain ⟨b, eb⟩ : ∃ b : Int, b = (hT o D h j ro t s (k + i)).2 := ⟨_, rfl⟩
      rw [← ea, ← eb] at q
      rw [← ea] at y6
      rw [← eb] at y7
      rw [← ex] at y8
      refine g_C ?_
      refine g_getu 6 rfl hS.k55 (fun v ev => ?_)
      rw [y6] at ev
      refine ⟨hS.k55, ?_⟩
      refine zh_turns hS hM (hr.keep (fun c p z => F c p (by omega) (by omega))) (fun m1 hm1 f1 => ?_)
      have e1 : (if M 55 2 = 0 then ht8 M (M 55 8) else 0) = htR D x := by
        rw [y8, ← he]
        exact heC_same (fun c p z => F c p (by omega) (by omega))
      have e2 : tvO o (wdH M (htR D x)) = stq o D h j ro x a b := by
        unfold wdH stq
        rw [y4, y5, y6, y7, y8, y10, y11, F 7 h (by omega) (by omega), F 4 2 (by omega) (by omega), t7, t2]
      rw [e1, e2]
      have z := stq_b (o := o) (j := j) (ro := ro) (t := x) (a := a) hb q.2.1 q.2.2
      have d := hb.2.1
      refine g_A (by omega) (by omega) ?_
      refine g_mne ?_
      refine g_put 6 rfl hS.k55 (hm1.w_55_6 (by omega) (by omega)) (fun m2 e2 hm2 => ?_)
      have f2 : ∀ c p : Int, ¬ (c = 55 ∧ p = 6) → m2 c p = m1 c p := fun c p q => (congrFun (congrFun e2 _) _).trans (up_ne q)
      have x2 : m2 55 6 = min 999 (v + stq o D h j ro x a b) := (congrFun (congrFun e2 _) _).trans (up_at _ _ _ _)
      refine g_C ?_
      refine g_getu 7 rfl hS.k55 (fun ti eti => ?_)
      rw [f2 55 7 (by decide), f1 55 7 (by decide) (by decide), y7] at eti
      refine g_getr 0 4 rfl hS.k55 hm2.f_55_0 (by decide) ?_
      refine g_getr 11 8 rfl hS.k4 hm2.f_4_11 (by decide) ?_
      refine g_getu 4 rfl hS.k55 (fun hh ehh => ?_)
      rw [f2 55 4 (by decide), f1 55 4 (by decide) (by decide), y4] at ehh
      rw [ehh]
      refine g_ldu hS.k8 hS.l8 h0 (by omega) (fun ts ets => ?_)
      rw [f2 8 h (by omega), f1 8 h (by omega) (by omega), F 8 h (by omega) (by omega), t8] at ets
      refine g_A (by omega) (by omega) ?_
      refine g_mne ?_
      refine g_put 7 rfl hS.k55 (hm2.w_55_7 (by omega) (by omega)) (fun m3 e3 hm3 => ?_)
      have f3 : ∀ c p : Int, ¬ (c = 55 ∧ p = 7) → m3 c p = m2 c p := fun c p q => (congrFun (congrFun e3 _) _).trans (up_ne q)
      have x3 : m3 55 7 = min 99 (ti + ts) := (congrFun (congrFun e3 _) _).trans (up_at _ _ _ _)
      refine g_C ?_
      refine g_getu 8 rfl hS.k55 (fun u eu => ?_)
      rw [f3 55 8 (by decide), f2 55 8 (by decide), f1 55 8 (by decide) (by decide), y8] at eu
      refine g_C ?_
      refine g_A (by omega) (by omega) ?_
      refine g_mne ?_
      refine g_put 8 rfl hS.k55 (hm3.w_55_8 (by omega) (by omega)) (fun m4 e4 hm4 => ?_)
      have f4 : ∀ c p : Int, ¬ (c = 55 ∧ p = 8) → m4 c p = m3 c p := fun c p q => (congrFun (congrFun e4 _) _).trans (up_ne q)
      have x4 : m4 55 8 = min 999 (u + 1) := (congrFun (congrFun e4 _) _).trans (up_at _ _ _ _)
      refine g_A (by omega) (by omega) ?_
      refine ih (i + 1) m4 (by omega) hm4 (fun c p q1 q2 => ?_) ⟨?_, ?_, ?_, ?_, ?_, ?_, ?_⟩ (by omega)
      · rw [f4 c p (by omega), f3 c p (by omega), f2 c p (by omega), f1 c p q1 (by omega), F c p q1 q2]
      · rw [f4 55 4 (by decide), f3 55 4 (by decide), f2 55 4 (by decide), f1 55 4 (by decide) (by decide), y4]
      · rw [f4 55 5 (by decide), f3 55 5 (by decide), f2 55 5 (by decide), f1 55 5 (by decide) (by decide), y5]
      · rw [f4 55 6 (by decide), f3 55 6 (by decide), x2, show k + (i + 1) = (k + i) + 1 from rfl, hT_s1, ← ea, ← eb, ← ex]
        omega
      · rw [f4 55 7 (by decide), x3, show k + (i + 1) = (k + i) + 1 from rfl, hT_s2, ← eb]
        omega
      · rw [x4]
        omega
      · rw [f4 55 10 (by decide), f3 55 10 (by decide), f2 55 10 (by decide), f1 55 10 (by decide) (by decide), y10]
      · rw [f4 55 11 (by decide), f3 55 11 (by decide), f2 55 11 (by decide), f1 55 11 (by decide) (by decide), y11]
  refine u_X10_holdFor ?_
  refine g_C ?_
  exact ⟨n.toNat + 1, L (n.toNat + 1) 0 m (by omega) hm (fun _ _ _ _ => rfl) hs (by omega)⟩
/-- the TESTS that a HAND keeps to -/
def fitB (o : Option (List Cz)) (D : Int → Int) (h : Int) : Nat → Bool
  | 0 => true
  | i + 1 => fitB o D h i && decide ((hT o D h 0 0 (D (117 + 4 * (i : Int) + 2)) (D (117 + 4 * (i : Int))) (D (117 + 4 * (i : Int) + 1)).toNat).1 = D (117 + 4 * (i : Int) + 3))
theorem fitB_1 {o : Option (List Cz)} {D : Int → Int} {h : Int} {i : Nat} (a : fitB o D h i = true) (b : (hT o D h 0 0 (D (117 + 4 * (i : Int) + 2)) (D (117 + 4 * (i : Int))) (D (117 + 4 * (i : Int) + 1)).toNat).1 = D (117 + 4 * (i : Int) + 3)) : fitB o D h (i + 1) = true := by
  show (fitB o D h i && decide _) = true
  rw [a, decide_eq_true b]
  rfl
theorem fitB_0 {o : Option (List Cz)} {D : Int → Int} {h : Int} {i : Nat} (b : ¬ (hT o D h 0 0 (D (117 + 4 * (i : Int) + 2)) (D (117 + 4 * (i : Int))) (D (117 + 4 * (i : Int) + 1)).toNat).1 = D (117 + 4 * (i : Int) + 3)) : ∀ d : Nat, fitB o D h (i + 1 + d) = false := by
  intro d
  induction d with
  | zero =>
    show (fitB o D h i && decide _) = false
    rw [decide_eq_false b]
    exact Bool.and_false _
  | succ d ih =>
    show (fitB o D h (i + 1 + d) && decide _) = false
    rw [ih]
    rfl
theorem zq_fits {X : Mm} {S : Sh} {m : Mm} {K : Int → Mm → Prop} {o : Option (List Cz)} {h : Int} (hS : Shp S) (hm : Inv X S m) (hr : RR m o) (ic : m 336 23 = 0) (h0 : 0 ≤ h) (h4 : h ≤ 4) (hk : ∀ M1 : Mm, Inv X S M1 → (∀ c p : Int, ¬ c = 344 → ¬ c = 345 → ¬ (c = 336 ∧ p = 18) → M1 c p = m c p) → K (if fitB o (m 346) h (m 346 157).toNat = true then 1 else 0) M1) : wp_X12_fitsTests S m 336 h K := by
  have b157 := hm.f_346_157
  have L : ∀ (l k : Nat) (M : Mm), (k : Int) ≤ m 346 157 → Inv X S M → (∀ c p : Int, ¬ c = 344 → ¬ c = 345 → ¬ (c = 336 ∧ p = 18) → M c p = m c p) → fitB o (m 346) h k = true → 11 - k ≤ l → wp_X12_fitsTests_2 S K l 336 h k M := by
    intro l
    induction l with
    | zero => intro k M k1 _ _ _ hl; exfalso; omega
    | succ l ih =>
      intro k M k1 hM F fk hl
      have e46 : M 346 = m 346 := funext (fun p => F 346 p (by omega) (by omega) (by omega))
      refine u_X12_fitsTests_2 ?_
      refine g_getr 20 346 rfl hS.k336 hM.f_336_20 (by decide) ?_
      refine g_C ?_
      refine g_ldu hS.k346 hS.l346 (by decide) (by decide) (fun v ev => ?_)
      rw [e46] at ev
      refine g_if (fun w => g_C ⟨by decide, ?_⟩) (fun w => ?_)
      · have ek : (m 346 157).toNat = k := by omega
        rw [ek, if_pos fk] at hk
        exact hk M hM F
      have k9 : (k : Int) ≤ 9 := by omega
      refine g_C ?_
      refine g_C ?_
      refine g_M (by omega) (by omega) ?_
      refine g_A (by omega) (by omega) ?_
      refine g_C ?_
      refine g_getr 20 346 rfl hS.k336 hM.f_336_20 (by decide) ?_
      refine g_ldu hS.k346 hS.l346 (by omega) (by omega) (fun v1 ev1 => ?_)
      have b1 := fam_346_117_4_0_9 hM (a := k) (i := 117 + 4 * (k : Int)) (by omega) (by omega) k9
      refine g_getr 20 346 rfl hS.k336 hM.f_336_20 (by decide) ?_
      refine g_C ?_
      refine g_A (by omega) (by omega) ?_
      refine g_ldu hS.k346 hS.l346 (by omega) (by omega) (fun v2 ev2 => ?_)
      have b2 := fam_346_118_4_0_9 hM (a := k) (i := 117 + 4 * (k : Int) + 1) (by omega) (by omega) k9
      refine g_getr 20 346 rfl hS.k336 hM.f_336_20 (by decide) ?_
      refine g_C ?_
      refine g_A (by omega) (by omega) ?_
      refine g_ldu hS.k346 hS.l346 (by omega) (by omega) (fun v3 ev3 => ?_)
      have b3 := fam_346_119_4_0_9 hM (a := k) (i := 117 + 4 * (k : Int) + 2) (by omega) (by omega) k9
      refine g_C ?_
      refine ⟨hS.k336, ?_⟩
      refine zq_turnedBy (o := o) hS hM (hr.keep (fun c p z => F c p (by omega) (by omega) (by omega))) (by rw [F 336 23 (by omega) (by omega) (by omega)]; exact ic) h0 h4 (by omega) (by omega) (by omega) (by omega) (by omega) (by omega) (fun m1 hm1 f1 => ?_)
      have F1 : ∀ c p : Int, ¬ c = 344 → ¬ c = 345 → ¬ (c = 336 ∧ p = 18) → m1 c p = m c p := fun c p a1 a2 a3 => by rw [f1 c p a1 a2 a3, F c p a1 a2 a3]
      rw [e46] at ev1 ev2 ev3
      rw [e46, ev1, ev2, ev3]
      refine g_getr 20 346 rfl hS.k336 hm1.f_336_20 (by decide) ?_
      refine g_C ?_
      refine g_A (by omega) (by omega) ?_
      refine g_ldu hS.k346 hS.l346 (by omega) (by omega) (fun v4 ev4 => ?_)
      rw [F1 346 _ (by omega) (by omega) (by omega)] at ev4
      rw [ev4]
      refine g_if (fun w2 => ?_) (fun w2 => g_C ⟨by decide, ?_⟩)
      · refine g_A (by omega) (by omega) ?_
        exact ih (k + 1) m1 (by omega) hm1 F1 (fitB_1 fk w2) (by omega)
      · have g := fitB_0 (o := o) w2 ((m 346 157).toNat - (k + 1))
        rw [show k + 1 + ((m 346 157).toNat - (k + 1)) = (m 346 157).toNat by omega] at g
        rw [g, if_neg (by decide)] at hk
        exact hk m1 hm1 F1
  refine u_X12_fitsTests ?_
  refine g_C ?_
  exact ⟨11, L 11 0 m (by omega) hm (fun _ _ _ _ _ => rfl) rfl (by omega)⟩
theorem zq_passes {X : Mm} {S : Sh} {m : Mm} {K : Int → Mm → Prop} {o : Option (List Cz)} {D : Int → Int} {h : Int} (hS : Shp S) (hm : Inv X S m) (hr : RC S m o) (db : DB D) (b3 : D 3 ≤ 8) (tl : TL 4 D m) (tt : TT m 3 D) (t10 : 0 ≤ D 157 ∧ D 157 ≤ 10) (ic : m 55 2 = 0) (hb : HB D h) (h0 : 0 ≤ h) (h4 : h ≤ 4) (hD : h < D 4) (hk : ∀ M1 : Mm, Inv X S M1 → (∀ c p : Int, ¬ c = 56 → ¬ (c = 55 ∧ 4 ≤ p) → M1 c p = m c p) → K (if fitB o D h (D 157).toNat = true then 1 else 0) M1) : wp_X9_passesAll S m 66 h K := by
  have L : ∀ (l k : Nat) (M : Mm), (k : Int) ≤ D 157 → Inv X S M → (∀ c p : Int, ¬ c = 56 → ¬ (c = 55 ∧ 4 ≤ p) → M c p = m c p) → fitB o D h k = true → 11 - k ≤ l → wp_X9_passesAll_2 S K l 66 h k M := by
    intro l
    induction l with
    | zero => intro k M k1 _ _ _ hl; exfalso; omega
    | succ l ih =>
      intro k M k1 hM F fk hl
      refine u_X9_passesAll_2 ?_
      refine g_getr 0 3 rfl hS.k66 hM.f_66_0 (by decide) ?_
      refine g_getu 4 rfl hS.k3 (fun v ev => ?_)
      rw [F 3 4 (by omega) (by omega), tt.1] at ev
      refine g_if (fun w => g_C ⟨by decide, ?_⟩) (fun w => ?_)
      · have ek : (D 157).toNat = k := by omega
        rw [ek, if_pos fk] at hk
        exact hk M hM F
      have k9 : (k : Int) < 10 := by omega
      have q4 := tt.2 k (by omega) (by omega)
      have q24 : m 24 k = D (117 + 4 * (k : Int)) := q4.1
      have q25 : m 25 k = D (117 + 4 * (k : Int) + 1) := q4.2.1
      have q26 : m 26 k = D (117 + 4 * (k : Int) + 2) := q4.2.2.1
      have q27 : m 27 k = D (117 + 4 * (k : Int) + 3) := q4.2.2.2
      refine g_getr 1 55 rfl hS.k66 hM.f_66_1 (by decide) ?_
      refine g_C ?_
      refine g_getr 0 3 rfl hS.k66 hM.f_66_0 (by decide) ?_
      refine g_getr 5 24 rfl hS.k3 hM.f_3_5 (by decide) ?_
      refine g_ldu hS.k24 hS.l24 (by omega) k9 (fun v1 ev1 => ?_)
      have b1 := hM.a_24 (i := k) (by omega) k9
      refine g_getr 0 3 rfl hS.k66 hM.f_66_0 (by decide) ?_
      refine g_getr 7 26 rfl hS.k3 hM.f_3_7 (by decide) ?_
      refine g_ldu hS.k26 hS.l26 (by omega) k9 (fun v2 ev2 => ?_)
      have b2 := hM.a_26 (i := k) (by omega) k9
      rw [← ev1] at b1
      rw [← ev2] at b2
      rw [F 24 k (by omega) (by omega), q24] at ev1
      rw [F 26 k (by omega) (by omega), q26] at ev2
      refine ⟨hS.k55, ?_⟩
      refine zq_suppose hS hM h0 h4 (by decide) (by decide) b1.1 b1.2 b2.1 (by omega) (fun m1 hm1 f1 hs1 => ?_)
      have F1 : ∀ c p : Int, ¬ c = 56 → ¬ (c = 55 ∧ 4 ≤ p) → m1 c p = m c p := fun c p a1 a2 => by rw [f1 c p a2, F c p a1 a2]
      refine g_getr 1 55 rfl hS.k66 hm1.f_66_1 (by decide) ?_
      refine g_getr 0 3 rfl hS.k66 hm1.f_66_0 (by decide) ?_
      refine g_getr 6 25 rfl hS.k3 hm1.f_3_6 (by decide) ?_
      refine g_ldu hS.k25 hS.l25 (by omega) k9 (fun v3 ev3 => ?_)
      have b25 := hm1.a_25 (i := k) (by omega) k9
      rw [← ev3] at b25
      rw [F1 25 k (by omega) (by omega), q25] at ev3
      refine ⟨hS.k55, ?_⟩
      refine zq_holdFor (o := o) (D := D) (k := 0) hS hm1 (hr.keep (fun c p z => F1 c p (by omega) (by omega))) (tl.move db b3 (fun p _ _ => F1 _ p (by omega) (by omega)) (fun c p q => F1 _ p (by unfold inT at q; omega) (by unfold inT at q; omega)) (fun p _ => rfl)) (by rw [F1 55 2 (by omega) (by omega)]; exact ic) hb h0 h4 hD b1.1 b1.2 b2.1 b25.1 (by omega) (hs1 o D) (fun m2 hm2 f2 hs2 => ?_)
      have F2 : ∀ c p : Int, ¬ c = 56 → ¬ (c = 55 ∧ 4 ≤ p) → m2 c p = m c p := fun c p a1 a2 => by rw [f2 c p a1 a2, F1 c p a1 a2]
      rw [Nat.zero_add] at hs2
      have y6 := hs2.2.2.1
      refine g_getr 1 55 rfl hS.k66 hm2.f_66_1 (by decide) ?_
      refine g_getu 6 rfl hS.k55 (fun v4 ev4 => ?_)
      rw [y6, ev1, ev2, ev3] at ev4
      refine g_getr 0 3 rfl hS.k66 hm2.f_66_0 (by decide) ?_
      refine g_getr 8 27 rfl hS.k3 hm2.f_3_8 (by decide) ?_
      refine g_ldu hS.k27 hS.l27 (by omega) k9 (fun v5 ev5 => ?_)
      rw [F2 27 k (by omega) (by omega), q27] at ev5
      rw [ev4, ev5]
      refine g_if (fun w2 => ?_) (fun w2 => g_C ⟨by decide, ?_⟩)
      · refine g_A (by omega) (by omega) ?_
        exact ih (k + 1) m2 (by omega) hm2 F2 (fitB_1 fk w2) (by omega)
      · have g := fitB_0 (o := o) w2 ((D 157).toNat - (k + 1))
        rw [show k + 1 + ((D 157).toNat - (k + 1)) = (D 157).toNat by omega] at g
        rw [g, if_neg (by decide)] at hk
        exact hk m2 hm2 F2
  refine u_X9_passesAll ?_
  refine g_C ?_
  exact ⟨11, L 11 0 m (by omega) hm (fun _ _ _ _ => rfl) rfl (by omega)⟩
end
section
/-! the HANDS that keep to the TESTS, as bits: WHO -/
theorem or_t5 : ∀ n : Nat, n < 5 → ∀ v : Nat, v < 2 ^ n → (0 ≤ iOr (v : Int) (iShl 1 (n : Int)) ∧ iOr (v : Int) (iShl 1 (n : Int)) < 2 ^ (n + 1)) := by decide +kernel
theorem or_05 : ∀ v : Nat, v < 32 → iOr (v : Int) 0 = (v : Int) := by decide +kernel
def btF (u h : Int) : Int := iAnd (iShr u h) 1
theorem zq_isOf {S : Sh} {m : Mm} {K : Int → Mm → Prop} {u h : Int} (h1 : btF u h = 1 → K 1 m) (h0 : ¬ btF u h = 1 → K 0 m) : wp_X12_isOf S m u h K := by
  refine u_X12_isOf ?_
  refine g_Oe (fun v ev => ?_)
  refine g_C ?_
  refine g_Oe (fun v2 ev2 => ?_)
  have e : v2 = btF u h := by rw [ev2, ev]; rfl
  refine g_C ?_
  rw [e]
  exact g_if (fun w => g_C ⟨by decide, h0 w⟩) (fun w => g_C ⟨by decide, h1 (Classical.not_not.mp w)⟩)
def fbT (o : Option (List Cz)) (D : Int → Int) : Nat → Int
  | 0 => 0
  | n + 1 => if fitB o D (n : Int) (D 157).toNat = true then iOr (fbT o D n) (iShl 1 (n : Int)) else fbT o D n
theorem fbT_b {o : Option (List Cz)} {D : Int → Int} : ∀ n : Nat, n ≤ 5 → 0 ≤ fbT o D n ∧ fbT o D n < 2 ^ n := by
  intro n
  induction n with
  | zero => intro _; exact ⟨Int.le_refl 0, by show (0 : Int) < 2 ^ 0; decide⟩
  | succ n ih =>
    intro h
    have a := ih (by omega)
    show 0 ≤ (if fitB o D (n : Int) (D 157).toNat = true then iOr (fbT o D n) (iShl 1 (n : Int)) else fbT o D n) ∧ (if fitB o D (n : Int) (D 157).toNat = true then iOr (fbT o D n) (iShl 1 (n : Int)) else fbT o D n) < 2 ^ (n + 1)
    by_cases q : fitB o D (n : Int) (D 157).toNat = true
    · rw [if_pos q]
      have z := or_t5 n (by omega) (fbT o D n).toNat (by
        have c : ((2 ^ n : Nat) : Int) = 2 ^ n := by rw [Int.natCast_pow]; rfl
        omega)
      rw [Int.toNat_of_nonneg a.1] at z
      exact z
    · rw [if_neg q, Int.pow_succ]
      omega
theorem fbT_31 {o : Option (List Cz)} {D : Int → Int} {n : Nat} (h : n ≤ 5) : 0 ≤ fbT o D n ∧ fbT o D n ≤ 31 := by
  have a := fbT_b (o := o) (D := D) n h
  have p : ∀ k : Nat, k < 6 → (2 : Int) ^ k ≤ 32 := by decide
  have q := p n (by omega)
  exact ⟨a.1, by omega⟩
theorem zq_fitting {X : Mm} {S : Sh} {m : Mm} {K : Int → Mm → Prop} {o : Option (List Cz)} (hS : Shp S) (hm : Inv X S m) (hr : RR m o) (ic : m 336 23 = 0) (hk : ∀ M1 : Mm, Inv X S M1 → (∀ c p : Int, ¬ c = 344 → ¬ c = 345 → ¬ (c = 336 ∧ p = 18) → M1 c p = m c p) → K (fbT o (m 346) (m 346 4).toNat) M1) : wp_X12_fitting S m 336 K := by
  have b4 := hm.f_346_4
  have L : ∀ (l k : Nat) (v : Int) (M : Mm), (k : Int) ≤ m 346 4 → Inv X S M → (∀ c p : Int, ¬ c = 344 → ¬ c = 345 → ¬ (c = 336 ∧ p = 18) → M c p = m c p) → v = fbT o (m 346) k → 6 - k ≤ l → wp_X12_fitting_4 S K l 336 v k M := by
    intro l
    induction l with
    | zero => intro k v M k1 _ _ _ hl; exfalso; omega
    | succ l ih =>
      intro k v M k1 hM F ev hl
      have e46 : M 346 = m 346 := funext (fun p => F 346 p (by omega) (by omega) (by omega))
      have vb := fbT_31 (o := o) (D := m 346) (n := k) (by omega)
      rw [← ev] at vb
      refine u_X12_fitting_4 ?_
      refine g_getr 20 346 rfl hS.k336 hM.f_336_20 (by decide) ?_
      refine g_C ?_
      refine g_ldu hS.k346 hS.l346 (by decide) (by decide) (fun w ew => ?_)
      rw [e46] at ew
      refine g_if (fun z => ?_) (fun z => ?_)
      · have ek : (m 346 4).toNat = k := by omega
        rw [ek, ← ev] at hk
        exact hk M hM F
      have nx : ∀ (v2 t1 : Int) (M' : Mm), Inv X S M' → (∀ c p : Int, ¬ c = 344 → ¬ c = 345 → ¬ (c = 336 ∧ p = 18) → M' c p = m c p) → v2 = iOr v t1 → v2 = fbT o (m 346) (k + 1) → wp_X12_fitting_30 S (fun a0 a1 a2 M => wp_X12_fitting_4 S K l a0 a1 a2 M) K 336 k v t1 M' := by
        intro v2 t1 M' hM' F' e1 e2
        refine u_X12_fitting_30 ?_
        refine g_Oe (fun x ex => ?_)
        rw [ex, ← e1]
        refine g_A (by omega) (by omega) ?_
        exact ih (k + 1) v2 M' (by omega) hM' F' e2 (by omega)
      refine ⟨hS.k336, ?_⟩
      refine zq_fits (o := o) hS hM (hr.keep (fun c p z => F c p (by omega) (by omega) (by omega))) (by rw [F 336 23 (by omega) (by omega) (by omega)]; exact ic) (by omega) (by omega) (fun m1 hm1 f1 => ?_)
      have F1 : ∀ c p : Int, ¬ c = 344 → ¬ c = 345 → ¬ (c = 336 ∧ p = 18) → m1 c p = m c p := fun c p a1 a2 a3 => by rw [f1 c p a1 a2 a3, F c p a1 a2 a3]
      rw [e46]
      by_cases q : fitB o (m 346) (k : Int) (m 346 157).toNat = true
      · rw [if_pos q]
        refine g_ifF (by decide) ?_
        refine g_C ?_
        refine g_Oe (fun x ex => ?_)
        refine nx (iOr v x) x m1 hm1 F1 rfl ?_
        show _ = if fitB o (m 346) (k : Int) (m 346 157).toNat = true then iOr (fbT o (m 346) k) (iShl 1 (k : Int)) else fbT o (m 346) k
        rw [if_pos q, ← ev, ex]
      · rw [if_neg q]
        refine g_ifT rfl ?_
        refine g_C ?_
        have o0 := or_05 v.toNat (by omega)
        rw [Int.toNat_of_nonneg vb.1] at o0
        refine nx v 0 m1 hm1 F1 o0.symm ?_
        show _ = if fitB o (m 346) (k : Int) (m 346 157).toNat = true then iOr (fbT o (m 346) k) (iShl 1 (k : Int)) else fbT o (m 346) k
        rw [if_neg q, ← ev]
  refine u_X12_fitting ?_
  refine g_C ?_
  refine g_C ?_
  exact ⟨6, L 6 0 0 m (by omega) hm (fun _ _ _ _ _ => rfl) rfl (by omega)⟩
theorem zq_byTests {X : Mm} {S : Sh} {m : Mm} {K : Int → Mm → Prop} {o : Option (List Cz)} {D : Int → Int} (hS : Shp S) (hm : Inv X S m) (hr : RC S m o) (db : DB D) (b3 : D 3 ≤ 8) (tl : TL 4 D m) (tt : TT m 3 D) (t10 : 0 ≤ D 157 ∧ D 157 ≤ 10) (ic : m 55 2 = 0) (hb : ∀ h : Int, 0 ≤ h → h ≤ 4 → HB D h) (hk : ∀ M1 : Mm, Inv X S M1 → (∀ c p : Int, ¬ c = 56 → ¬ (c = 55 ∧ 4 ≤ p) → M1 c p = m c p) → K (fbT o D (D 4).toNat) M1) : wp_X9_handsByTests S m 66 K := by
  have b4 := hm.f_4_4
  have t4 : m 4 4 = D 4 := tl.1.2.2.2.2.1
  have L : ∀ (l k : Nat) (v : Int) (M : Mm), (k : Int) ≤ D 4 → Inv X S M → (∀ c p : Int, ¬ c = 56 → ¬ (c = 55 ∧ 4 ≤ p) → M c p = m c p) → v = fbT o D k → 6 - k ≤ l → wp_X9_handsByTests_4 S K l 66 v k M := by
    intro l
    induction l with
    | zero => intro k v M k1 _ _ _ hl; exfalso; omega
    | succ l ih =>
      intro k v M k1 hM F ev hl
      refine u_X9_handsByTests_4 ?_
      refine g_getr 0 3 rfl hS.k66 hM.f_66_0 (by decide) ?_
      refine g_getr 0 4 rfl hS.k3 hM.f_3_0 (by decide) ?_
      refine g_getu 4 rfl hS.k4 (fun w ew => ?_)
      rw [F 4 4 (by omega) (by omega), t4] at ew
      refine g_if (fun z => ?_) (fun z => ?_)
      · have ek : (D 4).toNat = k := by omega
        rw [ek, ← ev] at hk
        exact hk M hM F
      have nx : ∀ (v2 : Int) (M' : Mm), Inv X S M' → (∀ c p : Int, ¬ c = 56 → ¬ (c = 55 ∧ 4 ≤ p) → M' c p = m c p) → v2 = fbT o D (k + 1) → wp_X9_handsByTests_32 S (fun a0 a1 a2 M => wp_X9_handsByTests_4 S K l a0 a1 a2 M) K 66 v2 k M' := by
        intro v2 M' hM' F' e2
        refine u_X9_handsByTests_32 ?_
        refine g_A (by omega) (by omega) ?_
        exact ih (k + 1) v2 M' (by omega) hM' F' e2 (by omega)
      refine ⟨hS.k66, ?_⟩
      refine zq_passes (o := o) (D := D) hS hM (hr.keep (fun c p z => F c p (by omega) (by omega))) db b3 (tl.move db b3 (fun p _ _ => F _ p (by omega) (by omega)) (fun c p q => F _ p (by unfold inT at q; omega) (by unfold inT at q; omega)) (fun p _ => rfl)) ⟨(F 3 4 (by omega) (by omega)).trans tt.1, fun i i0 i1 => ?_⟩ t10 (by rw [F 55 2 (by omega) (by omega)]; exact ic) (hb k (by omega) (by omega)) (by omega) (by omega) (by omega) (fun m1 hm1 f1 => ?_)
      · rw [F _ i (by omega) (by omega), F _ i (by omega) (by omega), F _ i (by omega) (by omega), F _ i (by omega) (by omega)]
        exact tt.2 i i0 i1
      have F1 : ∀ c p : Int, ¬ c = 56 → ¬ (c = 55 ∧ 4 ≤ p) → m1 c p = m c p := fun c p a1 a2 => by rw [f1 c p a1 a2, F c p a1 a2]
      by_cases q : fitB o D (k : Int) (D 157).toNat = true
      · rw [if_pos q]
        refine g_ifF (by decide) ?_
        refine g_C ?_
        refine g_Oe (fun x ex => ?_)
        refine g_Oe (fun y ey => ?_)
        refine nx y m1 hm1 F1 ?_
        show _ = if fitB o D (k : Int) (D 157).toNat = true then iOr (fbT o D k) (iShl 1 (k : Int)) else fbT o D k
        rw [if_pos q, ← ev, ey, ex]
      · rw [if_neg q]
        refine g_ifT rfl ?_
        refine nx v m1 hm1 F1 ?_
        show _ = if fitB o D (k : Int) (D 157).toNat = true then iOr (fbT o D k) (iShl 1 (k : Int)) else fbT o D k
        rw [if_neg q, ← ev]
  refine u_X9_handsByTests ?_
  refine g_C ?_
  refine g_C ?_
  exact ⟨6, L 6 0 0 m (by omega) hm (fun _ _ _ _ => rfl) rfl (by omega)⟩
end
