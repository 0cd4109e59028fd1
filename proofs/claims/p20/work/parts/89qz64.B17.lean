/-! a JUG in a HAND that is not TIRED at first, HOUR by HOUR: WHO and PROBE -/
def stq (o : Option (List Cz)) (D : Int → Int) (h j ro t a b : Int) : Int := tvO o (wds h (D (10 + 5 * h + 3)) b j a (htR D t) t ro 1 (if a < D 2 then 0 else 1))
def hT (o : Option (List Cz)) (D : Int → Int) (h j ro t s : Int) : Nat → Int × Int
  | 0 => (s, 0)
  | k + 1 => (min ((hT o D h j ro t s k).1 + stq o D h j ro (t + k) (hT o D h j ro t s k).1 (hT o D h j ro t s k).2) 999, min ((hT o D h j ro t s k).2 + D (10 + 5 * h + 4)) 99)
theorem hT_s1 {o : Option (List Cz)} {D : Int → Int} {h j ro t s : Int} {k : Nat} : (hT o D h j ro t s (k + 1)).1 = min ((hT o D h j ro t s k).1 + stq o D h j ro (t + k) (hT o D h j ro t s k).1 (hT o D h j ro t s k).2) 999 := rfl
theorem hT_s2 {o : Option (List Cz)} {D : Int → Int} {h j ro t s : Int} {k : Nat} : (hT o D h j ro t s (k + 1)).2 = min ((hT o D h j ro t s k).2 + D (10 + 5 * h + 4)) 99 := rfl
def HB (D : Int → Int) (h : Int) : Prop := (0 ≤ D (10 + 5 * h + 3) ∧ D (10 + 5 * h + 3) ≤ 20) ∧ (0 ≤ D (10 + 5 * h + 4) ∧ D (10 + 5 * h + 4) ≤ 5) ∧ ∀ t : Int, 0 ≤ htR D t ∧ htR D t ≤ 20
theorem HB.of {X : Mm} {S : Sh} {m : Mm} {h : Int} (hm : Inv X S m) (h0 : 0 ≤ h) (h4 : h ≤ 4) : HB (m 346) h := by
  refine ⟨fam_346_13_5_0_4 hm (a := h) (by omega) h0 h4, fam_346_14_5_0_4 hm (a := h) (by omega) h0 h4, fun t => ?_⟩
  have b9 := hm.f_346_9
  have q := htF_b (a := fun k => m 346 (81 + 3 * k)) (b := fun k => m 346 (81 + 3 * k + 1)) (c := fun k => m 346 (81 + 3 * k + 2)) (t := t) (m 346 9).toNat (fun k k0 k1 => fam_346_83_3_0_3 hm (a := k) (by omega) (by omega) (by omega))
  unfold htR
  omega
theorem stq_b {o : Option (List Cz)} {D : Int → Int} {h j ro t a b : Int} (hb : HB D h) (b0 : 0 ≤ b) (b9 : b ≤ 99) : 0 ≤ stq o D h j ro t a b ∧ stq o D h j ro t a b ≤ 64 := by
  unfold stq
  exact tvO_b hb.1 ⟨b0, b9⟩ (hb.2.2 t)
theorem hT_b {o : Option (List Cz)} {D : Int → Int} {h j ro t s : Int} (hb : HB D h) (s0 : 0 ≤ s) (s9 : s ≤ 999) : ∀ k : Nat, (0 ≤ (hT o D h j ro t s k).1 ∧ (hT o D h j ro t s k).1 ≤ 999) ∧ (0 ≤ (hT o D h j ro t s k).2 ∧ (hT o D h j ro t s k).2 ≤ 99) := by
  intro k
  induction k with
  | zero => exact ⟨⟨s0, s9⟩, by show (0 : Int) ≤ 0; decide, by show (0 : Int) ≤ 99; decide⟩
  | succ k ih =>
    have z := stq_b (o := o) (j := j) (ro := ro) (t := t + k) (a := (hT o D h j ro t s k).1) hb ih.2.1 ih.2.2
    have d := hb.2.1
    rw [hT_s1, hT_s2]
    omega
theorem zq_turnedBy {X : Mm} {S : Sh} {m : Mm} {K : Int → Mm → Prop} {o : Option (List Cz)} {h j s n t ro : Int} (hS : Shp S) (hm : Inv X S m) (hr : RR m o) (ic : m 336 23 = 0) (h0 : 0 ≤ h) (h4 : h ≤ 4) (s0 : 0 ≤ s) (s9 : s ≤ 999) (n0 : 0 ≤ n) (n9 : n ≤ 9999) (t0 : 0 ≤ t) (t9 : t ≤ 9999) (hk : ∀ M1 : Mm, Inv X S M1 → (∀ c p : Int, ¬ c = 344 → ¬ c = 345 → ¬ (c = 336 ∧ p = 18) → M1 c p = m c p) → K (hT o (m 346) h j ro t s n.toNat).1 M1) : wp_X12_turnedBy S m 336 h j s n t ro K := by
  have hb : HB (m 346) h := HB.of hm h0 h4
  have L : ∀ (l k : Nat) (a b : Int) (M : Mm), (k : Int) ≤ n → Inv X S M → (∀ c p : Int, ¬ c = 344 → ¬ c = 345 → ¬ (c = 336 ∧ p = 18) → M c p = m c p) → a = (hT o (m 346) h j ro t s k).1 → b = (hT o (m 346) h j ro t s k).2 → n.toNat + 1 - k ≤ l → wp_X12_turnedBy_9 S K l 336 h j n t ro a b k M := by
    intro l
    induction l with
    | zero => intro k a b M k1 _ _ _ _ hl; exfalso; omega
    | succ l ih =>
      intro k a b M k1 hM F ea eb hl
      have q := hT_b (o := o) (j := j) (ro := ro) (t := t) hb s0 s9 k
      rw [← ea, ← eb] at q
      have e46 : M 346 = m 346 := funext (fun p => F 346 p (by omega) (by omega) (by omega))
      refine u_X12_turnedBy_9 ?_
      refine g_if (fun w => ?_) (fun w => ?_)
      · have ek : n.toNat = k := by omega
        rw [ek, ← ea] at hk
        exact hk M hM F
      refine g_A (by omega) (by omega) ?_
      refine g_C ?_
      refine ⟨hS.k336, ?_⟩
      refine zh_turnsIn hS hM (hr.keep (fun c p z => F c p (by omega) (by omega) (by omega))) h0 h4 q.2.1 q.2.2 (fun m1 hm1 f1 => ?_)
      have ez : tvO o (wds h (M 346 (10 + 5 * h + 3)) b j a (if M 336 23 = 0 then htR (M 346) (t + (k : Int)) else 0) (t + (k : Int)) ro 1 (if a < M 346 2 then 0 else 1)) = stq o (m 346) h j ro (t + (k : Int)) a b := by
        rw [F 336 23 (by omega) (by omega) (by omega), if_pos ic, e46]
        rfl
      rw [ez]
      have z := stq_b (o := o) (j := j) (ro := ro) (t := t + (k : Int)) (a := a) hb q.2.1 q.2.2
      have d := hb.2.1
      have F1 : ∀ c p : Int, ¬ c = 344 → ¬ c = 345 → ¬ (c = 336 ∧ p = 18) → m1 c p = m c p := fun c p a1 a2 a3 => by rw [f1 c p a1 a2 a3, F c p a1 a2 a3]
      refine g_A (by omega) (by omega) ?_
      refine g_C ?_
      refine zh_atMost ?_
      refine ⟨hS.k336, ?_⟩
      refine zh_moreTired hS hm1 h0 h4 q.2.1 q.2.2 ?_
      rw [F1 346 _ (by omega) (by omega) (by omega)]
      refine g_A (by omega) (by omega) ?_
      exact ih (k + 1) _ _ m1 (by omega) hm1 F1 (by rw [hT_s1, ← ea, ← eb]) (by rw [hT_s2, ← eb]) (by omega)
  refine u_X12_turnedBy ?_
  refine g_C ?_
  refine g_C ?_
  exact ⟨n.toNat + 1, L (n.toNat + 1) 0 s 0 m (by omega) hm (fun _ _ _ _ _ => rfl) rfl rfl (by omega)⟩
/-- the class's hand and jug that are supposed -/
def HS (M : Mm) (o : Option (List Cz)) (D : Int → Int) (h j ro t s : Int) (k : Nat) : Prop := M 55 4 = h ∧ M 55 5 = j ∧ M 55 6 = (hT o D h j ro t s k).1 ∧ M 55 7 = (hT o D h j ro t s k).2 ∧ M 55 8 = t + (k : Int) ∧ M 55 10 = ro ∧ M 55 11 = 1
theorem zq_suppose {X : Mm} {S : Sh} {m : Mm} {K : Mm → Prop} {h j s t : Int} (hS : Shp S) (hm : Inv X S m) (h0 : 0 ≤ h) (h4 : h ≤ 4) (j0 : 0 ≤ j) (j3 : j ≤ 3) (s0 : 0 ≤ s) (s9 : s ≤ 999) (t0 : 0 ≤ t) (t9 : t ≤ 999) (hk : ∀ M1 : Mm, Inv X S M1 → (∀ c p : Int, ¬ (c = 55 ∧ 4 ≤ p) → M1 c p = m c p) → (∀ (o : Option (List Cz)) (D : Int → Int), HS M1 o D h j 0 t s 0) → K M1) : wp_X10_suppose S m 55 h j s t K := by
  refine u_X10_suppose ?_
  refine g_put 4 rfl hS.k55 (hm.w_55_4 h0 h4) (fun m1 e1 hm1 => ?_)
  have f1 : ∀ c p : Int, ¬ (c = 55 ∧ p = 4) → m1 c p = m c p := fun c p q => (congrFun (congrFun e1 _) _).trans (up_ne q)
  have y1 : m1 55 4 = h := (congrFun (congrFun e1 _) _).trans (up_at _ _ _ _)
  refine g_put 5 rfl hS.k55 (hm1.w_55_5 j0 j3) (fun m2 e2 hm2 => ?_)
  have f2 : ∀ c p : Int, ¬ (c = 55 ∧ p = 5) → m2 c p = m1 c p := fun c p q => (congrFun (congrFun e2 _) _).trans (up_ne q)
  have y2 : m2 55 5 = j := (congrFun (congrFun e2 _) _).trans (up_at _ _ _ _)
  refine g_put 6 rfl hS.k55 (hm2.w_55_6 s0 s9) (fun m3 e3 hm3 => ?_)
  have f3 : ∀ c p : Int, ¬ (c = 55 ∧ p = 6) → m3 c p = m2 c p := fun c p q => (congrFun (congrFun e3 _) _).trans (up_ne q)
  have y3 : m3 55 6 = s := (congrFun (congrFun e3 _) _).trans (up_at _ _ _ _)
  refine g_C ?_
  refine g_put 7 rfl hS.k55 (hm3.w_55_7 (by decide) (by decide)) (fun m4 e4 hm4 => ?_)
  have f4 : ∀ c p : Int, ¬ (c = 55 ∧ p = 7) → m4 c p = m3 c p := fun c p q => (congrFun (congrFun e4 _) _).trans (up_ne q)
  have y4 : m4 55 7 = 0 := (congrFun (congrFun e4 _) _).trans (up_at _ _ _ _)
  refine g_put 8 rfl hS.k55 (hm4.w_55_8 t0 t9) (fun m5 e5 hm5 => ?_)
  have f5 : ∀ c p : Int, ¬ (c = 55 ∧ p = 8) → m5 c p = m4 c p := fun c p q => (congrFun (congrFun e5 _) _).trans (up_ne q)
  have y5 : m5 55 8 = t := (congrFun (congrFun e5 _) _).trans (up_at _ _ _ _)
  refine g_C ?_
  refine g_put 10 rfl hS.k55 (hm5.w_55_10 (by decide) (by decide)) (fun m6 e6 hm6 => ?_)
  have f6 : ∀ c p : Int, ¬ (c = 55 ∧ p = 10) → m6 c p = m5 c p := fun c p q => (congrFun (congrFun e6 _) _).trans (up_ne q)
  have y6 : m6 55 10 = 0 := (congrFun (congrFun e6 _) _).trans (up_at _ _ _ _)
  refine g_C ?_
  refine g_put 11 rfl hS.k55 (hm6.w_55_11 (by decide) (by decide)) (fun m7 e7 hm7 => ?_)
  have f7 : ∀ c p : Int, ¬ (c = 55 ∧ p = 11) → m7 c p = m6 c p := fun c p q => (congrFun (congrFun e7 _) _).trans (up_ne q)
  have y7 : m7 55 11 = 1 := (congrFun (congrFun e7 _) _).trans (up_at _ _ _ _)
  refine hk m7 hm7 (fun c p q => ?_) (fun o D => ⟨?_, ?_, ?_, ?_, ?_, ?_, y7⟩)
  · rw [f7 c p (by omega), f6 c p (by omega), f5 c p (by omega), f4 c p (by omega), f3 c p (by omega), f2 c p (by omega), f1 c p (by omega)]
  · rw [f7 55 4 (by decide), f6 55 4 (by decide), f5 55 4 (by decide), f4 55 4 (by decide), f3 55 4 (by decide), f2 55 4 (by decide), y1]
  · rw [f7 55 5 (by decide), f6 55 5 (by decide), f5 55 5 (by decide), f4 55 5 (by decide), f3 55 5 (by decide), y2]
  · rw [f7 55 6 (by decide), f6 55 6 (by decide), f5 55 6 (by decide), f4 55 6 (by decide), y3]
    rfl
  · rw [f7 55 7 (by decide), f6 55 7 (by decide), f5 55 7 (by decide), y4]
    rfl
  · rw [f7 55 8 (by decide), f6 55 8 (by decide), y5]
    exact (Int.add_zero t).symm
  · rw [f7 55 10 (by decide), y6]
theorem zq_holdFor {X : Mm} {S : Sh} {m : Mm} {K : Mm → Prop} {o : Option (List Cz)} {D : Int → Int} {h j ro t s n : Int} {k : Nat} (hS : Shp S) (hm : Inv X S m) (hr : RC S m o) (tl : TL 4 D m) (ic : m 55 2 = 0) (hb : HB D h) (h0 : 0 ≤ h) (h4 : h ≤ 4) (hD : h < D 4) (s0 : 0 ≤ s) (s9 : s ≤ 999) (t0 : 0 ≤ t) (n0 : 0 ≤ n) (tn : t + (k : Int) + n ≤ 999) (hs : HS m o D h j ro t s k) (hk : ∀ M1 : Mm, Inv X S M1 → (∀ c p : Int, ¬ c = 56 → ¬ (c = 55 ∧ 4 ≤ p) → M1 c p = m c p) → HS M1 o D h j ro t s (k + n.toNat) → K M1) : wp_X10_holdFor S m 55 n K := by
  have t7 : m 7 h = D (10 + 5 * h + 3) := (tl.2.2.1 h h0 hD).1
  have t8 : m 8 h = D (10 + 5 * h + 4) := (tl.2.2.1 h h0 hD).2
  have t2 : m 4 2 = D 2 := tl.1.2.2.1
  have he : ∀ x : Int, heC m x = htR D x := fun x => by
    unfold heC
    rw [if_pos ic]
    exact ht_eq tl
  have L : ∀ (l i : Nat) (M : Mm), (i : Int) ≤ n → Inv X S M → (∀ c p : Int, ¬ c = 56 → ¬ (c = 55 ∧ 4 ≤ p) → M c p = m c p) → HS M o D h j ro t s (k + i) → n.toNat + 1 - i ≤ l → wp_X10_holdFor_2 S K l 55 n i M := by
    intro l
    induction l with
    | zero => intro i M i1 _ _ _ hl; exfalso; omega
    | succ l ih =>
      intro i M i1 hM F H hl
      have q := hT_b (o := o) (j := j) (ro := ro) (t := t) hb s0 s9 (k + i)
      refine u_X10_holdFor_2 ?_
      refine g_if (fun w => ?_) (fun w => ?_)
      · have ei : n.toNat = i := by omega
        rw [ei] at hk
        exact hk M hM F H
      obtain ⟨y4, y5, y6, y7, y8, y10, y11⟩ := id H
      obtain ⟨x, ex⟩ : ∃ x : Int, x = t + ((k + i : Nat) : Int) := ⟨_, rfl⟩
      obtain ⟨a, ea⟩ : ∃ a : Int, a = (hT o D h j ro t s (k + i)).1 := ⟨_, rfl⟩
      obtain ⟨b, eb⟩ : ∃ b : Int, b = (hT o D h j ro t s (k + i)).2 := ⟨_, rfl⟩
      rw [← ea, ← eb] at q
      rw [← ea] at y6
      rw [← eb] at y7
      rw [← ex] at y8
      refine g_C ?_
      refine g_getu 6 rfl hS.k55 (fun v ev => ?_)
      rw [y6] at ev
      refine ⟨hS.k55, ?_⟩
      refine zh_turns hS hM (hr.keep (fun c p z => F c p (by omega) (by omega))) (fun m1 hm1 f1 => ?_)
      have e1 : (if M 55 2 = 0 then ht8 M (M 55 8) else 0) = htR D x := by
        rw [y8, ← he]
        exact heC_same (fun c p z => F c p (by omega) (by omega))
      have e2 : tvO o (wdH M (htR D x)) = stq o D h j ro x a b := by
        unfold wdH stq
        rw [y4, y5, y6, y7, y8, y10, y11, F 7 h (by omega) (by omega), F 4 2 (by omega) (by omega), t7, t2]
      rw [e1, e2]
      have z := stq_b (o := o) (j := j) (ro := ro) (t := x) (a := a) hb q.2.1 q.2.2
      have d := hb.2.1
      refine g_A (by omega) (by omega) ?_
      refine g_mne ?_
      refine g_put 6 rfl hS.k55 (hm1.w_55_6 (by omega) (by omega)) (fun m2 e2 hm2 => ?_)
      have f2 : ∀ c p : Int, ¬ (c = 55 ∧ p = 6) → m2 c p = m1 c p := fun c p q => (congrFun (congrFun e2 _) _).trans (up_ne q)
      have x2 : m2 55 6 = min 999 (v + stq o D h j ro x a b) := (congrFun (congrFun e2 _) _).trans (up_at _ _ _ _)
      refine g_C ?_
      refine g_getu 7 rfl hS.k55 (fun ti eti => ?_)
      rw [f2 55 7 (by decide), f1 55 7 (by decide) (by decide), y7] at eti
      refine g_getr 0 4 rfl hS.k55 hm2.f_55_0 (by decide) ?_
      refine g_getr 11 8 rfl hS.k4 hm2.f_4_11 (by decide) ?_
      refine g_getu 4 rfl hS.k55 (fun hh ehh => ?_)
      rw [f2 55 4 (by decide), f1 55 4 (by decide) (by decide), y4] at ehh
      rw [ehh]
      refine g_ldu hS.k8 hS.l8 h0 (by omega) (fun ts ets => ?_)
      rw [f2 8 h (by omega), f1 8 h (by omega) (by omega), F 8 h (by omega) (by omega), t8] at ets
      refine g_A (by omega) (by omega) ?_
      refine g_mne ?_
      refine g_put 7 rfl hS.k55 (hm2.w_55_7 (by omega) (by omega)) (fun m3 e3 hm3 => ?_)
      have f3 : ∀ c p : Int, ¬ (c = 55 ∧ p = 7) → m3 c p = m2 c p := fun c p q => (congrFun (congrFun e3 _) _).trans (up_ne q)
      have x3 : m3 55 7 = min 99 (ti + ts) := (congrFun (congrFun e3 _) _).trans (up_at _ _ _ _)
      refine g_C ?_
      refine g_getu 8 rfl hS.k55 (fun u eu => ?_)
      rw [f3 55 8 (by decide), f2 55 8 (by decide), f1 55 8 (by decide) (by decide), y8] at eu
      refine g_C ?_
      refine g_A (by omega) (by omega) ?_
      refine g_mne ?_
      refine g_put 8 rfl hS.k55 (hm3.w_55_8 (by omega) (by omega)) (fun m4 e4 hm4 => ?_)
      have f4 : ∀ c p : Int, ¬ (c = 55 ∧ p = 8) → m4 c p = m3 c p := fun c p q => (congrFun (congrFun e4 _) _).trans (up_ne q)
      have x4 : m4 55 8 = min 999 (u + 1) := (congrFun (congrFun e4 _) _).trans (up_at _ _ _ _)
      refine g_A (by omega) (by omega) ?_
      refine ih (i + 1) m4 (by omega) hm4 (fun c p q1 q2 => ?_) ⟨?_, ?_, ?_, ?_, ?_, ?_, ?_⟩ (by omega)
      · rw [f4 c p (by omega), f3 c p (by omega), f2 c p (by omega), f1 c p q1 (by omega), F c p q1 q2]
      · rw [f4 55 4 (by decide), f3 55 4 (by decide), f2 55 4 (by decide), f1 55 4 (by decide) (by decide), y4]
      · rw [f4 55 5 (by decide), f3 55 5 (by decide), f2 55 5 (by decide), f1 55 5 (by decide) (by decide), y5]
      · rw [f4 55 6 (by decide), f3 55 6 (by decide), x2, show k + (i + 1) = (k + i) + 1 from rfl, hT_s1, ← ea, ← eb, ← ex]
        omega
      · rw [f4 55 7 (by decide), x3, show k + (i + 1) = (k + i) + 1 from rfl, hT_s2, ← eb]
        omega
      · rw [x4]
        omega
      · rw [f4 55 10 (by decide), f3 55 10 (by decide), f2 55 10 (by decide), f1 55 10 (by decide) (by decide), y10]
      · rw [f4 55 11 (by decide), f3 55 11 (by decide), f2 55 11 (by decide), f1 55 11 (by decide) (by decide), y11]
  refine u_X10_holdFor ?_
  refine g_C ?_
  exact ⟨n.toNat + 1, L (n.toNat + 1) 0 m (by omega) hm (fun _ _ _ _ => rfl) hs (by omega)⟩
