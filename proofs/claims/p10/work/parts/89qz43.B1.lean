/-! an HOUR of the class over a STATE in cell c (16: the real one, 68: a supposed one) -/
def soF (a b : Int → Int) (s : Int) : Nat → Int
  | 0 => 0
  | n + 1 => soF a b s n + (if a n < s ∧ s ≤ b n then 1 else 0)
theorem soF_same {a b a' b' : Int → Int} {s : Int} : ∀ n : Nat, (∀ j : Int, 0 ≤ j → j < n → a' j = a j ∧ b' j = b j) → soF a' b' s n = soF a b s n := by
  intro n
  induction n with
  | zero => intro _; rfl
  | succ n ih =>
    intro h
    have q := h n (by omega) (by omega)
    show soF a' b' s n + (if a' n < s ∧ s ≤ b' n then 1 else 0) = soF a b s n + (if a n < s ∧ s ≤ b n then 1 else 0)
    rw [ih (fun j j0 j1 => h j j0 (by omega)), q.1, q.2]
theorem soF_b {a b : Int → Int} {s : Int} : ∀ n : Nat, 0 ≤ soF a b s n ∧ soF a b s n ≤ n := by
  intro n
  induction n with
  | zero => exact ⟨Int.le_refl 0, Int.le_refl 0⟩
  | succ n ih =>
    show 0 ≤ soF a b s n + (if a n < s ∧ s ≤ b n then 1 else 0) ∧ soF a b s n + (if a n < s ∧ s ≤ b n then 1 else 0) ≤ ((n + 1 : Nat) : Int)
    split <;> omega
theorem soF_succ {a b : Int → Int} {s j : Int} (j0 : 0 ≤ j) : soF a b s (j + 1).toNat = soF a b s j.toNat + (if a j < s ∧ s ≤ b j then 1 else 0) := by
  obtain ⟨n, rfl⟩ : ∃ n : Nat, j = n := ⟨j.toNat, by omega⟩
  rw [show ((n : Int) + 1).toNat = n + 1 by omega, show ((n : Int)).toNat = n by omega]
  rfl
theorem g_mne {a b : Int} {K : Int → Prop} (h : K (min a b)) : wO min a b K := h
theorem g_mxe {a b : Int} {K : Int → Prop} (h : K (max a b)) : wO max a b K := h
def heC (m : Mm) (t : Int) : Int := if m 55 2 = 0 then ht8 m t else 0
def wdS (m : Mm) (c j h : Int) : Int → Int := wds h (m 7 h) (m (c + 3) h) j (m (c + 6) j) (heC m (m c 0)) (m c 0) (if m (c + 2) h = 0 then 0 else 1) (bcF (hbt (m (c + 5)) h 4)) (if m (c + 6) j < m 4 2 then 0 else 1)
def tnC (o : Option (List Cz)) (m : Mm) (c j : Int) : Int := if m (c + 4) j = -1 then (if m (c + 5) j = -1 then 0 else tvO o (wdS m c j (m (c + 5) j))) else m 4 1 + heC m (m c 0)
theorem heC_same {m m' : Mm} {t : Int} (F : ∀ c p : Int, (c = 4 ∨ c = 9 ∨ c = 10 ∨ c = 11 ∨ (c = 55 ∧ p = 2)) → m' c p = m c p) : heC m' t = heC m t := by
  unfold heC ht8
  rw [F 55 2 (by first | decide | exact fun z => absurd z.1 (by decide) | exact ⟨fun z => absurd z.1 (by decide), fun z => absurd z.1 (by decide)⟩ | omega), F 4 6 (by first | decide | exact fun z => absurd z.1 (by decide) | exact ⟨fun z => absurd z.1 (by decide), fun z => absurd z.1 (by decide)⟩ | omega), htF_same _ (fun k _ _ => ⟨F 9 k (by first | decide | exact fun z => absurd z.1 (by decide) | exact ⟨fun z => absurd z.1 (by decide), fun z => absurd z.1 (by decide)⟩ | omega), F 10 k (by first | decide | exact fun z => absurd z.1 (by decide) | exact ⟨fun z => absurd z.1 (by decide), fun z => absurd z.1 (by decide)⟩ | omega), F 11 k (by first | decide | exact fun z => absurd z.1 (by decide) | exact ⟨fun z => absurd z.1 (by decide), fun z => absurd z.1 (by decide)⟩ | omega)⟩)]
theorem tnC_same {o : Option (List Cz)} {m m' : Mm} {c j : Int} (F : ∀ c' p : Int, (c' = 4 ∨ c' = 7 ∨ c' = 9 ∨ c' = 10 ∨ c' = 11 ∨ (c' = 55 ∧ p = 2) ∨ (c ≤ c' ∧ c' ≤ c + 5) ∨ (c' = c + 6 ∧ p = j)) → m' c' p = m c' p) : tnC o m' c j = tnC o m c j := by
  have e : ∀ t : Int, heC m' t = heC m t := fun t => heC_same (fun c p q => F c p (by omega))
  unfold tnC wdS
  rw [F (c + 4) j (by omega), F (c + 5) j (by omega), F c 0 (by omega), F 4 1 (by first | decide | exact fun z => absurd z.1 (by decide) | exact ⟨fun z => absurd z.1 (by decide), fun z => absurd z.1 (by decide)⟩ | omega), F 4 2 (by first | decide | exact fun z => absurd z.1 (by decide) | exact ⟨fun z => absurd z.1 (by decide), fun z => absurd z.1 (by decide)⟩ | omega), F (c + 6) j (by omega), e, F 7 _ (by first | decide | exact fun z => absurd z.1 (by decide) | exact ⟨fun z => absurd z.1 (by decide), fun z => absurd z.1 (by decide)⟩ | omega), F (c + 3) _ (by omega), F (c + 2) _ (by omega), show m' (c + 5) = m (c + 5) from funext (fun p => F _ p (by omega))]
theorem RC.keep {S : Sh} {m m' : Mm} {o : Option (List Cz)} (h : RC S m o) (F : ∀ c p : Int, (358 ≤ c ∨ (c = 55 ∧ p = 1)) → m' c p = m c p) : RC S m' o := by
  cases o with
  | none => exact (F 55 1 (by first | decide | exact fun z => absurd z.1 (by decide) | exact ⟨fun z => absurd z.1 (by decide), fun z => absurd z.1 (by decide)⟩ | omega)).trans h
  | some Cs =>
    refine RC.same h (F 55 1 (by first | decide | exact fun z => absurd z.1 (by decide) | exact ⟨fun z => absurd z.1 (by decide), fun z => absurd z.1 (by decide)⟩ | omega)) (fun c p q => ?_)
    rcases q with q | q
    · exact F c p (Or.inr q)
    · obtain ⟨a1, a2, a3, _⟩ := h
      rcases a3 with z | z
      · exact absurd z a1
      · exact F c p (Or.inl (by have := z.2.2; omega))
theorem zh_see {X : Mm} {S : Sh} {m : Mm} {K : Mm → Prop} {c h j : Int} (hS : Shp S) (hm : Inv X S m) (hb : isSt c) (hc : c = 16 ∨ c = 68) (h0 : 0 ≤ h) (h4 : h ≤ 4) (j0 : 0 ≤ j) (j3 : j ≤ 3) (hk : ∀ M1 : Mm, Inv X S M1 → (∀ c p : Int, ¬ (c = 55 ∧ 4 ≤ p) → M1 c p = m c p) → M1 55 4 = h → M1 55 5 = j → M1 55 6 = m (c + 6) j → M1 55 7 = m (c + 3) h → M1 55 8 = m c 0 → M1 55 10 = (if m (c + 2) h = 0 then 0 else 1) → M1 55 11 = bcF (hbt (m (c + 5)) h 4) → K M1) : wp_X10_see S m 55 c h j K := by
  refine u_X10_see ?_
  refine g_put 4 rfl hS.k55 (hm.w_55_4 h0 h4) (fun m1 e1 hm1 => ?_)
  have f1 : ∀ c p : Int, ¬ (c = 55 ∧ p = 4) → m1 c p = m c p := fun c p q => (congrFun (congrFun e1 _) _).trans (up_ne q)
  have y1 : m1 55 4 = h := (congrFun (congrFun e1 _) _).trans (up_at _ _ _ _)
  refine g_put 5 rfl hS.k55 (hm1.w_55_5 j0 j3) (fun m2 e2 hm2 => ?_)
  have f2 : ∀ c p : Int, ¬ (c = 55 ∧ p = 5) → m2 c p = m1 c p := fun c p q => (congrFun (congrFun e2 _) _).trans (up_ne q)
  have y2 : m2 55 5 = j := (congrFun (congrFun e2 _) _).trans (up_at _ _ _ _)
  refine g_getr 7 (c + 6) rfl (hS.kB_5_0 hb) (hm2.fB_5_7 hb) (hS.nB_5_6 hb) ?_
  have b6 := hm2.aB_5_6 hb j0 (by omega)
  refine g_ldu (hS.kB_5_6 hb) (hS.lB_5_6 hb) j0 (by omega) (fun v3 ev3 => ?_)
  refine g_put 6 rfl hS.k55 (hm2.w_55_6 (by omega) (by omega)) (fun m3 e3 hm3 => ?_)
  have f3 : ∀ c p : Int, ¬ (c = 55 ∧ p = 6) → m3 c p = m2 c p := fun c p q => (congrFun (congrFun e3 _) _).trans (up_ne q)
  have y3 : m3 55 6 = v3 := (congrFun (congrFun e3 _) _).trans (up_at _ _ _ _)
  refine g_getr 4 (c + 3) rfl (hS.kB_5_0 hb) (hm3.fB_5_4 hb) (hS.nB_5_3 hb) ?_
  have b3 := hm3.aB_5_3 hb h0 (by omega)
  refine g_ldu (hS.kB_5_3 hb) (hS.lB_5_3 hb) h0 (by omega) (fun v4 ev4 => ?_)
  refine g_put 7 rfl hS.k55 (hm3.w_55_7 (by omega) (by omega)) (fun m4 e4 hm4 => ?_)
  have f4 : ∀ c p : Int, ¬ (c = 55 ∧ p = 7) → m4 c p = m3 c p := fun c p q => (congrFun (congrFun e4 _) _).trans (up_ne q)
  have y4 : m4 55 7 = v4 := (congrFun (congrFun e4 _) _).trans (up_at _ _ _ _)
  have bh := hm4.fB_5_0 hb
  refine g_getu 0 rfl (hS.kB_5_0 hb) (fun v5 ev5 => ?_)
  refine g_put 8 rfl hS.k55 (hm4.w_55_8 (by omega) (by omega)) (fun m5 e5 hm5 => ?_)
  have f5 : ∀ c p : Int, ¬ (c = 55 ∧ p = 8) → m5 c p = m4 c p := fun c p q => (congrFun (congrFun e5 _) _).trans (up_ne q)
  have y5 : m5 55 8 = v5 := (congrFun (congrFun e5 _) _).trans (up_at _ _ _ _)
  have F5 : ∀ c p : Int, ¬ c = 55 → m5 c p = m c p := fun c p q => by rw [f5 c p (by first | exact fun y => absurd (y.1 ▸ z) (by decide) | exact fun y => absurd (y.1 ▸ q) (by decide) | exact z | exact q | exact z.1 | exact q.1 | exact z.2 | exact q.2 | omega), f4 c p (by first | exact fun y => absurd (y.1 ▸ z) (by decide) | exact fun y => absurd (y.1 ▸ q) (by decide) | exact z | exact q | exact z.1 | exact q.1 | exact z.2 | exact q.2 | omega), f3 c p (by first | exact fun y => absurd (y.1 ▸ z) (by decide) | exact fun y => absurd (y.1 ▸ q) (by decide) | exact z | exact q | exact z.1 | exact q.1 | exact z.2 | exact q.2 | omega), f2 c p (by first | exact fun y => absurd (y.1 ▸ z) (by decide) | exact fun y => absurd (y.1 ▸ q) (by decide) | exact z | exact q | exact z.1 | exact q.1 | exact z.2 | exact q.2 | omega), f1 c p (by first | exact fun y => absurd (y.1 ▸ z) (by decide) | exact fun y => absurd (y.1 ▸ q) (by decide) | exact z | exact q | exact z.1 | exact q.1 | exact z.2 | exact q.2 | omega)]
  have go : ∀ v : Int, v = (if m (c + 2) h = 0 then 0 else 1) → wp_X10_see_52 S K 55 c h 55 v m5 := by
    intro v ev
    have bv : 0 ≤ v ∧ v ≤ 1 := by rw [ev]; split <;> omega
    refine u_X10_see_52 ?_
    refine g_put 10 rfl hS.k55 (hm5.w_55_10 bv.1 bv.2) (fun m6 e6 hm6 => ?_)
    have f6 : ∀ c p : Int, ¬ (c = 55 ∧ p = 10) → m6 c p = m5 c p := fun c p q => (congrFun (congrFun e6 _) _).trans (up_ne q)
    have y6 : m6 55 10 = v := (congrFun (congrFun e6 _) _).trans (up_at _ _ _ _)
    refine ⟨hS.kB_5_0 hb, ?_⟩
    refine u_X5_howManyHeld ?_
    refine ⟨hS.kB_5_0 hb, ?_⟩
    refine zt_heldBits hS hm6 hb ?_
    have bb := hbt_15 (f := m6 (c + 5)) (h := h) (n := 4) (by omega)
    have bt := bc_t (hbt (m6 (c + 5)) h 4).toNat (by omega)
    rw [Int.toNat_of_nonneg bb.1] at bt
    refine zt_bitCount ?_
    refine g_put 11 rfl hS.k55 (hm6.w_55_11 (by omega) (by omega)) (fun m7 e7 hm7 => ?_)
    have f7 : ∀ c p : Int, ¬ (c = 55 ∧ p = 11) → m7 c p = m6 c p := fun c p q => (congrFun (congrFun e7 _) _).trans (up_ne q)
    have y7 : m7 55 11 = bcF (hbt (m6 (c + 5)) h 4) := (congrFun (congrFun e7 _) _).trans (up_at _ _ _ _)
    have e67 : m6 (c + 5) = m (c + 5) := funext (fun p => by rw [f6 _ p (by omega), F5 _ p (by omega)])
    refine hk m7 hm7 (fun c p q => ?_) ?_ ?_ ?_ ?_ ?_ ?_ (by rw [y7, e67])
    · rw [f7 c p (by first | exact fun y => absurd (y.1 ▸ z) (by decide) | exact fun y => absurd (y.1 ▸ q) (by decide) | exact z | exact q | exact z.1 | exact q.1 | exact z.2 | exact q.2 | omega), f6 c p (by first | exact fun y => absurd (y.1 ▸ z) (by decide) | exact fun y => absurd (y.1 ▸ q) (by decide) | exact z | exact q | exact z.1 | exact q.1 | exact z.2 | exact q.2 | omega), f5 c p (by first | exact fun y => absurd (y.1 ▸ z) (by decide) | exact fun y => absurd (y.1 ▸ q) (by decide) | exact z | exact q | exact z.1 | exact q.1 | exact z.2 | exact q.2 | omega), f4 c p (by first | exact fun y => absurd (y.1 ▸ z) (by decide) | exact fun y => absurd (y.1 ▸ q) (by decide) | exact z | exact q | exact z.1 | exact q.1 | exact z.2 | exact q.2 | omega), f3 c p (by first | exact fun y => absurd (y.1 ▸ z) (by decide) | exact fun y => absurd (y.1 ▸ q) (by decide) | exact z | exact q | exact z.1 | exact q.1 | exact z.2 | exact q.2 | omega), f2 c p (by first | exact fun y => absurd (y.1 ▸ z) (by decide) | exact fun y => absurd (y.1 ▸ q) (by decide) | exact z | exact q | exact z.1 | exact q.1 | exact z.2 | exact q.2 | omega), f1 c p (by first | exact fun y => absurd (y.1 ▸ z) (by decide) | exact fun y => absurd (y.1 ▸ q) (by decide) | exact z | exact q | exact z.1 | exact q.1 | exact z.2 | exact q.2 | omega)]
    · rw [f7 55 4 (by decide), f6 55 4 (by decide), f5 55 4 (by decide), f4 55 4 (by decide), f3 55 4 (by decide), f2 55 4 (by decide), y1]
    · rw [f7 55 5 (by decide), f6 55 5 (by decide), f5 55 5 (by decide), f4 55 5 (by decide), f3 55 5 (by decide), y2]
    · rw [f7 55 6 (by decide), f6 55 6 (by decide), f5 55 6 (by decide), f4 55 6 (by decide), y3, ev3, f2 _ j (by omega), f1 _ j (by omega)]
    · rw [f7 55 7 (by decide), f6 55 7 (by decide), f5 55 7 (by decide), y4, ev4, f3 _ h (by omega), f2 _ h (by omega), f1 _ h (by omega)]
    · rw [f7 55 8 (by decide), f6 55 8 (by decide), y5, ev5, f4 c 0 (by omega), f3 c 0 (by omega), f2 c 0 (by omega), f1 c 0 (by omega)]
    · rw [f7 55 10 (by decide), y6, ev]
  refine ⟨hS.kB_5_0 hb, ?_⟩
  refine zt_atPlace hS hm5 hb h0 h4 (fun q => g_ifF (by decide) (g_C (go 0 ?_))) (fun q => g_ifT rfl (g_C (go 1 ?_)))
  · rw [F5 _ h (by omega)] at q; rw [if_pos q]
  · rw [F5 _ h (by omega)] at q; rw [if_neg q]
theorem zh_gone {X : Mm} {S : Sh} {m : Mm} {K : Int → Mm → Prop} {c j : Int} (hS : Shp S) (hm : Inv X S m) (hb : isSt c) (j0 : 0 ≤ j) (j1 : j ≤ 3) (h1 : m (c + 4) j = -1 → m (c + 5) j = -1 → K 1 m) (h0 : ¬ (m (c + 4) j = -1 ∧ m (c + 5) j = -1) → K 0 m) : wp_X5_isGone S m c j K := by
  refine u_X5_isGone ?_
  refine g_getr 5 (c + 4) rfl (hS.kB_5_0 hb) (hm.fB_5_5 hb) (hS.nB_5_4 hb) ?_
  refine g_ldu (hS.kB_5_4 hb) (hS.lB_5_4 hb) j0 (by omega) (fun v ev => ?_)
  refine g_C ?_
  refine g_if (fun w => g_C ⟨by decide, h0 (fun z => w (ev.trans z.1))⟩) (fun w => ?_)
  refine g_getr 6 (c + 5) rfl (hS.kB_5_0 hb) (hm.fB_5_6 hb) (hS.nB_5_5 hb) ?_
  refine g_ldu (hS.kB_5_5 hb) (hS.lB_5_5 hb) j0 (by omega) (fun v2 ev2 => ?_)
  refine g_C ?_
  exact g_if (fun w2 => g_C ⟨by decide, h0 (fun z => w2 (ev2.trans z.2))⟩) (fun w2 => g_C ⟨by decide, h1 (by omega) (by omega)⟩)
theorem tnC_b {X : Mm} {S : Sh} {o : Option (List Cz)} {m : Mm} {c j : Int} (hm : Inv X S m) (hb : isSt c) (j0 : 0 ≤ j) (j3 : j ≤ 3) (b0 : 0 ≤ heC m (m c 0)) (b1 : heC m (m c 0) ≤ 20) : 0 ≤ tnC o m c j ∧ tnC o m c j ≤ 64 := by
  have g := hm.f_4_1
  have b5 := hm.aB_5_5 hb j0 (by omega)
  unfold tnC
  by_cases e : m (c + 4) j = -1
  · rw [if_pos e]
    by_cases e2 : m (c + 5) j = -1
    · rw [if_pos e2]; omega
    · rw [if_neg e2]
      exact tvO_b (hm.a_7 (i := m (c + 5) j) (by omega) (by omega)) (hm.aB_5_3 hb (i := m (c + 5) j) (by omega) (by omega)) ⟨b0, b1⟩
  · rw [if_neg e]; omega
theorem zh_turnsIn1 {X : Mm} {S : Sh} {m : Mm} {K : Int → Mm → Prop} {o : Option (List Cz)} {c j : Int} (hS : Shp S) (hm : Inv X S m) (hr : RC S m o) (hb : isSt c) (hc : c = 16 ∨ c = 68) (j0 : 0 ≤ j) (j3 : j ≤ 3) (hk : ∀ M1 : Mm, Inv X S M1 → (∀ c p : Int, ¬ c = 56 → ¬ (c = 55 ∧ 4 ≤ p) → M1 c p = m c p) → 0 ≤ tnC o m c j → tnC o m c j ≤ 64 → K (tnC o m c j) M1) : wp_X1_turnsIn S m 57 c j K := by
  have hk : 0 ≤ heC m (m c 0) → heC m (m c 0) ≤ 20 → ∀ M1 : Mm, Inv X S M1 → (∀ c p : Int, ¬ c = 56 → ¬ (c = 55 ∧ 4 ≤ p) → M1 c p = m c p) → K (tnC o m c j) M1 := fun b0 b1 M1 h f => hk M1 h f (tnC_b hm hb j0 j3 b0 b1).1 (tnC_b hm hb j0 j3 b0 b1).2
  have hk : ∀ M1 : Mm, Inv X S M1 → (∀ c p : Int, ¬ c = 56 → ¬ (c = 55 ∧ 4 ≤ p) → M1 c p = m c p) → K (tnC o m c j) M1 := by
    have q : (0 ≤ heC m (m c 0) ∧ heC m (m c 0) ≤ 20) := by
      unfold heC
      by_cases ic : m 55 2 = 0
      · rw [if_pos ic]
        have b6 := hm.f_4_6
        have z := htF_b (a := m 9) (b := m 10) (c := m 11) (t := m c 0) (m 4 6).toNat (fun k k0 k1 => hm.a_11 k0 (by omega))
        unfold ht8
        omega
      · rw [if_neg ic]; omega
    exact hk q.1 q.2
  refine u_X1_turnsIn ?_
  refine ⟨hS.kB_5_0 hb, ?_⟩
  refine zt_jug0 hS hm hb j0 j3 (fun s => g_ifF (by decide) ?_) (fun s => g_ifT rfl ?_)
  · refine g_getr 1 4 rfl hS.k57 hm.f_57_1 (by decide) ?_
    have b1 := hm.f_4_1
    refine g_getu 1 rfl hS.k4 (fun g eg => ?_)
    refine g_getr 0 55 rfl hS.k57 hm.f_57_0 (by decide) ?_
    refine g_getu 0 rfl (hS.kB_5_0 hb) (fun t et => ?_)
    subst et
    refine ⟨hS.k55, ?_⟩
    refine zh_heat10 hS hm (fun b0 b1 => ?_)
    refine g_A (by omega) (by omega) ?_
    have q := hk m hm (fun c p _ _ => rfl)
    unfold tnC at q
    rw [if_neg s, ← eg] at q
    exact q
  · refine ⟨hS.kB_5_0 hb, ?_⟩
    refine zh_gone hS hm hb j0 j3 (fun s1 s2 => g_ifF (by decide) (g_C ?_)) (fun s2 => g_ifT rfl ?_)
    · have q := hk m hm (fun c p _ _ => rfl)
      unfold tnC at q
      rw [if_pos s, if_pos s2] at q
      exact q
    have n5 : ¬ m (c + 5) j = -1 := fun z => s2 ⟨s, z⟩
    have b5 := hm.aB_5_5 hb j0 (by omega)
    refine g_getr 0 55 rfl hS.k57 hm.f_57_0 (by decide) ?_
    refine g_getr 6 (c + 5) rfl (hS.kB_5_0 hb) (hm.fB_5_6 hb) (hS.nB_5_5 hb) ?_
    refine g_ldu (hS.kB_5_5 hb) (hS.lB_5_5 hb) j0 (by omega) (fun h eh => ?_)
    refine ⟨hS.k55, ?_⟩
    refine zh_see hS hm hb hc (by omega) (by omega) j0 j3 (fun m1 hm1 f1 y4 y5 y6 y7 y8 y10 y11 => ?_)
    refine g_getr 0 55 rfl hS.k57 hm1.f_57_0 (by decide) ?_
    refine ⟨hS.k55, ?_⟩
    refine zh_turns hS hm1 (hr.keep (fun c p q => f1 c p (by first | exact fun y => absurd (y.1 ▸ z) (by decide) | exact fun y => absurd (y.1 ▸ q) (by decide) | exact z | exact q | exact z.1 | exact q.1 | exact z.2 | exact q.2 | omega))) (fun m2 hm2 f2 => ?_)
    have e1 : (if m1 55 2 = 0 then ht8 m1 (m1 55 8) else 0) = heC m (m c 0) := by
      rw [y8]
      exact heC_same (fun c p q => f1 c p (by first | exact fun y => absurd (y.1 ▸ z) (by decide) | exact fun y => absurd (y.1 ▸ q) (by decide) | exact z | exact q | exact z.1 | exact q.1 | exact z.2 | exact q.2 | omega))
    have e2 : wdH m1 (heC m (m c 0)) = wdS m c j h := by
      unfold wdH wdS
      rw [y4, y5, y6, y7, y8, y10, y11, f1 7 h (by first | decide | exact fun z => absurd z.1 (by decide) | exact ⟨fun z => absurd z.1 (by decide), fun z => absurd z.1 (by decide)⟩ | omega), f1 4 2 (by first | decide | exact fun z => absurd z.1 (by decide) | exact ⟨fun z => absurd z.1 (by decide), fun z => absurd z.1 (by decide)⟩ | omega)]
    rw [e1, e2]
    have q := hk m2 hm2 (fun c p q1 q2 => by rw [f2 c p q1 (by omega), f1 c p q2])
    unfold tnC at q
    rw [if_pos s, if_neg n5, ← eh] at q
    exact q
theorem zh_tire {X : Mm} {S : Sh} {m : Mm} {K : Mm → Prop} {c h t : Int} (hS : Shp S) (hm : Inv X S m) (hb : isSt c) (h0 : 0 ≤ h) (h4 : h ≤ 4) (t0 : 0 ≤ t) (t5 : t ≤ 5) (hk : ∀ M1 : Mm, Inv X S M1 → (∀ c' p : Int, ¬ (c' = c + 3 ∧ p = h) → M1 c' p = m c' p) → M1 (c + 3) h = (if hbt (m (c + 5)) h 4 = 0 then max 0 (m (c + 3) h - 1) else min 99 (m (c + 3) h + t)) → K M1) : wp_X5_tire S m c h t K := by
  have b3 := hm.aB_5_3 hb h0 (by omega)
  refine u_X5_tire ?_
  refine ⟨hS.kB_5_0 hb, ?_⟩
  refine zt_heldBits hS hm hb ?_
  refine g_if (fun w => ?_) (fun w => ?_)
  · rw [if_pos w] at hk
    refine g_getr 4 (c + 3) rfl (hS.kB_5_0 hb) (hm.fB_5_4 hb) (hS.nB_5_3 hb) ?_
    refine g_C ?_
    refine g_getr 4 (c + 3) rfl (hS.kB_5_0 hb) (hm.fB_5_4 hb) (hS.nB_5_3 hb) ?_
    refine g_ldu (hS.kB_5_3 hb) (hS.lB_5_3 hb) h0 (by omega) (fun v ev => ?_)
    refine g_C ?_
    refine g_S (by omega) (by omega) ?_
    refine g_mxe ?_
    refine g_st (hS.kB_5_3 hb) (hS.lB_5_3 hb) h0 (by omega) (hm.waB_5_3 hb h0 (by omega) (by omega) (by omega)) (fun m1 e1 hm1 => ?_)
    exact hk m1 hm1 (fun c p q => (congrFun (congrFun e1 _) _).trans (up_ne q)) ((congrFun (congrFun e1 _) _).trans ((up_at _ _ _ _).trans (by rw [ev])))
  · rw [if_neg w] at hk
    refine g_getr 4 (c + 3) rfl (hS.kB_5_0 hb) (hm.fB_5_4 hb) (hS.nB_5_3 hb) ?_
    refine g_C ?_
    refine g_getr 4 (c + 3) rfl (hS.kB_5_0 hb) (hm.fB_5_4 hb) (hS.nB_5_3 hb) ?_
    refine g_ldu (hS.kB_5_3 hb) (hS.lB_5_3 hb) h0 (by omega) (fun v ev => ?_)
    refine g_A (by omega) (by omega) ?_
    refine g_mne ?_
    refine g_st (hS.kB_5_3 hb) (hS.lB_5_3 hb) h0 (by omega) (hm.waB_5_3 hb h0 (by omega) (by omega) (by omega)) (fun m1 e1 hm1 => ?_)
    exact hk m1 hm1 (fun c p q => (congrFun (congrFun e1 _) _).trans (up_ne q)) ((congrFun (congrFun e1 _) _).trans ((up_at _ _ _ _).trans (by rw [ev])))
/-- what an HOUR makes of a STATE -/
def nuC (o : Option (List Cz)) (m : Mm) (c p : Int) : Int := min 999 (m (c + 6) p + tnC o m c p)
def PH (o : Option (List Cz)) (m M : Mm) (c : Int) : Prop := (∀ c' p : Int, ¬ c' = 56 → ¬ (c' = 55 ∧ 4 ≤ p) → ¬ (c' = c + 6 ∧ 0 ≤ p ∧ p < m 4 5) → ¬ ((c' = c + 2 ∨ c' = c + 3) ∧ 0 ≤ p ∧ p < m 4 4) → ¬ (c' = c ∧ p = 0) → M c' p = m c' p) ∧ (∀ j : Int, 0 ≤ j → j < m 4 5 → M (c + 6) j = nuC o m c j) ∧ (∀ h : Int, 0 ≤ h → h < m 4 4 → M (c + 3) h = (if hbt (m (c + 5)) h 4 = 0 then max 0 (m (c + 3) h - 1) else min 99 (m (c + 3) h + m 8 h)) ∧ M (c + 2) h = max 0 (m (c + 2) h - 1)) ∧ M c 0 = min 999 (m c 0 + 1)
theorem zh_pass {X : Mm} {S : Sh} {m : Mm} {K : Int → Mm → Prop} {o : Option (List Cz)} {c : Int} (hS : Shp S) (hm : Inv X S m) (hr : RC S m o) (hb : isSt c) (hc : c = 16 ∨ c = 68) (hk : ∀ M1 : Mm, Inv X S M1 → PH o m M1 c → K (soF (m (c + 6)) (nuC o m c) (m 4 2) (m 4 5).toNat) M1) : wp_X1_pass S m 57 c K := by
  have b4 := hm.f_4_4
  have b5 := hm.f_4_5
  -- the HANDS
  have L2 : ∀ (n : Nat) (s h : Int) (M : Mm), Inv X S M → 0 ≤ h → h ≤ m 4 4 → s = soF (m (c + 6)) (nuC o m c) (m 4 2) (m 4 5).toNat → (∀ c' p : Int, ¬ c' = 56 → ¬ (c' = 55 ∧ 4 ≤ p) → ¬ (c' = c + 6 ∧ 0 ≤ p ∧ p < m 4 5) → ¬ ((c' = c + 2 ∨ c' = c + 3) ∧ 0 ≤ p ∧ p < h) → M c' p = m c' p) → (∀ j : Int, 0 ≤ j → j < m 4 5 → M (c + 6) j = nuC o m c j) → (∀ l : Int, 0 ≤ l → l < h → M (c + 3) l = (if hbt (m (c + 5)) l 4 = 0 then max 0 (m (c + 3) l - 1) else min 99 (m (c + 3) l + m 8 l)) ∧ M (c + 2) l = max 0 (m (c + 2) l - 1)) → 6 - h ≤ (n : Int) → wp_X1_pass_83 S K n 57 c s h M := by
    intro n
    induction n with
    | zero => intro s h M _ _ _ _ _ _ _ hn; exfalso; omega
    | succ n ih =>
      intro s h M hM h0 h1 es F J H hn
      refine u_X1_pass_83 ?_
      refine g_getr 1 4 rfl hS.k57 hM.f_57_1 (by decide) ?_
      refine g_getu 4 rfl hS.k4 (fun v ev => ?_)
      rw [F 4 4 (by first | decide | exact fun z => absurd z.1 (by decide) | exact ⟨fun z => absurd z.1 (by decide), fun z => absurd z.1 (by decide)⟩ | omega) (by first | decide | exact fun z => absurd z.1 (by decide) | exact ⟨fun z => absurd z.1 (by decide), fun z => absurd z.1 (by decide)⟩ | omega) (by first | decide | exact fun z => absurd z.1 (by decide) | exact ⟨fun z => absurd z.1 (by decide), fun z => absurd z.1 (by decide)⟩ | omega) (by first | decide | exact fun z => absurd z.1 (by decide) | exact ⟨fun z => absurd z.1 (by decide), fun z => absurd z.1 (by decide)⟩ | omega)] at ev
      refine g_if (fun w => ?_) (fun w => ?_)
      · refine g_C ?_
        have bt := hM.fB_5_0 hb
        refine g_getu 0 rfl (hS.kB_5_0 hb) (fun t et => ?_)
        refine g_C ?_
        refine g_A (by omega) (by omega) ?_
        refine g_mne ?_
        refine g_put 0 rfl (hS.kB_5_0 hb) (hM.wB_5_0 hb (by omega) (by omega)) (fun M1 e1 hM1 => ?_)
        have f1 : ∀ c' p : Int, ¬ (c' = c ∧ p = 0) → M1 c' p = M c' p := fun c p q => (congrFun (congrFun e1 _) _).trans (up_ne q)
        have y1 : M1 c 0 = min 999 (t + 1) := (congrFun (congrFun e1 _) _).trans (up_at _ _ _ _)
        rw [es]
        refine hk M1 hM1 ⟨fun c' p q1 q2 q3 q4 q5 => ?_, fun j j0 j1 => ?_, fun l l0 l1 => ?_, ?_⟩
        · rw [f1 c' p q5, F c' p q1 q2 q3 (by omega)]
        · rw [f1 _ j (by omega), J j j0 j1]
        · rw [f1 _ l (by omega), f1 _ l (by omega)]
          exact H l l0 (by omega)
        · rw [y1, et, F c 0 (by omega) (by omega) (by omega) (by omega)]
      · refine g_getr 1 4 rfl hS.k57 hM.f_57_1 (by decide) ?_
        refine g_getr 11 8 rfl hS.k4 hM.f_4_11 (by decide) ?_
        have b8 := hM.a_8 (i := h) h0 (by omega)
        refine g_ldu hS.k8 hS.l8 h0 (by omega) (fun t et => ?_)
        refine ⟨hS.kB_5_0 hb, ?_⟩
        refine zh_tire hS hM hb h0 (by omega) (by omega) (by omega) (fun M1 hM1 f1 y1 => ?_)
        refine g_getr 3 (c + 2) rfl (hS.kB_5_0 hb) (hM1.fB_5_3 hb) (hS.nB_5_2 hb) ?_
        refine g_C ?_
        refine g_getr 3 (c + 2) rfl (hS.kB_5_0 hb) (hM1.fB_5_3 hb) (hS.nB_5_2 hb) ?_
        have b2 := hM1.aB_5_2 hb h0 (by omega)
        refine g_ldu (hS.kB_5_2 hb) (hS.lB_5_2 hb) h0 (by omega) (fun g eg => ?_)
        refine g_C ?_
        refine g_S (by omega) (by omega) ?_
        refine g_mxe ?_
        refine g_st (hS.kB_5_2 hb) (hS.lB_5_2 hb) h0 (by omega) (hM1.waB_5_2 hb h0 (by omega) (by omega) (by omega)) (fun M2 e2 hM2 => ?_)
        have f2 : ∀ c' p : Int, ¬ (c' = c + 2 ∧ p = h) → M2 c' p = M1 c' p := fun c p q => (congrFun (congrFun e2 _) _).trans (up_ne q)
        have y2 : M2 (c + 2) h = max 0 (g - 1) := (congrFun (congrFun e2 _) _).trans (up_at _ _ _ _)
        refine g_A (by omega) (by omega) ?_
        refine ih s (h + 1) M2 hM2 (by omega) (by omega) es (fun c' p q1 q2 q3 q4 => ?_) (fun j j0 j1 => ?_) (fun l l0 l1 => ?_) (by omega)
        · rw [f2 c' p (by omega), f1 c' p (by omega), F c' p q1 q2 q3 (by omega)]
        · rw [f2 _ j (by omega), f1 _ j (by omega), J j j0 j1]
        · by_cases e : l = h
          · subst e
            rw [f2 (c + 3) l (by omega), y1, y2, eg, f1 (c + 2) l (by omega), et, F (c + 3) l (by omega) (by omega) (by omega) (by omega), F (c + 2) l (by omega) (by omega) (by omega) (by omega), F 8 l (by first | decide | exact fun z => absurd z.1 (by decide) | exact ⟨fun z => absurd z.1 (by decide), fun z => absurd z.1 (by decide)⟩ | omega) (by first | decide | exact fun z => absurd z.1 (by decide) | exact ⟨fun z => absurd z.1 (by decide), fun z => absurd z.1 (by decide)⟩ | omega) (by first | decide | exact fun z => absurd z.1 (by decide) | exact ⟨fun z => absurd z.1 (by decide), fun z => absurd z.1 (by decide)⟩ | omega) (by first | decide | exact fun z => absurd z.1 (by decide) | exact ⟨fun z => absurd z.1 (by decide), fun z => absurd z.1 (by decide)⟩ | omega), show M (c + 5) = m (c + 5) from funext (fun p => F _ p (by omega) (by omega) (by omega) (by omega))]
            exact ⟨rfl, rfl⟩
          · rw [f2 (c + 3) l (by omega), f2 (c + 2) l (by omega), f1 (c + 3) l (by omega), f1 (c + 2) l (by omega)]
            exact H l l0 (by omega)
  -- the JUGS
  have L1 : ∀ (n : Nat) (s j : Int) (M : Mm), Inv X S M → 0 ≤ j → j ≤ m 4 5 → s = soF (m (c + 6)) (nuC o m c) (m 4 2) j.toNat → (∀ c' p : Int, ¬ c' = 56 → ¬ (c' = 55 ∧ 4 ≤ p) → ¬ (c' = c + 6 ∧ 0 ≤ p ∧ p < j) → M c' p = m c' p) → (∀ l : Int, 0 ≤ l → l < j → M (c + 6) l = nuC o m c l) → 5 - j ≤ (n : Int) → wp_X1_pass_4 S K n 57 c s j M := by
    intro n
    induction n with
    | zero => intro s j M _ _ _ _ _ _ hn; exfalso; omega
    | succ n ih =>
      intro s j M hM j0 j1 es F J hn
      have bs := soF_b (a := m (c + 6)) (b := nuC o m c) (s := m 4 2) j.toNat
      refine u_X1_pass_4 ?_
      refine g_getr 1 4 rfl hS.k57 hM.f_57_1 (by decide) ?_
      refine g_getu 5 rfl hS.k4 (fun v ev => ?_)
      rw [F 4 5 (by first | decide | exact fun z => absurd z.1 (by decide) | exact ⟨fun z => absurd z.1 (by decide), fun z => absurd z.1 (by decide)⟩ | omega) (by first | decide | exact fun z => absurd z.1 (by decide) | exact ⟨fun z => absurd z.1 (by decide), fun z => absurd z.1 (by decide)⟩ | omega) (by first | decide | exact fun z => absurd z.1 (by decide) | exact ⟨fun z => absurd z.1 (by decide), fun z => absurd z.1 (by decide)⟩ | omega)] at ev
      refine g_if (fun w => ?_) (fun w => ?_)
      · refine g_C ?_
        refine ⟨6, L2 6 s 0 M hM (by omega) (by omega) (by rw [es, show j = m 4 5 by omega]) (fun c' p q1 q2 q3 q4 => F c' p q1 q2 (by omega)) (fun l l0 l1 => J l l0 (by omega)) (fun l l0 l1 => absurd l1 (by omega)) (by omega)⟩
      · have hj : j ≤ 3 := by omega
        refine g_getr 7 (c + 6) rfl (hS.kB_5_0 hb) (hM.fB_5_7 hb) (hS.nB_5_6 hb) ?_
        have b6 := hM.aB_5_6 hb j0 (by omega)
        refine g_ldu (hS.kB_5_6 hb) (hS.lB_5_6 hb) j0 (by omega) (fun a ea => ?_)
        refine g_getr 7 (c + 6) rfl (hS.kB_5_0 hb) (hM.fB_5_7 hb) (hS.nB_5_6 hb) ?_
        refine g_C ?_
        refine ⟨hS.k57, ?_⟩
        refine zh_turnsIn1 hS hM (hr.keep (fun c' p q => F c' p (by omega) (by omega) (by omega))) hb hc j0 hj (fun M1 hM1 f1 t0 t1 => ?_)
        have et : tnC o M c j = tnC o m c j := tnC_same (fun c' p q => F c' p (by omega) (by omega) (by omega))
        rw [et] at t0 t1 ⊢
        have ea2 : a = m (c + 6) j := by rw [ea, F _ j (by omega) (by omega) (by omega)]
        refine g_A (by omega) (by omega) ?_
        have en : min 999 (a + tnC o m c j) = nuC o m c j := by rw [ea2]; rfl
        refine g_mne ?_
        refine g_st (hS.kB_5_6 hb) (hS.lB_5_6 hb) j0 (by omega) (hM1.waB_5_6 hb j0 (by omega) (by omega) (by omega)) (fun M2 e2 hM2 => ?_)
        rw [en] at e2
        have f2 : ∀ c' p : Int, ¬ (c' = c + 6 ∧ p = j) → M2 c' p = M1 c' p := fun c p q => (congrFun (congrFun e2 _) _).trans (up_ne q)
        have y2 : M2 (c + 6) j = nuC o m c j := (congrFun (congrFun e2 _) _).trans (up_at _ _ _ _)
        have F2 : ∀ c' p : Int, ¬ c' = 56 → ¬ (c' = 55 ∧ 4 ≤ p) → ¬ (c' = c + 6 ∧ 0 ≤ p ∧ p < j + 1) → M2 c' p = m c' p := fun c' p q1 q2 q3 => by rw [f2 c' p (by omega), f1 c' p q1 q2, F c' p q1 q2 (by omega)]
        have nx : ∀ s2 : Int, s2 = soF (m (c + 6)) (nuC o m c) (m 4 2) (j + 1).toNat → wp_X1_pass_75 S (fun a0 a1 a2 a3 M => wp_X1_pass_4 S K n a0 a1 a2 a3 M) K 57 c s2 j M2 := by
          intro s2 e2
          refine u_X1_pass_75 ?_
          refine g_A (by omega) (by omega) ?_
          refine ih s2 (j + 1) M2 hM2 (by omega) (by omega) e2 F2 (fun l l0 l1 => ?_) (by omega)
          by_cases e : l = j
          · rw [e]; exact y2
          · rw [f2 _ l (by omega), f1 _ l (by omega) (by omega)]
            exact J l l0 (by omega)
        have se := soF_succ (a := m (c + 6)) (b := nuC o m c) (s := m 4 2) j0
        refine g_getr 1 4 rfl hS.k57 hM2.f_57_1 (by decide) ?_
        refine g_getu 2 rfl hS.k4 (fun u eu => ?_)
        rw [F2 4 2 (by first | decide | exact fun z => absurd z.1 (by decide) | exact ⟨fun z => absurd z.1 (by decide), fun z => absurd z.1 (by decide)⟩ | omega) (by first | decide | exact fun z => absurd z.1 (by decide) | exact ⟨fun z => absurd z.1 (by decide), fun z => absurd z.1 (by decide)⟩ | omega) (by first | decide | exact fun z => absurd z.1 (by decide) | exact ⟨fun z => absurd z.1 (by decide), fun z => absurd z.1 (by decide)⟩ | omega)] at eu
        refine g_if (fun w2 => ?_) (fun w2 => ?_)
        · rw [if_neg (fun z => by have := z.1; omega)] at se
          exact nx s (by rw [es, se]; omega)
        refine g_getr 7 (c + 6) rfl (hS.kB_5_0 hb) (hM2.fB_5_7 hb) (hS.nB_5_6 hb) ?_
        refine g_ldu (hS.kB_5_6 hb) (hS.lB_5_6 hb) j0 (by omega) (fun b eb => ?_)
        rw [y2] at eb
        refine g_getr 1 4 rfl hS.k57 hM2.f_57_1 (by decide) ?_
        refine g_getu 2 rfl hS.k4 (fun u2 eu2 => ?_)
        rw [F2 4 2 (by first | decide | exact fun z => absurd z.1 (by decide) | exact ⟨fun z => absurd z.1 (by decide), fun z => absurd z.1 (by decide)⟩ | omega) (by first | decide | exact fun z => absurd z.1 (by decide) | exact ⟨fun z => absurd z.1 (by decide), fun z => absurd z.1 (by decide)⟩ | omega) (by first | decide | exact fun z => absurd z.1 (by decide) | exact ⟨fun z => absurd z.1 (by decide), fun z => absurd z.1 (by decide)⟩ | omega)] at eu2
        refine g_if (fun w3 => ?_) (fun w3 => ?_)
        · rw [if_neg (fun z => by have := z.2; omega)] at se
          exact nx s (by rw [es, se]; omega)
        · rw [if_pos ⟨by omega, by omega⟩] at se
          refine g_A (by omega) (by omega) ?_
          exact nx (s + 1) (by rw [es, se])
  refine u_X1_pass ?_
  refine g_C ?_
  refine g_C ?_
  exact ⟨5, L1 5 0 0 m hm (by omega) (by omega) rfl (fun c' p _ _ _ => rfl) (fun l l0 l1 => absurd l1 (by omega)) (by omega)⟩
