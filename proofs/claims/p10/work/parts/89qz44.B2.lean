/-! an HOUR of the reference -/
def heR (m : Mm) (t : Int) : Int := if m 336 23 = 0 then htR (m 346) t else 0
def wdT (m : Mm) (j h : Int) : Int → Int := wds h (m 346 (10 + 5 * h + 3)) (m 346 (10 + 5 * h + 2)) j (m 346 (35 + 4 * j + 2)) (heR m (m 346 7)) (m 346 7) (if m 346 (10 + 5 * h + 1) ≤ 0 then 0 else 1) (bcF (hbR m h)) (if m 346 (35 + 4 * j + 2) < m 346 2 then 0 else 1)
def tnR (o : Option (List Cz)) (m : Mm) (j : Int) : Int := if m 346 (35 + 4 * j + 1) < 0 then m 346 1 + heR m (m 346 7) else tvO o (wdT m j (m 346 (35 + 4 * j + 1)))
theorem heR_same {m m' : Mm} {t : Int} (F : ∀ c p : Int, ((c = 336 ∧ p = 23) ∨ (c = 346 ∧ (p = 9 ∨ (81 ≤ p ∧ p < 93)))) → m' c p = m c p) (b9 : m 346 9 ≤ 4) : heR m' t = heR m t := by
  unfold heR htR
  rw [F 336 23 (by first | decide | exact fun z => absurd z.1 (by decide) | exact ⟨fun z => absurd z.1 (by decide), fun z => absurd z.1 (by decide)⟩ | omega), F 346 9 (by first | decide | exact fun z => absurd z.1 (by decide) | exact ⟨fun z => absurd z.1 (by decide), fun z => absurd z.1 (by decide)⟩ | omega), htF_same _ (fun k k0 k1 => ⟨F 346 (81 + 3 * k) (by first | decide | exact fun z => absurd z.1 (by decide) | exact ⟨fun z => absurd z.1 (by decide), fun z => absurd z.1 (by decide)⟩ | omega), F 346 (81 + 3 * k + 1) (by first | decide | exact fun z => absurd z.1 (by decide) | exact ⟨fun z => absurd z.1 (by decide), fun z => absurd z.1 (by decide)⟩ | omega), F 346 (81 + 3 * k + 2) (by first | decide | exact fun z => absurd z.1 (by decide) | exact ⟨fun z => absurd z.1 (by decide), fun z => absurd z.1 (by decide)⟩ | omega)⟩)]
theorem hbR_same {m m' : Mm} {h : Int} (F : ∀ p : Int, (p = 5 ∨ (35 ≤ p ∧ p < 51 ∧ (p - 35) % 4 = 1)) → m' 346 p = m 346 p) (b5 : m 346 5 ≤ 4) : hbR m' h = hbR m h := by
  unfold hbR
  rw [F 5 (by omega)]
  exact hbt_same _ (fun j j0 j1 => F (36 + 4 * j) (by omega))
theorem tnR_same {o : Option (List Cz)} {m m' : Mm} {j : Int} (F : ∀ c p : Int, ((c = 336 ∧ p = 23) ∨ (c = 346 ∧ ¬ (35 ≤ p ∧ p < 51 ∧ (p - 35) % 4 = 2 ∧ ¬ p = 35 + 4 * j + 2))) → m' c p = m c p) (b9 : m 346 9 ≤ 4) (b5 : m 346 5 ≤ 4) (j0 : 0 ≤ j) (j3 : j ≤ 3) (bh : m 346 (35 + 4 * j + 1) ≤ 4) : tnR o m' j = tnR o m j := by
  have e : ∀ t : Int, heR m' t = heR m t := fun t => heR_same (fun c p q => F c p (by omega)) b9
  have e2 : ∀ h : Int, hbR m' h = hbR m h := fun h => hbR_same (fun p q => F 346 p (by first | decide | exact fun z => absurd z.1 (by decide) | exact ⟨fun z => absurd z.1 (by decide), fun z => absurd z.1 (by decide)⟩ | omega)) b5
  unfold tnR
  rw [F 346 (35 + 4 * j + 1) (by first | decide | exact fun z => absurd z.1 (by decide) | exact ⟨fun z => absurd z.1 (by decide), fun z => absurd z.1 (by decide)⟩ | omega), F 346 1 (by first | decide | exact fun z => absurd z.1 (by decide) | exact ⟨fun z => absurd z.1 (by decide), fun z => absurd z.1 (by decide)⟩ | omega), F 346 7 (by first | decide | exact fun z => absurd z.1 (by decide) | exact ⟨fun z => absurd z.1 (by decide), fun z => absurd z.1 (by decide)⟩ | omega), e]
  by_cases z : m 346 (35 + 4 * j + 1) < 0
  · rw [if_pos z, if_pos z]
  · rw [if_neg z, if_neg z]
    unfold wdT
    rw [F 346 (10 + 5 * m 346 (35 + 4 * j + 1) + 3) (by omega), F 346 (10 + 5 * m 346 (35 + 4 * j + 1) + 2) (by omega), F 346 (35 + 4 * j + 2) (by first | decide | exact fun z => absurd z.1 (by decide) | exact ⟨fun z => absurd z.1 (by decide), fun z => absurd z.1 (by decide)⟩ | omega), F 346 7 (by first | decide | exact fun z => absurd z.1 (by decide) | exact ⟨fun z => absurd z.1 (by decide), fun z => absurd z.1 (by decide)⟩ | omega), e, F 346 (10 + 5 * m 346 (35 + 4 * j + 1) + 1) (by omega), e2, F 346 2 (by first | decide | exact fun z => absurd z.1 (by decide) | exact ⟨fun z => absurd z.1 (by decide), fun z => absurd z.1 (by decide)⟩ | omega)]
theorem RwR.same {m m' : Mm} {r : Int} {Cs : List Cz} (a2 : RwR m r Cs) (F : ∀ c p : Int, (c = 338 ∨ c = 340 ∨ c = 341) → m' c p = m c p) : RwR m' r Cs := by
  obtain ⟨r1, r2, r3, r4, r5⟩ := a2
  refine ⟨?_, ?_, by rw [F 341 _ (by first | decide | exact fun z => absurd z.1 (by decide) | exact ⟨fun z => absurd z.1 (by decide), fun z => absurd z.1 (by decide)⟩ | omega)]; exact r3, r4, r5⟩
  · rw [show (fun j => m' 338 (400 * r + j)) = (fun j => m 338 (400 * r + j)) from funext (fun j => F 338 _ (by first | decide | exact fun z => absurd z.1 (by decide) | exact ⟨fun z => absurd z.1 (by decide), fun z => absurd z.1 (by decide)⟩ | omega))]
    exact r1
  · exact Tbl.same Cs 0 0 (fun p _ => F 340 p (by first | decide | exact fun z => absurd z.1 (by decide) | exact ⟨fun z => absurd z.1 (by decide), fun z => absurd z.1 (by decide)⟩ | omega)) r2
theorem RR.keep {m m' : Mm} {o : Option (List Cz)} (h : RR m o) (F : ∀ c p : Int, ((c = 336 ∧ p = 21) ∨ c = 338 ∨ c = 340 ∨ c = 341) → m' c p = m c p) : RR m' o := by
  cases o with
  | none =>
    show m' 336 21 < 0
    rw [F 336 21 (by first | decide | exact fun z => absurd z.1 (by decide) | exact ⟨fun z => absurd z.1 (by decide), fun z => absurd z.1 (by decide)⟩ | omega)]
    exact h
  | some Cs =>
    obtain ⟨a1, a2, a3, a4⟩ := h
    show 0 ≤ m' 336 21 ∧ RwR m' (m' 336 21) Cs ∧ nvs (rowC Cs) ≤ 60 ∧ N1 Cs
    rw [F 336 21 (by first | decide | exact fun z => absurd z.1 (by decide) | exact ⟨fun z => absurd z.1 (by decide), fun z => absurd z.1 (by decide)⟩ | omega)]
    exact ⟨a1, a2.same (fun c p q => F c p (by omega)), a3, a4⟩
theorem zh_atMost {S : Sh} {m : Mm} {K : Int → Mm → Prop} {a b : Int} (hk : K (min a b) m) : wp_X12_atMost S m a b K := by
  refine u_X12_atMost ?_
  exact g_if (fun w => by rw [show a = min a b by omega]; exact (by rw [show min a b = a by omega] at hk ⊢; exact hk)) (fun w => by rw [show min a b = b by omega] at hk; exact hk)
theorem zh_moreTired {X : Mm} {S : Sh} {m : Mm} {K : Int → Mm → Prop} {h t : Int} (hS : Shp S) (hm : Inv X S m) (h0 : 0 ≤ h) (h4 : h ≤ 4) (t0 : 0 ≤ t) (t9 : t ≤ 99) (hk : K (min (t + m 346 (10 + 5 * h + 4)) 99) m) : wp_X12_moreTired S m 336 h t K := by
  have b : 0 ≤ m 346 (10 + 5 * h + 4) ∧ m 346 (10 + 5 * h + 4) ≤ 5 := fam_346_14_5_0_4 hm (a := h) (by omega) (by omega) (by omega)
  refine u_X12_moreTired ?_
  refine g_C ?_
  refine ⟨hS.k336, ?_⟩
  refine zt_handOf hS hm h0 h4 (by omega) (by omega) ?_
  refine g_A (by omega) (by omega) ?_
  refine g_C ?_
  exact zh_atMost hk
theorem heR_b {X : Mm} {S : Sh} {m : Mm} {t : Int} (hm : Inv X S m) : 0 ≤ heR m t ∧ heR m t ≤ 20 := by
  have b9 := hm.f_346_9
  unfold heR
  by_cases z : m 336 23 = 0
  · rw [if_pos z]
    have q := htF_b (a := fun k => m 346 (81 + 3 * k)) (b := fun k => m 346 (81 + 3 * k + 1)) (c := fun k => m 346 (81 + 3 * k + 2)) (t := t) (m 346 9).toNat (fun k k0 k1 => fam_346_83_3_0_3 hm (a := k) (by omega) (by omega) (by omega))
    unfold htR
    omega
  · rw [if_neg z]; omega
theorem tnR_b {X : Mm} {S : Sh} {o : Option (List Cz)} {m : Mm} {j : Int} (hm : Inv X S m) (j0 : 0 ≤ j) (j3 : j ≤ 3) : 0 ≤ tnR o m j ∧ tnR o m j ≤ 64 := by
  have g := hm.f_346_1
  have b5 : -1 ≤ m 346 (35 + 4 * j + 1) ∧ m 346 (35 + 4 * j + 1) ≤ 4 := fam_346_36_4_0_3 hm (a := j) (by omega) (by omega) (by omega)
  have bh := heR_b (t := m 346 7) hm
  unfold tnR
  by_cases e : m 346 (35 + 4 * j + 1) < 0
  · rw [if_pos e]; omega
  · rw [if_neg e]
    exact tvO_b (fam_346_13_5_0_4 hm (a := m 346 (35 + 4 * j + 1)) (by omega) (by omega) (by omega)) (fam_346_12_5_0_4 hm (a := m 346 (35 + 4 * j + 1)) (by omega) (by omega) (by omega)) bh
theorem zh_turns12 {X : Mm} {S : Sh} {m : Mm} {K : Mm → Prop} {o : Option (List Cz)} {j : Int} (hS : Shp S) (hm : Inv X S m) (hr : RR m o) (j0 : 0 ≤ j) (j3 : j ≤ 3) (bt : 0 ≤ m 346 (35 + 4 * j + 2) ∧ m 346 (35 + 4 * j + 2) ≤ 999) (hk : ∀ M1 : Mm, Inv X S M1 → (∀ c p : Int, ¬ c = 344 → ¬ c = 345 → ¬ (c = 336 ∧ p = 18) → ¬ (c = 346 ∧ p = 35 + 4 * j + 2) → M1 c p = m c p) → M1 346 (35 + 4 * j + 2) = min (m 346 (35 + 4 * j + 2) + tnR o m j) 999 → K M1) : wp_X12_turns S m 336 j K := by
  have b1 := hm.f_346_1
  have b5 : -1 ≤ m 346 (35 + 4 * j + 1) ∧ m 346 (35 + 4 * j + 1) ≤ 4 := fam_346_36_4_0_3 hm (a := j) (by omega) (by omega) (by omega)
  have bT := tnR_b (o := o) hm j0 j3
  have go : ∀ (v : Int) (M : Mm), v = tnR o m j → Inv X S M → (∀ c p : Int, ¬ c = 344 → ¬ c = 345 → ¬ (c = 336 ∧ p = 18) → M c p = m c p) → wp_X12_turns_90 S K 336 (35 + 4 * j) v M := by
    intro v M ev hM F
    refine u_X12_turns_90 ?_
    refine g_getr 20 346 rfl hS.k336 hM.f_336_20 (by decide) ?_
    refine g_C ?_
    refine g_A (by omega) (by omega) ?_
    refine g_getr 20 346 rfl hS.k336 hM.f_336_20 (by decide) ?_
    refine g_C ?_
    refine g_A (by omega) (by omega) ?_
    refine g_ldu hS.k346 hS.l346 (by omega) (by omega) (fun a ea => ?_)
    rw [F 346 _ (by first | decide | exact fun z => absurd z.1 (by decide) | exact ⟨fun z => absurd z.1 (by decide), fun z => absurd z.1 (by decide)⟩ | omega) (by first | decide | exact fun z => absurd z.1 (by decide) | exact ⟨fun z => absurd z.1 (by decide), fun z => absurd z.1 (by decide)⟩ | omega) (by first | decide | exact fun z => absurd z.1 (by decide) | exact ⟨fun z => absurd z.1 (by decide), fun z => absurd z.1 (by decide)⟩ | omega)] at ea
    refine g_A (by omega) (by omega) ?_
    refine g_C ?_
    refine zh_atMost ?_
    refine g_st hS.k346 hS.l346 (by omega) (by omega) (wfm_346_37_4_0_3 hM (a := j) (by omega) (by omega) (by omega) (by omega) (by omega)) (fun M1 e1 hM1 => ?_)
    refine hk M1 hM1 (fun c p q1 q2 q3 q4 => ((congrFun (congrFun e1 _) _).trans (up_ne q4)).trans (F c p q1 q2 q3)) ((congrFun (congrFun e1 _) _).trans ((up_at _ _ _ _).trans (by rw [ea, ev])))
  refine u_X12_turns ?_
  refine g_C ?_
  refine g_C ?_
  refine g_M (by omega) (by omega) ?_
  refine g_A (by omega) (by omega) ?_
  refine g_getr 20 346 rfl hS.k336 hm.f_336_20 (by decide) ?_
  refine g_C ?_
  refine g_A (by omega) (by omega) ?_
  refine g_ldu hS.k346 hS.l346 (by omega) (by omega) (fun h eh => ?_)
  refine g_if (fun w => ?_) (fun w => ?_)
  · have h4 : h ≤ 4 := by omega
    have bti : 0 ≤ m 346 (10 + 5 * h + 2) ∧ m 346 (10 + 5 * h + 2) ≤ 99 := fam_346_12_5_0_4 hm (a := h) (by omega) (by omega) (by omega)
    refine g_C ?_
    refine ⟨hS.k336, ?_⟩
    refine zt_handOf hS hm w h4 (by omega) (by omega) ?_
    refine g_getr 20 346 rfl hS.k336 hm.f_336_20 (by decide) ?_
    refine g_C ?_
    refine g_A (by omega) (by omega) ?_
    refine g_ldu hS.k346 hS.l346 (by omega) (by omega) (fun tu etu => ?_)
    refine g_getr 20 346 rfl hS.k336 hm.f_336_20 (by decide) ?_
    refine g_C ?_
    refine g_ldu hS.k346 hS.l346 (by decide) (by decide) (fun t et => ?_)
    refine g_C ?_
    refine ⟨hS.k336, ?_⟩
    refine zt_handOf hS hm w h4 (by omega) (by omega) ?_
    have go2 : ∀ ro : Int, ro = (if m 346 (10 + 5 * h + 1) ≤ 0 then 0 else 1) → wp_X12_turns_79 S K 336 (35 + 4 * j) h 336 h (m 346 (10 + 5 * h + 2)) j tu t ro m := by
      intro ro ero
      refine u_X12_turns_79 ?_
      refine ⟨hS.k336, ?_⟩
      refine zt_held hS hm ?_
      have b55 := hm.f_346_5
      have bb := hbt_15 (f := fun j => m 346 (36 + 4 * j)) (h := h) (n := (m 346 5).toNat) (by omega)
      refine zt_bits bb.1 bb.2 ?_
      refine ⟨hS.k336, ?_⟩
      refine zh_turnsIn hS hm hr w h4 bti.1 bti.2 (fun M1 hM1 f1 => ?_)
      refine go _ M1 ?_ hM1 f1
      have eT : tnR o m j = tvO o (wdT m j h) := by
        unfold tnR
        rw [← eh, if_neg (by omega)]
      rw [eT]
      show tvO o (wds h (m 346 (10 + 5 * h + 3)) (m 346 (10 + 5 * h + 2)) j tu (if m 336 23 = 0 then htR (m 346) t else 0) t ro (bcF (hbR m h)) (if tu < m 346 2 then 0 else 1)) = _
      rw [etu, et, ero]
      rfl
    exact g_if (fun w2 => g_C (go2 0 (by rw [if_pos w2]))) (fun w2 => g_C (go2 1 (by rw [if_neg w2])))
  · refine g_getr 20 346 rfl hS.k336 hm.f_336_20 (by decide) ?_
    refine g_C ?_
    refine g_ldu hS.k346 hS.l346 (by decide) (by decide) (fun g eg => ?_)
    refine g_getr 20 346 rfl hS.k336 hm.f_336_20 (by decide) ?_
    refine g_C ?_
    refine g_ldu hS.k346 hS.l346 (by decide) (by decide) (fun t et => ?_)
    refine ⟨hS.k336, ?_⟩
    refine zh_heat12 hS hm (fun c0 c1 => ?_)
    refine g_A (by omega) (by omega) ?_
    refine go _ m ?_ hm (fun c p _ _ _ => rfl)
    have eT : tnR o m j = m 346 1 + heR m (m 346 7) := by
      unfold tnR
      rw [← eh, if_pos (by omega)]
    rw [eT, eg, et]
    rfl
def nuR (o : Option (List Cz)) (m : Mm) (p : Int) : Int := if m 346 (35 + 4 * p + 3) = 1 then m 346 (35 + 4 * p + 2) else min (m 346 (35 + 4 * p + 2) + tnR o m p) 999
/-- what an HOUR makes of a row -/
def PRh (o : Option (List Cz)) (m M : Mm) : Prop := (∀ c p : Int, ¬ c = 344 → ¬ c = 345 → ¬ (c = 336 ∧ p = 18) → ¬ (c = 346 ∧ (p = 7 ∨ (10 ≤ p ∧ p < 10 + 5 * m 346 4 ∧ ((p - 10) % 5 = 1 ∨ (p - 10) % 5 = 2)) ∨ (35 ≤ p ∧ p < 35 + 4 * m 346 5 ∧ (p - 35) % 4 = 2))) → M c p = m c p) ∧ (∀ j : Int, 0 ≤ j → j < m 346 5 → M 346 (35 + 4 * j + 2) = nuR o m j) ∧ (∀ h : Int, 0 ≤ h → h < m 346 4 → M 346 (10 + 5 * h + 2) = (if hbR m h = 0 then max 0 (m 346 (10 + 5 * h + 2) - 1) else min (m 346 (10 + 5 * h + 2) + m 346 (10 + 5 * h + 4)) 99) ∧ M 346 (10 + 5 * h + 1) = max 0 (m 346 (10 + 5 * h + 1) - 1)) ∧ M 346 7 = m 346 7 + 1
theorem zh_passes {X : Mm} {S : Sh} {m : Mm} {K : Int → Mm → Prop} {o : Option (List Cz)} (hS : Shp S) (hm : Inv X S m) (hr : RR m o) (b7 : 0 ≤ m 346 7 ∧ m 346 7 ≤ 9999) (bj : ∀ j : Int, 0 ≤ j → j < m 346 5 → 0 ≤ m 346 (35 + 4 * j + 2) ∧ m 346 (35 + 4 * j + 2) ≤ 999) (hk : ∀ M1 : Mm, Inv X S M1 → PRh o m M1 → K (soF (fun j => m 346 (35 + 4 * j + 2)) (nuR o m) (m 346 2) (m 346 5).toNat) M1) : wp_X12_passes S m 336 K := by
  have b4 := hm.f_346_4
  have b5 := hm.f_346_5
  have b9 := hm.f_346_9
  have bH : ∀ j : Int, 0 ≤ j → j ≤ 3 → m 346 (35 + 4 * j + 1) ≤ 4 := fun j j0 j3 => (fam_346_36_4_0_3 hm (a := j) (i := 35 + 4 * j + 1) (by omega) (by omega) (by omega)).2
  have L2 : ∀ (n : Nat) (s h : Int) (M : Mm), Inv X S M → 0 ≤ h → h ≤ m 346 4 → s = soF (fun j => m 346 (35 + 4 * j + 2)) (nuR o m) (m 346 2) (m 346 5).toNat → (∀ c p : Int, ¬ c = 344 → ¬ c = 345 → ¬ (c = 336 ∧ p = 18) → ¬ (c = 346 ∧ ((10 ≤ p ∧ p < 10 + 5 * h ∧ ((p - 10) % 5 = 1 ∨ (p - 10) % 5 = 2)) ∨ (35 ≤ p ∧ p < 35 + 4 * m 346 5 ∧ (p - 35) % 4 = 2))) → M c p = m c p) → (∀ j : Int, 0 ≤ j → j < m 346 5 → M 346 (35 + 4 * j + 2) = nuR o m j) → (∀ l : Int, 0 ≤ l → l < h → M 346 (10 + 5 * l + 2) = (if hbR m l = 0 then max 0 (m 346 (10 + 5 * l + 2) - 1) else min (m 346 (10 + 5 * l + 2) + m 346 (10 + 5 * l + 4)) 99) ∧ M 346 (10 + 5 * l + 1) = max 0 (m 346 (10 + 5 * l + 1) - 1)) → 6 - h ≤ (n : Int) → wp_X12_passes_80 S K n 336 s h M := by
    intro n
    induction n with
    | zero => intro s h M _ _ _ _ _ _ _ hn; exfalso; omega
    | succ n ih =>
      intro s h M hM h0 h1 es F J H hn
      refine u_X12_passes_80 ?_
      refine g_getr 20 346 rfl hS.k336 hM.f_336_20 (by decide) ?_
      refine g_C ?_
      refine g_ldu hS.k346 hS.l346 (by decide) (by decide) (fun v ev => ?_)
      rw [F 346 4 (by first | decide | exact fun z => absurd z.1 (by decide) | exact ⟨fun z => absurd z.1 (by decide), fun z => absurd z.1 (by decide)⟩ | omega) (by first | decide | exact fun z => absurd z.1 (by decide) | exact ⟨fun z => absurd z.1 (by decide), fun z => absurd z.1 (by decide)⟩ | omega) (by first | decide | exact fun z => absurd z.1 (by decide) | exact ⟨fun z => absurd z.1 (by decide), fun z => absurd z.1 (by decide)⟩ | omega) (by first | decide | exact fun z => absurd z.1 (by decide) | exact ⟨fun z => absurd z.1 (by decide), fun z => absurd z.1 (by decide)⟩ | omega)] at ev
      refine g_if (fun w => ?_) (fun w => ?_)
      · refine g_getr 20 346 rfl hS.k336 hM.f_336_20 (by decide) ?_
        refine g_C ?_
        refine g_ldu hS.k346 hS.l346 (by decide) (by decide) (fun t et => ?_)
        rw [F 346 7 (by first | decide | exact fun z => absurd z.1 (by decide) | exact ⟨fun z => absurd z.1 (by decide), fun z => absurd z.1 (by decide)⟩ | omega) (by first | decide | exact fun z => absurd z.1 (by decide) | exact ⟨fun z => absurd z.1 (by decide), fun z => absurd z.1 (by decide)⟩ | omega) (by first | decide | exact fun z => absurd z.1 (by decide) | exact ⟨fun z => absurd z.1 (by decide), fun z => absurd z.1 (by decide)⟩ | omega) (by first | decide | exact fun z => absurd z.1 (by decide) | exact ⟨fun z => absurd z.1 (by decide), fun z => absurd z.1 (by decide)⟩ | omega)] at et
        refine g_C ?_
        refine g_A (by omega) (by omega) ?_
        refine g_st hS.k346 hS.l346 (by decide) (by decide) (hM.w_346_7 (by omega) (by omega)) (fun M1 e1 hM1 => ?_)
        have f1 : ∀ c p : Int, ¬ (c = 346 ∧ p = 7) → M1 c p = M c p := fun c p q => (congrFun (congrFun e1 _) _).trans (up_ne q)
        have y1 : M1 346 7 = t + 1 := (congrFun (congrFun e1 _) _).trans (up_at _ _ _ _)
        rw [es]
        refine hk M1 hM1 ⟨fun c p q1 q2 q3 q4 => ?_, fun j j0 j1 => ?_, fun l l0 l1 => ?_, by rw [y1, et]⟩
        · rw [f1 c p (by first | exact fun y => absurd (y.1 ▸ z) (by decide) | exact fun y => absurd (y.1 ▸ q) (by decide) | exact z | exact q | exact z.1 | exact q.1 | exact z.2 | exact q.2 | omega), F c p q1 q2 q3 (by omega)]
        · rw [f1 346 _ (by first | decide | exact fun z => absurd z.1 (by decide) | exact ⟨fun z => absurd z.1 (by decide), fun z => absurd z.1 (by decide)⟩ | omega), J j j0 j1]
        · rw [f1 346 _ (by first | decide | exact fun z => absurd z.1 (by decide) | exact ⟨fun z => absurd z.1 (by decide), fun z => absurd z.1 (by decide)⟩ | omega), f1 346 _ (by first | decide | exact fun z => absurd z.1 (by decide) | exact ⟨fun z => absurd z.1 (by decide), fun z => absurd z.1 (by decide)⟩ | omega)]
          exact H l l0 (by omega)
      · have h4 : h ≤ 4 := by omega
        have c2 : 0 ≤ M 346 (10 + 5 * h + 2) ∧ M 346 (10 + 5 * h + 2) ≤ 99 := fam_346_12_5_0_4 hM (a := h) (by omega) (by omega) (by omega)
        have c1 : 0 ≤ M 346 (10 + 5 * h + 1) ∧ M 346 (10 + 5 * h + 1) ≤ 5 := fam_346_11_5_0_4 hM (a := h) (by omega) (by omega) (by omega)
        have c4 : 0 ≤ M 346 (10 + 5 * h + 4) ∧ M 346 (10 + 5 * h + 4) ≤ 5 := fam_346_14_5_0_4 hM (a := h) (by omega) (by omega) (by omega)
        have x2 : M 346 (10 + 5 * h + 2) = m 346 (10 + 5 * h + 2) := F 346 _ (by first | decide | exact fun z => absurd z.1 (by decide) | exact ⟨fun z => absurd z.1 (by decide), fun z => absurd z.1 (by decide)⟩ | omega) (by first | decide | exact fun z => absurd z.1 (by decide) | exact ⟨fun z => absurd z.1 (by decide), fun z => absurd z.1 (by decide)⟩ | omega) (by first | decide | exact fun z => absurd z.1 (by decide) | exact ⟨fun z => absurd z.1 (by decide), fun z => absurd z.1 (by decide)⟩ | omega) (by first | decide | exact fun z => absurd z.1 (by decide) | exact ⟨fun z => absurd z.1 (by decide), fun z => absurd z.1 (by decide)⟩ | omega)
        have x1 : M 346 (10 + 5 * h + 1) = m 346 (10 + 5 * h + 1) := F 346 _ (by first | decide | exact fun z => absurd z.1 (by decide) | exact ⟨fun z => absurd z.1 (by decide), fun z => absurd z.1 (by decide)⟩ | omega) (by first | decide | exact fun z => absurd z.1 (by decide) | exact ⟨fun z => absurd z.1 (by decide), fun z => absurd z.1 (by decide)⟩ | omega) (by first | decide | exact fun z => absurd z.1 (by decide) | exact ⟨fun z => absurd z.1 (by decide), fun z => absurd z.1 (by decide)⟩ | omega) (by first | decide | exact fun z => absurd z.1 (by decide) | exact ⟨fun z => absurd z.1 (by decide), fun z => absurd z.1 (by decide)⟩ | omega)
        have x4 : M 346 (10 + 5 * h + 4) = m 346 (10 + 5 * h + 4) := F 346 _ (by first | decide | exact fun z => absurd z.1 (by decide) | exact ⟨fun z => absurd z.1 (by decide), fun z => absurd z.1 (by decide)⟩ | omega) (by first | decide | exact fun z => absurd z.1 (by decide) | exact ⟨fun z => absurd z.1 (by decide), fun z => absurd z.1 (by decide)⟩ | omega) (by first | decide | exact fun z => absurd z.1 (by decide) | exact ⟨fun z => absurd z.1 (by decide), fun z => absurd z.1 (by decide)⟩ | omega) (by first | decide | exact fun z => absurd z.1 (by decide) | exact ⟨fun z => absurd z.1 (by decide), fun z => absurd z.1 (by decide)⟩ | omega)
        have xb : hbR M h = hbR m h := hbR_same (fun p q => F 346 p (by first | decide | exact fun z => absurd z.1 (by decide) | exact ⟨fun z => absurd z.1 (by decide), fun z => absurd z.1 (by decide)⟩ | omega) (by first | decide | exact fun z => absurd z.1 (by decide) | exact ⟨fun z => absurd z.1 (by decide), fun z => absurd z.1 (by decide)⟩ | omega) (by first | decide | exact fun z => absurd z.1 (by decide) | exact ⟨fun z => absurd z.1 (by decide), fun z => absurd z.1 (by decide)⟩ | omega) (by first | decide | exact fun z => absurd z.1 (by decide) | exact ⟨fun z => absurd z.1 (by decide), fun z => absurd z.1 (by decide)⟩ | omega)) (by omega)
        have fin : ∀ v : Int, v = (if hbR m h = 0 then max 0 (m 346 (10 + 5 * h + 2) - 1) else min (m 346 (10 + 5 * h + 2) + m 346 (10 + 5 * h + 4)) 99) → wp_X12_passes_157 S (fun a0 a1 a2 M => wp_X12_passes_80 S K n a0 a1 a2 M) K 336 s h (10 + 5 * h) 346 (10 + 5 * h + 2) v M := by
          intro v ev
          have bv : 0 ≤ v ∧ v ≤ 99 := by rw [ev]; split <;> omega
          refine u_X12_passes_157 ?_
          refine g_st hS.k346 hS.l346 (by omega) (by omega) (wfm_346_12_5_0_4 hM (a := h) (by omega) (by omega) (by omega) bv.1 bv.2) (fun M1 e1 hM1 => ?_)
          have f1 : ∀ c p : Int, ¬ (c = 346 ∧ p = 10 + 5 * h + 2) → M1 c p = M c p := fun c p q => (congrFun (congrFun e1 _) _).trans (up_ne q)
          have y1 : M1 346 (10 + 5 * h + 2) = v := (congrFun (congrFun e1 _) _).trans (up_at _ _ _ _)
          refine g_getr 20 346 rfl hS.k336 hM1.f_336_20 (by decide) ?_
          refine g_C ?_
          refine g_A (by omega) (by omega) ?_
          refine g_ldu hS.k346 hS.l346 (by omega) (by omega) (fun g eg => ?_)
          rw [f1 346 _ (by first | decide | exact fun z => absurd z.1 (by decide) | exact ⟨fun z => absurd z.1 (by decide), fun z => absurd z.1 (by decide)⟩ | omega)] at eg
          refine g_getr 20 346 rfl hS.k336 hM1.f_336_20 (by decide) ?_
          refine g_C ?_
          refine g_A (by omega) (by omega) ?_
          refine g_ldu hS.k346 hS.l346 (by omega) (by omega) (fun g2 eg2 => ?_)
          rw [f1 346 _ (by first | decide | exact fun z => absurd z.1 (by decide) | exact ⟨fun z => absurd z.1 (by decide), fun z => absurd z.1 (by decide)⟩ | omega)] at eg2
          have fin2 : ∀ d : Int, g - d = max 0 (m 346 (10 + 5 * h + 1) - 1) → wp_X12_passes_183 S (fun a0 a1 a2 M => wp_X12_passes_80 S K n a0 a1 a2 M) K 336 s h 346 (10 + 5 * h + 1) g d M1 := by
            intro d ed
            refine u_X12_passes_183 ?_
            refine g_S (by omega) (by omega) ?_
            refine g_st hS.k346 hS.l346 (by omega) (by omega) (wfm_346_11_5_0_4 hM1 (a := h) (by omega) (by omega) (by omega) (by omega) (by omega)) (fun M2 e2 hM2 => ?_)
            have f2 : ∀ c p : Int, ¬ (c = 346 ∧ p = 10 + 5 * h + 1) → M2 c p = M1 c p := fun c p q => (congrFun (congrFun e2 _) _).trans (up_ne q)
            have y2 : M2 346 (10 + 5 * h + 1) = g - d := (congrFun (congrFun e2 _) _).trans (up_at _ _ _ _)
            refine g_A (by omega) (by omega) ?_
            refine ih s (h + 1) M2 hM2 (by omega) (by omega) es (fun c p q1 q2 q3 q4 => ?_) (fun j j0 j1 => ?_) (fun l l0 l1 => ?_) (by omega)
            · rw [f2 c p (by first | exact fun y => absurd (y.1 ▸ z) (by decide) | exact fun y => absurd (y.1 ▸ q) (by decide) | exact z | exact q | exact z.1 | exact q.1 | exact z.2 | exact q.2 | omega), f1 c p (by first | exact fun y => absurd (y.1 ▸ z) (by decide) | exact fun y => absurd (y.1 ▸ q) (by decide) | exact z | exact q | exact z.1 | exact q.1 | exact z.2 | exact q.2 | omega), F c p q1 q2 q3 (by omega)]
            · rw [f2 346 _ (by first | decide | exact fun z => absurd z.1 (by decide) | exact ⟨fun z => absurd z.1 (by decide), fun z => absurd z.1 (by decide)⟩ | omega), f1 346 _ (by first | decide | exact fun z => absurd z.1 (by decide) | exact ⟨fun z => absurd z.1 (by decide), fun z => absurd z.1 (by decide)⟩ | omega), J j j0 j1]
            · by_cases e : l = h
              · subst e
                rw [f2 346 (10 + 5 * l + 2) (by first | decide | exact fun z => absurd z.1 (by decide) | exact ⟨fun z => absurd z.1 (by decide), fun z => absurd z.1 (by decide)⟩ | omega), y1, y2, ev, ed]
                exact ⟨rfl, rfl⟩
              · rw [f2 346 (10 + 5 * l + 2) (by first | decide | exact fun z => absurd z.1 (by decide) | exact ⟨fun z => absurd z.1 (by decide), fun z => absurd z.1 (by decide)⟩ | omega), f2 346 (10 + 5 * l + 1) (by first | decide | exact fun z => absurd z.1 (by decide) | exact ⟨fun z => absurd z.1 (by decide), fun z => absurd z.1 (by decide)⟩ | omega), f1 346 (10 + 5 * l + 2) (by first | decide | exact fun z => absurd z.1 (by decide) | exact ⟨fun z => absurd z.1 (by decide), fun z => absurd z.1 (by decide)⟩ | omega), f1 346 (10 + 5 * l + 1) (by first | decide | exact fun z => absurd z.1 (by decide) | exact ⟨fun z => absurd z.1 (by decide), fun z => absurd z.1 (by decide)⟩ | omega)]
                exact H l l0 (by omega)
          exact g_if (fun w2 => g_C (fin2 0 (by omega))) (fun w2 => g_C (fin2 1 (by omega)))
        have mid : ∀ t : Int, t = max 0 (m 346 (10 + 5 * h + 2) - 1) → wp_X12_passes_122 S (fun a0 a1 a2 M => wp_X12_passes_80 S K n a0 a1 a2 M) K 336 s h (10 + 5 * h) t M := by
          intro t et
          refine u_X12_passes_122 ?_
          refine g_getr 20 346 rfl hS.k336 hM.f_336_20 (by decide) ?_
          refine g_C ?_
          refine g_A (by omega) (by omega) ?_
          refine ⟨hS.k336, ?_⟩
          refine zt_held hS hM ?_
          have hbe : hbt (fun j => M 346 (36 + 4 * j)) h (M 346 5).toNat = hbR m h := xb
          rw [hbe]
          refine g_if (fun w2 => fin t (by rw [if_pos w2]; exact et)) (fun w2 => ?_)
          refine g_getr 20 346 rfl hS.k336 hM.f_336_20 (by decide) ?_
          refine g_C ?_
          refine g_A (by omega) (by omega) ?_
          refine g_ldu hS.k346 hS.l346 (by omega) (by omega) (fun a ea => ?_)
          refine ⟨hS.k336, ?_⟩
          refine zh_moreTired hS hM h0 h4 (by omega) (by omega) ?_
          exact fin _ (by rw [if_neg w2, ea, x2, x4])
        refine g_C ?_
        refine g_C ?_
        refine g_M (by omega) (by omega) ?_
        refine g_A (by omega) (by omega) ?_
        refine g_getr 20 346 rfl hS.k336 hM.f_336_20 (by decide) ?_
        refine g_C ?_
        refine g_A (by omega) (by omega) ?_
        refine g_ldu hS.k346 hS.l346 (by omega) (by omega) (fun a ea => ?_)
        refine g_if (fun w2 => ?_) (fun w2 => g_C (mid 0 (by omega)))
        refine g_getr 20 346 rfl hS.k336 hM.f_336_20 (by decide) ?_
        refine g_C ?_
        refine g_A (by omega) (by omega) ?_
        refine g_ldu hS.k346 hS.l346 (by omega) (by omega) (fun b eb => ?_)
        refine g_C ?_
        refine g_S (by omega) (by omega) ?_
        exact mid _ (by omega)
  have L1 : ∀ (n : Nat) (s j : Int) (M : Mm), Inv X S M → 0 ≤ j → j ≤ m 346 5 → s = soF (fun j => m 346 (35 + 4 * j + 2)) (nuR o m) (m 346 2) j.toNat → (∀ c p : Int, ¬ c = 344 → ¬ c = 345 → ¬ (c = 336 ∧ p = 18) → ¬ (c = 346 ∧ (35 ≤ p ∧ p < 35 + 4 * j ∧ (p - 35) % 4 = 2)) → M c p = m c p) → (∀ l : Int, 0 ≤ l → l < j → M 346 (35 + 4 * l + 2) = nuR o m l) → 5 - j ≤ (n : Int) → wp_X12_passes_4 S K n 336 s j M := by
    intro n
    induction n with
    | zero => intro s j M _ _ _ _ _ _ hn; exfalso; omega
    | succ n ih =>
      intro s j M hM j0 j1 es F J hn
      have bs := soF_b (a := fun j => m 346 (35 + 4 * j + 2)) (b := nuR o m) (s := m 346 2) j.toNat
      refine u_X12_passes_4 ?_
      refine g_getr 20 346 rfl hS.k336 hM.f_336_20 (by decide) ?_
      refine g_C ?_
      refine g_ldu hS.k346 hS.l346 (by decide) (by decide) (fun v ev => ?_)
      rw [F 346 5 (by first | decide | exact fun z => absurd z.1 (by decide) | exact ⟨fun z => absurd z.1 (by decide), fun z => absurd z.1 (by decide)⟩ | omega) (by first | decide | exact fun z => absurd z.1 (by decide) | exact ⟨fun z => absurd z.1 (by decide), fun z => absurd z.1 (by decide)⟩ | omega) (by first | decide | exact fun z => absurd z.1 (by decide) | exact ⟨fun z => absurd z.1 (by decide), fun z => absurd z.1 (by decide)⟩ | omega) (by first | decide | exact fun z => absurd z.1 (by decide) | exact ⟨fun z => absurd z.1 (by decide), fun z => absurd z.1 (by decide)⟩ | omega)] at ev
      refine g_if (fun w => ?_) (fun w => ?_)
      · refine g_C ?_
        exact ⟨6, L2 6 s 0 M hM (by omega) (by omega) (by rw [es, show j = m 346 5 by omega]) (fun c p q1 q2 q3 q4 => F c p q1 q2 q3 (by omega)) (fun l l0 l1 => J l l0 (by omega)) (fun l l0 l1 => absurd l1 (by omega)) (by omega)⟩
      have hj : j ≤ 3 := by omega
      have se := soF_succ (a := fun j => m 346 (35 + 4 * j + 2)) (b := nuR o m) (s := m 346 2) j0
      have nx : ∀ (s2 : Int) (M2 : Mm), Inv X S M2 → s2 = soF (fun j => m 346 (35 + 4 * j + 2)) (nuR o m) (m 346 2) (j + 1).toNat → (∀ c p : Int, ¬ c = 344 → ¬ c = 345 → ¬ (c = 336 ∧ p = 18) → ¬ (c = 346 ∧ p = 35 + 4 * j + 2) → M2 c p = M c p) → M2 346 (35 + 4 * j + 2) = nuR o m j → wp_X12_passes_72 S (fun a0 a1 a2 M => wp_X12_passes_4 S K n a0 a1 a2 M) K 336 s2 j M2 := by
        intro s2 M2 hM2 e2 f2 y2
        refine u_X12_passes_72 ?_
        refine g_A (by omega) (by omega) ?_
        refine ih s2 (j + 1) M2 hM2 (by omega) (by omega) e2 (fun c p q1 q2 q3 q4 => ?_) (fun l l0 l1 => ?_) (by omega)
        · rw [f2 c p q1 q2 q3 (by omega), F c p q1 q2 q3 (by omega)]
        · by_cases e : l = j
          · rw [e]; exact y2
          · rw [f2 346 _ (by first | decide | exact fun z => absurd z.1 (by decide) | exact ⟨fun z => absurd z.1 (by decide), fun z => absurd z.1 (by decide)⟩ | omega) (by first | decide | exact fun z => absurd z.1 (by decide) | exact ⟨fun z => absurd z.1 (by decide), fun z => absurd z.1 (by decide)⟩ | omega) (by first | decide | exact fun z => absurd z.1 (by decide) | exact ⟨fun z => absurd z.1 (by decide), fun z => absurd z.1 (by decide)⟩ | omega) (by first | decide | exact fun z => absurd z.1 (by decide) | exact ⟨fun z => absurd z.1 (by decide), fun z => absurd z.1 (by decide)⟩ | omega)]
            exact J l l0 (by omega)
      have x3 : M 346 (35 + 4 * j + 3) = m 346 (35 + 4 * j + 3) := F 346 _ (by first | decide | exact fun z => absurd z.1 (by decide) | exact ⟨fun z => absurd z.1 (by decide), fun z => absurd z.1 (by decide)⟩ | omega) (by first | decide | exact fun z => absurd z.1 (by decide) | exact ⟨fun z => absurd z.1 (by decide), fun z => absurd z.1 (by decide)⟩ | omega) (by first | decide | exact fun z => absurd z.1 (by decide) | exact ⟨fun z => absurd z.1 (by decide), fun z => absurd z.1 (by decide)⟩ | omega) (by first | decide | exact fun z => absurd z.1 (by decide) | exact ⟨fun z => absurd z.1 (by decide), fun z => absurd z.1 (by decide)⟩ | omega)
      have x2 : M 346 (35 + 4 * j + 2) = m 346 (35 + 4 * j + 2) := F 346 _ (by first | decide | exact fun z => absurd z.1 (by decide) | exact ⟨fun z => absurd z.1 (by decide), fun z => absurd z.1 (by decide)⟩ | omega) (by first | decide | exact fun z => absurd z.1 (by decide) | exact ⟨fun z => absurd z.1 (by decide), fun z => absurd z.1 (by decide)⟩ | omega) (by first | decide | exact fun z => absurd z.1 (by decide) | exact ⟨fun z => absurd z.1 (by decide), fun z => absurd z.1 (by decide)⟩ | omega) (by first | decide | exact fun z => absurd z.1 (by decide) | exact ⟨fun z => absurd z.1 (by decide), fun z => absurd z.1 (by decide)⟩ | omega)
      refine g_C ?_
      refine ⟨hS.k336, ?_⟩
      refine zt_jugOf hS hM j0 hj (by omega) (by omega) ?_
      refine g_C ?_
      refine g_if (fun w1 => ?_) (fun w1 => ?_)
      · rw [x3] at w1
        have en : nuR o m j = min (m 346 (35 + 4 * j + 2) + tnR o m j) 999 := if_neg w1
        have bt := bj j j0 (by omega)
        refine g_C ?_
        refine ⟨hS.k336, ?_⟩
        refine zt_jugOf hS hM j0 hj (by omega) (by omega) ?_
        refine ⟨hS.k336, ?_⟩
        refine zh_turns12 hS hM (hr.keep (fun c p q => F c p (by omega) (by omega) (by omega) (by omega))) j0 hj (by rw [x2]; exact bt) (fun M1 hM1 f1 y1 => ?_)
        have et : tnR o M j = tnR o m j := tnR_same (fun c p q => F c p (by omega) (by omega) (by omega) (by omega)) (by omega) (by omega) j0 hj (bH j j0 hj)
        rw [et, x2, ← en] at y1
        have y2 : M1 346 2 = m 346 2 := by rw [f1 346 2 (by first | decide | exact fun z => absurd z.1 (by decide) | exact ⟨fun z => absurd z.1 (by decide), fun z => absurd z.1 (by decide)⟩ | omega) (by first | decide | exact fun z => absurd z.1 (by decide) | exact ⟨fun z => absurd z.1 (by decide), fun z => absurd z.1 (by decide)⟩ | omega) (by first | decide | exact fun z => absurd z.1 (by decide) | exact ⟨fun z => absurd z.1 (by decide), fun z => absurd z.1 (by decide)⟩ | omega) (by first | decide | exact fun z => absurd z.1 (by decide) | exact ⟨fun z => absurd z.1 (by decide), fun z => absurd z.1 (by decide)⟩ | omega), F 346 2 (by first | decide | exact fun z => absurd z.1 (by decide) | exact ⟨fun z => absurd z.1 (by decide), fun z => absurd z.1 (by decide)⟩ | omega) (by first | decide | exact fun z => absurd z.1 (by decide) | exact ⟨fun z => absurd z.1 (by decide), fun z => absurd z.1 (by decide)⟩ | omega) (by first | decide | exact fun z => absurd z.1 (by decide) | exact ⟨fun z => absurd z.1 (by decide), fun z => absurd z.1 (by decide)⟩ | omega) (by first | decide | exact fun z => absurd z.1 (by decide) | exact ⟨fun z => absurd z.1 (by decide), fun z => absurd z.1 (by decide)⟩ | omega)]
        have no : ∀ s2 : Int, s2 = s → (¬ ((fun j => m 346 (35 + 4 * j + 2)) j < m 346 2 ∧ m 346 2 ≤ nuR o m j)) → wp_X12_passes_69 S (fun a0 a1 a2 M => wp_X12_passes_4 S K n a0 a1 a2 M) K 336 j s2 M1 := by
          intro s2 e2 q
          rw [if_neg q] at se
          refine u_X12_passes_69 ?_
          refine g_C ?_
          refine u_X12_passes_70 ?_
          refine g_A (by omega) (by omega) ?_
          exact nx _ M1 hM1 (by rw [e2, es, se]) f1 y1
        refine g_getr 20 346 rfl hS.k336 hM1.f_336_20 (by decide) ?_
        refine g_C ?_
        refine g_ldu hS.k346 hS.l346 (by decide) (by decide) (fun u eu => ?_)
        refine g_if (fun w2 => no s rfl (fun z => by have := z.1; have q : m 346 (35 + 4 * j + 2) < m 346 2 := z.1; omega)) (fun w2 => ?_)
        refine g_C ?_
        refine ⟨hS.k336, ?_⟩
        refine zt_jugOf hS hM1 j0 hj (by omega) (by omega) ?_
        refine g_getr 20 346 rfl hS.k336 hM1.f_336_20 (by decide) ?_
        refine g_C ?_
        refine g_ldu hS.k346 hS.l346 (by decide) (by decide) (fun u2 eu2 => ?_)
        refine g_if (fun w3 => no s rfl (fun z => by have := z.2; omega)) (fun w3 => ?_)
        refine g_C ?_
        refine u_X12_passes_70 ?_
        refine g_A (by omega) (by omega) ?_
        have qq : (fun j => m 346 (35 + 4 * j + 2)) j < m 346 2 := by
          show m 346 (35 + 4 * j + 2) < m 346 2
          omega
        rw [if_pos ⟨qq, by omega⟩] at se
        exact nx _ M1 hM1 (by rw [es, se]) f1 y1
      · have w2 : m 346 (35 + 4 * j + 3) = 1 := by omega
        have en : nuR o m j = m 346 (35 + 4 * j + 2) := if_pos w2
        have q : ¬ ((fun j => m 346 (35 + 4 * j + 2)) j < m 346 2 ∧ m 346 2 ≤ nuR o m j) := fun z => by
          have z1 : m 346 (35 + 4 * j + 2) < m 346 2 := z.1
          have z2 := z.2
          omega
        rw [if_neg q] at se
        exact nx s M hM (by rw [es, se]; omega) (fun c p _ _ _ _ => rfl) (by rw [x2, en])
  refine u_X12_passes ?_
  refine g_C ?_
  refine g_C ?_
  exact ⟨5, L1 5 0 0 m hm (by omega) (by omega) rfl (fun c p _ _ _ _ => rfl) (fun l l0 l1 => absurd l1 (by omega)) (by omega)⟩
