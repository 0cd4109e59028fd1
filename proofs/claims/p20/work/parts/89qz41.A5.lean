/-! how far milk turns in an HOUR: both sides by one word row -/
def wds (h sp ti jg tu he t ro ho so : Int) (j : Int) : Int := if j = 0 then h else if j = 1 then sp else if j = 2 then ti else if j = 3 then jg else if j = 4 then tu else if j = 5 then he else if j = 6 then t else if j = 7 then ro else if j = 8 then ho else so
theorem ev1_same {w w' : Int → Int} {L : List Int} {x : Int} (hx : ¬ x = -1) (hw : ∀ j : Int, 0 ≤ j → j ≤ 9 → w' j = w j) : ev1 w' L x = ev1 w L x := by
  unfold ev1
  by_cases e : -11 ≤ x
  · rw [if_pos e, if_pos e]
    by_cases e2 : 0 ≤ x
    · rw [if_pos e2, if_pos e2]
    · rw [if_neg e2, if_neg e2, hw (-2 - x) (by omega) (by omega)]
  · rw [if_neg e, if_neg e]
theorem evl_same {w w' : Int → Int} (hw : ∀ j : Int, 0 ≤ j → j ≤ 9 → w' j = w j) : ∀ (V L : List Int), (∀ x : Int, x ∈ V → ¬ x = -1) → evl w' L V = evl w L V := by
  intro V
  induction V with
  | nil => intro L _; rfl
  | cons x V ih =>
    intro L h
    show evl w' (ev1 w' L x) V = evl w (ev1 w L x) V
    rw [ev1_same (h x (List.mem_cons_self ..)) hw]
    exact ih _ (fun y hy => h y (List.mem_cons_of_mem _ hy))
/-- no sign of a rule is -1 -/
def N1 (Cs : List Cz) : Prop := ∀ c : Cz, c ∈ Cs → (∀ x : Int, x ∈ c.1 → ¬ x = -1) ∧ (∀ x : Int, x ∈ c.2.2 → ¬ x = -1)
theorem evC_same {w w' : Int → Int} (hw : ∀ j : Int, 0 ≤ j → j ≤ 9 → w' j = w j) : ∀ Cs : List Cz, N1 Cs → evC w' Cs = evC w Cs := by
  intro Cs
  induction Cs with
  | nil => intro _; rfl
  | cons c l ih =>
    intro h
    obtain ⟨h1, h2⟩ := h c (List.mem_cons_self ..)
    show (if c.2.1 = true ∧ (evl w' [] c.2.2).headD 0 = 0 then evC w' l else (evl w' [] c.1).headD 0) = (if c.2.1 = true ∧ (evl w [] c.2.2).headD 0 = 0 then evC w l else (evl w [] c.1).headD 0)
    rw [evl_same hw _ _ h1, evl_same hw _ _ h2, ih (fun d hd => h d (List.mem_cons_of_mem _ hd))]
/-- by the rule, or without one -/
def tvO (o : Option (List Cz)) (w : Int → Int) : Int := match o with
  | none => w 1 + w 2 / 4 + w 5
  | some Cs => max 0 (min 50 (evC w Cs))
/-- the rule in force in the class, in the reference -/
def RC (S : Sh) (m : Mm) (o : Option (List Cz)) : Prop := match o with
  | none => m 55 1 = -2
  | some Cs => ¬ m 55 1 = -2 ∧ ¬ m 55 1 = -1 ∧ rowv S (m 55 1) ∧ Hs (m (m 55 1)) 0 (codC Cs) ∧ rlen S (m 55 1) = ((codC Cs).length : Int) ∧ 0 < (codC Cs).length ∧ Tys Cs ∧ nvs (codC Cs) ≤ 60
def RR (m : Mm) (o : Option (List Cz)) : Prop := match o with
  | none => m 336 21 < 0
  | some Cs => 0 ≤ m 336 21 ∧ RwR m (m 336 21) Cs ∧ nvs (rowC Cs) ≤ 60 ∧ N1 Cs
theorem RC.same {S : Sh} {m m' : Mm} {o : Option (List Cz)} (h : RC S m o) (h55 : m' 55 1 = m 55 1) (hr : ∀ c p : Int, (c = 55 ∧ p = 1) ∨ c = m 55 1 → m' c p = m c p) : RC S m' o := by
  cases o with
  | none => exact h55.trans h
  | some Cs =>
    obtain ⟨a, b, c, d, e⟩ := h
    show ¬ m' 55 1 = -2 ∧ ¬ m' 55 1 = -1 ∧ rowv S (m' 55 1) ∧ Hs (m' (m' 55 1)) 0 (codC Cs) ∧ rlen S (m' 55 1) = ((codC Cs).length : Int) ∧ 0 < (codC Cs).length ∧ Tys Cs ∧ nvs (codC Cs) ≤ 60
    rw [h55, show m' (m 55 1) = m (m 55 1) from funext (fun p => hr _ p (Or.inr rfl))]
    exact ⟨a, b, c, d, e⟩
def wdH (m : Mm) (he : Int) : Int → Int := wds (m 55 4) (m 7 (m 55 4)) (m 55 7) (m 55 5) (m 55 6) he (m 55 8) (m 55 10) (m 55 11) (if m 55 6 < m 4 2 then 0 else 1)
theorem iDiv4 : ∀ v : Nat, v < 100 → iDiv (v : Int) 4 = (v : Int) / 4 := by decide +kernel
theorem w32_50 : ∀ v : Nat, v < 51 → w32 (v : Int) = (v : Int) := by decide +kernel
theorem tvO_b {o : Option (List Cz)} {w : Int → Int} (b1 : 0 ≤ w 1 ∧ w 1 ≤ 20) (b2 : 0 ≤ w 2 ∧ w 2 ≤ 99) (b5 : 0 ≤ w 5 ∧ w 5 ≤ 20) : 0 ≤ tvO o w ∧ tvO o w ≤ 64 := by
  cases o with
  | none =>
    show 0 ≤ w 1 + w 2 / 4 + w 5 ∧ w 1 + w 2 / 4 + w 5 ≤ 64
    omega
  | some Cs =>
    show 0 ≤ max 0 (min 50 (evC w Cs)) ∧ max 0 (min 50 (evC w Cs)) ≤ 64
    omega
theorem zh_turns {X : Mm} {S : Sh} {m : Mm} {K : Int → Mm → Prop} {o : Option (List Cz)} (hS : Shp S) (hm : Inv X S m) (hr : RC S m o) (hk : ∀ M1 : Mm, Inv X S M1 → (∀ c p : Int, ¬ c = 56 → ¬ (c = 55 ∧ p = 9) → M1 c p = m c p) → K (tvO o (wdH m (if m 55 2 = 0 then ht8 m (m 55 8) else 0))) M1) : wp_X10_turns S m 55 K := by
  refine u_X10_turns ?_
  refine g_getu 8 rfl hS.k55 (fun t et => ?_)
  subst et
  refine ⟨hS.k55, ?_⟩
  refine zh_heat10 hS hm (fun b0 b1 => ?_)
  obtain ⟨he, ehe⟩ : ∃ he : Int, he = (if m 55 2 = 0 then ht8 m (m 55 8) else 0) := ⟨_, rfl⟩
  rw [← ehe] at hk b0 b1 ⊢
  refine g_put 9 rfl hS.k55 (hm.w_55_9 b0 b1) (fun m1 e1 hm1 => ?_)
  have f1 : ∀ c p : Int, ¬ (c = 55 ∧ p = 9) → m1 c p = m c p := fun c p q => (congrFun (congrFun e1 _) _).trans (up_ne q)
  have y1 : m1 55 9 = he := (congrFun (congrFun e1 _) _).trans (up_at _ _ _ _)
  have b4 := hm1.f_55_4
  have b7 := hm1.f_55_7
  cases o with
  | none =>
    have e2 : m1 55 1 = -2 := (f1 55 1 (by omega)).trans hr
    refine ⟨hS.k55, ?_, ?_⟩
    · rw [show (((1 : Nat) : Int)) = 1 from rfl, e2]; decide
    rw [show (((1 : Nat) : Int)) = 1 from rfl, e2]
    refine Or.inl ⟨rfl, ?_⟩
    refine g_ifF (fun z => z rfl) ?_
    refine g_getr 0 4 rfl hS.k55 hm1.f_55_0 (by decide) ?_
    refine g_getr 10 7 rfl hS.k4 hm1.f_4_10 (by decide) ?_
    refine g_getu 4 rfl hS.k55 (fun h eh => ?_)
    refine g_ldu hS.k7 hS.l7 (by omega) (by omega) (fun sp esp => ?_)
    refine g_getu 7 rfl hS.k55 (fun ti eti => ?_)
    refine g_C ?_
    have bs := hm1.a_7 (i := h) (by omega) (by omega)
    have q4 := iDiv4 ti.toNat (by omega)
    rw [Int.toNat_of_nonneg (by omega)] at q4
    refine ⟨by decide, ?_⟩
    rw [q4]
    refine g_A (by omega) (by omega) ?_
    refine g_getu 9 rfl hS.k55 (fun h9 eh9 => ?_)
    have e9 : h9 = he := eh9.trans y1
    refine g_A (by omega) (by omega) ?_
    have z : sp + ti / 4 + h9 = tvO none (wdH m he) := by
      show sp + ti / 4 + h9 = m 7 (m 55 4) + m 55 7 / 4 + he
      rw [e9, esp, eti, eh, f1 55 7 (by omega), f1 55 4 (by omega), f1 7 _ (by omega)]
    rw [z]
    exact hk m1 hm1 (fun c p _ q => f1 c p q)
  | some Cs =>
    obtain ⟨a1, a2, a3, a4, a5, a6, a7, a8⟩ := hr
    have e2 : m1 55 1 = m 55 1 := f1 55 1 (by omega)
    refine ⟨hS.k55, ?_, ?_⟩
    · rw [show (((1 : Nat) : Int)) = 1 from rfl, e2]; exact a2
    rw [show (((1 : Nat) : Int)) = 1 from rfl, e2]
    refine g_lenrow a3 (fun v ev v0 v1 => ?_)
    refine g_ifT (by omega) ?_
    refine g_C ?_
    refine g_C ?_
    refine ⟨hS.k55, ?_⟩
    have rw1 : ∀ p : Int, m1 (m 55 1) p = m (m 55 1) p := fun p => by
      by_cases z : m 55 1 = 55 ∧ p = 9
      · exfalso
        have q := a3
        rcases q with q | q
        · omega
        · have := q.2.2
          omega
      · exact f1 _ p z
    refine zg_sumByRule hS hm1 e2 a3 (by rw [show m1 (m 55 1) = m (m 55 1) from funext rw1]; exact a4) a5 a7 a8 (fun m2 hm2 f2 => ?_)
    have ew : wdC m1 = wdH m he := by
      funext j
      show (if j = 0 then m1 55 4 else if j = 1 then m1 7 (m1 55 4) else if j = 2 then m1 55 7 else if j = 3 then m1 55 5 else if j = 4 then m1 55 6 else if j = 5 then m1 55 9 else if j = 6 then m1 55 8 else if j = 7 then m1 55 10 else if j = 8 then m1 55 11 else if m1 55 6 < m1 4 2 then 0 else 1) = _
      rw [f1 55 4 (by omega), f1 7 _ (by omega), f1 55 7 (by omega), f1 55 5 (by omega), f1 55 6 (by omega), y1, f1 55 8 (by omega), f1 55 10 (by omega), f1 55 11 (by omega), f1 4 2 (by omega)]
      rfl
    rw [ew]
    obtain ⟨e, ee⟩ : ∃ e : Int, e = evC (wdH m he) Cs := ⟨_, rfl⟩
    rw [← ee]
    show K (w32 (max 0 (min 50 e))) m2
    have q5 := w32_50 (max 0 (min 50 e)).toNat (by omega)
    rw [Int.toNat_of_nonneg (by omega)] at q5
    rw [q5, ee]
    exact hk m2 hm2 (fun c p q1 q2 => by rw [f2 c p q1, f1 c p q2])
