section
/-! how warm it is -/
def htF (a b c : Int → Int) (t : Int) : Nat → Int
  | 0 => 0
  | n + 1 => if a n ≤ t ∧ t ≤ b n then htF a b c t n + c n else htF a b c t n
theorem htF_b {a b c : Int → Int} {t : Int} : ∀ n : Nat, (∀ k : Int, 0 ≤ k → k < n → 0 ≤ c k ∧ c k ≤ 5) → 0 ≤ htF a b c t n ∧ htF a b c t n ≤ 5 * n := by
  intro n
  induction n with
  | zero => intro _; exact ⟨Int.le_refl 0, by show (0 : Int) ≤ 5 * ((0 : Nat) : Int); omega⟩
  | succ n ih =>
    intro h
    have q := ih (fun k k0 k1 => h k k0 (by omega))
    have z := h (n : Int) (by omega) (by omega)
    show 0 ≤ (if a n ≤ t ∧ t ≤ b n then htF a b c t n + c n else htF a b c t n) ∧ (if a n ≤ t ∧ t ≤ b n then htF a b c t n + c n else htF a b c t n) ≤ 5 * ((n + 1 : Nat) : Int)
    by_cases e : a n ≤ t ∧ t ≤ b n
    · rw [if_pos e]; omega
    · rw [if_neg e]; omega
theorem htF_same {a b c a' b' c' : Int → Int} {t : Int} : ∀ n : Nat, (∀ k : Int, 0 ≤ k → k < n → a' k = a k ∧ b' k = b k ∧ c' k = c k) → htF a' b' c' t n = htF a b c t n := by
  intro n
  induction n with
  | zero => intro _; rfl
  | succ n ih =>
    intro h
    obtain ⟨e1, e2, e3⟩ := h (n : Int) (by omega) (by omega)
    show (if a' n ≤ t ∧ t ≤ b' n then htF a' b' c' t n + c' n else htF a' b' c' t n) = (if a n ≤ t ∧ t ≤ b n then htF a b c t n + c n else htF a b c t n)
    rw [ih (fun k k0 k1 => h k k0 (by omega)), e1, e2, e3]
def ht8 (m : Mm) (t : Int) : Int := htF (m 9) (m 10) (m 11) t (m 4 6).toNat
theorem zh_heat8 {X : Mm} {S : Sh} {m : Mm} {K : Int → Mm → Prop} {t : Int} (hS : Shp S) (hm : Inv X S m) (hk : 0 ≤ ht8 m t → ht8 m t ≤ 20 → K (ht8 m t) m) : wp_X8_heatIn S m 4 t K := by
  have b6 := hm.f_4_6
  have bn : ∀ n : Nat, n ≤ 4 → 0 ≤ htF (m 9) (m 10) (m 11) t n ∧ htF (m 9) (m 10) (m 11) t n ≤ 5 * n := fun n hn => htF_b n (fun k k0 k1 => hm.a_11 (i := k) k0 (by omega))
  refine u_X8_heatIn ?_
  refine g_C ?_
  refine g_C ?_
  have L : ∀ (n i : Nat), (i : Int) ≤ m 4 6 → 5 - (i : Int) ≤ (n : Int) → wp_X8_heatIn_4 S K n 4 t (htF (m 9) (m 10) (m 11) t i) (i : Int) m := by
    intro n
    induction n with
    | zero => intro i hi hn; exfalso; omega
    | succ n ih =>
      intro i hi hn
      have bi := bn i (by omega)
      refine u_X8_heatIn_4 ?_
      refine g_getu 6 rfl hS.k4 (fun v ev => ?_)
      refine g_if (fun w => ?_) (fun w => ?_)
      · have e : i = (m 4 6).toNat := by omega
        subst e
        exact hk bi.1 (by have := bi.2; unfold ht8; omega)
      have e1 : htF (m 9) (m 10) (m 11) t (i + 1) = (if m 9 (i : Int) ≤ t ∧ t ≤ m 10 (i : Int) then htF (m 9) (m 10) (m 11) t i + m 11 (i : Int) else htF (m 9) (m 10) (m 11) t i) := rfl
      have nx : ∀ u : Int, u = htF (m 9) (m 10) (m 11) t (i + 1) → wp_X8_heatIn_41 S (fun a0 a1 a2 a3 M => wp_X8_heatIn_4 S K n a0 a1 a2 a3 M) K 4 t u (i : Int) m := by
        intro u eu
        rw [eu]
        refine u_X8_heatIn_41 ?_
        refine g_A (by omega) (by omega) ?_
        rw [show (i : Int) + 1 = ((i + 1 : Nat) : Int) by omega]
        exact ih (i + 1) (by omega) (by omega)
      refine g_getr 12 9 rfl hS.k4 hm.f_4_12 (by decide) ?_
      refine g_ldu hS.k9 hS.l9 (by omega) (by omega) (fun v2 ev2 => ?_)
      refine g_if (fun w2 => nx _ (by rw [e1, if_neg (fun z => by have := z.1; omega)])) (fun w2 => ?_)
      refine g_getr 13 10 rfl hS.k4 hm.f_4_13 (by decide) ?_
      refine g_ldu hS.k10 hS.l10 (by omega) (by omega) (fun v3 ev3 => ?_)
      refine g_if (fun w3 => nx _ (by rw [e1, if_neg (fun z => by have := z.2; omega)])) (fun w3 => ?_)
      refine g_getr 14 11 rfl hS.k4 hm.f_4_14 (by decide) ?_
      refine g_ldu hS.k11 hS.l11 (by omega) (by omega) (fun v4 ev4 => ?_)
      have bc := hm.a_11 (i := (i : Int)) (by omega) (by omega)
      refine g_A (by omega) (by omega) (nx _ ?_)
      rw [e1, if_pos ⟨by omega, by omega⟩, ev4]
  exact ⟨5, L 5 0 (by omega) (by omega)⟩
def htR (D : Int → Int) (t : Int) : Int := htF (fun k => D (81 + 3 * k)) (fun k => D (81 + 3 * k + 1)) (fun k => D (81 + 3 * k + 2)) t (D 9).toNat
theorem zh_heat12 {X : Mm} {S : Sh} {m : Mm} {K : Int → Mm → Prop} {t : Int} (hS : Shp S) (hm : Inv X S m) (hk : 0 ≤ (if m 336 23 = 0 then htR (m 346) t else 0) → (if m 336 23 = 0 then htR (m 346) t else 0) ≤ 20 → K (if m 336 23 = 0 then htR (m 346) t else 0) m) : wp_X12_heatIn S m 336 t K := by
  have b9 := hm.f_346_9
  have bc : ∀ k : Int, 0 ≤ k → k ≤ 3 → 0 ≤ m 346 (81 + 3 * k + 2) ∧ m 346 (81 + 3 * k + 2) ≤ 5 := fun k k0 k1 => fam_346_83_3_0_3 hm (a := k) (by omega) k0 k1
  have bn : ∀ n : Nat, n ≤ 4 → 0 ≤ htF (fun k => m 346 (81 + 3 * k)) (fun k => m 346 (81 + 3 * k + 1)) (fun k => m 346 (81 + 3 * k + 2)) t n ∧ htF (fun k => m 346 (81 + 3 * k)) (fun k => m 346 (81 + 3 * k + 1)) (fun k => m 346 (81 + 3 * k + 2)) t n ≤ 5 * n := fun n hn => htF_b n (fun k k0 k1 => bc k k0 (by omega))
  refine u_X12_heatIn ?_
  refine g_C ?_
  refine g_C ?_
  by_cases ic : m 336 23 = 0
  · rw [if_pos ic] at hk
    have L : ∀ (n i : Nat), (i : Int) ≤ m 346 9 → 5 - (i : Int) ≤ (n : Int) → wp_X12_heatIn_4 S K n 336 t (htF (fun k => m 346 (81 + 3 * k)) (fun k => m 346 (81 + 3 * k + 1)) (fun k => m 346 (81 + 3 * k + 2)) t i) (i : Int) m := by
      intro n
      induction n with
      | zero => intro i hi hn; exfalso; omega
      | succ n ih =>
        intro i hi hn
        have bi := bn i (by omega)
        refine u_X12_heatIn_4 ?_
        refine g_getr 20 346 rfl hS.k336 hm.f_336_20 (by decide) ?_
        refine g_C ?_
        refine g_ldu hS.k346 hS.l346 (by omega) (by omega) (fun v ev => ?_)
        refine g_if (fun w => ?_) (fun w => ?_)
        · have e : i = (m 346 9).toNat := by omega
          subst e
          exact hk bi.1 (by have := bi.2; unfold htR; omega)
        refine g_getu 23 rfl hS.k336 (fun v1 ev1 => ?_)
        refine g_if (fun w1 => absurd (ev1.trans ic) w1) (fun w1 => ?_)
        have e1 : htF (fun k => m 346 (81 + 3 * k)) (fun k => m 346 (81 + 3 * k + 1)) (fun k => m 346 (81 + 3 * k + 2)) t (i + 1) = (if m 346 (81 + 3 * (i : Int)) ≤ t ∧ t ≤ m 346 (81 + 3 * (i : Int) + 1) then htF (fun k => m 346 (81 + 3 * k)) (fun k => m 346 (81 + 3 * k + 1)) (fun k => m 346 (81 + 3 * k + 2)) t i + m 346 (81 + 3 * (i : Int) + 2) else htF (fun k => m 346 (81 + 3 * k)) (fun k => m 346 (81 + 3 * k + 1)) (fun k => m 346 (81 + 3 * k + 2)) t i) := rfl
        have nx : ∀ u v : Int, u + v = htF (fun k => m 346 (81 + 3 * k)) (fun k => m 346 (81 + 3 * k + 1)) (fun k => m 346 (81 + 3 * k + 2)) t (i + 1) → wp_X12_heatIn_68 S (fun a0 a1 a2 a3 M => wp_X12_heatIn_4 S K n a0 a1 a2 a3 M) K 336 t (i : Int) u v m := by
          intro u v eu
          have b2 := bn (i + 1) (by omega)
          refine u_X12_heatIn_68 ?_
          refine g_A (by omega) (by omega) ?_
          rw [eu]
          refine g_A (by omega) (by omega) ?_
          rw [show (i : Int) + 1 = ((i + 1 : Nat) : Int) by omega]
          exact ih (i + 1) (by omega) (by omega)
        have nz : htF (fun k => m 346 (81 + 3 * k)) (fun k => m 346 (81 + 3 * k + 1)) (fun k => m 346 (81 + 3 * k + 2)) t i = htF (fun k => m 346 (81 + 3 * k)) (fun k => m 346 (81 + 3 * k + 1)) (fun k => m 346 (81 + 3 * k + 2)) t (i + 1) → wp_X12_heatIn_67 S (fun a0 a1 a2 a3 M => wp_X12_heatIn_4 S K n a0 a1 a2 a3 M) K 336 t (i : Int) (htF (fun k => m 346 (81 + 3 * k)) (fun k => m 346 (81 + 3 * k + 1)) (fun k => m 346 (81 + 3 * k + 2)) t i) m := by
          intro eu
          refine u_X12_heatIn_67 ?_
          refine g_C ?_
          exact nx _ _ (by omega)
        refine g_C ?_
        refine g_C ?_
        refine g_M (by omega) (by omega) ?_
        refine g_A (by omega) (by omega) ?_
        refine g_getr 20 346 rfl hS.k336 hm.f_336_20 (by decide) ?_
        refine g_ldu hS.k346 hS.l346 (by omega) (by omega) (fun v2 ev2 => ?_)
        refine g_if (fun w2 => nz (by rw [e1, if_neg (fun z => by have := z.1; omega)])) (fun w2 => ?_)
        refine g_getr 20 346 rfl hS.k336 hm.f_336_20 (by decide) ?_
        refine g_C ?_
        refine g_A (by omega) (by omega) ?_
        refine g_ldu hS.k346 hS.l346 (by omega) (by omega) (fun v3 ev3 => ?_)
        refine g_if (fun w3 => nz (by rw [e1, if_neg (fun z => by have := z.2; omega)])) (fun w3 => ?_)
        refine g_getr 20 346 rfl hS.k336 hm.f_336_20 (by decide) ?_
        refine g_C ?_
        refine g_A (by omega) (by omega) ?_
        refine g_ldu hS.k346 hS.l346 (by omega) (by omega) (fun v4 ev4 => ?_)
        refine nx _ _ ?_
        rw [e1, if_pos ⟨by omega, by omega⟩, ev4]
    exact ⟨5, L 5 0 (by omega) (by omega)⟩
  · rw [if_neg ic] at hk
    refine ⟨1, ?_⟩
    refine u_X12_heatIn_4 ?_
    refine g_getr 20 346 rfl hS.k336 hm.f_336_20 (by decide) ?_
    refine g_C ?_
    refine g_ldu hS.k346 hS.l346 (by omega) (by omega) (fun v ev => ?_)
    refine g_if (fun w => hk (by omega) (by omega)) (fun w => ?_)
    refine g_getu 23 rfl hS.k336 (fun v1 ev1 => ?_)
    exact g_if (fun w1 => hk (by omega) (by omega)) (fun w1 => absurd (ev1.symm.trans (by omega)) ic)
theorem ht_eq {M : Mm} {D : Int → Int} {t : Int} (h : TL 4 D M) : ht8 M t = htR D t := by
  obtain ⟨⟨c0, c1, c2, c3, c4, c5, c6, c7⟩, r, hs, ts, ws⟩ := h
  unfold ht8 htR
  rw [c6]
  exact htF_same _ (fun k k0 k1 => ts k k0 (by omega))
theorem zh_heat10 {X : Mm} {S : Sh} {m : Mm} {K : Int → Mm → Prop} {t : Int} (hS : Shp S) (hm : Inv X S m) (hk : 0 ≤ (if m 55 2 = 0 then ht8 m t else 0) → (if m 55 2 = 0 then ht8 m t else 0) ≤ 20 → K (if m 55 2 = 0 then ht8 m t else 0) m) : wp_X10_heatIn S m 55 t K := by
  refine u_X10_heatIn ?_
  refine g_getu 2 rfl hS.k55 (fun v ev => ?_)
  by_cases ic : m 55 2 = 0
  · rw [if_pos ic] at hk
    refine g_ifT (ev.trans ic) ?_
    refine g_getr 0 4 rfl hS.k55 hm.f_55_0 (by decide) ?_
    refine ⟨hS.k4, ?_⟩
    exact zh_heat8 hS hm hk
  · rw [if_neg ic] at hk
    exact g_ifF (fun z => ic (ev.symm.trans z)) (g_C (hk (by omega) (by omega)))
end
section
/-! how far milk turns in an HOUR: both sides by one word row -/
def wds (h sp ti jg tu he t ro ho so : Int) (j : Int) : Int := if j = 0 then h else if j = 1 then sp else if j = 2 then ti else if j = 3 then jg else if j = 4 then tu else if j = 5 then he else if j = 6 then t else if j = 7 then ro else if j = 8 then ho else so
theorem ev1_same {w w' : Int → Int} {L : List Int} {x : Int} (hx : ¬ x = -1) (hw : ∀ j : Int, 0 ≤ j → j ≤ 9 → w' j = w j) : ev1 w' L x = ev1 w L x := by
  unfold ev1
  by_cases e : -11 ≤ x
  · rw [if_pos e, if_pos e]
    by_cases e2 : 0 ≤ x
    · rw [if_pos e2, if_pos e2]
    · rw [if_neg e2, if_neg e2, hw (-2 - x) (by omega) (by omega)]
  · rw [if_neg e, if_neg e]
theorem evl_same {w w' : Int → Int} (hw : ∀ j : Int, 0 ≤ j → j ≤ 9 → w' j = w j) : ∀ (V L : List Int), (∀ x : Int, x ∈ V → ¬ x = -1) → evl w' L V = evl w L V := by
  intro V
  induction V with
  | nil => intro L _; rfl
  | cons x V ih =>
    intro L h
    show evl w' (ev1 w' L x) V = evl w (ev1 w L x) V
    rw [ev1_same (h x (List.mem_cons_self ..)) hw]
    exact ih _ (fun y hy => h y (List.mem_cons_of_mem _ hy))
/-- no sign of a rule is -1 -/
def N1 (Cs : List Cz) : Prop := ∀ c : Cz, c ∈ Cs → (∀ x : Int, x ∈ c.1 → ¬ x = -1) ∧ (∀ x : Int, x ∈ c.2.2 → ¬ x = -1)
theorem evC_same {w w' : Int → Int} (hw : ∀ j : Int, 0 ≤ j → j ≤ 9 → w' j = w j) : ∀ Cs : List Cz, N1 Cs → evC w' Cs = evC w Cs := by
  intro Cs
  induction Cs with
  | nil => intro _; rfl
  | cons c l ih =>
    intro h
    obtain ⟨h1, h2⟩ := h c (List.mem_cons_self ..)
    show (if c.2.1 = true ∧ (evl w' [] c.2.2).headD 0 = 0 then evC w' l else (evl w' [] c.1).headD 0) = (if c.2.1 = true ∧ (evl w [] c.2.2).headD 0 = 0 then evC w l else (evl w [] c.1).headD 0)
    rw [evl_same hw _ _ h1, evl_same hw _ _ h2, ih (fun d hd => h d (List.mem_cons_of_mem _ hd))]
/-- by the rule, or without one -/
def tvO (o : Option (List Cz)) (w : Int → Int) : Int := match o with
  | none => w 1 + w 2 / 4 + w 5
  | some Cs => max 0 (min 50 (evC w Cs))
/-- the rule in force in the class, in the reference -/
def RC (S : Sh) (m : Mm) (o : Option (List Cz)) : Prop := match o with
  | none => m 55 1 = -2
  | some Cs => ¬ m 55 1 = -2 ∧ ¬ m 55 1 = -1 ∧ rowv S (m 55 1) ∧ Hs (m (m 55 1)) 0 (codC Cs) ∧ rlen S (m 55 1) = ((codC Cs).length : Int) ∧ 0 < (codC Cs).length ∧ Tys Cs ∧ nvs (codC Cs) ≤ 60
def RR (m : Mm) (o : Option (List Cz)) : Prop := match o with
  | none => m 336 21 < 0
  | some Cs => 0 ≤ m 336 21 ∧ RwR m (m 336 21) Cs ∧ nvs (rowC Cs) ≤ 60 ∧ N1 Cs
theorem RC.same {S : Sh} {m m' : Mm} {o : Option (List Cz)} (h : RC S m o) (h55 : m' 55 1 = m 55 1) (hr : ∀ c p : Int, (c = 55 ∧ p = 1) ∨ c = m 55 1 → m' c p = m c p) : RC S m' o := by
  cases o with
  | none => exact h55.trans h
  | some Cs =>
    obtain ⟨a, b, c, d, e⟩ := h
    show ¬ m' 55 1 = -2 ∧ ¬ m' 55 1 = -1 ∧ rowv S (m' 55 1) ∧ Hs (m' (m' 55 1)) 0 (codC Cs) ∧ rlen S (m' 55 1) = ((codC Cs).length : Int) ∧ 0 < (codC Cs).length ∧ Tys Cs ∧ nvs (codC Cs) ≤ 60
    rw [h55, show m' (m 55 1) = m (m 55 1) from funext (fun p => hr _ p (Or.inr rfl))]
    exact ⟨a, b, c, d, e⟩
def wdH (m : Mm) (he : Int) : Int → Int := wds (m 55 4) (m 7 (m 55 4)) (m 55 7) (m 55 5) (m 55 6) he (m 55 8) (m 55 10) (m 55 11) (if m 55 6 < m 4 2 then 0 else 1)
theorem iDiv4 : ∀ v : Nat, v < 100 → iDiv (v : Int) 4 = (v : Int) / 4 := by decide +kernel
theorem w32_50 : ∀ v : Nat, v < 51 → w32 (v : Int) = (v : Int) := by decide +kernel
theorem tvO_b {o : Option (List Cz)} {w : Int → Int} (b1 : 0 ≤ w 1 ∧ w 1 ≤ 20) (b2 : 0 ≤ w 2 ∧ w 2 ≤ 99) (b5 : 0 ≤ w 5 ∧ w 5 ≤ 20) : 0 ≤ tvO o w ∧ tvO o w ≤ 64 := by
  cases o with
  | none =>
    show 0 ≤ w 1 + w 2 / 4 + w 5 ∧ w 1 + w 2 / 4 + w 5 ≤ 64
    omega
  | some Cs =>
    show 0 ≤ max 0 (min 50 (evC w Cs)) ∧ max 0 (min 50 (evC w Cs)) ≤ 64
    omega
theorem zh_turns {X : Mm} {S : Sh} {m : Mm} {K : Int → Mm → Prop} {o : Option (List Cz)} (hS : Shp S) (hm : Inv X S m) (hr : RC S m o) (hk : ∀ M1 : Mm, Inv X S M1 → (∀ c p : Int, ¬ c = 56 → ¬ (c = 55 ∧ p = 9) → M1 c p = m c p) → K (tvO o (wdH m (if m 55 2 = 0 then ht8 m (m 55 8) else 0))) M1) : wp_X10_turns S m 55 K := by
  refine u_X10_turns ?_
  refine g_getu 8 rfl hS.k55 (fun t et => ?_)
  subst et
  refine ⟨hS.k55, ?_⟩
  refine zh_heat10 hS hm (fun b0 b1 => ?_)
  obtain ⟨he, ehe⟩ : ∃ he : Int, he = (if m 55 2 = 0 then ht8 m (m 55 8) else 0) := ⟨_, rfl⟩
  rw [← ehe] at hk b0 b1 ⊢
  refine g_put 9 rfl hS.k55 (hm.w_55_9 b0 b1) (fun m1 e1 hm1 => ?_)
  have f1 : ∀ c p : Int, ¬ (c = 55 ∧ p = 9) → m1 c p = m c p := fun c p q => (congrFun (congrFun e1 _) _).trans (up_ne q)
  have y1 : m1 55 9 = he := (congrFun (congrFun e1 _) _).trans (up_at _ _ _ _)
  have b4 := hm1.f_55_4
  have b7 := hm1.f_55_7
  cases o with
  | none =>
    have e2 : m1 55 1 = -2 := (f1 55 1 (by first | decide | exact fun z => absurd z.1 (by decide) | exact ⟨fun z => absurd z.1 (by decide), fun z => absurd z.1 (by decide)⟩ | omega)).trans hr
    refine ⟨hS.k55, ?_, ?_⟩
    · rw [show (((1 : Nat) : Int)) = 1 from rfl, e2]; decide
    rw [show (((1 : Nat) : Int)) = 1 from rfl, e2]
    refine Or.inl ⟨rfl, ?_⟩
    refine g_ifF (fun z => z rfl) ?_
    refine g_getr 0 4 rfl hS.k55 hm1.f_55_0 (by decide) ?_
    refine g_getr 10 7 rfl hS.k4 hm1.f_4_10 (by decide) ?_
    refine g_getu 4 rfl hS.k55 (fun h eh => ?_)
    refine g_ldu hS.k7 hS.l7 (by omega) (by omega) (fun sp esp => ?_)
    refine g_getu 7 rfl hS.k55 (fun ti eti => ?_)
    refine g_C ?_
    have bs := hm1.a_7 (i := h) (by omega) (by omega)
    have q4 := iDiv4 ti.toNat (by omega)
    rw [Int.toNat_of_nonneg (by omega)] at q4
    refine ⟨by decide, ?_⟩
    rw [q4]
    refine g_A (by omega) (by omega) ?_
    refine g_getu 9 rfl hS.k55 (fun h9 eh9 => ?_)
    have e9 : h9 = he := eh9.trans y1
    refine g_A (by omega) (by omega) ?_
    have z : sp + ti / 4 + h9 = tvO none (wdH m he) := by
      show sp + ti / 4 + h9 = m 7 (m 55 4) + m 55 7 / 4 + he
      rw [e9, esp, eti, eh, f1 55 7 (by first | decide | exact fun z => absurd z.1 (by decide) | exact ⟨fun z => absurd z.1 (by decide), fun z => absurd z.1 (by decide)⟩ | omega), f1 55 4 (by first | decide | exact fun z => absurd z.1 (by decide) | exact ⟨fun z => absurd z.1 (by decide), fun z => absurd z.1 (by decide)⟩ | omega), f1 7 _ (by first | decide | exact fun z => absurd z.1 (by decide) | exact ⟨fun z => absurd z.1 (by decide), fun z => absurd z.1 (by decide)⟩ | omega)]
    rw [z]
    exact hk m1 hm1 (fun c p _ q => f1 c p q)
  | some Cs =>
    obtain ⟨a1, a2, a3, a4, a5, a6, a7, a8⟩ := hr
    have e2 : m1 55 1 = m 55 1 := f1 55 1 (by first | decide | exact fun z => absurd z.1 (by decide) | exact ⟨fun z => absurd z.1 (by decide), fun z => absurd z.1 (by decide)⟩ | omega)
    refine ⟨hS.k55, ?_, ?_⟩
    · rw [show (((1 : Nat) : Int)) = 1 from rfl, e2]; exact a2
    rw [show (((1 : Nat) : Int)) = 1 from rfl, e2]
    refine g_lenrow a3 (fun v ev v0 v1 => ?_)
    refine g_ifT (by first | decide | omega) ?_
    refine g_C ?_
    refine g_C ?_
    refine ⟨hS.k55, ?_⟩
    have rw1 : ∀ p : Int, m1 (m 55 1) p = m (m 55 1) p := fun p => by
      by_cases z : m 55 1 = 55 ∧ p = 9
      · exfalso
        have q := a3
        rcases q with q | q
        · omega
        · have := q.2.2
          omega
      · exact f1 _ p z
    refine zg_sumByRule hS hm1 e2 a3 (by rw [show m1 (m 55 1) = m (m 55 1) from funext rw1]; exact a4) a5 a7 a8 (fun m2 hm2 f2 => ?_)
    have ew : wdC m1 = wdH m he := by
      funext j
      show (if j = 0 then m1 55 4 else if j = 1 then m1 7 (m1 55 4) else if j = 2 then m1 55 7 else if j = 3 then m1 55 5 else if j = 4 then m1 55 6 else if j = 5 then m1 55 9 else if j = 6 then m1 55 8 else if j = 7 then m1 55 10 else if j = 8 then m1 55 11 else if m1 55 6 < m1 4 2 then 0 else 1) = _
      rw [f1 55 4 (by first | decide | exact fun z => absurd z.1 (by decide) | exact ⟨fun z => absurd z.1 (by decide), fun z => absurd z.1 (by decide)⟩ | omega), f1 7 _ (by first | decide | exact fun z => absurd z.1 (by decide) | exact ⟨fun z => absurd z.1 (by decide), fun z => absurd z.1 (by decide)⟩ | omega), f1 55 7 (by first | decide | exact fun z => absurd z.1 (by decide) | exact ⟨fun z => absurd z.1 (by decide), fun z => absurd z.1 (by decide)⟩ | omega), f1 55 5 (by first | decide | exact fun z => absurd z.1 (by decide) | exact ⟨fun z => absurd z.1 (by decide), fun z => absurd z.1 (by decide)⟩ | omega), f1 55 6 (by first | decide | exact fun z => absurd z.1 (by decide) | exact ⟨fun z => absurd z.1 (by decide), fun z => absurd z.1 (by decide)⟩ | omega), y1, f1 55 8 (by first | decide | exact fun z => absurd z.1 (by decide) | exact ⟨fun z => absurd z.1 (by decide), fun z => absurd z.1 (by decide)⟩ | omega), f1 55 10 (by first | decide | exact fun z => absurd z.1 (by decide) | exact ⟨fun z => absurd z.1 (by decide), fun z => absurd z.1 (by decide)⟩ | omega), f1 55 11 (by first | decide | exact fun z => absurd z.1 (by decide) | exact ⟨fun z => absurd z.1 (by decide), fun z => absurd z.1 (by decide)⟩ | omega), f1 4 2 (by first | decide | exact fun z => absurd z.1 (by decide) | exact ⟨fun z => absurd z.1 (by decide), fun z => absurd z.1 (by decide)⟩ | omega)]
      rfl
    rw [ew]
    obtain ⟨e, ee⟩ : ∃ e : Int, e = evC (wdH m he) Cs := ⟨_, rfl⟩
    rw [← ee]
    show K (w32 (max 0 (min 50 e))) m2
    have q5 := w32_50 (max 0 (min 50 e)).toNat (by omega)
    rw [Int.toNat_of_nonneg (by omega)] at q5
    rw [q5, ee]
    exact hk m2 hm2 (fun c p q1 q2 => by rw [f2 c p q1, f1 c p q2])
end
section
theorem g_cmpx {a b : Int} {K : Int → Prop} (h : ∀ v : Int, ((a < b ∧ v = -1) ∨ (a = b ∧ v = 0) ∨ (b < a ∧ v = 1)) → K v) : wCmp a b K := g_cmp (fun e => h _ (Or.inl ⟨e, rfl⟩)) (fun e => h _ (Or.inr (Or.inl ⟨e, rfl⟩))) (fun e => h _ (Or.inr (Or.inr ⟨e, rfl⟩)))
theorem zh_turnsIn {X : Mm} {S : Sh} {m : Mm} {K : Int → Mm → Prop} {o : Option (List Cz)} {h ti jg tu t ro ho : Int} (hS : Shp S) (hm : Inv X S m) (hr : RR m o) (h0 : 0 ≤ h) (h4 : h ≤ 4) (t0 : 0 ≤ ti) (t9 : ti ≤ 99) (hk : ∀ M1 : Mm, Inv X S M1 → (∀ c p : Int, ¬ c = 344 → ¬ c = 345 → ¬ (c = 336 ∧ p = 18) → M1 c p = m c p) → K (tvO o (wds h (m 346 (10 + 5 * h + 3)) ti jg tu (if m 336 23 = 0 then htR (m 346) t else 0) t ro ho (if tu < m 346 2 then 0 else 1))) M1) : wp_X12_turnsIn S m 336 h ti jg tu t ro ho K := by
  refine u_X12_turnsIn ?_
  refine ⟨hS.k336, ?_⟩
  refine zh_heat12 hS hm (fun b0 b1 => ?_)
  obtain ⟨he, ehe⟩ : ∃ he : Int, he = (if m 336 23 = 0 then htR (m 346) t else 0) := ⟨_, rfl⟩
  rw [← ehe] at hk b0 b1 ⊢
  have bs : 0 ≤ m 346 (10 + 5 * h + 3) ∧ m 346 (10 + 5 * h + 3) ≤ 20 := fam_346_13_5_0_4 hm (a := h) (by omega) (by omega) (by omega)
  refine g_getu 21 rfl hS.k336 (fun fo efo => ?_)
  cases o with
  | none =>
    have q : m 336 21 < 0 := hr
    refine g_ifF (by omega) ?_
    refine g_C ?_
    refine ⟨hS.k336, ?_⟩
    refine zt_handOf hS hm h0 h4 (by omega) (by omega) ?_
    refine g_C ?_
    have q4 := iDiv4 ti.toNat (by omega)
    rw [Int.toNat_of_nonneg (by omega)] at q4
    refine ⟨by decide, ?_⟩
    rw [q4]
    refine g_A (by omega) (by omega) ?_
    refine g_A (by omega) (by omega) ?_
    exact hk m hm (fun c p _ _ _ => rfl)
  | some Cs =>
    obtain ⟨a1, a2, a3, a4⟩ := hr
    have b21 := hm.f_336_21
    refine g_ifT (by omega) ?_
    refine g_getr 19 345 rfl hS.k336 hm.f_336_19 (by decide) ?_
    refine g_C ?_
    refine g_C ?_
    refine g_st hS.k345 hS.l345 (by decide) (by decide) (hm.wa_345 (by decide) (by decide)) (fun m1 e1 hm1 => ?_)
    have f1 : ∀ c p : Int, ¬ (c = 345 ∧ p = 0) → m1 c p = m c p := fun c p q => (congrFun (congrFun e1 _) _).trans (up_ne q)
    have y1 : m1 345 0 = h := (congrFun (congrFun e1 _) _).trans (up_at _ _ _ _)
    refine g_getr 19 345 rfl hS.k336 hm1.f_336_19 (by decide) ?_
    refine g_C ?_
    refine g_C ?_
    refine ⟨hS.k336, ?_⟩
    refine zt_handOf hS hm1 h0 h4 (by omega) (by omega) ?_
    rw [f1 346 _ (by omega)]
    refine g_C ?_
    refine g_st hS.k345 hS.l345 (by decide) (by decide) (hm1.wa_345 (by decide) (by decide)) (fun m2 e2 hm2 => ?_)
    have f2 : ∀ c p : Int, ¬ (c = 345 ∧ p = 1) → m2 c p = m1 c p := fun c p q => (congrFun (congrFun e2 _) _).trans (up_ne q)
    have y2 : m2 345 1 = m 346 (10 + 5 * h + 3) := (congrFun (congrFun e2 _) _).trans (up_at _ _ _ _)
    refine g_getr 19 345 rfl hS.k336 hm2.f_336_19 (by decide) ?_
    refine g_C ?_
    refine g_C ?_
    refine g_st hS.k345 hS.l345 (by decide) (by decide) (hm2.wa_345 (by decide) (by decide)) (fun m3 e3 hm3 => ?_)
    have f3 : ∀ c p : Int, ¬ (c = 345 ∧ p = 2) → m3 c p = m2 c p := fun c p q => (congrFun (congrFun e3 _) _).trans (up_ne q)
    have y3 : m3 345 2 = ti := (congrFun (congrFun e3 _) _).trans (up_at _ _ _ _)
    refine g_getr 19 345 rfl hS.k336 hm3.f_336_19 (by decide) ?_
    refine g_C ?_
    refine g_C ?_
    refine g_st hS.k345 hS.l345 (by decide) (by decide) (hm3.wa_345 (by decide) (by decide)) (fun m4 e4 hm4 => ?_)
    have f4 : ∀ c p : Int, ¬ (c = 345 ∧ p = 3) → m4 c p = m3 c p := fun c p q => (congrFun (congrFun e4 _) _).trans (up_ne q)
    have y4 : m4 345 3 = jg := (congrFun (congrFun e4 _) _).trans (up_at _ _ _ _)
    refine g_getr 19 345 rfl hS.k336 hm4.f_336_19 (by decide) ?_
    refine g_C ?_
    refine g_C ?_
    refine g_st hS.k345 hS.l345 (by decide) (by decide) (hm4.wa_345 (by decide) (by decide)) (fun m5 e5 hm5 => ?_)
    have f5 : ∀ c p : Int, ¬ (c = 345 ∧ p = 4) → m5 c p = m4 c p := fun c p q => (congrFun (congrFun e5 _) _).trans (up_ne q)
    have y5 : m5 345 4 = tu := (congrFun (congrFun e5 _) _).trans (up_at _ _ _ _)
    refine g_getr 19 345 rfl hS.k336 hm5.f_336_19 (by decide) ?_
    refine g_C ?_
    refine g_C ?_
    refine g_st hS.k345 hS.l345 (by decide) (by decide) (hm5.wa_345 (by decide) (by decide)) (fun m6 e6 hm6 => ?_)
    have f6 : ∀ c p : Int, ¬ (c = 345 ∧ p = 5) → m6 c p = m5 c p := fun c p q => (congrFun (congrFun e6 _) _).trans (up_ne q)
    have y6 : m6 345 5 = he := (congrFun (congrFun e6 _) _).trans (up_at _ _ _ _)
    refine g_getr 19 345 rfl hS.k336 hm6.f_336_19 (by decide) ?_
    refine g_C ?_
    refine g_C ?_
    refine g_st hS.k345 hS.l345 (by decide) (by decide) (hm6.wa_345 (by decide) (by decide)) (fun m7 e7 hm7 => ?_)
    have f7 : ∀ c p : Int, ¬ (c = 345 ∧ p = 6) → m7 c p = m6 c p := fun c p q => (congrFun (congrFun e7 _) _).trans (up_ne q)
    have y7 : m7 345 6 = t := (congrFun (congrFun e7 _) _).trans (up_at _ _ _ _)
    refine g_getr 19 345 rfl hS.k336 hm7.f_336_19 (by decide) ?_
    refine g_C ?_
    refine g_C ?_
    refine g_st hS.k345 hS.l345 (by decide) (by decide) (hm7.wa_345 (by decide) (by decide)) (fun m8 e8 hm8 => ?_)
    have f8 : ∀ c p : Int, ¬ (c = 345 ∧ p = 7) → m8 c p = m7 c p := fun c p q => (congrFun (congrFun e8 _) _).trans (up_ne q)
    have y8 : m8 345 7 = ro := (congrFun (congrFun e8 _) _).trans (up_at _ _ _ _)
    refine g_getr 19 345 rfl hS.k336 hm8.f_336_19 (by decide) ?_
    refine g_C ?_
    refine g_C ?_
    refine g_st hS.k345 hS.l345 (by decide) (by decide) (hm8.wa_345 (by decide) (by decide)) (fun m9 e9 hm9 => ?_)
    have f9 : ∀ c p : Int, ¬ (c = 345 ∧ p = 8) → m9 c p = m8 c p := fun c p q => (congrFun (congrFun e9 _) _).trans (up_ne q)
    have y9 : m9 345 8 = ho := (congrFun (congrFun e9 _) _).trans (up_at _ _ _ _)
    have F9 : ∀ c p : Int, ¬ c = 345 → m9 c p = m c p := fun c p q => by rw [f9 c p (by omega), f8 c p (by omega), f7 c p (by omega), f6 c p (by omega), f5 c p (by omega), f4 c p (by omega), f3 c p (by omega), f2 c p (by omega), f1 c p (by omega)]
    refine g_getr 19 345 rfl hS.k336 hm9.f_336_19 (by decide) ?_
    refine g_C ?_
    refine g_getr 20 346 rfl hS.k336 hm9.f_336_20 (by decide) ?_
    refine g_C ?_
    refine g_ldu hS.k346 hS.l346 (by decide) (by decide) (fun sr esr => ?_)
    rw [F9 346 2 (by omega)] at esr
    have go : ∀ so : Int, so = (if tu < m 346 2 then 0 else 1) → wp_X12_turnsIn_136 S K 336 345 9 so m9 := by
      intro so eso
      refine u_X12_turnsIn_136 ?_
      refine g_st hS.k345 hS.l345 (by decide) (by decide) (hm9.wa_345 (by decide) (by decide)) (fun m10 e10 hm10 => ?_)
      have f10 : ∀ c p : Int, ¬ (c = 345 ∧ p = 9) → m10 c p = m9 c p := fun c p q => (congrFun (congrFun e10 _) _).trans (up_ne q)
      have y10 : m10 345 9 = so := (congrFun (congrFun e10 _) _).trans (up_at _ _ _ _)
      have F10 : ∀ c p : Int, ¬ c = 345 → m10 c p = m c p := fun c p q => by rw [f10 c p (by omega), F9 c p q]
      refine g_getu 21 rfl hS.k336 (fun f21 ef21 => ?_)
      rw [F10 336 21 (by omega)] at ef21
      subst ef21
      refine ⟨hS.k336, ?_⟩
      have r10 : RwR m10 (m 336 21) Cs := by
        obtain ⟨r1, r2, r3, r4, r5⟩ := a2
        refine ⟨?_, ?_, by rw [F10 341 _ (by omega)]; exact r3, r4, r5⟩
        · rw [show (fun j => m10 338 (400 * m 336 21 + j)) = (fun j => m 338 (400 * m 336 21 + j)) from funext (fun j => F10 338 _ (by omega))]
          exact r1
        · exact Tbl.same Cs 0 0 (fun p _ => F10 340 p (by omega)) r2
      refine zk_summedBy hS hm10 a1 (by omega) r10 a3 (fun m11 hm11 f11 => ?_)
      have ew : evC (wdR m10) Cs = evC (wds h (m 346 (10 + 5 * h + 3)) ti jg tu he t ro ho (if tu < m 346 2 then 0 else 1)) Cs := by
        refine evC_same (fun j j0 j9 => ?_) Cs a4
        show m10 345 j = _
        rcases (show j = 0 ∨ j = 1 ∨ j = 2 ∨ j = 3 ∨ j = 4 ∨ j = 5 ∨ j = 6 ∨ j = 7 ∨ j = 8 ∨ j = 9 by omega) with e | e | e | e | e | e | e | e | e | e <;> subst e
        · rw [f10 345 0 (by decide), f9 345 0 (by decide), f8 345 0 (by decide), f7 345 0 (by decide), f6 345 0 (by decide), f5 345 0 (by decide), f4 345 0 (by decide), f3 345 0 (by decide), f2 345 0 (by decide), y1]; rfl
        · rw [f10 345 1 (by decide), f9 345 1 (by decide), f8 345 1 (by decide), f7 345 1 (by decide), f6 345 1 (by decide), f5 345 1 (by decide), f4 345 1 (by decide), f3 345 1 (by decide), y2]; rfl
        · rw [f10 345 2 (by decide), f9 345 2 (by decide), f8 345 2 (by decide), f7 345 2 (by decide), f6 345 2 (by decide), f5 345 2 (by decide), f4 345 2 (by decide), y3]; rfl
        · rw [f10 345 3 (by decide), f9 345 3 (by decide), f8 345 3 (by decide), f7 345 3 (by decide), f6 345 3 (by decide), f5 345 3 (by decide), y4]; rfl
        · rw [f10 345 4 (by decide), f9 345 4 (by decide), f8 345 4 (by decide), f7 345 4 (by decide), f6 345 4 (by decide), y5]; rfl
        · rw [f10 345 5 (by decide), f9 345 5 (by decide), f8 345 5 (by decide), f7 345 5 (by decide), y6]; rfl
        · rw [f10 345 6 (by decide), f9 345 6 (by decide), f8 345 6 (by decide), y7]; rfl
        · rw [f10 345 7 (by decide), f9 345 7 (by decide), y8]; rfl
        · rw [f10 345 8 (by decide), y9]; rfl
        · rw [y10, eso]; rfl
      rw [ew]
      have K0 := hk m11 hm11 (fun c p q1 q2 q3 => by rw [f11 c p ⟨q1, q3⟩, F10 c p q2])
      obtain ⟨e, ee⟩ : ∃ e : Int, e = evC (wds h (m 346 (10 + 5 * h + 3)) ti jg tu he t ro ho (if tu < m 346 2 then 0 else 1)) Cs := ⟨_, rfl⟩
      have K1 : K (max 0 (min 50 e)) m11 := by rw [ee]; exact K0
      rw [← ee]
      refine g_C ?_
      refine g_cmpx (fun c1 e1 => ?_)
      refine g_if (fun w1 => ?_) (fun w1 => g_C (by rw [show (0 : Int) = max 0 (min 50 e) by omega]; exact K1))
      refine g_C ?_
      refine g_cmpx (fun c2 e2 => ?_)
      refine g_if (fun w2 => ?_) (fun w2 => g_C (by rw [show (50 : Int) = max 0 (min 50 e) by omega]; exact K1))
      show K (w32 e) m11
      have q5 := w32_50 e.toNat (by omega)
      rw [Int.toNat_of_nonneg (by omega)] at q5
      rw [q5, show e = max 0 (min 50 e) by omega]
      exact K1
    exact g_if (fun w => g_C (go 0 (by rw [if_pos (by omega)]))) (fun w => g_C (go 1 (by rw [if_neg (by omega)])))
end
section
/-! an HOUR of the class over a STATE in cell c (16: the real one, 68: a supposed one) -/
def soF (a b : Int → Int) (s : Int) : Nat → Int
  | 0 => 0
  | n + 1 => soF a b s n + (if a n < s ∧ s ≤ b n then 1 else 0)
theorem soF_same {a b a' b' : Int → Int} {s : Int} : ∀ n : Nat, (∀ j : Int, 0 ≤ j → j < n → a' j = a j ∧ b' j = b j) → soF a' b' s n = soF a b s n := by
  intro n
  induction n with
  | zero => intro _; rfl
  | succ n ih =>
    intro h
    have q := h n (by omega) (by omega)
    show soF a' b' s n + (if a' n < s ∧ s ≤ b' n then 1 else 0) = soF a b s n + (if a n < s ∧ s ≤ b n then 1 else 0)
    rw [ih (fun j j0 j1 => h j j0 (by omega)), q.1, q.2]
theorem soF_b {a b : Int → Int} {s : Int} : ∀ n : Nat, 0 ≤ soF a b s n ∧ soF a b s n ≤ n := by
  intro n
  induction n with
  | zero => exact ⟨Int.le_refl 0, Int.le_refl 0⟩
  | succ n ih =>
    show 0 ≤ soF a b s n + (if a n < s ∧ s ≤ b n then 1 else 0) ∧ soF a b s n + (if a n < s ∧ s ≤ b n then 1 else 0) ≤ ((n + 1 : Nat) : Int)
    split <;> omega
theorem soF_succ {a b : Int → Int} {s j : Int} (j0 : 0 ≤ j) : soF a b s (j + 1).toNat = soF a b s j.toNat + (if a j < s ∧ s ≤ b j then 1 else 0) := by
  obtain ⟨n, rfl⟩ : ∃ n : Nat, j = n := ⟨j.toNat, by omega⟩
  rw [show ((n : Int) + 1).toNat = n + 1 by omega, show ((n : Int)).toNat = n by omega]
  rfl
theorem g_mne {a b : Int} {K : Int → Prop} (h : K (min a b)) : wO min a b K := h
theorem g_mxe {a b : Int} {K : Int → Prop} (h : K (max a b)) : wO max a b K := h
def heC (m : Mm) (t : Int) : Int := if m 55 2 = 0 then ht8 m t else 0
def wdS (m : Mm) (c j h : Int) : Int → Int := wds h (m 7 h) (m (c + 3) h) j (m (c + 6) j) (heC m (m c 0)) (m c 0) (if m (c + 2) h = 0 then 0 else 1) (bcF (hbt (m (c + 5)) h 4)) (if m (c + 6) j < m 4 2 then 0 else 1)
def tnC (o : Option (List Cz)) (m : Mm) (c j : Int) : Int := if m (c + 4) j = -1 then (if m (c + 5) j = -1 then 0 else tvO o (wdS m c j (m (c + 5) j))) else m 4 1 + heC m (m c 0)
theorem heC_same {m m' : Mm} {t : Int} (F : ∀ c p : Int, (c = 4 ∨ c = 9 ∨ c = 10 ∨ c = 11 ∨ (c = 55 ∧ p = 2)) → m' c p = m c p) : heC m' t = heC m t := by
  unfold heC ht8
  rw [F 55 2 (by first | decide | exact fun z => absurd z.1 (by decide) | exact ⟨fun z => absurd z.1 (by decide), fun z => absurd z.1 (by decide)⟩ | omega), F 4 6 (by first | decide | exact fun z => absurd z.1 (by decide) | exact ⟨fun z => absurd z.1 (by decide), fun z => absurd z.1 (by decide)⟩ | omega), htF_same _ (fun k _ _ => ⟨F 9 k (by first | decide | exact fun z => absurd z.1 (by decide) | exact ⟨fun z => absurd z.1 (by decide), fun z => absurd z.1 (by decide)⟩ | omega), F 10 k (by first | decide | exact fun z => absurd z.1 (by decide) | exact ⟨fun z => absurd z.1 (by decide), fun z => absurd z.1 (by decide)⟩ | omega), F 11 k (by first | decide | exact fun z => absurd z.1 (by decide) | exact ⟨fun z => absurd z.1 (by decide), fun z => absurd z.1 (by decide)⟩ | omega)⟩)]
theorem tnC_same {o : Option (List Cz)} {m m' : Mm} {c j : Int} (F : ∀ c' p : Int, (c' = 4 ∨ c' = 7 ∨ c' = 9 ∨ c' = 10 ∨ c' = 11 ∨ (c' = 55 ∧ p = 2) ∨ (c ≤ c' ∧ c' ≤ c + 5) ∨ (c' = c + 6 ∧ p = j)) → m' c' p = m c' p) : tnC o m' c j = tnC o m c j := by
  have e : ∀ t : Int, heC m' t = heC m t := fun t => heC_same (fun c p q => F c p (by omega))
  unfold tnC wdS
  rw [F (c + 4) j (by omega), F (c + 5) j (by omega), F c 0 (by omega), F 4 1 (by first | decide | exact fun z => absurd z.1 (by decide) | exact ⟨fun z => absurd z.1 (by decide), fun z => absurd z.1 (by decide)⟩ | omega), F 4 2 (by first | decide | exact fun z => absurd z.1 (by decide) | exact ⟨fun z => absurd z.1 (by decide), fun z => absurd z.1 (by decide)⟩ | omega), F (c + 6) j (by omega), e, F 7 _ (by first | decide | exact fun z => absurd z.1 (by decide) | exact ⟨fun z => absurd z.1 (by decide), fun z => absurd z.1 (by decide)⟩ | omega), F (c + 3) _ (by omega), F (c + 2) _ (by omega), show m' (c + 5) = m (c + 5) from funext (fun p => F _ p (by omega))]
theorem RC.keep {S : Sh} {m m' : Mm} {o : Option (List Cz)} (h : RC S m o) (F : ∀ c p : Int, (358 ≤ c ∨ (c = 55 ∧ p = 1)) → m' c p = m c p) : RC S m' o := by
  cases o with
  | none => exact (F 55 1 (by first | decide | exact fun z => absurd z.1 (by decide) | exact ⟨fun z => absurd z.1 (by decide), fun z => absurd z.1 (by decide)⟩ | omega)).trans h
  | some Cs =>
    refine RC.same h (F 55 1 (by first | decide | exact fun z => absurd z.1 (by decide) | exact ⟨fun z => absurd z.1 (by decide), fun z => absurd z.1 (by decide)⟩ | omega)) (fun c p q => ?_)
    rcases q with q | q
    · exact F c p (Or.inr q)
    · obtain ⟨a1, a2, a3, _⟩ := h
      rcases a3 with z | z
      · exact absurd z a1
      · exact F c p (Or.inl (by have := z.2.2; omega))
theorem zh_see {X : Mm} {S : Sh} {m : Mm} {K : Mm → Prop} {c h j : Int} (hS : Shp S) (hm : Inv X S m) (hb : isSt c) (hc : c = 16 ∨ c = 68) (h0 : 0 ≤ h) (h4 : h ≤ 4) (j0 : 0 ≤ j) (j3 : j ≤ 3) (hk : ∀ M1 : Mm, Inv X S M1 → (∀ c p : Int, ¬ (c = 55 ∧ 4 ≤ p) → M1 c p = m c p) → M1 55 4 = h → M1 55 5 = j → M1 55 6 = m (c + 6) j → M1 55 7 = m (c + 3) h → M1 55 8 = m c 0 → M1 55 10 = (if m (c + 2) h = 0 then 0 else 1) → M1 55 11 = bcF (hbt (m (c + 5)) h 4) → K M1) : wp_X10_see S m 55 c h j K := by
  refine u_X10_see ?_
  refine g_put 4 rfl hS.k55 (hm.w_55_4 h0 h4) (fun m1 e1 hm1 => ?_)
  have f1 : ∀ c p : Int, ¬ (c = 55 ∧ p = 4) → m1 c p = m c p := fun c p q => (congrFun (congrFun e1 _) _).trans (up_ne q)
  have y1 : m1 55 4 = h := (congrFun (congrFun e1 _) _).trans (up_at _ _ _ _)
  refine g_put 5 rfl hS.k55 (hm1.w_55_5 j0 j3) (fun m2 e2 hm2 => ?_)
  have f2 : ∀ c p : Int, ¬ (c = 55 ∧ p = 5) → m2 c p = m1 c p := fun c p q => (congrFun (congrFun e2 _) _).trans (up_ne q)
  have y2 : m2 55 5 = j := (congrFun (congrFun e2 _) _).trans (up_at _ _ _ _)
  refine g_getr 7 (c + 6) rfl (hS.kB_5_0 hb) (hm2.fB_5_7 hb) (hS.nB_5_6 hb) ?_
  have b6 := hm2.aB_5_6 hb j0 (by omega)
  refine g_ldu (hS.kB_5_6 hb) (hS.lB_5_6 hb) j0 (by omega) (fun v3 ev3 => ?_)
  refine g_put 6 rfl hS.k55 (hm2.w_55_6 (by omega) (by omega)) (fun m3 e3 hm3 => ?_)
  have f3 : ∀ c p : Int, ¬ (c = 55 ∧ p = 6) → m3 c p = m2 c p := fun c p q => (congrFun (congrFun e3 _) _).trans (up_ne q)
  have y3 : m3 55 6 = v3 := (congrFun (congrFun e3 _) _).trans (up_at _ _ _ _)
  refine g_getr 4 (c + 3) rfl (hS.kB_5_0 hb) (hm3.fB_5_4 hb) (hS.nB_5_3 hb) ?_
  have b3 := hm3.aB_5_3 hb h0 (by omega)
  refine g_ldu (hS.kB_5_3 hb) (hS.lB_5_3 hb) h0 (by omega) (fun v4 ev4 => ?_)
  refine g_put 7 rfl hS.k55 (hm3.w_55_7 (by omega) (by omega)) (fun m4 e4 hm4 => ?_)
  have f4 : ∀ c p : Int, ¬ (c = 55 ∧ p = 7) → m4 c p = m3 c p := fun c p q => (congrFun (congrFun e4 _) _).trans (up_ne q)
  have y4 : m4 55 7 = v4 := (congrFun (congrFun e4 _) _).trans (up_at _ _ _ _)
  have bh := hm4.fB_5_0 hb
  refine g_getu 0 rfl (hS.kB_5_0 hb) (fun v5 ev5 => ?_)
  refine g_put 8 rfl hS.k55 (hm4.w_55_8 (by omega) (by omega)) (fun m5 e5 hm5 => ?_)
  have f5 : ∀ c p : Int, ¬ (c = 55 ∧ p = 8) → m5 c p = m4 c p := fun c p q => (congrFun (congrFun e5 _) _).trans (up_ne q)
  have y5 : m5 55 8 = v5 := (congrFun (congrFun e5 _) _).trans (up_at _ _ _ _)
  have F5 : ∀ c p : Int, ¬ c = 55 → m5 c p = m c p := fun c p q => by rw [f5 c p (by first | exact fun y => absurd (y.1 ▸ z) (by decide) | exact fun y => absurd (y.1 ▸ q) (by decide) | exact z | exact q | exact z.1 | exact q.1 | exact z.2 | exact q.2 | omega), f4 c p (by first | exact fun y => absurd (y.1 ▸ z) (by decide) | exact fun y => absurd (y.1 ▸ q) (by decide) | exact z | exact q | exact z.1 | exact q.1 | exact z.2 | exact q.2 | omega), f3 c p (by first | exact fun y => absurd (y.1 ▸ z) (by decide) | exact fun y => absurd (y.1 ▸ q) (by decide) | exact z | exact q | exact z.1 | exact q.1 | exact z.2 | exact q.2 | omega), f2 c p (by first | exact fun y => absurd (y.1 ▸ z) (by decide) | exact fun y => absurd (y.1 ▸ q) (by decide) | exact z | exact q | exact z.1 | exact q.1 | exact z.2 | exact q.2 | omega), f1 c p (by first | exact fun y => absurd (y.1 ▸ z) (by decide) | exact fun y => absurd (y.1 ▸ q) (by decide) | exact z | exact q | exact z.1 | exact q.1 | exact z.2 | exact q.2 | omega)]
  have go : ∀ v : Int, v = (if m (c + 2) h = 0 then 0 else 1) → wp_X10_see_52 S K 55 c h 55 v m5 := by
    intro v ev
    have bv : 0 ≤ v ∧ v ≤ 1 := by rw [ev]; split <;> omega
    refine u_X10_see_52 ?_
    refine g_put 10 rfl hS.k55 (hm5.w_55_10 bv.1 bv.2) (fun m6 e6 hm6 => ?_)
    have f6 : ∀ c p : Int, ¬ (c = 55 ∧ p = 10) → m6 c p = m5 c p := fun c p q => (congrFun (congrFun e6 _) _).trans (up_ne q)
    have y6 : m6 55 10 = v := (congrFun (congrFun e6 _) _).trans (up_at _ _ _ _)
    refine ⟨hS.kB_5_0 hb, ?_⟩
    refine u_X5_howManyHeld ?_
    refine ⟨hS.kB_5_0 hb, ?_⟩
    refine zt_heldBits hS hm6 hb ?_
    have bb := hbt_15 (f := m6 (c + 5)) (h := h) (n := 4) (by omega)
    have bt := bc_t (hbt (m6 (c + 5)) h 4).toNat (by omega)
    rw [Int.toNat_of_nonneg bb.1] at bt
    refine zt_bitCount ?_
    refine g_put 11 rfl hS.k55 (hm6.w_55_11 (by omega) (by omega)) (fun m7 e7 hm7 => ?_)
    have f7 : ∀ c p : Int, ¬ (c = 55 ∧ p = 11) → m7 c p = m6 c p := fun c p q => (congrFun (congrFun e7 _) _).trans (up_ne q)
    have y7 : m7 55 11 = bcF (hbt (m6 (c + 5)) h 4) := (congrFun (congrFun e7 _) _).trans (up_at _ _ _ _)
    have e67 : m6 (c + 5) = m (c + 5) := funext (fun p => by rw [f6 _ p (by omega), F5 _ p (by omega)])
    refine hk m7 hm7 (fun c p q => ?_) ?_ ?_ ?_ ?_ ?_ ?_ (by rw [y7, e67])
    · rw [f7 c p (by first | exact fun y => absurd (y.1 ▸ z) (by decide) | exact fun y => absurd (y.1 ▸ q) (by decide) | exact z | exact q | exact z.1 | exact q.1 | exact z.2 | exact q.2 | omega), f6 c p (by first | exact fun y => absurd (y.1 ▸ z) (by decide) | exact fun y => absurd (y.1 ▸ q) (by decide) | exact z | exact q | exact z.1 | exact q.1 | exact z.2 | exact q.2 | omega), f5 c p (by first | exact fun y => absurd (y.1 ▸ z) (by decide) | exact fun y => absurd (y.1 ▸ q) (by decide) | exact z | exact q | exact z.1 | exact q.1 | exact z.2 | exact q.2 | omega), f4 c p (by first | exact fun y => absurd (y.1 ▸ z) (by decide) | exact fun y => absurd (y.1 ▸ q) (by decide) | exact z | exact q | exact z.1 | exact q.1 | exact z.2 | exact q.2 | omega), f3 c p (by first | exact fun y => absurd (y.1 ▸ z) (by decide) | exact fun y => absurd (y.1 ▸ q) (by decide) | exact z | exact q | exact z.1 | exact q.1 | exact z.2 | exact q.2 | omega), f2 c p (by first | exact fun y => absurd (y.1 ▸ z) (by decide) | exact fun y => absurd (y.1 ▸ q) (by decide) | exact z | exact q | exact z.1 | exact q.1 | exact z.2 | exact q.2 | omega), f1 c p (by first | exact fun y => absurd (y.1 ▸ z) (by decide) | exact fun y => absurd (y.1 ▸ q) (by decide) | exact z | exact q | exact z.1 | exact q.1 | exact z.2 | exact q.2 | omega)]
    · rw [f7 55 4 (by decide), f6 55 4 (by decide), f5 55 4 (by decide), f4 55 4 (by decide), f3 55 4 (by decide), f2 55 4 (by decide), y1]
    · rw [f7 55 5 (by decide), f6 55 5 (by decide), f5 55 5 (by decide), f4 55 5 (by decide), f3 55 5 (by decide), y2]
    · rw [f7 55 6 (by decide), f6 55 6 (by decide), f5 55 6 (by decide), f4 55 6 (by decide), y3, ev3, f2 _ j (by omega), f1 _ j (by omega)]
    · rw [f7 55 7 (by decide), f6 55 7 (by decide), f5 55 7 (by decide), y4, ev4, f3 _ h (by omega), f2 _ h (by omega), f1 _ h (by omega)]
    · rw [f7 55 8 (by decide), f6 55 8 (by decide), y5, ev5, f4 c 0 (by omega), f3 c 0 (by omega), f2 c 0 (by omega), f1 c 0 (by omega)]
    · rw [f7 55 10 (by decide), y6, ev]
  refine ⟨hS.kB_5_0 hb, ?_⟩
  refine zt_atPlace hS hm5 hb h0 h4 (fun q => g_ifF (by decide) (g_C (go 0 ?_))) (fun q => g_ifT rfl (g_C (go 1 ?_)))
  · rw [F5 _ h (by omega)] at q; rw [if_pos q]
  · rw [F5 _ h (by omega)] at q; rw [if_neg q]
theorem zh_gone {X : Mm} {S : Sh} {m : Mm} {K : Int → Mm → Prop} {c j : Int} (hS : Shp S) (hm : Inv X S m) (hb : isSt c) (j0 : 0 ≤ j) (j1 : j ≤ 3) (h1 : m (c + 4) j = -1 → m (c + 5) j = -1 → K 1 m) (h0 : ¬ (m (c + 4) j = -1 ∧ m (c + 5) j = -1) → K 0 m) : wp_X5_isGone S m c j K := by
  refine u_X5_isGone ?_
  refine g_getr 5 (c + 4) rfl (hS.kB_5_0 hb) (hm.fB_5_5 hb) (hS.nB_5_4 hb) ?_
  refine g_ldu (hS.kB_5_4 hb) (hS.lB_5_4 hb) j0 (by omega) (fun v ev => ?_)
  refine g_C ?_
  refine g_if (fun w => g_C ⟨by decide, h0 (fun z => w (ev.trans z.1))⟩) (fun w => ?_)
  refine g_getr 6 (c + 5) rfl (hS.kB_5_0 hb) (hm.fB_5_6 hb) (hS.nB_5_5 hb) ?_
  refine g_ldu (hS.kB_5_5 hb) (hS.lB_5_5 hb) j0 (by omega) (fun v2 ev2 => ?_)
  refine g_C ?_
  exact g_if (fun w2 => g_C ⟨by decide, h0 (fun z => w2 (ev2.trans z.2))⟩) (fun w2 => g_C ⟨by decide, h1 (by omega) (by omega)⟩)
theorem tnC_b {X : Mm} {S : Sh} {o : Option (List Cz)} {m : Mm} {c j : Int} (hm : Inv X S m) (hb : isSt c) (j0 : 0 ≤ j) (j3 : j ≤ 3) (b0 : 0 ≤ heC m (m c 0)) (b1 : heC m (m c 0) ≤ 20) : 0 ≤ tnC o m c j ∧ tnC o m c j ≤ 64 := by
  have g := hm.f_4_1
  have b5 := hm.aB_5_5 hb j0 (by omega)
  unfold tnC
  by_cases e : m (c + 4) j = -1
  · rw [if_pos e]
    by_cases e2 : m (c + 5) j = -1
    · rw [if_pos e2]; omega
    · rw [if_neg e2]
      exact tvO_b (hm.a_7 (i := m (c + 5) j) (by omega) (by omega)) (hm.aB_5_3 hb (i := m (c + 5) j) (by omega) (by omega)) ⟨b0, b1⟩
  · rw [if_neg e]; omega
theorem zh_turnsIn1 {X : Mm} {S : Sh} {m : Mm} {K : Int → Mm → Prop} {o : Option (List Cz)} {c j : Int} (hS : Shp S) (hm : Inv X S m) (hr : RC S m o) (hb : isSt c) (hc : c = 16 ∨ c = 68) (j0 : 0 ≤ j) (j3 : j ≤ 3) (hk : ∀ M1 : Mm, Inv X S M1 → (∀ c p : Int, ¬ c = 56 → ¬ (c = 55 ∧ 4 ≤ p) → M1 c p = m c p) → 0 ≤ tnC o m c j → tnC o m c j ≤ 64 → K (tnC o m c j) M1) : wp_X1_turnsIn S m 57 c j K := by
  have hk : 0 ≤ heC m (m c 0) → heC m (m c 0) ≤ 20 → ∀ M1 : Mm, Inv X S M1 → (∀ c p : Int, ¬ c = 56 → ¬ (c = 55 ∧ 4 ≤ p) → M1 c p = m c p) → K (tnC o m c j) M1 := fun b0 b1 M1 h f => hk M1 h f (tnC_b hm hb j0 j3 b0 b1).1 (tnC_b hm hb j0 j3 b0 b1).2
  have hk : ∀ M1 : Mm, Inv X S M1 → (∀ c p : Int, ¬ c = 56 → ¬ (c = 55 ∧ 4 ≤ p) → M1 c p = m c p) → K (tnC o m c j) M1 := by
    have q : (0 ≤ heC m (m c 0) ∧ heC m (m c 0) ≤ 20) := by
      unfold heC
      by_cases ic : m 55 2 = 0
      · rw [if_pos ic]
        have b6 := hm.f_4_6
        have z := htF_b (a := m 9) (b := m 10) (c := m 11) (t := m c 0) (m 4 6).toNat (fun k k0 k1 => hm.a_11 k0 (by omega))
        unfold ht8
        omega
      · rw [if_neg ic]; omega
    exact hk q.1 q.2
  refine u_X1_turnsIn ?_
  refine ⟨hS.kB_5_0 hb, ?_⟩
  refine zt_jug0 hS hm hb j0 j3 (fun s => g_ifF (by decide) ?_) (fun s => g_ifT rfl ?_)
  · refine g_getr 1 4 rfl hS.k57 hm.f_57_1 (by decide) ?_
    have b1 := hm.f_4_1
    refine g_getu 1 rfl hS.k4 (fun g eg => ?_)
    refine g_getr 0 55 rfl hS.k57 hm.f_57_0 (by decide) ?_
    refine g_getu 0 rfl (hS.kB_5_0 hb) (fun t et => ?_)
    subst et
    refine ⟨hS.k55, ?_⟩
    refine zh_heat10 hS hm (fun b0 b1 => ?_)
    refine g_A (by omega) (by omega) ?_
    have q := hk m hm (fun c p _ _ => rfl)
    unfold tnC at q
    rw [if_neg s, ← eg] at q
    exact q
  · refine ⟨hS.kB_5_0 hb, ?_⟩
    refine zh_gone hS hm hb j0 j3 (fun s1 s2 => g_ifF (by decide) (g_C ?_)) (fun s2 => g_ifT rfl ?_)
    · have q := hk m hm (fun c p _ _ => rfl)
      unfold tnC at q
      rw [if_pos s, if_pos s2] at q
      exact q
    have n5 : ¬ m (c + 5) j = -1 := fun z => s2 ⟨s, z⟩
    have b5 := hm.aB_5_5 hb j0 (by omega)
    refine g_getr 0 55 rfl hS.k57 hm.f_57_0 (by decide) ?_
    refine g_getr 6 (c + 5) rfl (hS.kB_5_0 hb) (hm.fB_5_6 hb) (hS.nB_5_5 hb) ?_
    refine g_ldu (hS.kB_5_5 hb) (hS.lB_5_5 hb) j0 (by omega) (fun h eh => ?_)
    refine ⟨hS.k55, ?_⟩
    refine zh_see hS hm hb hc (by omega) (by omega) j0 j3 (fun m1 hm1 f1 y4 y5 y6 y7 y8 y10 y11 => ?_)
    refine g_getr 0 55 rfl hS.k57 hm1.f_57_0 (by decide) ?_
    refine ⟨hS.k55, ?_⟩
    refine zh_turns hS hm1 (hr.keep (fun c p q => f1 c p (by first | exact fun y => absurd (y.1 ▸ z) (by decide) | exact fun y => absurd (y.1 ▸ q) (by decide) | exact z | exact q | exact z.1 | exact q.1 | exact z.2 | exact q.2 | omega))) (fun m2 hm2 f2 => ?_)
    have e1 : (if m1 55 2 = 0 then ht8 m1 (m1 55 8) else 0) = heC m (m c 0) := by
      rw [y8]
      exact heC_same (fun c p q => f1 c p (by first | exact fun y => absurd (y.1 ▸ z) (by decide) | exact fun y => absurd (y.1 ▸ q) (by decide) | exact z | exact q | exact z.1 | exact q.1 | exact z.2 | exact q.2 | omega))
    have e2 : wdH m1 (heC m (m c 0)) = wdS m c j h := by
      unfold wdH wdS
      rw [y4, y5, y6, y7, y8, y10, y11, f1 7 h (by first | decide | exact fun z => absurd z.1 (by decide) | exact ⟨fun z => absurd z.1 (by decide), fun z => absurd z.1 (by decide)⟩ | omega), f1 4 2 (by first | decide | exact fun z => absurd z.1 (by decide) | exact ⟨fun z => absurd z.1 (by decide), fun z => absurd z.1 (by decide)⟩ | omega)]
    rw [e1, e2]
    have q := hk m2 hm2 (fun c p q1 q2 => by rw [f2 c p q1 (by omega), f1 c p q2])
    unfold tnC at q
    rw [if_pos s, if_neg n5, ← eh] at q
    exact q
theorem zh_tire {X : Mm} {S : Sh} {m : Mm} {K : Mm → Prop} {c h t : Int} (hS : Shp S) (hm : Inv X S m) (hb : isSt c) (h0 : 0 ≤ h) (h4 : h ≤ 4) (t0 : 0 ≤ t) (t5 : t ≤ 5) (hk : ∀ M1 : Mm, Inv X S M1 → (∀ c' p : Int, ¬ (c' = c + 3 ∧ p = h) → M1 c' p = m c' p) → M1 (c + 3) h = (if hbt (m (c + 5)) h 4 = 0 then max 0 (m (c + 3) h - 1) else min 99 (m (c + 3) h + t)) → K M1) : wp_X5_tire S m c h t K := by
  have b3 := hm.aB_5_3 hb h0 (by omega)
  refine u_X5_tire ?_
  refine ⟨hS.kB_5_0 hb, ?_⟩
  refine zt_heldBits hS hm hb ?_
  refine g_if (fun w => ?_) (fun w => ?_)
  · rw [if_pos w] at hk
    refine g_getr 4 (c + 3) rfl (hS.kB_5_0 hb) (hm.fB_5_4 hb) (hS.nB_5_3 hb) ?_
    refine g_C ?_
    refine g_getr 4 (c + 3) rfl (hS.kB_5_0 hb) (hm.fB_5_4 hb) (hS.nB_5_3 hb) ?_
    refine g_ldu (hS.kB_5_3 hb) (hS.lB_5_3 hb) h0 (by omega) (fun v ev => ?_)
    refine g_C ?_
    refine g_S (by omega) (by omega) ?_
    refine g_mxe ?_
    refine g_st (hS.kB_5_3 hb) (hS.lB_5_3 hb) h0 (by omega) (hm.waB_5_3 hb h0 (by omega) (by omega) (by omega)) (fun m1 e1 hm1 => ?_)
    exact hk m1 hm1 (fun c p q => (congrFun (congrFun e1 _) _).trans (up_ne q)) ((congrFun (congrFun e1 _) _).trans ((up_at _ _ _ _).trans (by rw [ev])))
  · rw [if_neg w] at hk
    refine g_getr 4 (c + 3) rfl (hS.kB_5_0 hb) (hm.fB_5_4 hb) (hS.nB_5_3 hb) ?_
    refine g_C ?_
    refine g_getr 4 (c + 3) rfl (hS.kB_5_0 hb) (hm.fB_5_4 hb) (hS.nB_5_3 hb) ?_
    refine g_ldu (hS.kB_5_3 hb) (hS.lB_5_3 hb) h0 (by omega) (fun v ev => ?_)
    refine g_A (by omega) (by omega) ?_
    refine g_mne ?_
    refine g_st (hS.kB_5_3 hb) (hS.lB_5_3 hb) h0 (by omega) (hm.waB_5_3 hb h0 (by omega) (by omega) (by omega)) (fun m1 e1 hm1 => ?_)
    exact hk m1 hm1 (fun c p q => (congrFun (congrFun e1 _) _).trans (up_ne q)) ((congrFun (congrFun e1 _) _).trans ((up_at _ _ _ _).trans (by rw [ev])))
/-- what an HOUR makes of a STATE -/
def nuC (o : Option (List Cz)) (m : Mm) (c p : Int) : Int := min 999 (m (c + 6) p + tnC o m c p)
def PH (o : Option (List Cz)) (m M : Mm) (c : Int) : Prop := (∀ c' p : Int, ¬ c' = 56 → ¬ (c' = 55 ∧ 4 ≤ p) → ¬ (c' = c + 6 ∧ 0 ≤ p ∧ p < m 4 5) → ¬ ((c' = c + 2 ∨ c' = c + 3) ∧ 0 ≤ p ∧ p < m 4 4) → ¬ (c' = c ∧ p = 0) → M c' p = m c' p) ∧ (∀ j : Int, 0 ≤ j → j < m 4 5 → M (c + 6) j = nuC o m c j) ∧ (∀ h : Int, 0 ≤ h → h < m 4 4 → M (c + 3) h = (if hbt (m (c + 5)) h 4 = 0 then max 0 (m (c + 3) h - 1) else min 99 (m (c + 3) h + m 8 h)) ∧ M (c + 2) h = max 0 (m (c + 2) h - 1)) ∧ M c 0 = min 999 (m c 0 + 1)
theorem zh_pass {X : Mm} {S : Sh} {m : Mm} {K : Int → Mm → Prop} {o : Option (List Cz)} {c : Int} (hS : Shp S) (hm : Inv X S m) (hr : RC S m o) (hb : isSt c) (hc : c = 16 ∨ c = 68) (hk : ∀ M1 : Mm, Inv X S M1 → PH o m M1 c → K (soF (m (c + 6)) (nuC o m c) (m 4 2) (m 4 5).toNat) M1) : wp_X1_pass S m 57 c K := by
  have b4 := hm.f_4_4
  have b5 := hm.f_4_5
  -- the HANDS
  have L2 : ∀ (n : Nat) (s h : Int) (M : Mm), Inv X S M → 0 ≤ h → h ≤ m 4 4 → s = soF (m (c + 6)) (nuC o m c) (m 4 2) (m 4 5).toNat → (∀ c' p : Int, ¬ c' = 56 → ¬ (c' = 55 ∧ 4 ≤ p) → ¬ (c' = c + 6 ∧ 0 ≤ p ∧ p < m 4 5) → ¬ ((c' = c + 2 ∨ c' = c + 3) ∧ 0 ≤ p ∧ p < h) → M c' p = m c' p) → (∀ j : Int, 0 ≤ j → j < m 4 5 → M (c + 6) j = nuC o m c j) → (∀ l : Int, 0 ≤ l → l < h → M (c + 3) l = (if hbt (m (c + 5)) l 4 = 0 then max 0 (m (c + 3) l - 1) else min 99 (m (c + 3) l + m 8 l)) ∧ M (c + 2) l = max 0 (m (c + 2) l - 1)) → 6 - h ≤ (n : Int) → wp_X1_pass_83 S K n 57 c s h M := by
    intro n
    induction n with
    | zero => intro s h M _ _ _ _ _ _ _ hn; exfalso; omega
    | succ n ih =>
      intro s h M hM h0 h1 es F J H hn
      refine u_X1_pass_83 ?_
      refine g_getr 1 4 rfl hS.k57 hM.f_57_1 (by decide) ?_
      refine g_getu 4 rfl hS.k4 (fun v ev => ?_)
      rw [F 4 4 (by first | decide | exact fun z => absurd z.1 (by decide) | exact ⟨fun z => absurd z.1 (by decide), fun z => absurd z.1 (by decide)⟩ | omega) (by first | decide | exact fun z => absurd z.1 (by decide) | exact ⟨fun z => absurd z.1 (by decide), fun z => absurd z.1 (by decide)⟩ | omega) (by first | decide | exact fun z => absurd z.1 (by decide) | exact ⟨fun z => absurd z.1 (by decide), fun z => absurd z.1 (by decide)⟩ | omega) (by first | decide | exact fun z => absurd z.1 (by decide) | exact ⟨fun z => absurd z.1 (by decide), fun z => absurd z.1 (by decide)⟩ | omega)] at ev
      refine g_if (fun w => ?_) (fun w => ?_)
      · refine g_C ?_
        have bt := hM.fB_5_0 hb
        refine g_getu 0 rfl (hS.kB_5_0 hb) (fun t et => ?_)
        refine g_C ?_
        refine g_A (by omega) (by omega) ?_
        refine g_mne ?_
        refine g_put 0 rfl (hS.kB_5_0 hb) (hM.wB_5_0 hb (by omega) (by omega)) (fun M1 e1 hM1 => ?_)
        have f1 : ∀ c' p : Int, ¬ (c' = c ∧ p = 0) → M1 c' p = M c' p := fun c p q => (congrFun (congrFun e1 _) _).trans (up_ne q)
        have y1 : M1 c 0 = min 999 (t + 1) := (congrFun (congrFun e1 _) _).trans (up_at _ _ _ _)
        rw [es]
        refine hk M1 hM1 ⟨fun c' p q1 q2 q3 q4 q5 => ?_, fun j j0 j1 => ?_, fun l l0 l1 => ?_, ?_⟩
        · rw [f1 c' p q5, F c' p q1 q2 q3 (by omega)]
        · rw [f1 _ j (by omega), J j j0 j1]
        · rw [f1 _ l (by omega), f1 _ l (by omega)]
          exact H l l0 (by omega)
        · rw [y1, et, F c 0 (by omega) (by omega) (by omega) (by omega)]
      · refine g_getr 1 4 rfl hS.k57 hM.f_57_1 (by decide) ?_
        refine g_getr 11 8 rfl hS.k4 hM.f_4_11 (by decide) ?_
        have b8 := hM.a_8 (i := h) h0 (by omega)
        refine g_ldu hS.k8 hS.l8 h0 (by omega) (fun t et => ?_)
        refine ⟨hS.kB_5_0 hb, ?_⟩
        refine zh_tire hS hM hb h0 (by omega) (by omega) (by omega) (fun M1 hM1 f1 y1 => ?_)
        refine g_getr 3 (c + 2) rfl (hS.kB_5_0 hb) (hM1.fB_5_3 hb) (hS.nB_5_2 hb) ?_
        refine g_C ?_
        refine g_getr 3 (c + 2) rfl (hS.kB_5_0 hb) (hM1.fB_5_3 hb) (hS.nB_5_2 hb) ?_
        have b2 := hM1.aB_5_2 hb h0 (by omega)
        refine g_ldu (hS.kB_5_2 hb) (hS.lB_5_2 hb) h0 (by omega) (fun g eg => ?_)
        refine g_C ?_
        refine g_S (by omega) (by omega) ?_
        refine g_mxe ?_
        refine g_st (hS.kB_5_2 hb) (hS.lB_5_2 hb) h0 (by omega) (hM1.waB_5_2 hb h0 (by omega) (by omega) (by omega)) (fun M2 e2 hM2 => ?_)
        have f2 : ∀ c' p : Int, ¬ (c' = c + 2 ∧ p = h) → M2 c' p = M1 c' p := fun c p q => (congrFun (congrFun e2 _) _).trans (up_ne q)
        have y2 : M2 (c + 2) h = max 0 (g - 1) := (congrFun (congrFun e2 _) _).trans (up_at _ _ _ _)
        refine g_A (by omega) (by omega) ?_
        refine ih s (h + 1) M2 hM2 (by omega) (by omega) es (fun c' p q1 q2 q3 q4 => ?_) (fun j j0 j1 => ?_) (fun l l0 l1 => ?_) (by omega)
        · rw [f2 c' p (by omega), f1 c' p (by omega), F c' p q1 q2 q3 (by omega)]
        · rw [f2 _ j (by omega), f1 _ j (by omega), J j j0 j1]
        · by_cases e : l = h
          · subst e
            rw [f2 (c + 3) l (by omega), y1, y2, eg, f1 (c + 2) l (by omega), et, F (c + 3) l (by omega) (by omega) (by omega) (by omega), F (c + 2) l (by omega) (by omega) (by omega) (by omega), F 8 l (by first | decide | exact fun z => absurd z.1 (by decide) | exact ⟨fun z => absurd z.1 (by decide), fun z => absurd z.1 (by decide)⟩ | omega) (by first | decide | exact fun z => absurd z.1 (by decide) | exact ⟨fun z => absurd z.1 (by decide), fun z => absurd z.1 (by decide)⟩ | omega) (by first | decide | exact fun z => absurd z.1 (by decide) | exact ⟨fun z => absurd z.1 (by decide), fun z => absurd z.1 (by decide)⟩ | omega) (by first | decide | exact fun z => absurd z.1 (by decide) | exact ⟨fun z => absurd z.1 (by decide), fun z => absurd z.1 (by decide)⟩ | omega), show M (c + 5) = m (c + 5) from funext (fun p => F _ p (by omega) (by omega) (by omega) (by omega))]
            exact ⟨rfl, rfl⟩
          · rw [f2 (c + 3) l (by omega), f2 (c + 2) l (by omega), f1 (c + 3) l (by omega), f1 (c + 2) l (by omega)]
            exact H l l0 (by omega)
  -- the JUGS
  have L1 : ∀ (n : Nat) (s j : Int) (M : Mm), Inv X S M → 0 ≤ j → j ≤ m 4 5 → s = soF (m (c + 6)) (nuC o m c) (m 4 2) j.toNat → (∀ c' p : Int, ¬ c' = 56 → ¬ (c' = 55 ∧ 4 ≤ p) → ¬ (c' = c + 6 ∧ 0 ≤ p ∧ p < j) → M c' p = m c' p) → (∀ l : Int, 0 ≤ l → l < j → M (c + 6) l = nuC o m c l) → 5 - j ≤ (n : Int) → wp_X1_pass_4 S K n 57 c s j M := by
    intro n
    induction n with
    | zero => intro s j M _ _ _ _ _ _ hn; exfalso; omega
    | succ n ih =>
      intro s j M hM j0 j1 es F J hn
      have bs := soF_b (a := m (c + 6)) (b := nuC o m c) (s := m 4 2) j.toNat
      refine u_X1_pass_4 ?_
      refine g_getr 1 4 rfl hS.k57 hM.f_57_1 (by decide) ?_
      refine g_getu 5 rfl hS.k4 (fun v ev => ?_)
      rw [F 4 5 (by first | decide | exact fun z => absurd z.1 (by decide) | exact ⟨fun z => absurd z.1 (by decide), fun z => absurd z.1 (by decide)⟩ | omega) (by first | decide | exact fun z => absurd z.1 (by decide) | exact ⟨fun z => absurd z.1 (by decide), fun z => absurd z.1 (by decide)⟩ | omega) (by first | decide | exact fun z => absurd z.1 (by decide) | exact ⟨fun z => absurd z.1 (by decide), fun z => absurd z.1 (by decide)⟩ | omega)] at ev
      refine g_if (fun w => ?_) (fun w => ?_)
      · refine g_C ?_
        refine ⟨6, L2 6 s 0 M hM (by omega) (by omega) (by rw [es, show j = m 4 5 by omega]) (fun c' p q1 q2 q3 q4 => F c' p q1 q2 (by omega)) (fun l l0 l1 => J l l0 (by omega)) (fun l l0 l1 => absurd l1 (by omega)) (by omega)⟩
      · have hj : j ≤ 3 := by omega
        refine g_getr 7 (c + 6) rfl (hS.kB_5_0 hb) (hM.fB_5_7 hb) (hS.nB_5_6 hb) ?_
        have b6 := hM.aB_5_6 hb j0 (by omega)
        refine g_ldu (hS.kB_5_6 hb) (hS.lB_5_6 hb) j0 (by omega) (fun a ea => ?_)
        refine g_getr 7 (c + 6) rfl (hS.kB_5_0 hb) (hM.fB_5_7 hb) (hS.nB_5_6 hb) ?_
        refine g_C ?_
        refine ⟨hS.k57, ?_⟩
        refine zh_turnsIn1 hS hM (hr.keep (fun c' p q => F c' p (by omega) (by omega) (by omega))) hb hc j0 hj (fun M1 hM1 f1 t0 t1 => ?_)
        have et : tnC o M c j = tnC o m c j := tnC_same (fun c' p q => F c' p (by omega) (by omega) (by omega))
        rw [et] at t0 t1 ⊢
        have ea2 : a = m (c + 6) j := by rw [ea, F _ j (by omega) (by omega) (by omega)]
        refine g_A (by omega) (by omega) ?_
        have en : min 999 (a + tnC o m c j) = nuC o m c j := by rw [ea2]; rfl
        refine g_mne ?_
        refine g_st (hS.kB_5_6 hb) (hS.lB_5_6 hb) j0 (by omega) (hM1.waB_5_6 hb j0 (by omega) (by omega) (by omega)) (fun M2 e2 hM2 => ?_)
        rw [en] at e2
        have f2 : ∀ c' p : Int, ¬ (c' = c + 6 ∧ p = j) → M2 c' p = M1 c' p := fun c p q => (congrFun (congrFun e2 _) _).trans (up_ne q)
        have y2 : M2 (c + 6) j = nuC o m c j := (congrFun (congrFun e2 _) _).trans (up_at _ _ _ _)
        have F2 : ∀ c' p : Int, ¬ c' = 56 → ¬ (c' = 55 ∧ 4 ≤ p) → ¬ (c' = c + 6 ∧ 0 ≤ p ∧ p < j + 1) → M2 c' p = m c' p := fun c' p q1 q2 q3 => by rw [f2 c' p (by omega), f1 c' p q1 q2, F c' p q1 q2 (by omega)]
        have nx : ∀ s2 : Int, s2 = soF (m (c + 6)) (nuC o m c) (m 4 2) (j + 1).toNat → wp_X1_pass_75 S (fun a0 a1 a2 a3 M => wp_X1_pass_4 S K n a0 a1 a2 a3 M) K 57 c s2 j M2 := by
          intro s2 e2
          refine u_X1_pass_75 ?_
          refine g_A (by omega) (by omega) ?_
          refine ih s2 (j + 1) M2 hM2 (by omega) (by omega) e2 F2 (fun l l0 l1 => ?_) (by omega)
          by_cases e : l = j
          · rw [e]; exact y2
          · rw [f2 _ l (by omega), f1 _ l (by omega) (by omega)]
            exact J l l0 (by omega)
        have se := soF_succ (a := m (c + 6)) (b := nuC o m c) (s := m 4 2) j0
        refine g_getr 1 4 rfl hS.k57 hM2.f_57_1 (by decide) ?_
        refine g_getu 2 rfl hS.k4 (fun u eu => ?_)
        rw [F2 4 2 (by first | decide | exact fun z => absurd z.1 (by decide) | exact ⟨fun z => absurd z.1 (by decide), fun z => absurd z.1 (by decide)⟩ | omega) (by first | decide | exact fun z => absurd z.1 (by decide) | exact ⟨fun z => absurd z.1 (by decide), fun z => absurd z.1 (by decide)⟩ | omega) (by first | decide | exact fun z => absurd z.1 (by decide) | exact ⟨fun z => absurd z.1 (by decide), fun z => absurd z.1 (by decide)⟩ | omega)] at eu
        refine g_if (fun w2 => ?_) (fun w2 => ?_)
        · rw [if_neg (fun z => by have := z.1; omega)] at se
          exact nx s (by rw [es, se]; omega)
        refine g_getr 7 (c + 6) rfl (hS.kB_5_0 hb) (hM2.fB_5_7 hb) (hS.nB_5_6 hb) ?_
        refine g_ldu (hS.kB_5_6 hb) (hS.lB_5_6 hb) j0 (by omega) (fun b eb => ?_)
        rw [y2] at eb
        refine g_getr 1 4 rfl hS.k57 hM2.f_57_1 (by decide) ?_
        refine g_getu 2 rfl hS.k4 (fun u2 eu2 => ?_)
        rw [F2 4 2 (by first | decide | exact fun z => absurd z.1 (by decide) | exact ⟨fun z => absurd z.1 (by decide), fun z => absurd z.1 (by decide)⟩ | omega) (by first | decide | exact fun z => absurd z.1 (by decide) | exact ⟨fun z => absurd z.1 (by decide), fun z => absurd z.1 (by decide)⟩ | omega) (by first | decide | exact fun z => absurd z.1 (by decide) | exact ⟨fun z => absurd z.1 (by decide), fun z => absurd z.1 (by decide)⟩ | omega)] at eu2
        refine g_if (fun w3 => ?_) (fun w3 => ?_)
        · rw [if_neg (fun z => by have := z.2; omega)] at se
          exact nx s (by rw [es, se]; omega)
        · rw [if_pos ⟨by omega, by omega⟩] at se
          refine g_A (by omega) (by omega) ?_
          exact nx (s + 1) (by rw [es, se])
  refine u_X1_pass ?_
  refine g_C ?_
  refine g_C ?_
  exact ⟨5, L1 5 0 0 m hm (by omega) (by omega) rfl (fun c' p _ _ _ => rfl) (fun l l0 l1 => absurd l1 (by omega)) (by omega)⟩
end
section
/-! an HOUR of the reference -/
def heR (m : Mm) (t : Int) : Int := if m 336 23 = 0 then htR (m 346) t else 0
def wdT (m : Mm) (j h : Int) : Int → Int := wds h (m 346 (10 + 5 * h + 3)) (m 346 (10 + 5 * h + 2)) j (m 346 (35 + 4 * j + 2)) (heR m (m 346 7)) (m 346 7) (if m 346 (10 + 5 * h + 1) ≤ 0 then 0 else 1) (bcF (hbR m h)) (if m 346 (35 + 4 * j + 2) < m 346 2 then 0 else 1)
def tnR (o : Option (List Cz)) (m : Mm) (j : Int) : Int := if m 346 (35 + 4 * j + 1) < 0 then m 346 1 + heR m (m 346 7) else tvO o (wdT m j (m 346 (35 + 4 * j + 1)))
theorem heR_same {m m' : Mm} {t : Int} (F : ∀ c p : Int, ((c = 336 ∧ p = 23) ∨ (c = 346 ∧ (p = 9 ∨ (81 ≤ p ∧ p < 93)))) → m' c p = m c p) (b9 : m 346 9 ≤ 4) : heR m' t = heR m t := by
  unfold heR htR
  rw [F 336 23 (by first | decide | exact fun z => absurd z.1 (by decide) | exact ⟨fun z => absurd z.1 (by decide), fun z => absurd z.1 (by decide)⟩ | omega), F 346 9 (by first | decide | exact fun z => absurd z.1 (by decide) | exact ⟨fun z => absurd z.1 (by decide), fun z => absurd z.1 (by decide)⟩ | omega), htF_same _ (fun k k0 k1 => ⟨F 346 (81 + 3 * k) (by first | decide | exact fun z => absurd z.1 (by decide) | exact ⟨fun z => absurd z.1 (by decide), fun z => absurd z.1 (by decide)⟩ | omega), F 346 (81 + 3 * k + 1) (by first | decide | exact fun z => absurd z.1 (by decide) | exact ⟨fun z => absurd z.1 (by decide), fun z => absurd z.1 (by decide)⟩ | omega), F 346 (81 + 3 * k + 2) (by first | decide | exact fun z => absurd z.1 (by decide) | exact ⟨fun z => absurd z.1 (by decide), fun z => absurd z.1 (by decide)⟩ | omega)⟩)]
theorem hbR_same {m m' : Mm} {h : Int} (F : ∀ p : Int, (p = 5 ∨ (35 ≤ p ∧ p < 51 ∧ (p - 35) % 4 = 1)) → m' 346 p = m 346 p) (b5 : m 346 5 ≤ 4) : hbR m' h = hbR m h := by
  unfold hbR
  rw [F 5 (by omega)]
  exact hbt_same _ (fun j j0 j1 => F (36 + 4 * j) (by omega))
theorem tnR_same {o : Option (List Cz)} {m m' : Mm} {j : Int} (F : ∀ c p : Int, ((c = 336 ∧ p = 23) ∨ (c = 346 ∧ ¬ (35 ≤ p ∧ p < 51 ∧ (p - 35) % 4 = 2 ∧ ¬ p = 35 + 4 * j + 2))) → m' c p = m c p) (b9 : m 346 9 ≤ 4) (b5 : m 346 5 ≤ 4) (j0 : 0 ≤ j) (j3 : j ≤ 3) (bh : m 346 (35 + 4 * j + 1) ≤ 4) : tnR o m' j = tnR o m j := by
  have e : ∀ t : Int, heR m' t = heR m t := fun t => heR_same (fun c p q => F c p (by omega)) b9
  have e2 : ∀ h : Int, hbR m' h = hbR m h := fun h => hbR_same (fun p q => F 346 p (by first | decide | exact fun z => absurd z.1 (by decide) | exact ⟨fun z => absurd z.1 (by decide), fun z => absurd z.1 (by decide)⟩ | omega)) b5
  unfold tnR
  rw [F 346 (35 + 4 * j + 1) (by first | decide | exact fun z => absurd z.1 (by decide) | exact ⟨fun z => absurd z.1 (by decide), fun z => absurd z.1 (by decide)⟩ | omega), F 346 1 (by first | decide | exact fun z => absurd z.1 (by decide) | exact ⟨fun z => absurd z.1 (by decide), fun z => absurd z.1 (by decide)⟩ | omega), F 346 7 (by first | decide | exact fun z => absurd z.1 (by decide) | exact ⟨fun z => absurd z.1 (by decide), fun z => absurd z.1 (by decide)⟩ | omega), e]
  by_cases z : m 346 (35 + 4 * j + 1) < 0
  · rw [if_pos z, if_pos z]
  · rw [if_neg z, if_neg z]
    unfold wdT
    rw [F 346 (10 + 5 * m 346 (35 + 4 * j + 1) + 3) (by omega), F 346 (10 + 5 * m 346 (35 + 4 * j + 1) + 2) (by omega), F 346 (35 + 4 * j + 2) (by first | decide | exact fun z => absurd z.1 (by decide) | exact ⟨fun z => absurd z.1 (by decide), fun z => absurd z.1 (by decide)⟩ | omega), F 346 7 (by first | decide | exact fun z => absurd z.1 (by decide) | exact ⟨fun z => absurd z.1 (by decide), fun z => absurd z.1 (by decide)⟩ | omega), e, F 346 (10 + 5 * m 346 (35 + 4 * j + 1) + 1) (by omega), e2, F 346 2 (by first | decide | exact fun z => absurd z.1 (by decide) | exact ⟨fun z => absurd z.1 (by decide), fun z => absurd z.1 (by decide)⟩ | omega)]
theorem RwR.same {m m' : Mm} {r : Int} {Cs : List Cz} (a2 : RwR m r Cs) (F : ∀ c p : Int, (c = 338 ∨ c = 340 ∨ c = 341) → m' c p = m c p) : RwR m' r Cs := by
  obtain ⟨r1, r2, r3, r4, r5⟩ := a2
  refine ⟨?_, ?_, by rw [F 341 _ (by first | decide | exact fun z => absurd z.1 (by decide) | exact ⟨fun z => absurd z.1 (by decide), fun z => absurd z.1 (by decide)⟩ | omega)]; exact r3, r4, r5⟩
  · rw [show (fun j => m' 338 (400 * r + j)) = (fun j => m 338 (400 * r + j)) from funext (fun j => F 338 _ (by first | decide | exact fun z => absurd z.1 (by decide) | exact ⟨fun z => absurd z.1 (by decide), fun z => absurd z.1 (by decide)⟩ | omega))]
    exact r1
  · exact Tbl.same Cs 0 0 (fun p _ => F 340 p (by first | decide | exact fun z => absurd z.1 (by decide) | exact ⟨fun z => absurd z.1 (by decide), fun z => absurd z.1 (by decide)⟩ | omega)) r2
theorem RR.keep {m m' : Mm} {o : Option (List Cz)} (h : RR m o) (F : ∀ c p : Int, ((c = 336 ∧ p = 21) ∨ c = 338 ∨ c = 340 ∨ c = 341) → m' c p = m c p) : RR m' o := by
  cases o with
  | none =>
    show m' 336 21 < 0
    rw [F 336 21 (by first | decide | exact fun z => absurd z.1 (by decide) | exact ⟨fun z => absurd z.1 (by decide), fun z => absurd z.1 (by decide)⟩ | omega)]
    exact h
  | some Cs =>
    obtain ⟨a1, a2, a3, a4⟩ := h
    show 0 ≤ m' 336 21 ∧ RwR m' (m' 336 21) Cs ∧ nvs (rowC Cs) ≤ 60 ∧ N1 Cs
    rw [F 336 21 (by first | decide | exact fun z => absurd z.1 (by decide) | exact ⟨fun z => absurd z.1 (by decide), fun z => absurd z.1 (by decide)⟩ | omega)]
    exact ⟨a1, a2.same (fun c p q => F c p (by omega)), a3, a4⟩
theorem zh_atMost {S : Sh} {m : Mm} {K : Int → Mm → Prop} {a b : Int} (hk : K (min a b) m) : wp_X12_atMost S m a b K := by
  refine u_X12_atMost ?_
  exact g_if (fun w => by rw [show a = min a b by omega]; exact (by rw [show min a b = a by omega] at hk ⊢; exact hk)) (fun w => by rw [show min a b = b by omega] at hk; exact hk)
theorem zh_moreTired {X : Mm} {S : Sh} {m : Mm} {K : Int → Mm → Prop} {h t : Int} (hS : Shp S) (hm : Inv X S m) (h0 : 0 ≤ h) (h4 : h ≤ 4) (t0 : 0 ≤ t) (t9 : t ≤ 99) (hk : K (min (t + m 346 (10 + 5 * h + 4)) 99) m) : wp_X12_moreTired S m 336 h t K := by
  have b : 0 ≤ m 346 (10 + 5 * h + 4) ∧ m 346 (10 + 5 * h + 4) ≤ 5 := fam_346_14_5_0_4 hm (a := h) (by omega) (by omega) (by omega)
  refine u_X12_moreTired ?_
  refine g_C ?_
  refine ⟨hS.k336, ?_⟩
  refine zt_handOf hS hm h0 h4 (by omega) (by omega) ?_
  refine g_A (by omega) (by omega) ?_
  refine g_C ?_
  exact zh_atMost hk
theorem heR_b {X : Mm} {S : Sh} {m : Mm} {t : Int} (hm : Inv X S m) : 0 ≤ heR m t ∧ heR m t ≤ 20 := by
  have b9 := hm.f_346_9
  unfold heR
  by_cases z : m 336 23 = 0
  · rw [if_pos z]
    have q := htF_b (a := fun k => m 346 (81 + 3 * k)) (b := fun k => m 346 (81 + 3 * k + 1)) (c := fun k => m 346 (81 + 3 * k + 2)) (t := t) (m 346 9).toNat (fun k k0 k1 => fam_346_83_3_0_3 hm (a := k) (by omega) (by omega) (by omega))
    unfold htR
    omega
  · rw [if_neg z]; omega
theorem tnR_b {X : Mm} {S : Sh} {o : Option (List Cz)} {m : Mm} {j : Int} (hm : Inv X S m) (j0 : 0 ≤ j) (j3 : j ≤ 3) : 0 ≤ tnR o m j ∧ tnR o m j ≤ 64 := by
  have g := hm.f_346_1
  have b5 : -1 ≤ m 346 (35 + 4 * j + 1) ∧ m 346 (35 + 4 * j + 1) ≤ 4 := fam_346_36_4_0_3 hm (a := j) (by omega) (by omega) (by omega)
  have bh := heR_b (t := m 346 7) hm
  unfold tnR
  by_cases e : m 346 (35 + 4 * j + 1) < 0
  · rw [if_pos e]; omega
  · rw [if_neg e]
    exact tvO_b (fam_346_13_5_0_4 hm (a := m 346 (35 + 4 * j + 1)) (by omega) (by omega) (by omega)) (fam_346_12_5_0_4 hm (a := m 346 (35 + 4 * j + 1)) (by omega) (by omega) (by omega)) bh
theorem zh_turns12 {X : Mm} {S : Sh} {m : Mm} {K : Mm → Prop} {o : Option (List Cz)} {j : Int} (hS : Shp S) (hm : Inv X S m) (hr : RR m o) (j0 : 0 ≤ j) (j3 : j ≤ 3) (bt : 0 ≤ m 346 (35 + 4 * j + 2) ∧ m 346 (35 + 4 * j + 2) ≤ 999) (hk : ∀ M1 : Mm, Inv X S M1 → (∀ c p : Int, ¬ c = 344 → ¬ c = 345 → ¬ (c = 336 ∧ p = 18) → ¬ (c = 346 ∧ p = 35 + 4 * j + 2) → M1 c p = m c p) → M1 346 (35 + 4 * j + 2) = min (m 346 (35 + 4 * j + 2) + tnR o m j) 999 → K M1) : wp_X12_turns S m 336 j K := by
  have b1 := hm.f_346_1
  have b5 : -1 ≤ m 346 (35 + 4 * j + 1) ∧ m 346 (35 + 4 * j + 1) ≤ 4 := fam_346_36_4_0_3 hm (a := j) (by omega) (by omega) (by omega)
  have bT := tnR_b (o := o) hm j0 j3
  have go : ∀ (v : Int) (M : Mm), v = tnR o m j → Inv X S M → (∀ c p : Int, ¬ c = 344 → ¬ c = 345 → ¬ (c = 336 ∧ p = 18) → M c p = m c p) → wp_X12_turns_90 S K 336 (35 + 4 * j) v M := by
    intro v M ev hM F
    refine u_X12_turns_90 ?_
    refine g_getr 20 346 rfl hS.k336 hM.f_336_20 (by decide) ?_
    refine g_C ?_
    refine g_A (by omega) (by omega) ?_
    refine g_getr 20 346 rfl hS.k336 hM.f_336_20 (by decide) ?_
    refine g_C ?_
    refine g_A (by omega) (by omega) ?_
    refine g_ldu hS.k346 hS.l346 (by omega) (by omega) (fun a ea => ?_)
    rw [F 346 _ (by first | decide | exact fun z => absurd z.1 (by decide) | exact ⟨fun z => absurd z.1 (by decide), fun z => absurd z.1 (by decide)⟩ | omega) (by first | decide | exact fun z => absurd z.1 (by decide) | exact ⟨fun z => absurd z.1 (by decide), fun z => absurd z.1 (by decide)⟩ | omega) (by first | decide | exact fun z => absurd z.1 (by decide) | exact ⟨fun z => absurd z.1 (by decide), fun z => absurd z.1 (by decide)⟩ | omega)] at ea
    refine g_A (by omega) (by omega) ?_
    refine g_C ?_
    refine zh_atMost ?_
    refine g_st hS.k346 hS.l346 (by omega) (by omega) (wfm_346_37_4_0_3 hM (a := j) (by omega) (by omega) (by omega) (by omega) (by omega)) (fun M1 e1 hM1 => ?_)
    refine hk M1 hM1 (fun c p q1 q2 q3 q4 => ((congrFun (congrFun e1 _) _).trans (up_ne q4)).trans (F c p q1 q2 q3)) ((congrFun (congrFun e1 _) _).trans ((up_at _ _ _ _).trans (by rw [ea, ev])))
  refine u_X12_turns ?_
  refine g_C ?_
  refine g_C ?_
  refine g_M (by omega) (by omega) ?_
  refine g_A (by omega) (by omega) ?_
  refine g_getr 20 346 rfl hS.k336 hm.f_336_20 (by decide) ?_
  refine g_C ?_
  refine g_A (by omega) (by omega) ?_
  refine g_ldu hS.k346 hS.l346 (by omega) (by omega) (fun h eh => ?_)
  refine g_if (fun w => ?_) (fun w => ?_)
  · have h4 : h ≤ 4 := by omega
    have bti : 0 ≤ m 346 (10 + 5 * h + 2) ∧ m 346 (10 + 5 * h + 2) ≤ 99 := fam_346_12_5_0_4 hm (a := h) (by omega) (by omega) (by omega)
    refine g_C ?_
    refine ⟨hS.k336, ?_⟩
    refine zt_handOf hS hm w h4 (by omega) (by omega) ?_
    refine g_getr 20 346 rfl hS.k336 hm.f_336_20 (by decide) ?_
    refine g_C ?_
    refine g_A (by omega) (by omega) ?_
    refine g_ldu hS.k346 hS.l346 (by omega) (by omega) (fun tu etu => ?_)
    refine g_getr 20 346 rfl hS.k336 hm.f_336_20 (by decide) ?_
    refine g_C ?_
    refine g_ldu hS.k346 hS.l346 (by decide) (by decide) (fun t et => ?_)
    refine g_C ?_
    refine ⟨hS.k336, ?_⟩
    refine zt_handOf hS hm w h4 (by omega) (by omega) ?_
    have go2 : ∀ ro : Int, ro = (if m 346 (10 + 5 * h + 1) ≤ 0 then 0 else 1) → wp_X12_turns_79 S K 336 (35 + 4 * j) h 336 h (m 346 (10 + 5 * h + 2)) j tu t ro m := by
      intro ro ero
      refine u_X12_turns_79 ?_
      refine ⟨hS.k336, ?_⟩
      refine zt_held hS hm ?_
      have b55 := hm.f_346_5
      have bb := hbt_15 (f := fun j => m 346 (36 + 4 * j)) (h := h) (n := (m 346 5).toNat) (by omega)
      refine zt_bits bb.1 bb.2 ?_
      refine ⟨hS.k336, ?_⟩
      refine zh_turnsIn hS hm hr w h4 bti.1 bti.2 (fun M1 hM1 f1 => ?_)
      refine go _ M1 ?_ hM1 f1
      have eT : tnR o m j = tvO o (wdT m j h) := by
        unfold tnR
        rw [← eh, if_neg (by omega)]
      rw [eT]
      show tvO o (wds h (m 346 (10 + 5 * h + 3)) (m 346 (10 + 5 * h + 2)) j tu (if m 336 23 = 0 then htR (m 346) t else 0) t ro (bcF (hbR m h)) (if tu < m 346 2 then 0 else 1)) = _
      rw [etu, et, ero]
      rfl
    exact g_if (fun w2 => g_C (go2 0 (by rw [if_pos w2]))) (fun w2 => g_C (go2 1 (by rw [if_neg w2])))
  · refine g_getr 20 346 rfl hS.k336 hm.f_336_20 (by decide) ?_
    refine g_C ?_
    refine g_ldu hS.k346 hS.l346 (by decide) (by decide) (fun g eg => ?_)
    refine g_getr 20 346 rfl hS.k336 hm.f_336_20 (by decide) ?_
    refine g_C ?_
    refine g_ldu hS.k346 hS.l346 (by decide) (by decide) (fun t et => ?_)
    refine ⟨hS.k336, ?_⟩
    refine zh_heat12 hS hm (fun c0 c1 => ?_)
    refine g_A (by omega) (by omega) ?_
    refine go _ m ?_ hm (fun c p _ _ _ => rfl)
    have eT : tnR o m j = m 346 1 + heR m (m 346 7) := by
      unfold tnR
      rw [← eh, if_pos (by omega)]
    rw [eT, eg, et]
    rfl
def nuR (o : Option (List Cz)) (m : Mm) (p : Int) : Int := if m 346 (35 + 4 * p + 3) = 1 then m 346 (35 + 4 * p + 2) else min (m 346 (35 + 4 * p + 2) + tnR o m p) 999
/-- what an HOUR makes of a row -/
def PRh (o : Option (List Cz)) (m M : Mm) : Prop := (∀ c p : Int, ¬ c = 344 → ¬ c = 345 → ¬ (c = 336 ∧ p = 18) → ¬ (c = 346 ∧ (p = 7 ∨ (10 ≤ p ∧ p < 10 + 5 * m 346 4 ∧ ((p - 10) % 5 = 1 ∨ (p - 10) % 5 = 2)) ∨ (35 ≤ p ∧ p < 35 + 4 * m 346 5 ∧ (p - 35) % 4 = 2))) → M c p = m c p) ∧ (∀ j : Int, 0 ≤ j → j < m 346 5 → M 346 (35 + 4 * j + 2) = nuR o m j) ∧ (∀ h : Int, 0 ≤ h → h < m 346 4 → M 346 (10 + 5 * h + 2) = (if hbR m h = 0 then max 0 (m 346 (10 + 5 * h + 2) - 1) else min (m 346 (10 + 5 * h + 2) + m 346 (10 + 5 * h + 4)) 99) ∧ M 346 (10 + 5 * h + 1) = max 0 (m 346 (10 + 5 * h + 1) - 1)) ∧ M 346 7 = m 346 7 + 1
theorem zh_passes {X : Mm} {S : Sh} {m : Mm} {K : Int → Mm → Prop} {o : Option (List Cz)} (hS : Shp S) (hm : Inv X S m) (hr : RR m o) (b7 : 0 ≤ m 346 7 ∧ m 346 7 ≤ 9999) (bj : ∀ j : Int, 0 ≤ j → j < m 346 5 → 0 ≤ m 346 (35 + 4 * j + 2) ∧ m 346 (35 + 4 * j + 2) ≤ 999) (hk : ∀ M1 : Mm, Inv X S M1 → PRh o m M1 → K (soF (fun j => m 346 (35 + 4 * j + 2)) (nuR o m) (m 346 2) (m 346 5).toNat) M1) : wp_X12_passes S m 336 K := by
  have b4 := hm.f_346_4
  have b5 := hm.f_346_5
  have b9 := hm.f_346_9
  have bH : ∀ j : Int, 0 ≤ j → j ≤ 3 → m 346 (35 + 4 * j + 1) ≤ 4 := fun j j0 j3 => (fam_346_36_4_0_3 hm (a := j) (i := 35 + 4 * j + 1) (by omega) (by omega) (by omega)).2
  have L2 : ∀ (n : Nat) (s h : Int) (M : Mm), Inv X S M → 0 ≤ h → h ≤ m 346 4 → s = soF (fun j => m 346 (35 + 4 * j + 2)) (nuR o m) (m 346 2) (m 346 5).toNat → (∀ c p : Int, ¬ c = 344 → ¬ c = 345 → ¬ (c = 336 ∧ p = 18) → ¬ (c = 346 ∧ ((10 ≤ p ∧ p < 10 + 5 * h ∧ ((p - 10) % 5 = 1 ∨ (p - 10) % 5 = 2)) ∨ (35 ≤ p ∧ p < 35 + 4 * m 346 5 ∧ (p - 35) % 4 = 2))) → M c p = m c p) → (∀ j : Int, 0 ≤ j → j < m 346 5 → M 346 (35 + 4 * j + 2) = nuR o m j) → (∀ l : Int, 0 ≤ l → l < h → M 346 (10 + 5 * l + 2) = (if hbR m l = 0 then max 0 (m 346 (10 + 5 * l + 2) - 1) else min (m 346 (10 + 5 * l + 2) + m 346 (10 + 5 * l + 4)) 99) ∧ M 346 (10 + 5 * l + 1) = max 0 (m 346 (10 + 5 * l + 1) - 1)) → 6 - h ≤ (n : Int) → wp_X12_passes_80 S K n 336 s h M := by
    intro n
    induction n with
    | zero => intro s h M _ _ _ _ _ _ _ hn; exfalso; omega
    | succ n ih =>
      intro s h M hM h0 h1 es F J H hn
      refine u_X12_passes_80 ?_
      refine g_getr 20 346 rfl hS.k336 hM.f_336_20 (by decide) ?_
      refine g_C ?_
      refine g_ldu hS.k346 hS.l346 (by decide) (by decide) (fun v ev => ?_)
      rw [F 346 4 (by first | decide | exact fun z => absurd z.1 (by decide) | exact ⟨fun z => absurd z.1 (by decide), fun z => absurd z.1 (by decide)⟩ | omega) (by first | decide | exact fun z => absurd z.1 (by decide) | exact ⟨fun z => absurd z.1 (by decide), fun z => absurd z.1 (by decide)⟩ | omega) (by first | decide | exact fun z => absurd z.1 (by decide) | exact ⟨fun z => absurd z.1 (by decide), fun z => absurd z.1 (by decide)⟩ | omega) (by first | decide | exact fun z => absurd z.1 (by decide) | exact ⟨fun z => absurd z.1 (by decide), fun z => absurd z.1 (by decide)⟩ | omega)] at ev
      refine g_if (fun w => ?_) (fun w => ?_)
      · refine g_getr 20 346 rfl hS.k336 hM.f_336_20 (by decide) ?_
        refine g_C ?_
        refine g_ldu hS.k346 hS.l346 (by decide) (by decide) (fun t et => ?_)
        rw [F 346 7 (by first | decide | exact fun z => absurd z.1 (by decide) | exact ⟨fun z => absurd z.1 (by decide), fun z => absurd z.1 (by decide)⟩ | omega) (by first | decide | exact fun z => absurd z.1 (by decide) | exact ⟨fun z => absurd z.1 (by decide), fun z => absurd z.1 (by decide)⟩ | omega) (by first | decide | exact fun z => absurd z.1 (by decide) | exact ⟨fun z => absurd z.1 (by decide), fun z => absurd z.1 (by decide)⟩ | omega) (by first | decide | exact fun z => absurd z.1 (by decide) | exact ⟨fun z => absurd z.1 (by decide), fun z => absurd z.1 (by decide)⟩ | omega)] at et
        refine g_C ?_
        refine g_A (by omega) (by omega) ?_
        refine g_st hS.k346 hS.l346 (by decide) (by decide) (hM.w_346_7 (by omega) (by omega)) (fun M1 e1 hM1 => ?_)
        have f1 : ∀ c p : Int, ¬ (c = 346 ∧ p = 7) → M1 c p = M c p := fun c p q => (congrFun (congrFun e1 _) _).trans (up_ne q)
        have y1 : M1 346 7 = t + 1 := (congrFun (congrFun e1 _) _).trans (up_at _ _ _ _)
        rw [es]
        refine hk M1 hM1 ⟨fun c p q1 q2 q3 q4 => ?_, fun j j0 j1 => ?_, fun l l0 l1 => ?_, by rw [y1, et]⟩
        · rw [f1 c p (by first | exact fun y => absurd (y.1 ▸ z) (by decide) | exact fun y => absurd (y.1 ▸ q) (by decide) | exact z | exact q | exact z.1 | exact q.1 | exact z.2 | exact q.2 | omega), F c p q1 q2 q3 (by omega)]
        · rw [f1 346 _ (by first | decide | exact fun z => absurd z.1 (by decide) | exact ⟨fun z => absurd z.1 (by decide), fun z => absurd z.1 (by decide)⟩ | omega), J j j0 j1]
        · rw [f1 346 _ (by first | decide | exact fun z => absurd z.1 (by decide) | exact ⟨fun z => absurd z.1 (by decide), fun z => absurd z.1 (by decide)⟩ | omega), f1 346 _ (by first | decide | exact fun z => absurd z.1 (by decide) | exact ⟨fun z => absurd z.1 (by decide), fun z => absurd z.1 (by decide)⟩ | omega)]
          exact H l l0 (by omega)
      · have h4 : h ≤ 4 := by omega
        have c2 : 0 ≤ M 346 (10 + 5 * h + 2) ∧ M 346 (10 + 5 * h + 2) ≤ 99 := fam_346_12_5_0_4 hM (a := h) (by omega) (by omega) (by omega)
        have c1 : 0 ≤ M 346 (10 + 5 * h + 1) ∧ M 346 (10 + 5 * h + 1) ≤ 5 := fam_346_11_5_0_4 hM (a := h) (by omega) (by omega) (by omega)
        have c4 : 0 ≤ M 346 (10 + 5 * h + 4) ∧ M 346 (10 + 5 * h + 4) ≤ 5 := fam_346_14_5_0_4 hM (a := h) (by omega) (by omega) (by omega)
        have x2 : M 346 (10 + 5 * h + 2) = m 346 (10 + 5 * h + 2) := F 346 _ (by first | decide | exact fun z => absurd z.1 (by decide) | exact ⟨fun z => absurd z.1 (by decide), fun z => absurd z.1 (by decide)⟩ | omega) (by first | decide | exact fun z => absurd z.1 (by decide) | exact ⟨fun z => absurd z.1 (by decide), fun z => absurd z.1 (by decide)⟩ | omega) (by first | decide | exact fun z => absurd z.1 (by decide) | exact ⟨fun z => absurd z.1 (by decide), fun z => absurd z.1 (by decide)⟩ | omega) (by first | decide | exact fun z => absurd z.1 (by decide) | exact ⟨fun z => absurd z.1 (by decide), fun z => absurd z.1 (by decide)⟩ | omega)
        have x1 : M 346 (10 + 5 * h + 1) = m 346 (10 + 5 * h + 1) := F 346 _ (by first | decide | exact fun z => absurd z.1 (by decide) | exact ⟨fun z => absurd z.1 (by decide), fun z => absurd z.1 (by decide)⟩ | omega) (by first | decide | exact fun z => absurd z.1 (by decide) | exact ⟨fun z => absurd z.1 (by decide), fun z => absurd z.1 (by decide)⟩ | omega) (by first | decide | exact fun z => absurd z.1 (by decide) | exact ⟨fun z => absurd z.1 (by decide), fun z => absurd z.1 (by decide)⟩ | omega) (by first | decide | exact fun z => absurd z.1 (by decide) | exact ⟨fun z => absurd z.1 (by decide), fun z => absurd z.1 (by decide)⟩ | omega)
        have x4 : M 346 (10 + 5 * h + 4) = m 346 (10 + 5 * h + 4) := F 346 _ (by first | decide | exact fun z => absurd z.1 (by decide) | exact ⟨fun z => absurd z.1 (by decide), fun z => absurd z.1 (by decide)⟩ | omega) (by first | decide | exact fun z => absurd z.1 (by decide) | exact ⟨fun z => absurd z.1 (by decide), fun z => absurd z.1 (by decide)⟩ | omega) (by first | decide | exact fun z => absurd z.1 (by decide) | exact ⟨fun z => absurd z.1 (by decide), fun z => absurd z.1 (by decide)⟩ | omega) (by first | decide | exact fun z => absurd z.1 (by decide) | exact ⟨fun z => absurd z.1 (by decide), fun z => absurd z.1 (by decide)⟩ | omega)
        have xb : hbR M h = hbR m h := hbR_same (fun p q => F 346 p (by first | decide | exact fun z => absurd z.1 (by decide) | exact ⟨fun z => absurd z.1 (by decide), fun z => absurd z.1 (by decide)⟩ | omega) (by first | decide | exact fun z => absurd z.1 (by decide) | exact ⟨fun z => absurd z.1 (by decide), fun z => absurd z.1 (by decide)⟩ | omega) (by first | decide | exact fun z => absurd z.1 (by decide) | exact ⟨fun z => absurd z.1 (by decide), fun z => absurd z.1 (by decide)⟩ | omega) (by first | decide | exact fun z => absurd z.1 (by decide) | exact ⟨fun z => absurd z.1 (by decide), fun z => absurd z.1 (by decide)⟩ | omega)) (by omega)
        have fin : ∀ v : Int, v = (if hbR m h = 0 then max 0 (m 346 (10 + 5 * h + 2) - 1) else min (m 346 (10 + 5 * h + 2) + m 346 (10 + 5 * h + 4)) 99) → wp_X12_passes_157 S (fun a0 a1 a2 M => wp_X12_passes_80 S K n a0 a1 a2 M) K 336 s h (10 + 5 * h) 346 (10 + 5 * h + 2) v M := by
          intro v ev
          have bv : 0 ≤ v ∧ v ≤ 99 := by rw [ev]; split <;> omega
          refine u_X12_passes_157 ?_
          refine g_st hS.k346 hS.l346 (by omega) (by omega) (wfm_346_12_5_0_4 hM (a := h) (by omega) (by omega) (by omega) bv.1 bv.2) (fun M1 e1 hM1 => ?_)
          have f1 : ∀ c p : Int, ¬ (c = 346 ∧ p = 10 + 5 * h + 2) → M1 c p = M c p := fun c p q => (congrFun (congrFun e1 _) _).trans (up_ne q)
          have y1 : M1 346 (10 + 5 * h + 2) = v := (congrFun (congrFun e1 _) _).trans (up_at _ _ _ _)
          refine g_getr 20 346 rfl hS.k336 hM1.f_336_20 (by decide) ?_
          refine g_C ?_
          refine g_A (by omega) (by omega) ?_
          refine g_ldu hS.k346 hS.l346 (by omega) (by omega) (fun g eg => ?_)
          rw [f1 346 _ (by first | decide | exact fun z => absurd z.1 (by decide) | exact ⟨fun z => absurd z.1 (by decide), fun z => absurd z.1 (by decide)⟩ | omega)] at eg
          refine g_getr 20 346 rfl hS.k336 hM1.f_336_20 (by decide) ?_
          refine g_C ?_
          refine g_A (by omega) (by omega) ?_
          refine g_ldu hS.k346 hS.l346 (by omega) (by omega) (fun g2 eg2 => ?_)
          rw [f1 346 _ (by first | decide | exact fun z => absurd z.1 (by decide) | exact ⟨fun z => absurd z.1 (by decide), fun z => absurd z.1 (by decide)⟩ | omega)] at eg2
          have fin2 : ∀ d : Int, g - d = max 0 (m 346 (10 + 5 * h + 1) - 1) → wp_X12_passes_183 S (fun a0 a1 a2 M => wp_X12_passes_80 S K n a0 a1 a2 M) K 336 s h 346 (10 + 5 * h + 1) g d M1 := by
            intro d ed
            refine u_X12_passes_183 ?_
            refine g_S (by omega) (by omega) ?_
            refine g_st hS.k346 hS.l346 (by omega) (by omega) (wfm_346_11_5_0_4 hM1 (a := h) (by omega) (by omega) (by omega) (by omega) (by omega)) (fun M2 e2 hM2 => ?_)
            have f2 : ∀ c p : Int, ¬ (c = 346 ∧ p = 10 + 5 * h + 1) → M2 c p = M1 c p := fun c p q => (congrFun (congrFun e2 _) _).trans (up_ne q)
            have y2 : M2 346 (10 + 5 * h + 1) = g - d := (congrFun (congrFun e2 _) _).trans (up_at _ _ _ _)
            refine g_A (by omega) (by omega) ?_
            refine ih s (h + 1) M2 hM2 (by omega) (by omega) es (fun c p q1 q2 q3 q4 => ?_) (fun j j0 j1 => ?_) (fun l l0 l1 => ?_) (by omega)
            · rw [f2 c p (by first | exact fun y => absurd (y.1 ▸ z) (by decide) | exact fun y => absurd (y.1 ▸ q) (by decide) | exact z | exact q | exact z.1 | exact q.1 | exact z.2 | exact q.2 | omega), f1 c p (by first | exact fun y => absurd (y.1 ▸ z) (by decide) | exact fun y => absurd (y.1 ▸ q) (by decide) | exact z | exact q | exact z.1 | exact q.1 | exact z.2 | exact q.2 | omega), F c p q1 q2 q3 (by omega)]
            · rw [f2 346 _ (by first | decide | exact fun z => absurd z.1 (by decide) | exact ⟨fun z => absurd z.1 (by decide), fun z => absurd z.1 (by decide)⟩ | omega), f1 346 _ (by first | decide | exact fun z => absurd z.1 (by decide) | exact ⟨fun z => absurd z.1 (by decide), fun z => absurd z.1 (by decide)⟩ | omega), J j j0 j1]
            · by_cases e : l = h
              · subst e
                rw [f2 346 (10 + 5 * l + 2) (by first | decide | exact fun z => absurd z.1 (by decide) | exact ⟨fun z => absurd z.1 (by decide), fun z => absurd z.1 (by decide)⟩ | omega), y1, y2, ev, ed]
                exact ⟨rfl, rfl⟩
              · rw [f2 346 (10 + 5 * l + 2) (by first | decide | exact fun z => absurd z.1 (by decide) | exact ⟨fun z => absurd z.1 (by decide), fun z => absurd z.1 (by decide)⟩ | omega), f2 346 (10 + 5 * l + 1) (by first | decide | exact fun z => absurd z.1 (by decide) | exact ⟨fun z => absurd z.1 (by decide), fun z => absurd z.1 (by decide)⟩ | omega), f1 346 (10 + 5 * l + 2) (by first | decide | exact fun z => absurd z.1 (by decide) | exact ⟨fun z => absurd z.1 (by decide), fun z => absurd z.1 (by decide)⟩ | omega), f1 346 (10 + 5 * l + 1) (by first | decide | exact fun z => absurd z.1 (by decide) | exact ⟨fun z => absurd z.1 (by decide), fun z => absurd z.1 (by decide)⟩ | omega)]
                exact H l l0 (by omega)
          exact g_if (fun w2 => g_C (fin2 0 (by omega))) (fun w2 => g_C (fin2 1 (by omega)))
        have mid : ∀ t : Int, t = max 0 (m 346 (10 + 5 * h + 2) - 1) → wp_X12_passes_122 S (fun a0 a1 a2 M => wp_X12_passes_80 S K n a0 a1 a2 M) K 336 s h (10 + 5 * h) t M := by
          intro t et
          refine u_X12_passes_122 ?_
          refine g_getr 20 346 rfl hS.k336 hM.f_336_20 (by decide) ?_
          refine g_C ?_
          refine g_A (by omega) (by omega) ?_
          refine ⟨hS.k336, ?_⟩
          refine zt_held hS hM ?_
          have hbe : hbt (fun j => M 346 (36 + 4 * j)) h (M 346 5).toNat = hbR m h := xb
          rw [hbe]
          refine g_if (fun w2 => fin t (by rw [if_pos w2]; exact et)) (fun w2 => ?_)
          refine g_getr 20 346 rfl hS.k336 hM.f_336_20 (by decide) ?_
          refine g_C ?_
          refine g_A (by omega) (by omega) ?_
          refine g_ldu hS.k346 hS.l346 (by omega) (by omega) (fun a ea => ?_)
          refine ⟨hS.k336, ?_⟩
          refine zh_moreTired hS hM h0 h4 (by omega) (by omega) ?_
          exact fin _ (by rw [if_neg w2, ea, x2, x4])
        refine g_C ?_
        refine g_C ?_
        refine g_M (by omega) (by omega) ?_
        refine g_A (by omega) (by omega) ?_
        refine g_getr 20 346 rfl hS.k336 hM.f_336_20 (by decide) ?_
        refine g_C ?_
        refine g_A (by omega) (by omega) ?_
        refine g_ldu hS.k346 hS.l346 (by omega) (by omega) (fun a ea => ?_)
        refine g_if (fun w2 => ?_) (fun w2 => g_C (mid 0 (by omega)))
        refine g_getr 20 346 rfl hS.k336 hM.f_336_20 (by decide) ?_
        refine g_C ?_
        refine g_A (by omega) (by omega) ?_
        refine g_ldu hS.k346 hS.l346 (by omega) (by omega) (fun b eb => ?_)
        refine g_C ?_
        refine g_S (by omega) (by omega) ?_
        exact mid _ (by omega)
  have L1 : ∀ (n : Nat) (s j : Int) (M : Mm), Inv X S M → 0 ≤ j → j ≤ m 346 5 → s = soF (fun j => m 346 (35 + 4 * j + 2)) (nuR o m) (m 346 2) j.toNat → (∀ c p : Int, ¬ c = 344 → ¬ c = 345 → ¬ (c = 336 ∧ p = 18) → ¬ (c = 346 ∧ (35 ≤ p ∧ p < 35 + 4 * j ∧ (p - 35) % 4 = 2)) → M c p = m c p) → (∀ l : Int, 0 ≤ l → l < j → M 346 (35 + 4 * l + 2) = nuR o m l) → 5 - j ≤ (n : Int) → wp_X12_passes_4 S K n 336 s j M := by
    intro n
    induction n with
    | zero => intro s j M _ _ _ _ _ _ hn; exfalso; omega
    | succ n ih =>
      intro s j M hM j0 j1 es F J hn
      have bs := soF_b (a := fun j => m 346 (35 + 4 * j + 2)) (b := nuR o m) (s := m 346 2) j.toNat
      refine u_X12_passes_4 ?_
      refine g_getr 20 346 rfl hS.k336 hM.f_336_20 (by decide) ?_
      refine g_C ?_
      refine g_ldu hS.k346 hS.l346 (by decide) (by decide) (fun v ev => ?_)
      rw [F 346 5 (by first | decide | exact fun z => absurd z.1 (by decide) | exact ⟨fun z => absurd z.1 (by decide), fun z => absurd z.1 (by decide)⟩ | omega) (by first | decide | exact fun z => absurd z.1 (by decide) | exact ⟨fun z => absurd z.1 (by decide), fun z => absurd z.1 (by decide)⟩ | omega) (by first | decide | exact fun z => absurd z.1 (by decide) | exact ⟨fun z => absurd z.1 (by decide), fun z => absurd z.1 (by decide)⟩ | omega) (by first | decide | exact fun z => absurd z.1 (by decide) | exact ⟨fun z => absurd z.1 (by decide), fun z => absurd z.1 (by decide)⟩ | omega)] at ev
      refine g_if (fun w => ?_) (fun w => ?_)
      · refine g_C ?_
        exact ⟨6, L2 6 s 0 M hM (by omega) (by omega) (by rw [es, show j = m 346 5 by omega]) (fun c p q1 q2 q3 q4 => F c p q1 q2 q3 (by omega)) (fun l l0 l1 => J l l0 (by omega)) (fun l l0 l1 => absurd l1 (by omega)) (by omega)⟩
      have hj : j ≤ 3 := by omega
      have se := soF_succ (a := fun j => m 346 (35 + 4 * j + 2)) (b := nuR o m) (s := m 346 2) j0
      have nx : ∀ (s2 : Int) (M2 : Mm), Inv X S M2 → s2 = soF (fun j => m 346 (35 + 4 * j + 2)) (nuR o m) (m 346 2) (j + 1).toNat → (∀ c p : Int, ¬ c = 344 → ¬ c = 345 → ¬ (c = 336 ∧ p = 18) → ¬ (c = 346 ∧ p = 35 + 4 * j + 2) → M2 c p = M c p) → M2 346 (35 + 4 * j + 2) = nuR o m j → wp_X12_passes_72 S (fun a0 a1 a2 M => wp_X12_passes_4 S K n a0 a1 a2 M) K 336 s2 j M2 := by
        intro s2 M2 hM2 e2 f2 y2
        refine u_X12_passes_72 ?_
        refine g_A (by omega) (by omega) ?_
        refine ih s2 (j + 1) M2 hM2 (by omega) (by omega) e2 (fun c p q1 q2 q3 q4 => ?_) (fun l l0 l1 => ?_) (by omega)
        · rw [f2 c p q1 q2 q3 (by omega), F c p q1 q2 q3 (by omega)]
        · by_cases e : l = j
          · rw [e]; exact y2
          · rw [f2 346 _ (by first | decide | exact fun z => absurd z.1 (by decide) | exact ⟨fun z => absurd z.1 (by decide), fun z => absurd z.1 (by decide)⟩ | omega) (by first | decide | exact fun z => absurd z.1 (by decide) | exact ⟨fun z => absurd z.1 (by decide), fun z => absurd z.1 (by decide)⟩ | omega) (by first | decide | exact fun z => absurd z.1 (by decide) | exact ⟨fun z => absurd z.1 (by decide), fun z => absurd z.1 (by decide)⟩ | omega) (by first | decide | exact fun z => absurd z.1 (by decide) | exact ⟨fun z => absurd z.1 (by decide), fun z => absurd z.1 (by decide)⟩ | omega)]
            exact J l l0 (by omega)
      have x3 : M 346 (35 + 4 * j + 3) = m 346 (35 + 4 * j + 3) := F 346 _ (by first | decide | exact fun z => absurd z.1 (by decide) | exact ⟨fun z => absurd z.1 (by decide), fun z => absurd z.1 (by decide)⟩ | omega) (by first | decide | exact fun z => absurd z.1 (by decide) | exact ⟨fun z => absurd z.1 (by decide), fun z => absurd z.1 (by decide)⟩ | omega) (by first | decide | exact fun z => absurd z.1 (by decide) | exact ⟨fun z => absurd z.1 (by decide), fun z => absurd z.1 (by decide)⟩ | omega) (by first | decide | exact fun z => absurd z.1 (by decide) | exact ⟨fun z => absurd z.1 (by decide), fun z => absurd z.1 (by decide)⟩ | omega)
      have x2 : M 346 (35 + 4 * j + 2) = m 346 (35 + 4 * j + 2) := F 346 _ (by first | decide | exact fun z => absurd z.1 (by decide) | exact ⟨fun z => absurd z.1 (by decide), fun z => absurd z.1 (by decide)⟩ | omega) (by first | decide | exact fun z => absurd z.1 (by decide) | exact ⟨fun z => absurd z.1 (by decide), fun z => absurd z.1 (by decide)⟩ | omega) (by first | decide | exact fun z => absurd z.1 (by decide) | exact ⟨fun z => absurd z.1 (by decide), fun z => absurd z.1 (by decide)⟩ | omega) (by first | decide | exact fun z => absurd z.1 (by decide) | exact ⟨fun z => absurd z.1 (by decide), fun z => absurd z.1 (by decide)⟩ | omega)
      refine g_C ?_
      refine ⟨hS.k336, ?_⟩
      refine zt_jugOf hS hM j0 hj (by omega) (by omega) ?_
      refine g_C ?_
      refine g_if (fun w1 => ?_) (fun w1 => ?_)
      · rw [x3] at w1
        have en : nuR o m j = min (m 346 (35 + 4 * j + 2) + tnR o m j) 999 := if_neg w1
        have bt := bj j j0 (by omega)
        refine g_C ?_
        refine ⟨hS.k336, ?_⟩
        refine zt_jugOf hS hM j0 hj (by omega) (by omega) ?_
        refine ⟨hS.k336, ?_⟩
        refine zh_turns12 hS hM (hr.keep (fun c p q => F c p (by omega) (by omega) (by omega) (by omega))) j0 hj (by rw [x2]; exact bt) (fun M1 hM1 f1 y1 => ?_)
        have et : tnR o M j = tnR o m j := tnR_same (fun c p q => F c p (by omega) (by omega) (by omega) (by omega)) (by omega) (by omega) j0 hj (bH j j0 hj)
        rw [et, x2, ← en] at y1
        have y2 : M1 346 2 = m 346 2 := by rw [f1 346 2 (by first | decide | exact fun z => absurd z.1 (by decide) | exact ⟨fun z => absurd z.1 (by decide), fun z => absurd z.1 (by decide)⟩ | omega) (by first | decide | exact fun z => absurd z.1 (by decide) | exact ⟨fun z => absurd z.1 (by decide), fun z => absurd z.1 (by decide)⟩ | omega) (by first | decide | exact fun z => absurd z.1 (by decide) | exact ⟨fun z => absurd z.1 (by decide), fun z => absurd z.1 (by decide)⟩ | omega) (by first | decide | exact fun z => absurd z.1 (by decide) | exact ⟨fun z => absurd z.1 (by decide), fun z => absurd z.1 (by decide)⟩ | omega), F 346 2 (by first | decide | exact fun z => absurd z.1 (by decide) | exact ⟨fun z => absurd z.1 (by decide), fun z => absurd z.1 (by decide)⟩ | omega) (by first | decide | exact fun z => absurd z.1 (by decide) | exact ⟨fun z => absurd z.1 (by decide), fun z => absurd z.1 (by decide)⟩ | omega) (by first | decide | exact fun z => absurd z.1 (by decide) | exact ⟨fun z => absurd z.1 (by decide), fun z => absurd z.1 (by decide)⟩ | omega) (by first | decide | exact fun z => absurd z.1 (by decide) | exact ⟨fun z => absurd z.1 (by decide), fun z => absurd z.1 (by decide)⟩ | omega)]
        have no : ∀ s2 : Int, s2 = s → (¬ ((fun j => m 346 (35 + 4 * j + 2)) j < m 346 2 ∧ m 346 2 ≤ nuR o m j)) → wp_X12_passes_69 S (fun a0 a1 a2 M => wp_X12_passes_4 S K n a0 a1 a2 M) K 336 j s2 M1 := by
          intro s2 e2 q
          rw [if_neg q] at se
          refine u_X12_passes_69 ?_
          refine g_C ?_
          refine u_X12_passes_70 ?_
          refine g_A (by omega) (by omega) ?_
          exact nx _ M1 hM1 (by rw [e2, es, se]) f1 y1
        refine g_getr 20 346 rfl hS.k336 hM1.f_336_20 (by decide) ?_
        refine g_C ?_
        refine g_ldu hS.k346 hS.l346 (by decide) (by decide) (fun u eu => ?_)
        refine g_if (fun w2 => no s rfl (fun z => by have := z.1; have q : m 346 (35 + 4 * j + 2) < m 346 2 := z.1; omega)) (fun w2 => ?_)
        refine g_C ?_
        refine ⟨hS.k336, ?_⟩
        refine zt_jugOf hS hM1 j0 hj (by omega) (by omega) ?_
        refine g_getr 20 346 rfl hS.k336 hM1.f_336_20 (by decide) ?_
        refine g_C ?_
        refine g_ldu hS.k346 hS.l346 (by decide) (by decide) (fun u2 eu2 => ?_)
        refine g_if (fun w3 => no s rfl (fun z => by have := z.2; omega)) (fun w3 => ?_)
        refine g_C ?_
        refine u_X12_passes_70 ?_
        refine g_A (by omega) (by omega) ?_
        have qq : (fun j => m 346 (35 + 4 * j + 2)) j < m 346 2 := by
          show m 346 (35 + 4 * j + 2) < m 346 2
          omega
        rw [if_pos ⟨qq, by omega⟩] at se
        exact nx _ M1 hM1 (by rw [es, se]) f1 y1
      · have w2 : m 346 (35 + 4 * j + 3) = 1 := by omega
        have en : nuR o m j = m 346 (35 + 4 * j + 2) := if_pos w2
        have q : ¬ ((fun j => m 346 (35 + 4 * j + 2)) j < m 346 2 ∧ m 346 2 ≤ nuR o m j) := fun z => by
          have z1 : m 346 (35 + 4 * j + 2) < m 346 2 := z.1
          have z2 := z.2
          omega
        rw [if_neg q] at se
        exact nx s M hM (by rw [es, se]; omega) (fun c p _ _ _ _ => rfl) (by rw [x2, en])
  refine u_X12_passes ?_
  refine g_C ?_
  refine g_C ?_
  exact ⟨5, L1 5 0 0 m hm (by omega) (by omega) rfl (fun c p _ _ _ _ => rfl) (fun l l0 l1 => absurd l1 (by omega)) (by omega)⟩
end
