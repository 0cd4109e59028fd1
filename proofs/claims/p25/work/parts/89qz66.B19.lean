section
/-! PROBE: how many of the HANDS come alike -/
def alC (u : Int) (f : Int → Int) (a : Int) : Nat → Int
  | 0 => 0
  | n + 1 => if f a = f (n : Int) ∧ btF u (n : Int) = 1 then alC u f a n + 1 else alC u f a n
def alM (u : Int) (f : Int → Int) (N : Nat) : Nat → Int
  | 0 => 0
  | k + 1 => if btF u (k : Int) = 1 then max (alM u f N k) (alC u f (k : Int) N) else alM u f N k
theorem alC_b {u : Int} {f : Int → Int} {a : Int} : ∀ n : Nat, 0 ≤ alC u f a n ∧ alC u f a n ≤ (n : Int) := by
  intro n
  induction n with
  | zero => exact ⟨Int.le_refl 0, Int.le_refl 0⟩
  | succ n ih =>
    by_cases q : f a = f (n : Int) ∧ btF u (n : Int) = 1
    · have e : alC u f a (n + 1) = alC u f a n + 1 := if_pos q
      omega
    · have e : alC u f a (n + 1) = alC u f a n := if_neg q
      omega
theorem alM_b {u : Int} {f : Int → Int} {N : Nat} : ∀ k : Nat, 0 ≤ alM u f N k ∧ alM u f N k ≤ (N : Int) := by
  intro k
  induction k with
  | zero => exact ⟨Int.le_refl 0, by show (0 : Int) ≤ (N : Int); omega⟩
  | succ k ih =>
    by_cases q : btF u (k : Int) = 1
    · have e : alM u f N (k + 1) = max (alM u f N k) (alC u f (k : Int) N) := if_pos q
      have z := alC_b (u := u) (f := f) (a := (k : Int)) N
      omega
    · have e : alM u f N (k + 1) = alM u f N k := if_neg q
      omega
def bsT (A : Nat → Int) : Nat → Int × Int
  | 0 => (6, 0)
  | k + 1 => if A k < (bsT A k).1 then (A k, (k : Int) + 1) else bsT A k
theorem bsT_at {A : Nat → Int} (h : ∀ k : Nat, A k ≤ 5) : ∀ k : Nat, 1 ≤ (bsT A (k + 1)).2 ∧ (bsT A (k + 1)).2 ≤ (k : Int) + 1 ∧ A ((bsT A (k + 1)).2.toNat - 1) = (bsT A (k + 1)).1 := by
  intro k
  induction k with
  | zero =>
    have z := h 0
    have e : bsT A (0 + 1) = (A 0, ((0 : Nat) : Int) + 1) := if_pos (by show A 0 < 6; omega)
    rw [e]
    exact ⟨by show (1 : Int) ≤ ((0 : Nat) : Int) + 1; decide, by show ((0 : Nat) : Int) + 1 ≤ ((0 : Nat) : Int) + 1; decide, rfl⟩
  | succ k ih =>
    by_cases q : A (k + 1) < (bsT A (k + 1)).1
    · have e : bsT A (k + 1 + 1) = (A (k + 1), ((k + 1 : Nat) : Int) + 1) := if_pos q
      rw [e]
      refine ⟨by show (1 : Int) ≤ ((k + 1 : Nat) : Int) + 1; omega, by show ((k + 1 : Nat) : Int) + 1 ≤ ((k + 1 : Nat) : Int) + 1; omega, ?_⟩
      show A ((((k + 1 : Nat) : Int) + 1).toNat - 1) = A (k + 1)
      congr 1
    · have e : bsT A (k + 1 + 1) = bsT A (k + 1) := if_neg q
      rw [e]
      exact ⟨ih.1, by have := ih.2.1; omega, ih.2.2⟩
theorem zq_mostAlike {X : Mm} {S : Sh} {m : Mm} {K : Int → Mm → Prop} {u i N : Int} {f : Int → Int} (hS : Shp S) (hm : Inv X S m) (n0 : 0 ≤ N) (n5 : N ≤ 5) (i0 : 0 ≤ i) (i9 : i ≤ 19) (e4 : m 4 4 = N) (hf : ∀ h : Int, 0 ≤ h → h < N → m 67 (h * 20 + i) = f h) (hk : K (alM u f N.toNat N.toNat) m) : wp_X9_mostAlike S m 66 u i K := by
  have L2 : ∀ (k : Nat), (k : Int) < N → ∀ (g : Int → Int → Int → Int → Int → Mm → Prop) (l j : Nat), (j : Int) ≤ N → 6 - j ≤ l → g 66 u i (alM u f N.toNat (k + 1)) ((k : Int) + 1) m → wp_X9_mostAlike_26 S g K l 66 u i (alM u f N.toNat k) k (alC u f k j) j m := by
    intro k k1 g l
    induction l with
    | zero => intro j j1 hl _; exfalso; omega
    | succ l ih =>
      intro j j1 hl hg
      have bM := alM_b (u := u) (f := f) (N := N.toNat) k
      have bC := alC_b (u := u) (f := f) (a := (k : Int)) j
      refine u_X9_mostAlike_26 ?_
      refine g_getr 0 3 rfl hS.k66 hm.f_66_0 (by decide) ?_
      refine g_getr 0 4 rfl hS.k3 hm.f_3_0 (by decide) ?_
      refine g_getu 4 rfl hS.k4 (fun v ev => ?_)
      refine g_if (fun w => ?_) (fun w => ?_)
      · have ej : N.toNat = j := by omega
        refine g_Oe (fun x ex => ?_)
        refine g_C ?_
        refine g_Oe (fun y ey => ?_)
        refine g_C ?_
        have eb : y = btF u k := by rw [ey, ex]; rfl
        refine g_if (fun w2 => ?_) (fun w2 => ?_)
        · refine u_X9_mostAlike_119 ?_
          refine g_A (by omega) (by omega) ?_
          have e : alM u f N.toNat (k + 1) = alM u f N.toNat k := if_neg (by omega)
          rw [e] at hg
          exact hg
        · refine g_Oe (fun z ez => ?_)
          refine u_X9_mostAlike_119 ?_
          refine g_A (by omega) (by omega) ?_
          have e : alM u f N.toNat (k + 1) = max (alM u f N.toNat k) (alC u f (k : Int) N.toNat) := if_pos (by omega)
          rw [e, ej] at hg
          rw [ez]
          rw [ej]
          exact hg
      · refine g_getr 2 67 rfl hS.k66 hm.f_66_2 (by decide) ?_
        refine g_C ?_
        refine g_M (by omega) (by omega) ?_
        refine g_A (by omega) (by omega) ?_
        refine g_ldu hS.k67 hS.l67 (by omega) (by omega) (fun a ea => ?_)
        have ba := hm.a_67 (i := (k : Int) * 20 + i) (by omega) (by omega)
        rw [← ea] at ba
        rw [hf k (by omega) k1] at ea
        refine g_getr 2 67 rfl hS.k66 hm.f_66_2 (by decide) ?_
        refine g_C ?_
        refine g_M (by omega) (by omega) ?_
        refine g_A (by omega) (by omega) ?_
        refine g_ldu hS.k67 hS.l67 (by omega) (by omega) (fun b eb => ?_)
        have bb := hm.a_67 (i := (j : Int) * 20 + i) (by omega) (by omega)
        rw [← eb] at bb
        rw [hf j (by omega) (by omega)] at eb
        refine g_S (by omega) (by omega) ?_
        have no : ¬ (f k = f (j : Int) ∧ btF u (j : Int) = 1) → wp_X9_mostAlike_89 S g (fun a0 a1 a2 a3 a4 a5 a6 M => wp_X9_mostAlike_26 S g K l a0 a1 a2 a3 a4 a5 a6 M) K 66 u i (alM u f N.toNat k) k j (alC u f k j) m := by
          intro q
          refine u_X9_mostAlike_89 ?_
          refine g_C ?_
          refine u_X9_mostAlike_90 ?_
          refine g_A (by omega) (by omega) ?_
          refine g_A (by omega) (by omega) ?_
          have e : alC u f k (j + 1) = alC u f k j := if_neg q
          rw [Int.add_zero, ← e]
          exact ih (j + 1) (by omega) (by omega) hg
        refine g_if (fun w2 => no (fun z => by omega)) (fun w2 => ?_)
        refine g_Oe (fun x ex => ?_)
        refine g_C ?_
        refine g_Oe (fun y ey => ?_)
        refine g_C ?_
        have ebt : y = btF u j := by rw [ey, ex]; rfl
        refine g_if (fun w3 => no (fun z => by omega)) (fun w3 => ?_)
        refine g_C ?_
        refine u_X9_mostAlike_90 ?_
        refine g_A (by omega) (by omega) ?_
        refine g_A (by omega) (by omega) ?_
        have e : alC u f k (j + 1) = alC u f k j + 1 := if_pos ⟨by omega, by omega⟩
        rw [← e]
        exact ih (j + 1) (by omega) (by omega) hg
  have L1 : ∀ (l k : Nat), (k : Int) ≤ N → 6 - k ≤ l → wp_X9_mostAlike_5 S K l 66 u i (alM u f N.toNat k) k m := by
    intro l
    induction l with
    | zero => intro k k1 hl; exfalso; omega
    | succ l ih =>
      intro k k1 hl
      refine u_X9_mostAlike_5 ?_
      refine g_getr 0 3 rfl hS.k66 hm.f_66_0 (by decide) ?_
      refine g_getr 0 4 rfl hS.k3 hm.f_3_0 (by decide) ?_
      refine g_getu 4 rfl hS.k4 (fun v ev => ?_)
      refine g_if (fun w => ?_) (fun w => ?_)
      · have ek : N.toNat = k := by omega
        rw [ek] at hk ⊢
        exact hk
      · refine g_C ?_
        refine g_C ?_
        exact ⟨6, L2 k (by omega) _ 6 0 (by omega) (by omega) (ih (k + 1) (by omega) (by omega))⟩
  refine u_X9_mostAlike ?_
  refine g_C ?_
  refine g_C ?_
  exact ⟨6, L1 6 0 (by omega) (by omega)⟩
theorem zq_alikeBy {X : Mm} {S : Sh} {m : Mm} {K : Int → Mm → Prop} {o : Option (List Cz)} {u n : Int} (hS : Shp S) (hm : Inv X S m) (hr : RR m o) (ic : m 336 23 = 0) (t0 : 0 ≤ m 346 7) (t9 : m 346 7 ≤ 9999) (n0 : 0 ≤ n) (n9 : n ≤ 20) (hk : ∀ M1 : Mm, Inv X S M1 → (∀ c p : Int, ¬ c = 344 → ¬ c = 345 → ¬ c = 351 → ¬ (c = 336 ∧ p = 18) → M1 c p = m c p) → K (alM u (fun h => (hT o (m 346) h 0 0 (m 346 7) 0 n.toNat).1) (m 346 4).toNat (m 346 4).toNat) M1) : wp_X12_alikeBy S m 336 u n K := by
  have b4 := hm.f_346_4
  obtain ⟨f, ef⟩ : ∃ f : Int → Int, f = fun h => (hT o (m 346) h 0 0 (m 346 7) 0 n.toNat).1 := ⟨_, rfl⟩
  rw [← ef] at hk
  have fb : ∀ h : Int, 0 ≤ h → h ≤ 4 → 0 ≤ f h ∧ f h ≤ 999 := fun h h0 h4 => by
    rw [ef]
    exact (hT_b (HB.of hm h0 h4) (by decide) (by decide) n.toNat).1
  obtain ⟨N, eN⟩ : ∃ N : Int, N = m 346 4 := ⟨_, rfl⟩
  rw [← eN] at b4 hk
  have L2 : ∀ (M : Mm), Inv X S M → M 346 = m 346 → (∀ h : Int, 0 ≤ h → h < N → M 351 h = if btF u h = 1 then f h else -1) → ∀ (k : Nat), (k : Int) < N → ∀ (g : Int → Int → Int → Mm → Prop) (l j : Nat) (t : Int), (j : Int) ≤ N → 6 - j ≤ l → t = (if btF u (k : Int) = 1 then alC u f k j else 0) → g 336 (alM u f N.toNat (k + 1)) ((k : Int) + 1) M → wp_X12_alikeBy_74 S g K l 336 (alM u f N.toNat k) k t j M := by
    intro M hM e46 hP k k1 g l
    induction l with
    | zero => intro j t j1 hl _ _; exfalso; omega
    | succ l ih =>
      intro j t j1 hl et hg
      have bM := alM_b (u := u) (f := f) (N := N.toNat) k
      have bC := alC_b (u := u) (f := f) (a := (k : Int)) j
      have bt : 0 ≤ t ∧ t ≤ (j : Int) := by
        rw [et]
        split
        · exact bC
        · omega
      refine u_X12_alikeBy_74 ?_
      refine g_getr 20 346 rfl hS.k336 hM.f_336_20 (by decide) ?_
      refine g_C ?_
      refine g_ldu hS.k346 hS.l346 (by decide) (by decide) (fun v ev => ?_)
      rw [e46, ← eN] at ev
      refine g_if (fun w => ?_) (fun w => ?_)
      · have ej : N.toNat = j := by omega
        have e : alM u f N.toNat (k + 1) = if t ≤ alM u f N.toNat k then alM u f N.toNat k else t := by
          by_cases q : btF u (k : Int) = 1
          · have e1 : alM u f N.toNat (k + 1) = max (alM u f N.toNat k) (alC u f (k : Int) N.toNat) := if_pos q
            rw [if_pos q, ← ej] at et
            rw [e1, ← et]
            by_cases q2 : t ≤ alM u f N.toNat k
            · rw [if_pos q2]; omega
            · rw [if_neg q2]; omega
          · have e1 : alM u f N.toNat (k + 1) = alM u f N.toNat k := if_neg q
            rw [if_neg q] at et
            rw [e1, if_pos (by omega)]
        rw [e] at hg
        refine g_if (fun w2 => ?_) (fun w2 => ?_)
        · rw [if_pos w2] at hg
          refine u_X12_alikeBy_140 ?_
          refine g_A (by omega) (by omega) ?_
          exact hg
        · rw [if_neg w2] at hg
          refine u_X12_alikeBy_140 ?_
          refine g_A (by omega) (by omega) ?_
          exact hg
      have fk := fb k (by omega) (by omega)
      have fj := fb j (by omega) (by omega)
      have hPk := hP k (by omega) k1
      have hPj := hP j (by omega) (by omega)
      have no : t = (if btF u (k : Int) = 1 then alC u f k (j + 1) else 0) → wp_X12_alikeBy_118 S g (fun a0 a1 a2 a3 a4 M => wp_X12_alikeBy_74 S g K l a0 a1 a2 a3 a4 M) K 336 (alM u f N.toNat k) k j t M := by
        intro q
        refine u_X12_alikeBy_118 ?_
        refine g_C ?_
        refine u_X12_alikeBy_119 ?_
        refine g_A (by omega) (by omega) ?_
        refine g_A (by omega) (by omega) ?_
        rw [Int.add_zero]
        exact ih (j + 1) t (by omega) (by omega) q hg
      refine g_getr 30 351 rfl hS.k336 hM.f_336_30 (by decide) ?_
      refine g_ldu hS.k351 hS.l351 (by omega) (by omega) (fun a ea => ?_)
      rw [hPk] at ea
      refine g_if (fun w2 => no ?_) (fun w2 => ?_)
      · have z : ¬ btF u (k : Int) = 1 := fun z => by rw [if_pos z] at ea; omega
        rw [et, if_neg z, if_neg z]
      have zk : btF u (k : Int) = 1 := Classical.byContradiction (fun z => by rw [if_neg z] at ea; omega)
      refine g_getr 30 351 rfl hS.k336 hM.f_336_30 (by decide) ?_
      refine g_ldu hS.k351 hS.l351 (by omega) (by omega) (fun a2 ea2 => ?_)
      rw [hPk, if_pos zk] at ea2
      refine g_getr 30 351 rfl hS.k336 hM.f_336_30 (by decide) ?_
      refine g_ldu hS.k351 hS.l351 (by omega) (by omega) (fun b eb => ?_)
      rw [hPj] at eb
      rw [if_pos zk] at et
      refine g_if (fun w3 => no ?_) (fun w3 => ?_)
      · have e : alC u f k (j + 1) = alC u f k j := if_neg (fun z => by rw [if_pos z.2] at eb; omega)
        rw [et, if_pos zk, e]
      · have zj : btF u (j : Int) = 1 := Classical.byContradiction (fun z => by rw [if_neg z] at eb; omega)
        rw [if_pos zj] at eb
        have e : alC u f k (j + 1) = alC u f k j + 1 := if_pos ⟨by omega, zj⟩
        refine g_C ?_
        refine u_X12_alikeBy_119 ?_
        refine g_A (by omega) (by omega) ?_
        refine g_A (by omega) (by omega) ?_
        exact ih (j + 1) (t + 1) (by omega) (by omega) (by rw [if_pos zk, e, et]) hg
  have L1 : ∀ (M : Mm), Inv X S M → (∀ c p : Int, ¬ c = 344 → ¬ c = 345 → ¬ c = 351 → ¬ (c = 336 ∧ p = 18) → M c p = m c p) → (∀ h : Int, 0 ≤ h → h < N → M 351 h = if btF u h = 1 then f h else -1) → ∀ (l k : Nat), (k : Int) ≤ N → 6 - k ≤ l → wp_X12_alikeBy_57 S K l 336 (alM u f N.toNat k) k M := by
    intro M hM F hP l
    have e46 : M 346 = m 346 := funext (fun p => F 346 p (by omega) (by omega) (by omega) (by omega))
    induction l with
    | zero => intro k k1 hl; exfalso; omega
    | succ l ih =>
      intro k k1 hl
      refine u_X12_alikeBy_57 ?_
      refine g_getr 20 346 rfl hS.k336 hM.f_336_20 (by decide) ?_
      refine g_C ?_
      refine g_ldu hS.k346 hS.l346 (by decide) (by decide) (fun v ev => ?_)
      rw [e46, ← eN] at ev
      refine g_if (fun w => ?_) (fun w => ?_)
      · have ek : N.toNat = k := by omega
        have q := hk M hM F
        rw [ek] at q ⊢
        exact q
      · refine g_C ?_
        refine g_C ?_
        exact ⟨6, L2 M hM e46 hP k (by omega) _ 6 0 0 (by omega) (by omega) (by split <;> rfl) (ih (k + 1) (by omega) (by omega))⟩
  have L : ∀ (l k : Nat) (M : Mm), (k : Int) ≤ N → Inv X S M → (∀ c p : Int, ¬ c = 344 → ¬ c = 345 → ¬ c = 351 → ¬ (c = 336 ∧ p = 18) → M c p = m c p) → (∀ h : Int, 0 ≤ h → h < (k : Int) → M 351 h = if btF u h = 1 then f h else -1) → 6 - k ≤ l → wp_X12_alikeBy_2 S K l 336 u n k M := by
    intro l
    induction l with
    | zero => intro k M k1 _ _ _ hl; exfalso; omega
    | succ l ih =>
      intro k M k1 hM F hP hl
      have e46 : M 346 = m 346 := funext (fun p => F 346 p (by omega) (by omega) (by omega) (by omega))
      refine u_X12_alikeBy_2 ?_
      refine g_getr 20 346 rfl hS.k336 hM.f_336_20 (by decide) ?_
      refine g_C ?_
      refine g_ldu hS.k346 hS.l346 (by decide) (by decide) (fun v ev => ?_)
      rw [e46, ← eN] at ev
      refine g_if (fun w => ?_) (fun w => ?_)
      · refine g_C ?_
        refine g_C ?_
        exact ⟨6, L1 M hM F (fun h h0 h1 => hP h h0 (by omega)) 6 0 (by omega) (by omega)⟩
      have nx : ∀ (r : Int) (M' : Mm), Inv X S M' → (∀ c p : Int, ¬ c = 344 → ¬ c = 345 → ¬ (c = 336 ∧ p = 18) → M' c p = M c p) → r = (if btF u (k : Int) = 1 then f k else -1) → wp_X12_alikeBy_45 S (fun a0 a1 a2 a3 M => wp_X12_alikeBy_2 S K l a0 a1 a2 a3 M) K 336 u n k 351 k r M' := by
        intro r M' hM' F' er
        have fk := fb k (by omega) (by omega)
        have rb : -1 ≤ r ∧ r ≤ 999 := by
          rw [er]
          split
          · omega
          · decide
        refine u_X12_alikeBy_45 ?_
        refine g_st hS.k351 hS.l351 (by omega) (by omega) (hM'.wa_351 (by omega) (by omega) (by omega) (by omega)) (fun m2 e2 hm2 => ?_)
        have f2 : ∀ c p : Int, ¬ (c = 351 ∧ p = k) → m2 c p = M' c p := fun c p q => (congrFun (congrFun e2 _) _).trans (up_ne q)
        have y2 : m2 351 k = r := (congrFun (congrFun e2 _) _).trans (up_at _ _ _ _)
        refine g_A (by omega) (by omega) ?_
        refine ih (k + 1) m2 (by omega) hm2 (fun c p q1 q2 q3 q4 => by rw [f2 c p (by omega), F' c p q1 q2 q4, F c p q1 q2 q3 q4]) (fun h h0 h1 => ?_) (by omega)
        by_cases e : h = k
        · rw [e, y2, er]
        · rw [f2 351 h (by omega), F' 351 h (by omega) (by omega) (by omega)]
          exact hP h h0 (by omega)
      refine g_getr 30 351 rfl hS.k336 hM.f_336_30 (by decide) ?_
      refine zq_isOf (fun b1 => g_ifF (by decide) ?_) (fun b0 => g_ifT rfl ?_)
      · refine g_C ?_
        refine g_C ?_
        refine g_getr 20 346 rfl hS.k336 hM.f_336_20 (by decide) ?_
        refine g_C ?_
        refine g_ldu hS.k346 hS.l346 (by decide) (by decide) (fun t et => ?_)
        rw [e46] at et
        refine g_C ?_
        refine ⟨hS.k336, ?_⟩
        refine zq_turnedBy (o := o) hS hM (hr.keep (fun c p z => F c p (by omega) (by omega) (by omega) (by omega))) (by rw [F 336 23 (by omega) (by omega) (by omega) (by omega)]; exact ic) (by omega) (by omega) (by decide) (by decide) n0 (by omega) (by omega) (by omega) (fun m1 hm1 f1 => ?_)
        rw [e46, et]
        refine nx _ m1 hm1 f1 ?_
        rw [if_pos b1, ef]
      · refine g_C ?_
        refine nx _ M hM (fun _ _ _ _ _ => rfl) ?_
        rw [if_neg b0]
  refine u_X12_alikeBy ?_
  refine g_C ?_
  exact ⟨6, L 6 0 m (by omega) hm (fun _ _ _ _ _ _ => rfl) (fun h h0 h1 => absurd h1 (by omega)) (by omega)⟩
/-- what comes of each of the 20 HOURS -/
def pbA (o : Option (List Cz)) (D : Int → Int) (u : Int) (i : Nat) : Int := alM u (fun h => (hT o D h 0 0 (D 7) 0 (i + 1)).1) (D 4).toNat (D 4).toNat
theorem pbA_b {o : Option (List Cz)} {D : Int → Int} {u : Int} (h4 : D 4 ≤ 5) (i : Nat) : 0 ≤ pbA o D u i ∧ pbA o D u i ≤ 5 := by
  have z := alM_b (u := u) (f := fun h => (hT o D h 0 0 (D 7) 0 (i + 1)).1) (N := (D 4).toNat) (D 4).toNat
  exact ⟨z.1, by unfold pbA; omega⟩
abbrev pF (m M : Mm) : Prop := ∀ c p : Int, ¬ c = 344 → ¬ c = 345 → ¬ c = 351 → ¬ (c = 336 ∧ p = 18) → M c p = m c p
theorem zq_probe12 {X : Mm} {S : Sh} {m : Mm} {K : Int → Mm → Prop} {o : Option (List Cz)} {D : Int → Int} {u w : Int} (hS : Shp S) (hm : Inv X S m) (hr : RR m o) (ic : m 336 23 = 0) (eD : m 346 = D) (t0 : 0 ≤ D 7) (t9 : D 7 ≤ 9999) (hk : ∀ M1 : Mm, Inv X S M1 → pF m M1 → K (if w = 0 then (bsT (pbA o D u) 20).2 else (bsT (pbA o D u) 20).1) M1) : ∃ n9 : Nat, wp_X12_probe_36 S K n9 336 w u 1 2 m := by
  have b4 := hm.f_346_4
  rw [eD] at b4
  have hA : ∀ k : Nat, pbA o D u k ≤ 5 := fun k => (pbA_b b4.2 k).2
  have L : ∀ (l k : Nat) (b : Int) (M : Mm), k ≤ 19 → Inv X S M → pF m M → b = (bsT (pbA o D u) (k + 1)).2 → 20 - k ≤ l → wp_X12_probe_36 S K l 336 w u b ((k : Int) + 2) M := by
    intro l
    induction l with
    | zero => intro k b M k1 _ _ _ hl; exfalso; omega
    | succ l ih =>
      intro k b M k1 hM F eb hl
      have at1 := bsT_at hA k
      rw [← eb] at at1
      have e46 : M 346 = D := by rw [← eD]; exact funext (fun p => F 346 p (by omega) (by omega) (by omega) (by omega))
      have rM : RR M o := hr.keep (fun c p z => F c p (by omega) (by omega) (by omega) (by omega))
      have iM : M 336 23 = 0 := by rw [F 336 23 (by omega) (by omega) (by omega) (by omega)]; exact ic
      have vb : alM u (fun h => (hT o D h 0 0 (D 7) 0 b.toNat).1) (D 4).toNat (D 4).toNat = (bsT (pbA o D u) (k + 1)).1 := by
        rw [← at1.2.2]
        show _ = alM u (fun h => (hT o D h 0 0 (D 7) 0 (b.toNat - 1 + 1)).1) (D 4).toNat (D 4).toNat
        rw [show b.toNat - 1 + 1 = b.toNat by omega]
      refine u_X12_probe_36 ?_
      refine g_C ?_
      refine g_if (fun z => ?_) (fun z => ?_)
      · have ek : k + 1 = 20 := by omega
        rw [ek] at eb vb
        refine g_if (fun w1 => ?_) (fun w1 => ?_)
        · refine ⟨hS.k336, ?_⟩
          refine zq_alikeBy (o := o) hS hM rM iM (by rw [e46]; exact t0) (by rw [e46]; exact t9) (by omega) (by omega) (fun m1 hm1 f1 => ?_)
          have q := hk m1 hm1 (fun c p a1 a2 a3 a4 => by rw [f1 c p a1 a2 a3 a4, F c p a1 a2 a3 a4])
          rw [if_neg w1] at q
          rw [e46, vb]
          exact q
        · have q := hk M hM F
          rw [if_pos (Classical.not_not.mp w1), ← eb] at q
          exact q
      refine ⟨hS.k336, ?_⟩
      refine zq_alikeBy (o := o) hS hM rM iM (by rw [e46]; exact t0) (by rw [e46]; exact t9) (by omega) (by omega) (fun m1 hm1 f1 => ?_)
      have F1 : pF m m1 := fun c p a1 a2 a3 a4 => by rw [f1 c p a1 a2 a3 a4, F c p a1 a2 a3 a4]
      have e461 : m1 346 = D := by rw [← eD]; exact funext (fun p => F1 346 p (by omega) (by omega) (by omega) (by omega))
      refine ⟨hS.k336, ?_⟩
      refine zq_alikeBy (o := o) hS hm1 (hr.keep (fun c p z => F1 c p (by omega) (by omega) (by omega) (by omega))) (by rw [F1 336 23 (by omega) (by omega) (by omega) (by omega)]; exact ic) (by rw [e461]; exact t0) (by rw [e461]; exact t9) (by omega) (by omega) (fun m2 hm2 f2 => ?_)
      have F2 : pF m m2 := fun c p a1 a2 a3 a4 => by rw [f2 c p a1 a2 a3 a4, F1 c p a1 a2 a3 a4]
      rw [e46, e461, vb]
      have vk : alM u (fun h => (hT o D h 0 0 (D 7) 0 ((k : Int) + 2).toNat).1) (D 4).toNat (D 4).toNat = pbA o D u (k + 1) := by
        show _ = alM u (fun h => (hT o D h 0 0 (D 7) 0 (k + 1 + 1)).1) (D 4).toNat (D 4).toNat
        rw [show ((k : Int) + 2).toNat = k + 1 + 1 by omega]
      rw [vk]
      refine g_if (fun z2 => ?_) (fun z2 => ?_)
      · refine u_X12_probe_62 ?_
        refine g_A (by omega) (by omega) ?_
        have e : bsT (pbA o D u) (k + 1 + 1) = bsT (pbA o D u) (k + 1) := if_neg (by omega)
        rw [show (k : Int) + 2 + 1 = ((k + 1 : Nat) : Int) + 2 by omega]
        exact ih (k + 1) b m2 (by omega) hm2 F2 (by rw [e]; exact eb) (by omega)
      · refine u_X12_probe_62 ?_
        refine g_A (by omega) (by omega) ?_
        have e : bsT (pbA o D u) (k + 1 + 1) = (pbA o D u (k + 1), ((k + 1 : Nat) : Int) + 1) := if_pos (by omega)
        rw [show (k : Int) + 2 + 1 = ((k + 1 : Nat) : Int) + 2 by omega]
        exact ih (k + 1) ((k : Int) + 2) m2 (by omega) hm2 F2 (by rw [e]; show (k : Int) + 2 = ((k + 1 : Nat) : Int) + 1; omega) (by omega)
  have z0 := hA 0
  have e1 : bsT (pbA o D u) (0 + 1) = (pbA o D u 0, ((0 : Nat) : Int) + 1) := if_pos (by show pbA o D u 0 < 6; omega)
  exact ⟨20, L 20 0 1 m (by omega) hm (fun _ _ _ _ _ _ => rfl) (by rw [e1]; rfl) (by omega)⟩
abbrev qF (m M : Mm) : Prop := ∀ c p : Int, ¬ c = 56 → ¬ c = 67 → ¬ (c = 55 ∧ 4 ≤ p) → ¬ (c = 66 ∧ (p = 3 ∨ p = 4)) → M c p = m c p
theorem zq_best {X : Mm} {S : Sh} {m : Mm} {K : Mm → Prop} {o : Option (List Cz)} {D : Int → Int} {u : Int} (hS : Shp S) (hm : Inv X S m) (hr : RC S m o) (db : DB D) (b3 : D 3 ≤ 8) (tl : TL 4 D m) (ic : m 55 2 = 0) (hb : ∀ h : Int, 0 ≤ h → h ≤ 4 → HB D h) (e7 : m 16 0 = D 7) (t0 : 0 ≤ D 7) (t9 : D 7 ≤ 900) (hk : ∀ M1 : Mm, Inv X S M1 → qF m M1 → M1 66 4 = (bsT (pbA o D u) 20).1 → M1 66 3 = (bsT (pbA o D u) 20).2 → K M1) : wp_X9_findBestProbe S m 66 u K := by
  have b4 := hm.f_4_4
  have t4 : m 4 4 = D 4 := tl.1.2.2.2.2.1
  rw [t4] at b4
  have hA : ∀ k : Nat, 0 ≤ pbA o D u k ∧ pbA o D u k ≤ 5 := fun k => pbA_b b4.2 k
  -- the third loop
  have L3 : ∀ (l k : Nat) (M : Mm), k ≤ 20 → Inv X S M → qF m M → (∀ h i : Int, 0 ≤ h → h < D 4 → 0 ≤ i → i < 20 → M 67 (h * 20 + i) = (hT o D h 0 0 (D 7) 0 (i.toNat + 1)).1) → M 66 4 = (bsT (pbA o D u) k).1 → (k = 0 ∨ M 66 3 = (bsT (pbA o D u) k).2) → 21 - k ≤ l → wp_X9_findBestProbe_90 S K l 66 u k M := by
    intro l
    induction l with
    | zero => intro k M k1 _ _ _ _ _ hl; exfalso; omega
    | succ l ih =>
      intro k M k1 hM F hT' y4 y3 hl
      refine u_X9_findBestProbe_90 ?_
      refine g_C ?_
      refine g_if (fun z => ?_) (fun z => ?_)
      · have ek : k = 20 := by omega
        rw [ek] at y4 y3
        exact hk M hM F y4 (y3.resolve_left (by decide))
      refine ⟨hS.k66, ?_⟩
      refine zq_mostAlike (N := D 4) (f := fun h => (hT o D h 0 0 (D 7) 0 (k + 1)).1) hS hM b4.1 b4.2 (by omega) (by omega) (by rw [F 4 4 (by omega) (by omega) (by omega) (by omega)]; exact t4) (fun h h0 h1 => ?_) ?_
      · have q := hT' h k h0 h1 (by omega) (by omega)
        rw [Int.toNat_natCast] at q
        exact q
      show wGet S M 66 9 4 fun v8 => wIf (v8 ≤ pbA o D u k) (wp_X9_findBestProbe_123 S (fun a0 a1 a2 M => wp_X9_findBestProbe_90 S K l a0 a1 a2 M) K 66 u k M) (wPut S M 66 9 4 (pbA o D u k) fun M10 => wC 1 fun v11 => wA k v11 fun v13 => wPut S M10 66 9 3 v13 fun M15 => wp_X9_findBestProbe_123 S (fun a0 a1 a2 M => wp_X9_findBestProbe_90 S K l a0 a1 a2 M) K 66 u k M15)
      have ak := hA k
      refine g_getu 4 rfl hS.k66 (fun v ev => ?_)
      rw [y4] at ev
      refine g_if (fun z2 => ?_) (fun z2 => ?_)
      · have e : bsT (pbA o D u) (k + 1) = bsT (pbA o D u) k := if_neg (by omega)
        refine u_X9_findBestProbe_123 ?_
        refine g_A (by omega) (by omega) ?_
        refine ih (k + 1) M (by omega) hM F hT' (by rw [e]; exact y4) (Or.inr ?_) (by omega)
        rcases y3 with y | y
        · have z3 : bsT (pbA o D u) k = (6, 0) := by rw [y]; rfl
          rw [z3] at ev
          have ev2 : v = 6 := ev
          omega
        · rw [e]; exact y
      · have e : bsT (pbA o D u) (k + 1) = (pbA o D u k, (k : Int) + 1) := if_pos (by omega)
        refine g_put 4 rfl hS.k66 (hM.w_66_4 (by omega) (by omega)) (fun m1 e1 hm1 => ?_)
        have f1 : ∀ c p : Int, ¬ (c = 66 ∧ p = 4) → m1 c p = M c p := fun c p q => (congrFun (congrFun e1 _) _).trans (up_ne q)
        have x1 : m1 66 4 = pbA o D u k := (congrFun (congrFun e1 _) _).trans (up_at _ _ _ _)
        refine g_C ?_
        refine g_A (by omega) (by omega) ?_
        refine g_put 3 rfl hS.k66 (hm1.w_66_3 (by omega) (by omega)) (fun m2 e2 hm2 => ?_)
        have f2 : ∀ c p : Int, ¬ (c = 66 ∧ p = 3) → m2 c p = m1 c p := fun c p q => (congrFun (congrFun e2 _) _).trans (up_ne q)
        have x2 : m2 66 3 = (k : Int) + 1 := (congrFun (congrFun e2 _) _).trans (up_at _ _ _ _)
        refine u_X9_findBestProbe_123 ?_
        refine g_A (by omega) (by omega) ?_
        refine ih (k + 1) m2 (by omega) hm2 (fun c p q1 q2 q3 q4 => by rw [f2 c p (by omega), f1 c p (by omega), F c p q1 q2 q3 q4]) (fun h i h0 h1 i0 i1 => ?_) (by rw [e, f2 66 4 (by decide), x1]) (Or.inr (by rw [e]; exact x2)) (by omega)
        rw [f2 67 _ (by omega), f1 67 _ (by omega)]
        exact hT' h i h0 h1 i0 i1
  -- the second loop: HOUR by HOUR of one HAND
  have L2 : ∀ (g : Int → Int → Int → Mm → Prop) (h : Nat), (h : Int) < D 4 → (∀ M' : Mm, Inv X S M' → qF m M' → (∀ h' i : Int, 0 ≤ h' → h' < (h : Int) + 1 → 0 ≤ i → i < 20 → M' 67 (h' * 20 + i) = (hT o D h' 0 0 (D 7) 0 (i.toNat + 1)).1) → g 66 u ((h : Int) + 1) M') → ∀ (l k : Nat) (M : Mm), k ≤ 20 → Inv X S M → qF m M → (∀ h' i : Int, 0 ≤ h' → 0 ≤ i → i < 20 → (h' < (h : Int) ∨ (h' = (h : Int) ∧ i < (k : Int))) → M 67 (h' * 20 + i) = (hT o D h' 0 0 (D 7) 0 (i.toNat + 1)).1) → HS M o D h 0 0 (D 7) 0 k → 21 - k ≤ l → wp_X9_findBestProbe_38 S g K l 66 u h k M := by
    intro g h h1 hg l
    induction l with
    | zero => intro k M k1 _ _ _ _ hl; exfalso; omega
    | succ l ih =>
      intro k M k1 hM F hT' H hl
      refine u_X9_findBestProbe_38 ?_
      refine g_C ?_
      refine g_if (fun z => ?_) (fun z => ?_)
      · refine g_A (by omega) (by omega) ?_
        exact hg M hM F (fun h' i a0 a1 i0 i1 => hT' h' i a0 i0 i1 (by omega))
      refine g_getr 1 55 rfl hS.k66 hM.f_66_1 (by decide) ?_
      refine g_C ?_
      refine ⟨hS.k55, ?_⟩
      refine zq_holdFor (o := o) (D := D) (k := k) hS hM (hr.keep (fun c p q => F c p (by omega) (by omega) (by omega) (by omega))) (tl.move db b3 (fun p _ _ => F _ p (by omega) (by omega) (by omega) (by omega)) (fun c p q => F _ p (by unfold inT at q; omega) (by unfold inT at q; omega) (by unfold inT at q; omega) (by unfold inT at q; omega)) (fun p _ => rfl)) (by rw [F 55 2 (by omega) (by omega) (by omega) (by omega)]; exact ic) (hb h (by omega) (by omega)) (by omega) (by omega) h1 (by decide) (by decide) t0 (by decide) (by omega) H (fun m1 hm1 f1 hs1 => ?_)
      have hs2 : HS m1 o D h 0 0 (D 7) 0 (k + 1) := hs1
      obtain ⟨y4, y5, y6, y7, y8, y10, y11⟩ := id hs2
      have q := hT_b (o := o) (j := 0) (ro := 0) (t := D 7) (s := 0) (hb h (by omega) (by omega)) (by decide) (by decide) (k + 1)
      rw [← y6] at q
      refine g_getr 2 67 rfl hS.k66 hm1.f_66_2 (by decide) ?_
      refine g_C ?_
      refine g_M (by omega) (by omega) ?_
      refine g_A (by omega) (by omega) ?_
      refine g_getr 1 55 rfl hS.k66 hm1.f_66_1 (by decide) ?_
      refine g_getu 6 rfl hS.k55 (fun v ev => ?_)
      refine g_st hS.k67 hS.l67 (by omega) (by omega) (hm1.wa_67 (by omega) (by omega) (by omega) (by omega)) (fun m2 e2 hm2 => ?_)
      have f2 : ∀ c p : Int, ¬ (c = 67 ∧ p = (h : Int) * 20 + k) → m2 c p = m1 c p := fun c p q => (congrFun (congrFun e2 _) _).trans (up_ne q)
      have x2 : m2 67 ((h : Int) * 20 + k) = v := (congrFun (congrFun e2 _) _).trans (up_at _ _ _ _)
      refine g_A (by omega) (by omega) ?_
      refine ih (k + 1) m2 (by omega) hm2 (fun c p q1 q2 q3 q4 => by rw [f2 c p (by omega), f1 c p q1 q3, F c p q1 q2 q3 q4]) (fun h' i a0 i0 i1 a1 => ?_) ⟨?_, ?_, ?_, ?_, ?_, ?_, ?_⟩ (by omega)
      · by_cases e : h' = (h : Int) ∧ i = (k : Int)
        · obtain ⟨ea, eb⟩ := e
          rw [ea, eb, x2, ev, y6, Int.toNat_natCast]
        · rw [f2 67 _ (by omega), f1 67 _ (by omega) (by omega)]
          exact hT' h' i a0 i0 i1 (by omega)
      · rw [f2 55 4 (by omega)]; exact y4
      · rw [f2 55 5 (by omega)]; exact y5
      · rw [f2 55 6 (by omega)]; exact y6
      · rw [f2 55 7 (by omega)]; exact y7
      · rw [f2 55 8 (by omega)]; exact y8
      · rw [f2 55 10 (by omega)]; exact y10
      · rw [f2 55 11 (by omega)]; exact y11
  have L1 : ∀ (l k : Nat) (M : Mm), (k : Int) ≤ D 4 → Inv X S M → qF m M → (∀ h' i : Int, 0 ≤ h' → h' < (k : Int) → 0 ≤ i → i < 20 → M 67 (h' * 20 + i) = (hT o D h' 0 0 (D 7) 0 (i.toNat + 1)).1) → 6 - k ≤ l → wp_X9_findBestProbe_2 S K l 66 u k M := by
    intro l
    induction l with
    | zero => intro k M k1 _ _ _ hl; exfalso; omega
    | succ l ih =>
      intro k M k1 hM F hT' hl
      refine u_X9_findBestProbe_2 ?_
      refine g_getr 0 3 rfl hS.k66 hM.f_66_0 (by decide) ?_
      refine g_getr 0 4 rfl hS.k3 hM.f_3_0 (by decide) ?_
      refine g_getu 4 rfl hS.k4 (fun v ev => ?_)
      rw [F 4 4 (by omega) (by omega) (by omega) (by omega), t4] at ev
      refine g_if (fun z => ?_) (fun z => ?_)
      · refine g_C ?_
        refine g_put 4 rfl hS.k66 (hM.w_66_4 (by decide) (by decide)) (fun m1 e1 hm1 => ?_)
        have f1 : ∀ c p : Int, ¬ (c = 66 ∧ p = 4) → m1 c p = M c p := fun c p q => (congrFun (congrFun e1 _) _).trans (up_ne q)
        have x1 : m1 66 4 = 6 := (congrFun (congrFun e1 _) _).trans (up_at _ _ _ _)
        refine g_C ?_
        refine ⟨21, L3 21 0 m1 (by omega) hm1 (fun c p q1 q2 q3 q4 => by rw [f1 c p (by omega), F c p q1 q2 q3 q4]) (fun h i h0 h1 i0 i1 => ?_) x1 (Or.inl rfl) (by omega)⟩
        rw [f1 67 _ (by omega)]
        exact hT' h i h0 (by omega) i0 i1
      refine g_getr 1 55 rfl hS.k66 hM.f_66_1 (by decide) ?_
      refine g_C ?_
      refine g_C ?_
      refine g_getr 0 3 rfl hS.k66 hM.f_66_0 (by decide) ?_
      refine g_getr 1 16 rfl hS.k3 hM.f_3_1 (by decide) ?_
      refine g_getu 0 rfl hS.k16 (fun t et => ?_)
      rw [F 16 0 (by omega) (by omega) (by omega) (by omega), e7] at et
      rw [et]
      refine ⟨hS.k55, ?_⟩
      refine zq_suppose hS hM (by omega) (by omega) (by decide) (by decide) (by decide) (by decide) t0 (by omega) (fun m1 hm1 f1 hs1 => ?_)
      refine g_C ?_
      refine ⟨21, L2 _ k (by omega) (fun M' hM' F' hT2 => ?_) 21 0 m1 (by omega) hm1 (fun c p q1 q2 q3 q4 => by rw [f1 c p q3, F c p q1 q2 q3 q4]) (fun h' i a0 i0 i1 a1 => ?_) (hs1 o D) (by omega)⟩
      · exact ih (k + 1) M' (by omega) hM' F' (fun h' i a0 a1 i0 i1 => hT2 h' i a0 (by omega) i0 i1) (by omega)
      · rw [f1 67 _ (by omega)]
        exact hT' h' i a0 (by omega) i0 i1
  refine u_X9_findBestProbe ?_
  refine g_C ?_
  exact ⟨6, L1 6 0 m (by omega) hm (fun _ _ _ _ _ _ => rfl) (fun h' i a0 a1 _ _ => absurd a1 (by omega)) (by omega)⟩
theorem zz_probe {S : Sh} {m0 : Mm} {K : Int → Int → Mm → Prop} {K1 : Int → Mm → Prop} {n w : Int} (hS : Shp S) (hz : RZ S m0 n) (hn : n ≤ 700) (hK : ∀ (r : Int) (M : Mm), wp_X12_probe S M 336 w (fun r2 M2 => K r r2 M2) → K1 r M) (hk : ∀ (r : Int) (M1 : Mm), RZ S M1 n → K r r M1) : wp_X11_probe S m0 0 w K1 := by
  have hm := hz.inv
  obtain ⟨o, rc, rr⟩ := hz.rule
  have i0 := hz.2.2.2.2.2.2.2.2
  obtain ⟨D, eD⟩ : ∃ D : Int → Int, m0 346 = D := ⟨_, rfl⟩
  have dbD : DB D := by rw [← eD]; exact hz.rd.1.1
  have b3D : D 3 ≤ 8 := by rw [← eD]; exact hz.rd.1.2
  have tlD : TL 4 D m0 := by rw [← eD]; exact hz.tl
  have ttD : TT m0 3 D := by rw [← eD]; exact hz.tt
  have t10 : 0 ≤ D 157 ∧ D 157 ≤ 10 := by rw [← eD]; exact hm.f_346_157
  have hbD : ∀ h : Int, 0 ≤ h → h ≤ 4 → HB D h := fun h h0 h4 => by rw [← eD]; exact HB.of hm h0 h4
  have b4 : 0 ≤ D 4 ∧ D 4 ≤ 5 := by rw [← eD]; exact hm.f_346_4
  have e7 : m0 16 0 = D 7 := by rw [← eD]; exact hz.sr.1.1
  have h16 : m0 16 0 ≤ n := hz.2.2.2.1.1
  have b16 := hm.f_16_0
  have p0 : m0 4 0 = m0 346 0 := hz.tl.1.1
  have no : ∀ r : Int, r = -1 → (m0 346 0 = 0 ∨ ¬ (0 ≤ w ∧ w ≤ 1)) → wp_X12_probe S m0 336 w (fun r2 M2 => K r r2 M2) := by
    intro r er q
    rw [er]
    refine u_X12_probe ?_
    refine ⟨hS.k336, ?_⟩
    refine zs_isDairy hS hm (fun c1 => g_ifF (by decide) ?_) (fun c1 => g_ifT rfl (g_C (hk _ m0 hz)))
    refine g_C ?_
    refine g_C ?_
    refine g_C ?_
    exact zs_in (fun c2 => absurd c2 (q.resolve_left c1)) (fun c2 => g_ifF (by decide) (g_C (hk _ m0 hz)))
  refine u_X11_probe ?_
  refine g_getr 1 3 rfl hS.k0 hm.f_0_1 (by decide) ?_
  refine g_getr 0 4 rfl hS.k3 hm.f_3_0 (by decide) ?_
  refine g_getu 0 rfl hS.k4 (fun v ev => ?_)
  refine g_if (fun q => g_C (hK _ _ (no _ rfl (Or.inl (by omega))))) (fun q => ?_)
  refine g_if (fun q1 => g_C (hK _ _ (no _ rfl (Or.inr (by omega))))) (fun q1 => ?_)
  refine g_C ?_
  refine g_if (fun q2 => ?_) (fun q2 => g_C (hK _ _ (no _ rfl (Or.inr (by omega)))))
  refine g_getr 14 66 rfl hS.k0 hm.f_0_14 (by decide) ?_
  refine ⟨hS.k66, ?_⟩
  refine zq_byTests (o := o) (D := D) hS hm rc dbD b3D tlD ttD t10 i0.1 hbD (fun m1 hm1 f1 => ?_)
  have z1 : RZ S m1 n := hz.keep (hz.1.of hm1) (fun c p q => f1 c p (by unfold KZ at q; omega) (by unfold KZ at q; omega))
  obtain ⟨u, eu⟩ : ∃ u : Int, u = fbT o D (D 4).toNat := ⟨_, rfl⟩
  have vb := fbT_31 (o := o) (D := D) (n := (D 4).toNat) (by omega)
  rw [← eu] at vb ⊢
  have go : ∀ (r : Int) (M : Mm), RZ S M n → RR M o → M 336 23 = 0 → M 346 = D → ((u = 0 → r = -2) ∧ (¬ u = 0 → r = if w = 0 then (bsT (pbA o D u) 20).2 else (bsT (pbA o D u) 20).1)) → wp_X12_probe S M 336 w (fun r2 M2 => K r r2 M2) := by
    intro r M zM rM iM e46 hr
    refine u_X12_probe ?_
    refine ⟨hS.k336, ?_⟩
    refine zs_isDairy hS zM.inv (fun c1 => g_ifF (by decide) ?_) (fun c1 => absurd c1 (by rw [e46, ← eD]; omega))
    refine g_C ?_
    refine g_C ?_
    refine g_C ?_
    refine zs_in (fun c2 => g_ifT (by decide) ?_) (fun c2 => absurd (by omega) c2)
    refine ⟨hS.k336, ?_⟩
    refine zq_fitting (o := o) hS zM.inv rM iM (fun m2 hm2 f2 => ?_)
    rw [e46, ← eu]
    have z2 : RZ S m2 n := zM.keep (zM.1.of hm2) (fun c p q => f2 c p (by unfold KZ at q; omega) (by unfold KZ at q; omega) (by unfold KZ at q; omega))
    refine g_if (fun w1 => ?_) (fun w1 => g_C ?_)
    · refine g_C ?_
      refine g_C ?_
      refine zq_probe12 (o := o) (D := D) hS hm2 (rM.keep (fun c p q => f2 c p (by omega) (by omega) (by omega))) (by rw [f2 336 23 (by omega) (by omega) (by omega)]; exact iM) (by rw [← e46]; exact funext (fun p => f2 346 p (by omega) (by omega) (by omega))) (by omega) (by omega) (fun m3 hm3 f3 => ?_)
      rw [← hr.2 w1]
      exact hk r m3 (zM.keep (zM.1.of hm3) (fun c p q => (f3 c p (by unfold KZ at q; omega) (by unfold KZ at q; omega) (by unfold KZ at q; omega) (by unfold KZ at q; omega)).trans (f2 c p (by unfold KZ at q; omega) (by unfold KZ at q; omega) (by unfold KZ at q; omega))))
    · rw [← hr.1 (Classical.not_not.mp w1)]
      exact hk r m2 z2
  have e46 : m1 346 = D := by rw [← eD]; exact funext (fun p => f1 346 p (by omega) (by omega))
  refine g_if (fun w1 => ?_) (fun w1 => g_C (hK _ _ (go _ m1 z1 (rr.keep (fun c p q => f1 c p (by omega) (by omega))) (by rw [f1 336 23 (by omega) (by omega)]; exact i0.2) e46 ⟨fun _ => rfl, fun z => absurd z w1⟩)))
  refine g_getr 14 66 rfl hS.k0 hm1.f_0_14 (by decide) ?_
  refine ⟨hS.k66, ?_⟩
  refine zq_best (o := o) (D := D) hS hm1 (rc.keep (fun c p q => f1 c p (by omega) (by omega))) dbD b3D (tlD.move dbD b3D (fun p _ _ => f1 _ p (by omega) (by omega)) (fun c p q => f1 _ p (by unfold inT at q; omega) (by unfold inT at q; omega)) (fun p _ => rfl)) (by rw [f1 55 2 (by omega) (by omega)]; exact i0.1) hbD (by rw [f1 16 0 (by omega) (by omega)]; exact e7) (by omega) (by omega) (fun m2 hm2 f2 y4 y3 => ?_)
  have F2 : ∀ c p : Int, ¬ c = 56 → ¬ c = 67 → ¬ (c = 55 ∧ 4 ≤ p) → ¬ (c = 66 ∧ (p = 3 ∨ p = 4)) → m2 c p = m0 c p := fun c p a1 a2 a3 a4 => by rw [f2 c p a1 a2 a3 a4, f1 c p a1 a3]
  have z2 : RZ S m2 n := hz.keep (hz.1.of hm2) (fun c p q => F2 c p (by unfold KZ at q; omega) (by unfold KZ at q; omega) (by unfold KZ at q; omega) (by unfold KZ at q; omega))
  have g2 : ∀ r : Int, ((u = 0 → r = -2) ∧ (¬ u = 0 → r = if w = 0 then (bsT (pbA o D u) 20).2 else (bsT (pbA o D u) 20).1)) → wp_X12_probe S m2 336 w (fun r2 M2 => K r r2 M2) := fun r hr => go r m2 z2 (rr.keep (fun c p q => F2 c p (by omega) (by omega) (by omega) (by omega))) (by rw [F2 336 23 (by omega) (by omega) (by omega) (by omega)]; exact i0.2) (by rw [← eD]; exact funext (fun p => F2 346 p (by omega) (by omega) (by omega) (by omega))) hr
  refine g_if (fun w2 => ?_) (fun w2 => ?_)
  · refine g_getr 14 66 rfl hS.k0 hm2.f_0_14 (by decide) ?_
    refine g_getu 4 rfl hS.k66 (fun r er => ?_)
    exact hK _ _ (g2 r ⟨fun z => absurd z w1, fun _ => by rw [if_neg w2, er, y4]⟩)
  · refine g_getr 14 66 rfl hS.k0 hm2.f_0_14 (by decide) ?_
    refine g_getu 3 rfl hS.k66 (fun r er => ?_)
    exact hK _ _ (g2 r ⟨fun z => absurd z w1, fun _ => by rw [if_pos (Classical.not_not.mp w2), er, y3]⟩)
end
section
/-! MATCH of the reference: all rows one after another -/
theorem pw_b : ∀ b : Nat, b < 6 → ∀ k : Nat, k < 7 → b ^ k ≤ 15625 := by decide +kernel
end
section
/-! WAYS: their HOURS, PLACE by PLACE -/
def ctL (h : Int → Int) (v : Int) : Int := (if h 0 < v then 1 else 0) + (if h 1 < v then 1 else 0) + (if h 2 < v then 1 else 0) + (if h 3 < v then 1 else 0) + (if h 4 < v then 1 else 0) + (if h 5 < v then 1 else 0)
theorem ifL {x v w : Int} (h : w ≤ v) : (if x < w then (1 : Int) else 0) ≤ if x < v then 1 else 0 := by
  by_cases q : x < w
  · rw [if_pos q, if_pos (by omega)]; exact Int.le_refl 1
  · rw [if_neg q]; split <;> decide
theorem ifS {x v : Int} (h : x < v) : (if x < x then (1 : Int) else 0) + 1 ≤ if x < v then 1 else 0 := by
  rw [if_pos h, if_neg (by omega)]; decide
theorem if01 {x v : Int} : 0 ≤ (if x < v then (1 : Int) else 0) ∧ (if x < v then (1 : Int) else 0) ≤ 1 := by split <;> decide
theorem ctL_step {h : Int → Int} {b v : Int} (b0 : 0 ≤ b) (b5 : b ≤ 5) (hv : h b < v) : ctL h (h b) + 1 ≤ ctL h v := by
  have m0 := ifL (x := h 0) (w := h b) (v := v) (by omega)
  have m1 := ifL (x := h 1) (w := h b) (v := v) (by omega)
  have m2 := ifL (x := h 2) (w := h b) (v := v) (by omega)
  have m3 := ifL (x := h 3) (w := h b) (v := v) (by omega)
  have m4 := ifL (x := h 4) (w := h b) (v := v) (by omega)
  have m5 := ifL (x := h 5) (w := h b) (v := v) (by omega)
  have s := ifS hv
  unfold ctL
  rcases (show b = 0 ∨ b = 1 ∨ b = 2 ∨ b = 3 ∨ b = 4 ∨ b = 5 by omega) with e | e | e | e | e | e <;> subst e <;> omega
theorem ctL_0 {h : Int → Int} {v : Int} : 0 ≤ ctL h v := by
  have m0 := if01 (x := h 0) (v := v)
  have m1 := if01 (x := h 1) (v := v)
  have m2 := if01 (x := h 2) (v := v)
  have m3 := if01 (x := h 3) (v := v)
  have m4 := if01 (x := h 4) (v := v)
  have m5 := if01 (x := h 5) (v := v)
  unfold ctL
  omega
/-- how many PLACES are nearer -/
abbrev nrF (g : Int → Int) (c a : Int) : Int := ctL (fun x => g (6 * x + c)) (g (6 * a + c))
theorem Wok.nxt {P : Int} {f g : Int → Int} (w : Wok P f g) {a c : Int} (a0 : 0 ≤ a) (a1 : a < P) (c0 : 0 ≤ c) (c1 : c < P) (n : ¬ a = c) (h : g (6 * a + c) < 1000) : ∃ b : Int, 0 ≤ b ∧ b < P ∧ 0 < f (6 * a + b) ∧ f (6 * a + b) + g (6 * b + c) = g (6 * a + c) ∧ nrF g c b + 1 ≤ nrF g c a := by
  obtain ⟨p6, h0, h1, h2, h3⟩ := w
  obtain ⟨b, b0, b1, r1, r2⟩ := h3 a c a0 a1 c0 c1 n h
  have r3 := h2 a b c a0 a1 b0 b1 c0 c1 r1
  exact ⟨b, b0, b1, r1, by omega, ctL_step (h := fun x => g (6 * x + c)) (b := b) b0 (by omega) (by show g (6 * b + c) < g (6 * a + c); omega)⟩
theorem Wok.far {P : Int} {f g : Int → Int} (w : Wok P f g) (fb : ∀ p : Int, 0 ≤ p → p < 36 → f p ≤ 5) {c : Int} (c0 : 0 ≤ c) (c1 : c < P) : ∀ (n : Nat) (a : Int), 0 ≤ a → a < P → nrF g c a ≤ (n : Int) → g (6 * a + c) < 1000 → g (6 * a + c) ≤ 5 * (n : Int) := by
  have p6 := w.1
  intro n
  induction n with
  | zero =>
    intro a a0 a1 hn h
    by_cases e : a = c
    · rw [e, w.2.1 c c0 c1]; decide
    · obtain ⟨b, b0, b1, r1, r2, r3⟩ := w.nxt a0 a1 c0 c1 e h
      have z : 0 ≤ nrF g c b := ctL_0
      have z2 : nrF g c a ≤ 0 := hn
      omega
  | succ n ih =>
    intro a a0 a1 hn h
    by_cases e : a = c
    · rw [e, w.2.1 c c0 c1]; omega
    · obtain ⟨b, b0, b1, r1, r2, r3⟩ := w.nxt a0 a1 c0 c1 e h
      have q := ih b b0 b1 (by omega) (by omega)
      have q2 := fb (6 * a + b) (by omega) (by omega)
      omega
end
section
/-! WAY and BRINGS of both sides -/
theorem RZ.wk {S : Sh} {M : Mm} {n : Int} (h : RZ S M n) : Wok (M 4 0) (M 5) (M 6) := h.2.2.2.1.2.2.1
theorem RZ.fb {S : Sh} {M : Mm} {n : Int} (h : RZ S M n) : ∀ p : Int, 0 ≤ p → p < 36 → M 5 p ≤ 5 := fun p p0 p1 => (h.inv.a_5 (i := p) p0 p1).2
end
section
/-! RELAY over numbers: rows of HANDS by a table, and one after another -/
def cntF (p : Nat → Bool) : Nat → Int
  | 0 => 0
  | n + 1 => if p n = true then cntF p n + 1 else cntF p n
def sumF (h : Nat → Int) : Nat → Int
  | 0 => 0
  | n + 1 => sumF h n + h n
def mnF (h : Nat → Int) : Nat → Int
  | 0 => 999
  | n + 1 => min (mnF h n) (h n)
theorem cntF_1 {p : Nat → Bool} {n : Nat} (h : p n = true) : cntF p (n + 1) = cntF p n + 1 := if_pos h
theorem cntF_2 {p : Nat → Bool} {n : Nat} (h : ¬ p n = true) : cntF p (n + 1) = cntF p n := if_neg h
theorem cntF_ext {p q : Nat → Bool} : ∀ n : Nat, (∀ x : Nat, x < n → p x = q x) → cntF p n = cntF q n := by
  intro n
  induction n with
  | zero => intro _; rfl
  | succ n ih =>
    intro e
    have a := ih (fun x hx => e x (by omega))
    by_cases z : p n = true
    · rw [cntF_1 z, cntF_1 (by rw [← e n (by omega)]; exact z), a]
    · rw [cntF_2 z, cntF_2 (by rw [← e n (by omega)]; exact z), a]
theorem cntF_add {p : Nat → Bool} {a : Nat} : ∀ b : Nat, cntF p (a + b) = cntF p a + cntF (fun x => p (a + x)) b := by
  intro b
  induction b with
  | zero => exact (Int.add_zero _).symm
  | succ b ih =>
    by_cases z : p (a + b) = true
    · have e1 : cntF p (a + (b + 1)) = cntF p (a + b) + 1 := if_pos z
      have e2 : cntF (fun x => p (a + x)) (b + 1) = cntF (fun x => p (a + x)) b + 1 := if_pos z
      rw [e1, e2, ih]
      omega
    · have e1 : cntF p (a + (b + 1)) = cntF p (a + b) := if_neg z
      have e2 : cntF (fun x => p (a + x)) (b + 1) = cntF (fun x => p (a + x)) b := if_neg z
      rw [e1, e2, ih]
theorem cntF_mul {p : Nat → Bool} {Q : Nat} : ∀ d : Nat, cntF p (d * Q) = sumF (fun e => cntF (fun x => p (e * Q + x)) Q) d := by
  intro d
  induction d with
  | zero => rw [Nat.zero_mul]; rfl
  | succ d ih =>
    rw [Nat.succ_mul, cntF_add, ih]
    rfl
theorem cntF_b {p : Nat → Bool} : ∀ n : Nat, 0 ≤ cntF p n ∧ cntF p n ≤ (n : Int) := by
  intro n
  induction n with
  | zero => exact ⟨Int.le_refl 0, Int.le_refl 0⟩
  | succ n ih =>
    by_cases z : p n = true
    · rw [cntF_1 z]; omega
    · rw [cntF_2 z]; omega
theorem sumF_ext {h k : Nat → Int} : ∀ n : Nat, (∀ x : Nat, x < n → h x = k x) → sumF h n = sumF k n := by
  intro n
  induction n with
  | zero => intro _; rfl
  | succ n ih =>
    intro e
    show sumF h n + h n = sumF k n + k n
    rw [ih (fun x hx => e x (by omega)), e n (by omega)]
/-- rows that come as told, by how many ROADS are left -/
def rwF (H : Nat) (cr : Nat → Nat → Int → Int) (ok : Int → Bool) : Nat → Int → Int
  | 0 => fun s => if ok s = true then 1 else 0
  | r + 1 => fun s => sumF (fun h => rwF H cr ok r (cr r h s)) H
def leF (H : Nat) (cr : Nat → Nat → Int → Int) : Nat → Int → Int
  | 0 => fun s => s
  | r + 1 => fun s => mnF (fun h => leF H cr r (cr r h s)) H
def vrF (H : Nat) (cr : Nat → Nat → Int → Int) : Nat → Int → Nat → Int
  | 0 => fun s _ => s
  | r + 1 => fun s c => vrF H cr r (cr r (c / H ^ r % H) s) c
theorem vr_mod {H : Nat} {cr : Nat → Nat → Int → Int} {c d : Nat} : ∀ (r : Nat) (s : Int), c % H ^ r = d % H ^ r → vrF H cr r s c = vrF H cr r s d := by
  intro r
  induction r with
  | zero => intro s _; rfl
  | succ r ih =>
    intro s h
    rw [Nat.pow_succ] at h
    have e1 : c / H ^ r % H = d / H ^ r % H := by
      rw [← Nat.mod_mul_right_div_self, ← Nat.mod_mul_right_div_self, h]
    have e2 : c % H ^ r = d % H ^ r := by
      rw [← Nat.mod_mul_right_mod c (H ^ r) H, ← Nat.mod_mul_right_mod d (H ^ r) H, h]
    show vrF H cr r (cr r (c / H ^ r % H) s) c = vrF H cr r (cr r (d / H ^ r % H) s) d
    rw [e1]
    exact ih _ e2
theorem vr_blk {H : Nat} {cr : Nat → Nat → Int → Int} {r e x : Nat} {s : Int} (he : e < H) (hx : x < H ^ r) : vrF H cr (r + 1) s (e * H ^ r + x) = vrF H cr r (cr r e s) x := by
  have p : 0 < H ^ r := by omega
  have d1 : (e * H ^ r + x) / H ^ r % H = e := by
    rw [Nat.add_comm, Nat.add_mul_div_right _ _ p, Nat.div_eq_of_lt hx, Nat.zero_add, Nat.mod_eq_of_lt he]
  have d2 : (e * H ^ r + x) % H ^ r = x := Nat.mul_add_mod_of_lt hx
  show vrF H cr r (cr r ((e * H ^ r + x) / H ^ r % H) s) (e * H ^ r + x) = _
  rw [d1]
  exact vr_mod r _ (by rw [d2, Nat.mod_eq_of_lt hx])
theorem rw_cnt {H : Nat} {cr : Nat → Nat → Int → Int} {ok : Int → Bool} : ∀ (r : Nat) (s : Int), cntF (fun c => ok (vrF H cr r s c)) (H ^ r) = rwF H cr ok r s := by
  intro r
  induction r with
  | zero =>
    intro s
    show (if ok s = true then (0 : Int) + 1 else 0) = if ok s = true then 1 else 0
    rfl
  | succ r ih =>
    intro s
    rw [Nat.pow_succ, Nat.mul_comm, cntF_mul]
    show _ = sumF (fun h => rwF H cr ok r (cr r h s)) H
    refine sumF_ext H (fun e he => ?_)
    show cntF (fun x => ok (vrF H cr (r + 1) s (e * H ^ r + x))) (H ^ r) = rwF H cr ok r (cr r e s)
    rw [← ih]
    exact cntF_ext _ (fun x hx => by rw [vr_blk he hx])
theorem rw_0 {H : Nat} {cr : Nat → Nat → Int → Int} {ok : Int → Bool} (r : Nat) (s : Int) : 0 ≤ rwF H cr ok r s ∧ rwF H cr ok r s ≤ ((H ^ r : Nat) : Int) := by
  rw [← rw_cnt]
  exact cntF_b _
end
