/-! YEARS by draws: the rows they make; the reference -/
theorem rem32e {a b : Int} (h1 : 0 ≤ a) (h2 : a ≤ 2147483647) (h3 : 0 < b) (h4 : b ≤ 2147483647) : iRem a b = a % b := by
  have q := div32 h1 h2 h3 h4
  have w := ediv_mul_bd h1 h3
  unfold iDiv o32 at q
  unfold iRem o32
  rw [Int32.toInt_sub, Int32.toInt_mul, q, i32o (by omega) h2, i32o (by omega) h4, Int.bmod_eq_of_le (n := a / b * b) (by omega) (by omega), Int.bmod_eq_of_le (by omega) (by omega), Int.emod_def, Int.mul_comm]
theorem rem64e {a b : Int} (h1 : 0 ≤ a) (h2 : a ≤ 9223372036854775807) (h3 : 0 < b) (h4 : b ≤ 9223372036854775807) : lRem a b = a % b := by
  have q := div64 h1 h2 h3 h4
  have w := ediv_mul_bd h1 h3
  unfold lDiv o64 at q
  unfold lRem o64
  rw [Int64.toInt_sub, Int64.toInt_mul, q, i64o (by omega) h2, i64o (by omega) h4, Int.bmod_eq_of_le (n := a / b * b) (by omega) (by omega), Int.bmod_eq_of_le (by omega) (by omega), Int.emod_def, Int.mul_comm]
def nxX (x : Int) : Int := (x * 1103515245 + 12345) % 2147483648
theorem nxX_b (x : Int) : 0 ≤ nxX x ∧ nxX x ≤ 2147483647 := by unfold nxX; omega
/-- a DRAW mod d -/
def drw (x d : Int) : Int := nxX x / 65536 % d
abbrev cT (D : Int → Int) (h j : Int) : Prop := D (10 + 5 * h + 1) = 0 ∧ (D (35 + 4 * j + 1) < 0 ∧ D (35 + 4 * j + 3) = 0) ∧ D (35 + 4 * j + 0) = D (10 + 5 * h + 0) ∧ bcF (hbD D h) < 2
def goD (f : Int → Int) (s : Dd × Int) (h : Int) : Dd × Int := if s.1 (10 + 5 * h + 1) = 0 then (if 0 < f (6 * s.1 (10 + 5 * h + 0) + drw s.2 (s.1 0)) then (ud (ud s.1 (10 + 5 * h + 1) (f (6 * s.1 (10 + 5 * h + 0) + drw s.2 (s.1 0)))) (10 + 5 * h) (drw s.2 (s.1 0)), nxX s.2) else (s.1, nxX s.2)) else s
def goN (f : Int → Int) (s : Dd × Int) : Nat → Dd × Int
  | 0 => s
  | k + 1 => goD f (goN f s k) k
def tkD (s : Dd × Int) (j : Int) : Dd × Int := if s.1 (35 + 4 * j + 1) < 0 ∧ s.1 (35 + 4 * j + 3) = 0 then (if cT s.1 (drw s.2 (s.1 4)) j then (ud s.1 (35 + 4 * j + 1) (drw s.2 (s.1 4)), nxX s.2) else (s.1, nxX s.2)) else s
def tkN (s : Dd × Int) : Nat → Dd × Int
  | 0 => s
  | k + 1 => tkD (tkN s k) k
def acD (f : Int → Int) (s : Dd × Int) : Dd × Int := if 0 < s.1 4 then tkN (goN f s (s.1 4).toNat) (s.1 5).toNat else goN f s (s.1 4).toNat
/-- an HOUR with its draws, n of them -/
def yhN (o : Option (List Cz)) (f : Int → Int) (s : Dd × Int) : Nat → Dd × Int
  | 0 => s
  | k + 1 => (hrow o 0 (acD f (yhN o f s k)).1, (acD f (yhN o f s k)).2)
/-- what draws and HOURS may change of a row -/
abbrev mu (p : Int) : Prop := p = 7 ∨ (10 ≤ p ∧ p < 35 ∧ (p - 10) % 5 ≤ 2) ∨ (35 ≤ p ∧ p < 51 ∧ ((p - 35) % 4 = 1 ∨ (p - 35) % 4 = 2))
abbrev eM (D E : Dd) : Prop := ∀ p : Int, ¬ mu p → E p = D p
theorem eM.go {f : Int → Int} {D : Dd} {s : Dd × Int} {h : Int} (e : eM D s.1) (h0 : 0 ≤ h) (h4 : h ≤ 4) : eM D (goD f s h).1 := by
  intro p q
  unfold goD
  by_cases a : s.1 (10 + 5 * h + 1) = 0
  · rw [if_pos a]
    by_cases b : 0 < f (6 * s.1 (10 + 5 * h + 0) + drw s.2 (s.1 0))
    · rw [if_pos b]
      show ud (ud s.1 _ _) _ _ p = _
      rw [ud_ne (by unfold mu at q; omega), ud_ne (by unfold mu at q; omega)]
      exact e p q
    · rw [if_neg b]; exact e p q
  · rw [if_neg a]; exact e p q
theorem eM.tk {D : Dd} {s : Dd × Int} {j : Int} (e : eM D s.1) (j0 : 0 ≤ j) (j3 : j ≤ 3) : eM D (tkD s j).1 := by
  intro p q
  unfold tkD
  by_cases a : s.1 (35 + 4 * j + 1) < 0 ∧ s.1 (35 + 4 * j + 3) = 0
  · rw [if_pos a]
    by_cases b : cT s.1 (drw s.2 (s.1 4)) j
    · rw [if_pos b]
      show ud s.1 _ _ p = _
      rw [ud_ne (by unfold mu at q; omega)]
      exact e p q
    · rw [if_neg b]; exact e p q
  · rw [if_neg a]; exact e p q
theorem eM.goN {f : Int → Int} {D : Dd} {s : Dd × Int} (e : eM D s.1) : ∀ k : Nat, k ≤ 5 → eM D (goN f s k).1 := by
  intro k
  induction k with
  | zero => intro _; exact e
  | succ k ih => intro hk; exact (ih (by omega)).go (by omega) (by omega)
theorem eM.tkN {D : Dd} {s : Dd × Int} (e : eM D s.1) : ∀ k : Nat, k ≤ 4 → eM D (tkN s k).1 := by
  intro k
  induction k with
  | zero => intro _; exact e
  | succ k ih => intro hk; exact (ih (by omega)).tk (by omega) (by omega)
theorem eM.ac {f : Int → Int} {D : Dd} {s : Dd × Int} (e : eM D s.1) (b4 : D 4 ≤ 5) (b5 : D 5 ≤ 4) : eM D (acD f s).1 := by
  have e4 := e 4 (by unfold mu; omega)
  have e5 := e 5 (by unfold mu; omega)
  unfold acD
  by_cases a : 0 < s.1 4
  · rw [if_pos a]
    exact (e.goN _ (by omega)).tkN _ (by omega)
  · rw [if_neg a]
    exact e.goN _ (by omega)
theorem eM.hr {o : Option (List Cz)} {i : Int} {D E : Dd} (e : eM D E) (b4 : D 4 ≤ 5) (b5 : D 5 ≤ 4) : eM D (hrow o i E) := by
  intro p q
  have e4 := e 4 (by unfold mu; omega)
  have e5 := e 5 (by unfold mu; omega)
  rw [hrow_e (by unfold mu at q; omega)]
  exact e p q
theorem eM.yh {o : Option (List Cz)} {f : Int → Int} {D : Dd} {s : Dd × Int} (e : eM D s.1) (b4 : D 4 ≤ 5) (b5 : D 5 ≤ 4) : ∀ k : Nat, eM D (yhN o f s k).1 := by
  intro k
  induction k with
  | zero => exact e
  | succ k ih => exact (ih.ac b4 b5).hr b4 b5
theorem acD_7 {f : Int → Int} {s : Dd × Int} (b4 : s.1 4 ≤ 5) (b5 : s.1 5 ≤ 4) : (acD f s).1 7 = s.1 7 := by
  have hg : ∀ k : Nat, k ≤ 5 → (goN f s k).1 7 = s.1 7 := by
    intro k
    induction k with
    | zero => intro _; rfl
    | succ k ih =>
      intro hk
      show (goD f (goN f s k) k).1 7 = _
      unfold goD
      split
      · split
        · show ud (ud _ _ _) _ _ 7 = _
          rw [ud_ne (by omega), ud_ne (by omega)]; exact ih (by omega)
        · exact ih (by omega)
      · exact ih (by omega)
  have ht : ∀ (t : Dd × Int) (k : Nat), k ≤ 4 → (tkN t k).1 7 = t.1 7 := by
    intro t k
    induction k with
    | zero => intro _; rfl
    | succ k ih =>
      intro hk
      show (tkD (tkN t k) k).1 7 = _
      unfold tkD
      split
      · split
        · show ud _ _ _ 7 = _
          rw [ud_ne (by omega)]; exact ih (by omega)
        · exact ih (by omega)
      · exact ih (by omega)
  unfold acD
  split
  · rw [ht _ _ (by omega)]; exact hg _ (by omega)
  · exact hg _ (by omega)
theorem yhN_7 {o : Option (List Cz)} {f : Int → Int} {D : Dd} {s : Dd × Int} (e : eM D s.1) (b4 : D 4 ≤ 5) (b5 : D 5 ≤ 4) : ∀ k : Nat, (yhN o f s k).1 7 = s.1 7 + k := by
  intro k
  induction k with
  | zero => show s.1 7 = s.1 7 + ((0 : Nat) : Int); omega
  | succ k ih =>
    show hrow o 0 (acD f (yhN o f s k)).1 7 = _
    have q := e.yh (o := o) (f := f) b4 b5 k
    have e4 := q 4 (by unfold mu; omega)
    have e5 := q 5 (by unfold mu; omega)
    rw [hrow_7, acD_7 (by omega) (by omega), ih]
    omega
/-- a draw of the reference -/
theorem zy_draw12 {X : Mm} {S : Sh} {m : Mm} {K : Int → Mm → Prop} {d : Int} (hS : Shp S) (hm : Inv X S m) (d0 : 0 < d) (d6 : d ≤ 6) (hk : ∀ M1 : Mm, Inv X S M1 → (∀ c p : Int, ¬ (c = 336 ∧ p = 33) → M1 c p = m c p) → M1 336 33 = nxX (m 336 33) → 0 ≤ drw (m 336 33) d → drw (m 336 33) d < d → K (drw (m 336 33) d) M1) : wp_X12_draw S m 336 d K := by
  have b := hm.f_336_33
  refine u_X12_draw ?_
  refine g_getu 33 rfl hS.k336 (fun x ex => ?_)
  refine g_C ?_
  refine g_LM (by omega) (by omega) ?_
  refine g_C ?_
  refine g_LA (by omega) (by omega) ?_
  refine g_C ?_
  refine ⟨by decide, ?_⟩
  rw [rem64e (by omega) (by omega) (by omega) (by omega)]
  have nb := nxX_b x
  have en : (x * 1103515245 + 12345) % 2147483648 = nxX x := rfl
  rw [en]
  refine g_put 33 rfl hS.k336 (hm.w_336_33 nb.1 nb.2) (fun m1 e1 hm1 => ?_)
  have f1 : ∀ c p : Int, ¬ (c = 336 ∧ p = 33) → m1 c p = m c p := fun c p q => (congrFun (congrFun e1 _) _).trans (up_ne q)
  have y1 : m1 336 33 = nxX x := (congrFun (congrFun e1 _) _).trans (up_at _ _ _ _)
  refine g_getu 33 rfl hS.k336 (fun v ev => ?_)
  rw [y1] at ev
  refine g_C ?_
  refine ⟨by decide, ?_⟩
  rw [div64 (by omega) (by omega) (by omega) (by omega)]
  refine g_C ?_
  refine ⟨by omega, ?_⟩
  rw [rem64e (by omega) (by omega) (by omega) (by omega)]
  have e2 : v / 65536 % d = drw (m 336 33) d := by rw [ev, ex]; rfl
  have c1 := Int.emod_nonneg (v / 65536) (show d ≠ 0 by omega)
  have c2 := Int.emod_lt_of_pos (v / 65536) d0
  rw [e2] at c1 c2 ⊢
  refine g_w32 (by omega) (by omega) ?_
  exact hk m1 hm1 f1 (by rw [y1, ex]) c1 c2
theorem hbD_R {m : Mm} {h : Int} : hbR m h = hbD (m 346) h := rfl
/-- what the draws make of the reference -/
theorem zy_acts12 {X : Mm} {S : Sh} {m0 : Mm} {K : Mm → Prop} {f : Int → Int} {D : Dd} (hS : Shp S) (hm : Inv X S m0) (e0 : eM D (m0 346)) (db : DB D) (b3 : D 3 ≤ 8) (p0 : 0 < D 0) (ro : RO D f) (fb : ∀ i : Int, 0 ≤ i → i < 36 → 0 ≤ f i ∧ f i ≤ 5) (hk : ∀ M1 : Mm, Inv X S M1 → (∀ c p : Int, ¬ c = 346 → ¬ (c = 336 ∧ p = 33) → M1 c p = m0 c p) → (M1 346, M1 336 33) = acD f (m0 346, m0 336 33) → (∀ j : Int, 0 ≤ j → M1 346 (35 + 4 * j + 2) = m0 346 (35 + 4 * j + 2)) → K M1) : wp_X12_actsDrawn S m0 336 K := by
  obtain ⟨b4, b5, _⟩ := id db
  have q4 := e0 4 (by unfold mu; omega)
  have q5 := e0 5 (by unfold mu; omega)
  have b0 := hm.f_346_0
  have q0 := e0 0 (by unfold mu; omega)
  have x0 : m0 346 0 = X 346 0 := hm.g (by decide)
  obtain ⟨s, es⟩ : ∃ s : Dd × Int, s = (m0 346, m0 336 33) := ⟨_, rfl⟩
  have es1 : s.1 = m0 346 := by rw [es]
  rw [← es] at hk
  -- the JUGS
  have L2 : ∀ (l k : Nat) (M : Mm), 0 < m0 346 4 → (k : Int) ≤ m0 346 5 → Inv X S M → (∀ c p : Int, ¬ c = 346 → ¬ (c = 336 ∧ p = 33) → M c p = m0 c p) → (M 346, M 336 33) = tkN (goN f s (s.1 4).toNat) k → (∀ j : Int, 0 ≤ j → M 346 (35 + 4 * j + 2) = m0 346 (35 + 4 * j + 2)) → 5 - k ≤ l → wp_X12_actsDrawn_57 S K l 336 k M := by
    intro l
    induction l with
    | zero => intro k M _ _ _ _ _ _ h; exfalso; omega
    | succ l ih =>
      intro k M p4 k1 hM F eM' J hl
      have e1 : M 346 = (tkN (goN f s (s.1 4).toNat) k).1 := congrArg Prod.fst eM'
      have e2 : M 336 33 = (tkN (goN f s (s.1 4).toNat) k).2 := congrArg Prod.snd eM'
      have eq : eM D (M 346) := by
        rw [e1]
        exact ((show eM D s.1 by rw [es1]; exact e0).goN _ (by rw [es1]; omega)).tkN _ (by omega)
      have m4 := eq 4 (by unfold mu; omega)
      have m5 := eq 5 (by unfold mu; omega)
      refine u_X12_actsDrawn_57 ?_
      refine g_getr 20 346 rfl hS.k336 hM.f_336_20 (by decide) ?_
      refine g_C ?_
      refine g_ldu hS.k346 hS.l346 (by decide) (by decide) (fun v ev => ?_)
      refine g_if (fun q => ?_) (fun q => ?_)
      · refine hk M hM F ?_ J
        unfold acD
        rw [if_pos (by rw [es1]; exact p4), show (s.1 5).toNat = k by rw [es1]; omega]
        exact eM'
      refine g_getr 20 346 rfl hS.k336 hM.f_336_20 (by decide) ?_
      refine g_C ?_
      refine g_ldu hS.k346 hS.l346 (by decide) (by decide) (fun v4 ev4 => ?_)
      refine g_ifF (by omega) ?_
      have nx : ∀ M' : Mm, Inv X S M' → (∀ c p : Int, ¬ c = 346 → ¬ (c = 336 ∧ p = 33) → M' c p = m0 c p) → (M' 346, M' 336 33) = tkD (M 346, M 336 33) k → (∀ j : Int, 0 ≤ j → M' 346 (35 + 4 * j + 2) = m0 346 (35 + 4 * j + 2)) → wp_X12_actsDrawn_113 S (fun a0 a1 M => wp_X12_actsDrawn_57 S K l a0 a1 M) K 336 k M' := by
        intro M' hM' F' e' J'
        refine u_X12_actsDrawn_113 ?_
        refine g_A (by omega) (by omega) ?_
        refine ih (k + 1) M' p4 (by omega) hM' F' ?_ J' (by omega)
        rw [e', eM']
        rfl
      refine ⟨hS.k336, ?_⟩
      refine zt_stands hS hM (by omega) (by omega) (fun st => g_ifT (by decide) ?_) (fun st => g_ifF (by decide) (nx M hM F ?_ J))
      · refine g_getr 20 346 rfl hS.k336 hM.f_336_20 (by decide) ?_
        refine g_C ?_
        refine g_ldu hS.k346 hS.l346 (by decide) (by decide) (fun d ed => ?_)
        subst ed
        refine ⟨hS.k336, ?_⟩
        refine zy_draw12 hS hM (by omega) (by omega) (fun m1 hm1 f1 y1 d0 d1 => ?_)
        have em1 : m1 346 = M 346 := funext (fun p => f1 346 p (by omega))
        have F1 : ∀ c p : Int, ¬ c = 346 → ¬ (c = 336 ∧ p = 33) → m1 c p = m0 c p := fun c p a b => by rw [f1 c p b, F c p a b]
        refine ⟨hS.k336, ?_⟩
        refine zt_takeR hS hm1 d0 (by omega) (by omega) (by omega) (fun ca => g_ifF (by decide) ?_) (fun ca => g_ifT rfl (nx m1 hm1 F1 ?_ (fun j j0 => by rw [em1]; exact J j j0)))
        · unfold StR at ca
          rw [hbD_R, em1] at ca
          refine ⟨hS.k336, ?_⟩
          refine zs_takes hS hm1 (by omega) (by omega) (by omega) (by omega) (fun m2 hm2 f2 y2 => ?_)
          refine nx m2 hm2 (fun c p a b => by rw [f2 c p (by omega), F1 c p a b]) ?_ (fun j j0 => by rw [f2 346 _ (by omega), em1]; exact J j j0)
          have st' : (M 346, M 336 33).1 (35 + 4 * (k : Int) + 1) < 0 ∧ (M 346, M 336 33).1 (35 + 4 * (k : Int) + 3) = 0 := st
          unfold tkD
          rw [if_pos st', if_pos (show cT (M 346) (drw (M 336 33) (M 346 4)) k from ca)]
          refine Prod.ext ?_ ?_
          · funext p
            show m2 346 p = ud (M 346) (35 + 4 * (k : Int) + 1) (drw (M 336 33) (M 346 4)) p
            by_cases z : p = 35 + 4 * (k : Int) + 1
            · rw [z, y2, ud_at]
            · rw [f2 346 p (by omega), ud_ne z, em1]
          · show m2 336 33 = nxX (M 336 33)
            rw [f2 336 33 (by omega), y1]
        · unfold StR at ca
          rw [hbD_R, em1] at ca
          have st' : (M 346, M 336 33).1 (35 + 4 * (k : Int) + 1) < 0 ∧ (M 346, M 336 33).1 (35 + 4 * (k : Int) + 3) = 0 := st
          unfold tkD
          rw [if_pos st', if_neg (show ¬ cT (M 346) (drw (M 336 33) (M 346 4)) k from ca), em1, y1]
      · have st' : ¬ ((M 346, M 336 33).1 (35 + 4 * (k : Int) + 1) < 0 ∧ (M 346, M 336 33).1 (35 + 4 * (k : Int) + 3) = 0) := st
        unfold tkD
        rw [if_neg st']
  -- the HANDS
  have L1 : ∀ (l k : Nat) (M : Mm), (k : Int) ≤ m0 346 4 → Inv X S M → (∀ c p : Int, ¬ c = 346 → ¬ (c = 336 ∧ p = 33) → M c p = m0 c p) → (M 346, M 336 33) = goN f s k → (∀ j : Int, 0 ≤ j → M 346 (35 + 4 * j + 2) = m0 346 (35 + 4 * j + 2)) → 6 - k ≤ l → wp_X12_actsDrawn_2 S K l 336 k M := by
    intro l
    induction l with
    | zero => intro k M _ _ _ _ _ h; exfalso; omega
    | succ l ih =>
      intro k M k1 hM F eM' J hl
      have e1 : M 346 = (goN f s k).1 := congrArg Prod.fst eM'
      have eq : eM D (M 346) := by
        rw [e1]
        exact (show eM D s.1 by rw [es1]; exact e0).goN _ (by omega)
      have m4 := eq 4 (by unfold mu; omega)
      have m5 := eq 5 (by unfold mu; omega)
      have m00 := eq 0 (by unfold mu; omega)
      have roM : RO (M 346) f := ro.same b3 (fun p q => eq p (by unfold mu; omega))
      refine u_X12_actsDrawn_2 ?_
      refine g_getr 20 346 rfl hS.k336 hM.f_336_20 (by decide) ?_
      refine g_C ?_
      refine g_ldu hS.k346 hS.l346 (by decide) (by decide) (fun v ev => ?_)
      refine g_if (fun q => ?_) (fun q => ?_)
      · have ek : (s.1 4).toNat = k := by rw [es1]; omega
        refine g_C ?_
        by_cases p4 : 0 < m0 346 4
        · exact ⟨5, L2 5 0 M p4 (by omega) hM F (by rw [ek]; exact eM') J (by omega)⟩
        · refine ⟨1, ?_⟩
          have fin : K M := by
            refine hk M hM F ?_ J
            unfold acD
            rw [if_neg (by rw [es1]; exact p4), ek]
            exact eM'
          refine u_X12_actsDrawn_57 ?_
          refine g_getr 20 346 rfl hS.k336 hM.f_336_20 (by decide) ?_
          refine g_C ?_
          refine g_ldu hS.k346 hS.l346 (by decide) (by decide) (fun v5 ev5 => ?_)
          refine g_if (fun _ => fin) (fun _ => ?_)
          refine g_getr 20 346 rfl hS.k336 hM.f_336_20 (by decide) ?_
          refine g_C ?_
          refine g_ldu hS.k346 hS.l346 (by decide) (by decide) (fun v4 ev4 => ?_)
          exact g_ifT (by omega) fin
      have nx : ∀ M' : Mm, Inv X S M' → (∀ c p : Int, ¬ c = 346 → ¬ (c = 336 ∧ p = 33) → M' c p = m0 c p) → (M' 346, M' 336 33) = goD f (M 346, M 336 33) k → (∀ j : Int, 0 ≤ j → M' 346 (35 + 4 * j + 2) = m0 346 (35 + 4 * j + 2)) → wp_X12_actsDrawn_49 S (fun a0 a1 M => wp_X12_actsDrawn_2 S K l a0 a1 M) K 336 k M' := by
        intro M' hM' F' e' J'
        refine u_X12_actsDrawn_49 ?_
        refine g_A (by omega) (by omega) ?_
        refine ih (k + 1) M' (by omega) hM' F' ?_ J' (by omega)
        rw [e', eM']
        rfl
      refine ⟨hS.k336, ?_⟩
      refine zt_atR hS hM (by omega) (by omega) (fun at0 => g_ifT (by decide) ?_) (fun at0 => g_ifF (by decide) (nx M hM F ?_ J))
      · have at' : (M 346, M 336 33).1 (10 + 5 * (k : Int) + 1) = 0 := at0
        refine g_getr 20 346 rfl hS.k336 hM.f_336_20 (by decide) ?_
        refine g_C ?_
        refine g_ldu hS.k346 hS.l346 (by decide) (by decide) (fun d ed => ?_)
        subst ed
        refine ⟨hS.k336, ?_⟩
        refine zy_draw12 hS hM (by omega) (by omega) (fun m1 hm1 f1 y1 d0 d1 => ?_)
        have em1 : m1 346 = M 346 := funext (fun p => f1 346 p (by omega))
        have F1 : ∀ c p : Int, ¬ c = 346 → ¬ (c = 336 ∧ p = 33) → m1 c p = m0 c p := fun c p a b => by rw [f1 c p b, F c p a b]
        have ro1 : RO (m1 346) f := by rw [em1]; exact roM
        refine ⟨hS.k336, ?_⟩
        refine zs_canGo hS hm1 ro1 (by omega) (by omega) d0 (by omega) (fun ca => g_ifF (by decide) ?_) (fun ca => g_ifT rfl (nx m1 hm1 F1 ?_ (fun j j0 => by rw [em1]; exact J j j0)))
        · rw [em1] at ca
          refine ⟨hS.k336, ?_⟩
          refine zs_goes hS hm1 ro1 fb (by omega) (by omega) d0 (by omega) (by omega) (fun m2 hm2 f2 y2 y3 => ?_)
          rw [em1] at y2
          refine nx m2 hm2 (fun c p a b => by rw [f2 c p (by omega), F1 c p a b]) ?_ (fun j j0 => by rw [f2 346 _ (by omega), em1]; exact J j j0)
          unfold goD
          rw [if_pos at', if_pos (show 0 < f (6 * M 346 (10 + 5 * (k : Int) + 0) + drw (M 336 33) (M 346 0)) from ca.2)]
          refine Prod.ext ?_ ?_
          · funext p
            show m2 346 p = ud (ud (M 346) (10 + 5 * (k : Int) + 1) (f (6 * M 346 (10 + 5 * (k : Int) + 0) + drw (M 336 33) (M 346 0)))) (10 + 5 * (k : Int)) (drw (M 336 33) (M 346 0)) p
            by_cases z : p = 10 + 5 * (k : Int)
            · rw [z, y3, ud_at]
            · rw [ud_ne z]
              by_cases z2 : p = 10 + 5 * (k : Int) + 1
              · rw [z2, y2, ud_at]
              · rw [f2 346 p (by omega), ud_ne z2, em1]
          · show m2 336 33 = nxX (M 336 33)
            rw [f2 336 33 (by omega), y1]
        · rw [em1] at ca
          unfold goD
          rw [if_pos at', if_neg (show ¬ 0 < f (6 * M 346 (10 + 5 * (k : Int) + 0) + drw (M 336 33) (M 346 0)) from fun z => ca ⟨at0, z⟩), em1, y1]
      · have at' : ¬ (M 346, M 336 33).1 (10 + 5 * (k : Int) + 1) = 0 := at0
        unfold goD
        rw [if_neg at']
  refine u_X12_actsDrawn ?_
  refine g_C ?_
  exact ⟨6, L1 6 0 m0 (by omega) hm (fun _ _ _ _ => rfl) es.symm (fun _ _ => rfl) (by omega)⟩
