/-! RELAY of the class -/
def nxF (f g : Int → Int) (P c a : Int) : Int := if a = c then c else npF f g a c P.toNat 0
def plF (f g : Int → Int) (P c a : Int) : Nat → Int
  | 0 => a
  | n + 1 => nxF f g P c (plF f g P c a n)
theorem plF_s {f g : Int → Int} {P c a : Int} : ∀ n : Nat, plF f g P c (nxF f g P c a) n = plF f g P c a (n + 1) := by
  intro n
  induction n with
  | zero => rfl
  | succ n ih =>
    show nxF f g P c (plF f g P c (nxF f g P c a) n) = nxF f g P c (plF f g P c a (n + 1))
    rw [ih]
def lhF (f g : Int → Int) (P c a : Int) (i : Nat) : Int := f (6 * plF f g P c a i + plF f g P c a (i + 1))
def lbF (f g : Int → Int) (P c a t : Int) : Nat → Int
  | 0 => t
  | n + 1 => lbF f g P c a t n + lhF f g P c a n
def LgP (f g : Int → Int) (P c a : Int) (n : Nat) : Prop := plF f g P c a n = c ∧ ∀ i : Nat, i < n → ¬ plF f g P c a i = c ∧ (0 ≤ plF f g P c a i ∧ plF f g P c a i < P) ∧ g (6 * plF f g P c a i + c) < 1000 ∧ (0 ≤ plF f g P c a (i + 1) ∧ plF f g P c a (i + 1) < P) ∧ (1 ≤ lhF f g P c a i ∧ lhF f g P c a i ≤ 5) ∧ plF f g P c a (i + 1) = npF f g (plF f g P c a i) c P.toNat 0
theorem legs_at {P c : Int} {f g : Int → Int} (w : Wok P f g) (fb : ∀ p : Int, 0 ≤ p → p < 36 → f p ≤ 5) (c0 : 0 ≤ c) (c1 : c < P) : ∀ (m : Nat) (a : Int), 0 ≤ a → a < P → nrF g c a ≤ (m : Int) → g (6 * a + c) < 1000 → ∃ n : Nat, n ≤ m ∧ LgP f g P c a n := by
  have p6 := w.1
  intro m
  induction m with
  | zero =>
    intro a a0 a1 hn h
    by_cases e : a = c
    · exact ⟨0, Nat.le_refl 0, e, fun i hi => absurd hi (Nat.not_lt_zero i)⟩
    · obtain ⟨b, b0, b1, r1, r2, r3⟩ := w.nxt a0 a1 c0 c1 e h
      have z : 0 ≤ nrF g c b := ctL_0
      have z2 : nrF g c a ≤ 0 := hn
      omega
  | succ m ih =>
    intro a a0 a1 hn h
    by_cases e : a = c
    · exact ⟨0, Nat.zero_le _, e, fun i hi => absurd hi (Nat.not_lt_zero i)⟩
    · obtain ⟨x, x0, x1, r1, r2, r3⟩ := w.nxt a0 a1 c0 c1 e h
      obtain ⟨i1, i2, i3, i4⟩ := npF_at (f := f) (g := g) (a := a) (c := c) (x := x) ⟨r1, r2⟩ P.toNat 0 x0 (by omega)
      obtain ⟨b, eb⟩ : ∃ b : Int, b = npF f g a c P.toNat 0 := ⟨_, rfl⟩
      rw [← eb] at i1 i2 i3 i4
      have b1 : b < P := by omega
      have en : nxF f g P c a = b := by
        unfold nxF
        rw [if_neg e, ← eb]
      have r4 : nrF g c b + 1 ≤ nrF g c a := ctL_step (h := fun x => g (6 * x + c)) (b := b) i1 (by omega) (by show g (6 * b + c) < g (6 * a + c); omega)
      obtain ⟨n, n1, l1, l2⟩ := ih b i1 b1 (by omega) (by omega)
      have sh : ∀ k : Nat, plF f g P c b k = plF f g P c a (k + 1) := fun k => by rw [← en]; exact plF_s k
      refine ⟨n + 1, by omega, by rw [← sh]; exact l1, fun i hi => ?_⟩
      rcases i with _ | i
      · have f5 := fb (6 * a + b) (by omega) (by omega)
        have e1 : plF f g P c a (0 + 1) = b := en
        have e2 : lhF f g P c a 0 = f (6 * a + b) := by
          show f (6 * a + plF f g P c a (0 + 1)) = _
          rw [e1]
        refine ⟨e, ⟨a0, a1⟩, h, ?_, ?_, ?_⟩
        · rw [e1]; exact ⟨i1, b1⟩
        · rw [e2]; omega
        · rw [e1, eb]; rfl
      · have q := l2 i (by omega)
        have e2 : lhF f g P c b i = lhF f g P c a (i + 1) := by
          unfold lhF
          rw [sh, sh]
        rw [sh, sh, e2] at q
        exact q
theorem lb_b {P c a t : Int} {f g : Int → Int} {n : Nat} (l : LgP f g P c a n) : ∀ i : Nat, i ≤ n → t ≤ lbF f g P c a t i ∧ lbF f g P c a t i ≤ t + 5 * (i : Int) := by
  intro i
  induction i with
  | zero => intro _; exact ⟨Int.le_refl t, by show t ≤ t + 5 * 0; omega⟩
  | succ i ih =>
    intro hi
    have q := ih (by omega)
    have z := (l.2 i (by omega)).2.2.2.2.1
    show t ≤ lbF f g P c a t i + lhF f g P c a i ∧ lbF f g P c a t i + lhF f g P c a i ≤ t + 5 * ((i + 1 : Nat) : Int)
    omega
abbrev sF (m M : Mm) : Prop := ∀ c p : Int, ¬ c = 59 → ¬ c = 60 → ¬ (c = 58 ∧ (p = 6 ∨ p = 7)) → M c p = m c p
theorem zq_setOut11 {X : Mm} {S : Sh} {m : Mm} {K : Mm → Prop} {P c a t j : Int} {n : Nat} (hS : Shp S) (hm : Inv X S m) (eP : m 4 0 = P) (p6 : P ≤ 6) (c0 : 0 ≤ c) (c1 : c < P) (l : LgP (m 5) (m 6) P c a n) (n5 : n ≤ 5) (a0 : 0 ≤ a) (a1 : a < P) (j0 : 0 ≤ j) (j3 : j ≤ 3) (t0 : 0 ≤ t) (t9 : t ≤ 900) (hk : ∀ M1 : Mm, Inv X S M1 → sF m M1 → M1 58 6 = (n : Int) → M1 58 7 = j → (∀ i : Nat, i < n → M1 59 i = lhF (m 5) (m 6) P c a i ∧ M1 60 i = lbF (m 5) (m 6) P c a t i) → K M1) : wp_X2_setOut S m 58 j a c t K := by
  have L : ∀ (q k : Nat) (M : Mm), k ≤ n → Inv X S M → sF m M → M 58 6 = (k : Int) → M 58 7 = j → (∀ i : Nat, i < k → M 59 i = lhF (m 5) (m 6) P c a i ∧ M 60 i = lbF (m 5) (m 6) P c a t i) → n + 1 - k ≤ q → wp_X2_setOut_17 S K q 58 c (plF (m 5) (m 6) P c a k) (lbF (m 5) (m 6) P c a t k) M := by
    intro q
    induction q with
    | zero => intro k M k1 _ _ _ _ _ hl; exfalso; omega
    | succ q ih =>
      intro k M k1 hM F y6 y7 T hl
      have lb := lb_b (t := t) l k k1
      refine u_X2_setOut_17 ?_
      refine g_getu 6 rfl hS.k58 (fun v ev => ?_)
      rw [y6] at ev
      refine g_C ?_
      have fin : k = n → K M := fun e => by
        rw [e] at y6 T
        exact hk M hM F y6 y7 T
      refine g_if (fun z => fin (by omega)) (fun z => ?_)
      refine g_if (fun z2 => ?_) (fun z2 => ?_)
      · by_cases e : k = n
        · exact fin e
        · exact absurd z2 (l.2 k (by omega)).1
      have kn : k < n := by
        by_cases e : k = n
        · rw [e] at z2
          exact absurd l.1 z2
        · omega
      obtain ⟨q1, q2, q3, q4, q5, q6⟩ := l.2 k kn
      have G5 : M 5 = m 5 := funext (fun p => F 5 p (by omega) (by omega) (by omega))
      have G6 : M 6 = m 6 := funext (fun p => F 6 p (by omega) (by omega) (by omega))
      refine g_getr 1 4 rfl hS.k58 hM.f_58_1 (by decide) ?_
      refine ⟨hS.k4, ?_⟩
      refine zq_next11 (P := P) hS hM (by rw [F 4 0 (by omega) (by omega) (by omega)]; exact eP) p6 q2.1 (by omega) c0 (by omega) ?_
      rw [G5, G6, ← q6]
      refine g_C ?_
      refine g_ifT (by omega) ?_
      refine g_getr 2 59 rfl hS.k58 hM.f_58_2 (by decide) ?_
      refine g_getu 6 rfl hS.k58 (fun v2 ev2 => ?_)
      rw [y6] at ev2
      rw [ev2]
      refine g_getr 1 4 rfl hS.k58 hM.f_58_1 (by decide) ?_
      refine ⟨hS.k4, ?_⟩
      refine zq_road11 hS hM q2.1 (by omega) q4.1 (by omega) ?_
      rw [G5]
      have eh : m 5 (6 * plF (m 5) (m 6) P c a k + plF (m 5) (m 6) P c a (k + 1)) = lhF (m 5) (m 6) P c a k := rfl
      rw [eh]
      refine g_st hS.k59 hS.l59 (by omega) (by omega) (hM.wa_59 (by omega) (by omega) (by omega) (by omega)) (fun m1 e1 hm1 => ?_)
      have f1 : ∀ c p : Int, ¬ (c = 59 ∧ p = (k : Int)) → m1 c p = M c p := fun c p q => (congrFun (congrFun e1 _) _).trans (up_ne q)
      have x1 : m1 59 k = lhF (m 5) (m 6) P c a k := (congrFun (congrFun e1 _) _).trans (up_at _ _ _ _)
      refine g_getr 3 60 rfl hS.k58 hm1.f_58_3 (by decide) ?_
      refine g_getu 6 rfl hS.k58 (fun v3 ev3 => ?_)
      rw [f1 58 6 (by omega), y6] at ev3
      rw [ev3]
      refine g_C ?_
      refine g_Oe (fun v4 ev4 => ?_)
      refine g_st hS.k60 hS.l60 (by omega) (by omega) (hm1.wa_60 (by omega) (by omega) (by omega) (by omega)) (fun m2 e2 hm2 => ?_)
      have f2 : ∀ c p : Int, ¬ (c = 60 ∧ p = (k : Int)) → m2 c p = m1 c p := fun c p q => (congrFun (congrFun e2 _) _).trans (up_ne q)
      have x2 : m2 60 k = v4 := (congrFun (congrFun e2 _) _).trans (up_at _ _ _ _)
      refine g_getr 2 59 rfl hS.k58 hm2.f_58_2 (by decide) ?_
      refine g_getu 6 rfl hS.k58 (fun v5 ev5 => ?_)
      rw [f2 58 6 (by omega), f1 58 6 (by omega), y6] at ev5
      rw [ev5]
      refine g_ldu hS.k59 hS.l59 (by omega) (by omega) (fun v6 ev6 => ?_)
      rw [f2 59 k (by omega), x1] at ev6
      rw [ev6]
      refine g_A (by omega) (by omega) ?_
      refine g_getu 6 rfl hS.k58 (fun v7 ev7 => ?_)
      rw [f2 58 6 (by omega), f1 58 6 (by omega), y6] at ev7
      refine g_C ?_
      refine g_A (by omega) (by omega) ?_
      refine g_put 6 rfl hS.k58 (hm2.w_58_6 (by omega) (by omega)) (fun m3 e3 hm3 => ?_)
      have f3 : ∀ c p : Int, ¬ (c = 58 ∧ p = 6) → m3 c p = m2 c p := fun c p q => (congrFun (congrFun e3 _) _).trans (up_ne q)
      have x3 : m3 58 6 = v7 + 1 := (congrFun (congrFun e3 _) _).trans (up_at _ _ _ _)
      refine ih (k + 1) m3 (by omega) hm3 (fun c' p b1 b2 b3 => by rw [f3 c' p (by omega), f2 c' p (by omega), f1 c' p (by omega), F c' p b1 b2 b3]) (x3.trans (by omega)) (by rw [f3 58 7 (by decide), f2 58 7 (by omega), f1 58 7 (by omega)]; exact y7) (fun i hi => ?_) (by omega)
      by_cases e : i = k
      · rw [e]
        refine ⟨?_, ?_⟩
        · rw [f3 59 _ (by omega), f2 59 _ (by omega), x1]
        · rw [f3 60 _ (by omega), x2, ev4]
          omega
      · have ti := T i (by omega)
        rw [f3 59 _ (by omega), f2 59 _ (by omega), f1 59 _ (by omega), f3 60 _ (by omega), f2 60 _ (by omega), f1 60 _ (by omega)]
        exact ti
  refine u_X2_setOut ?_
  refine g_put 7 rfl hS.k58 (hm.w_58_7 j0 j3) (fun m1 e1 hm1 => ?_)
  have f1 : ∀ c p : Int, ¬ (c = 58 ∧ p = 7) → m1 c p = m c p := fun c p q => (congrFun (congrFun e1 _) _).trans (up_ne q)
  have x1 : m1 58 7 = j := (congrFun (congrFun e1 _) _).trans (up_at _ _ _ _)
  refine g_C ?_
  refine g_put 6 rfl hS.k58 (hm1.w_58_6 (by decide) (by decide)) (fun m2 e2 hm2 => ?_)
  have f2 : ∀ c p : Int, ¬ (c = 58 ∧ p = 6) → m2 c p = m1 c p := fun c p q => (congrFun (congrFun e2 _) _).trans (up_ne q)
  have x2 : m2 58 6 = 0 := (congrFun (congrFun e2 _) _).trans (up_at _ _ _ _)
  exact ⟨n + 1, L (n + 1) 0 m2 (by omega) hm2 (fun c' p b1 b2 b3 => by rw [f2 c' p (by omega), f1 c' p (by omega)]) x2 (by rw [f2 58 7 (by decide)]; exact x1) (fun i hi => absurd hi (Nat.not_lt_zero i)) (by omega)⟩
/-- what a HAND makes of a JUG on the ROAD that leaves r ROADS -/
def crR (o : Option (List Cz)) (D : Int → Int) (j : Int) (lh lb : Nat → Int) (n : Nat) (r h : Nat) (s : Int) : Int := (hT o D (h : Int) j 1 (lb (n - 1 - r)) s (lh (n - 1 - r)).toNat).1
theorem crR_b {o : Option (List Cz)} {D : Int → Int} {j : Int} {lh lb : Nat → Int} {n H : Nat} (hb : ∀ h : Int, 0 ≤ h → h ≤ 4 → HB D h) (hH : H ≤ 5) : crB H (crR o D j lh lb n) := fun r h s hh s0 s9 => (hT_b (hb h (by omega) (by omega)) s0 s9 _).1
def okR (lo hi : Int) (s : Int) : Bool := decide (lo ≤ s ∧ s ≤ hi)
/-- what holds of the class while a RELAY is worked out -/
def RvE (S : Sh) (o : Option (List Cz)) (D : Int → Int) (n : Nat) (lh lb : Nat → Int) (j lo hi : Int) (M : Mm) : Prop := RC S M o ∧ TL 4 D M ∧ M 55 2 = 0 ∧ M 58 6 = (n : Int) ∧ M 58 7 = j ∧ M 58 9 = lo ∧ M 58 10 = hi ∧ ∀ i : Nat, i < n → M 59 i = lh i ∧ M 60 i = lb i
abbrev vF (m M : Mm) : Prop := ∀ c p : Int, ¬ c = 56 → ¬ (c = 55 ∧ 4 ≤ p) → ¬ c = 61 → ¬ c = 62 → M c p = m c p
theorem RvE.keep {S : Sh} {o : Option (List Cz)} {D : Int → Int} {n : Nat} {lh lb : Nat → Int} {j lo hi : Int} {m M : Mm} (e : RvE S o D n lh lb j lo hi m) (db : DB D) (b3 : D 3 ≤ 8) (F : vF m M) : RvE S o D n lh lb j lo hi M := by
  obtain ⟨e1, e2, e3, e4, e5, e6, e7, e8⟩ := e
  refine ⟨e1.keep (fun c p q => F c p (by omega) (by omega) (by omega) (by omega)), e2.move db b3 (fun p _ _ => F _ p (by omega) (by omega) (by omega) (by omega)) (fun c p q => F _ p (by unfold inT at q; omega) (by unfold inT at q; omega) (by unfold inT at q; omega) (by unfold inT at q; omega)) (fun p _ => rfl), ?_, ?_, ?_, ?_, ?_, fun i hi => ?_⟩
  · rw [F 55 2 (by omega) (by omega) (by omega) (by omega)]; exact e3
  · rw [F 58 6 (by omega) (by omega) (by omega) (by omega)]; exact e4
  · rw [F 58 7 (by omega) (by omega) (by omega) (by omega)]; exact e5
  · rw [F 58 9 (by omega) (by omega) (by omega) (by omega)]; exact e6
  · rw [F 58 10 (by omega) (by omega) (by omega) (by omega)]; exact e7
  · rw [F 59 i (by omega) (by omega) (by omega) (by omega), F 60 i (by omega) (by omega) (by omega) (by omega)]
    exact e8 i hi
/-- what does not change at all in a RELAY -/
def RvC (D : Int → Int) (H n : Nat) (lh lb : Nat → Int) (j : Int) : Prop := DB D ∧ D 3 ≤ 8 ∧ (∀ h : Int, 0 ≤ h → h ≤ 4 → HB D h) ∧ (H : Int) = D 4 ∧ n ≤ 5 ∧ (0 ≤ j ∧ j ≤ 3) ∧ ∀ i : Nat, i < n → (0 ≤ lh i ∧ lh i ≤ 5) ∧ 0 ≤ lb i ∧ lb i ≤ 950
theorem zq_carried {X : Mm} {S : Sh} {m : Mm} {K : Int → Mm → Prop} {o : Option (List Cz)} {D : Int → Int} {H n k h : Nat} {lh lb : Nat → Int} {j lo hi s : Int} (hS : Shp S) (hm : Inv X S m) (cc : RvC D H n lh lb j) (e : RvE S o D n lh lb j lo hi m) (kn : k < n) (hH : h < H) (s0 : 0 ≤ s) (s9 : s ≤ 999) (hk : ∀ M1 : Mm, Inv X S M1 → (∀ c p : Int, ¬ c = 56 → ¬ (c = 55 ∧ 4 ≤ p) → M1 c p = m c p) → K (crR o D j lh lb n (n - 1 - k) h s) M1) : wp_X2_carried S m 58 k h s K := by
  obtain ⟨db, b3, hb, eH, n5, bj, bl⟩ := cc
  obtain ⟨e1, e2, e3, e4, e5, e6, e7, e8⟩ := id e
  have b4 := db.1
  obtain ⟨e59, e60⟩ := e8 k kn
  have bk := bl k kn
  have ek : n - 1 - (n - 1 - k) = k := by omega
  unfold crR at hk
  rw [ek] at hk
  refine u_X2_carried ?_
  refine g_getr 0 55 rfl hS.k58 hm.f_58_0 (by decide) ?_
  refine g_getu 7 rfl hS.k58 (fun v1 ev1 => ?_)
  rw [e5] at ev1
  rw [ev1]
  refine g_getr 3 60 rfl hS.k58 hm.f_58_3 (by decide) ?_
  refine g_ldu hS.k60 hS.l60 (by omega) (by omega) (fun v2 ev2 => ?_)
  rw [e60] at ev2
  rw [ev2]
  refine ⟨hS.k55, ?_⟩
  refine zq_suppose hS hm (by omega) (by omega) bj.1 bj.2 s0 s9 bk.2.1 (by omega) (fun m1 hm1 f1 hs1 => ?_)
  refine g_getr 0 55 rfl hS.k58 hm1.f_58_0 (by decide) ?_
  refine g_C ?_
  refine g_put 10 rfl hS.k55 (hm1.w_55_10 (by decide) (by decide)) (fun m2 em2 hm2 => ?_)
  have f2 : ∀ c p : Int, ¬ (c = 55 ∧ p = 10) → m2 c p = m1 c p := fun c p q => (congrFun (congrFun em2 _) _).trans (up_ne q)
  have x2 : m2 55 10 = 1 := (congrFun (congrFun em2 _) _).trans (up_at _ _ _ _)
  have F2 : ∀ c p : Int, ¬ c = 56 → ¬ (c = 55 ∧ 4 ≤ p) → m2 c p = m c p := fun c p a1 a2 => by rw [f2 c p (by omega), f1 c p a2]
  have hs2 : HS m2 o D (h : Int) j 1 (lb k) s 0 := by
    obtain ⟨y4, y5, y6, y7, y8, y10, y11⟩ := hs1 o D
    refine ⟨?_, ?_, ?_, ?_, ?_, x2, ?_⟩
    · rw [f2 55 4 (by decide)]; exact y4
    · rw [f2 55 5 (by decide)]; exact y5
    · rw [f2 55 6 (by decide)]; exact y6
    · rw [f2 55 7 (by decide)]; exact y7
    · rw [f2 55 8 (by decide)]; exact y8
    · rw [f2 55 11 (by decide)]; exact y11
  refine g_getr 0 55 rfl hS.k58 hm2.f_58_0 (by decide) ?_
  refine g_getr 2 59 rfl hS.k58 hm2.f_58_2 (by decide) ?_
  refine g_ldu hS.k59 hS.l59 (by omega) (by omega) (fun v3 ev3 => ?_)
  rw [F2 59 k (by omega) (by omega), e59] at ev3
  rw [ev3]
  refine ⟨hS.k55, ?_⟩
  refine zq_holdFor (o := o) (D := D) (k := 0) hS hm2 (e1.keep (fun c p q => F2 c p (by omega) (by omega))) (e2.move db b3 (fun p _ _ => F2 _ p (by omega) (by omega)) (fun c p q => F2 _ p (by unfold inT at q; omega) (by unfold inT at q; omega)) (fun p _ => rfl)) (by rw [F2 55 2 (by omega) (by omega)]; exact e3) (hb h (by omega) (by omega)) (by omega) (by omega) (by omega) s0 s9 bk.2.1 bk.1.1 (by omega) hs2 (fun m3 hm3 f3 hs3 => ?_)
  rw [Nat.zero_add] at hs3
  have y6 := hs3.2.2.1
  refine g_getr 0 55 rfl hS.k58 hm3.f_58_0 (by decide) ?_
  refine g_getu 6 rfl hS.k55 (fun v4 ev4 => ?_)
  rw [y6] at ev4
  rw [ev4]
  exact hk m3 hm3 (fun c p a1 a2 => by rw [f3 c p a1 a2, F2 c p a1 a2])
/-- the table: what stands in it is right, and what comes of it stands there too -/
def VS (o : Option (List Cz)) (D : Int → Int) (H n : Nat) (lh lb : Nat → Int) (j lo hi : Int) (M : Mm) : Prop := ∀ (k : Nat) (s : Int), k ≤ n → 0 ≤ s → s ≤ 999 → M 61 ((k : Int) * 1000 + s) = -1 ∨ (M 61 ((k : Int) * 1000 + s) = rwF H (crR o D j lh lb n) (okR lo hi) (n - k) s ∧ M 62 ((k : Int) * 1000 + s) = leF H (crR o D j lh lb n) (n - k) s ∧ (k < n → ∀ h : Nat, h < H → ¬ M 61 (((k : Int) + 1) * 1000 + crR o D j lh lb n (n - 1 - k) h s) = -1))
abbrev MO (m M : Mm) : Prop := ∀ x : Int, ¬ m 61 x = -1 → M 61 x = m 61 x ∧ M 62 x = m 62 x
theorem rw_31 {H : Nat} {cr : Nat → Nat → Int → Int} {ok : Int → Bool} {r : Nat} {s : Int} (hH : H ≤ 5) (hr : r ≤ 5) : 0 ≤ rwF H cr ok r s ∧ rwF H cr ok r s ≤ 15625 := by
  have a := rw_0 (H := H) (cr := cr) (ok := ok) r s
  have b := pw_b H (by omega) r (by omega)
  omega
/-- one more place of the table -/
theorem VS.put {o : Option (List Cz)} {D : Int → Int} {H n k : Nat} {lh lb : Nat → Int} {j lo hi s : Int} {m M : Mm} (hH : H ≤ 5) (n5 : n ≤ 5) (v : VS o D H n lh lb j lo hi m) (kn : k ≤ n) (s0 : 0 ≤ s) (s9 : s ≤ 999) (F : ∀ x : Int, ¬ x = (k : Int) * 1000 + s → M 61 x = m 61 x ∧ M 62 x = m 62 x) (y1 : M 61 ((k : Int) * 1000 + s) = rwF H (crR o D j lh lb n) (okR lo hi) (n - k) s) (y2 : M 62 ((k : Int) * 1000 + s) = leF H (crR o D j lh lb n) (n - k) s) (ch : k < n → ∀ h : Nat, h < H → ¬ m 61 (((k : Int) + 1) * 1000 + crR o D j lh lb n (n - 1 - k) h s) = -1) : VS o D H n lh lb j lo hi M ∧ ¬ M 61 ((k : Int) * 1000 + s) = -1 := by
  have rb := rw_31 (cr := crR o D j lh lb n) (ok := okR lo hi) (r := n - k) (s := s) hH (by omega)
  have nn : ∀ x : Int, ¬ m 61 x = -1 → ¬ M 61 x = -1 := fun x hx => by
    by_cases e : x = (k : Int) * 1000 + s
    · rw [e, y1]; omega
    · rw [(F x e).1]; exact hx
  refine ⟨fun k' s' kn' s0' s9' => ?_, by rw [y1]; omega⟩
  by_cases e : (k' : Int) * 1000 + s' = (k : Int) * 1000 + s
  · have e1 : k' = k := by omega
    have e2 : s' = s := by omega
    subst e1 e2
    exact Or.inr ⟨y1, y2, fun q h hh => nn _ (ch q h hh)⟩
  · rw [(F _ e).1, (F _ e).2]
    rcases v k' s' kn' s0' s9' with z | ⟨z1, z2, z3⟩
    · exact Or.inl z
    · exact Or.inr ⟨z1, z2, fun q h hh => nn _ (z3 q h hh)⟩
theorem zq_visit0 {X : Mm} {S : Sh} {m : Mm} {K : Mm → Prop} {o : Option (List Cz)} {D : Int → Int} {H n : Nat} {lh lb : Nat → Int} {j lo hi s : Int} (hS : Shp S) (hm : Inv X S m) (cc : RvC D H n lh lb j) (e : RvE S o D n lh lb j lo hi m) (v : VS o D H n lh lb j lo hi m) (kn : 5 ≤ n) (s0 : 0 ≤ s) (s9 : s ≤ 999) (hk : ∀ M1 : Mm, Inv X S M1 → vF m M1 → VS o D H n lh lb j lo hi M1 → MO m M1 → ¬ M1 61 (5 * 1000 + s) = -1 → K M1) : wp_X2_visit_d0 S m 58 5 s K := by
  have n5 := cc.2.2.2.2.1
  have eH := cc.2.2.2.1
  have b4 := cc.1.1
  have hH : H ≤ 5 := by omega
  obtain ⟨e1, e2, e3, e4, e5, e6, e7, e8⟩ := id e
  refine u_X2_visit_d0 ?_
  refine g_C ?_
  refine g_M (by decide) (by decide) ?_
  refine g_A (by omega) (by omega) ?_
  refine g_C ?_
  refine g_ifF (by decide) ?_
  refine g_getr 4 61 rfl hS.k58 hm.f_58_4 (by decide) ?_
  refine g_ldu hS.k61 hS.l61 (by omega) (by omega) (fun v1 ev1 => ?_)
  refine g_C ?_
  refine g_if (fun z => ?_) (fun z => hk m hm (fun _ _ _ _ _ _ => rfl) v (fun _ _ => ⟨rfl, rfl⟩) (by rw [← ev1]; exact z))
  rw [ev1] at z
  refine g_getu 6 rfl hS.k58 (fun v2 ev2 => ?_)
  rw [e4] at ev2
  have put : ∀ (a b : Int) (M : Mm) (Q : Mm → Prop), Inv X S M → vF m M → VS o D H n lh lb j lo hi M → MO m M → a = rwF H (crR o D j lh lb n) (okR lo hi) (n - 5) s → b = leF H (crR o D j lh lb n) (n - 5) s → 0 ≤ b → b ≤ 999 → (5 < n → ∀ h : Nat, h < H → ¬ M 61 (((5 : Nat) : Int) * 1000 + 1000 + crR o D j lh lb n (n - 1 - 5) h s) = -1) → (∀ M1 : Mm, Inv X S M1 → vF m M1 → VS o D H n lh lb j lo hi M1 → MO m M1 → ¬ M1 61 (5 * 1000 + s) = -1 → Q M1) → wSt S M 61 14 (5 * 1000 + s) a fun M1 => wGetR S M1 58 2 5 fun v19 => wSt S M1 v19 14 (5 * 1000 + s) b fun M2 => Q M2 := by
    intro a b M Q hM F vM mo ea eb b0 b9 ch hq
    have rb := rw_31 (cr := crR o D j lh lb n) (ok := okR lo hi) (r := n - 5) (s := s) hH (by omega)
    rw [← ea] at rb
    refine g_st hS.k61 hS.l61 (by omega) (by omega) (hM.wa_61 (by omega) (by omega) (by omega) (by omega)) (fun m1 em1 hm1 => ?_)
    have f1 : ∀ c p : Int, ¬ (c = 61 ∧ p = 5 * 1000 + s) → m1 c p = M c p := fun c p q => (congrFun (congrFun em1 _) _).trans (up_ne q)
    have x1 : m1 61 (5 * 1000 + s) = a := (congrFun (congrFun em1 _) _).trans (up_at _ _ _ _)
    refine g_getr 5 62 rfl hS.k58 hm1.f_58_5 (by decide) ?_
    refine g_st hS.k62 hS.l62 (by omega) (by omega) (hm1.wa_62 (by omega) (by omega) (by omega) (by omega)) (fun m2 em2 hm2 => ?_)
    have f2 : ∀ c p : Int, ¬ (c = 62 ∧ p = 5 * 1000 + s) → m2 c p = m1 c p := fun c p q => (congrFun (congrFun em2 _) _).trans (up_ne q)
    have x2 : m2 62 (5 * 1000 + s) = b := (congrFun (congrFun em2 _) _).trans (up_at _ _ _ _)
    have G : ∀ x : Int, ¬ x = 5 * 1000 + s → m2 61 x = M 61 x ∧ m2 62 x = M 62 x := fun x hx => ⟨by rw [f2 61 x (by omega), f1 61 x (by omega)], by rw [f2 62 x (by omega), f1 62 x (by omega)]⟩
    obtain ⟨w1, w2⟩ := VS.put (k := 5) (M := m2) hH n5 vM kn s0 s9 G (by rw [f2 61 _ (by omega)]; exact x1.trans ea) (x2.trans eb) (fun q h hh => by
      have c1 := ch q h hh
      rw [show ((5 : Nat) : Int) * 1000 + 1000 = (((5 : Nat) : Int) + 1) * 1000 by omega] at c1
      exact c1)
    refine hq m2 hm2 (fun c p b1 b2 b3 b4 => by rw [f2 c p (by omega), f1 c p (by omega), F c p b1 b2 b3 b4]) w1 (fun x hx => ?_) w2
    have ne : ¬ x = 5 * 1000 + s := fun q => hx (by rw [q]; exact z)
    rw [(G x ne).1, (G x ne).2]
    exact mo x hx
  have leaf : n = 5 → wGetR S m 58 2 4 fun v32 => wGet S m 58 2 9 fun v34 => wIf (s < v34) (wp_X2_visit_d0_57 S K 58 s (5 * 1000 + s) v32 (5 * 1000 + s) m) (wGet S m 58 2 10 fun v36 => wIf (v36 < s) (wp_X2_visit_d0_57 S K 58 s (5 * 1000 + s) v32 (5 * 1000 + s) m) (wC 1 fun v38 => wp_X2_visit_d0_58 S K 58 s (5 * 1000 + s) v32 (5 * 1000 + s) v38 m)) := by
    intro en
    have r0 : ∀ b : Bool, okR lo hi s = b → (if b = true then (1 : Int) else 0) = rwF H (crR o D j lh lb n) (okR lo hi) (n - 5) s := fun b eb => by
      rw [en, show 5 - 5 = 0 from rfl]
      show _ = if okR lo hi s = true then (1 : Int) else 0
      rw [eb]
    have l0 : s = leF H (crR o D j lh lb n) (n - 5) s := by
      rw [en, show 5 - 5 = 0 from rfl]
      rfl
    have no : ¬ (lo ≤ s ∧ s ≤ hi) → wp_X2_visit_d0_57 S K 58 s (5 * 1000 + s) 61 (5 * 1000 + s) m := fun q => by
      refine u_X2_visit_d0_57 ?_
      refine g_C ?_
      refine u_X2_visit_d0_58 ?_
      exact put 0 s m K hm (fun _ _ _ _ _ _ => rfl) v (fun _ _ => ⟨rfl, rfl⟩) (r0 false (decide_eq_false q)) l0 s0 s9 (fun q => absurd q (by omega)) hk
    refine g_getr 4 61 rfl hS.k58 hm.f_58_4 (by decide) ?_
    refine g_getu 9 rfl hS.k58 (fun v3 ev3 => ?_)
    rw [e6] at ev3
    refine g_if (fun q => no (fun y => by omega)) (fun q => ?_)
    refine g_getu 10 rfl hS.k58 (fun v4 ev4 => ?_)
    rw [e7] at ev4
    refine g_if (fun q2 => no (fun y => by omega)) (fun q2 => ?_)
    refine g_C ?_
    refine u_X2_visit_d0_58 ?_
    exact put 1 s m K hm (fun _ _ _ _ _ _ => rfl) v (fun _ _ => ⟨rfl, rfl⟩) (r0 true (decide_eq_true ⟨by omega, by omega⟩)) l0 s0 s9 (fun q => absurd q (by omega)) hk
  refine g_if (fun q => absurd q (by omega)) (fun q => ?_)
  exact leaf (by omega)
theorem zq_visit1 {X : Mm} {S : Sh} {m : Mm} {K : Mm → Prop} {o : Option (List Cz)} {D : Int → Int} {H n : Nat} {lh lb : Nat → Int} {j lo hi s : Int} (hS : Shp S) (hm : Inv X S m) (cc : RvC D H n lh lb j) (e : RvE S o D n lh lb j lo hi m) (v : VS o D H n lh lb j lo hi m) (kn : 4 ≤ n) (s0 : 0 ≤ s) (s9 : s ≤ 999) (hk : ∀ M1 : Mm, Inv X S M1 → vF m M1 → VS o D H n lh lb j lo hi M1 → MO m M1 → ¬ M1 61 (4 * 1000 + s) = -1 → K M1) : wp_X2_visit_d1 S m 58 4 s K := by
  have n5 := cc.2.2.2.2.1
  have eH := cc.2.2.2.1
  have b4 := cc.1.1
  have hH : H ≤ 5 := by omega
  obtain ⟨e1, e2, e3, e4, e5, e6, e7, e8⟩ := id e
  refine u_X2_visit_d1 ?_
  refine g_C ?_
  refine g_M (by decide) (by decide) ?_
  refine g_A (by omega) (by omega) ?_
  refine g_C ?_
  refine g_ifF (by decide) ?_
  refine g_getr 4 61 rfl hS.k58 hm.f_58_4 (by decide) ?_
  refine g_ldu hS.k61 hS.l61 (by omega) (by omega) (fun v1 ev1 => ?_)
  refine g_C ?_
  refine g_if (fun z => ?_) (fun z => hk m hm (fun _ _ _ _ _ _ => rfl) v (fun _ _ => ⟨rfl, rfl⟩) (by rw [← ev1]; exact z))
  rw [ev1] at z
  refine g_getu 6 rfl hS.k58 (fun v2 ev2 => ?_)
  rw [e4] at ev2
  have put : ∀ (a b : Int) (M : Mm) (Q : Mm → Prop), Inv X S M → vF m M → VS o D H n lh lb j lo hi M → MO m M → a = rwF H (crR o D j lh lb n) (okR lo hi) (n - 4) s → b = leF H (crR o D j lh lb n) (n - 4) s → 0 ≤ b → b ≤ 999 → (4 < n → ∀ h : Nat, h < H → ¬ M 61 (((4 : Nat) : Int) * 1000 + 1000 + crR o D j lh lb n (n - 1 - 4) h s) = -1) → (∀ M1 : Mm, Inv X S M1 → vF m M1 → VS o D H n lh lb j lo hi M1 → MO m M1 → ¬ M1 61 (4 * 1000 + s) = -1 → Q M1) → wSt S M 61 14 (4 * 1000 + s) a fun M1 => wGetR S M1 58 2 5 fun v19 => wSt S M1 v19 14 (4 * 1000 + s) b fun M2 => Q M2 := by
    intro a b M Q hM F vM mo ea eb b0 b9 ch hq
    have rb := rw_31 (cr := crR o D j lh lb n) (ok := okR lo hi) (r := n - 4) (s := s) hH (by omega)
    rw [← ea] at rb
    refine g_st hS.k61 hS.l61 (by omega) (by omega) (hM.wa_61 (by omega) (by omega) (by omega) (by omega)) (fun m1 em1 hm1 => ?_)
    have f1 : ∀ c p : Int, ¬ (c = 61 ∧ p = 4 * 1000 + s) → m1 c p = M c p := fun c p q => (congrFun (congrFun em1 _) _).trans (up_ne q)
    have x1 : m1 61 (4 * 1000 + s) = a := (congrFun (congrFun em1 _) _).trans (up_at _ _ _ _)
    refine g_getr 5 62 rfl hS.k58 hm1.f_58_5 (by decide) ?_
    refine g_st hS.k62 hS.l62 (by omega) (by omega) (hm1.wa_62 (by omega) (by omega) (by omega) (by omega)) (fun m2 em2 hm2 => ?_)
    have f2 : ∀ c p : Int, ¬ (c = 62 ∧ p = 4 * 1000 + s) → m2 c p = m1 c p := fun c p q => (congrFun (congrFun em2 _) _).trans (up_ne q)
    have x2 : m2 62 (4 * 1000 + s) = b := (congrFun (congrFun em2 _) _).trans (up_at _ _ _ _)
    have G : ∀ x : Int, ¬ x = 4 * 1000 + s → m2 61 x = M 61 x ∧ m2 62 x = M 62 x := fun x hx => ⟨by rw [f2 61 x (by omega), f1 61 x (by omega)], by rw [f2 62 x (by omega), f1 62 x (by omega)]⟩
    obtain ⟨w1, w2⟩ := VS.put (k := 4) (M := m2) hH n5 vM kn s0 s9 G (by rw [f2 61 _ (by omega)]; exact x1.trans ea) (x2.trans eb) (fun q h hh => by
      have c1 := ch q h hh
      rw [show ((4 : Nat) : Int) * 1000 + 1000 = (((4 : Nat) : Int) + 1) * 1000 by omega] at c1
      exact c1)
    refine hq m2 hm2 (fun c p b1 b2 b3 b4 => by rw [f2 c p (by omega), f1 c p (by omega), F c p b1 b2 b3 b4]) w1 (fun x hx => ?_) w2
    have ne : ¬ x = 4 * 1000 + s := fun q => hx (by rw [q]; exact z)
    rw [(G x ne).1, (G x ne).2]
    exact mo x hx
  have leaf : n = 4 → wGetR S m 58 2 4 fun v32 => wGet S m 58 2 9 fun v34 => wIf (s < v34) (wp_X2_visit_d1_57 S K 58 s (4 * 1000 + s) v32 (4 * 1000 + s) m) (wGet S m 58 2 10 fun v36 => wIf (v36 < s) (wp_X2_visit_d1_57 S K 58 s (4 * 1000 + s) v32 (4 * 1000 + s) m) (wC 1 fun v38 => wp_X2_visit_d1_58 S K 58 s (4 * 1000 + s) v32 (4 * 1000 + s) v38 m)) := by
    intro en
    have r0 : ∀ b : Bool, okR lo hi s = b → (if b = true then (1 : Int) else 0) = rwF H (crR o D j lh lb n) (okR lo hi) (n - 4) s := fun b eb => by
      rw [en, show 4 - 4 = 0 from rfl]
      show _ = if okR lo hi s = true then (1 : Int) else 0
      rw [eb]
    have l0 : s = leF H (crR o D j lh lb n) (n - 4) s := by
      rw [en, show 4 - 4 = 0 from rfl]
      rfl
    have no : ¬ (lo ≤ s ∧ s ≤ hi) → wp_X2_visit_d1_57 S K 58 s (4 * 1000 + s) 61 (4 * 1000 + s) m := fun q => by
      refine u_X2_visit_d1_57 ?_
      refine g_C ?_
      refine u_X2_visit_d1_58 ?_
      exact put 0 s m K hm (fun _ _ _ _ _ _ => rfl) v (fun _ _ => ⟨rfl, rfl⟩) (r0 false (decide_eq_false q)) l0 s0 s9 (fun q => absurd q (by omega)) hk
    refine g_getr 4 61 rfl hS.k58 hm.f_58_4 (by decide) ?_
    refine g_getu 9 rfl hS.k58 (fun v3 ev3 => ?_)
    rw [e6] at ev3
    refine g_if (fun q => no (fun y => by omega)) (fun q => ?_)
    refine g_getu 10 rfl hS.k58 (fun v4 ev4 => ?_)
    rw [e7] at ev4
    refine g_if (fun q2 => no (fun y => by omega)) (fun q2 => ?_)
    refine g_C ?_
    refine u_X2_visit_d1_58 ?_
    exact put 1 s m K hm (fun _ _ _ _ _ _ => rfl) v (fun _ _ => ⟨rfl, rfl⟩) (r0 true (decide_eq_true ⟨by omega, by omega⟩)) l0 s0 s9 (fun q => absurd q (by omega)) hk
  refine g_if (fun q => ?_) (fun q => leaf (by omega))
  have kn1 : 4 < n := by omega
  obtain ⟨r, er⟩ : ∃ r : Nat, r = n - 1 - 4 := ⟨_, rfl⟩
  have er1 : n - 4 = r + 1 := by omega
  have er2 : n - 5 = r := by omega
  have cb := crR_b (o := o) (D := D) (j := j) (lh := lh) (lb := lb) (n := n) (H := H) cc.2.2.1 hH
  have L : ∀ (l h : Nat) (M : Mm), h ≤ H → Inv X S M → vF m M → VS o D H n lh lb j lo hi M → MO m M → (∀ x : Nat, x < h → ¬ M 61 (5 * 1000 + crR o D j lh lb n r x s) = -1) → H + 1 - h ≤ l → wp_X2_visit_d1_78 S K l 58 4 s (4 * 1000 + s) (sumF (fun x => rwF H (crR o D j lh lb n) (okR lo hi) r (crR o D j lh lb n r x s)) h) (mnF (fun x => leF H (crR o D j lh lb n) r (crR o D j lh lb n r x s)) h) h M := by
    intro l
    induction l with
    | zero => intro h M h1 _ _ _ _ _ hl; exfalso; omega
    | succ l ih =>
      intro h M h1 hM F vM mo ch hl
      have eM := e.keep cc.1 cc.2.1 F
      refine u_X2_visit_d1_78 ?_
      refine g_getr 1 4 rfl hS.k58 hM.f_58_1 (by decide) ?_
      refine g_getu 4 rfl hS.k4 (fun v3 ev3 => ?_)
      rw [eM.2.1.1.2.2.2.2.1] at ev3
      refine g_if (fun q2 => ?_) (fun q2 => ?_)
      · have eh : h = H := by omega
        rw [eh] at ch ⊢
        refine g_getr 4 61 rfl hS.k58 hM.f_58_4 (by decide) ?_
        have lb9 := le_b cb (r + 1) s s0 s9
        refine put _ _ M K hM F vM mo (by rw [er1]; rfl) (by rw [er1]; rfl) ?_ ?_ (fun _ x hx => ?_) hk
        · exact lb9.1
        · exact lb9.2
        · have c1 := ch x hx
          rw [show ((4 : Nat) : Int) * 1000 + 1000 = 5 * 1000 from rfl, ← er]
          exact c1
      have hh : h < H := by omega
      obtain ⟨t, et⟩ : ∃ t : Int, t = crR o D j lh lb n r h s := ⟨_, rfl⟩
      have tb := cb r h s hh s0 s9
      rw [← et] at tb
      refine ⟨hS.k58, ?_⟩
      refine zq_carried (k := 4) (h := h) hS hM cc eM kn1 hh s0 s9 (fun m1 hm1 f1 => ?_)
      rw [← er, ← et]
      have F1 : vF m m1 := fun c p b1 b2 b3 b4 => by rw [f1 c p b1 b2, F c p b1 b2 b3 b4]
      have g61 : m1 61 = M 61 := funext (fun p => f1 61 p (by omega) (by omega))
      have g62 : m1 62 = M 62 := funext (fun p => f1 62 p (by omega) (by omega))
      have v1' : VS o D H n lh lb j lo hi m1 := by
        unfold VS
        rw [g61, g62]
        exact vM
      refine g_C ?_
      refine g_A (by decide) (by decide) ?_
      refine ⟨hS.k58, ?_⟩
      refine zq_visit0 hS hm1 cc (e.keep cc.1 cc.2.1 F1) v1' (by omega) tb.1 tb.2 (fun m2 hm2 f2 v2' mo2 nn => ?_)
      have F2 : vF m m2 := fun c p b1 b2 b3 b4 => by rw [f2 c p b1 b2 b3 b4, F1 c p b1 b2 b3 b4]
      have mo' : MO m m2 := fun x hx => by
        have a := mo x hx
        have b := mo2 x (by rw [g61, a.1]; exact hx)
        rw [b.1, b.2, g61, g62]
        exact a
      obtain ⟨w1, w2, _⟩ := (v2' 5 t (by omega) tb.1 tb.2).resolve_left nn
      rw [er2] at w1 w2
      have w1' : m2 61 (5 * 1000 + t) = rwF H (crR o D j lh lb n) (okR lo hi) r t := w1
      have w2' : m2 62 (5 * 1000 + t) = leF H (crR o D j lh lb n) r t := w2
      have rb := rw_31 (cr := crR o D j lh lb n) (ok := okR lo hi) (r := r) (s := t) hH (by omega)
      have sb : 0 ≤ sumF (fun x => rwF H (crR o D j lh lb n) (okR lo hi) r (crR o D j lh lb n r x s)) h ∧ sumF (fun x => rwF H (crR o D j lh lb n) (okR lo hi) r (crR o D j lh lb n r x s)) h ≤ 15625 * (h : Int) := by
        have z1 := (sumF_0 (h := fun x => rwF H (crR o D j lh lb n) (okR lo hi) r (crR o D j lh lb n r x s)) h (fun x _ => (rw_31 hH (by omega)).1)).1
        refine ⟨z1, ?_⟩
        have z2 : ∀ q : Nat, sumF (fun x => rwF H (crR o D j lh lb n) (okR lo hi) r (crR o D j lh lb n r x s)) q ≤ 15625 * (q : Int) := by
          intro q
          induction q with
          | zero => exact Int.le_refl 0
          | succ q iq =>
            have z3 := (rw_31 (cr := crR o D j lh lb n) (ok := okR lo hi) (r := r) (s := crR o D j lh lb n r q s) hH (by omega)).2
            show sumF (fun x => rwF H (crR o D j lh lb n) (okR lo hi) r (crR o D j lh lb n r x s)) q + rwF H (crR o D j lh lb n) (okR lo hi) r (crR o D j lh lb n r q s) ≤ 15625 * ((q + 1 : Nat) : Int)
            omega
        exact z2 h
      refine g_getr 4 61 rfl hS.k58 hm2.f_58_4 (by decide) ?_
      refine g_C ?_
      refine g_A (by decide) (by decide) ?_
      refine g_C ?_
      refine g_M (by decide) (by decide) ?_
      refine g_A (by omega) (by omega) ?_
      refine g_ldu hS.k61 hS.l61 (by omega) (by omega) (fun v5 ev5 => ?_)
      have ev5' : v5 = rwF H (crR o D j lh lb n) (okR lo hi) r t := ev5.trans w1'
      rw [ev5']
      refine g_A (by omega) (by omega) ?_
      refine g_getr 5 62 rfl hS.k58 hm2.f_58_5 (by decide) ?_
      refine g_C ?_
      refine g_A (by decide) (by decide) ?_
      refine g_C ?_
      refine g_M (by decide) (by decide) ?_
      refine g_A (by omega) (by omega) ?_
      refine g_ldu hS.k62 hS.l62 (by omega) (by omega) (fun v6 ev6 => ?_)
      have ev6' : v6 = leF H (crR o D j lh lb n) r t := ev6.trans w2'
      refine g_Oe (fun v7 ev7 => ?_)
      rw [ev6'] at ev7
      refine g_A (by omega) (by omega) ?_
      have s1 : sumF (fun x => rwF H (crR o D j lh lb n) (okR lo hi) r (crR o D j lh lb n r x s)) h + rwF H (crR o D j lh lb n) (okR lo hi) r t = sumF (fun x => rwF H (crR o D j lh lb n) (okR lo hi) r (crR o D j lh lb n r x s)) (h + 1) := by rw [et]; rfl
      have s2 : v7 = mnF (fun x => leF H (crR o D j lh lb n) r (crR o D j lh lb n r x s)) (h + 1) := by rw [ev7, et]; rfl
      rw [s1, s2]
      refine ih (h + 1) m2 (by omega) hm2 F2 v2' mo' (fun x hx => ?_) (by omega)
      by_cases ex : x = h
      · rw [ex, ← et]
        exact nn
      · have c1 := ch x (by omega)
        have c2 := mo2 (5 * 1000 + crR o D j lh lb n r x s) (by rw [g61]; exact c1)
        rw [c2.1, g61]
        exact c1
  refine g_C ?_
  refine g_C ?_
  refine g_C ?_
  exact ⟨H + 1, L (H + 1) 0 m (by omega) hm (fun _ _ _ _ _ _ => rfl) v (fun _ _ => ⟨rfl, rfl⟩) (fun x hx => absurd hx (Nat.not_lt_zero x)) (by omega)⟩
theorem zq_visit2 {X : Mm} {S : Sh} {m : Mm} {K : Mm → Prop} {o : Option (List Cz)} {D : Int → Int} {H n : Nat} {lh lb : Nat → Int} {j lo hi s : Int} (hS : Shp S) (hm : Inv X S m) (cc : RvC D H n lh lb j) (e : RvE S o D n lh lb j lo hi m) (v : VS o D H n lh lb j lo hi m) (kn : 3 ≤ n) (s0 : 0 ≤ s) (s9 : s ≤ 999) (hk : ∀ M1 : Mm, Inv X S M1 → vF m M1 → VS o D H n lh lb j lo hi M1 → MO m M1 → ¬ M1 61 (3 * 1000 + s) = -1 → K M1) : wp_X2_visit_d2 S m 58 3 s K := by
  have n5 := cc.2.2.2.2.1
  have eH := cc.2.2.2.1
  have b4 := cc.1.1
  have hH : H ≤ 5 := by omega
  obtain ⟨e1, e2, e3, e4, e5, e6, e7, e8⟩ := id e
  refine u_X2_visit_d2 ?_
  refine g_C ?_
  refine g_M (by decide) (by decide) ?_
  refine g_A (by omega) (by omega) ?_
  refine g_C ?_
  refine g_ifF (by decide) ?_
  refine g_getr 4 61 rfl hS.k58 hm.f_58_4 (by decide) ?_
  refine g_ldu hS.k61 hS.l61 (by omega) (by omega) (fun v1 ev1 => ?_)
  refine g_C ?_
  refine g_if (fun z => ?_) (fun z => hk m hm (fun _ _ _ _ _ _ => rfl) v (fun _ _ => ⟨rfl, rfl⟩) (by rw [← ev1]; exact z))
  rw [ev1] at z
  refine g_getu 6 rfl hS.k58 (fun v2 ev2 => ?_)
  rw [e4] at ev2
  have put : ∀ (a b : Int) (M : Mm) (Q : Mm → Prop), Inv X S M → vF m M → VS o D H n lh lb j lo hi M → MO m M → a = rwF H (crR o D j lh lb n) (okR lo hi) (n - 3) s → b = leF H (crR o D j lh lb n) (n - 3) s → 0 ≤ b → b ≤ 999 → (3 < n → ∀ h : Nat, h < H → ¬ M 61 (((3 : Nat) : Int) * 1000 + 1000 + crR o D j lh lb n (n - 1 - 3) h s) = -1) → (∀ M1 : Mm, Inv X S M1 → vF m M1 → VS o D H n lh lb j lo hi M1 → MO m M1 → ¬ M1 61 (3 * 1000 + s) = -1 → Q M1) → wSt S M 61 14 (3 * 1000 + s) a fun M1 => wGetR S M1 58 2 5 fun v19 => wSt S M1 v19 14 (3 * 1000 + s) b fun M2 => Q M2 := by
    intro a b M Q hM F vM mo ea eb b0 b9 ch hq
    have rb := rw_31 (cr := crR o D j lh lb n) (ok := okR lo hi) (r := n - 3) (s := s) hH (by omega)
    rw [← ea] at rb
    refine g_st hS.k61 hS.l61 (by omega) (by omega) (hM.wa_61 (by omega) (by omega) (by omega) (by omega)) (fun m1 em1 hm1 => ?_)
    have f1 : ∀ c p : Int, ¬ (c = 61 ∧ p = 3 * 1000 + s) → m1 c p = M c p := fun c p q => (congrFun (congrFun em1 _) _).trans (up_ne q)
    have x1 : m1 61 (3 * 1000 + s) = a := (congrFun (congrFun em1 _) _).trans (up_at _ _ _ _)
    refine g_getr 5 62 rfl hS.k58 hm1.f_58_5 (by decide) ?_
    refine g_st hS.k62 hS.l62 (by omega) (by omega) (hm1.wa_62 (by omega) (by omega) (by omega) (by omega)) (fun m2 em2 hm2 => ?_)
    have f2 : ∀ c p : Int, ¬ (c = 62 ∧ p = 3 * 1000 + s) → m2 c p = m1 c p := fun c p q => (congrFun (congrFun em2 _) _).trans (up_ne q)
    have x2 : m2 62 (3 * 1000 + s) = b := (congrFun (congrFun em2 _) _).trans (up_at _ _ _ _)
    have G : ∀ x : Int, ¬ x = 3 * 1000 + s → m2 61 x = M 61 x ∧ m2 62 x = M 62 x := fun x hx => ⟨by rw [f2 61 x (by omega), f1 61 x (by omega)], by rw [f2 62 x (by omega), f1 62 x (by omega)]⟩
    obtain ⟨w1, w2⟩ := VS.put (k := 3) (M := m2) hH n5 vM kn s0 s9 G (by rw [f2 61 _ (by omega)]; exact x1.trans ea) (x2.trans eb) (fun q h hh => by
      have c1 := ch q h hh
      rw [show ((3 : Nat) : Int) * 1000 + 1000 = (((3 : Nat) : Int) + 1) * 1000 by omega] at c1
      exact c1)
    refine hq m2 hm2 (fun c p b1 b2 b3 b4 => by rw [f2 c p (by omega), f1 c p (by omega), F c p b1 b2 b3 b4]) w1 (fun x hx => ?_) w2
    have ne : ¬ x = 3 * 1000 + s := fun q => hx (by rw [q]; exact z)
    rw [(G x ne).1, (G x ne).2]
    exact mo x hx
  have leaf : n = 3 → wGetR S m 58 2 4 fun v32 => wGet S m 58 2 9 fun v34 => wIf (s < v34) (wp_X2_visit_d2_57 S K 58 s (3 * 1000 + s) v32 (3 * 1000 + s) m) (wGet S m 58 2 10 fun v36 => wIf (v36 < s) (wp_X2_visit_d2_57 S K 58 s (3 * 1000 + s) v32 (3 * 1000 + s) m) (wC 1 fun v38 => wp_X2_visit_d2_58 S K 58 s (3 * 1000 + s) v32 (3 * 1000 + s) v38 m)) := by
    intro en
    have r0 : ∀ b : Bool, okR lo hi s = b → (if b = true then (1 : Int) else 0) = rwF H (crR o D j lh lb n) (okR lo hi) (n - 3) s := fun b eb => by
      rw [en, show 3 - 3 = 0 from rfl]
      show _ = if okR lo hi s = true then (1 : Int) else 0
      rw [eb]
    have l0 : s = leF H (crR o D j lh lb n) (n - 3) s := by
      rw [en, show 3 - 3 = 0 from rfl]
      rfl
    have no : ¬ (lo ≤ s ∧ s ≤ hi) → wp_X2_visit_d2_57 S K 58 s (3 * 1000 + s) 61 (3 * 1000 + s) m := fun q => by
      refine u_X2_visit_d2_57 ?_
      refine g_C ?_
      refine u_X2_visit_d2_58 ?_
      exact put 0 s m K hm (fun _ _ _ _ _ _ => rfl) v (fun _ _ => ⟨rfl, rfl⟩) (r0 false (decide_eq_false q)) l0 s0 s9 (fun q => absurd q (by omega)) hk
    refine g_getr 4 61 rfl hS.k58 hm.f_58_4 (by decide) ?_
    refine g_getu 9 rfl hS.k58 (fun v3 ev3 => ?_)
    rw [e6] at ev3
    refine g_if (fun q => no (fun y => by omega)) (fun q => ?_)
    refine g_getu 10 rfl hS.k58 (fun v4 ev4 => ?_)
    rw [e7] at ev4
    refine g_if (fun q2 => no (fun y => by omega)) (fun q2 => ?_)
    refine g_C ?_
    refine u_X2_visit_d2_58 ?_
    exact put 1 s m K hm (fun _ _ _ _ _ _ => rfl) v (fun _ _ => ⟨rfl, rfl⟩) (r0 true (decide_eq_true ⟨by omega, by omega⟩)) l0 s0 s9 (fun q => absurd q (by omega)) hk
  refine g_if (fun q => ?_) (fun q => leaf (by omega))
  have kn1 : 3 < n := by omega
  obtain ⟨r, er⟩ : ∃ r : Nat, r = n - 1 - 3 := ⟨_, rfl⟩
  have er1 : n - 3 = r + 1 := by omega
  have er2 : n - 4 = r := by omega
  have cb := crR_b (o := o) (D := D) (j := j) (lh := lh) (lb := lb) (n := n) (H := H) cc.2.2.1 hH
  have L : ∀ (l h : Nat) (M : Mm), h ≤ H → Inv X S M → vF m M → VS o D H n lh lb j lo hi M → MO m M → (∀ x : Nat, x < h → ¬ M 61 (4 * 1000 + crR o D j lh lb n r x s) = -1) → H + 1 - h ≤ l → wp_X2_visit_d2_78 S K l 58 3 s (3 * 1000 + s) (sumF (fun x => rwF H (crR o D j lh lb n) (okR lo hi) r (crR o D j lh lb n r x s)) h) (mnF (fun x => leF H (crR o D j lh lb n) r (crR o D j lh lb n r x s)) h) h M := by
    intro l
    induction l with
    | zero => intro h M h1 _ _ _ _ _ hl; exfalso; omega
    | succ l ih =>
      intro h M h1 hM F vM mo ch hl
      have eM := e.keep cc.1 cc.2.1 F
      refine u_X2_visit_d2_78 ?_
      refine g_getr 1 4 rfl hS.k58 hM.f_58_1 (by decide) ?_
      refine g_getu 4 rfl hS.k4 (fun v3 ev3 => ?_)
      rw [eM.2.1.1.2.2.2.2.1] at ev3
      refine g_if (fun q2 => ?_) (fun q2 => ?_)
      · have eh : h = H := by omega
        rw [eh] at ch ⊢
        refine g_getr 4 61 rfl hS.k58 hM.f_58_4 (by decide) ?_
        have lb9 := le_b cb (r + 1) s s0 s9
        refine put _ _ M K hM F vM mo (by rw [er1]; rfl) (by rw [er1]; rfl) ?_ ?_ (fun _ x hx => ?_) hk
        · exact lb9.1
        · exact lb9.2
        · have c1 := ch x hx
          rw [show ((3 : Nat) : Int) * 1000 + 1000 = 4 * 1000 from rfl, ← er]
          exact c1
      have hh : h < H := by omega
      obtain ⟨t, et⟩ : ∃ t : Int, t = crR o D j lh lb n r h s := ⟨_, rfl⟩
      have tb := cb r h s hh s0 s9
      rw [← et] at tb
      refine ⟨hS.k58, ?_⟩
      refine zq_carried (k := 3) (h := h) hS hM cc eM kn1 hh s0 s9 (fun m1 hm1 f1 => ?_)
      rw [← er, ← et]
      have F1 : vF m m1 := fun c p b1 b2 b3 b4 => by rw [f1 c p b1 b2, F c p b1 b2 b3 b4]
      have g61 : m1 61 = M 61 := funext (fun p => f1 61 p (by omega) (by omega))
      have g62 : m1 62 = M 62 := funext (fun p => f1 62 p (by omega) (by omega))
      have v1' : VS o D H n lh lb j lo hi m1 := by
        unfold VS
        rw [g61, g62]
        exact vM
      refine g_C ?_
      refine g_A (by decide) (by decide) ?_
      refine ⟨hS.k58, ?_⟩
      refine zq_visit1 hS hm1 cc (e.keep cc.1 cc.2.1 F1) v1' (by omega) tb.1 tb.2 (fun m2 hm2 f2 v2' mo2 nn => ?_)
      have F2 : vF m m2 := fun c p b1 b2 b3 b4 => by rw [f2 c p b1 b2 b3 b4, F1 c p b1 b2 b3 b4]
      have mo' : MO m m2 := fun x hx => by
        have a := mo x hx
        have b := mo2 x (by rw [g61, a.1]; exact hx)
        rw [b.1, b.2, g61, g62]
        exact a
      obtain ⟨w1, w2, _⟩ := (v2' 4 t (by omega) tb.1 tb.2).resolve_left nn
      rw [er2] at w1 w2
      have w1' : m2 61 (4 * 1000 + t) = rwF H (crR o D j lh lb n) (okR lo hi) r t := w1
      have w2' : m2 62 (4 * 1000 + t) = leF H (crR o D j lh lb n) r t := w2
      have rb := rw_31 (cr := crR o D j lh lb n) (ok := okR lo hi) (r := r) (s := t) hH (by omega)
      have sb : 0 ≤ sumF (fun x => rwF H (crR o D j lh lb n) (okR lo hi) r (crR o D j lh lb n r x s)) h ∧ sumF (fun x => rwF H (crR o D j lh lb n) (okR lo hi) r (crR o D j lh lb n r x s)) h ≤ 15625 * (h : Int) := by
        have z1 := (sumF_0 (h := fun x => rwF H (crR o D j lh lb n) (okR lo hi) r (crR o D j lh lb n r x s)) h (fun x _ => (rw_31 hH (by omega)).1)).1
        refine ⟨z1, ?_⟩
        have z2 : ∀ q : Nat, sumF (fun x => rwF H (crR o D j lh lb n) (okR lo hi) r (crR o D j lh lb n r x s)) q ≤ 15625 * (q : Int) := by
          intro q
          induction q with
          | zero => exact Int.le_refl 0
          | succ q iq =>
            have z3 := (rw_31 (cr := crR o D j lh lb n) (ok := okR lo hi) (r := r) (s := crR o D j lh lb n r q s) hH (by omega)).2
            show sumF (fun x => rwF H (crR o D j lh lb n) (okR lo hi) r (crR o D j lh lb n r x s)) q + rwF H (crR o D j lh lb n) (okR lo hi) r (crR o D j lh lb n r q s) ≤ 15625 * ((q + 1 : Nat) : Int)
            omega
        exact z2 h
      refine g_getr 4 61 rfl hS.k58 hm2.f_58_4 (by decide) ?_
      refine g_C ?_
      refine g_A (by decide) (by decide) ?_
      refine g_C ?_
      refine g_M (by decide) (by decide) ?_
      refine g_A (by omega) (by omega) ?_
      refine g_ldu hS.k61 hS.l61 (by omega) (by omega) (fun v5 ev5 => ?_)
      have ev5' : v5 = rwF H (crR o D j lh lb n) (okR lo hi) r t := ev5.trans w1'
      rw [ev5']
      refine g_A (by omega) (by omega) ?_
      refine g_getr 5 62 rfl hS.k58 hm2.f_58_5 (by decide) ?_
      refine g_C ?_
      refine g_A (by decide) (by decide) ?_
      refine g_C ?_
      refine g_M (by decide) (by decide) ?_
      refine g_A (by omega) (by omega) ?_
      refine g_ldu hS.k62 hS.l62 (by omega) (by omega) (fun v6 ev6 => ?_)
      have ev6' : v6 = leF H (crR o D j lh lb n) r t := ev6.trans w2'
      refine g_Oe (fun v7 ev7 => ?_)
      rw [ev6'] at ev7
      refine g_A (by omega) (by omega) ?_
      have s1 : sumF (fun x => rwF H (crR o D j lh lb n) (okR lo hi) r (crR o D j lh lb n r x s)) h + rwF H (crR o D j lh lb n) (okR lo hi) r t = sumF (fun x => rwF H (crR o D j lh lb n) (okR lo hi) r (crR o D j lh lb n r x s)) (h + 1) := by rw [et]; rfl
      have s2 : v7 = mnF (fun x => leF H (crR o D j lh lb n) r (crR o D j lh lb n r x s)) (h + 1) := by rw [ev7, et]; rfl
      rw [s1, s2]
      refine ih (h + 1) m2 (by omega) hm2 F2 v2' mo' (fun x hx => ?_) (by omega)
      by_cases ex : x = h
      · rw [ex, ← et]
        exact nn
      · have c1 := ch x (by omega)
        have c2 := mo2 (4 * 1000 + crR o D j lh lb n r x s) (by rw [g61]; exact c1)
        rw [c2.1, g61]
        exact c1
  refine g_C ?_
  refine g_C ?_
  refine g_C ?_
  exact ⟨H + 1, L (H + 1) 0 m (by omega) hm (fun _ _ _ _ _ _ => rfl) v (fun _ _ => ⟨rfl, rfl⟩) (fun x hx => absurd hx (Nat.not_lt_zero x)) (by omega)⟩
theorem zq_visit3 {X : Mm} {S : Sh} {m : Mm} {K : Mm → Prop} {o : Option (List Cz)} {D : Int → Int} {H n : Nat} {lh lb : Nat → Int} {j lo hi s : Int} (hS : Shp S) (hm : Inv X S m) (cc : RvC D H n lh lb j) (e : RvE S o D n lh lb j lo hi m) (v : VS o D H n lh lb j lo hi m) (kn : 2 ≤ n) (s0 : 0 ≤ s) (s9 : s ≤ 999) (hk : ∀ M1 : Mm, Inv X S M1 → vF m M1 → VS o D H n lh lb j lo hi M1 → MO m M1 → ¬ M1 61 (2 * 1000 + s) = -1 → K M1) : wp_X2_visit_d3 S m 58 2 s K := by
  have n5 := cc.2.2.2.2.1
  have eH := cc.2.2.2.1
  have b4 := cc.1.1
  have hH : H ≤ 5 := by omega
  obtain ⟨e1, e2, e3, e4, e5, e6, e7, e8⟩ := id e
  refine u_X2_visit_d3 ?_
  refine g_C ?_
  refine g_M (by decide) (by decide) ?_
  refine g_A (by omega) (by omega) ?_
  refine g_C ?_
  refine g_ifF (by decide) ?_
  refine g_getr 4 61 rfl hS.k58 hm.f_58_4 (by decide) ?_
  refine g_ldu hS.k61 hS.l61 (by omega) (by omega) (fun v1 ev1 => ?_)
  refine g_C ?_
  refine g_if (fun z => ?_) (fun z => hk m hm (fun _ _ _ _ _ _ => rfl) v (fun _ _ => ⟨rfl, rfl⟩) (by rw [← ev1]; exact z))
  rw [ev1] at z
  refine g_getu 6 rfl hS.k58 (fun v2 ev2 => ?_)
  rw [e4] at ev2
  have put : ∀ (a b : Int) (M : Mm) (Q : Mm → Prop), Inv X S M → vF m M → VS o D H n lh lb j lo hi M → MO m M → a = rwF H (crR o D j lh lb n) (okR lo hi) (n - 2) s → b = leF H (crR o D j lh lb n) (n - 2) s → 0 ≤ b → b ≤ 999 → (2 < n → ∀ h : Nat, h < H → ¬ M 61 (((2 : Nat) : Int) * 1000 + 1000 + crR o D j lh lb n (n - 1 - 2) h s) = -1) → (∀ M1 : Mm, Inv X S M1 → vF m M1 → VS o D H n lh lb j lo hi M1 → MO m M1 → ¬ M1 61 (2 * 1000 + s) = -1 → Q M1) → wSt S M 61 14 (2 * 1000 + s) a fun M1 => wGetR S M1 58 2 5 fun v19 => wSt S M1 v19 14 (2 * 1000 + s) b fun M2 => Q M2 := by
    intro a b M Q hM F vM mo ea eb b0 b9 ch hq
    have rb := rw_31 (cr := crR o D j lh lb n) (ok := okR lo hi) (r := n - 2) (s := s) hH (by omega)
    rw [← ea] at rb
    refine g_st hS.k61 hS.l61 (by omega) (by omega) (hM.wa_61 (by omega) (by omega) (by omega) (by omega)) (fun m1 em1 hm1 => ?_)
    have f1 : ∀ c p : Int, ¬ (c = 61 ∧ p = 2 * 1000 + s) → m1 c p = M c p := fun c p q => (congrFun (congrFun em1 _) _).trans (up_ne q)
    have x1 : m1 61 (2 * 1000 + s) = a := (congrFun (congrFun em1 _) _).trans (up_at _ _ _ _)
    refine g_getr 5 62 rfl hS.k58 hm1.f_58_5 (by decide) ?_
    refine g_st hS.k62 hS.l62 (by omega) (by omega) (hm1.wa_62 (by omega) (by omega) (by omega) (by omega)) (fun m2 em2 hm2 => ?_)
    have f2 : ∀ c p : Int, ¬ (c = 62 ∧ p = 2 * 1000 + s) → m2 c p = m1 c p := fun c p q => (congrFun (congrFun em2 _) _).trans (up_ne q)
    have x2 : m2 62 (2 * 1000 + s) = b := (congrFun (congrFun em2 _) _).trans (up_at _ _ _ _)
    have G : ∀ x : Int, ¬ x = 2 * 1000 + s → m2 61 x = M 61 x ∧ m2 62 x = M 62 x := fun x hx => ⟨by rw [f2 61 x (by omega), f1 61 x (by omega)], by rw [f2 62 x (by omega), f1 62 x (by omega)]⟩
    obtain ⟨w1, w2⟩ := VS.put (k := 2) (M := m2) hH n5 vM kn s0 s9 G (by rw [f2 61 _ (by omega)]; exact x1.trans ea) (x2.trans eb) (fun q h hh => by
      have c1 := ch q h hh
      rw [show ((2 : Nat) : Int) * 1000 + 1000 = (((2 : Nat) : Int) + 1) * 1000 by omega] at c1
      exact c1)
    refine hq m2 hm2 (fun c p b1 b2 b3 b4 => by rw [f2 c p (by omega), f1 c p (by omega), F c p b1 b2 b3 b4]) w1 (fun x hx => ?_) w2
    have ne : ¬ x = 2 * 1000 + s := fun q => hx (by rw [q]; exact z)
    rw [(G x ne).1, (G x ne).2]
    exact mo x hx
  have leaf : n = 2 → wGetR S m 58 2 4 fun v32 => wGet S m 58 2 9 fun v34 => wIf (s < v34) (wp_X2_visit_d3_57 S K 58 s (2 * 1000 + s) v32 (2 * 1000 + s) m) (wGet S m 58 2 10 fun v36 => wIf (v36 < s) (wp_X2_visit_d3_57 S K 58 s (2 * 1000 + s) v32 (2 * 1000 + s) m) (wC 1 fun v38 => wp_X2_visit_d3_58 S K 58 s (2 * 1000 + s) v32 (2 * 1000 + s) v38 m)) := by
    intro en
    have r0 : ∀ b : Bool, okR lo hi s = b → (if b = true then (1 : Int) else 0) = rwF H (crR o D j lh lb n) (okR lo hi) (n - 2) s := fun b eb => by
      rw [en, show 2 - 2 = 0 from rfl]
      show _ = if okR lo hi s = true then (1 : Int) else 0
      rw [eb]
    have l0 : s = leF H (crR o D j lh lb n) (n - 2) s := by
      rw [en, show 2 - 2 = 0 from rfl]
      rfl
    have no : ¬ (lo ≤ s ∧ s ≤ hi) → wp_X2_visit_d3_57 S K 58 s (2 * 1000 + s) 61 (2 * 1000 + s) m := fun q => by
      refine u_X2_visit_d3_57 ?_
      refine g_C ?_
      refine u_X2_visit_d3_58 ?_
      exact put 0 s m K hm (fun _ _ _ _ _ _ => rfl) v (fun _ _ => ⟨rfl, rfl⟩) (r0 false (decide_eq_false q)) l0 s0 s9 (fun q => absurd q (by omega)) hk
    refine g_getr 4 61 rfl hS.k58 hm.f_58_4 (by decide) ?_
    refine g_getu 9 rfl hS.k58 (fun v3 ev3 => ?_)
    rw [e6] at ev3
    refine g_if (fun q => no (fun y => by omega)) (fun q => ?_)
    refine g_getu 10 rfl hS.k58 (fun v4 ev4 => ?_)
    rw [e7] at ev4
    refine g_if (fun q2 => no (fun y => by omega)) (fun q2 => ?_)
    refine g_C ?_
    refine u_X2_visit_d3_58 ?_
    exact put 1 s m K hm (fun _ _ _ _ _ _ => rfl) v (fun _ _ => ⟨rfl, rfl⟩) (r0 true (decide_eq_true ⟨by omega, by omega⟩)) l0 s0 s9 (fun q => absurd q (by omega)) hk
  refine g_if (fun q => ?_) (fun q => leaf (by omega))
  have kn1 : 2 < n := by omega
  obtain ⟨r, er⟩ : ∃ r : Nat, r = n - 1 - 2 := ⟨_, rfl⟩
  have er1 : n - 2 = r + 1 := by omega
  have er2 : n - 3 = r := by omega
  have cb := crR_b (o := o) (D := D) (j := j) (lh := lh) (lb := lb) (n := n) (H := H) cc.2.2.1 hH
  have L : ∀ (l h : Nat) (M : Mm), h ≤ H → Inv X S M → vF m M → VS o D H n lh lb j lo hi M → MO m M → (∀ x : Nat, x < h → ¬ M 61 (3 * 1000 + crR o D j lh lb n r x s) = -1) → H + 1 - h ≤ l → wp_X2_visit_d3_78 S K l 58 2 s (2 * 1000 + s) (sumF (fun x => rwF H (crR o D j lh lb n) (okR lo hi) r (crR o D j lh lb n r x s)) h) (mnF (fun x => leF H (crR o D j lh lb n) r (crR o D j lh lb n r x s)) h) h M := by
    intro l
    induction l with
    | zero => intro h M h1 _ _ _ _ _ hl; exfalso; omega
    | succ l ih =>
      intro h M h1 hM F vM mo ch hl
      have eM := e.keep cc.1 cc.2.1 F
      refine u_X2_visit_d3_78 ?_
      refine g_getr 1 4 rfl hS.k58 hM.f_58_1 (by decide) ?_
      refine g_getu 4 rfl hS.k4 (fun v3 ev3 => ?_)
      rw [eM.2.1.1.2.2.2.2.1] at ev3
      refine g_if (fun q2 => ?_) (fun q2 => ?_)
      · have eh : h = H := by omega
        rw [eh] at ch ⊢
        refine g_getr 4 61 rfl hS.k58 hM.f_58_4 (by decide) ?_
        have lb9 := le_b cb (r + 1) s s0 s9
        refine put _ _ M K hM F vM mo (by rw [er1]; rfl) (by rw [er1]; rfl) ?_ ?_ (fun _ x hx => ?_) hk
        · exact lb9.1
        · exact lb9.2
        · have c1 := ch x hx
          rw [show ((2 : Nat) : Int) * 1000 + 1000 = 3 * 1000 from rfl, ← er]
          exact c1
      have hh : h < H := by omega
      obtain ⟨t, et⟩ : ∃ t : Int, t = crR o D j lh lb n r h s := ⟨_, rfl⟩
      have tb := cb r h s hh s0 s9
      rw [← et] at tb
      refine ⟨hS.k58, ?_⟩
      refine zq_carried (k := 2) (h := h) hS hM cc eM kn1 hh s0 s9 (fun m1 hm1 f1 => ?_)
      rw [← er, ← et]
      have F1 : vF m m1 := fun c p b1 b2 b3 b4 => by rw [f1 c p b1 b2, F c p b1 b2 b3 b4]
      have g61 : m1 61 = M 61 := funext (fun p => f1 61 p (by omega) (by omega))
      have g62 : m1 62 = M 62 := funext (fun p => f1 62 p (by omega) (by omega))
      have v1' : VS o D H n lh lb j lo hi m1 := by
        unfold VS
        rw [g61, g62]
        exact vM
      refine g_C ?_
      refine g_A (by decide) (by decide) ?_
      refine ⟨hS.k58, ?_⟩
      refine zq_visit2 hS hm1 cc (e.keep cc.1 cc.2.1 F1) v1' (by omega) tb.1 tb.2 (fun m2 hm2 f2 v2' mo2 nn => ?_)
      have F2 : vF m m2 := fun c p b1 b2 b3 b4 => by rw [f2 c p b1 b2 b3 b4, F1 c p b1 b2 b3 b4]
      have mo' : MO m m2 := fun x hx => by
        have a := mo x hx
        have b := mo2 x (by rw [g61, a.1]; exact hx)
        rw [b.1, b.2, g61, g62]
        exact a
      obtain ⟨w1, w2, _⟩ := (v2' 3 t (by omega) tb.1 tb.2).resolve_left nn
      rw [er2] at w1 w2
      have w1' : m2 61 (3 * 1000 + t) = rwF H (crR o D j lh lb n) (okR lo hi) r t := w1
      have w2' : m2 62 (3 * 1000 + t) = leF H (crR o D j lh lb n) r t := w2
      have rb := rw_31 (cr := crR o D j lh lb n) (ok := okR lo hi) (r := r) (s := t) hH (by omega)
      have sb : 0 ≤ sumF (fun x => rwF H (crR o D j lh lb n) (okR lo hi) r (crR o D j lh lb n r x s)) h ∧ sumF (fun x => rwF H (crR o D j lh lb n) (okR lo hi) r (crR o D j lh lb n r x s)) h ≤ 15625 * (h : Int) := by
        have z1 := (sumF_0 (h := fun x => rwF H (crR o D j lh lb n) (okR lo hi) r (crR o D j lh lb n r x s)) h (fun x _ => (rw_31 hH (by omega)).1)).1
        refine ⟨z1, ?_⟩
        have z2 : ∀ q : Nat, sumF (fun x => rwF H (crR o D j lh lb n) (okR lo hi) r (crR o D j lh lb n r x s)) q ≤ 15625 * (q : Int) := by
          intro q
          induction q with
          | zero => exact Int.le_refl 0
          | succ q iq =>
            have z3 := (rw_31 (cr := crR o D j lh lb n) (ok := okR lo hi) (r := r) (s := crR o D j lh lb n r q s) hH (by omega)).2
            show sumF (fun x => rwF H (crR o D j lh lb n) (okR lo hi) r (crR o D j lh lb n r x s)) q + rwF H (crR o D j lh lb n) (okR lo hi) r (crR o D j lh lb n r q s) ≤ 15625 * ((q + 1 : Nat) : Int)
            omega
        exact z2 h
      refine g_getr 4 61 rfl hS.k58 hm2.f_58_4 (by decide) ?_
      refine g_C ?_
      refine g_A (by decide) (by decide) ?_
      refine g_C ?_
      refine g_M (by decide) (by decide) ?_
      refine g_A (by omega) (by omega) ?_
      refine g_ldu hS.k61 hS.l61 (by omega) (by omega) (fun v5 ev5 => ?_)
      have ev5' : v5 = rwF H (crR o D j lh lb n) (okR lo hi) r t := ev5.trans w1'
      rw [ev5']
      refine g_A (by omega) (by omega) ?_
      refine g_getr 5 62 rfl hS.k58 hm2.f_58_5 (by decide) ?_
      refine g_C ?_
      refine g_A (by decide) (by decide) ?_
      refine g_C ?_
      refine g_M (by decide) (by decide) ?_
      refine g_A (by omega) (by omega) ?_
      refine g_ldu hS.k62 hS.l62 (by omega) (by omega) (fun v6 ev6 => ?_)
      have ev6' : v6 = leF H (crR o D j lh lb n) r t := ev6.trans w2'
      refine g_Oe (fun v7 ev7 => ?_)
      rw [ev6'] at ev7
      refine g_A (by omega) (by omega) ?_
      have s1 : sumF (fun x => rwF H (crR o D j lh lb n) (okR lo hi) r (crR o D j lh lb n r x s)) h + rwF H (crR o D j lh lb n) (okR lo hi) r t = sumF (fun x => rwF H (crR o D j lh lb n) (okR lo hi) r (crR o D j lh lb n r x s)) (h + 1) := by rw [et]; rfl
      have s2 : v7 = mnF (fun x => leF H (crR o D j lh lb n) r (crR o D j lh lb n r x s)) (h + 1) := by rw [ev7, et]; rfl
      rw [s1, s2]
      refine ih (h + 1) m2 (by omega) hm2 F2 v2' mo' (fun x hx => ?_) (by omega)
      by_cases ex : x = h
      · rw [ex, ← et]
        exact nn
      · have c1 := ch x (by omega)
        have c2 := mo2 (3 * 1000 + crR o D j lh lb n r x s) (by rw [g61]; exact c1)
        rw [c2.1, g61]
        exact c1
  refine g_C ?_
  refine g_C ?_
  refine g_C ?_
  exact ⟨H + 1, L (H + 1) 0 m (by omega) hm (fun _ _ _ _ _ _ => rfl) v (fun _ _ => ⟨rfl, rfl⟩) (fun x hx => absurd hx (Nat.not_lt_zero x)) (by omega)⟩
theorem zq_visit4 {X : Mm} {S : Sh} {m : Mm} {K : Mm → Prop} {o : Option (List Cz)} {D : Int → Int} {H n : Nat} {lh lb : Nat → Int} {j lo hi s : Int} (hS : Shp S) (hm : Inv X S m) (cc : RvC D H n lh lb j) (e : RvE S o D n lh lb j lo hi m) (v : VS o D H n lh lb j lo hi m) (kn : 1 ≤ n) (s0 : 0 ≤ s) (s9 : s ≤ 999) (hk : ∀ M1 : Mm, Inv X S M1 → vF m M1 → VS o D H n lh lb j lo hi M1 → MO m M1 → ¬ M1 61 (1 * 1000 + s) = -1 → K M1) : wp_X2_visit_d4 S m 58 1 s K := by
  have n5 := cc.2.2.2.2.1
  have eH := cc.2.2.2.1
  have b4 := cc.1.1
  have hH : H ≤ 5 := by omega
  obtain ⟨e1, e2, e3, e4, e5, e6, e7, e8⟩ := id e
  refine u_X2_visit_d4 ?_
  refine g_C ?_
  refine g_M (by decide) (by decide) ?_
  refine g_A (by omega) (by omega) ?_
  refine g_C ?_
  refine g_ifF (by decide) ?_
  refine g_getr 4 61 rfl hS.k58 hm.f_58_4 (by decide) ?_
  refine g_ldu hS.k61 hS.l61 (by omega) (by omega) (fun v1 ev1 => ?_)
  refine g_C ?_
  refine g_if (fun z => ?_) (fun z => hk m hm (fun _ _ _ _ _ _ => rfl) v (fun _ _ => ⟨rfl, rfl⟩) (by rw [← ev1]; exact z))
  rw [ev1] at z
  refine g_getu 6 rfl hS.k58 (fun v2 ev2 => ?_)
  rw [e4] at ev2
  have put : ∀ (a b : Int) (M : Mm) (Q : Mm → Prop), Inv X S M → vF m M → VS o D H n lh lb j lo hi M → MO m M → a = rwF H (crR o D j lh lb n) (okR lo hi) (n - 1) s → b = leF H (crR o D j lh lb n) (n - 1) s → 0 ≤ b → b ≤ 999 → (1 < n → ∀ h : Nat, h < H → ¬ M 61 (((1 : Nat) : Int) * 1000 + 1000 + crR o D j lh lb n (n - 1 - 1) h s) = -1) → (∀ M1 : Mm, Inv X S M1 → vF m M1 → VS o D H n lh lb j lo hi M1 → MO m M1 → ¬ M1 61 (1 * 1000 + s) = -1 → Q M1) → wSt S M 61 14 (1 * 1000 + s) a fun M1 => wGetR S M1 58 2 5 fun v19 => wSt S M1 v19 14 (1 * 1000 + s) b fun M2 => Q M2 := by
    intro a b M Q hM F vM mo ea eb b0 b9 ch hq
    have rb := rw_31 (cr := crR o D j lh lb n) (ok := okR lo hi) (r := n - 1) (s := s) hH (by omega)
    rw [← ea] at rb
    refine g_st hS.k61 hS.l61 (by omega) (by omega) (hM.wa_61 (by omega) (by omega) (by omega) (by omega)) (fun m1 em1 hm1 => ?_)
    have f1 : ∀ c p : Int, ¬ (c = 61 ∧ p = 1 * 1000 + s) → m1 c p = M c p := fun c p q => (congrFun (congrFun em1 _) _).trans (up_ne q)
    have x1 : m1 61 (1 * 1000 + s) = a := (congrFun (congrFun em1 _) _).trans (up_at _ _ _ _)
    refine g_getr 5 62 rfl hS.k58 hm1.f_58_5 (by decide) ?_
    refine g_st hS.k62 hS.l62 (by omega) (by omega) (hm1.wa_62 (by omega) (by omega) (by omega) (by omega)) (fun m2 em2 hm2 => ?_)
    have f2 : ∀ c p : Int, ¬ (c = 62 ∧ p = 1 * 1000 + s) → m2 c p = m1 c p := fun c p q => (congrFun (congrFun em2 _) _).trans (up_ne q)
    have x2 : m2 62 (1 * 1000 + s) = b := (congrFun (congrFun em2 _) _).trans (up_at _ _ _ _)
    have G : ∀ x : Int, ¬ x = 1 * 1000 + s → m2 61 x = M 61 x ∧ m2 62 x = M 62 x := fun x hx => ⟨by rw [f2 61 x (by omega), f1 61 x (by omega)], by rw [f2 62 x (by omega), f1 62 x (by omega)]⟩
    obtain ⟨w1, w2⟩ := VS.put (k := 1) (M := m2) hH n5 vM kn s0 s9 G (by rw [f2 61 _ (by omega)]; exact x1.trans ea) (x2.trans eb) (fun q h hh => by
      have c1 := ch q h hh
      rw [show ((1 : Nat) : Int) * 1000 + 1000 = (((1 : Nat) : Int) + 1) * 1000 by omega] at c1
      exact c1)
    refine hq m2 hm2 (fun c p b1 b2 b3 b4 => by rw [f2 c p (by omega), f1 c p (by omega), F c p b1 b2 b3 b4]) w1 (fun x hx => ?_) w2
    have ne : ¬ x = 1 * 1000 + s := fun q => hx (by rw [q]; exact z)
    rw [(G x ne).1, (G x ne).2]
    exact mo x hx
  have leaf : n = 1 → wGetR S m 58 2 4 fun v32 => wGet S m 58 2 9 fun v34 => wIf (s < v34) (wp_X2_visit_d4_57 S K 58 s (1 * 1000 + s) v32 (1 * 1000 + s) m) (wGet S m 58 2 10 fun v36 => wIf (v36 < s) (wp_X2_visit_d4_57 S K 58 s (1 * 1000 + s) v32 (1 * 1000 + s) m) (wC 1 fun v38 => wp_X2_visit_d4_58 S K 58 s (1 * 1000 + s) v32 (1 * 1000 + s) v38 m)) := by
    intro en
    have r0 : ∀ b : Bool, okR lo hi s = b → (if b = true then (1 : Int) else 0) = rwF H (crR o D j lh lb n) (okR lo hi) (n - 1) s := fun b eb => by
      rw [en, show 1 - 1 = 0 from rfl]
      show _ = if okR lo hi s = true then (1 : Int) else 0
      rw [eb]
    have l0 : s = leF H (crR o D j lh lb n) (n - 1) s := by
      rw [en, show 1 - 1 = 0 from rfl]
      rfl
    have no : ¬ (lo ≤ s ∧ s ≤ hi) → wp_X2_visit_d4_57 S K 58 s (1 * 1000 + s) 61 (1 * 1000 + s) m := fun q => by
      refine u_X2_visit_d4_57 ?_
      refine g_C ?_
      refine u_X2_visit_d4_58 ?_
      exact put 0 s m K hm (fun _ _ _ _ _ _ => rfl) v (fun _ _ => ⟨rfl, rfl⟩) (r0 false (decide_eq_false q)) l0 s0 s9 (fun q => absurd q (by omega)) hk
    refine g_getr 4 61 rfl hS.k58 hm.f_58_4 (by decide) ?_
    refine g_getu 9 rfl hS.k58 (fun v3 ev3 => ?_)
    rw [e6] at ev3
    refine g_if (fun q => no (fun y => by omega)) (fun q => ?_)
    refine g_getu 10 rfl hS.k58 (fun v4 ev4 => ?_)
    rw [e7] at ev4
    refine g_if (fun q2 => no (fun y => by omega)) (fun q2 => ?_)
    refine g_C ?_
    refine u_X2_visit_d4_58 ?_
    exact put 1 s m K hm (fun _ _ _ _ _ _ => rfl) v (fun _ _ => ⟨rfl, rfl⟩) (r0 true (decide_eq_true ⟨by omega, by omega⟩)) l0 s0 s9 (fun q => absurd q (by omega)) hk
  refine g_if (fun q => ?_) (fun q => leaf (by omega))
  have kn1 : 1 < n := by omega
  obtain ⟨r, er⟩ : ∃ r : Nat, r = n - 1 - 1 := ⟨_, rfl⟩
  have er1 : n - 1 = r + 1 := by omega
  have er2 : n - 2 = r := by omega
  have cb := crR_b (o := o) (D := D) (j := j) (lh := lh) (lb := lb) (n := n) (H := H) cc.2.2.1 hH
  have L : ∀ (l h : Nat) (M : Mm), h ≤ H → Inv X S M → vF m M → VS o D H n lh lb j lo hi M → MO m M → (∀ x : Nat, x < h → ¬ M 61 (2 * 1000 + crR o D j lh lb n r x s) = -1) → H + 1 - h ≤ l → wp_X2_visit_d4_78 S K l 58 1 s (1 * 1000 + s) (sumF (fun x => rwF H (crR o D j lh lb n) (okR lo hi) r (crR o D j lh lb n r x s)) h) (mnF (fun x => leF H (crR o D j lh lb n) r (crR o D j lh lb n r x s)) h) h M := by
    intro l
    induction l with
    | zero => intro h M h1 _ _ _ _ _ hl; exfalso; omega
    | succ l ih =>
      intro h M h1 hM F vM mo ch hl
      have eM := e.keep cc.1 cc.2.1 F
      refine u_X2_visit_d4_78 ?_
      refine g_getr 1 4 rfl hS.k58 hM.f_58_1 (by decide) ?_
      refine g_getu 4 rfl hS.k4 (fun v3 ev3 => ?_)
      rw [eM.2.1.1.2.2.2.2.1] at ev3
      refine g_if (fun q2 => ?_) (fun q2 => ?_)
      · have eh : h = H := by omega
        rw [eh] at ch ⊢
        refine g_getr 4 61 rfl hS.k58 hM.f_58_4 (by decide) ?_
        have lb9 := le_b cb (r + 1) s s0 s9
        refine put _ _ M K hM F vM mo (by rw [er1]; rfl) (by rw [er1]; rfl) ?_ ?_ (fun _ x hx => ?_) hk
        · exact lb9.1
        · exact lb9.2
        · have c1 := ch x hx
          rw [show ((1 : Nat) : Int) * 1000 + 1000 = 2 * 1000 from rfl, ← er]
          exact c1
      have hh : h < H := by omega
      obtain ⟨t, et⟩ : ∃ t : Int, t = crR o D j lh lb n r h s := ⟨_, rfl⟩
      have tb := cb r h s hh s0 s9
      rw [← et] at tb
      refine ⟨hS.k58, ?_⟩
      refine zq_carried (k := 1) (h := h) hS hM cc eM kn1 hh s0 s9 (fun m1 hm1 f1 => ?_)
      rw [← er, ← et]
      have F1 : vF m m1 := fun c p b1 b2 b3 b4 => by rw [f1 c p b1 b2, F c p b1 b2 b3 b4]
      have g61 : m1 61 = M 61 := funext (fun p => f1 61 p (by omega) (by omega))
      have g62 : m1 62 = M 62 := funext (fun p => f1 62 p (by omega) (by omega))
      have v1' : VS o D H n lh lb j lo hi m1 := by
        unfold VS
        rw [g61, g62]
        exact vM
      refine g_C ?_
      refine g_A (by decide) (by decide) ?_
      refine ⟨hS.k58, ?_⟩
      refine zq_visit3 hS hm1 cc (e.keep cc.1 cc.2.1 F1) v1' (by omega) tb.1 tb.2 (fun m2 hm2 f2 v2' mo2 nn => ?_)
      have F2 : vF m m2 := fun c p b1 b2 b3 b4 => by rw [f2 c p b1 b2 b3 b4, F1 c p b1 b2 b3 b4]
      have mo' : MO m m2 := fun x hx => by
        have a := mo x hx
        have b := mo2 x (by rw [g61, a.1]; exact hx)
        rw [b.1, b.2, g61, g62]
        exact a
      obtain ⟨w1, w2, _⟩ := (v2' 2 t (by omega) tb.1 tb.2).resolve_left nn
      rw [er2] at w1 w2
      have w1' : m2 61 (2 * 1000 + t) = rwF H (crR o D j lh lb n) (okR lo hi) r t := w1
      have w2' : m2 62 (2 * 1000 + t) = leF H (crR o D j lh lb n) r t := w2
      have rb := rw_31 (cr := crR o D j lh lb n) (ok := okR lo hi) (r := r) (s := t) hH (by omega)
      have sb : 0 ≤ sumF (fun x => rwF H (crR o D j lh lb n) (okR lo hi) r (crR o D j lh lb n r x s)) h ∧ sumF (fun x => rwF H (crR o D j lh lb n) (okR lo hi) r (crR o D j lh lb n r x s)) h ≤ 15625 * (h : Int) := by
        have z1 := (sumF_0 (h := fun x => rwF H (crR o D j lh lb n) (okR lo hi) r (crR o D j lh lb n r x s)) h (fun x _ => (rw_31 hH (by omega)).1)).1
        refine ⟨z1, ?_⟩
        have z2 : ∀ q : Nat, sumF (fun x => rwF H (crR o D j lh lb n) (okR lo hi) r (crR o D j lh lb n r x s)) q ≤ 15625 * (q : Int) := by
          intro q
          induction q with
          | zero => exact Int.le_refl 0
          | succ q iq =>
            have z3 := (rw_31 (cr := crR o D j lh lb n) (ok := okR lo hi) (r := r) (s := crR o D j lh lb n r q s) hH (by omega)).2
            show sumF (fun x => rwF H (crR o D j lh lb n) (okR lo hi) r (crR o D j lh lb n r x s)) q + rwF H (crR o D j lh lb n) (okR lo hi) r (crR o D j lh lb n r q s) ≤ 15625 * ((q + 1 : Nat) : Int)
            omega
        exact z2 h
      refine g_getr 4 61 rfl hS.k58 hm2.f_58_4 (by decide) ?_
      refine g_C ?_
      refine g_A (by decide) (by decide) ?_
      refine g_C ?_
      refine g_M (by decide) (by decide) ?_
      refine g_A (by omega) (by omega) ?_
      refine g_ldu hS.k61 hS.l61 (by omega) (by omega) (fun v5 ev5 => ?_)
      have ev5' : v5 = rwF H (crR o D j lh lb n) (okR lo hi) r t := ev5.trans w1'
      rw [ev5']
      refine g_A (by omega) (by omega) ?_
      refine g_getr 5 62 rfl hS.k58 hm2.f_58_5 (by decide) ?_
      refine g_C ?_
      refine g_A (by decide) (by decide) ?_
      refine g_C ?_
      refine g_M (by decide) (by decide) ?_
      refine g_A (by omega) (by omega) ?_
      refine g_ldu hS.k62 hS.l62 (by omega) (by omega) (fun v6 ev6 => ?_)
      have ev6' : v6 = leF H (crR o D j lh lb n) r t := ev6.trans w2'
      refine g_Oe (fun v7 ev7 => ?_)
      rw [ev6'] at ev7
      refine g_A (by omega) (by omega) ?_
      have s1 : sumF (fun x => rwF H (crR o D j lh lb n) (okR lo hi) r (crR o D j lh lb n r x s)) h + rwF H (crR o D j lh lb n) (okR lo hi) r t = sumF (fun x => rwF H (crR o D j lh lb n) (okR lo hi) r (crR o D j lh lb n r x s)) (h + 1) := by rw [et]; rfl
      have s2 : v7 = mnF (fun x => leF H (crR o D j lh lb n) r (crR o D j lh lb n r x s)) (h + 1) := by rw [ev7, et]; rfl
      rw [s1, s2]
      refine ih (h + 1) m2 (by omega) hm2 F2 v2' mo' (fun x hx => ?_) (by omega)
      by_cases ex : x = h
      · rw [ex, ← et]
        exact nn
      · have c1 := ch x (by omega)
        have c2 := mo2 (2 * 1000 + crR o D j lh lb n r x s) (by rw [g61]; exact c1)
        rw [c2.1, g61]
        exact c1
  refine g_C ?_
  refine g_C ?_
  refine g_C ?_
  exact ⟨H + 1, L (H + 1) 0 m (by omega) hm (fun _ _ _ _ _ _ => rfl) v (fun _ _ => ⟨rfl, rfl⟩) (fun x hx => absurd hx (Nat.not_lt_zero x)) (by omega)⟩
theorem zq_visit5 {X : Mm} {S : Sh} {m : Mm} {K : Mm → Prop} {o : Option (List Cz)} {D : Int → Int} {H n : Nat} {lh lb : Nat → Int} {j lo hi s : Int} (hS : Shp S) (hm : Inv X S m) (cc : RvC D H n lh lb j) (e : RvE S o D n lh lb j lo hi m) (v : VS o D H n lh lb j lo hi m) (kn : 0 ≤ n) (s0 : 0 ≤ s) (s9 : s ≤ 999) (hk : ∀ M1 : Mm, Inv X S M1 → vF m M1 → VS o D H n lh lb j lo hi M1 → MO m M1 → ¬ M1 61 (0 * 1000 + s) = -1 → K M1) : wp_X2_visit_d5 S m 58 0 s K := by
  have n5 := cc.2.2.2.2.1
  have eH := cc.2.2.2.1
  have b4 := cc.1.1
  have hH : H ≤ 5 := by omega
  obtain ⟨e1, e2, e3, e4, e5, e6, e7, e8⟩ := id e
  refine u_X2_visit_d5 ?_
  refine g_C ?_
  refine g_M (by decide) (by decide) ?_
  refine g_A (by omega) (by omega) ?_
  refine g_C ?_
  refine g_ifF (by decide) ?_
  refine g_getr 4 61 rfl hS.k58 hm.f_58_4 (by decide) ?_
  refine g_ldu hS.k61 hS.l61 (by omega) (by omega) (fun v1 ev1 => ?_)
  refine g_C ?_
  refine g_if (fun z => ?_) (fun z => hk m hm (fun _ _ _ _ _ _ => rfl) v (fun _ _ => ⟨rfl, rfl⟩) (by rw [← ev1]; exact z))
  rw [ev1] at z
  refine g_getu 6 rfl hS.k58 (fun v2 ev2 => ?_)
  rw [e4] at ev2
  have put : ∀ (a b : Int) (M : Mm) (Q : Mm → Prop), Inv X S M → vF m M → VS o D H n lh lb j lo hi M → MO m M → a = rwF H (crR o D j lh lb n) (okR lo hi) (n - 0) s → b = leF H (crR o D j lh lb n) (n - 0) s → 0 ≤ b → b ≤ 999 → (0 < n → ∀ h : Nat, h < H → ¬ M 61 (((0 : Nat) : Int) * 1000 + 1000 + crR o D j lh lb n (n - 1 - 0) h s) = -1) → (∀ M1 : Mm, Inv X S M1 → vF m M1 → VS o D H n lh lb j lo hi M1 → MO m M1 → ¬ M1 61 (0 * 1000 + s) = -1 → Q M1) → wSt S M 61 14 (0 * 1000 + s) a fun M1 => wGetR S M1 58 2 5 fun v19 => wSt S M1 v19 14 (0 * 1000 + s) b fun M2 => Q M2 := by
    intro a b M Q hM F vM mo ea eb b0 b9 ch hq
    have rb := rw_31 (cr := crR o D j lh lb n) (ok := okR lo hi) (r := n - 0) (s := s) hH (by omega)
    rw [← ea] at rb
    refine g_st hS.k61 hS.l61 (by omega) (by omega) (hM.wa_61 (by omega) (by omega) (by omega) (by omega)) (fun m1 em1 hm1 => ?_)
    have f1 : ∀ c p : Int, ¬ (c = 61 ∧ p = 0 * 1000 + s) → m1 c p = M c p := fun c p q => (congrFun (congrFun em1 _) _).trans (up_ne q)
    have x1 : m1 61 (0 * 1000 + s) = a := (congrFun (congrFun em1 _) _).trans (up_at _ _ _ _)
    refine g_getr 5 62 rfl hS.k58 hm1.f_58_5 (by decide) ?_
    refine g_st hS.k62 hS.l62 (by omega) (by omega) (hm1.wa_62 (by omega) (by omega) (by omega) (by omega)) (fun m2 em2 hm2 => ?_)
    have f2 : ∀ c p : Int, ¬ (c = 62 ∧ p = 0 * 1000 + s) → m2 c p = m1 c p := fun c p q => (congrFun (congrFun em2 _) _).trans (up_ne q)
    have x2 : m2 62 (0 * 1000 + s) = b := (congrFun (congrFun em2 _) _).trans (up_at _ _ _ _)
    have G : ∀ x : Int, ¬ x = 0 * 1000 + s → m2 61 x = M 61 x ∧ m2 62 x = M 62 x := fun x hx => ⟨by rw [f2 61 x (by omega), f1 61 x (by omega)], by rw [f2 62 x (by omega), f1 62 x (by omega)]⟩
    obtain ⟨w1, w2⟩ := VS.put (k := 0) (M := m2) hH n5 vM kn s0 s9 G (by rw [f2 61 _ (by omega)]; exact x1.trans ea) (x2.trans eb) (fun q h hh => by
      have c1 := ch q h hh
      rw [show ((0 : Nat) : Int) * 1000 + 1000 = (((0 : Nat) : Int) + 1) * 1000 by omega] at c1
      exact c1)
    refine hq m2 hm2 (fun c p b1 b2 b3 b4 => by rw [f2 c p (by omega), f1 c p (by omega), F c p b1 b2 b3 b4]) w1 (fun x hx => ?_) w2
    have ne : ¬ x = 0 * 1000 + s := fun q => hx (by rw [q]; exact z)
    rw [(G x ne).1, (G x ne).2]
    exact mo x hx
  have leaf : n = 0 → wGetR S m 58 2 4 fun v32 => wGet S m 58 2 9 fun v34 => wIf (s < v34) (wp_X2_visit_d5_57 S K 58 s (0 * 1000 + s) v32 (0 * 1000 + s) m) (wGet S m 58 2 10 fun v36 => wIf (v36 < s) (wp_X2_visit_d5_57 S K 58 s (0 * 1000 + s) v32 (0 * 1000 + s) m) (wC 1 fun v38 => wp_X2_visit_d5_58 S K 58 s (0 * 1000 + s) v32 (0 * 1000 + s) v38 m)) := by
    intro en
    have r0 : ∀ b : Bool, okR lo hi s = b → (if b = true then (1 : Int) else 0) = rwF H (crR o D j lh lb n) (okR lo hi) (n - 0) s := fun b eb => by
      rw [en, show 0 - 0 = 0 from rfl]
      show _ = if okR lo hi s = true then (1 : Int) else 0
      rw [eb]
    have l0 : s = leF H (crR o D j lh lb n) (n - 0) s := by
      rw [en, show 0 - 0 = 0 from rfl]
      rfl
    have no : ¬ (lo ≤ s ∧ s ≤ hi) → wp_X2_visit_d5_57 S K 58 s (0 * 1000 + s) 61 (0 * 1000 + s) m := fun q => by
      refine u_X2_visit_d5_57 ?_
      refine g_C ?_
      refine u_X2_visit_d5_58 ?_
      exact put 0 s m K hm (fun _ _ _ _ _ _ => rfl) v (fun _ _ => ⟨rfl, rfl⟩) (r0 false (decide_eq_false q)) l0 s0 s9 (fun q => absurd q (by omega)) hk
    refine g_getr 4 61 rfl hS.k58 hm.f_58_4 (by decide) ?_
    refine g_getu 9 rfl hS.k58 (fun v3 ev3 => ?_)
    rw [e6] at ev3
    refine g_if (fun q => no (fun y => by omega)) (fun q => ?_)
    refine g_getu 10 rfl hS.k58 (fun v4 ev4 => ?_)
    rw [e7] at ev4
    refine g_if (fun q2 => no (fun y => by omega)) (fun q2 => ?_)
    refine g_C ?_
    refine u_X2_visit_d5_58 ?_
    exact put 1 s m K hm (fun _ _ _ _ _ _ => rfl) v (fun _ _ => ⟨rfl, rfl⟩) (r0 true (decide_eq_true ⟨by omega, by omega⟩)) l0 s0 s9 (fun q => absurd q (by omega)) hk
  refine g_if (fun q => ?_) (fun q => leaf (by omega))
  have kn1 : 0 < n := by omega
  obtain ⟨r, er⟩ : ∃ r : Nat, r = n - 1 - 0 := ⟨_, rfl⟩
  have er1 : n - 0 = r + 1 := by omega
  have er2 : n - 1 = r := by omega
  have cb := crR_b (o := o) (D := D) (j := j) (lh := lh) (lb := lb) (n := n) (H := H) cc.2.2.1 hH
  have L : ∀ (l h : Nat) (M : Mm), h ≤ H → Inv X S M → vF m M → VS o D H n lh lb j lo hi M → MO m M → (∀ x : Nat, x < h → ¬ M 61 (1 * 1000 + crR o D j lh lb n r x s) = -1) → H + 1 - h ≤ l → wp_X2_visit_d5_78 S K l 58 0 s (0 * 1000 + s) (sumF (fun x => rwF H (crR o D j lh lb n) (okR lo hi) r (crR o D j lh lb n r x s)) h) (mnF (fun x => leF H (crR o D j lh lb n) r (crR o D j lh lb n r x s)) h) h M := by
    intro l
    induction l with
    | zero => intro h M h1 _ _ _ _ _ hl; exfalso; omega
    | succ l ih =>
      intro h M h1 hM F vM mo ch hl
      have eM := e.keep cc.1 cc.2.1 F
      refine u_X2_visit_d5_78 ?_
      refine g_getr 1 4 rfl hS.k58 hM.f_58_1 (by decide) ?_
      refine g_getu 4 rfl hS.k4 (fun v3 ev3 => ?_)
      rw [eM.2.1.1.2.2.2.2.1] at ev3
      refine g_if (fun q2 => ?_) (fun q2 => ?_)
      · have eh : h = H := by omega
        rw [eh] at ch ⊢
        refine g_getr 4 61 rfl hS.k58 hM.f_58_4 (by decide) ?_
        have lb9 := le_b cb (r + 1) s s0 s9
        refine put _ _ M K hM F vM mo (by rw [er1]; rfl) (by rw [er1]; rfl) ?_ ?_ (fun _ x hx => ?_) hk
        · exact lb9.1
        · exact lb9.2
        · have c1 := ch x hx
          rw [show ((0 : Nat) : Int) * 1000 + 1000 = 1 * 1000 from rfl, ← er]
          exact c1
      have hh : h < H := by omega
      obtain ⟨t, et⟩ : ∃ t : Int, t = crR o D j lh lb n r h s := ⟨_, rfl⟩
      have tb := cb r h s hh s0 s9
      rw [← et] at tb
      refine ⟨hS.k58, ?_⟩
      refine zq_carried (k := 0) (h := h) hS hM cc eM kn1 hh s0 s9 (fun m1 hm1 f1 => ?_)
      rw [← er, ← et]
      have F1 : vF m m1 := fun c p b1 b2 b3 b4 => by rw [f1 c p b1 b2, F c p b1 b2 b3 b4]
      have g61 : m1 61 = M 61 := funext (fun p => f1 61 p (by omega) (by omega))
      have g62 : m1 62 = M 62 := funext (fun p => f1 62 p (by omega) (by omega))
      have v1' : VS o D H n lh lb j lo hi m1 := by
        unfold VS
        rw [g61, g62]
        exact vM
      refine g_C ?_
      refine g_A (by decide) (by decide) ?_
      refine ⟨hS.k58, ?_⟩
      refine zq_visit4 hS hm1 cc (e.keep cc.1 cc.2.1 F1) v1' (by omega) tb.1 tb.2 (fun m2 hm2 f2 v2' mo2 nn => ?_)
      have F2 : vF m m2 := fun c p b1 b2 b3 b4 => by rw [f2 c p b1 b2 b3 b4, F1 c p b1 b2 b3 b4]
      have mo' : MO m m2 := fun x hx => by
        have a := mo x hx
        have b := mo2 x (by rw [g61, a.1]; exact hx)
        rw [b.1, b.2, g61, g62]
        exact a
      obtain ⟨w1, w2, _⟩ := (v2' 1 t (by omega) tb.1 tb.2).resolve_left nn
      rw [er2] at w1 w2
      have w1' : m2 61 (1 * 1000 + t) = rwF H (crR o D j lh lb n) (okR lo hi) r t := w1
      have w2' : m2 62 (1 * 1000 + t) = leF H (crR o D j lh lb n) r t := w2
      have rb := rw_31 (cr := crR o D j lh lb n) (ok := okR lo hi) (r := r) (s := t) hH (by omega)
      have sb : 0 ≤ sumF (fun x => rwF H (crR o D j lh lb n) (okR lo hi) r (crR o D j lh lb n r x s)) h ∧ sumF (fun x => rwF H (crR o D j lh lb n) (okR lo hi) r (crR o D j lh lb n r x s)) h ≤ 15625 * (h : Int) := by
        have z1 := (sumF_0 (h := fun x => rwF H (crR o D j lh lb n) (okR lo hi) r (crR o D j lh lb n r x s)) h (fun x _ => (rw_31 hH (by omega)).1)).1
        refine ⟨z1, ?_⟩
        have z2 : ∀ q : Nat, sumF (fun x => rwF H (crR o D j lh lb n) (okR lo hi) r (crR o D j lh lb n r x s)) q ≤ 15625 * (q : Int) := by
          intro q
          induction q with
          | zero => exact Int.le_refl 0
          | succ q iq =>
            have z3 := (rw_31 (cr := crR o D j lh lb n) (ok := okR lo hi) (r := r) (s := crR o D j lh lb n r q s) hH (by omega)).2
            show sumF (fun x => rwF H (crR o D j lh lb n) (okR lo hi) r (crR o D j lh lb n r x s)) q + rwF H (crR o D j lh lb n) (okR lo hi) r (crR o D j lh lb n r q s) ≤ 15625 * ((q + 1 : Nat) : Int)
            omega
        exact z2 h
      refine g_getr 4 61 rfl hS.k58 hm2.f_58_4 (by decide) ?_
      refine g_C ?_
      refine g_A (by decide) (by decide) ?_
      refine g_C ?_
      refine g_M (by decide) (by decide) ?_
      refine g_A (by omega) (by omega) ?_
      refine g_ldu hS.k61 hS.l61 (by omega) (by omega) (fun v5 ev5 => ?_)
      have ev5' : v5 = rwF H (crR o D j lh lb n) (okR lo hi) r t := ev5.trans w1'
      rw [ev5']
      refine g_A (by omega) (by omega) ?_
      refine g_getr 5 62 rfl hS.k58 hm2.f_58_5 (by decide) ?_
      refine g_C ?_
      refine g_A (by decide) (by decide) ?_
      refine g_C ?_
      refine g_M (by decide) (by decide) ?_
      refine g_A (by omega) (by omega) ?_
      refine g_ldu hS.k62 hS.l62 (by omega) (by omega) (fun v6 ev6 => ?_)
      have ev6' : v6 = leF H (crR o D j lh lb n) r t := ev6.trans w2'
      refine g_Oe (fun v7 ev7 => ?_)
      rw [ev6'] at ev7
      refine g_A (by omega) (by omega) ?_
      have s1 : sumF (fun x => rwF H (crR o D j lh lb n) (okR lo hi) r (crR o D j lh lb n r x s)) h + rwF H (crR o D j lh lb n) (okR lo hi) r t = sumF (fun x => rwF H (crR o D j lh lb n) (okR lo hi) r (crR o D j lh lb n r x s)) (h + 1) := by rw [et]; rfl
      have s2 : v7 = mnF (fun x => leF H (crR o D j lh lb n) r (crR o D j lh lb n r x s)) (h + 1) := by rw [ev7, et]; rfl
      rw [s1, s2]
      refine ih (h + 1) m2 (by omega) hm2 F2 v2' mo' (fun x hx => ?_) (by omega)
      by_cases ex : x = h
      · rw [ex, ← et]
        exact nn
      · have c1 := ch x (by omega)
        have c2 := mo2 (1 * 1000 + crR o D j lh lb n r x s) (by rw [g61]; exact c1)
        rw [c2.1, g61]
        exact c1
  refine g_C ?_
  refine g_C ?_
  refine g_C ?_
  exact ⟨H + 1, L (H + 1) 0 m (by omega) hm (fun _ _ _ _ _ _ => rfl) v (fun _ _ => ⟨rfl, rfl⟩) (fun x hx => absurd hx (Nat.not_lt_zero x)) (by omega)⟩
theorem zq_firstHand {X : Mm} {S : Sh} {m : Mm} {K : Int → Mm → Prop} {o : Option (List Cz)} {D : Int → Int} {H n k r : Nat} {lh lb : Nat → Int} {j lo hi s : Int} (hS : Shp S) (hm : Inv X S m) (cc : RvC D H n lh lb j) (e : RvE S o D n lh lb j lo hi m) (v : VS o D H n lh lb j lo hi m) (en : n = k + 1 + r) (s0 : 0 ≤ s) (s9 : s ≤ 999) (vi : ¬ m 61 ((k : Int) * 1000 + s) = -1) (hk : ∀ M1 : Mm, Inv X S M1 → (∀ c p : Int, ¬ c = 56 → ¬ (c = 55 ∧ 4 ≤ p) → M1 c p = m c p) → K ((fhF H (crR o D j lh lb n) (okR lo hi) r s : Nat) : Int) M1) : wp_X2_firstHand S m 58 k s K := by
  have n5 := cc.2.2.2.2.1
  have eH := cc.2.2.2.1
  have b4 := cc.1.1
  have hH : H ≤ 5 := by omega
  have cb := crR_b (o := o) (D := D) (j := j) (lh := lh) (lb := lb) (n := n) (H := H) cc.2.2.1 hH
  obtain ⟨_, _, ch⟩ := (v k s (by omega) s0 s9).resolve_left vi
  have er : n - 1 - k = r := by omega
  have L : ∀ (l q h : Nat) (M : Mm), q + h = H → Inv X S M → (∀ c p : Int, ¬ c = 56 → ¬ (c = 55 ∧ 4 ≤ p) → M c p = m c p) → fnF (fun h => decide (0 < rwF H (crR o D j lh lb n) (okR lo hi) r (crR o D j lh lb n r h s))) q h = fhF H (crR o D j lh lb n) (okR lo hi) r s → q + 1 ≤ l → wp_X2_firstHand_2 S K l 58 k s h M := by
    intro l
    induction l with
    | zero => intro q h M _ _ _ _ hl; exfalso; omega
    | succ l ih =>
      intro q h M hq hM F ef hl
      have eM : RvE S o D n lh lb j lo hi M := e.keep cc.1 cc.2.1 (fun c p b1 b2 _ _ => F c p b1 b2)
      refine u_X2_firstHand_2 ?_
      refine g_getr 1 4 rfl hS.k58 hM.f_58_1 (by decide) ?_
      refine g_getu 4 rfl hS.k4 (fun v3 ev3 => ?_)
      rw [eM.2.1.1.2.2.2.2.1] at ev3
      refine g_if (fun q2 => ?_) (fun q2 => ?_)
      · have eq : q = 0 := by omega
        rw [eq] at ef
        have ef2 : (0 : Nat) = fhF H (crR o D j lh lb n) (okR lo hi) r s := ef
        refine g_C ?_
        have z := hk M hM F
        rw [← ef2] at z
        exact z
      have hh : h < H := by omega
      obtain ⟨q', eq⟩ : ∃ q' : Nat, q = q' + 1 := ⟨q - 1, by omega⟩
      subst eq
      obtain ⟨t, et⟩ : ∃ t : Int, t = crR o D j lh lb n r h s := ⟨_, rfl⟩
      have tb := cb r h s hh s0 s9
      rw [← et] at tb
      refine g_getr 4 61 rfl hS.k58 hM.f_58_4 (by decide) ?_
      refine g_C ?_
      refine g_A (by omega) (by omega) ?_
      refine g_C ?_
      refine g_M (by omega) (by omega) ?_
      refine ⟨hS.k58, ?_⟩
      refine zq_carried (k := k) (h := h) hS hM cc eM (by omega) hh s0 s9 (fun m1 hm1 f1 => ?_)
      rw [er, ← et]
      refine g_A (by omega) (by omega) ?_
      refine g_ldu hS.k61 hS.l61 (by omega) (by omega) (fun v5 ev5 => ?_)
      rw [f1 61 _ (by omega) (by omega), F 61 _ (by omega) (by omega)] at ev5
      have c1 := ch (by omega) h hh
      rw [er, ← et] at c1
      obtain ⟨w1, _, _⟩ := (v (k + 1) t (by omega) tb.1 tb.2).resolve_left c1
      rw [show n - (k + 1) = r by omega] at w1
      have w1' : v5 = rwF H (crR o D j lh lb n) (okR lo hi) r t := ev5.trans w1
      have F1 : ∀ c p : Int, ¬ c = 56 → ¬ (c = 55 ∧ 4 ≤ p) → m1 c p = m c p := fun c p b1 b2 => by rw [f1 c p b1 b2, F c p b1 b2]
      refine g_if (fun z => ?_) (fun z => ?_)
      · have e1 : fnF (fun h => decide (0 < rwF H (crR o D j lh lb n) (okR lo hi) r (crR o D j lh lb n r h s))) (q' + 1) h = fnF (fun h => decide (0 < rwF H (crR o D j lh lb n) (okR lo hi) r (crR o D j lh lb n r h s))) q' (h + 1) := if_neg (fun y => by
          have y2 := of_decide_eq_true y
          rw [← et] at y2
          omega)
        rw [e1] at ef
        refine g_A (by omega) (by omega) ?_
        exact ih q' (h + 1) m1 (by omega) hm1 F1 ef (by omega)
      · have e1 : fnF (fun h => decide (0 < rwF H (crR o D j lh lb n) (okR lo hi) r (crR o D j lh lb n r h s))) (q' + 1) h = h := if_pos (decide_eq_true (by rw [← et]; omega))
        rw [e1] at ef
        have z2 := hk m1 hm1 F1
        rw [← ef] at z2
        exact z2
  refine u_X2_firstHand ?_
  refine g_C ?_
  exact ⟨H + 1, L (H + 1) H 0 m (by omega) hm (fun _ _ _ _ => rfl) rfl (by omega)⟩
theorem zq_ofFirst {X : Mm} {S : Sh} {m : Mm} {K : Int → Mm → Prop} {o : Option (List Cz)} {D : Int → Int} {H n : Nat} {lh lb : Nat → Int} {j lo hi s w : Int} (hS : Shp S) (hm : Inv X S m) (cc : RvC D H n lh lb j) (e : RvE S o D n lh lb j lo hi m) (v : VS o D H n lh lb j lo hi m) (s0 : 0 ≤ s) (s9 : s ≤ 999) (e8 : m 58 8 = s) (vi : ¬ m 61 s = -1) (w0 : 0 ≤ w) (w9 : w ≤ 9) (h0 : (rwF H (crR o D j lh lb n) (okR lo hi) n s = 0 ∨ (n : Int) ≤ w) → K (-2) m) (hk : ∀ (i r : Nat) (M1 : Mm), Inv X S M1 → (∀ c p : Int, ¬ c = 56 → ¬ (c = 55 ∧ 4 ≤ p) → M1 c p = m c p) → 0 < rwF H (crR o D j lh lb n) (okR lo hi) n s → w = (i : Int) → n = i + 1 + r → K ((fhF H (crR o D j lh lb n) (okR lo hi) r (tpF H (crR o D j lh lb n) (okR lo hi) n s i) : Nat) : Int) M1) : wp_X2_handOfFirst S m 58 w K := by
  have n5 := cc.2.2.2.2.1
  have eH := cc.2.2.2.1
  have b4 := cc.1.1
  have hH : H ≤ 5 := by omega
  have cb := crR_b (o := o) (D := D) (j := j) (lh := lh) (lb := lb) (n := n) (H := H) cc.2.2.1 hH
  obtain ⟨z1, z2, z3⟩ := (v 0 s (Nat.zero_le n) s0 s9).resolve_left (by rw [show ((0 : Nat) : Int) * 1000 + s = s by omega]; exact vi)
  rw [show ((0 : Nat) : Int) * 1000 + s = s by omega, Nat.sub_zero] at z1
  refine u_X2_handOfFirst ?_
  refine g_getu 6 rfl hS.k58 (fun v1 ev1 => ?_)
  rw [e.2.2.2.1] at ev1
  refine g_if (fun q => g_C (h0 (Or.inr (by omega)))) (fun q => ?_)
  refine ⟨hS.k58, ?_⟩
  refine u_X2_howMany ?_
  refine g_getr 4 61 rfl hS.k58 hm.f_58_4 (by decide) ?_
  refine g_getu 8 rfl hS.k58 (fun v2 ev2 => ?_)
  rw [e8] at ev2
  rw [ev2]
  refine g_ldu hS.k61 hS.l61 s0 (by omega) (fun v3 ev3 => ?_)
  rw [z1] at ev3
  have rb := rw_31 (cr := crR o D j lh lb n) (ok := okR lo hi) (r := n) (s := s) hH n5
  refine g_if (fun q2 => ?_) (fun q2 => g_C (h0 (Or.inl (by omega))))
  have pos : 0 < rwF H (crR o D j lh lb n) (okR lo hi) n s := by omega
  refine g_getu 8 rfl hS.k58 (fun v4 ev4 => ?_)
  rw [e8] at ev4
  rw [ev4]
  refine g_C ?_
  obtain ⟨i, ei⟩ : ∃ i : Nat, w = (i : Int) := ⟨w.toNat, by omega⟩
  obtain ⟨r, er⟩ : ∃ r : Nat, n = i + 1 + r := ⟨n - (i + 1), by omega⟩
  have L : ∀ (l k : Nat) (M : Mm), k ≤ i → Inv X S M → (∀ c p : Int, ¬ c = 56 → ¬ (c = 55 ∧ 4 ≤ p) → M c p = m c p) → ¬ m 61 ((k : Int) * 1000 + tpF H (crR o D j lh lb n) (okR lo hi) n s k) = -1 → i + 1 - k ≤ l → wp_X2_handOfFirst_25 S K l 58 w (tpF H (crR o D j lh lb n) (okR lo hi) n s k) k M := by
    intro l
    induction l with
    | zero => intro k M _ _ _ _ hl; exfalso; omega
    | succ l ih =>
      intro k M k1 hM F vk hl
      have eM : RvE S o D n lh lb j lo hi M := e.keep cc.1 cc.2.1 (fun c p b1 b2 _ _ => F c p b1 b2)
      have g61 : M 61 = m 61 := funext (fun p => F 61 p (by omega) (by omega))
      have g62 : M 62 = m 62 := funext (fun p => F 62 p (by omega) (by omega))
      have vM : VS o D H n lh lb j lo hi M := by
        unfold VS
        rw [g61, g62]
        exact v
      have tb := tp_b cb pos s0 s9 k (by omega)
      refine u_X2_handOfFirst_25 ?_
      refine g_if (fun q3 => ?_) (fun q3 => ?_)
      · have ek : k = i := by omega
        rw [ek] at tb vk ⊢
        rw [ei]
        refine ⟨hS.k58, ?_⟩
        refine zq_firstHand (k := i) (r := r) hS hM cc eM vM er tb.1 tb.2 (by rw [g61]; exact vk) (fun m1 hm1 f1 => ?_)
        exact hk i r m1 hm1 (fun c p b1 b2 => by rw [f1 c p b1 b2, F c p b1 b2]) pos ei er
      · obtain ⟨r', er'⟩ : ∃ r' : Nat, n = k + 1 + r' := ⟨n - (k + 1), by omega⟩
        obtain ⟨a, _⟩ := fc_tp pos k (by omega)
        rw [show n - k = r' + 1 by omega] at a
        obtain ⟨q1, _, _⟩ := fhF_at a
        refine ⟨hS.k58, ?_⟩
        refine zq_firstHand (k := k) (r := r') hS hM cc eM vM er' tb.1 tb.2 (by rw [g61]; exact vk) (fun m1 hm1 f1 => ?_)
        have F1 : ∀ c p : Int, ¬ c = 56 → ¬ (c = 55 ∧ 4 ≤ p) → m1 c p = m c p := fun c p b1 b2 => by rw [f1 c p b1 b2, F c p b1 b2]
        refine ⟨hS.k58, ?_⟩
        refine zq_carried (k := k) (h := fhF H (crR o D j lh lb n) (okR lo hi) r' (tpF H (crR o D j lh lb n) (okR lo hi) n s k)) hS hm1 cc (e.keep cc.1 cc.2.1 (fun c p b1 b2 _ _ => F1 c p b1 b2)) (by omega) q1 tb.1 tb.2 (fun m2 hm2 f2 => ?_)
        have F2 : ∀ c p : Int, ¬ c = 56 → ¬ (c = 55 ∧ 4 ≤ p) → m2 c p = m c p := fun c p b1 b2 => by rw [f2 c p b1 b2, F1 c p b1 b2]
        have et : crR o D j lh lb n (n - 1 - k) (fhF H (crR o D j lh lb n) (okR lo hi) r' (tpF H (crR o D j lh lb n) (okR lo hi) n s k)) (tpF H (crR o D j lh lb n) (okR lo hi) n s k) = tpF H (crR o D j lh lb n) (okR lo hi) n s (k + 1) := by
          rw [show r' = n - 1 - k by omega]
          rfl
        rw [et]
        refine g_A (by omega) (by omega) ?_
        refine ih (k + 1) m2 (by omega) hm2 F2 ?_ (by omega)
        obtain ⟨_, _, c3⟩ := (v k _ (by omega) tb.1 tb.2).resolve_left vk
        have c4 := c3 (by omega) _ q1
        rw [et] at c4
        exact c4
  exact ⟨i + 1, L (i + 1) 0 m (Nat.zero_le i) hm (fun _ _ _ _ => rfl) (by
    show ¬ m 61 (((0 : Nat) : Int) * 1000 + s) = -1
    rw [show ((0 : Nat) : Int) * 1000 + s = s by omega]
    exact vi) (by omega)⟩
