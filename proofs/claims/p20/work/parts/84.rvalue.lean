theorem iAnd15 {a : Int} (h1 : 0 ≤ a) (h2 : a ≤ 2147483647) : iAnd a 15 = a % 16 := by
  have e1 : (Int32.ofInt a).toBitVec.toInt = a := i32o (by omega) h2
  have m1 : (Int32.ofInt a).toBitVec.msb = false := msb_of (by omega)
  have n1 := BitVec.toInt_eq_toNat_of_msb m1
  have m2 : ((Int32.ofInt a).toBitVec &&& (Int32.ofInt 15).toBitVec).msb = false := by rw [BitVec.msb_and, m1]; rfl
  have n2 := BitVec.toInt_eq_toNat_of_msb m2
  rw [BitVec.toNat_and] at n2
  have e3 : iAnd a 15 = ((Int32.ofInt a).toBitVec &&& (Int32.ofInt 15).toBitVec).toInt := rfl
  have e4 : (Int32.ofInt 15).toBitVec.toNat = 15 := by decide
  rw [e4] at n2
  have e5 : (Int32.ofInt a).toBitVec.toNat &&& 15 = (Int32.ofInt a).toBitVec.toNat % 16 := Nat.and_two_pow_sub_one_eq_mod _ 4
  rw [e3, n2, e5]
  omega
theorem sg_word : ∀ w : Nat, w < 10 → iAnd (1 + 16 * (w : Int)) 15 = 1 ∧ iShr (1 + 16 * (w : Int)) 4 = (w : Int) := by decide +kernel
/-- one sign: from depth d to depth e -/
def ps1 (w d e : Int) : Prop := (iAnd w 15 = 0 ∧ d < 64 ∧ e = d + 1) ∨ (iAnd w 15 = 1 ∧ 0 ≤ iShr w 4 ∧ iShr w 4 ≤ 9 ∧ d < 64 ∧ e = d + 1) ∨ (iAnd w 15 = 11 ∧ 1 ≤ d ∧ e = d) ∨ (¬ iAnd w 15 = 0 ∧ ¬ iAnd w 15 = 1 ∧ ¬ iAnd w 15 = 11 ∧ 2 ≤ d ∧ e = d - 1)
theorem ps_num {v d : Int} (h0 : 0 ≤ v) (h1 : v ≤ 99999) (hd : d < 64) : ps1 (0 + 16 * v) d (d + 1) := by
  refine Or.inl ⟨?_, hd, rfl⟩
  rw [iAnd15 (by omega) (by omega)]
  omega
theorem ps_word {v d : Int} (h0 : 0 ≤ v) (h1 : v ≤ 9) (hd : d < 64) : ps1 (1 + 16 * v) d (d + 1) := by
  have q := sg_word v.toNat (by omega)
  rw [Int.toNat_of_nonneg h0] at q
  exact Or.inr (Or.inl ⟨q.1, by omega, by omega, hd, rfl⟩)
theorem ps_not {d : Int} (hd : 1 ≤ d) : ps1 (11 + 16 * 0) d d := by
  refine Or.inr (Or.inr (Or.inl ⟨?_, hd, rfl⟩))
  rw [iAnd15 (by omega) (by omega)]
  omega
theorem ps_two {s d : Int} (h0 : 2 ≤ s) (h1 : s ≤ 15) (h2 : ¬ s = 11) (hd : 2 ≤ d) : ps1 (s + 16 * 0) d (d - 1) := by
  have e : iAnd (s + 16 * 0) 15 = s := by
    rw [iAnd15 (by omega) (by omega)]
    omega
  exact Or.inr (Or.inr (Or.inr ⟨by omega, by omega, by omega, hd, rfl⟩))
/-- so many signs of row t from place i on: from depth d to depth e -/
def pth (M : Mm) (t : Int) : Nat → Int → Int → Int → Prop
  | 0, _, d, e => d = e
  | n + 1, i, d, e => ∃ f : Int, ps1 (M 338 (400 * t + i)) d f ∧ pth M t n (i + 1) f e
theorem pth_snoc {M : Mm} {t : Int} : ∀ (n : Nat) (i d e f : Int), pth M t n i d e → ps1 (M 338 (400 * t + (i + n))) e f → pth M t (n + 1) i d f := by
  intro n
  induction n with
  | zero =>
    intro i d e f h q
    have h2 : d = e := h
    subst h2
    refine ⟨f, ?_, rfl⟩
    rw [show i + ((0 : Nat) : Int) = i by omega] at q
    exact q
  | succ n ih =>
    intro i d e f h q
    obtain ⟨g, h1, h2⟩ := h
    refine ⟨g, h1, ih (i + 1) g e f h2 ?_⟩
    rw [show i + 1 + (n : Int) = i + ((n + 1 : Nat) : Int) by omega]
    exact q
theorem pth_same {M M1 : Mm} {t : Int} : ∀ (n : Nat) (i d e : Int), (∀ j : Int, i ≤ j → j < i + n → M1 338 (400 * t + j) = M 338 (400 * t + j)) → pth M t n i d e → pth M1 t n i d e := by
  intro n
  induction n with
  | zero => intro i d e _ h; exact h
  | succ n ih =>
    intro i d e hs h
    obtain ⟨g, h1, h2⟩ := h
    refine ⟨g, ?_, ih (i + 1) g e (fun j a b => hs j (by omega) (by omega)) h2⟩
    rw [hs i (by omega) (by omega)]
    exact h1
theorem pfx_of {M : Mm} {t : Int} : ∀ (n : Nat) (i d : Int), pth M t n i d 1 → pfx M t n i d := by
  intro n
  induction n with
  | zero => intro i d h; exact h
  | succ n ih =>
    intro i d h
    obtain ⟨g, h1, h2⟩ := h
    have h3 := ih (i + 1) g h2
    rcases h1 with q | q | q | q
    · obtain ⟨q1, q2, q3⟩ := q
      subst q3
      exact Or.inl ⟨q1, q2, h3⟩
    · obtain ⟨q1, q2, q3, q4, q5⟩ := q
      subst q5
      exact Or.inr (Or.inl ⟨q1, q2, q3, q4, h3⟩)
    · obtain ⟨q1, q2, q3⟩ := q
      subst q3
      exact Or.inr (Or.inr (Or.inl ⟨q1, q2, h3⟩))
    · obtain ⟨q1, q2, q3, q4, q5⟩ := q
      subst q5
      exact Or.inr (Or.inr (Or.inr ⟨q1, q2, q3, q4, h3⟩))
/-- the signs from b on of the row that is being read bring the stack from 0 to d -/
def Qs (M : Mm) (b d : Int) : Prop := (0 ≤ b ∧ b ≤ M 339 (M 336 11)) ∧ pth M (M 336 11) (M 339 (M 336 11) - b).toNat b 0 d
theorem Qs.same {M M1 : Mm} {b d : Int} (h : Qs M b d) (h8 : ∀ p : Int, M1 338 p = M 338 p) (h9 : ∀ p : Int, M1 339 p = M 339 p) (ht : M1 336 11 = M 336 11) : Qs M1 b d := by
  unfold Qs at h ⊢
  rw [ht, h9]
  exact ⟨h.1, pth_same _ _ _ _ (fun j _ _ => h8 _) h.2⟩
theorem Qs.push {M M1 : Mm} {b d e w : Int} (h : Qs M b d) (ht : M1 336 11 = M 336 11) (hl : M1 339 (M 336 11) = M 339 (M 336 11) + 1) (hw : M1 338 (400 * M 336 11 + M 339 (M 336 11)) = w) (ho : ∀ j : Int, j < 400 * M 336 11 + M 339 (M 336 11) → M1 338 j = M 338 j) (hp : ps1 w d e) : Qs M1 b e := by
  obtain ⟨⟨h1, h2⟩, h3⟩ := h
  unfold Qs
  rw [ht, hl]
  refine ⟨⟨h1, by omega⟩, ?_⟩
  rw [show (M 339 (M 336 11) + 1 - b).toNat = (M 339 (M 336 11) - b).toNat + 1 by omega]
  refine pth_snoc _ _ _ d _ (pth_same _ _ _ _ (fun j a b' => ho _ (by omega)) h3) ?_
  rw [show b + ((M 339 (M 336 11) - b).toNat : Int) = M 339 (M 336 11) by omega, hw]
  exact hp
/-- what a reader may change -/
def Adv (m0 m1 : Mm) : Prop := (∀ c p : Int, ¬ (c = 336 ∧ 8 ≤ p ∧ p ≤ 16) ∧ ¬ c = 338 ∧ ¬ c = 339 ∧ ¬ c = 343 → m1 c p = m0 c p) ∧ m1 336 11 = m0 336 11 ∧ (∀ j : Int, j < 400 * m0 336 11 + m0 339 (m0 336 11) → m1 338 j = m0 338 j) ∧ m0 339 (m0 336 11) ≤ m1 339 (m0 336 11) ∧ m0 336 8 ≤ m1 336 8 ∧ m0 336 12 ≤ m1 336 12 ∧ m1 336 14 = m0 336 14
def AdvS (m0 m1 : Mm) : Prop := Adv m0 m1 ∧ m1 336 16 = m0 336 16 ∧ (∀ p : Int, m1 343 p = m0 343 p) ∧ m1 336 13 = m0 336 13
theorem Adv.trans {a b c : Mm} (h : Adv a b) (k : Adv b c) : Adv a c := by
  obtain ⟨h1, h2, h3, h4, h5, h6, h7⟩ := h
  obtain ⟨k1, k2, k3, k4, k5, k6, k7⟩ := k
  rw [h2] at k3 k4
  exact ⟨fun x p q => (k1 x p q).trans (h1 x p q), k2.trans h2, fun j q => (k3 j (by omega)).trans (h3 j q), by omega, by omega, by omega, k7.trans h7⟩
theorem AdvS.trans {a b c : Mm} (h : AdvS a b) (k : AdvS b c) : AdvS a c := ⟨h.1.trans k.1, k.2.1.trans h.2.1, fun p => (k.2.2.1 p).trans (h.2.2.1 p), k.2.2.2.trans h.2.2.2⟩
theorem Adv.of {m0 m1 : Mm} (h : ∀ c p : Int, ¬ (c = 336 ∧ 8 ≤ p ∧ p ≤ 16 ∧ ¬ p = 11 ∧ ¬ p = 14) ∧ ¬ c = 343 → m1 c p = m0 c p) (h8 : m0 336 8 ≤ m1 336 8) (h12 : m0 336 12 ≤ m1 336 12) : Adv m0 m1 := by
  refine ⟨fun c p q => h c p (by omega), h 336 11 (by omega), fun j _ => h 338 j (by omega), ?_, h8, h12, h 336 14 (by omega)⟩
  rw [h 339 _ (by omega)]
  omega
theorem AdvS.of {m0 m1 : Mm} (h : ∀ c p : Int, ¬ (c = 336 ∧ 8 ≤ p ∧ p ≤ 12 ∧ ¬ p = 11) → m1 c p = m0 c p) (h8 : m0 336 8 ≤ m1 336 8) (h12 : m0 336 12 ≤ m1 336 12) : AdvS m0 m1 := ⟨Adv.of (fun c p q => h c p (by omega)) h8 h12, h 336 16 (by omega), fun p => h 343 p (by omega), h 336 13 (by omega)⟩
theorem AdvS.rfl' (m : Mm) : AdvS m m := AdvS.of (fun _ _ _ => rfl) (by omega) (by omega)
/-- a rule is being read, into the row behind the last -/
def GX (X m : Mm) : Prop := m 336 11 = X 336 2 ∧ 0 ≤ X 336 2 ∧ X 336 2 ≤ 5
theorem GX.adv {X m m1 : Mm} (h : GX X m) (k : Adv m m1) : GX X m1 := ⟨k.2.1.trans h.1, h.2⟩
theorem zp_puts {X : Mm} {S : Sh} {m0 : Mm} {K : Mm → Prop} {s v : Int} (hS : Shp S) (hm0 : Inv X S m0) (g : GX X m0) (s0 : 0 ≤ s) (s1 : s ≤ 15) (v0 : 0 ≤ v) (v1 : v ≤ 99999) (hl : m0 339 (m0 336 11) ≤ 399) (hk : ∀ M1 : Mm, Inv X S M1 → (∀ c p : Int, ¬ (c = 338 ∧ p = 400 * m0 336 11 + m0 339 (m0 336 11)) ∧ ¬ (c = 339 ∧ p = m0 336 11) → M1 c p = m0 c p) → M1 339 (m0 336 11) = m0 339 (m0 336 11) + 1 → M1 338 (400 * m0 336 11 + m0 339 (m0 336 11)) = s + 16 * v → K M1) : wp_X12_puts S m0 336 s v K := by
  obtain ⟨g1, g2, g3⟩ := g
  have bl := hm0.a_339 (i := m0 336 11) (by omega) (by omega)
  refine u_X12_puts ?_
  refine g_getr 3 338 rfl hS.k336 hm0.f_336_3 (by decide) ?_
  refine g_C ?_
  refine g_getu 11 rfl hS.k336 (fun t et => ?_)
  refine g_M (by omega) (by omega) ?_
  refine g_getr 4 339 rfl hS.k336 hm0.f_336_4 (by decide) ?_
  refine g_getu 11 rfl hS.k336 (fun t2 et2 => ?_)
  refine g_ldu hS.k339 hS.l339 (by omega) (by omega) (fun l el => ?_)
  rw [et2] at el
  refine g_A (by omega) (by omega) ?_
  refine g_C ?_
  refine g_M (by omega) (by omega) ?_
  refine g_A (by omega) (by omega) ?_
  have hw1 : Inv X S (up m0 338 (400 * t + l) (s + 16 * v)) := hm0.wA (1, 0) (by decide) (by decide +kernel) (okb_n rfl) (by omega) (by decide) (by decide)
  refine g_st hS.k338 hS.l338 (by omega) (by omega) hw1 (fun m1 e1 hm1 => ?_)
  have F1 : ∀ c p : Int, ¬ (c = 338 ∧ p = 400 * t + l) → m1 c p = m0 c p := fun c p h => (congrFun (congrFun e1 _) _).trans (up_ne (by omega))
  have V1 : m1 338 (400 * t + l) = s + 16 * v := (congrFun (congrFun e1 _) _).trans (up_at _ _ _ _)
  refine g_getr 4 339 rfl hS.k336 hm1.f_336_4 (by decide) ?_
  refine g_getu 11 rfl hS.k336 (fun t3 et3 => ?_)
  rw [F1 336 11 (by omega)] at et3
  refine g_ldu hS.k339 hS.l339 (by omega) (by omega) (fun l2 el2 => ?_)
  rw [F1 339 t3 (by omega), et3] at el2
  refine g_C ?_
  refine g_A (by omega) (by omega) ?_
  refine g_st hS.k339 hS.l339 (by omega) (by omega) (hm1.wa_339 (by omega) (by omega) (by omega) (by omega)) (fun m2 e2 hm2 => ?_)
  refine hk m2 hm2 (fun c p h => ?_) ?_ ?_
  · exact (congrFun (congrFun e2 _) _).trans ((up_ne (by omega)).trans (F1 c p (by omega)))
  · exact (congrFun (congrFun e2 _) _).trans ((up_ate (by omega)).trans (by omega))
  · refine (congrFun (congrFun e2 _) _).trans ((up_ne (by omega)).trans ?_)
    rw [← el, ← et]
    exact V1
theorem puts_adv {m m1 : Mm} (F : ∀ c p : Int, ¬ (c = 338 ∧ p = 400 * m 336 11 + m 339 (m 336 11)) ∧ ¬ (c = 339 ∧ p = m 336 11) → m1 c p = m c p) (hl : m1 339 (m 336 11) = m 339 (m 336 11) + 1) : AdvS m m1 := by
  refine ⟨⟨fun c p q => F c p (by omega), F 336 11 (by omega), fun j q => F 338 j (by omega), by omega, ?_, ?_, F 336 14 (by omega)⟩, F 336 16 (by omega), fun p => F 343 p (by omega), F 336 13 (by omega)⟩
  · rw [F 336 8 (by omega)]; omega
  · rw [F 336 12 (by omega)]; omega
/-- what a VALUE, a term, a sum, a comparison leaves behind -/
def Out (m0 m1 : Mm) (k b d : Int) : Prop := AdvS m0 m1 ∧ Qs m1 b (d + 1) ∧ m1 339 (m1 336 11) + k ≤ m1 336 8 ∧ m0 336 8 + 1 ≤ m1 336 8 ∧ d + 1 ≤ m1 336 12
/-- what is wanted ahead of it -/
def Ina (X m : Mm) (k b d : Int) : Prop := GX X m ∧ 0 ≤ k ∧ Qs m b d ∧ 0 ≤ d ∧ d ≤ m 336 12 ∧ m 339 (m 336 11) + k ≤ m 336 8
theorem Ina.fr {X m m1 : Mm} {k b d : Int} (h : Ina X m k b d) (f : ∀ c p : Int, ¬ (c = 336 ∧ 8 ≤ p ∧ p ≤ 12 ∧ ¬ p = 11) → m1 c p = m c p) (h8 : m 336 8 ≤ m1 336 8) (h12 : m 336 12 ≤ m1 336 12) : Ina X m1 k b d ∧ AdvS m m1 := by
  obtain ⟨g, hk0, hq, hd0, hd, hl⟩ := h
  have A := AdvS.of f h8 h12
  refine ⟨⟨g.adv A.1, hk0, hq.same (fun p => f 338 p (by omega)) (fun p => f 339 p (by omega)) (f 336 11 (by omega)), hd0, by omega, ?_⟩, A⟩
  rw [f 336 11 (by omega), f 339 _ (by omega)]
  omega
theorem put_out {X m0 m m1 : Mm} {k b d e s v : Int} (h : Ina X m k b d) (A : AdvS m0 m) (hs : m 339 (m 336 11) + k + 1 ≤ m 336 8) (h8 : m0 336 8 + 1 ≤ m 336 8) (he : e + 1 ≤ m 336 12) (f : ∀ c p : Int, ¬ (c = 338 ∧ p = 400 * m 336 11 + m 339 (m 336 11)) ∧ ¬ (c = 339 ∧ p = m 336 11) → m1 c p = m c p) (hl : m1 339 (m 336 11) = m 339 (m 336 11) + 1) (hw : m1 338 (400 * m 336 11 + m 339 (m 336 11)) = s + 16 * v) (hp : ps1 (s + 16 * v) d (e + 1)) : Out m0 m1 k b e := by
  obtain ⟨g, hk0, hq, hd0, hd, hl0⟩ := h
  have A4 := puts_adv f hl
  refine ⟨A.trans A4, hq.push A4.1.2.1 hl hw A4.1.2.2.1 hp, ?_, ?_, ?_⟩
  · rw [A4.1.2.1, hl, f 336 8 (by omega)]; omega
  · rw [f 336 8 (by omega)]; omega
  · rw [f 336 12 (by omega)]; omega
/-- how the reference's reading stands to Acc -/
def Lr (b : Int → Int) (n : Int) (T : Int → Prop) (M : Mm) (m : Int) (st : List Bool) (k : Int) : Prop := (∀ f : Int, Acc b n m (M 336 8) (M 336 12) st k f → T f) ∧ M 336 9 = 0 ∧ M 336 8 ≤ n
theorem Lr.at {b : Int → Int} {n : Int} {T : Int → Prop} {M M1 : Mm} {m k q : Int} {st : List Bool} (h : Lr b n T M m st k) (hs : Sk b n (M 336 8) q) (e8 : M1 336 8 = q) (e12 : M1 336 12 = M 336 12) (e9 : M1 336 9 = M 336 9) (hn : q ≤ n) : Lr b n T M1 m st k := by
  refine ⟨fun f hA => h.1 f (Acc.back hs ?_), e9.trans h.2.1, by omega⟩
  rw [e8, e12] at hA
  exact hA
theorem Lr.eq {b : Int → Int} {n : Int} {T : Int → Prop} {M M1 : Mm} {m k : Int} {st : List Bool} (h : Lr b n T M m st k) (e8 : M1 336 8 = M 336 8) (e12 : M1 336 12 = M 336 12) (e9 : M1 336 9 = M 336 9) : Lr b n T M1 m st k := by
  unfold Lr
  rw [e8, e12, e9]
  exact h
theorem Lr.fault {b : Int → Int} {n : Int} {T : Int → Prop} {M : Mm} {m k q f : Int} {st : List Bool} (h : Lr b n T M m st k) (hs : Sk b n (M 336 8) q) (hp : stp b n (Acc b n) m q (M 336 12) st k f) : T f := h.1 f (a_step hs hp)
theorem Lr.to {b : Int → Int} {n : Int} {T : Int → Prop} {M M1 : Mm} {m m' k k' q p c : Int} {st st' : List Bool} (h : Lr b n T M m st k) (hs : Sk b n (M 336 8) q) (e8 : M1 336 8 = p) (e12 : M1 336 12 = c) (e9 : M1 336 9 = M 336 9) (hn : p ≤ n) (hp : ∀ f : Int, Acc b n m' p c st' k' f → stp b n (Acc b n) m q (M 336 12) st k f) : Lr b n T M1 m' st' k' := by
  refine ⟨fun f hA => h.1 f (a_step hs (hp f ?_)), e9.trans h.2.1, by omega⟩
  rw [e8, e12] at hA
  exact hA
/-- no * / % stands next; no arithmetic stands next -/
def Ntm (b : Int → Int) (n : Int) (M : Mm) : Prop := ∀ q : Int, Sk b n (M 336 8) q → ¬ (q < n ∧ (b q = 42 ∨ b q = 47 ∨ b q = 37))
def Nar (b : Int → Int) (n : Int) (M : Mm) : Prop := ∀ q : Int, Sk b n (M 336 8) q → ¬ (q < n ∧ Ar (b q))
theorem u8_is {b : Int → Int} {X : Mm} {n q r v : Int} (ht : TR X b n) (q0 : 0 ≤ q) (h : (q < n ∧ r = u8 (b q)) ∨ (n ≤ q ∧ r = -1)) (v0 : 0 ≤ v) (v1 : v ≤ 127) : r = v ↔ q < n ∧ b q = v := by
  rcases h with ⟨h1, h2⟩ | ⟨h1, h2⟩
  · have z := ht.2.2 q q0 h1
    have e := u8_eq z.2.1 z.2.2 v0 v1
    rw [h2, e]
    exact ⟨fun y => ⟨h1, y⟩, fun y => y.2⟩
  · exact ⟨fun y => absurd y (by omega), fun y => absurd y.1 (by omega)⟩
theorem Out.ina {X m0 m1 : Mm} {k b d : Int} (h : Out m0 m1 k b d) (i : Ina X m0 k b d) : Ina X m1 k b (d + 1) := by
  obtain ⟨g, hk0, hq, hd0, hd, hl⟩ := i
  obtain ⟨A, q, l, n, e⟩ := h
  exact ⟨g.adv A.1, hk0, q, by omega, e, l⟩
theorem Out.from {m0 m m1 : Mm} {k b d : Int} (h : Out m m1 k b d) (A : AdvS m0 m) : Out m0 m1 k b d := by
  obtain ⟨A2, q, l, n, e⟩ := h
  have a8 : m0 336 8 ≤ m 336 8 := A.1.2.2.2.2.1
  exact ⟨A.trans A2, q, l, by omega, e⟩
theorem Out.later {m0 m m1 : Mm} {k b d : Int} (h : Out m0 m k b d) (f : ∀ c p : Int, ¬ (c = 336 ∧ 8 ≤ p ∧ p ≤ 12 ∧ ¬ p = 11) → m1 c p = m c p) (h8 : m 336 8 ≤ m1 336 8) (h12 : m 336 12 ≤ m1 336 12) : Out m0 m1 k b d := by
  obtain ⟨A, q, l, n, e⟩ := h
  refine ⟨A.trans (AdvS.of f h8 h12), q.same (fun p => f 338 p (by omega)) (fun p => f 339 p (by omega)) (f 336 11 (by omega)), ?_, by omega, by omega⟩
  rw [f 336 11 (by omega), f 339 _ (by omega)]
  omega
/-- behind a value and a sign, another value and the sign put -/
theorem two_out {X m0 m m2 m3 : Mm} {k b d s : Int} (i0 : Ina X m0 k b d) (o : Out m0 m k b d) (A : AdvS m m2) (h8 : m 336 8 + 1 ≤ m2 336 8) (o3 : Out m2 m3 (k + 1) b (d + 1)) {m4 : Mm} (s0 : 2 ≤ s) (s1 : s ≤ 15) (s2 : ¬ s = 11) (f : ∀ c p : Int, ¬ (c = 338 ∧ p = 400 * m3 336 11 + m3 339 (m3 336 11)) ∧ ¬ (c = 339 ∧ p = m3 336 11) → m4 c p = m3 c p) (hl : m4 339 (m3 336 11) = m3 339 (m3 336 11) + 1) (hw : m4 338 (400 * m3 336 11 + m3 339 (m3 336 11)) = s + 16 * 0) : Out m0 m4 k b d ∧ m 336 8 + 1 ≤ m4 336 8 := by
  obtain ⟨g, hk0, hq, hd0, hd, hl0⟩ := i0
  obtain ⟨A1, q1, l1, n1, e1⟩ := o
  obtain ⟨A3, q3, l3, n3, e3⟩ := o3
  have AA : AdvS m0 m3 := (A1.trans A).trans A3
  have ii : Ina X m3 k b (d + 1 + 1) := ⟨g.adv AA.1, hk0, q3, by omega, e3, by omega⟩
  have z := ps_two s0 s1 s2 (d := d + 1 + 1) (by omega)
  rw [show d + 1 + 1 - 1 = d + 1 by omega] at z
  have n3' : m0 336 8 ≤ m3 336 8 := AA.1.2.2.2.2.1
  have a2 : m 336 8 ≤ m2 336 8 := A.1.2.2.2.2.1
  have e8 : m4 336 8 = m3 336 8 := f 336 8 (by omega)
  exact ⟨put_out ii AA (by omega) (by omega) (by omega) f hl hw z, by omega⟩
