theorem iAnd15 {a : Int} (h1 : 0 ≤ a) (h2 : a ≤ 2147483647) : iAnd a 15 = a % 16 := by
  have e1 : (Int32.ofInt a).toBitVec.toInt = a := i32o (by omega) h2
  have m1 : (Int32.ofInt a).toBitVec.msb = false := msb_of (by omega)
  have n1 := BitVec.toInt_eq_toNat_of_msb m1
  have m2 : ((Int32.ofInt a).toBitVec &&& (Int32.ofInt 15).toBitVec).msb = false := by rw [BitVec.msb_and, m1]; rfl
  have n2 := BitVec.toInt_eq_toNat_of_msb m2
  rw [BitVec.toNat_and] at n2
  have e3 : iAnd a 15 = ((Int32.ofInt a).toBitVec &&& (Int32.ofInt 15).toBitVec).toInt := rfl
  have e4 : (Int32.ofInt 15).toBitVec.toNat = 15 := by decide
  rw [e4] at n2
  have e5 : (Int32.ofInt a).toBitVec.toNat &&& 15 = (Int32.ofInt a).toBitVec.toNat % 16 := Nat.and_two_pow_sub_one_eq_mod _ 4
  rw [e3, n2, e5]
  omega
theorem sg_word : ∀ w : Nat, w < 10 → iAnd (1 + 16 * (w : Int)) 15 = 1 ∧ iShr (1 + 16 * (w : Int)) 4 = (w : Int) := by decide +kernel
/-- one sign: from depth d to depth e -/
def ps1 (w d e : Int) : Prop := (iAnd w 15 = 0 ∧ d < 64 ∧ e = d + 1) ∨ (iAnd w 15 = 1 ∧ 0 ≤ iShr w 4 ∧ iShr w 4 ≤ 9 ∧ d < 64 ∧ e = d + 1) ∨ (iAnd w 15 = 11 ∧ 1 ≤ d ∧ e = d) ∨ (¬ iAnd w 15 = 0 ∧ ¬ iAnd w 15 = 1 ∧ ¬ iAnd w 15 = 11 ∧ 2 ≤ d ∧ e = d - 1)
theorem ps_num {v d : Int} (h0 : 0 ≤ v) (h1 : v ≤ 99999) (hd : d < 64) : ps1 (0 + 16 * v) d (d + 1) := by
  refine Or.inl ⟨?_, hd, rfl⟩
  rw [iAnd15 (by omega) (by omega)]
  omega
theorem ps_word {v d : Int} (h0 : 0 ≤ v) (h1 : v ≤ 9) (hd : d < 64) : ps1 (1 + 16 * v) d (d + 1) := by
  have q := sg_word v.toNat (by omega)
  rw [Int.toNat_of_nonneg h0] at q
  exact Or.inr (Or.inl ⟨q.1, by omega, by omega, hd, rfl⟩)
theorem ps_not {d : Int} (hd : 1 ≤ d) : ps1 (11 + 16 * 0) d d := by
  refine Or.inr (Or.inr (Or.inl ⟨?_, hd, rfl⟩))
  rw [iAnd15 (by omega) (by omega)]
  omega
theorem ps_two {s d : Int} (h0 : 2 ≤ s) (h1 : s ≤ 15) (h2 : ¬ s = 11) (hd : 2 ≤ d) : ps1 (s + 16 * 0) d (d - 1) := by
  have e : iAnd (s + 16 * 0) 15 = s := by
    rw [iAnd15 (by omega) (by omega)]
    omega
  exact Or.inr (Or.inr (Or.inr ⟨by omega, by omega, by omega, hd, rfl⟩))
/-- so many signs of row t from place i on: from depth d to depth e -/
def pth (M : Mm) (t : Int) : Nat → Int → Int → Int → Prop
  | 0, _, d, e => d = e
  | n + 1, i, d, e => ∃ f : Int, ps1 (M 338 (400 * t + i)) d f ∧ pth M t n (i + 1) f e
theorem pth_snoc {M : Mm} {t : Int} : ∀ (n : Nat) (i d e f : Int), pth M t n i d e → ps1 (M 338 (400 * t + (i + n))) e f → pth M t (n + 1) i d f := by
  intro n
  induction n with
  | zero =>
    intro i d e f h q
    have h2 : d = e := h
    subst h2
    refine ⟨f, ?_, rfl⟩
    rw [show i + ((0 : Nat) : Int) = i by omega] at q
    exact q
  | succ n ih =>
    intro i d e f h q
    obtain ⟨g, h1, h2⟩ := h
    refine ⟨g, h1, ih (i + 1) g e f h2 ?_⟩
    rw [show i + 1 + (n : Int) = i + ((n + 1 : Nat) : Int) by omega]
    exact q
theorem pth_same {M M1 : Mm} {t : Int} : ∀ (n : Nat) (i d e : Int), (∀ j : Int, i ≤ j → j < i + n → M1 338 (400 * t + j) = M 338 (400 * t + j)) → pth M t n i d e → pth M1 t n i d e := by
  intro n
  induction n with
  | zero => intro i d e _ h; exact h
  | succ n ih =>
    intro i d e hs h
    obtain ⟨g, h1, h2⟩ := h
    refine ⟨g, ?_, ih (i + 1) g e (fun j a b => hs j (by omega) (by omega)) h2⟩
    rw [hs i (by omega) (by omega)]
    exact h1
theorem pfx_of {M : Mm} {t : Int} : ∀ (n : Nat) (i d : Int), pth M t n i d 1 → pfx M t n i d := by
  intro n
  induction n with
  | zero => intro i d h; exact h
  | succ n ih =>
    intro i d h
    obtain ⟨g, h1, h2⟩ := h
    have h3 := ih (i + 1) g h2
    rcases h1 with q | q | q | q
    · obtain ⟨q1, q2, q3⟩ := q
      subst q3
      exact Or.inl ⟨q1, q2, h3⟩
    · obtain ⟨q1, q2, q3, q4, q5⟩ := q
      subst q5
      exact Or.inr (Or.inl ⟨q1, q2, q3, q4, h3⟩)
    · obtain ⟨q1, q2, q3⟩ := q
      subst q3
      exact Or.inr (Or.inr (Or.inl ⟨q1, q2, h3⟩))
    · obtain ⟨q1, q2, q3, q4, q5⟩ := q
      subst q5
      exact Or.inr (Or.inr (Or.inr ⟨q1, q2, q3, q4, h3⟩))
/-- the signs from b on of the row that is being read bring the stack from 0 to d -/
def Qs (M : Mm) (b d : Int) : Prop := (0 ≤ b ∧ b ≤ M 339 (M 336 11)) ∧ pth M (M 336 11) (M 339 (M 336 11) - b).toNat b 0 d
theorem Qs.same {M M1 : Mm} {b d : Int} (h : Qs M b d) (h8 : ∀ p : Int, M1 338 p = M 338 p) (h9 : ∀ p : Int, M1 339 p = M 339 p) (ht : M1 336 11 = M 336 11) : Qs M1 b d := by
  unfold Qs at h ⊢
  rw [ht, h9]
  exact ⟨h.1, pth_same _ _ _ _ (fun j _ _ => h8 _) h.2⟩
theorem Qs.push {M M1 : Mm} {b d e w : Int} (h : Qs M b d) (ht : M1 336 11 = M 336 11) (hl : M1 339 (M 336 11) = M 339 (M 336 11) + 1) (hw : M1 338 (400 * M 336 11 + M 339 (M 336 11)) = w) (ho : ∀ j : Int, j < 400 * M 336 11 + M 339 (M 336 11) → M1 338 j = M 338 j) (hp : ps1 w d e) : Qs M1 b e := by
  obtain ⟨⟨h1, h2⟩, h3⟩ := h
  unfold Qs
  rw [ht, hl]
  refine ⟨⟨h1, by omega⟩, ?_⟩
  rw [show (M 339 (M 336 11) + 1 - b).toNat = (M 339 (M 336 11) - b).toNat + 1 by omega]
  refine pth_snoc _ _ _ d _ (pth_same _ _ _ _ (fun j a b' => ho _ (by omega)) h3) ?_
  rw [show b + ((M 339 (M 336 11) - b).toNat : Int) = M 339 (M 336 11) by omega, hw]
  exact hp
/-- what a reader may change -/
def Adv (m0 m1 : Mm) : Prop := (∀ c p : Int, ¬ (c = 336 ∧ 8 ≤ p ∧ p ≤ 16) ∧ ¬ c = 338 ∧ ¬ c = 339 ∧ ¬ c = 343 → m1 c p = m0 c p) ∧ m1 336 11 = m0 336 11 ∧ (∀ j : Int, j < 400 * m0 336 11 + m0 339 (m0 336 11) → m1 338 j = m0 338 j) ∧ m0 339 (m0 336 11) ≤ m1 339 (m0 336 11) ∧ m0 336 8 ≤ m1 336 8 ∧ m0 336 12 ≤ m1 336 12 ∧ m1 336 14 = m0 336 14
def AdvS (m0 m1 : Mm) : Prop := Adv m0 m1 ∧ m1 336 16 = m0 336 16 ∧ ∀ p : Int, m1 343 p = m0 343 p
theorem Adv.trans {a b c : Mm} (h : Adv a b) (k : Adv b c) : Adv a c := by
  obtain ⟨h1, h2, h3, h4, h5, h6, h7⟩ := h
  obtain ⟨k1, k2, k3, k4, k5, k6, k7⟩ := k
  rw [h2] at k3 k4
  exact ⟨fun x p q => (k1 x p q).trans (h1 x p q), k2.trans h2, fun j q => (k3 j (by omega)).trans (h3 j q), by omega, by omega, by omega, k7.trans h7⟩
theorem AdvS.trans {a b c : Mm} (h : AdvS a b) (k : AdvS b c) : AdvS a c := ⟨h.1.trans k.1, k.2.1.trans h.2.1, fun p => (k.2.2 p).trans (h.2.2 p)⟩
theorem Adv.of {m0 m1 : Mm} (h : ∀ c p : Int, ¬ (c = 336 ∧ 8 ≤ p ∧ p ≤ 16 ∧ ¬ p = 11 ∧ ¬ p = 14) ∧ ¬ c = 343 → m1 c p = m0 c p) (h8 : m0 336 8 ≤ m1 336 8) (h12 : m0 336 12 ≤ m1 336 12) : Adv m0 m1 := by
  refine ⟨fun c p q => h c p (by omega), h 336 11 (by omega), fun j _ => h 338 j (by omega), ?_, h8, h12, h 336 14 (by omega)⟩
  rw [h 339 _ (by omega)]
  omega
theorem AdvS.of {m0 m1 : Mm} (h : ∀ c p : Int, ¬ (c = 336 ∧ 8 ≤ p ∧ p ≤ 13 ∧ ¬ p = 11) → m1 c p = m0 c p) (h8 : m0 336 8 ≤ m1 336 8) (h12 : m0 336 12 ≤ m1 336 12) : AdvS m0 m1 := ⟨Adv.of (fun c p q => h c p (by omega)) h8 h12, h 336 16 (by omega), fun p => h 343 p (by omega)⟩
theorem AdvS.rfl' (m : Mm) : AdvS m m := AdvS.of (fun _ _ _ => rfl) (by omega) (by omega)
/-- a rule is being read, into the row behind the last -/
def GX (X m : Mm) : Prop := m 336 11 = X 336 2 ∧ 0 ≤ X 336 2 ∧ X 336 2 ≤ 5
theorem GX.adv {X m m1 : Mm} (h : GX X m) (k : Adv m m1) : GX X m1 := ⟨k.2.1.trans h.1, h.2⟩
theorem zp_puts {X : Mm} {S : Sh} {m0 : Mm} {K : Mm → Prop} {s v : Int} (hS : Shp S) (hm0 : Inv X S m0) (g : GX X m0) (s0 : 0 ≤ s) (s1 : s ≤ 15) (v0 : 0 ≤ v) (v1 : v ≤ 99999) (hl : m0 339 (m0 336 11) ≤ 399) (hk : ∀ M1 : Mm, Inv X S M1 → (∀ c p : Int, ¬ (c = 338 ∧ p = 400 * m0 336 11 + m0 339 (m0 336 11)) ∧ ¬ (c = 339 ∧ p = m0 336 11) → M1 c p = m0 c p) → M1 339 (m0 336 11) = m0 339 (m0 336 11) + 1 → M1 338 (400 * m0 336 11 + m0 339 (m0 336 11)) = s + 16 * v → K M1) : wp_X12_puts S m0 336 s v K := by
  obtain ⟨g1, g2, g3⟩ := g
  have bl := hm0.a_339 (i := m0 336 11) (by omega) (by omega)
  refine u_X12_puts ?_
  refine g_getr 3 338 rfl hS.k336 hm0.f_336_3 (by decide) ?_
  refine g_C ?_
  refine g_getu 11 rfl hS.k336 (fun t et => ?_)
  refine g_M (by omega) (by omega) ?_
  refine g_getr 4 339 rfl hS.k336 hm0.f_336_4 (by decide) ?_
  refine g_getu 11 rfl hS.k336 (fun t2 et2 => ?_)
  refine g_ldu hS.k339 hS.l339 (by omega) (by omega) (fun l el => ?_)
  rw [et2] at el
  refine g_A (by omega) (by omega) ?_
  refine g_C ?_
  refine g_M (by omega) (by omega) ?_
  refine g_A (by omega) (by omega) ?_
  have hw1 : Inv X S (up m0 338 (400 * t + l) (s + 16 * v)) := hm0.wA (1, 0) (by decide) (by decide +kernel) (okb_n rfl) (by omega) (by decide) (by decide)
  refine g_st hS.k338 hS.l338 (by omega) (by omega) hw1 (fun m1 e1 hm1 => ?_)
  have F1 : ∀ c p : Int, ¬ (c = 338 ∧ p = 400 * t + l) → m1 c p = m0 c p := fun c p h => (congrFun (congrFun e1 _) _).trans (up_ne (by omega))
  have V1 : m1 338 (400 * t + l) = s + 16 * v := (congrFun (congrFun e1 _) _).trans (up_at _ _ _ _)
  refine g_getr 4 339 rfl hS.k336 hm1.f_336_4 (by decide) ?_
  refine g_getu 11 rfl hS.k336 (fun t3 et3 => ?_)
  rw [F1 336 11 (by omega)] at et3
  refine g_ldu hS.k339 hS.l339 (by omega) (by omega) (fun l2 el2 => ?_)
  rw [F1 339 t3 (by omega), et3] at el2
  refine g_C ?_
  refine g_A (by omega) (by omega) ?_
  refine g_st hS.k339 hS.l339 (by omega) (by omega) (hm1.wa_339 (by omega) (by omega) (by omega) (by omega)) (fun m2 e2 hm2 => ?_)
  refine hk m2 hm2 (fun c p h => ?_) ?_ ?_
  · exact (congrFun (congrFun e2 _) _).trans ((up_ne (by omega)).trans (F1 c p (by omega)))
  · exact (congrFun (congrFun e2 _) _).trans ((up_ate (by omega)).trans (by omega))
  · refine (congrFun (congrFun e2 _) _).trans ((up_ne (by omega)).trans ?_)
    rw [← el, ← et]
    exact V1
theorem puts_adv {m m1 : Mm} (F : ∀ c p : Int, ¬ (c = 338 ∧ p = 400 * m 336 11 + m 339 (m 336 11)) ∧ ¬ (c = 339 ∧ p = m 336 11) → m1 c p = m c p) (hl : m1 339 (m 336 11) = m 339 (m 336 11) + 1) : AdvS m m1 := by
  refine ⟨⟨fun c p q => F c p (by omega), F 336 11 (by omega), fun j q => F 338 j (by omega), by omega, ?_, ?_, F 336 14 (by omega)⟩, F 336 16 (by omega), fun p => F 343 p (by omega)⟩
  · rw [F 336 8 (by omega)]; omega
  · rw [F 336 12 (by omega)]; omega
/-- what a VALUE, a term, a sum, a comparison leaves behind -/
def Out (m0 m1 : Mm) (k b d : Int) : Prop := AdvS m0 m1 ∧ Qs m1 b (d + 1) ∧ m1 339 (m1 336 11) + k ≤ m1 336 8 ∧ m0 336 8 + 1 ≤ m1 336 8 ∧ d + 1 ≤ m1 336 12
/-- what is wanted ahead of it -/
def Ina (X m : Mm) (k b d : Int) : Prop := GX X m ∧ 0 ≤ k ∧ Qs m b d ∧ 0 ≤ d ∧ d ≤ m 336 12 ∧ m 339 (m 336 11) + k ≤ m 336 8
theorem Ina.fr {X m m1 : Mm} {k b d : Int} (h : Ina X m k b d) (f : ∀ c p : Int, ¬ (c = 336 ∧ 8 ≤ p ∧ p ≤ 13 ∧ ¬ p = 11) → m1 c p = m c p) (h8 : m 336 8 ≤ m1 336 8) (h12 : m 336 12 ≤ m1 336 12) : Ina X m1 k b d ∧ AdvS m m1 := by
  obtain ⟨g, hk0, hq, hd0, hd, hl⟩ := h
  have A := AdvS.of f h8 h12
  refine ⟨⟨g.adv A.1, hk0, hq.same (fun p => f 338 p (by omega)) (fun p => f 339 p (by omega)) (f 336 11 (by omega)), hd0, by omega, ?_⟩, A⟩
  rw [f 336 11 (by omega), f 339 _ (by omega)]
  omega
theorem put_out {X m0 m m1 : Mm} {k b d e s v : Int} (h : Ina X m k b d) (A : AdvS m0 m) (hs : m 339 (m 336 11) + k + 1 ≤ m 336 8) (h8 : m0 336 8 + 1 ≤ m 336 8) (he : e + 1 ≤ m 336 12) (f : ∀ c p : Int, ¬ (c = 338 ∧ p = 400 * m 336 11 + m 339 (m 336 11)) ∧ ¬ (c = 339 ∧ p = m 336 11) → m1 c p = m c p) (hl : m1 339 (m 336 11) = m 339 (m 336 11) + 1) (hw : m1 338 (400 * m 336 11 + m 339 (m 336 11)) = s + 16 * v) (hp : ps1 (s + 16 * v) d (e + 1)) : Out m0 m1 k b e := by
  obtain ⟨g, hk0, hq, hd0, hd, hl0⟩ := h
  have A4 := puts_adv f hl
  refine ⟨A.trans A4, hq.push A4.1.2.1 hl hw A4.1.2.2.1 hp, ?_, ?_, ?_⟩
  · rw [A4.1.2.1, hl, f 336 8 (by omega)]; omega
  · rw [f 336 8 (by omega)]; omega
  · rw [f 336 12 (by omega)]; omega
theorem zp_value {X : Mm} {S : Sh} {m0 : Mm} {K : Int → Mm → Prop} {k b d : Int} (hS : Shp S) (hm0 : Inv X S m0) (hi : Ina X m0 k b d) (hf : ∀ M1 : Mm, Inv X S M1 → ¬ M1 336 9 = 0 → K 0 M1) (hk : ∀ M1 : Mm, Inv X S M1 → Out m0 M1 k b d → K 1 M1) : wp_X12_value S m0 336 K := by
  refine u_X12_value ?_
  refine ⟨hS.k336, ?_⟩
  refine z_X12_see hS hm0 (fun r1 m1 hm1 f1 b1 c1 y1 _ _ => ?_)
  obtain ⟨i1, A1⟩ := hi.fr (fun c p q => f1 c p (by omega)) y1 (by rw [f1 336 12 (by omega)]; omega)
  have b8 := hm1.f_336_8
  refine g_get 8 (0) (400) rfl hS.k336 hm1.f_336_8 (fun at' eat bat cat => ?_)
  refine g_get 8 (0) (400) rfl hS.k336 hm1.f_336_8 (fun v2 ev2 bv2 cv2 => ?_)
  refine ⟨hS.k336, ?_⟩
  refine zl_isDigit hS hm1 (by omega) ?_ ?_
  · refine g_ifF (by decide) ?_
    refine g_C ?_
    refine g_C ?_
    refine ⟨hS.k336, ?_⟩
    refine z_X12_numberHere hS hm1 (by decide) (by decide) (by decide) (by decide) (fun r2 m2 hm2 f2 b2 c2 y2 y3 y4 y5 => ?_)
    obtain ⟨i2, A2⟩ := i1.fr (fun c p q => f2 c p (by omega)) y2 (by rw [f2 336 12 (by omega)]; omega)
    refine g_if (fun w => ?_) (fun w => ?_)
    · exact g_C ⟨by decide, hf m2 hm2 (y4.resolve_left (by omega))⟩
    · refine ⟨hS.k336, ?_⟩
      refine z_X12_makes hS hm2 (by omega) (by omega) (fun r3 m3 hm3 f3 b3 c3 y6 y7 y8 => ?_)
      refine g_if (fun w3 => ?_) (fun w3 => ?_)
      · have k3 : m3 336 12 = m2 336 12 + 1 := y7.resolve_left w3
        obtain ⟨i3, A3⟩ := i2.fr (fun c p q => f3 c p (by omega)) (by rw [f3 336 8 (by omega)]; omega) (by omega)
        have e8 : m3 336 8 = m2 336 8 := f3 336 8 (by omega)
        have l3 : m3 339 (m3 336 11) = m2 339 (m2 336 11) := by rw [f3 336 11 (by omega), f3 339 _ (by omega)]
        have l2 : m2 339 (m2 336 11) = m1 339 (m1 336 11) := by rw [f2 336 11 (by omega), f2 339 _ (by omega)]
        have n8 := hm3.f_336_8
        have n12 := y8.resolve_left w3
        have z3 := y3.resolve_left w
        obtain ⟨g1, hk1, hq1, hd1, hd2, hl1⟩ := i1
        obtain ⟨g2, hk2, hq2, hd3, hd4, hl2⟩ := i2
        refine g_C ?_
        refine g_get 10 (0) (99999) rfl hS.k336 hm3.f_336_10 (fun v ev bv cv => ?_)
        refine ⟨hS.k336, ?_⟩
        refine zp_puts hS hm3 i3.1 (by decide) (by decide) bv cv (by omega) (fun m4 hm4 f4 h4 s4 => ?_)
        exact g_C ⟨by decide, hk m4 hm4 (put_out i3 ((A1.trans A2).trans A3) (by omega) (by omega) (by omega) f4 h4 s4 (ps_num bv cv (by omega)))⟩
      · exact g_C ⟨by decide, hf m3 hm3 (y6.resolve_left (by omega))⟩
  · refine g_ifT rfl ?_
    refine ⟨hS.k336, ?_⟩
    refine z_X12_wordHere hS hm1 (fun r2 m2 hm2 f2 b2 c2 y2 y3 => ?_)
    obtain ⟨i2, A2⟩ := i1.fr (fun c p q => f2 c p (by omega)) y2 (by rw [f2 336 12 (by omega)]; omega)
    refine g_if (fun w => ?_) (fun w => ?_)
    · refine ⟨hS.k336, ?_⟩
      refine z_X12_makes hS hm2 (by omega) (by omega) (fun r3 m3 hm3 f3 b3 c3 y6 y7 y8 => ?_)
      refine g_if (fun w3 => ?_) (fun w3 => ?_)
      · have k3 : m3 336 12 = m2 336 12 + 1 := y7.resolve_left w3
        obtain ⟨i3, A3⟩ := i2.fr (fun c p q => f3 c p (by omega)) (by rw [f3 336 8 (by omega)]; omega) (by omega)
        have e8 : m3 336 8 = m2 336 8 := f3 336 8 (by omega)
        have n12 := y8.resolve_left w3
        have lt2 : LtC m2 := y3.resolve_left (by omega)
        have lt3 : LtC m3 := lt2.same e8 (f3 336 1 (by omega)) (fun p => f3 337 p (by omega))
        refine ⟨hS.k336, ?_⟩
        refine z_X12_passWord hS hm3 (fun m4 hm4 f4 y9 y10 => ?_)
        have z10 : m3 336 8 + 1 ≤ m4 336 8 := y10.resolve_left (fun z => z lt3)
        obtain ⟨i4, A4⟩ := i3.fr (fun c p q => f4 c p (by omega)) y9 (by rw [f4 336 12 (by omega)]; omega)
        have l4 : m4 339 (m4 336 11) = m3 339 (m3 336 11) := by rw [f4 336 11 (by omega), f4 339 _ (by omega)]
        have k4 : m4 336 12 = m3 336 12 := f4 336 12 (by omega)
        have n8 := hm4.f_336_8
        obtain ⟨g2, hk2, hq2, hd3, hd4, hl2⟩ := i2
        obtain ⟨g3, hk3, hq3, hd5, hd6, hl3⟩ := i3
        refine g_C ?_
        refine ⟨hS.k336, ?_⟩
        refine zp_puts hS hm4 i4.1 (by decide) (by decide) w (by omega) (by omega) (fun m5 hm5 f5 h5 s5 => ?_)
        exact g_C ⟨by decide, hk m5 hm5 (put_out i4 (((A1.trans A2).trans A3).trans A4) (by omega) (by omega) (by omega) f5 h5 s5 (ps_word w (by omega) (by omega)))⟩
      · exact g_C ⟨by decide, hf m3 hm3 (y6.resolve_left (by omega))⟩
    · refine g_C ?_
      refine ⟨hS.k336, ?_⟩
      refine z_X12_fails hS hm2 (by decide) (by decide) (by omega) (by omega) (fun r3 m3 hm3 f3 b3 c3 y6 => ?_)
      obtain rfl : r3 = 0 := by omega
      exact ⟨by decide, hf m3 hm3 y6⟩
theorem Out.ina {X m0 m1 : Mm} {k b d : Int} (h : Out m0 m1 k b d) (i : Ina X m0 k b d) : Ina X m1 k b (d + 1) := by
  obtain ⟨g, hk0, hq, hd0, hd, hl⟩ := i
  obtain ⟨A, q, l, n, e⟩ := h
  exact ⟨g.adv A.1, hk0, q, by omega, e, l⟩
theorem Out.from {m0 m m1 : Mm} {k b d : Int} (h : Out m m1 k b d) (A : AdvS m0 m) : Out m0 m1 k b d := by
  obtain ⟨A2, q, l, n, e⟩ := h
  have a8 : m0 336 8 ≤ m 336 8 := A.1.2.2.2.2.1
  exact ⟨A.trans A2, q, l, by omega, e⟩
theorem Out.later {m0 m m1 : Mm} {k b d : Int} (h : Out m0 m k b d) (f : ∀ c p : Int, ¬ (c = 336 ∧ 8 ≤ p ∧ p ≤ 13 ∧ ¬ p = 11) → m1 c p = m c p) (h8 : m 336 8 ≤ m1 336 8) (h12 : m 336 12 ≤ m1 336 12) : Out m0 m1 k b d := by
  obtain ⟨A, q, l, n, e⟩ := h
  refine ⟨A.trans (AdvS.of f h8 h12), q.same (fun p => f 338 p (by omega)) (fun p => f 339 p (by omega)) (f 336 11 (by omega)), ?_, by omega, by omega⟩
  rw [f 336 11 (by omega), f 339 _ (by omega)]
  omega
/-- behind a value and a sign, another value and the sign put -/
theorem two_out {X m0 m m2 m3 : Mm} {k b d s : Int} (i0 : Ina X m0 k b d) (o : Out m0 m k b d) (A : AdvS m m2) (h8 : m 336 8 + 1 ≤ m2 336 8) (o3 : Out m2 m3 (k + 1) b (d + 1)) {m4 : Mm} (s0 : 2 ≤ s) (s1 : s ≤ 15) (s2 : ¬ s = 11) (f : ∀ c p : Int, ¬ (c = 338 ∧ p = 400 * m3 336 11 + m3 339 (m3 336 11)) ∧ ¬ (c = 339 ∧ p = m3 336 11) → m4 c p = m3 c p) (hl : m4 339 (m3 336 11) = m3 339 (m3 336 11) + 1) (hw : m4 338 (400 * m3 336 11 + m3 339 (m3 336 11)) = s + 16 * 0) : Out m0 m4 k b d ∧ m 336 8 + 1 ≤ m4 336 8 := by
  obtain ⟨g, hk0, hq, hd0, hd, hl0⟩ := i0
  obtain ⟨A1, q1, l1, n1, e1⟩ := o
  obtain ⟨A3, q3, l3, n3, e3⟩ := o3
  have AA : AdvS m0 m3 := (A1.trans A).trans A3
  have ii : Ina X m3 k b (d + 1 + 1) := ⟨g.adv AA.1, hk0, q3, by omega, e3, by omega⟩
  have z := ps_two s0 s1 s2 (d := d + 1 + 1) (by omega)
  rw [show d + 1 + 1 - 1 = d + 1 by omega] at z
  have n3' : m0 336 8 ≤ m3 336 8 := AA.1.2.2.2.2.1
  have a2 : m 336 8 ≤ m2 336 8 := A.1.2.2.2.2.1
  have e8 : m4 336 8 = m3 336 8 := f 336 8 (by omega)
  exact ⟨put_out ii AA (by omega) (by omega) (by omega) f hl hw z, by omega⟩
theorem zp_term {X : Mm} {S : Sh} {m0 : Mm} {K : Int → Mm → Prop} {k b d : Int} (hS : Shp S) (hm0 : Inv X S m0) (hi : Ina X m0 k b d) (hf : ∀ M1 : Mm, Inv X S M1 → ¬ M1 336 9 = 0 → K 0 M1) (hk : ∀ M1 : Mm, Inv X S M1 → Out m0 M1 k b d → K 1 M1) : wp_X12_term S m0 336 K := by
  have hk0 := hi.2.1
  refine u_X12_term ?_
  refine ⟨hS.k336, ?_⟩
  refine zp_value hS hm0 hi (fun m1 hm1 n1 => ?_) (fun m1 hm1 o1 => ?_)
  · exact g_ifF (by decide) (g_C ⟨by decide, hf m1 hm1 n1⟩)
  · refine g_ifT (by decide) ?_
    have L : ∀ (n : Nat) (m : Mm), Inv X S m → Out m0 m k b d → 401 - m 336 8 ≤ (n : Int) → wp_X12_term_9 S K n 336 m := by
      intro n
      induction n with
      | zero =>
        intro m hm _ h
        have b8 := hm.f_336_8
        exfalso; omega
      | succ n ih =>
        intro m hm o h
        have go : ∀ m' : Mm, Inv X S m' → Out m0 m' k b d → m' 336 8 < m' 336 1 → m 336 8 ≤ m' 336 8 → wp_X12_term_36 S (fun a0 M => wp_X12_term_9 S K n a0 M) K 336 m' := by
          intro m' hm' o' h1 h2
          have b8 := hm'.f_336_8
          have b1 := hm'.f_336_1
          have op : ∀ s : Int, 2 ≤ s → s ≤ 15 → ¬ s = 11 → wp_X12_term_74 S (fun a0 M => wp_X12_term_9 S K n a0 M) K 336 s m' := by
            intro s s0 s1 s2
            refine u_X12_term_74 ?_
            refine g_get 8 (0) (400) rfl hS.k336 hm'.f_336_8 (fun v ev bv cv => ?_)
            refine g_C ?_
            refine g_A (by omega) (by omega) ?_
            refine g_put 8 rfl hS.k336 (hm'.w_336_8 (by omega) (by omega)) (fun m2 e2 hm2 => ?_)
            have x2 : m2 336 8 = v + 1 := (congrFun (congrFun e2 _) _).trans (up_at _ _ _ _)
            have f2 : ∀ c p : Int, ¬ (c = 336 ∧ p = 8) → m2 c p = m' c p := fun c p q => (congrFun (congrFun e2 _) _).trans (up_ne q)
            have i' := o'.ina hi
            obtain ⟨i2, A2⟩ := i'.fr (m1 := m2) (fun c p q => f2 c p (by omega)) (by omega) (by rw [f2 336 12 (by omega)]; omega)
            have i2' : Ina X m2 (k + 1) b (d + 1) := by
              obtain ⟨g, j0, jq, jd0, jd, jl⟩ := i2
              obtain ⟨g', j0', jq', jd0', jd', jl'⟩ := i'
              have l2 : m2 339 (m2 336 11) = m' 339 (m' 336 11) := by rw [f2 336 11 (by omega), f2 339 _ (by omega)]
              exact ⟨g, by omega, jq, jd0, jd, by omega⟩
            refine ⟨hS.k336, ?_⟩
            refine zp_value hS hm2 i2' (fun m3 hm3 n3 => ?_) (fun m3 hm3 o3 => ?_)
            · exact g_ifF (by decide) (g_C ⟨by decide, hf m3 hm3 n3⟩)
            · refine g_ifT (by decide) ?_
              refine g_C ?_
              refine ⟨hS.k336, ?_⟩
              have b83 := hm3.f_336_8
              have ol := o3.2.2.1
              refine zp_puts hS hm3 ((i2'.1).adv o3.1.1) (by omega) s1 (by decide) (by decide) (by omega) (fun m4 hm4 f4 h4 s4 => ?_)
              obtain ⟨o4, n4⟩ := two_out hi o' A2 (by omega) o3 s0 s1 s2 f4 h4 s4
              exact ih m4 hm4 o4 (by omega)
          refine u_X12_term_36 ?_
          refine g_getr 0 337 rfl hS.k336 hm'.f_336_0 (by decide) ?_
          refine g_get 8 (0) (400) rfl hS.k336 hm'.f_336_8 (fun v ev bv cv => ?_)
          refine g_ldu hS.k337 hS.l337 (by omega) (by omega) (fun x ex => ?_)
          refine g_C ?_
          refine g_if (fun w => ?_) (fun w => g_C (op 4 (by decide) (by decide) (by decide)))
          refine g_getr 0 337 rfl hS.k336 hm'.f_336_0 (by decide) ?_
          refine g_get 8 (0) (400) rfl hS.k336 hm'.f_336_8 (fun v ev bv cv => ?_)
          refine g_ldu hS.k337 hS.l337 (by omega) (by omega) (fun x ex => ?_)
          refine g_C ?_
          refine g_if (fun w => ?_) (fun w => g_C (op 5 (by decide) (by decide) (by decide)))
          exact g_C (op 14 (by decide) (by decide) (by decide))
        refine u_X12_term_9 ?_
        refine ⟨hS.k336, ?_⟩
        refine z_X12_see hS hm (fun r1 s1 hs1 f1 b1 c1 y1 t1 _ => ?_)
        have o1 : Out m0 s1 k b d := o.later (fun c p q => f1 c p (by omega)) y1 (by rw [f1 336 12 (by omega)]; omega)
        refine g_C ?_
        refine g_if (fun w => go s1 hs1 o1 (t1.resolve_left (by omega)).1 (by omega)) (fun w => ?_)
        refine ⟨hS.k336, ?_⟩
        refine z_X12_see hS hs1 (fun r2 s2 hs2 f2 b2 c2 y2 t2 _ => ?_)
        have o2 : Out m0 s2 k b d := o1.later (fun c p q => f2 c p (by omega)) y2 (by rw [f2 336 12 (by omega)]; omega)
        refine g_C ?_
        refine g_if (fun w => go s2 hs2 o2 (t2.resolve_left (by omega)).1 (by omega)) (fun w => ?_)
        refine ⟨hS.k336, ?_⟩
        refine z_X12_see hS hs2 (fun r3 s3 hs3 f3 b3 c3 y3 t3 _ => ?_)
        have o3 : Out m0 s3 k b d := o2.later (fun c p q => f3 c p (by omega)) y3 (by rw [f3 336 12 (by omega)]; omega)
        refine g_C ?_
        exact g_if (fun w => g_C ⟨by decide, hk s3 hs3 o3⟩) (fun w => go s3 hs3 o3 (t3.resolve_left (by omega)).1 (by omega))
    have b8 := hm1.f_336_8
    exact ⟨401, L 401 m1 hm1 o1 (by omega)⟩
theorem zp_sum {X : Mm} {S : Sh} {m0 : Mm} {K : Int → Mm → Prop} {k b d : Int} (hS : Shp S) (hm0 : Inv X S m0) (hi : Ina X m0 k b d) (hf : ∀ M1 : Mm, Inv X S M1 → ¬ M1 336 9 = 0 → K 0 M1) (hk : ∀ M1 : Mm, Inv X S M1 → Out m0 M1 k b d → K 1 M1) : wp_X12_sum S m0 336 K := by
  have hk0 := hi.2.1
  refine u_X12_sum ?_
  refine ⟨hS.k336, ?_⟩
  refine zp_term hS hm0 hi (fun m1 hm1 n1 => ?_) (fun m1 hm1 o1 => ?_)
  · exact g_ifF (by decide) (g_C ⟨by decide, hf m1 hm1 n1⟩)
  · refine g_ifT (by decide) ?_
    have L : ∀ (n : Nat) (m : Mm), Inv X S m → Out m0 m k b d → 401 - m 336 8 ≤ (n : Int) → wp_X12_sum_9 S K n 336 m := by
      intro n
      induction n with
      | zero =>
        intro m hm _ h
        have b8 := hm.f_336_8
        exfalso; omega
      | succ n ih =>
        intro m hm o h
        have go : ∀ m' : Mm, Inv X S m' → Out m0 m' k b d → m' 336 8 < m' 336 1 → m 336 8 ≤ m' 336 8 → wp_X12_sum_27 S (fun a0 M => wp_X12_sum_9 S K n a0 M) K 336 m' := by
          intro m' hm' o' h1 h2
          have b8 := hm'.f_336_8
          have b1 := hm'.f_336_1
          have op : ∀ s : Int, 2 ≤ s → s ≤ 15 → ¬ s = 11 → wp_X12_sum_46 S (fun a0 M => wp_X12_sum_9 S K n a0 M) K 336 s m' := by
            intro s s0 s1 s2
            refine u_X12_sum_46 ?_
            refine g_get 8 (0) (400) rfl hS.k336 hm'.f_336_8 (fun v ev bv cv => ?_)
            refine g_C ?_
            refine g_A (by omega) (by omega) ?_
            refine g_put 8 rfl hS.k336 (hm'.w_336_8 (by omega) (by omega)) (fun m2 e2 hm2 => ?_)
            have x2 : m2 336 8 = v + 1 := (congrFun (congrFun e2 _) _).trans (up_at _ _ _ _)
            have f2 : ∀ c p : Int, ¬ (c = 336 ∧ p = 8) → m2 c p = m' c p := fun c p q => (congrFun (congrFun e2 _) _).trans (up_ne q)
            have i' := o'.ina hi
            obtain ⟨i2, A2⟩ := i'.fr (m1 := m2) (fun c p q => f2 c p (by omega)) (by omega) (by rw [f2 336 12 (by omega)]; omega)
            have i2' : Ina X m2 (k + 1) b (d + 1) := by
              obtain ⟨g, j0, jq, jd0, jd, jl⟩ := i2
              obtain ⟨g', j0', jq', jd0', jd', jl'⟩ := i'
              have l2 : m2 339 (m2 336 11) = m' 339 (m' 336 11) := by rw [f2 336 11 (by omega), f2 339 _ (by omega)]
              exact ⟨g, by omega, jq, jd0, jd, by omega⟩
            refine ⟨hS.k336, ?_⟩
            refine zp_term hS hm2 i2' (fun m3 hm3 n3 => ?_) (fun m3 hm3 o3 => ?_)
            · exact g_ifF (by decide) (g_C ⟨by decide, hf m3 hm3 n3⟩)
            · refine g_ifT (by decide) ?_
              refine g_C ?_
              refine ⟨hS.k336, ?_⟩
              have b83 := hm3.f_336_8
              have ol := o3.2.2.1
              refine zp_puts hS hm3 ((i2'.1).adv o3.1.1) (by omega) s1 (by decide) (by decide) (by omega) (fun m4 hm4 f4 h4 s4 => ?_)
              obtain ⟨o4, n4⟩ := two_out hi o' A2 (by omega) o3 s0 s1 s2 f4 h4 s4
              exact ih m4 hm4 o4 (by omega)
          refine u_X12_sum_27 ?_
          refine g_getr 0 337 rfl hS.k336 hm'.f_336_0 (by decide) ?_
          refine g_get 8 (0) (400) rfl hS.k336 hm'.f_336_8 (fun v ev bv cv => ?_)
          refine g_ldu hS.k337 hS.l337 (by omega) (by omega) (fun x ex => ?_)
          refine g_C ?_
          refine g_if (fun w => ?_) (fun w => g_C (op 2 (by decide) (by decide) (by decide)))
          exact g_C (op 3 (by decide) (by decide) (by decide))
        refine u_X12_sum_9 ?_
        refine ⟨hS.k336, ?_⟩
        refine z_X12_see hS hm (fun r1 s1 hs1 f1 b1 c1 y1 t1 _ => ?_)
        have o1 : Out m0 s1 k b d := o.later (fun c p q => f1 c p (by omega)) y1 (by rw [f1 336 12 (by omega)]; omega)
        refine g_C ?_
        refine g_if (fun w => go s1 hs1 o1 (t1.resolve_left (by omega)).1 (by omega)) (fun w => ?_)
        refine ⟨hS.k336, ?_⟩
        refine z_X12_see hS hs1 (fun r2 s2 hs2 f2 b2 c2 y2 t2 _ => ?_)
        have o2 : Out m0 s2 k b d := o1.later (fun c p q => f2 c p (by omega)) y2 (by rw [f2 336 12 (by omega)]; omega)
        refine g_C ?_
        exact g_if (fun w => g_C ⟨by decide, hk s2 hs2 o2⟩) (fun w => go s2 hs2 o2 (t2.resolve_left (by omega)).1 (by omega))
    have b8 := hm1.f_336_8
    exact ⟨401, L 401 m1 hm1 o1 (by omega)⟩
theorem zp_compare {X : Mm} {S : Sh} {m0 : Mm} {K : Int → Mm → Prop} {k b d : Int} (hS : Shp S) (hm0 : Inv X S m0) (hi : Ina X m0 k b d) (hf : ∀ M1 : Mm, Inv X S M1 → ¬ M1 336 9 = 0 → K 0 M1) (hk : ∀ M1 : Mm, Inv X S M1 → Out m0 M1 k b d → K 1 M1) : wp_X12_compare S m0 336 K := by
  have hk0 := hi.2.1
  refine u_X12_compare ?_
  refine ⟨hS.k336, ?_⟩
  refine zp_sum hS hm0 hi (fun m1 hm1 n1 => ?_) (fun m1 hm1 o1 => ?_)
  · exact g_ifF (by decide) (g_C ⟨by decide, hf m1 hm1 n1⟩)
  · refine g_ifT (by decide) ?_
    refine ⟨hS.k336, ?_⟩
    refine z_X12_see hS hm1 (fun r2 m2 hm2 f2 b2 c2 y2 t2 _ => ?_)
    have o2 : Out m0 m2 k b d := o1.later (fun c p q => f2 c p (by omega)) y2 (by rw [f2 336 12 (by omega)]; omega)
    have i2 := o2.ina hi
    have b8 := hm2.f_336_8
    have b1 := hm2.f_336_1
    refine g_get 8 (0) (400) rfl hS.k336 hm2.f_336_8 (fun v ev bv cv => ?_)
    have last : ∀ (m : Mm) (s : Int), Inv X S m → AdvS m2 m → m2 336 8 + 1 ≤ m 336 8 → Ina X m (k + 1) b (d + 1) → 0 ≤ s → s ≤ 4 → wp_X12_compare_152 S K 336 s m := by
      intro m s hm A h8 i s0 s1
      refine u_X12_compare_152 ?_
      refine ⟨hS.k336, ?_⟩
      refine zp_sum hS hm i (fun m3 hm3 n3 => ?_) (fun m3 hm3 o3 => ?_)
      · exact g_ifF (by decide) (g_C ⟨by decide, hf m3 hm3 n3⟩)
      · refine g_ifT (by decide) ?_
        refine g_C ?_
        refine g_A (by omega) (by omega) ?_
        refine g_C ?_
        refine ⟨hS.k336, ?_⟩
        have b83 := hm3.f_336_8
        have ol := o3.2.2.1
        refine zp_puts hS hm3 ((i.1).adv o3.1.1) (by omega) (by omega) (by decide) (by decide) (by omega) (fun m4 hm4 f4 h4 s4 => ?_)
        obtain ⟨o4, n4⟩ := two_out hi o2 A h8 o3 (by omega) (by omega) (by omega) f4 h4 s4
        exact g_C ⟨by decide, hk m4 hm4 o4⟩
    have mid : ∀ (m : Mm) (c a f : Int), Inv X S m → AdvS m2 m → m2 336 8 + 1 ≤ m 336 8 → Ina X m (k + 1) b (d + 1) → 0 ≤ a → a ≤ 400 → wp_X12_compare_105 S K 336 c a f m := by
      intro m c a f hm A h8 i a0 a1
      refine u_X12_compare_105 ?_
      refine ⟨hS.k336, ?_⟩
      refine z_X12_makes hS hm a0 a1 (fun r3 m3 hm3 f3 b3 c3 y6 y7 y8 => ?_)
      refine g_if (fun w => ?_) (fun w => ?_)
      · have k3 : m3 336 12 = m 336 12 + 1 := y7.resolve_left w
        obtain ⟨i3, A3⟩ := i.fr (m1 := m3) (fun c p q => f3 c p (by omega)) (by rw [f3 336 8 (by omega)]; omega) (by omega)
        have h83 : m2 336 8 + 1 ≤ m3 336 8 := by rw [f3 336 8 (by omega)]; omega
        have go := fun s s0 s1 => last m3 s hm3 (A.trans A3) h83 i3 s0 s1
        refine g_C ?_
        refine g_if (fun w2 => ?_) (fun w2 => ?_)
        · refine g_C ?_
          refine g_if (fun w3 => ?_) (fun w3 => ?_)
          · exact g_if (fun w4 => g_C (go 4 (by decide) (by decide))) (fun w4 => g_C (go 3 (by decide) (by decide)))
          · exact g_C (go 2 (by decide) (by decide))
        · exact g_if (fun w4 => g_C (go 0 (by decide) (by decide))) (fun w4 => g_C (go 1 (by decide) (by decide)))
      · exact g_C ⟨by decide, hf m3 hm3 (y6.resolve_left (by omega))⟩
    have go : ∀ c : Int, m2 336 8 < m2 336 1 → wp_X12_compare_44 S K 336 c v m2 := by
      intro c hlt
      refine u_X12_compare_44 ?_
      refine g_get 8 (0) (400) rfl hS.k336 hm2.f_336_8 (fun v2 ev2 bv2 cv2 => ?_)
      refine g_C ?_
      refine g_A (by omega) (by omega) ?_
      refine g_put 8 rfl hS.k336 (hm2.w_336_8 (by omega) (by omega)) (fun m3 e3 hm3 => ?_)
      have x3 : m3 336 8 = v2 + 1 := (congrFun (congrFun e3 _) _).trans (up_at _ _ _ _)
      have f3 : ∀ c p : Int, ¬ (c = 336 ∧ p = 8) → m3 c p = m2 c p := fun c p q => (congrFun (congrFun e3 _) _).trans (up_ne q)
      obtain ⟨i3, A3⟩ := i2.fr (m1 := m3) (fun c p q => f3 c p (by omega)) (by omega) (by rw [f3 336 12 (by omega)]; omega)
      have i3' : Ina X m3 (k + 1) b (d + 1) := by
        obtain ⟨g, j0, jq, jd0, jd, jl⟩ := i3
        obtain ⟨g', j0', jq', jd0', jd', jl'⟩ := i2
        have l2 : m3 339 (m3 336 11) = m2 339 (m2 336 11) := by rw [f3 336 11 (by omega), f3 339 _ (by omega)]
        exact ⟨g, by omega, jq, jd0, jd, by omega⟩
      have no : wp_X12_compare_89 S K 336 c v m3 := by
        refine u_X12_compare_89 ?_
        refine g_C ?_
        refine u_X12_compare_90 ?_
        refine g_ifT rfl ?_
        exact mid m3 c v 0 hm3 A3 (by omega) i3' (by omega) (by omega)
      refine g_C ?_
      refine g_if (fun w => no) (fun w => ?_)
      refine g_get 8 (0) (400) rfl hS.k336 hm3.f_336_8 (fun v4 ev4 bv4 cv4 => ?_)
      refine g_get 1 (0) (400) rfl hS.k336 hm3.f_336_1 (fun v5 ev5 bv5 cv5 => ?_)
      refine g_if (fun w => no) (fun w => ?_)
      refine g_getr 0 337 rfl hS.k336 hm3.f_336_0 (by decide) ?_
      refine g_get 8 (0) (400) rfl hS.k336 hm3.f_336_8 (fun v6 ev6 bv6 cv6 => ?_)
      refine g_ldu hS.k337 hS.l337 (by omega) (by omega) (fun x ex => ?_)
      refine g_C ?_
      refine g_if (fun w => no) (fun w => ?_)
      refine g_C ?_
      refine u_X12_compare_90 ?_
      refine g_ifF (by decide) ?_
      refine g_get 8 (0) (400) rfl hS.k336 hm3.f_336_8 (fun v7 ev7 bv7 cv7 => ?_)
      refine g_C ?_
      refine g_A (by omega) (by omega) ?_
      refine g_put 8 rfl hS.k336 (hm3.w_336_8 (by omega) (by omega)) (fun m4 e4 hm4 => ?_)
      have x4 : m4 336 8 = v7 + 1 := (congrFun (congrFun e4 _) _).trans (up_at _ _ _ _)
      have f4 : ∀ c p : Int, ¬ (c = 336 ∧ p = 8) → m4 c p = m3 c p := fun c p q => (congrFun (congrFun e4 _) _).trans (up_ne q)
      obtain ⟨i4, A4⟩ := i3'.fr (m1 := m4) (fun c p q => f4 c p (by omega)) (by omega) (by rw [f4 336 12 (by omega)]; omega)
      exact mid m4 c v 1 hm4 (A3.trans A4) (by omega) i4 (by omega) (by omega)
    refine g_C ?_
    refine g_if (fun w => go r2 (t2.resolve_left (by omega)).1) (fun w => ?_)
    refine g_C ?_
    refine g_if (fun w => go r2 (t2.resolve_left (by omega)).1) (fun w => ?_)
    refine g_C ?_
    refine g_if (fun w => go r2 (t2.resolve_left (by omega)).1) (fun w => ?_)
    refine g_C ?_
    refine ⟨hS.k336, ?_⟩
    refine z_X12_fails hS hm2 (by decide) (by decide) (by omega) (by omega) (fun r3 m3 hm3 f3 b3 c3 y6 => ?_)
    obtain rfl : r3 = 0 := by omega
    exact ⟨by decide, hf m3 hm3 y6⟩
