/-- clause c of row t is good, within the first l signs -/
def Cl (M : Mm) (t c l : Int) : Prop := (0 ≤ M 340 (48 * t + 4 * c) ∧ M 340 (48 * t + 4 * c) ≤ M 340 (48 * t + 4 * c + 1) ∧ M 340 (48 * t + 4 * c + 1) ≤ l ∧ pth M t (M 340 (48 * t + 4 * c + 1) - M 340 (48 * t + 4 * c)).toNat (M 340 (48 * t + 4 * c)) 0 1) ∧ (M 340 (48 * t + 4 * c + 2) < 0 ∨ (0 ≤ M 340 (48 * t + 4 * c + 2) ∧ M 340 (48 * t + 4 * c + 2) ≤ M 340 (48 * t + 4 * c + 3) ∧ M 340 (48 * t + 4 * c + 3) ≤ l ∧ pth M t (M 340 (48 * t + 4 * c + 3) - M 340 (48 * t + 4 * c + 2)).toNat (M 340 (48 * t + 4 * c + 2)) 0 1))
theorem Cl.same {M M1 : Mm} {t c l l1 : Int} (h : Cl M t c l) (a0 : M1 340 (48 * t + 4 * c) = M 340 (48 * t + 4 * c)) (a1 : M1 340 (48 * t + 4 * c + 1) = M 340 (48 * t + 4 * c + 1)) (a2 : M1 340 (48 * t + 4 * c + 2) = M 340 (48 * t + 4 * c + 2)) (a3 : M1 340 (48 * t + 4 * c + 3) = M 340 (48 * t + 4 * c + 3)) (hs : ∀ j : Int, j < 400 * t + l → M1 338 j = M 338 j) (hl : l ≤ l1) : Cl M1 t c l1 := by
  unfold Cl at h ⊢
  rw [a0, a1, a2, a3]
  obtain ⟨⟨h1, h2, h3, h4⟩, h5⟩ := h
  refine ⟨⟨h1, h2, by omega, pth_same _ _ _ _ (fun j _ _ => hs _ (by omega)) h4⟩, ?_⟩
  rcases h5 with h5 | ⟨h5, h6, h7, h8⟩
  · exact Or.inl h5
  · exact Or.inr ⟨h5, h6, by omega, pth_same _ _ _ _ (fun j _ _ => hs _ (by omega)) h8⟩
theorem pfr_of {M : Mm} {t a b : Int} (h1 : 0 ≤ a) (h2 : a ≤ b) (h3 : b ≤ 400) (h4 : pth M t (b - a).toNat a 0 1) : pfr M t a b := by
  refine ⟨h1, ?_, h3, pfx_of _ _ _ h4⟩
  by_cases e : a = b
  · rw [e, show (b - b).toNat = 0 by omega] at h4
    exact absurd (show (0 : Int) = 1 from h4) (by decide)
  · omega
theorem Cl.ok {M : Mm} {t c l : Int} (h : Cl M t c l) (hl : l ≤ 400) : pfr M t (M 340 (48 * t + 4 * c)) (M 340 (48 * t + 4 * c + 1)) ∧ (M 340 (48 * t + 4 * c + 2) < 0 ∨ pfr M t (M 340 (48 * t + 4 * c + 2)) (M 340 (48 * t + 4 * c + 3))) := by
  obtain ⟨⟨h1, h2, h3, h4⟩, h5⟩ := h
  refine ⟨pfr_of h1 h2 (by omega) h4, ?_⟩
  rcases h5 with h5 | ⟨h5, h6, h7, h8⟩
  · exact Or.inl h5
  · exact Or.inr (pfr_of h5 h6 (by omega) h8)
/-- a rule's row, so far (d: how many more lines than clauses) -/
def Rl (X M : Mm) (d : Int) : Prop := GX X M ∧ M 339 (X 336 2) ≤ M 336 8 ∧ M 341 (X 336 2) + d = M 336 14 ∧ (0 ≤ M 341 (X 336 2) ∧ M 336 14 ≤ 12) ∧ ∀ c : Int, 0 ≤ c → c < M 341 (X 336 2) → Cl M (X 336 2) c (M 339 (X 336 2))
theorem Rl.fr {X m m1 : Mm} {d : Int} (h : Rl X m d) (f : ∀ c p : Int, ¬ (c = 336 ∧ ¬ p = 11 ∧ ¬ p = 14) → m1 c p = m c p) (h8 : m 336 8 ≤ m1 336 8) : Rl X m1 d := by
  obtain ⟨g, a, b, c, e⟩ := h
  refine ⟨⟨(f 336 11 (by omega)).trans g.1, g.2⟩, ?_, ?_, ?_, fun i i0 i1 => ?_⟩
  · rw [f 339 _ (by omega)]; omega
  · rw [f 341 _ (by omega), f 336 14 (by omega)]; exact b
  · rw [f 341 _ (by omega), f 336 14 (by omega)]; exact c
  · rw [f 341 _ (by omega)] at i1
    exact (e i i0 i1).same (f 340 _ (by omega)) (f 340 _ (by omega)) (f 340 _ (by omega)) (f 340 _ (by omega)) (fun j _ => f 338 j (by omega)) (by rw [f 339 _ (by omega)]; omega)
theorem zx_takesWord {X : Mm} {S : Sh} {m0 : Mm} {K : Int → Mm → Prop} {b : Int → Int} {n u : Int} (k : Nat) (hS : Shp S) (hm0 : Inv X S m0) (ht : TR X b n) (hp : m0 336 8 ≤ n) (hk17 : k < 17) (hu : u = pw k) (hk : ∀ (r q : Int) (M1 : Mm), Inv X S M1 → (∀ c p : Int, ¬ (c = 336 ∧ 8 ≤ p ∧ p ≤ 8) → M1 c p = m0 c p) → Sk b n (m0 336 8) q → q ≤ n → ((r = 0 ∧ M1 336 8 = q ∧ ¬ Wk b n k q) ∨ (r = 1 ∧ M1 336 8 = q + tl k ∧ Wk b n k q ∧ q + tl k ≤ n)) → K r M1) : wp_X12_takesWord S m0 336 u K := by
  have b8 := hm0.f_336_8
  refine u_X12_takesWord ?_
  refine ⟨hS.k336, ?_⟩
  refine zx_isWord k hS hm0 ht hp hk17 hu (fun q m1 hm1 f1 sk e1 qn wk => ?_) (fun q m1 hm1 f1 sk e1 qn wk => ?_)
  · refine g_ifT (by decide) ?_
    refine ⟨hS.k336, ?_⟩
    refine zx_passWord k hS hm1 ht e1 (by have := sk.1; omega) hk17 wk (fun m2 hm2 f2 e2 rn => ?_)
    exact g_C ⟨by decide, hk 1 q m2 hm2 (fun c p z => (f2 c p z).trans (f1 c p z)) sk qn (Or.inr ⟨rfl, e2, wk, rn⟩)⟩
  · exact g_ifF (by decide) (g_C ⟨by decide, hk 0 q m1 hm1 f1 sk qn (Or.inl ⟨rfl, e1, wk⟩)⟩)
theorem zs_isTurnHere {X : Mm} {S : Sh} {m0 : Mm} {K : Int → Mm → Prop} {tb : Int → Int} {tn kk : Int} {T : Int → Prop} (hS : Shp S) (hm0 : Inv X S m0) (hR : TR X tb tn) (hr : Rl X m0 1) (wk0 : Wk tb tn 6 (m0 336 8)) (h90 : m0 336 9 = 0) (hl0 : ∀ f : Int, Acc tb tn 1 (m0 336 8 + 4) (m0 336 12) [] kk f → T f) (hf : ∀ M1 : Mm, Inv X S M1 → T (M1 336 9) → ¬ M1 336 9 = 0 → K 0 M1) (hk : ∀ M1 : Mm, Inv X S M1 → Rl X M1 0 → m0 336 8 ≤ M1 336 8 → M1 336 14 = m0 336 14 → (∃ s : List Bool, Lr tb tn T M1 9 s kk) → K 1 M1) : wp_X12_isTurnHere S m0 336 K := by
  obtain ⟨g, rl, rc, ⟨rc0, rc1⟩, rA⟩ := id hr
  obtain ⟨g1, g2, g3⟩ := id g
  have bl := hm0.a_339 (i := X 336 2) (by omega) (by omega)
  obtain ⟨t, ht⟩ : ∃ t : Int, t = X 336 2 := ⟨_, rfl⟩
  obtain ⟨c0, hc0⟩ : ∃ c0 : Int, c0 = m0 341 t := ⟨_, rfl⟩
  rw [← ht] at g1 g2 g3 rl rc rc0 rA bl
  rw [← hc0] at rc rc0 rA
  have nsp : ∀ q : Int, 0 ≤ q → ¬ spX X 340 (48 * t + 4 * c0 + q) := fun q q0 => by omega
  have fin : ∀ m' : Mm, (∃ s : List Bool, Lr tb tn T m' 9 s kk) → Inv X S m' → GX X m' → m' 339 t ≤ m' 336 8 → (∀ p : Int, m' 341 p = m0 341 p) → m' 336 14 = m0 336 14 → (∀ p : Int, p < 48 * t + 4 * c0 → m' 340 p = m0 340 p) → (∀ j : Int, j < 400 * t + m0 339 t → m' 338 j = m0 338 j) → m0 339 t ≤ m' 339 t → m0 336 8 ≤ m' 336 8 → (0 ≤ m' 340 (48 * t + 4 * c0) ∧ m' 340 (48 * t + 4 * c0) ≤ m' 340 (48 * t + 4 * c0 + 1) ∧ m' 340 (48 * t + 4 * c0 + 1) ≤ m' 339 t ∧ pth m' t (m' 340 (48 * t + 4 * c0 + 1) - m' 340 (48 * t + 4 * c0)).toNat (m' 340 (48 * t + 4 * c0)) 0 1) → (m' 340 (48 * t + 4 * c0 + 2) < 0 ∨ (0 ≤ m' 340 (48 * t + 4 * c0 + 2) ∧ m' 340 (48 * t + 4 * c0 + 2) ≤ m' 339 t ∧ pth m' t (m' 339 t - m' 340 (48 * t + 4 * c0 + 2)).toNat (m' 340 (48 * t + 4 * c0 + 2)) 0 1)) → wp_X12_isTurnHere_110 S K 336 (48 * t + 4 * c0) m' := by
    intro m' lx hm' g' h8 h41 h14 h40 h38 hl h88 hA hB
    have t' : m' 336 11 = t := g'.1.trans ht.symm
    refine u_X12_isTurnHere_110 ?_
    refine g_getr 5 340 rfl hS.k336 hm'.f_336_5 (by decide) ?_
    refine g_C ?_
    refine g_A (by omega) (by omega) ?_
    refine g_getr 4 339 rfl hS.k336 hm'.f_336_4 (by decide) ?_
    refine g_getu 11 rfl hS.k336 (fun v ev => ?_)
    refine g_ldu hS.k339 hS.l339 (by omega) (by omega) (fun l el => ?_)
    rw [ev, t'] at el
    have hw1 : Inv X S (up m' 340 (48 * t + 4 * c0 + 3) l) := hm'.wA (1, 0) (by decide) (by decide +kernel) (okb_n rfl) (nsp 3 (by decide)) (by decide) (by decide)
    refine g_st hS.k340 hS.l340 (by omega) (by omega) hw1 (fun m1 e1 hm1 => ?_)
    have f1 : ∀ c p : Int, ¬ (c = 340 ∧ p = 48 * t + 4 * c0 + 3) → m1 c p = m' c p := fun c p q => (congrFun (congrFun e1 _) _).trans (up_ne q)
    have x1 : m1 340 (48 * t + 4 * c0 + 3) = l := (congrFun (congrFun e1 _) _).trans (up_at _ _ _ _)
    refine g_getr 6 341 rfl hS.k336 hm1.f_336_6 (by decide) ?_
    refine g_getu 11 rfl hS.k336 (fun v2 ev2 => ?_)
    rw [f1 336 11 (by omega), t'] at ev2
    refine g_ldu hS.k341 hS.l341 (by omega) (by omega) (fun c ec => ?_)
    rw [f1 341 _ (by omega), h41, ev2, ← hc0] at ec
    refine g_C ?_
    refine g_A (by omega) (by omega) ?_
    have hw2 : Inv X S (up m1 341 v2 (c + 1)) := hm1.wA (0, 12) (by decide) (by decide +kernel) (Or.inr ⟨by show (0 : Int) ≤ c + 1; omega, by show c + 1 ≤ 12; omega⟩) (by omega) (by decide) (by decide)
    refine g_st hS.k341 hS.l341 (by omega) (by omega) hw2 (fun m2 e2 hm2 => ?_)
    have f2 : ∀ c p : Int, ¬ (c = 341 ∧ p = v2) → m2 c p = m1 c p := fun c p q => (congrFun (congrFun e2 _) _).trans (up_ne q)
    have x2 : m2 341 v2 = c + 1 := (congrFun (congrFun e2 _) _).trans (up_at _ _ _ _)
    rw [ev2] at x2
    have F : ∀ c p : Int, ¬ (c = 341 ∧ p = t) ∧ ¬ (c = 340 ∧ p = 48 * t + 4 * c0 + 3) → m2 c p = m' c p := fun c p q => (f2 c p (by omega)).trans (f1 c p (by omega))
    have e39 : m2 339 t = m' 339 t := F 339 t (by omega)
    have y1 : m2 340 (48 * t + 4 * c0 + 3) = m' 339 t := by rw [f2 _ _ (by omega), x1, el]
    refine g_C ⟨by decide, hk m2 hm2 ?_ (by rw [F 336 8 (by omega)]; omega) (by rw [F 336 14 (by omega)]; exact h14) (lx.elim (fun s l => ⟨s, l.eq (F 336 8 (by omega)) (F 336 12 (by omega)) (F 336 9 (by omega))⟩))⟩
    unfold Rl
    rw [← ht]
    refine ⟨⟨(F 336 11 (by omega)).trans g'.1, g'.2⟩, by rw [e39, F 336 8 (by omega)]; omega, by rw [x2, F 336 14 (by omega), h14]; omega, by rw [x2, F 336 14 (by omega), h14]; omega, fun i i0 i1 => ?_⟩
    rw [x2] at i1
    rw [e39]
    by_cases ei : i = c0
    · rw [ei]
      unfold Cl
      rw [y1, F 340 (48 * t + 4 * c0) (by omega), F 340 (48 * t + 4 * c0 + 1) (by omega), F 340 (48 * t + 4 * c0 + 2) (by omega)]
      obtain ⟨hA1, hA2, hA3, hA4⟩ := hA
      refine ⟨⟨hA1, hA2, hA3, pth_same _ _ _ _ (fun j _ _ => F 338 _ (by omega)) hA4⟩, ?_⟩
      rcases hB with hB | ⟨hB1, hB2, hB3⟩
      · exact Or.inl hB
      · exact Or.inr ⟨hB1, hB2, Int.le_refl _, pth_same _ _ _ _ (fun j _ _ => F 338 _ (by omega)) hB3⟩
    · have z : ∀ q : Int, 0 ≤ q → q ≤ 3 → m2 340 (48 * t + 4 * i + q) = m0 340 (48 * t + 4 * i + q) := fun q q0 q3 => (F 340 _ (by omega)).trans (h40 _ (by omega))
      have z0 : m2 340 (48 * t + 4 * i) = m0 340 (48 * t + 4 * i) := (F 340 _ (by omega)).trans (h40 _ (by omega))
      exact (rA i i0 (by omega)).same z0 (z 1 (by decide) (by decide)) (z 2 (by decide) (by decide)) (z 3 (by decide) (by decide)) (fun j q => (F 338 j (by omega)).trans (h38 j q)) hl
  refine u_X12_isTurnHere ?_
  refine ⟨hS.k336, ?_⟩
  have b80 := hm0.f_336_8
  have tls := tl_s
  have tws := tw_s
  have nb' := hR.2.1
  refine zx_passWord 6 hS hm0 hR rfl b80.1 (by decide) wk0 (fun m1 hm1 f1 ep1 rn1 => ?_)
  have y1 : m0 336 8 ≤ m1 336 8 := by omega
  have t1 : m1 336 11 = t := (f1 336 11 (by omega)).trans g1
  refine g_C ?_
  refine g_getu 11 rfl hS.k336 (fun v1 ev1 => ?_)
  refine g_M (by omega) (by omega) ?_
  refine g_C ?_
  refine g_getr 6 341 rfl hS.k336 hm1.f_336_6 (by decide) ?_
  refine g_getu 11 rfl hS.k336 (fun v2 ev2 => ?_)
  refine g_ldu hS.k341 hS.l341 (by omega) (by omega) (fun v3 ev3 => ?_)
  rw [ev2, t1, f1 341 _ (by omega), ← hc0] at ev3
  refine g_M (by omega) (by omega) ?_
  refine g_A (by omega) (by omega) ?_
  rw [show 48 * v1 + 4 * v3 = 48 * t + 4 * c0 by omega]
  refine g_getr 5 340 rfl hS.k336 hm1.f_336_5 (by decide) ?_
  refine g_getr 4 339 rfl hS.k336 hm1.f_336_4 (by decide) ?_
  refine g_getu 11 rfl hS.k336 (fun v4 ev4 => ?_)
  refine g_ldu hS.k339 hS.l339 (by omega) (by omega) (fun l1 el1 => ?_)
  rw [ev4, t1, f1 339 _ (by omega)] at el1
  have hw2 : Inv X S (up m1 340 (48 * t + 4 * c0) l1) := hm1.wA (1, 0) (by decide) (by decide +kernel) (okb_n rfl) (by omega) (by decide) (by decide)
  refine g_st hS.k340 hS.l340 (by omega) (by omega) hw2 (fun m2 e2 hm2 => ?_)
  have f2 : ∀ c p : Int, ¬ (c = 340 ∧ p = 48 * t + 4 * c0) → m2 c p = m1 c p := fun c p q => (congrFun (congrFun e2 _) _).trans (up_ne q)
  have x2 : m2 340 (48 * t + 4 * c0) = l1 := (congrFun (congrFun e2 _) _).trans (up_at _ _ _ _)
  have F2 : ∀ c p : Int, ¬ (c = 340 ∧ p = 48 * t + 4 * c0) ∧ ¬ (c = 336 ∧ p = 8) → m2 c p = m0 c p := fun c p q => (f2 c p (by omega)).trans (f1 c p (by omega))
  have t2 : m2 336 11 = t := (F2 336 11 (by omega)).trans g1
  have g2' : GX X m2 := ⟨t2.trans ht, by omega, by omega⟩
  have l2 : m2 339 t = m0 339 t := F2 339 t (by omega)
  have e82 : m2 336 8 = m1 336 8 := f2 336 8 (by omega)
  have i2 : Ina X m2 0 l1 0 := by
    refine ⟨g2', by decide, ⟨⟨by omega, by rw [t2, l2]; omega⟩, ?_⟩, by decide, (hm2.f_336_12).1, by rw [t2, l2]; omega⟩
    rw [t2, l2, el1, show (m0 339 t - m0 339 t).toNat = 0 by omega]
    rfl
  refine ⟨hS.k336, ?_⟩
  have lr2 : Lr tb tn T m2 1 [] kk := by
    refine ⟨fun f hA => hl0 f ?_, by rw [F2 336 9 (by omega)]; exact h90, by omega⟩
    rw [show m2 336 8 = m0 336 8 + 4 by omega, F2 336 12 (by omega)] at hA
    exact hA
  refine zr_sum hS hm2 hR i2 (Or.inl rfl) lr2 (fun m3 hm3 n3 t3 => g_ifF (by decide) (g_C ⟨by decide, hf m3 hm3 n3 t3⟩)) (fun m3 hm3 o3 lr3 xn3 => ?_)
  obtain ⟨⟨A3, A3b, A3c⟩, q3, l3, n3, d3⟩ := o3
  obtain ⟨a31, a32, a33, a34, a35, a36, a37⟩ := A3
  rw [t2] at a32 a33 a34
  rw [l2] at a33 a34
  obtain ⟨⟨q31, q32⟩, q33⟩ := q3
  rw [a32] at q32 q33 l3
  refine g_ifT (by decide) ?_
  refine g_getr 5 340 rfl hS.k336 hm3.f_336_5 (by decide) ?_
  refine g_C ?_
  refine g_A (by omega) (by omega) ?_
  refine g_getr 4 339 rfl hS.k336 hm3.f_336_4 (by decide) ?_
  refine g_getu 11 rfl hS.k336 (fun v5 ev5 => ?_)
  refine g_ldu hS.k339 hS.l339 (by omega) (by omega) (fun l4 el4 => ?_)
  rw [ev5, a32] at el4
  have hw4 : Inv X S (up m3 340 (48 * t + 4 * c0 + 1) l4) := hm3.wA (1, 0) (by decide) (by decide +kernel) (okb_n rfl) (nsp 1 (by decide)) (by decide) (by decide)
  refine g_st hS.k340 hS.l340 (by omega) (by omega) hw4 (fun m4 e4 hm4 => ?_)
  have f4 : ∀ c p : Int, ¬ (c = 340 ∧ p = 48 * t + 4 * c0 + 1) → m4 c p = m3 c p := fun c p q => (congrFun (congrFun e4 _) _).trans (up_ne q)
  have x4 : m4 340 (48 * t + 4 * c0 + 1) = l4 := (congrFun (congrFun e4 _) _).trans (up_at _ _ _ _)
  refine g_getr 5 340 rfl hS.k336 hm4.f_336_5 (by decide) ?_
  refine g_C ?_
  refine g_A (by omega) (by omega) ?_
  refine g_C ?_
  have hw5 : Inv X S (up m4 340 (48 * t + 4 * c0 + 2) (-1)) := hm4.wA (1, 0) (by decide) (by decide +kernel) (okb_n rfl) (nsp 2 (by decide)) (by decide) (by decide)
  refine g_st hS.k340 hS.l340 (by omega) (by omega) hw5 (fun m5 e5 hm5 => ?_)
  have f5 : ∀ c p : Int, ¬ (c = 340 ∧ p = 48 * t + 4 * c0 + 2) → m5 c p = m4 c p := fun c p q => (congrFun (congrFun e5 _) _).trans (up_ne q)
  have x5 : m5 340 (48 * t + 4 * c0 + 2) = -1 := (congrFun (congrFun e5 _) _).trans (up_at _ _ _ _)
  have F5 : ∀ c p : Int, ¬ (c = 340 ∧ (p = 48 * t + 4 * c0 + 1 ∨ p = 48 * t + 4 * c0 + 2)) → m5 c p = m3 c p := fun c p q => (f5 c p (by omega)).trans (f4 c p (by omega))
  -- what holds of every memory from here on that only reads on
  have keep : ∀ m' : Mm, (∃ s : List Bool, Lr tb tn T m' 9 s kk) → (∀ c p : Int, ¬ (c = 336 ∧ 8 ≤ p ∧ p ≤ 16) ∧ ¬ c = 338 ∧ ¬ c = 339 ∧ ¬ c = 343 ∧ ¬ (c = 340 ∧ p = 48 * t + 4 * c0 + 2) → m' c p = m5 c p) → m' 336 11 = t → m' 336 14 = m5 336 14 → (∀ j : Int, j < 400 * t + m3 339 t → m' 338 j = m3 338 j) → m3 339 t ≤ m' 339 t → m' 339 t ≤ m' 336 8 → m3 336 8 ≤ m' 336 8 → Inv X S m' → (m' 340 (48 * t + 4 * c0 + 2) < 0 ∨ (0 ≤ m' 340 (48 * t + 4 * c0 + 2) ∧ m' 340 (48 * t + 4 * c0 + 2) ≤ m' 339 t ∧ pth m' t (m' 339 t - m' 340 (48 * t + 4 * c0 + 2)).toNat (m' 340 (48 * t + 4 * c0 + 2)) 0 1)) → wp_X12_isTurnHere_110 S K 336 (48 * t + 4 * c0) m' := by
    intro m' lx hF ht' h14 h38 hl h8 h88 hm' hB
    have z0 : m' 340 (48 * t + 4 * c0) = l1 := by rw [hF _ _ (by omega), F5 _ _ (by omega), a31 _ _ (by omega), x2]
    have z1 : m' 340 (48 * t + 4 * c0 + 1) = m3 339 t := by rw [hF _ _ (by omega), f5 _ _ (by omega), x4, el4]
    refine fin m' lx hm' ⟨ht'.trans ht, by omega, by omega⟩ h8 (fun p => ?_) ?_ (fun p q => ?_) (fun j q => ?_) (by omega) (by omega) ?_ hB
    · rw [hF 341 p (by omega), F5 341 p (by omega), a31 341 p (by omega), F2 341 p (by omega)]
    · rw [h14, F5 336 14 (by omega), a37, F2 336 14 (by omega)]
    · rw [hF 340 p (by omega), F5 340 p (by omega), a31 340 p (by omega), F2 340 p (by omega)]
    · rw [h38 j (by omega), a33 j q, F2 338 j (by omega)]
    · rw [z0, z1]
      exact ⟨q31, q32, hl, pth_same _ _ _ _ (fun j _ _ => h38 _ (by omega)) q33⟩
  refine g_C ?_
  refine ⟨hS.k336, ?_⟩
  have e85 : m5 336 8 = m3 336 8 := F5 336 8 (by omega)
  have b85 := hm5.f_336_8
  have lr5 : Lr tb tn T m5 4 [] kk := Lr.eq (M := m3) lr3 e85 (F5 336 12 (by omega)) (F5 336 9 (by omega))
  refine zx_takesWord 13 hS hm5 hR lr5.2.2 (by decide) pw13 (fun r6 q m6 hm6 f6 sk6 qn6 h6 => ?_)
  have sk61 := sk6.1
  have y6 : m5 336 8 ≤ m6 336 8 := by omega
  have na6 : ¬ (q < tn ∧ Ar (tb q)) := xn3 q (by rw [← e85]; exact sk6)
  have l6 : m6 339 t = m3 339 t := by rw [f6 339 t (by omega), F5 339 t (by omega)]
  have t6 : m6 336 11 = t := by rw [f6 336 11 (by omega), F5 336 11 (by omega), a32]
  refine g_if (fun w => ?_) (fun w => ?_)
  · have h60 : m6 336 8 = q ∧ ¬ Wk tb tn 13 q := by
      rcases h6 with z | z
      · exact z.2
      · exfalso; have := z.1; omega
    have lx6 : ∃ s : List Bool, Lr tb tn T m6 9 s kk := by
      refine ⟨[], fun f hA => ?_, by rw [f6 336 9 (by omega)]; exact lr5.2.1, by omega⟩
      rw [h60.1, f6 336 12 (by omega)] at hA
      by_cases ee : tn ≤ q ∨ tb q = 59
      · exact lr5.fault sk6 (sp_A0 (g_ifT ee hA))
      · rw [acc9 hA sk6.idem ee]
        exact lr5.fault sk6 (sp_A0 (g_ifF ee (g_ifF (fun z => na6 ⟨by omega, z⟩) (g_ifF h60.2 rfl))))
    refine keep m6 lx6 (fun c p q => f6 c p (by omega)) t6 (f6 336 14 (by omega)) (fun j _ => by rw [f6 338 j (by omega), F5 338 j (by omega)]) (by omega) (by omega) (by omega) hm6 (Or.inl ?_)
    rw [f6 340 _ (by omega), x5]
    decide
  · refine g_getr 5 340 rfl hS.k336 hm6.f_336_5 (by decide) ?_
    refine g_C ?_
    refine g_A (by omega) (by omega) ?_
    refine g_getr 4 339 rfl hS.k336 hm6.f_336_4 (by decide) ?_
    refine g_getu 11 rfl hS.k336 (fun v6 ev6 => ?_)
    refine g_ldu hS.k339 hS.l339 (by omega) (by omega) (fun l7 el7 => ?_)
    rw [ev6, t6] at el7
    have hw7 : Inv X S (up m6 340 (48 * t + 4 * c0 + 2) l7) := hm6.wA (1, 0) (by decide) (by decide +kernel) (okb_n rfl) (nsp 2 (by decide)) (by decide) (by decide)
    refine g_st hS.k340 hS.l340 (by omega) (by omega) hw7 (fun m7 e7 hm7 => ?_)
    have f7 : ∀ c p : Int, ¬ (c = 340 ∧ p = 48 * t + 4 * c0 + 2) → m7 c p = m6 c p := fun c p q => (congrFun (congrFun e7 _) _).trans (up_ne q)
    have x7 : m7 340 (48 * t + 4 * c0 + 2) = l7 := (congrFun (congrFun e7 _) _).trans (up_at _ _ _ _)
    have t7 : m7 336 11 = t := (f7 336 11 (by omega)).trans t6
    have l77 : m7 339 t = m3 339 t := (f7 339 t (by omega)).trans l6
    have e87 : m7 336 8 = m6 336 8 := f7 336 8 (by omega)
    refine ⟨hS.k336, ?_⟩
    have h61 : m6 336 8 = q + tl 13 ∧ Wk tb tn 13 q ∧ q + tl 13 ≤ tn := by
      rcases h6 with z | z
      · exfalso; have := z.1; omega
      · exact z.2
    have wn := wrd_no h61.2.1 (by decide)
    have wn1 := wn.1
    have wn2 := wn.2
    have h61a := h61.1
    have h61c := h61.2.2
    have lr7 : Lr tb tn T m7 8 [] kk := lr5.to sk6 (p := q + 2) (c := m5 336 12) (by omega) (by rw [f7 336 12 (by omega), f6 336 12 (by omega)]) (by rw [f7 336 9 (by omega), f6 336 9 (by omega)]) (by omega) (fun f hA => sp_A0 (g_ifF (by omega) (g_ifF (fun z => na6 ⟨wn1, z⟩) (g_ifT h61.2.1 hA))))
    refine zs_tested hS hm7 hR ⟨t7.trans ht, by omega, by omega⟩ (by rw [t7, l77]; omega) lr7 (fun m8 hm8 n8 t8 => g_ifF (by decide) (g_C ⟨by decide, hf m8 hm8 n8 t8⟩)) (fun m8 s8 hm8 A8 q8 l8 lr8 => ?_)
    obtain ⟨a81, a82, a83, a84, a85, a86, a87⟩ := A8
    rw [t7] at a82 a83 a84 q8
    rw [l77] at a83 a84 q8
    obtain ⟨⟨q81, q82⟩, q83⟩ := q8
    rw [a82] at q82 q83 l8
    have x8 : m8 340 (48 * t + 4 * c0 + 2) = m3 339 t := by rw [a81 _ _ (by omega), x7]; omega
    refine g_ifT (by decide) ?_
    refine keep m8 ⟨s8, lr8⟩ (fun c p q => ?_) a82 ?_ (fun j q => ?_) a84 l8 (by omega) hm8 (Or.inr ?_)
    · rw [a81 c p (by omega), f7 c p (by omega), f6 c p (by omega)]
    · rw [a87, f7 336 14 (by omega), f6 336 14 (by omega)]
    · rw [a83 j q, f7 338 j (by omega), f6 338 j (by omega), F5 338 j (by omega)]
    · rw [x8]
      exact ⟨q81, q82, q83⟩
