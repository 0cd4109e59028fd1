/-- the reference's row `read` is as told -/
def Rd (D : Dd) (M : Mm) : Prop := ∀ p : Int, 0 ≤ p → p < 117 → M 342 p = D p
theorem Rd.same {D : Dd} {m m' : Mm} (h : Rd D m) (f : ∀ p : Int, m' 342 p = m 342 p) : Rd D m' := fun p p0 p1 => (f p).trans (h p p0 p1)
theorem Rd.up {D : Dd} {m m' : Mm} {c v : Int} (h : Rd D m) (f : ∀ p : Int, ¬ p = c → m' 342 p = m 342 p) (x : m' 342 c = v) : Rd (ud D c v) m' := by
  intro p p0 p1
  by_cases e : p = c
  · rw [e, x, ud_at]
  · rw [f p e, ud_ne e]
    exact h p p0 p1
theorem zc_cell {X : Mm} {S : Sh} {m0 : Mm} {K : Int → Mm → Prop} {b : Int → Int} {n k u1 lo hi : Int} {T : Int → Dd → Prop} {D : Dd} (h j : Nat) (hS : Shp S) (hm0 : Inv X S m0) (ht : TR X b n) (rd : Rd D m0) (h9 : m0 336 9 = 0) (hp : m0 336 8 ≤ n) (l : Ld b n T 1 h j (m0 336 8) k D) (hu : dCl D h j = u1) (h1 : 0 ≤ u1) (h1' : u1 ≤ 116) (hlo : dLo D h j = lo) (hhi : dHi D h j = hi) (hb : ∀ v : Int, lo ≤ v → v ≤ hi → okb (bd 342 u1.toNat) v) (hf : ∀ M1 : Mm, Inv X S M1 → ¬ M1 336 9 = 0 → T (M1 336 9) dz → K 0 M1) (hk : ∀ (q v : Int) (M1 : Mm), Inv X S M1 → (∀ c p : Int, ¬ (c = 336 ∧ 8 ≤ p ∧ p ≤ 10) ∧ ¬ (c = 342 ∧ p = u1) → M1 c p = m0 c p) → lo ≤ v → v ≤ hi → 0 ≤ q → q ≤ n → Sk b n (m0 336 8) q → M1 342 u1 = v → Rd (ud D u1 v) M1 → M1 336 9 = 0 → M1 336 8 ≤ n → m0 336 8 ≤ M1 336 8 → (¬ dBad D h j v → ¬ j = dEnd h → Ld b n T 1 h (j + 1) (M1 336 8) k (ud D u1 v)) → (¬ dBad D h j v → j = dEnd h → Ld b n T 2 0 0 (M1 336 8) k (dFin (ud D u1 v) h)) → (dBad D h j v → T (2 + 8 * q) dz) → K 1 M1) : wp_X12_cellHere S m0 336 u1 lo hi K := by
  have b8 := hm0.f_336_8
  subst hu hlo hhi
  refine u_X12_cellHere ?_
  refine ⟨hS.k336, ?_⟩
  refine zx_num hS hm0 ht h9 hp (fun q r m2 hm2 f2 sk qd dr a5 al ah nn x10 x8 rn => ?_) (fun q m2 hm2 sk q0 nd x9 => ?_) (fun q r m2 hm2 sk q0 qd dr bad x9 => ?_)
  · have sk1 := sk.1
    have dr1 := dr.1
    refine g_ifT (by decide) ?_
    refine g_getr 7 342 rfl hS.k336 hm2.f_336_7 (by decide) ?_
    refine g_getu 10 rfl hS.k336 (fun v ev => ?_)
    rw [x10] at ev
    refine g_st hS.k342 hS.l342 (by omega) (by omega) (hm2.w342 (by omega) (hb v (by omega) (by omega))) (fun m3 e3 hm3 => ?_)
    have f3 : ∀ c p : Int, ¬ (c = 342 ∧ p = dCl D h j) → m3 c p = m2 c p := fun c p q => (congrFun (congrFun e3 _) _).trans (up_ne q)
    have x3 : m3 342 (dCl D h j) = v := (congrFun (congrFun e3 _) _).trans (up_at _ _ _ _)
    have e8 : m3 336 8 = r := (f3 336 8 (by first | decide | exact fun z => absurd z.1 (by decide) | exact ⟨fun z => absurd z.1 (by decide), fun z => absurd z.1 (by decide)⟩ | omega)).trans x8
    refine g_C ⟨by decide, hk q v m3 hm3 (fun c p z => (f3 c p (by first | exact fun y => absurd (y.1 ▸ z) (by decide) | exact fun y => absurd (y.1 ▸ q) (by decide) | exact z | exact q | exact z.1 | exact q.1 | exact z.2 | exact q.2 | omega)).trans (f2 c p (by first | exact fun y => absurd (y.1 ▸ z) (by decide) | exact fun y => absurd (y.1 ▸ q) (by decide) | exact z | exact q | exact z.1 | exact q.1 | exact z.2 | exact q.2 | omega))) (by omega) (by omega) (by omega) (by omega) sk x3 (rd.up (fun p z => (f3 342 p (fun y => z y.2)).trans (f2 342 p (by first | decide | exact fun z => absurd z.1 (by decide) | exact ⟨fun z => absurd z.1 (by decide), fun z => absurd z.1 (by decide)⟩ | omega))) x3) ?_ (by omega) (by omega) (fun nb ne => ?_) (fun nb ee => ?_) (fun yb => ?_)⟩
    · rw [f3 336 9 (by first | decide | exact fun z => absurd z.1 (by decide) | exact ⟨fun z => absurd z.1 (by decide), fun z => absurd z.1 (by decide)⟩ | omega), f2 336 9 (by first | decide | exact fun z => absurd z.1 (by decide) | exact ⟨fun z => absurd z.1 (by decide), fun z => absurd z.1 (by decide)⟩ | omega)]
      exact h9
    · rw [e8, ev]
      rw [ev] at nb
      exact l.nx sk qd dr (fun z => by rcases z with z | z | z | z; exact a5 z; exact al z; exact ah z; exact nb z) ne
    · rw [e8, ev]
      rw [ev] at nb
      exact l.end sk qd dr (fun z => by rcases z with z | z | z | z; exact a5 z; exact al z; exact ah z; exact nb z) ee
    · rw [ev] at yb
      exact l.bad1 sk qd dr (Or.inr (Or.inr (Or.inr yb)))
  · refine g_ifF (by decide) (g_C ⟨by decide, hf m2 hm2 (by omega) ?_⟩)
    rw [x9]
    exact l.bad0 sk nd
  · refine g_ifF (by decide) (g_C ⟨by decide, hf m2 hm2 (by omega) ?_⟩)
    rw [x9]
    refine l.bad1 sk qd dr ?_
    rcases bad with z | z | z
    · exact Or.inl z
    · exact Or.inr (Or.inl z)
    · exact Or.inr (Or.inr (Or.inl z))

theorem zc_isHandHere {X : Mm} {S : Sh} {m0 : Mm} {K : Int → Mm → Prop} {b : Int → Int} {n k u1 : Int} {T : Int → Dd → Prop} {D : Dd} (hS : Shp S) (hm0 : Inv X S m0) (ht : TR X b n) (rd : Rd D m0) (h9 : m0 336 9 = 0) (hq : m0 336 8 = u1) (h1 : 0 ≤ u1) (h1' : u1 ≤ n) (wk : Wk b n 2 u1) (hp : PR m0) (d0 : 2 ≤ D 0) (hF : dFull D 2 → T (5 + 8 * u1) dz) (hL : ¬ dFull D 2 → Ld b n T 1 2 0 (u1 + tl 2) k D) (hf : ∀ M1 : Mm, Inv X S M1 → ¬ M1 336 9 = 0 → T (M1 336 9) dz → K 0 M1) (hk : ∀ (M1 : Mm) (D' : Dd), Inv X S M1 → PR M1 → Rd D' M1 → 2 ≤ D' 0 → (∀ p : Int, (p = 11 ∨ p = 14) → M1 336 p = m0 336 p) → u1 ≤ M1 336 8 → M1 336 8 ≤ n → M1 336 9 = 0 → Ld b n T 2 0 0 (M1 336 8) k D' → K 1 M1) : wp_X12_isHandHere S m0 336 u1 K := by
  have nb := ht.2.1
  have c0 := hm0.f_342_0
  have c4 := hm0.f_342_4
  have c5 := hm0.f_342_5
  have cc := hm0.f_342_4
  have r0 := rd 0 (by decide) (by decide)
  have rc := rd 4 (by decide) (by decide)
  refine u_X12_isHandHere ?_
  refine g_getr 7 342 rfl hS.k336 hm0.f_336_7 (by decide) ?_
  refine g_C ?_
  refine g_ldu hS.k342 hS.l342 (by omega) (by omega) (fun v0 ev0 => ?_)
  refine g_C ?_
  refine g_if (fun w => ?_) (fun w => ?_)
  · have l0 := hL (fun z => w (by have z2 : D 4 = 5 := z; omega))
    refine ⟨hS.k336, ?_⟩
    refine zx_passWord 2 hS hm0 ht hq h1 (by decide) wk (fun m1 hm1 f1 x1 le1 => ?_)
    have tk := tl_r 2 (by decide)
    have r1 : Rd D m1 := rd.same (fun p => f1 342 p (by first | decide | exact fun z => absurd z.1 (by decide) | exact ⟨fun z => absurd z.1 (by decide), fun z => absurd z.1 (by decide)⟩ | omega))
    have y1 : m1 336 9 = 0 := (f1 336 9 (by first | decide | exact fun z => absurd z.1 (by decide) | exact ⟨fun z => absurd z.1 (by decide), fun z => absurd z.1 (by decide)⟩ | omega)).trans h9
    rw [← x1] at l0
    refine g_C ?_
    refine g_C ?_
    refine g_getr 7 342 rfl hS.k336 hm1.f_336_7 (by decide) ?_
    refine g_C ?_
    refine g_ldu hS.k342 hS.l342 (by omega) (by omega) (fun n0 en => ?_)
    rw [f1 342 _ (by first | decide | exact fun z => absurd z.1 (by decide) | exact ⟨fun z => absurd z.1 (by decide), fun z => absurd z.1 (by decide)⟩ | omega)] at en
    have dn : D 4 = n0 := by omega
    refine g_M (by omega) (by omega) ?_
    refine g_A (by omega) (by omega) ?_
    refine g_C ?_
    refine g_getr 7 342 rfl hS.k336 hm1.f_336_7 (by decide) ?_
    refine g_C ?_
    refine g_ldu hS.k342 hS.l342 (by omega) (by omega) (fun pp epp => ?_)
    rw [f1 342 _ (by first | decide | exact fun z => absurd z.1 (by decide) | exact ⟨fun z => absurd z.1 (by decide), fun z => absurd z.1 (by decide)⟩ | omega)] at epp
    refine g_C ?_
    refine g_S (by omega) (by omega) ?_
    refine ⟨hS.k336, ?_⟩
    refine zc_cell 2 0 hS hm1 ht r1 y1 (by omega) l0 (lo := 0) (hi := pp - 1) (by show 10 + 5 * D 4 = _; omega) (by omega) (by omega) rfl (by show D 0 - 1 = _; omega) (fun v lv uv => okb_of (l := 0) (u := 5) (by rw [show (10 + 5 * n0).toNat = 10 + 5 * n0.toNat by omega]; exact rq_10 _ (by omega)) (by omega) (by omega)) (fun m8 hm8 n8 t8 => g_ifT rfl (g_C ⟨by decide, hf m8 hm8 n8 t8⟩)) (fun q2 v2 m2 hm2 f2 lo_2 hi_2 q0_2 qn_2 sk2 xv2 r2 y2 n2' p2 ln2 le2 _ => ?_)
    refine g_ifF (by decide) ?_
    obtain ⟨D2, eD2⟩ : ∃ z : Dd, z = ud D (10 + 5 * n0) v2 := ⟨_, rfl⟩
    have gD2 : ∀ p : Int, ¬ p = 10 + 5 * n0 → D2 p = D p := fun p z => by rw [eD2]; exact ud_ne z
    have xD2 : D2 (10 + 5 * n0) = v2 := by rw [eD2]; exact ud_at _ _ _
    rw [← eD2] at r2 ln2 le2
    have dn2 : D2 4 = n0 := (gD2 4 (by omega)).trans dn
    have d02 : D2 0 = D 0 := (gD2 0 (by omega))
    have l2 := ln2 (fun z => absurd z.1 (by decide)) (by decide)
    refine g_C ?_
    refine g_A (by omega) (by omega) ?_
    refine g_C ?_
    refine g_C ?_
    refine ⟨hS.k336, ?_⟩
    refine zc_cell 2 1 hS hm2 ht r2 y2 (by omega) l2 (lo := 0) (hi := 20) (by show 10 + 5 * D2 4 + 3 = _; omega) (by omega) (by omega) rfl rfl (fun v lv uv => okb_of (l := 0) (u := 20) (by rw [show (10 + 5 * n0 + 3).toNat = 13 + 5 * n0.toNat by omega]; exact rq_13 _ (by omega)) (by omega) (by omega)) (fun m8 hm8 n8 t8 => g_ifT rfl (g_C ⟨by decide, hf m8 hm8 n8 t8⟩)) (fun q3 v3 m3 hm3 f3 lo_3 hi_3 q0_3 qn_3 sk3 xv3 r3 y3 n3' p3 ln3 le3 _ => ?_)
    refine g_ifF (by decide) ?_
    obtain ⟨D3, eD3⟩ : ∃ z : Dd, z = ud D2 (10 + 5 * n0 + 3) v3 := ⟨_, rfl⟩
    have gD3 : ∀ p : Int, ¬ p = 10 + 5 * n0 + 3 → D3 p = D2 p := fun p z => by rw [eD3]; exact ud_ne z
    have xD3 : D3 (10 + 5 * n0 + 3) = v3 := by rw [eD3]; exact ud_at _ _ _
    rw [← eD3] at r3 ln3 le3
    have dn3 : D3 4 = n0 := (gD3 4 (by omega)).trans dn2
    have d03 : D3 0 = D 0 := (gD3 0 (by omega)).trans d02
    have l3 := ln3 (fun z => absurd z.1 (by decide)) (by decide)
    refine g_C ?_
    refine g_A (by omega) (by omega) ?_
    refine g_C ?_
    refine g_C ?_
    refine ⟨hS.k336, ?_⟩
    refine zc_cell 2 2 hS hm3 ht r3 y3 (by omega) l3 (lo := 0) (hi := 5) (by show 10 + 5 * D3 4 + 4 = _; omega) (by omega) (by omega) rfl rfl (fun v lv uv => okb_of (l := 0) (u := 5) (by rw [show (10 + 5 * n0 + 4).toNat = 14 + 5 * n0.toNat by omega]; exact rq_14 _ (by omega)) (by omega) (by omega)) (fun m8 hm8 n8 t8 => g_ifF (by decide) (g_C ⟨by decide, hf m8 hm8 n8 t8⟩)) (fun q4 v4 m4 hm4 f4 lo_4 hi_4 q0_4 qn_4 sk4 xv4 r4 y4 n4' p4 ln4 le4 _ => ?_)
    refine g_ifT (by decide) ?_
    obtain ⟨D4, eD4⟩ : ∃ z : Dd, z = ud D3 (10 + 5 * n0 + 4) v4 := ⟨_, rfl⟩
    have gD4 : ∀ p : Int, ¬ p = 10 + 5 * n0 + 4 → D4 p = D3 p := fun p z => by rw [eD4]; exact ud_ne z
    have xD4 : D4 (10 + 5 * n0 + 4) = v4 := by rw [eD4]; exact ud_at _ _ _
    rw [← eD4] at r4 ln4 le4
    have dn4 : D4 4 = n0 := (gD4 4 (by omega)).trans dn3
    have d04 : D4 0 = D 0 := (gD4 0 (by omega)).trans d03
    have l4 := le4 (fun z => absurd z.1 (by decide)) rfl
    refine g_getr 7 342 rfl hS.k336 hm4.f_336_7 (by decide) ?_
    refine g_C ?_
    refine g_A (by omega) (by omega) ?_
    refine g_C ?_
    refine g_st hS.k342 hS.l342 (by omega) (by omega) (hm4.w342 (by omega) (okb_of (l := 0) (u := 5) (by rw [show (10 + 5 * n0 + 1).toNat = 11 + 5 * n0.toNat by omega]; exact rq_11 _ (by omega)) (by omega) (by omega))) (fun m5 e5 hm5 => ?_)
    have f5 : ∀ c p : Int, ¬ (c = 342 ∧ p = 10 + 5 * n0 + 1) → m5 c p = m4 c p := fun c p q => (congrFun (congrFun e5 _) _).trans (up_ne q)
    have x5 : m5 342 (10 + 5 * n0 + 1) = 0 := (congrFun (congrFun e5 _) _).trans (up_at _ _ _ _)
    have r5 : Rd (ud D4 (10 + 5 * n0 + 1) 0) m5 := r4.up (fun p z => f5 342 p (fun y => z y.2)) x5
    refine g_getr 7 342 rfl hS.k336 hm5.f_336_7 (by decide) ?_
    refine g_C ?_
    refine g_A (by omega) (by omega) ?_
    refine g_C ?_
    refine g_st hS.k342 hS.l342 (by omega) (by omega) (hm5.w342 (by omega) (okb_of (l := 0) (u := 99) (by rw [show (10 + 5 * n0 + 2).toNat = 12 + 5 * n0.toNat by omega]; exact rq_12 _ (by omega)) (by omega) (by omega))) (fun m6 e6 hm6 => ?_)
    have f6 : ∀ c p : Int, ¬ (c = 342 ∧ p = 10 + 5 * n0 + 2) → m6 c p = m5 c p := fun c p q => (congrFun (congrFun e6 _) _).trans (up_ne q)
    have x6 : m6 342 (10 + 5 * n0 + 2) = 0 := (congrFun (congrFun e6 _) _).trans (up_at _ _ _ _)
    have r6 : Rd (ud (ud D4 (10 + 5 * n0 + 1) 0) (10 + 5 * n0 + 2) 0) m6 := r5.up (fun p z => f6 342 p (fun y => z y.2)) x6
    refine g_getr 7 342 rfl hS.k336 hm6.f_336_7 (by decide) ?_
    refine g_C ?_
    refine g_ldu hS.k342 hS.l342 (by omega) (by omega) (fun q1 eq1 => ?_)
    rw [f6 342 _ (by first | decide | exact fun z => absurd z.1 (by decide) | exact ⟨fun z => absurd z.1 (by decide), fun z => absurd z.1 (by decide)⟩ | omega), f5 342 _ (by first | decide | exact fun z => absurd z.1 (by decide) | exact ⟨fun z => absurd z.1 (by decide), fun z => absurd z.1 (by decide)⟩ | omega), f4 342 _ (by first | decide | exact fun z => absurd z.1 (by decide) | exact ⟨fun z => absurd z.1 (by decide), fun z => absurd z.1 (by decide)⟩ | omega), f3 342 _ (by first | decide | exact fun z => absurd z.1 (by decide) | exact ⟨fun z => absurd z.1 (by decide), fun z => absurd z.1 (by decide)⟩ | omega), f2 342 _ (by first | decide | exact fun z => absurd z.1 (by decide) | exact ⟨fun z => absurd z.1 (by decide), fun z => absurd z.1 (by decide)⟩ | omega), f1 342 _ (by first | decide | exact fun z => absurd z.1 (by decide) | exact ⟨fun z => absurd z.1 (by decide), fun z => absurd z.1 (by decide)⟩ | omega)] at eq1
    have eqn1 : q1 = n0 := by omega
    refine g_C ?_
    refine g_A (by omega) (by omega) ?_
    refine g_st hS.k342 hS.l342 (by omega) (by omega) (hm6.w342 (by omega) (okb_of (l := 0) (u := 5) (by decide +kernel) (by omega) (by omega))) (fun m7 e7 hm7 => ?_)
    have f7 : ∀ c p : Int, ¬ (c = 342 ∧ p = 4) → m7 c p = m6 c p := fun c p q => (congrFun (congrFun e7 _) _).trans (up_ne q)
    have x7 : m7 342 (4) = q1 + 1 := (congrFun (congrFun e7 _) _).trans (up_at _ _ _ _)
    have r7 : Rd (ud (ud (ud D4 (10 + 5 * n0 + 1) 0) (10 + 5 * n0 + 2) 0) (4) (n0 + 1)) m7 := r6.up (fun p z => f7 342 p (fun y => z y.2)) (by rw [x7]; omega)
    have F : ∀ c p : Int, ¬ (c = 336 ∧ 8 ≤ p ∧ p ≤ 10) ∧ ¬ (c = 342 ∧ p = 10 + 5 * n0) ∧ ¬ (c = 342 ∧ p = 10 + 5 * n0 + 3) ∧ ¬ (c = 342 ∧ p = 10 + 5 * n0 + 4) ∧ ¬ (c = 342 ∧ p = 10 + 5 * n0 + 1) ∧ ¬ (c = 342 ∧ p = 10 + 5 * n0 + 2) ∧ ¬ (c = 342 ∧ p = 4) → m7 c p = m0 c p := fun c p q => by rw [f7 c p (by first | exact q.2.2.2.2.2.2 | omega), f6 c p (by first | exact q.2.2.2.2.2.1 | omega), f5 c p (by first | exact q.2.2.2.2.1 | omega), f4 c p (by first | exact ⟨q.1, q.2.2.2.1⟩ | omega), f3 c p (by first | exact ⟨q.1, q.2.2.1⟩ | omega), f2 c p (by first | exact ⟨q.1, q.2.1⟩ | omega), f1 c p (by first | exact fun z => q.1 ⟨z.1, z.2.1, Int.le_trans z.2.2 (by decide)⟩ | omega)]
    have eF : dFin D4 2 = (ud (ud (ud D4 (10 + 5 * n0 + 1) 0) (10 + 5 * n0 + 2) 0) (4) (n0 + 1)) := by
      show ud (ud (ud D4 (10 + 5 * D4 4 + 1) 0) (10 + 5 * D4 4 + 2) 0) 4 (D4 4 + 1) = _
      rw [dn4]
    rw [eF] at l4
    have e8 : m7 336 8 = m4 336 8 := by rw [f7 336 8 (by first | decide | exact fun z => absurd z.1 (by decide) | exact ⟨fun z => absurd z.1 (by decide), fun z => absurd z.1 (by decide)⟩ | omega), f6 336 8 (by first | decide | exact fun z => absurd z.1 (by decide) | exact ⟨fun z => absurd z.1 (by decide), fun z => absurd z.1 (by decide)⟩ | omega), f5 336 8 (by first | decide | exact fun z => absurd z.1 (by decide) | exact ⟨fun z => absurd z.1 (by decide), fun z => absurd z.1 (by decide)⟩ | omega)]
    rw [← e8] at l4
    have z0 : (ud (ud (ud D4 (10 + 5 * n0 + 1) 0) (10 + 5 * n0 + 2) 0) (4) (n0 + 1)) 0 = D 0 := ((ud_ne (by omega)).trans ((ud_ne (by omega)).trans ((ud_ne (by omega)).trans (d04))))
    refine g_C ⟨by decide, hk m7 (ud (ud (ud D4 (10 + 5 * n0 + 1) 0) (10 + 5 * n0 + 2) 0) (4) (n0 + 1)) hm7 ?_ r7 (by omega) (fun p q => F 336 p ⟨fun z => by omega, fun z => absurd z.1 (by decide), fun z => absurd z.1 (by decide), fun z => absurd z.1 (by decide), fun z => absurd z.1 (by decide), fun z => absurd z.1 (by decide), fun z => absurd z.1 (by decide)⟩) (by omega) (by omega) (by rw [f7 336 9 (by first | decide | exact fun z => absurd z.1 (by decide) | exact ⟨fun z => absurd z.1 (by decide), fun z => absurd z.1 (by decide)⟩ | omega), f6 336 9 (by first | decide | exact fun z => absurd z.1 (by decide) | exact ⟨fun z => absurd z.1 (by decide), fun z => absurd z.1 (by decide)⟩ | omega), f5 336 9 (by first | decide | exact fun z => absurd z.1 (by decide) | exact ⟨fun z => absurd z.1 (by decide), fun z => absurd z.1 (by decide)⟩ | omega)]; exact y4) l4⟩
    refine hp.hand (n := n0) en (by omega) (fun p q1 q2 => F 342 p ⟨fun z => absurd z.1 (by decide), fun z => by omega, fun z => by omega, fun z => by omega, fun z => by omega, fun z => by omega, fun z => by omega⟩) (by omega) ?_
    rw [f7 342 _ (by first | decide | exact fun z => absurd z.1 (by decide) | exact ⟨fun z => absurd z.1 (by decide), fun z => absurd z.1 (by decide)⟩ | omega), f6 342 _ (by first | decide | exact fun z => absurd z.1 (by decide) | exact ⟨fun z => absurd z.1 (by decide), fun z => absurd z.1 (by decide)⟩ | omega), f5 342 _ (by first | decide | exact fun z => absurd z.1 (by decide) | exact ⟨fun z => absurd z.1 (by decide), fun z => absurd z.1 (by decide)⟩ | omega), f4 342 _ (by first | decide | exact fun z => absurd z.1 (by decide) | exact ⟨fun z => absurd z.1 (by decide), fun z => absurd z.1 (by decide)⟩ | omega), f3 342 _ (by first | decide | exact fun z => absurd z.1 (by decide) | exact ⟨fun z => absurd z.1 (by decide), fun z => absurd z.1 (by decide)⟩ | omega)]
    omega
  · refine g_C ?_
    refine ⟨hS.k336, ?_⟩
    refine zx_fails hS hm0 h9 (by decide) (by decide) (by omega) (by omega) (fun m9 hm9 f9 y9 => ?_)
    refine ⟨by decide, hf m9 hm9 (by omega) ?_⟩
    rw [y9, show 1 + 8 * u1 + 4 = 5 + 8 * u1 by omega]
    exact hF (by show D 4 = 5; omega)
theorem zc_isJugHere {X : Mm} {S : Sh} {m0 : Mm} {K : Int → Mm → Prop} {b : Int → Int} {n k u1 : Int} {T : Int → Dd → Prop} {D : Dd} (hS : Shp S) (hm0 : Inv X S m0) (ht : TR X b n) (rd : Rd D m0) (h9 : m0 336 9 = 0) (hq : m0 336 8 = u1) (h1 : 0 ≤ u1) (h1' : u1 ≤ n) (wk : Wk b n 3 u1) (hp : PR m0) (d0 : 2 ≤ D 0) (hF : dFull D 3 → T (5 + 8 * u1) dz) (hL : ¬ dFull D 3 → Ld b n T 1 3 0 (u1 + tl 3) k D) (hf : ∀ M1 : Mm, Inv X S M1 → ¬ M1 336 9 = 0 → T (M1 336 9) dz → K 0 M1) (hk : ∀ (M1 : Mm) (D' : Dd), Inv X S M1 → PR M1 → Rd D' M1 → 2 ≤ D' 0 → (∀ p : Int, (p = 11 ∨ p = 14) → M1 336 p = m0 336 p) → u1 ≤ M1 336 8 → M1 336 8 ≤ n → M1 336 9 = 0 → Ld b n T 2 0 0 (M1 336 8) k D' → K 1 M1) : wp_X12_isJugHere S m0 336 u1 K := by
  have nb := ht.2.1
  have c0 := hm0.f_342_0
  have c4 := hm0.f_342_4
  have c5 := hm0.f_342_5
  have cc := hm0.f_342_5
  have r0 := rd 0 (by decide) (by decide)
  have rc := rd 5 (by decide) (by decide)
  refine u_X12_isJugHere ?_
  refine g_getr 7 342 rfl hS.k336 hm0.f_336_7 (by decide) ?_
  refine g_C ?_
  refine g_ldu hS.k342 hS.l342 (by omega) (by omega) (fun v0 ev0 => ?_)
  refine g_C ?_
  refine g_if (fun w => ?_) (fun w => ?_)
  · have l0 := hL (fun z => w (by have z2 : D 5 = 4 := z; omega))
    refine ⟨hS.k336, ?_⟩
    refine zx_passWord 3 hS hm0 ht hq h1 (by decide) wk (fun m1 hm1 f1 x1 le1 => ?_)
    have tk := tl_r 3 (by decide)
    have r1 : Rd D m1 := rd.same (fun p => f1 342 p (by first | decide | exact fun z => absurd z.1 (by decide) | exact ⟨fun z => absurd z.1 (by decide), fun z => absurd z.1 (by decide)⟩ | omega))
    have y1 : m1 336 9 = 0 := (f1 336 9 (by first | decide | exact fun z => absurd z.1 (by decide) | exact ⟨fun z => absurd z.1 (by decide), fun z => absurd z.1 (by decide)⟩ | omega)).trans h9
    rw [← x1] at l0
    refine g_C ?_
    refine g_C ?_
    refine g_getr 7 342 rfl hS.k336 hm1.f_336_7 (by decide) ?_
    refine g_C ?_
    refine g_ldu hS.k342 hS.l342 (by omega) (by omega) (fun n0 en => ?_)
    rw [f1 342 _ (by first | decide | exact fun z => absurd z.1 (by decide) | exact ⟨fun z => absurd z.1 (by decide), fun z => absurd z.1 (by decide)⟩ | omega)] at en
    have dn : D 5 = n0 := by omega
    refine g_M (by omega) (by omega) ?_
    refine g_A (by omega) (by omega) ?_
    refine g_C ?_
    refine g_getr 7 342 rfl hS.k336 hm1.f_336_7 (by decide) ?_
    refine g_C ?_
    refine g_ldu hS.k342 hS.l342 (by omega) (by omega) (fun pp epp => ?_)
    rw [f1 342 _ (by first | decide | exact fun z => absurd z.1 (by decide) | exact ⟨fun z => absurd z.1 (by decide), fun z => absurd z.1 (by decide)⟩ | omega)] at epp
    refine g_C ?_
    refine g_S (by omega) (by omega) ?_
    refine ⟨hS.k336, ?_⟩
    refine zc_cell 3 0 hS hm1 ht r1 y1 (by omega) l0 (lo := 0) (hi := pp - 1) (by show 35 + 4 * D 5 = _; omega) (by omega) (by omega) rfl (by show D 0 - 1 = _; omega) (fun v lv uv => okb_of (l := 0) (u := 5) (by rw [show (35 + 4 * n0).toNat = 35 + 4 * n0.toNat by omega]; exact rq_35 _ (by omega)) (by omega) (by omega)) (fun m8 hm8 n8 t8 => g_ifT rfl (g_C ⟨by decide, hf m8 hm8 n8 t8⟩)) (fun q2 v2 m2 hm2 f2 lo_2 hi_2 q0_2 qn_2 sk2 xv2 r2 y2 n2' p2 ln2 le2 _ => ?_)
    refine g_ifF (by decide) ?_
    obtain ⟨D2, eD2⟩ : ∃ z : Dd, z = ud D (35 + 4 * n0) v2 := ⟨_, rfl⟩
    have gD2 : ∀ p : Int, ¬ p = 35 + 4 * n0 → D2 p = D p := fun p z => by rw [eD2]; exact ud_ne z
    have xD2 : D2 (35 + 4 * n0) = v2 := by rw [eD2]; exact ud_at _ _ _
    rw [← eD2] at r2 ln2 le2
    have dn2 : D2 5 = n0 := (gD2 5 (by omega)).trans dn
    have d02 : D2 0 = D 0 := (gD2 0 (by omega))
    have l2 := ln2 (fun z => absurd z.1 (by decide)) (by decide)
    refine g_C ?_
    refine g_A (by omega) (by omega) ?_
    refine g_C ?_
    refine g_C ?_
    refine ⟨hS.k336, ?_⟩
    refine zc_cell 3 1 hS hm2 ht r2 y2 (by omega) l2 (lo := 0) (hi := 99) (by show 35 + 4 * D2 5 + 2 = _; omega) (by omega) (by omega) rfl rfl (fun v lv uv => okb_of (l := -2147483648) (u := 2147483647) (by rw [show (35 + 4 * n0 + 2).toNat = 37 + 4 * n0.toNat by omega]; exact rq_37 _ (by omega)) (by omega) (by omega)) (fun m8 hm8 n8 t8 => g_ifF (by decide) (g_C ⟨by decide, hf m8 hm8 n8 t8⟩)) (fun q3 v3 m3 hm3 f3 lo_3 hi_3 q0_3 qn_3 sk3 xv3 r3 y3 n3' p3 ln3 le3 _ => ?_)
    refine g_ifT (by decide) ?_
    obtain ⟨D3, eD3⟩ : ∃ z : Dd, z = ud D2 (35 + 4 * n0 + 2) v3 := ⟨_, rfl⟩
    have gD3 : ∀ p : Int, ¬ p = 35 + 4 * n0 + 2 → D3 p = D2 p := fun p z => by rw [eD3]; exact ud_ne z
    have xD3 : D3 (35 + 4 * n0 + 2) = v3 := by rw [eD3]; exact ud_at _ _ _
    rw [← eD3] at r3 ln3 le3
    have dn3 : D3 5 = n0 := (gD3 5 (by omega)).trans dn2
    have d03 : D3 0 = D 0 := (gD3 0 (by omega)).trans d02
    have l3 := le3 (fun z => absurd z.1 (by decide)) rfl
    refine g_getr 7 342 rfl hS.k336 hm3.f_336_7 (by decide) ?_
    refine g_C ?_
    refine g_A (by omega) (by omega) ?_
    refine g_C ?_
    refine g_st hS.k342 hS.l342 (by omega) (by omega) (hm3.w342 (by omega) (okb_of (l := -1) (u := 4) (by rw [show (35 + 4 * n0 + 1).toNat = 36 + 4 * n0.toNat by omega]; exact rq_36 _ (by omega)) (by omega) (by omega))) (fun m4 e4 hm4 => ?_)
    have f4 : ∀ c p : Int, ¬ (c = 342 ∧ p = 35 + 4 * n0 + 1) → m4 c p = m3 c p := fun c p q => (congrFun (congrFun e4 _) _).trans (up_ne q)
    have x4 : m4 342 (35 + 4 * n0 + 1) = (-1) := (congrFun (congrFun e4 _) _).trans (up_at _ _ _ _)
    have r4 : Rd (ud D3 (35 + 4 * n0 + 1) (-1)) m4 := r3.up (fun p z => f4 342 p (fun y => z y.2)) x4
    refine g_getr 7 342 rfl hS.k336 hm4.f_336_7 (by decide) ?_
    refine g_C ?_
    refine g_A (by omega) (by omega) ?_
    refine g_C ?_
    refine g_st hS.k342 hS.l342 (by omega) (by omega) (hm4.w342 (by omega) (okb_of (l := 0) (u := 1) (by rw [show (35 + 4 * n0 + 3).toNat = 38 + 4 * n0.toNat by omega]; exact rq_38 _ (by omega)) (by omega) (by omega))) (fun m5 e5 hm5 => ?_)
    have f5 : ∀ c p : Int, ¬ (c = 342 ∧ p = 35 + 4 * n0 + 3) → m5 c p = m4 c p := fun c p q => (congrFun (congrFun e5 _) _).trans (up_ne q)
    have x5 : m5 342 (35 + 4 * n0 + 3) = 0 := (congrFun (congrFun e5 _) _).trans (up_at _ _ _ _)
    have r5 : Rd (ud (ud D3 (35 + 4 * n0 + 1) (-1)) (35 + 4 * n0 + 3) 0) m5 := r4.up (fun p z => f5 342 p (fun y => z y.2)) x5
    refine g_getr 7 342 rfl hS.k336 hm5.f_336_7 (by decide) ?_
    refine g_C ?_
    refine g_ldu hS.k342 hS.l342 (by omega) (by omega) (fun q1 eq1 => ?_)
    rw [f5 342 _ (by first | decide | exact fun z => absurd z.1 (by decide) | exact ⟨fun z => absurd z.1 (by decide), fun z => absurd z.1 (by decide)⟩ | omega), f4 342 _ (by first | decide | exact fun z => absurd z.1 (by decide) | exact ⟨fun z => absurd z.1 (by decide), fun z => absurd z.1 (by decide)⟩ | omega), f3 342 _ (by first | decide | exact fun z => absurd z.1 (by decide) | exact ⟨fun z => absurd z.1 (by decide), fun z => absurd z.1 (by decide)⟩ | omega), f2 342 _ (by first | decide | exact fun z => absurd z.1 (by decide) | exact ⟨fun z => absurd z.1 (by decide), fun z => absurd z.1 (by decide)⟩ | omega), f1 342 _ (by first | decide | exact fun z => absurd z.1 (by decide) | exact ⟨fun z => absurd z.1 (by decide), fun z => absurd z.1 (by decide)⟩ | omega)] at eq1
    have eqn1 : q1 = n0 := by omega
    refine g_C ?_
    refine g_A (by omega) (by omega) ?_
    refine g_st hS.k342 hS.l342 (by omega) (by omega) (hm5.w342 (by omega) (okb_of (l := 0) (u := 4) (by decide +kernel) (by omega) (by omega))) (fun m6 e6 hm6 => ?_)
    have f6 : ∀ c p : Int, ¬ (c = 342 ∧ p = 5) → m6 c p = m5 c p := fun c p q => (congrFun (congrFun e6 _) _).trans (up_ne q)
    have x6 : m6 342 (5) = q1 + 1 := (congrFun (congrFun e6 _) _).trans (up_at _ _ _ _)
    have r6 : Rd (ud (ud (ud D3 (35 + 4 * n0 + 1) (-1)) (35 + 4 * n0 + 3) 0) (5) (n0 + 1)) m6 := r5.up (fun p z => f6 342 p (fun y => z y.2)) (by rw [x6]; omega)
    have F : ∀ c p : Int, ¬ (c = 336 ∧ 8 ≤ p ∧ p ≤ 10) ∧ ¬ (c = 342 ∧ p = 35 + 4 * n0) ∧ ¬ (c = 342 ∧ p = 35 + 4 * n0 + 2) ∧ ¬ (c = 342 ∧ p = 35 + 4 * n0 + 1) ∧ ¬ (c = 342 ∧ p = 35 + 4 * n0 + 3) ∧ ¬ (c = 342 ∧ p = 5) → m6 c p = m0 c p := fun c p q => by rw [f6 c p (by first | exact q.2.2.2.2.2 | omega), f5 c p (by first | exact q.2.2.2.2.1 | omega), f4 c p (by first | exact q.2.2.2.1 | omega), f3 c p (by first | exact ⟨q.1, q.2.2.1⟩ | omega), f2 c p (by first | exact ⟨q.1, q.2.1⟩ | omega), f1 c p (by first | exact fun z => q.1 ⟨z.1, z.2.1, Int.le_trans z.2.2 (by decide)⟩ | omega)]
    have eF : dFin D3 3 = (ud (ud (ud D3 (35 + 4 * n0 + 1) (-1)) (35 + 4 * n0 + 3) 0) (5) (n0 + 1)) := by
      show ud (ud (ud D3 (35 + 4 * D3 5 + 1) (-1)) (35 + 4 * D3 5 + 3) 0) 5 (D3 5 + 1) = _
      rw [dn3]
    rw [eF] at l3
    have e8 : m6 336 8 = m3 336 8 := by rw [f6 336 8 (by first | decide | exact fun z => absurd z.1 (by decide) | exact ⟨fun z => absurd z.1 (by decide), fun z => absurd z.1 (by decide)⟩ | omega), f5 336 8 (by first | decide | exact fun z => absurd z.1 (by decide) | exact ⟨fun z => absurd z.1 (by decide), fun z => absurd z.1 (by decide)⟩ | omega), f4 336 8 (by first | decide | exact fun z => absurd z.1 (by decide) | exact ⟨fun z => absurd z.1 (by decide), fun z => absurd z.1 (by decide)⟩ | omega)]
    rw [← e8] at l3
    have z0 : (ud (ud (ud D3 (35 + 4 * n0 + 1) (-1)) (35 + 4 * n0 + 3) 0) (5) (n0 + 1)) 0 = D 0 := ((ud_ne (by omega)).trans ((ud_ne (by omega)).trans ((ud_ne (by omega)).trans (d03))))
    refine g_C ⟨by decide, hk m6 (ud (ud (ud D3 (35 + 4 * n0 + 1) (-1)) (35 + 4 * n0 + 3) 0) (5) (n0 + 1)) hm6 ?_ r6 (by omega) (fun p q => F 336 p ⟨fun z => by omega, fun z => absurd z.1 (by decide), fun z => absurd z.1 (by decide), fun z => absurd z.1 (by decide), fun z => absurd z.1 (by decide), fun z => absurd z.1 (by decide)⟩) (by omega) (by omega) (by rw [f6 336 9 (by first | decide | exact fun z => absurd z.1 (by decide) | exact ⟨fun z => absurd z.1 (by decide), fun z => absurd z.1 (by decide)⟩ | omega), f5 336 9 (by first | decide | exact fun z => absurd z.1 (by decide) | exact ⟨fun z => absurd z.1 (by decide), fun z => absurd z.1 (by decide)⟩ | omega), f4 336 9 (by first | decide | exact fun z => absurd z.1 (by decide) | exact ⟨fun z => absurd z.1 (by decide), fun z => absurd z.1 (by decide)⟩ | omega)]; exact y3) l3⟩
    refine hp.jug (n := n0) en (by omega) (by omega) (fun p q1 q2 => F 342 p ⟨fun z => absurd z.1 (by decide), fun z => by omega, fun z => by omega, fun z => by omega, fun z => by omega, fun z => by omega⟩) (by omega) ?_
    rw [f6 342 _ (by first | decide | exact fun z => absurd z.1 (by decide) | exact ⟨fun z => absurd z.1 (by decide), fun z => absurd z.1 (by decide)⟩ | omega), f5 342 _ (by first | decide | exact fun z => absurd z.1 (by decide) | exact ⟨fun z => absurd z.1 (by decide), fun z => absurd z.1 (by decide)⟩ | omega), f4 342 _ (by first | decide | exact fun z => absurd z.1 (by decide) | exact ⟨fun z => absurd z.1 (by decide), fun z => absurd z.1 (by decide)⟩ | omega), f3 342 _ (by first | decide | exact fun z => absurd z.1 (by decide) | exact ⟨fun z => absurd z.1 (by decide), fun z => absurd z.1 (by decide)⟩ | omega)]
    omega
  · refine g_C ?_
    refine ⟨hS.k336, ?_⟩
    refine zx_fails hS hm0 h9 (by decide) (by decide) (by omega) (by omega) (fun m9 hm9 f9 y9 => ?_)
    refine ⟨by decide, hf m9 hm9 (by omega) ?_⟩
    rw [y9, show 1 + 8 * u1 + 4 = 5 + 8 * u1 by omega]
    exact hF (by show D 5 = 4; omega)
theorem zc_isHeatHere {X : Mm} {S : Sh} {m0 : Mm} {K : Int → Mm → Prop} {b : Int → Int} {n k u1 : Int} {T : Int → Dd → Prop} {D : Dd} (hS : Shp S) (hm0 : Inv X S m0) (ht : TR X b n) (rd : Rd D m0) (h9 : m0 336 9 = 0) (hq : m0 336 8 = u1) (h1 : 0 ≤ u1) (h1' : u1 ≤ n) (wk : Wk b n 4 u1) (hp : PR m0) (d0 : 2 ≤ D 0) (hF : dFull D 4 → T (5 + 8 * u1) dz) (hL : ¬ dFull D 4 → Ld b n T 1 4 0 (u1 + tl 4) k D) (hf : ∀ M1 : Mm, Inv X S M1 → ¬ M1 336 9 = 0 → T (M1 336 9) dz → K 0 M1) (hk : ∀ (M1 : Mm) (D' : Dd), Inv X S M1 → PR M1 → Rd D' M1 → 2 ≤ D' 0 → (∀ p : Int, (p = 11 ∨ p = 14) → M1 336 p = m0 336 p) → u1 ≤ M1 336 8 → M1 336 8 ≤ n → M1 336 9 = 0 → Ld b n T 2 0 0 (M1 336 8) k D' → K 1 M1) : wp_X12_isHeatHere S m0 336 u1 K := by
  have nb := ht.2.1
  have c0 := hm0.f_342_0
  have c4 := hm0.f_342_4
  have c5 := hm0.f_342_5
  have cc := hm0.f_342_9
  have r0 := rd 0 (by decide) (by decide)
  have rc := rd 9 (by decide) (by decide)
  refine u_X12_isHeatHere ?_
  refine g_getr 7 342 rfl hS.k336 hm0.f_336_7 (by decide) ?_
  refine g_C ?_
  refine g_ldu hS.k342 hS.l342 (by omega) (by omega) (fun v0 ev0 => ?_)
  refine g_C ?_
  refine g_if (fun w => ?_) (fun w => ?_)
  · have l0 := hL (fun z => w (by have z2 : D 9 = 4 := z; omega))
    refine ⟨hS.k336, ?_⟩
    refine zx_passWord 4 hS hm0 ht hq h1 (by decide) wk (fun m1 hm1 f1 x1 le1 => ?_)
    have tk := tl_r 4 (by decide)
    have r1 : Rd D m1 := rd.same (fun p => f1 342 p (by first | decide | exact fun z => absurd z.1 (by decide) | exact ⟨fun z => absurd z.1 (by decide), fun z => absurd z.1 (by decide)⟩ | omega))
    have y1 : m1 336 9 = 0 := (f1 336 9 (by first | decide | exact fun z => absurd z.1 (by decide) | exact ⟨fun z => absurd z.1 (by decide), fun z => absurd z.1 (by decide)⟩ | omega)).trans h9
    rw [← x1] at l0
    refine g_C ?_
    refine g_C ?_
    refine g_getr 7 342 rfl hS.k336 hm1.f_336_7 (by decide) ?_
    refine g_C ?_
    refine g_ldu hS.k342 hS.l342 (by omega) (by omega) (fun n0 en => ?_)
    rw [f1 342 _ (by first | decide | exact fun z => absurd z.1 (by decide) | exact ⟨fun z => absurd z.1 (by decide), fun z => absurd z.1 (by decide)⟩ | omega)] at en
    have dn : D 9 = n0 := by omega
    refine g_M (by omega) (by omega) ?_
    refine g_A (by omega) (by omega) ?_
    refine g_C ?_
    refine g_C ?_
    refine ⟨hS.k336, ?_⟩
    refine zc_cell 4 0 hS hm1 ht r1 y1 (by omega) l0 (lo := 0) (hi := 99) (by show 81 + 3 * D 9 + ((0 : Nat) : Int) = _; omega) (by omega) (by omega) rfl rfl (fun v lv uv => okb_of (l := 0) (u := 99) (by rw [show (81 + 3 * n0).toNat = 81 + 3 * n0.toNat by omega]; exact rq_81 _ (by omega)) (by omega) (by omega)) (fun m8 hm8 n8 t8 => g_ifT rfl (g_C ⟨by decide, hf m8 hm8 n8 t8⟩)) (fun q2 v2 m2 hm2 f2 lo_2 hi_2 q0_2 qn_2 sk2 xv2 r2 y2 n2' p2 ln2 le2 _ => ?_)
    refine g_ifF (by decide) ?_
    obtain ⟨D2, eD2⟩ : ∃ z : Dd, z = ud D (81 + 3 * n0) v2 := ⟨_, rfl⟩
    have gD2 : ∀ p : Int, ¬ p = 81 + 3 * n0 → D2 p = D p := fun p z => by rw [eD2]; exact ud_ne z
    have xD2 : D2 (81 + 3 * n0) = v2 := by rw [eD2]; exact ud_at _ _ _
    rw [← eD2] at r2 ln2 le2
    have dn2 : D2 9 = n0 := (gD2 9 (by omega)).trans dn
    have d02 : D2 0 = D 0 := (gD2 0 (by omega))
    have l2 := ln2 (fun z => absurd z.1 (by decide)) (by decide)
    refine g_C ?_
    refine g_A (by omega) (by omega) ?_
    refine g_getr 7 342 rfl hS.k336 hm2.f_336_7 (by decide) ?_
    refine g_ldu hS.k342 hS.l342 (by omega) (by omega) (fun lo1 elo1 => ?_)
    have elo1' : D2 (81 + 3 * n0) = lo1 := ((r2 _ (by omega) (by omega)).symm.trans elo1.symm)
    refine g_C ?_
    refine ⟨hS.k336, ?_⟩
    refine zc_cell 4 1 hS hm2 ht r2 y2 (by omega) l2 (lo := lo1) (hi := 99) (by show 81 + 3 * D2 9 + ((1 : Nat) : Int) = _; omega) (by omega) (by omega) (by show D2 (81 + 3 * D2 9) = _; rw [dn2]; exact elo1') rfl (fun v lv uv => okb_of (l := 0) (u := 99) (by rw [show (81 + 3 * n0 + 1).toNat = 82 + 3 * n0.toNat by omega]; exact rq_82 _ (by omega)) (by omega) (by omega)) (fun m8 hm8 n8 t8 => g_ifT rfl (g_C ⟨by decide, hf m8 hm8 n8 t8⟩)) (fun q3 v3 m3 hm3 f3 lo_3 hi_3 q0_3 qn_3 sk3 xv3 r3 y3 n3' p3 ln3 le3 _ => ?_)
    refine g_ifF (by decide) ?_
    obtain ⟨D3, eD3⟩ : ∃ z : Dd, z = ud D2 (81 + 3 * n0 + 1) v3 := ⟨_, rfl⟩
    have gD3 : ∀ p : Int, ¬ p = 81 + 3 * n0 + 1 → D3 p = D2 p := fun p z => by rw [eD3]; exact ud_ne z
    have xD3 : D3 (81 + 3 * n0 + 1) = v3 := by rw [eD3]; exact ud_at _ _ _
    rw [← eD3] at r3 ln3 le3
    have dn3 : D3 9 = n0 := (gD3 9 (by omega)).trans dn2
    have d03 : D3 0 = D 0 := (gD3 0 (by omega)).trans d02
    have l3 := ln3 (fun z => absurd z.1 (by decide)) (by decide)
    refine g_C ?_
    refine g_A (by omega) (by omega) ?_
    refine g_C ?_
    refine g_C ?_
    refine ⟨hS.k336, ?_⟩
    refine zc_cell 4 2 hS hm3 ht r3 y3 (by omega) l3 (lo := 1) (hi := 5) (by show 81 + 3 * D3 9 + ((2 : Nat) : Int) = _; omega) (by omega) (by omega) rfl rfl (fun v lv uv => okb_of (l := 0) (u := 5) (by rw [show (81 + 3 * n0 + 2).toNat = 83 + 3 * n0.toNat by omega]; exact rq_83 _ (by omega)) (by omega) (by omega)) (fun m8 hm8 n8 t8 => g_ifF (by decide) (g_C ⟨by decide, hf m8 hm8 n8 t8⟩)) (fun q4 v4 m4 hm4 f4 lo_4 hi_4 q0_4 qn_4 sk4 xv4 r4 y4 n4' p4 ln4 le4 _ => ?_)
    refine g_ifT (by decide) ?_
    obtain ⟨D4, eD4⟩ : ∃ z : Dd, z = ud D3 (81 + 3 * n0 + 2) v4 := ⟨_, rfl⟩
    have gD4 : ∀ p : Int, ¬ p = 81 + 3 * n0 + 2 → D4 p = D3 p := fun p z => by rw [eD4]; exact ud_ne z
    have xD4 : D4 (81 + 3 * n0 + 2) = v4 := by rw [eD4]; exact ud_at _ _ _
    rw [← eD4] at r4 ln4 le4
    have dn4 : D4 9 = n0 := (gD4 9 (by omega)).trans dn3
    have d04 : D4 0 = D 0 := (gD4 0 (by omega)).trans d03
    have l4 := le4 (fun z => absurd z.1 (by decide)) rfl
    refine g_getr 7 342 rfl hS.k336 hm4.f_336_7 (by decide) ?_
    refine g_C ?_
    refine g_ldu hS.k342 hS.l342 (by omega) (by omega) (fun q1 eq1 => ?_)
    rw [f4 342 _ (by first | decide | exact fun z => absurd z.1 (by decide) | exact ⟨fun z => absurd z.1 (by decide), fun z => absurd z.1 (by decide)⟩ | omega), f3 342 _ (by first | decide | exact fun z => absurd z.1 (by decide) | exact ⟨fun z => absurd z.1 (by decide), fun z => absurd z.1 (by decide)⟩ | omega), f2 342 _ (by first | decide | exact fun z => absurd z.1 (by decide) | exact ⟨fun z => absurd z.1 (by decide), fun z => absurd z.1 (by decide)⟩ | omega), f1 342 _ (by first | decide | exact fun z => absurd z.1 (by decide) | exact ⟨fun z => absurd z.1 (by decide), fun z => absurd z.1 (by decide)⟩ | omega)] at eq1
    have eqn1 : q1 = n0 := by omega
    refine g_C ?_
    refine g_A (by omega) (by omega) ?_
    refine g_st hS.k342 hS.l342 (by omega) (by omega) (hm4.w342 (by omega) (okb_of (l := 0) (u := 4) (by decide +kernel) (by omega) (by omega))) (fun m5 e5 hm5 => ?_)
    have f5 : ∀ c p : Int, ¬ (c = 342 ∧ p = 9) → m5 c p = m4 c p := fun c p q => (congrFun (congrFun e5 _) _).trans (up_ne q)
    have x5 : m5 342 (9) = q1 + 1 := (congrFun (congrFun e5 _) _).trans (up_at _ _ _ _)
    have r5 : Rd (ud D4 (9) (n0 + 1)) m5 := r4.up (fun p z => f5 342 p (fun y => z y.2)) (by rw [x5]; omega)
    have F : ∀ c p : Int, ¬ (c = 336 ∧ 8 ≤ p ∧ p ≤ 10) ∧ ¬ (c = 342 ∧ p = 81 + 3 * n0) ∧ ¬ (c = 342 ∧ p = 81 + 3 * n0 + 1) ∧ ¬ (c = 342 ∧ p = 81 + 3 * n0 + 2) ∧ ¬ (c = 342 ∧ p = 9) → m5 c p = m0 c p := fun c p q => by rw [f5 c p (by first | exact q.2.2.2.2 | omega), f4 c p (by first | exact ⟨q.1, q.2.2.2.1⟩ | omega), f3 c p (by first | exact ⟨q.1, q.2.2.1⟩ | omega), f2 c p (by first | exact ⟨q.1, q.2.1⟩ | omega), f1 c p (by first | exact fun z => q.1 ⟨z.1, z.2.1, Int.le_trans z.2.2 (by decide)⟩ | omega)]
    have eF : dFin D4 4 = (ud D4 (9) (n0 + 1)) := by
      show ud D4 9 (D4 9 + 1) = _
      rw [dn4]
    rw [eF] at l4
    have e8 : m5 336 8 = m4 336 8 := by rw [f5 336 8 (by first | decide | exact fun z => absurd z.1 (by decide) | exact ⟨fun z => absurd z.1 (by decide), fun z => absurd z.1 (by decide)⟩ | omega)]
    rw [← e8] at l4
    have z0 : (ud D4 (9) (n0 + 1)) 0 = D 0 := ((ud_ne (by omega)).trans (d04))
    refine g_C ⟨by decide, hk m5 (ud D4 (9) (n0 + 1)) hm5 ?_ r5 (by omega) (fun p q => F 336 p ⟨fun z => by omega, fun z => absurd z.1 (by decide), fun z => absurd z.1 (by decide), fun z => absurd z.1 (by decide), fun z => absurd z.1 (by decide)⟩) (by omega) (by omega) (by rw [f5 336 9 (by first | decide | exact fun z => absurd z.1 (by decide) | exact ⟨fun z => absurd z.1 (by decide), fun z => absurd z.1 (by decide)⟩ | omega)]; exact y4) l4⟩
    exact hp.oth (by omega) (by omega) (fun p q => F 342 p ⟨fun z => absurd z.1 (by decide), fun z => by omega, fun z => by omega, fun z => by omega, fun z => by omega⟩)
  · refine g_C ?_
    refine ⟨hS.k336, ?_⟩
    refine zx_fails hS hm0 h9 (by decide) (by decide) (by omega) (by omega) (fun m9 hm9 f9 y9 => ?_)
    refine ⟨by decide, hf m9 hm9 (by omega) ?_⟩
    rw [y9, show 1 + 8 * u1 + 4 = 5 + 8 * u1 by omega]
    exact hF (by show D 9 = 4; omega)
theorem zc_isWantHere {X : Mm} {S : Sh} {m0 : Mm} {K : Int → Mm → Prop} {b : Int → Int} {n k u1 : Int} {T : Int → Dd → Prop} {D : Dd} (hS : Shp S) (hm0 : Inv X S m0) (ht : TR X b n) (rd : Rd D m0) (h9 : m0 336 9 = 0) (hq : m0 336 8 = u1) (h1 : 0 ≤ u1) (h1' : u1 ≤ n) (wk : Wk b n 5 u1) (hp : PR m0) (d0 : 2 ≤ D 0) (hF : dFull D 5 → T (5 + 8 * u1) dz) (hL : ¬ dFull D 5 → Ld b n T 1 5 0 (u1 + tl 5) k D) (hf : ∀ M1 : Mm, Inv X S M1 → ¬ M1 336 9 = 0 → T (M1 336 9) dz → K 0 M1) (hk : ∀ (M1 : Mm) (D' : Dd), Inv X S M1 → PR M1 → Rd D' M1 → 2 ≤ D' 0 → (∀ p : Int, (p = 11 ∨ p = 14) → M1 336 p = m0 336 p) → u1 ≤ M1 336 8 → M1 336 8 ≤ n → M1 336 9 = 0 → Ld b n T 2 0 0 (M1 336 8) k D' → K 1 M1) : wp_X12_isWantHere S m0 336 u1 K := by
  have nb := ht.2.1
  have c0 := hm0.f_342_0
  have c4 := hm0.f_342_4
  have c5 := hm0.f_342_5
  have cc := hm0.f_342_6
  have r0 := rd 0 (by decide) (by decide)
  have rc := rd 6 (by decide) (by decide)
  refine u_X12_isWantHere ?_
  refine g_getr 7 342 rfl hS.k336 hm0.f_336_7 (by decide) ?_
  refine g_C ?_
  refine g_ldu hS.k342 hS.l342 (by omega) (by omega) (fun v0 ev0 => ?_)
  refine g_C ?_
  refine g_if (fun w => ?_) (fun w => ?_)
  · have l0 := hL (fun z => w (by have z2 : D 6 = 6 := z; omega))
    refine ⟨hS.k336, ?_⟩
    refine zx_passWord 5 hS hm0 ht hq h1 (by decide) wk (fun m1 hm1 f1 x1 le1 => ?_)
    have tk := tl_r 5 (by decide)
    have r1 : Rd D m1 := rd.same (fun p => f1 342 p (by first | decide | exact fun z => absurd z.1 (by decide) | exact ⟨fun z => absurd z.1 (by decide), fun z => absurd z.1 (by decide)⟩ | omega))
    have y1 : m1 336 9 = 0 := (f1 336 9 (by first | decide | exact fun z => absurd z.1 (by decide) | exact ⟨fun z => absurd z.1 (by decide), fun z => absurd z.1 (by decide)⟩ | omega)).trans h9
    rw [← x1] at l0
    refine g_C ?_
    refine g_C ?_
    refine g_getr 7 342 rfl hS.k336 hm1.f_336_7 (by decide) ?_
    refine g_C ?_
    refine g_ldu hS.k342 hS.l342 (by omega) (by omega) (fun n0 en => ?_)
    rw [f1 342 _ (by first | decide | exact fun z => absurd z.1 (by decide) | exact ⟨fun z => absurd z.1 (by decide), fun z => absurd z.1 (by decide)⟩ | omega)] at en
    have dn : D 6 = n0 := by omega
    refine g_M (by omega) (by omega) ?_
    refine g_A (by omega) (by omega) ?_
    refine g_C ?_
    refine g_getr 7 342 rfl hS.k336 hm1.f_336_7 (by decide) ?_
    refine g_C ?_
    refine g_ldu hS.k342 hS.l342 (by omega) (by omega) (fun pp epp => ?_)
    rw [f1 342 _ (by first | decide | exact fun z => absurd z.1 (by decide) | exact ⟨fun z => absurd z.1 (by decide), fun z => absurd z.1 (by decide)⟩ | omega)] at epp
    refine g_C ?_
    refine g_S (by omega) (by omega) ?_
    refine ⟨hS.k336, ?_⟩
    refine zc_cell 5 0 hS hm1 ht r1 y1 (by omega) l0 (lo := 0) (hi := pp - 1) (by show 93 + 4 * D 6 + ((0 : Nat) : Int) = _; omega) (by omega) (by omega) rfl (by show D 0 - 1 = _; omega) (fun v lv uv => okb_of (l := 0) (u := 5) (by rw [show (93 + 4 * n0).toNat = 93 + 4 * n0.toNat by omega]; exact rq_93 _ (by omega)) (by omega) (by omega)) (fun m8 hm8 n8 t8 => g_ifT rfl (g_C ⟨by decide, hf m8 hm8 n8 t8⟩)) (fun q2 v2 m2 hm2 f2 lo_2 hi_2 q0_2 qn_2 sk2 xv2 r2 y2 n2' p2 ln2 le2 _ => ?_)
    refine g_ifF (by decide) ?_
    obtain ⟨D2, eD2⟩ : ∃ z : Dd, z = ud D (93 + 4 * n0) v2 := ⟨_, rfl⟩
    have gD2 : ∀ p : Int, ¬ p = 93 + 4 * n0 → D2 p = D p := fun p z => by rw [eD2]; exact ud_ne z
    have xD2 : D2 (93 + 4 * n0) = v2 := by rw [eD2]; exact ud_at _ _ _
    rw [← eD2] at r2 ln2 le2
    have dn2 : D2 6 = n0 := (gD2 6 (by omega)).trans dn
    have d02 : D2 0 = D 0 := (gD2 0 (by omega))
    have l2 := ln2 (fun z => absurd z.1 (by decide)) (by decide)
    refine g_C ?_
    refine g_A (by omega) (by omega) ?_
    refine g_C ?_
    refine g_C ?_
    refine ⟨hS.k336, ?_⟩
    refine zc_cell 5 1 hS hm2 ht r2 y2 (by omega) l2 (lo := 0) (hi := 99) (by show 93 + 4 * D2 6 + ((1 : Nat) : Int) = _; omega) (by omega) (by omega) rfl rfl (fun v lv uv => okb_of (l := 0) (u := 99) (by rw [show (93 + 4 * n0 + 1).toNat = 94 + 4 * n0.toNat by omega]; exact rq_94 _ (by omega)) (by omega) (by omega)) (fun m8 hm8 n8 t8 => g_ifT rfl (g_C ⟨by decide, hf m8 hm8 n8 t8⟩)) (fun q3 v3 m3 hm3 f3 lo_3 hi_3 q0_3 qn_3 sk3 xv3 r3 y3 n3' p3 ln3 le3 _ => ?_)
    refine g_ifF (by decide) ?_
    obtain ⟨D3, eD3⟩ : ∃ z : Dd, z = ud D2 (93 + 4 * n0 + 1) v3 := ⟨_, rfl⟩
    have gD3 : ∀ p : Int, ¬ p = 93 + 4 * n0 + 1 → D3 p = D2 p := fun p z => by rw [eD3]; exact ud_ne z
    have xD3 : D3 (93 + 4 * n0 + 1) = v3 := by rw [eD3]; exact ud_at _ _ _
    rw [← eD3] at r3 ln3 le3
    have dn3 : D3 6 = n0 := (gD3 6 (by omega)).trans dn2
    have d03 : D3 0 = D 0 := (gD3 0 (by omega)).trans d02
    have l3 := ln3 (fun z => absurd z.1 (by decide)) (by decide)
    refine g_C ?_
    refine g_A (by omega) (by omega) ?_
    refine g_getr 7 342 rfl hS.k336 hm3.f_336_7 (by decide) ?_
    refine g_C ?_
    refine g_A (by omega) (by omega) ?_
    refine g_ldu hS.k342 hS.l342 (by omega) (by omega) (fun lo2 elo2 => ?_)
    have elo2' : D3 (93 + 4 * n0 + 1) = lo2 := ((r3 _ (by omega) (by omega)).symm.trans elo2.symm)
    refine g_C ?_
    refine ⟨hS.k336, ?_⟩
    refine zc_cell 5 2 hS hm3 ht r3 y3 (by omega) l3 (lo := lo2) (hi := 99) (by show 93 + 4 * D3 6 + ((2 : Nat) : Int) = _; omega) (by omega) (by omega) (by show D3 (93 + 4 * D3 6 + 1) = _; rw [dn3]; exact elo2') rfl (fun v lv uv => okb_of (l := 0) (u := 99) (by rw [show (93 + 4 * n0 + 2).toNat = 95 + 4 * n0.toNat by omega]; exact rq_95 _ (by omega)) (by omega) (by omega)) (fun m8 hm8 n8 t8 => g_ifT rfl (g_C ⟨by decide, hf m8 hm8 n8 t8⟩)) (fun q4 v4 m4 hm4 f4 lo_4 hi_4 q0_4 qn_4 sk4 xv4 r4 y4 n4' p4 ln4 le4 _ => ?_)
    refine g_ifF (by decide) ?_
    obtain ⟨D4, eD4⟩ : ∃ z : Dd, z = ud D3 (93 + 4 * n0 + 2) v4 := ⟨_, rfl⟩
    have gD4 : ∀ p : Int, ¬ p = 93 + 4 * n0 + 2 → D4 p = D3 p := fun p z => by rw [eD4]; exact ud_ne z
    have xD4 : D4 (93 + 4 * n0 + 2) = v4 := by rw [eD4]; exact ud_at _ _ _
    rw [← eD4] at r4 ln4 le4
    have dn4 : D4 6 = n0 := (gD4 6 (by omega)).trans dn3
    have d04 : D4 0 = D 0 := (gD4 0 (by omega)).trans d03
    have l4 := ln4 (fun z => absurd z.1 (by decide)) (by decide)
    refine g_C ?_
    refine g_A (by omega) (by omega) ?_
    refine g_C ?_
    refine g_C ?_
    refine ⟨hS.k336, ?_⟩
    refine zc_cell 5 3 hS hm4 ht r4 y4 (by omega) l4 (lo := 1) (hi := 50) (by show 93 + 4 * D4 6 + ((3 : Nat) : Int) = _; omega) (by omega) (by omega) rfl rfl (fun v lv uv => okb_of (l := 0) (u := 50) (by rw [show (93 + 4 * n0 + 3).toNat = 96 + 4 * n0.toNat by omega]; exact rq_96 _ (by omega)) (by omega) (by omega)) (fun m8 hm8 n8 t8 => g_ifF (by decide) (g_C ⟨by decide, hf m8 hm8 n8 t8⟩)) (fun q5 v5 m5 hm5 f5 lo_5 hi_5 q0_5 qn_5 sk5 xv5 r5 y5 n5' p5 ln5 le5 _ => ?_)
    refine g_ifT (by decide) ?_
    obtain ⟨D5, eD5⟩ : ∃ z : Dd, z = ud D4 (93 + 4 * n0 + 3) v5 := ⟨_, rfl⟩
    have gD5 : ∀ p : Int, ¬ p = 93 + 4 * n0 + 3 → D5 p = D4 p := fun p z => by rw [eD5]; exact ud_ne z
    have xD5 : D5 (93 + 4 * n0 + 3) = v5 := by rw [eD5]; exact ud_at _ _ _
    rw [← eD5] at r5 ln5 le5
    have dn5 : D5 6 = n0 := (gD5 6 (by omega)).trans dn4
    have d05 : D5 0 = D 0 := (gD5 0 (by omega)).trans d04
    have l5 := le5 (fun z => absurd z.1 (by decide)) rfl
    refine g_getr 7 342 rfl hS.k336 hm5.f_336_7 (by decide) ?_
    refine g_C ?_
    refine g_getr 7 342 rfl hS.k336 hm5.f_336_7 (by decide) ?_
    refine g_C ?_
    refine g_ldu hS.k342 hS.l342 (by omega) (by omega) (fun q0 eq0 => ?_)
    rw [f5 342 _ (by first | decide | exact fun z => absurd z.1 (by decide) | exact ⟨fun z => absurd z.1 (by decide), fun z => absurd z.1 (by decide)⟩ | omega), f4 342 _ (by first | decide | exact fun z => absurd z.1 (by decide) | exact ⟨fun z => absurd z.1 (by decide), fun z => absurd z.1 (by decide)⟩ | omega), f3 342 _ (by first | decide | exact fun z => absurd z.1 (by decide) | exact ⟨fun z => absurd z.1 (by decide), fun z => absurd z.1 (by decide)⟩ | omega), f2 342 _ (by first | decide | exact fun z => absurd z.1 (by decide) | exact ⟨fun z => absurd z.1 (by decide), fun z => absurd z.1 (by decide)⟩ | omega), f1 342 _ (by first | decide | exact fun z => absurd z.1 (by decide) | exact ⟨fun z => absurd z.1 (by decide), fun z => absurd z.1 (by decide)⟩ | omega)] at eq0
    have eqn : q0 = n0 := by omega
    subst eqn
    refine g_A (by omega) (by omega) ?_
    refine g_C ?_
    refine g_st hS.k342 hS.l342 (by omega) (by omega) (hm5.w342 (by omega) (okb_of (l := -2147483648) (u := 2147483647) (by rw [show (51 + q0).toNat = 51 + 1 * q0.toNat by omega]; exact rq_51 _ (by omega)) (by omega) (by omega))) (fun m6 e6 hm6 => ?_)
    have f6 : ∀ c p : Int, ¬ (c = 342 ∧ p = 51 + q0) → m6 c p = m5 c p := fun c p q => (congrFun (congrFun e6 _) _).trans (up_ne q)
    have x6 : m6 342 (51 + q0) = (-1) := (congrFun (congrFun e6 _) _).trans (up_at _ _ _ _)
    have r6 : Rd (ud D5 (51 + q0) (-1)) m6 := r5.up (fun p z => f6 342 p (fun y => z y.2)) x6
    refine g_getr 7 342 rfl hS.k336 hm6.f_336_7 (by decide) ?_
    refine g_C ?_
    refine g_ldu hS.k342 hS.l342 (by omega) (by omega) (fun q1 eq1 => ?_)
    rw [f6 342 _ (by first | decide | exact fun z => absurd z.1 (by decide) | exact ⟨fun z => absurd z.1 (by decide), fun z => absurd z.1 (by decide)⟩ | omega), f5 342 _ (by first | decide | exact fun z => absurd z.1 (by decide) | exact ⟨fun z => absurd z.1 (by decide), fun z => absurd z.1 (by decide)⟩ | omega), f4 342 _ (by first | decide | exact fun z => absurd z.1 (by decide) | exact ⟨fun z => absurd z.1 (by decide), fun z => absurd z.1 (by decide)⟩ | omega), f3 342 _ (by first | decide | exact fun z => absurd z.1 (by decide) | exact ⟨fun z => absurd z.1 (by decide), fun z => absurd z.1 (by decide)⟩ | omega), f2 342 _ (by first | decide | exact fun z => absurd z.1 (by decide) | exact ⟨fun z => absurd z.1 (by decide), fun z => absurd z.1 (by decide)⟩ | omega), f1 342 _ (by first | decide | exact fun z => absurd z.1 (by decide) | exact ⟨fun z => absurd z.1 (by decide), fun z => absurd z.1 (by decide)⟩ | omega)] at eq1
    have eqn1 : q1 = q0 := by omega
    refine g_C ?_
    refine g_A (by omega) (by omega) ?_
    refine g_st hS.k342 hS.l342 (by omega) (by omega) (hm6.w342 (by omega) (okb_of (l := 0) (u := 6) (by decide +kernel) (by omega) (by omega))) (fun m7 e7 hm7 => ?_)
    have f7 : ∀ c p : Int, ¬ (c = 342 ∧ p = 6) → m7 c p = m6 c p := fun c p q => (congrFun (congrFun e7 _) _).trans (up_ne q)
    have x7 : m7 342 (6) = q1 + 1 := (congrFun (congrFun e7 _) _).trans (up_at _ _ _ _)
    have r7 : Rd (ud (ud D5 (51 + q0) (-1)) (6) (q0 + 1)) m7 := r6.up (fun p z => f7 342 p (fun y => z y.2)) (by rw [x7]; omega)
    have F : ∀ c p : Int, ¬ (c = 336 ∧ 8 ≤ p ∧ p ≤ 10) ∧ ¬ (c = 342 ∧ p = 93 + 4 * q0) ∧ ¬ (c = 342 ∧ p = 93 + 4 * q0 + 1) ∧ ¬ (c = 342 ∧ p = 93 + 4 * q0 + 2) ∧ ¬ (c = 342 ∧ p = 93 + 4 * q0 + 3) ∧ ¬ (c = 342 ∧ p = 51 + q0) ∧ ¬ (c = 342 ∧ p = 6) → m7 c p = m0 c p := fun c p q => by rw [f7 c p (by first | exact q.2.2.2.2.2.2 | omega), f6 c p (by first | exact q.2.2.2.2.2.1 | omega), f5 c p (by first | exact ⟨q.1, q.2.2.2.2.1⟩ | omega), f4 c p (by first | exact ⟨q.1, q.2.2.2.1⟩ | omega), f3 c p (by first | exact ⟨q.1, q.2.2.1⟩ | omega), f2 c p (by first | exact ⟨q.1, q.2.1⟩ | omega), f1 c p (by first | exact fun z => q.1 ⟨z.1, z.2.1, Int.le_trans z.2.2 (by decide)⟩ | omega)]
    have eF : dFin D5 5 = (ud (ud D5 (51 + q0) (-1)) (6) (q0 + 1)) := by
      show ud (ud D5 (51 + D5 6) (-1)) 6 (D5 6 + 1) = _
      rw [dn5]
    rw [eF] at l5
    have e8 : m7 336 8 = m5 336 8 := by rw [f7 336 8 (by first | decide | exact fun z => absurd z.1 (by decide) | exact ⟨fun z => absurd z.1 (by decide), fun z => absurd z.1 (by decide)⟩ | omega), f6 336 8 (by first | decide | exact fun z => absurd z.1 (by decide) | exact ⟨fun z => absurd z.1 (by decide), fun z => absurd z.1 (by decide)⟩ | omega)]
    rw [← e8] at l5
    have z0 : (ud (ud D5 (51 + q0) (-1)) (6) (q0 + 1)) 0 = D 0 := ((ud_ne (by omega)).trans ((ud_ne (by omega)).trans (d05)))
    refine g_C ⟨by decide, hk m7 (ud (ud D5 (51 + q0) (-1)) (6) (q0 + 1)) hm7 ?_ r7 (by omega) (fun p q => F 336 p ⟨fun z => by omega, fun z => absurd z.1 (by decide), fun z => absurd z.1 (by decide), fun z => absurd z.1 (by decide), fun z => absurd z.1 (by decide), fun z => absurd z.1 (by decide), fun z => absurd z.1 (by decide)⟩) (by omega) (by omega) (by rw [f7 336 9 (by first | decide | exact fun z => absurd z.1 (by decide) | exact ⟨fun z => absurd z.1 (by decide), fun z => absurd z.1 (by decide)⟩ | omega), f6 336 9 (by first | decide | exact fun z => absurd z.1 (by decide) | exact ⟨fun z => absurd z.1 (by decide), fun z => absurd z.1 (by decide)⟩ | omega)]; exact y5) l5⟩
    exact hp.oth (by omega) (by omega) (fun p q => F 342 p ⟨fun z => absurd z.1 (by decide), fun z => by omega, fun z => by omega, fun z => by omega, fun z => by omega, fun z => by omega, fun z => by omega⟩)
  · refine g_C ?_
    refine ⟨hS.k336, ?_⟩
    refine zx_fails hS hm0 h9 (by decide) (by decide) (by omega) (by omega) (fun m9 hm9 f9 y9 => ?_)
    refine ⟨by decide, hf m9 hm9 (by omega) ?_⟩
    rw [y9, show 1 + 8 * u1 + 4 = 5 + 8 * u1 by omega]
    exact hF (by show D 6 = 6; omega)
