section
theorem Ld.sk {b : Int → Int} {n : Int} {T : Int → Dd → Prop} {m h j : Nat} {p q k : Int} {D : Dd} (l : Ld b n T m h j p k D) (hs : Sk b n p q) : Ld b n T m h j q k D := by
  intro f E z
  obtain ⟨N, z⟩ := z
  cases N with
  | zero => exact z.elim
  | succ N =>
    obtain ⟨q', hs', g⟩ := z
    have e := hs.idem.uniq hs'
    subst e
    exact l f E ⟨N + 1, q, hs, g⟩
theorem dch_at {b : Int → Int} {n : Int} {A : Da} {q k : Int} {D : Dd} {f : Int} {E : Dd} (i : Nat) (hi : i < 6) (hn : ∀ j : Nat, j < i → ¬ Wk b n j q) (wk : Wk b n i q) (h : wIf (k = 40 ∨ (i = 0 ∧ ¬ D 0 = 0) ∨ (¬ i = 0 ∧ D 0 = 0) ∨ dFull D i) (f = 5 + 8 * q ∧ E = dz) (A 1 i 0 (q + tl i) (k + 1) D f E)) : dch b n A q k D f E [0, 1, 2, 3, 4, 5] := by
  rcases (show i = 0 ∨ i = 1 ∨ i = 2 ∨ i = 3 ∨ i = 4 ∨ i = 5 by omega) with e | e | e | e | e | e <;> subst e
  · exact g_ifT wk h
  · exact g_ifF (hn 0 (by decide)) (g_ifT wk h)
  · exact g_ifF (hn 0 (by decide)) (g_ifF (hn 1 (by decide)) (g_ifT wk h))
  · exact g_ifF (hn 0 (by decide)) (g_ifF (hn 1 (by decide)) (g_ifF (hn 2 (by decide)) (g_ifT wk h)))
  · exact g_ifF (hn 0 (by decide)) (g_ifF (hn 1 (by decide)) (g_ifF (hn 2 (by decide)) (g_ifF (hn 3 (by decide)) (g_ifT wk h))))
  · exact g_ifF (hn 0 (by decide)) (g_ifF (hn 1 (by decide)) (g_ifF (hn 2 (by decide)) (g_ifF (hn 3 (by decide)) (g_ifF (hn 4 (by decide)) (g_ifT wk h)))))
theorem Ld.none {b : Int → Int} {n : Int} {T : Int → Dd → Prop} {p q k : Int} {D : Dd} (l : Ld b n T 0 0 0 p k D) (hs : Sk b n p q) (hn : ∀ j : Nat, j < 6 → ¬ Wk b n j q) : T (1 + 8 * q) dz := l _ _ (d_step hs (g_ifT rfl (g_ifF (hn 0 (by decide)) (g_ifF (hn 1 (by decide)) (g_ifF (hn 2 (by decide)) (g_ifF (hn 3 (by decide)) (g_ifF (hn 4 (by decide)) (g_ifF (hn 5 (by decide)) ⟨rfl, rfl⟩))))))))
theorem Ld.full {b : Int → Int} {n : Int} {T : Int → Dd → Prop} {p q k : Int} {D : Dd} (l : Ld b n T 0 0 0 p k D) (hs : Sk b n p q) (i : Nat) (hi : i < 6) (hn : ∀ j : Nat, j < i → ¬ Wk b n j q) (wk : Wk b n i q) (hb : k = 40 ∨ (i = 0 ∧ ¬ D 0 = 0) ∨ (¬ i = 0 ∧ D 0 = 0) ∨ dFull D i) : T (5 + 8 * q) dz := l _ _ (d_step hs (g_ifT rfl (dch_at i hi hn wk (g_ifT hb ⟨rfl, rfl⟩))))
theorem Ld.go {b : Int → Int} {n : Int} {T : Int → Dd → Prop} {p q k : Int} {D : Dd} (l : Ld b n T 0 0 0 p k D) (hs : Sk b n p q) (i : Nat) (hi : i < 6) (hn : ∀ j : Nat, j < i → ¬ Wk b n j q) (wk : Wk b n i q) (hb : ¬ (k = 40 ∨ (i = 0 ∧ ¬ D 0 = 0) ∨ (¬ i = 0 ∧ D 0 = 0) ∨ dFull D i)) : Ld b n T 1 i 0 (q + tl i) (k + 1) D := fun _ _ z => l _ _ (d_step hs (g_ifT rfl (dch_at i hi hn wk (g_ifF hb z))))
theorem Ld.stop {b : Int → Int} {n : Int} {T : Int → Dd → Prop} {p q k : Int} {D : Dd} (l : Ld b n T 2 0 0 p k D) (hs : Sk b n p q) (hq : n ≤ q) : T 0 D := l _ _ (d_step hs (g_ifF (by decide) (g_ifF (by decide) (g_ifT hq ⟨rfl, rfl⟩))))
theorem Ld.odd {b : Int → Int} {n : Int} {T : Int → Dd → Prop} {p q k : Int} {D : Dd} (l : Ld b n T 2 0 0 p k D) (hs : Sk b n p q) (hq : ¬ n ≤ q) (h59 : ¬ b q = 59) : T (1 + 8 * q) dz := l _ _ (d_step hs (g_ifF (by decide) (g_ifF (by decide) (g_ifF hq (g_ifF h59 ⟨rfl, rfl⟩)))))
theorem Ld.more {b : Int → Int} {n : Int} {T : Int → Dd → Prop} {p q k : Int} {D : Dd} (l : Ld b n T 2 0 0 p k D) (hs : Sk b n p q) (hq : ¬ n ≤ q) (h59 : b q = 59) : Ld b n T 0 0 0 (q + 1) k D := fun _ _ z => l _ _ (d_step hs (g_ifF (by decide) (g_ifF (by decide) (g_ifF hq (g_ifT h59 z)))))
theorem Rt_ud {D : Dd} {c v a e : Int} (hc : 57 + 3 * D 3 ≤ c) (h3 : 0 ≤ D 3) : Rt (ud D c v) a e ↔ Rt D a e := by
  have e3 : ud D c v 3 = D 3 := ud_ne (by omega)
  constructor
  · rintro ⟨k, k0, k1, h⟩
    rw [e3] at k1
    rw [ud_ne (by omega), ud_ne (by omega)] at h
    exact ⟨k, k0, k1, h⟩
  · rintro ⟨k, k0, k1, h⟩
    refine ⟨k, k0, by rw [e3]; exact k1, ?_⟩
    rw [ud_ne (by omega), ud_ne (by omega)]
    exact h
theorem zc_isRoadTold {X : Mm} {S : Sh} {m : Mm} {K : Int → Mm → Prop} {u1 u2 : Int} {D : Dd} (hS : Shp S) (hm : Inv X S m) (rd : Rd D m) (h1 : Rt D u1 u2 → K 1 m) (h0 : ¬ Rt D u1 u2 → K 0 m) : wp_X12_isRoadTold S m 336 u1 u2 K := by
  have c3 := hm.f_342_3
  have r3 := rd 3 (by decide) (by decide)
  refine u_X12_isRoadTold ?_
  refine g_C ?_
  have L : ∀ (N : Nat) (k : Int), 0 ≤ k → k ≤ D 3 → (∀ i : Int, 0 ≤ i → i < k → ¬ ((D (57 + 3 * i) = u1 ∧ D (57 + 3 * i + 1) = u2) ∨ (D (57 + 3 * i) = u2 ∧ D (57 + 3 * i + 1) = u1))) → 9 - k ≤ (N : Int) → wp_X12_isRoadTold_2 S K N 336 u1 u2 k m := by
    intro N
    induction N with
    | zero => intro k _ _ _ h; exfalso; omega
    | succ N ih =>
      intro k k0 k1 hn h
      refine u_X12_isRoadTold_2 ?_
      refine g_getr 7 342 rfl hS.k336 hm.f_336_7 (by decide) ?_
      refine g_C ?_
      refine g_ldu hS.k342 hS.l342 (by omega) (by omega) (fun v ev => ?_)
      refine g_if (fun w => g_C ⟨by decide, h0 (fun z => ?_)⟩) (fun w => ?_)
      · obtain ⟨i, i0, i1, hi⟩ := z
        exact hn i i0 (by omega) hi
      have ra := rd (57 + 3 * k) (by omega) (by omega)
      have rb := rd (57 + 3 * k + 1) (by omega) (by omega)
      refine g_C ?_
      refine g_C ?_
      refine g_M (by omega) (by omega) ?_
      refine g_A (by omega) (by omega) ?_
      have nx : ¬ ((D (57 + 3 * k) = u1 ∧ D (57 + 3 * k + 1) = u2) ∨ (D (57 + 3 * k) = u2 ∧ D (57 + 3 * k + 1) = u1)) → wp_X12_isRoadTold_70 S (fun a0 a1 a2 a3 M => wp_X12_isRoadTold_2 S K N a0 a1 a2 a3 M) K 336 u1 u2 k m := by
        intro z
        refine u_X12_isRoadTold_70 ?_
        refine g_A (by omega) (by omega) ?_
        refine ih (k + 1) (by omega) (by omega) (fun i i0 i1 => ?_) (by omega)
        by_cases e : i = k
        · rw [e]; exact z
        · exact hn i i0 (by omega)
      have se : ¬ (D (57 + 3 * k) = u1 ∧ D (57 + 3 * k + 1) = u2) → wp_X12_isRoadTold_44 S (fun a0 a1 a2 a3 M => wp_X12_isRoadTold_2 S K N a0 a1 a2 a3 M) K 336 u1 u2 k (57 + 3 * k) m := by
        intro z
        refine u_X12_isRoadTold_44 ?_
        refine g_getr 7 342 rfl hS.k336 hm.f_336_7 (by decide) ?_
        refine g_ldu hS.k342 hS.l342 (by omega) (by omega) (fun x ex => ?_)
        refine g_if (fun w2 => nx (fun y => by rcases y with y | y; exact z y; exact w2 (by omega))) (fun w2 => ?_)
        refine g_getr 7 342 rfl hS.k336 hm.f_336_7 (by decide) ?_
        refine g_C ?_
        refine g_A (by omega) (by omega) ?_
        refine g_ldu hS.k342 hS.l342 (by omega) (by omega) (fun x2 ex2 => ?_)
        refine g_if (fun w3 => nx (fun y => by rcases y with y | y; exact z y; exact w3 (by omega))) (fun w3 => ?_)
        exact g_C ⟨by decide, h1 ⟨k, k0, by omega, Or.inr ⟨by omega, by omega⟩⟩⟩
      refine g_getr 7 342 rfl hS.k336 hm.f_336_7 (by decide) ?_
      refine g_ldu hS.k342 hS.l342 (by omega) (by omega) (fun x ex => ?_)
      refine g_if (fun w2 => se (fun y => w2 (by omega))) (fun w2 => ?_)
      refine g_getr 7 342 rfl hS.k336 hm.f_336_7 (by decide) ?_
      refine g_C ?_
      refine g_A (by omega) (by omega) ?_
      refine g_ldu hS.k342 hS.l342 (by omega) (by omega) (fun x2 ex2 => ?_)
      refine g_if (fun w3 => g_C ⟨by decide, h1 ⟨k, k0, by omega, Or.inl ⟨by omega, by omega⟩⟩⟩) (fun w3 => se (fun y => w3 (by omega)))
  exact ⟨9, L 9 0 (by decide) (by omega) (fun i i0 i1 => absurd i1 (by omega)) (by decide)⟩
theorem zc_isDairyHere {X : Mm} {S : Sh} {m0 : Mm} {K : Int → Mm → Prop} {b : Int → Int} {n k u1 : Int} {T : Int → Dd → Prop} {D : Dd} (hS : Shp S) (hm0 : Inv X S m0) (ht : TR X b n) (rd : Rd D m0) (h9 : m0 336 9 = 0) (hq : m0 336 8 = u1) (h1 : 0 ≤ u1) (h1' : u1 ≤ n) (wk : Wk b n 0 u1) (hp : PR m0) (hF : ¬ D 0 = 0 → T (5 + 8 * u1) dz) (hL : D 0 = 0 → Ld b n T 1 0 0 (u1 + tl 0) k D) (hf : ∀ M1 : Mm, Inv X S M1 → ¬ M1 336 9 = 0 → T (M1 336 9) dz → K 0 M1) (hk : ∀ (M1 : Mm) (D' : Dd), Inv X S M1 → PR M1 → Rd D' M1 → 2 ≤ D' 0 → (∀ p : Int, (p = 11 ∨ p = 14) → M1 336 p = m0 336 p) → u1 ≤ M1 336 8 → M1 336 8 ≤ n → M1 336 9 = 0 → Ld b n T 2 0 0 (M1 336 8) k D' → K 1 M1) : wp_X12_isDairyHere S m0 336 u1 K := by
  have nb := ht.2.1
  have c0 := hm0.f_342_0
  have c4 := hm0.f_342_4
  have c5 := hm0.f_342_5
  have r0 := rd 0 (by decide) (by decide)
  refine u_X12_isDairyHere ?_
  refine g_getr 7 342 rfl hS.k336 hm0.f_336_7 (by decide) ?_
  refine g_C ?_
  refine g_ldu hS.k342 hS.l342 (by omega) (by omega) (fun v0 ev0 => ?_)
  refine g_if (fun w => ?_) (fun w => ?_)
  · have l0 := hL (by omega)
    refine ⟨hS.k336, ?_⟩
    refine zx_passWord 0 hS hm0 ht hq h1 (by decide) wk (fun m1 hm1 f1 x1 le1 => ?_)
    have tk := tl_r 0 (by decide)
    have y1 : m1 336 9 = 0 := (f1 336 9 (by first | decide | exact fun z => absurd z.1 (by decide) | exact ⟨fun z => absurd z.1 (by decide), fun z => absurd z.1 (by decide)⟩ | omega)).trans h9
    rw [← x1] at l0
    refine g_C ?_
    refine g_C ?_
    refine ⟨hS.k336, ?_⟩
    refine zx_num hS hm1 ht y1 (by omega) (fun q r m2 hm2 f2 sk qd dr a5 al ah nn x10 x8 rn => ?_) (fun q m2 hm2 sk q0 nd x9 => ?_) (fun q r m2 hm2 sk q0 qd dr bad x9 => ?_)
    rotate_left
    · refine g_ifF (by decide) (g_C ⟨by decide, hf m2 hm2 (by omega) ?_⟩)
      rw [x9]
      exact l0.bad0 sk nd
    · refine g_ifF (by decide) (g_C ⟨by decide, hf m2 hm2 (by omega) ?_⟩)
      rw [x9]
      refine l0.bad1 sk qd dr ?_
      rcases bad with z | z | z
      · exact Or.inl z
      · exact Or.inr (Or.inl z)
      · exact Or.inr (Or.inr (Or.inl z))
    have sk1 := sk.1
    have dr1 := dr.1
    have b81 := hm1.f_336_8
    obtain ⟨v, ev⟩ : ∃ v : Int, nv b q r = v := ⟨_, rfl⟩
    have l2 := l0.nx sk qd dr (fun z => by rcases z with z | z | z | z; exact a5 z; exact al z; exact ah z; exact absurd z.1 (by decide)) (by decide)
    rw [ev] at al ah nn x10 l2
    rw [← x8] at l2
    have y2 : m2 336 9 = 0 := (f2 336 9 (by first | decide | exact fun z => absurd z.1 (by decide) | exact ⟨fun z => absurd z.1 (by decide), fun z => absurd z.1 (by decide)⟩ | omega)).trans y1
    obtain ⟨D2, eD2⟩ : ∃ z : Dd, z = ud D 200 v := ⟨_, rfl⟩
    have l2 : Ld b n T 1 0 1 (m2 336 8) k D2 := by rw [eD2]; exact l2
    have gD2 : ∀ p : Int, ¬ p = 200 → D2 p = D p := fun p z => by rw [eD2]; exact ud_ne z
    have r2 : Rd D2 m2 := fun p p0 p1 => by rw [gD2 p (by omega), f2 342 p (by first | decide | exact fun z => absurd z.1 (by decide) | exact ⟨fun z => absurd z.1 (by decide), fun z => absurd z.1 (by decide)⟩ | omega), f1 342 p (by first | decide | exact fun z => absurd z.1 (by decide) | exact ⟨fun z => absurd z.1 (by decide), fun z => absurd z.1 (by decide)⟩ | omega)]; exact rd p p0 p1
    refine g_ifT (by decide) ?_
    refine g_getu 10 rfl hS.k336 (fun v2 ev2 => ?_)
    have ev2' : v2 = v := by omega
    refine g_C ?_
    refine g_C ?_
    refine g_C ?_
    refine ⟨hS.k336, ?_⟩
    refine zc_cell 0 1 hS hm2 ht r2 y2 (by omega) l2 (lo := 0) (hi := 9) rfl (by decide) (by decide) rfl rfl (fun v lv uv => okb_of (l := 0) (u := 9) (by decide +kernel) lv uv) (fun m8 hm8 n8 t8 => g_ifT rfl (g_C ⟨by decide, hf m8 hm8 n8 t8⟩)) (fun q3 v3 m3 hm3 f3 lo3 hi3 q03 qn3 sk3 xv3 r3 y3 n3 p3 ln3 _ _ => ?_)
    have l3 := ln3 (fun z => absurd z.1 (by decide)) (by decide)
    refine g_ifF (by decide) ?_
    refine g_C ?_
    refine g_C ?_
    refine g_C ?_
    refine ⟨hS.k336, ?_⟩
    refine zc_cell 0 2 hS hm3 ht r3 y3 (by omega) l3 (lo := 10) (hi := 99) rfl (by decide) (by decide) rfl rfl (fun v lv uv => okb_of (l := 0) (u := 99) (by decide +kernel) (by omega) (by omega)) (fun m8 hm8 n8 t8 => g_ifF (by decide) (g_C ⟨by decide, hf m8 hm8 n8 t8⟩)) (fun q4 v4 m4 hm4 f4 lo4 hi4 q04 qn4 sk4 xv4 r4 y4 n4 p4 _ le4 _ => ?_)
    have l4 := le4 (fun z => absurd z.1 (by decide)) rfl
    have e200 : ud (ud D2 1 v3) 2 v4 200 = v2 := by rw [ud_ne (by omega), ud_ne (by omega), eD2, ud_at, ev2']
    have eF : dFin (ud (ud D2 1 v3) 2 v4) 0 = ud (ud (ud D2 1 v3) 2 v4) 0 v2 := by
      show ud (ud (ud D2 1 v3) 2 v4) 0 (ud (ud D2 1 v3) 2 v4 200) = _
      rw [e200]
    rw [eF] at l4
    refine g_ifT (by decide) ?_
    refine g_getr 7 342 rfl hS.k336 hm4.f_336_7 (by decide) ?_
    refine g_C ?_
    refine g_st hS.k342 hS.l342 (by omega) (by omega) (hm4.w342 (by omega) (okb_of (l := 0) (u := 6) (by decide +kernel) (by omega) (by omega))) (fun m5 e5 hm5 => ?_)
    have f5 : ∀ c p : Int, ¬ (c = 342 ∧ p = 0) → m5 c p = m4 c p := fun c p q => (congrFun (congrFun e5 _) _).trans (up_ne q)
    have x5 : m5 342 0 = v2 := (congrFun (congrFun e5 _) _).trans (up_at _ _ _ _)
    have r5 := r4.up (fun p z => f5 342 p (fun y => z y.2)) x5
    have e8 : m5 336 8 = m4 336 8 := f5 336 8 (by first | decide | exact fun z => absurd z.1 (by decide) | exact ⟨fun z => absurd z.1 (by decide), fun z => absurd z.1 (by decide)⟩ | omega)
    rw [← e8] at l4
    have F : ∀ c p : Int, ¬ (c = 336 ∧ 8 ≤ p ∧ p ≤ 10) ∧ ¬ (c = 342 ∧ (p = 0 ∨ p = 1 ∨ p = 2)) → m5 c p = m0 c p := fun c p q => by rw [f5 c p (by first | exact fun y => absurd (y.1 ▸ z) (by decide) | exact fun y => absurd (y.1 ▸ q) (by decide) | exact z | exact q | exact z.1 | exact q.1 | exact z.2 | exact q.2 | omega), f4 c p (by first | exact fun y => absurd (y.1 ▸ z) (by decide) | exact fun y => absurd (y.1 ▸ q) (by decide) | exact z | exact q | exact z.1 | exact q.1 | exact z.2 | exact q.2 | omega), f3 c p (by first | exact fun y => absurd (y.1 ▸ z) (by decide) | exact fun y => absurd (y.1 ▸ q) (by decide) | exact z | exact q | exact z.1 | exact q.1 | exact z.2 | exact q.2 | omega), f2 c p (by first | exact fun y => absurd (y.1 ▸ z) (by decide) | exact fun y => absurd (y.1 ▸ q) (by decide) | exact z | exact q | exact z.1 | exact q.1 | exact z.2 | exact q.2 | omega), f1 c p (by first | exact fun y => absurd (y.1 ▸ z) (by decide) | exact fun y => absurd (y.1 ▸ q) (by decide) | exact z | exact q | exact z.1 | exact q.1 | exact z.2 | exact q.2 | omega)]
    have z0 : ud (ud (ud D2 1 v3) 2 v4) 0 v2 0 = v2 := ud_at _ _ _
    refine g_C ⟨by decide, hk m5 _ hm5 ?_ r5 (by omega) (fun p q => F 336 p (by first | decide | exact fun z => absurd z.1 (by decide) | exact ⟨fun z => absurd z.1 (by decide), fun z => absurd z.1 (by decide)⟩ | omega)) (by omega) (by omega) (by rw [f5 336 9 (by first | decide | exact fun z => absurd z.1 (by decide) | exact ⟨fun z => absurd z.1 (by decide), fun z => absurd z.1 (by decide)⟩ | omega)]; exact y4) l4⟩
    unfold PR at hp ⊢
    rw [F 342 4 (by first | decide | exact fun z => absurd z.1 (by decide) | exact ⟨fun z => absurd z.1 (by decide), fun z => absurd z.1 (by decide)⟩ | omega), F 342 5 (by first | decide | exact fun z => absurd z.1 (by decide) | exact ⟨fun z => absurd z.1 (by decide), fun z => absurd z.1 (by decide)⟩ | omega)]
    refine ⟨fun a a0 a1 => ?_, fun a a0 a1 => ?_⟩
    · have q := hp.1 a a0 a1
      obtain ⟨q1, q2⟩ := rq_hp a.toNat (by omega)
      have q3 := hm0.rd 342 (10 + 5 * a.toNat) 0 5 (by decide) q1 q2 (by decide)
      rw [show ((342 : Nat) : Int) = 342 from rfl, show ((10 + 5 * a.toNat : Nat) : Int) = 10 + 5 * a by omega] at q3
      exfalso; omega
    · have q := hp.2 a a0 a1
      obtain ⟨q1, q2⟩ := rq_jp a.toNat (by omega)
      have q3 := hm0.rd 342 (35 + 4 * a.toNat) 0 5 (by decide) q1 q2 (by decide)
      rw [show ((342 : Nat) : Int) = 342 from rfl, show ((35 + 4 * a.toNat : Nat) : Int) = 35 + 4 * a by omega] at q3
      exfalso; omega
  · refine g_C ?_
    refine ⟨hS.k336, ?_⟩
    refine zx_fails hS hm0 h9 (by decide) (by decide) (by omega) (by omega) (fun m9 hm9 f9 y9 => ?_)
    refine ⟨by decide, hf m9 hm9 (by omega) ?_⟩
    rw [y9, show 1 + 8 * u1 + 4 = 5 + 8 * u1 by omega]
    exact hF (by omega)
theorem zc_isRoadHere {X : Mm} {S : Sh} {m0 : Mm} {K : Int → Mm → Prop} {b : Int → Int} {n k u1 : Int} {T : Int → Dd → Prop} {D : Dd} (hS : Shp S) (hm0 : Inv X S m0) (ht : TR X b n) (rd : Rd D m0) (h9 : m0 336 9 = 0) (hq : m0 336 8 = u1) (h1 : 0 ≤ u1) (h1' : u1 ≤ n) (wk : Wk b n 1 u1) (hp : PR m0) (d0 : 2 ≤ D 0) (hF : dFull D 1 → T (5 + 8 * u1) dz) (hL : ¬ dFull D 1 → Ld b n T 1 1 0 (u1 + tl 1) k D) (hf : ∀ M1 : Mm, Inv X S M1 → ¬ M1 336 9 = 0 → T (M1 336 9) dz → K 0 M1) (hk : ∀ (M1 : Mm) (D' : Dd), Inv X S M1 → PR M1 → Rd D' M1 → 2 ≤ D' 0 → (∀ p : Int, (p = 11 ∨ p = 14) → M1 336 p = m0 336 p) → u1 ≤ M1 336 8 → M1 336 8 ≤ n → M1 336 9 = 0 → Ld b n T 2 0 0 (M1 336 8) k D' → K 1 M1) : wp_X12_isRoadHere S m0 336 u1 K := by
  have nb := ht.2.1
  have c0 := hm0.f_342_0
  have c4 := hm0.f_342_4
  have c5 := hm0.f_342_5
  have cc := hm0.f_342_3
  have r0 := rd 0 (by decide) (by decide)
  have rc := rd 3 (by decide) (by decide)
  have bad : ∀ (m : Mm) (a : Int), Inv X S m → m 336 9 = 0 → 0 ≤ a → a ≤ n → T (2 + 8 * a) dz → wp_X12_isRoadHere_122 S K 336 a m := by
    intro m a hm hm9 a0 a1 ta
    refine u_X12_isRoadHere_122 ?_
    refine g_C ?_
    refine ⟨hS.k336, ?_⟩
    refine zx_fails hS hm hm9 (by decide) (by decide) (by omega) (by omega) (fun m9 hm9 f9 y9 => ?_)
    refine ⟨by decide, hf m9 hm9 (by omega) ?_⟩
    rw [y9, show 1 + 8 * a + 1 = 2 + 8 * a by omega]
    exact ta
  refine u_X12_isRoadHere ?_
  refine g_getr 7 342 rfl hS.k336 hm0.f_336_7 (by decide) ?_
  refine g_C ?_
  refine g_ldu hS.k342 hS.l342 (by omega) (by omega) (fun v0 ev0 => ?_)
  refine g_C ?_
  refine g_if (fun w => ?_) (fun w => ?_)
  · have l0 := hL (fun z => w (by have z2 : D 3 = 8 := z; omega))
    refine ⟨hS.k336, ?_⟩
    refine zx_passWord 1 hS hm0 ht hq h1 (by decide) wk (fun m1 hm1 f1 x1 le1 => ?_)
    have tk := tl_r 1 (by decide)
    have r1 : Rd D m1 := rd.same (fun p => f1 342 p (by first | decide | exact fun z => absurd z.1 (by decide) | exact ⟨fun z => absurd z.1 (by decide), fun z => absurd z.1 (by decide)⟩ | omega))
    have y1 : m1 336 9 = 0 := (f1 336 9 (by first | decide | exact fun z => absurd z.1 (by decide) | exact ⟨fun z => absurd z.1 (by decide), fun z => absurd z.1 (by decide)⟩ | omega)).trans h9
    rw [← x1] at l0
    refine g_C ?_
    refine g_C ?_
    refine g_getr 7 342 rfl hS.k336 hm1.f_336_7 (by decide) ?_
    refine g_C ?_
    refine g_ldu hS.k342 hS.l342 (by omega) (by omega) (fun n0 en => ?_)
    rw [f1 342 _ (by first | decide | exact fun z => absurd z.1 (by decide) | exact ⟨fun z => absurd z.1 (by decide), fun z => absurd z.1 (by decide)⟩ | omega)] at en
    have dn : D 3 = n0 := by omega
    refine g_M (by omega) (by omega) ?_
    refine g_A (by omega) (by omega) ?_
    refine g_C ?_
    refine g_getr 7 342 rfl hS.k336 hm1.f_336_7 (by decide) ?_
    refine g_C ?_
    refine g_ldu hS.k342 hS.l342 (by omega) (by omega) (fun pp epp => ?_)
    rw [f1 342 _ (by first | decide | exact fun z => absurd z.1 (by decide) | exact ⟨fun z => absurd z.1 (by decide), fun z => absurd z.1 (by decide)⟩ | omega)] at epp
    refine g_C ?_
    refine g_S (by omega) (by omega) ?_
    refine ⟨hS.k336, ?_⟩
    have rq := rq_57 n0.toNat (by omega)
    refine zc_cell 1 0 hS hm1 ht r1 y1 (by omega) l0 (lo := 0) (hi := pp - 1) (by show 57 + 3 * D 3 + ((0 : Nat) : Int) = _; omega) (by omega) (by omega) rfl (by show D 0 - 1 = _; omega) (fun v lv uv => okb_of (l := 0) (u := 5) (by rw [show (57 + 3 * n0).toNat = 57 + 3 * n0.toNat by omega]; exact rq.1) (by omega) (by omega)) (fun m8 hm8 n8 t8 => g_ifF (by decide) (g_C ⟨by decide, hf m8 hm8 n8 t8⟩)) (fun q2 v2 m2 hm2 f2 lo2 hi2 q02 qn2 sk2 xv2 r2 y2 n2 p2 ln2 _ _ => ?_)
    refine g_ifT (by decide) ?_
    obtain ⟨D2, eD2⟩ : ∃ z : Dd, z = ud D (57 + 3 * n0) v2 := ⟨_, rfl⟩
    have gD2 : ∀ p : Int, ¬ p = 57 + 3 * n0 → D2 p = D p := fun p z => by rw [eD2]; exact ud_ne z
    have xD2 : D2 (57 + 3 * n0) = v2 := by rw [eD2]; exact ud_at _ _ _
    rw [← eD2] at r2 ln2
    have dn2 : D2 3 = n0 := (gD2 3 (by omega)).trans dn
    have d02 : D2 0 = D 0 := gD2 0 (by omega)
    have l2 := ln2 (fun z => absurd z.2.1 (by decide)) (by decide)
    refine ⟨hS.k336, ?_⟩
    refine zx_see hS hm2 ht (by omega) (fun r3 q3 m3 hm3 f3 sk3 x3 hq3 _ => ?_)
    have sk31 := sk3.1
    have b82 := hm2.f_336_8
    have l3 := l2.sk sk3
    rw [← x3] at l3
    have R3 : Rd D2 m3 := r2.same (fun p => f3 342 p (by first | decide | exact fun z => absurd z.1 (by decide) | exact ⟨fun z => absurd z.1 (by decide), fun z => absurd z.1 (by decide)⟩ | omega))
    have y3 : m3 336 9 = 0 := (f3 336 9 (by first | decide | exact fun z => absurd z.1 (by decide) | exact ⟨fun z => absurd z.1 (by decide), fun z => absurd z.1 (by decide)⟩ | omega)).trans y2
    refine g_getu 8 rfl hS.k336 (fun at' eat => ?_)
    refine g_C ?_
    refine g_A (by omega) (by omega) ?_
    refine g_C ?_
    refine g_getr 7 342 rfl hS.k336 hm3.f_336_7 (by decide) ?_
    refine g_C ?_
    refine g_ldu hS.k342 hS.l342 (by omega) (by omega) (fun p2' ep2 => ?_)
    rw [f3 342 _ (by first | decide | exact fun z => absurd z.1 (by decide) | exact ⟨fun z => absurd z.1 (by decide), fun z => absurd z.1 (by decide)⟩ | omega), f2 342 _ (by first | decide | exact fun z => absurd z.1 (by decide) | exact ⟨fun z => absurd z.1 (by decide), fun z => absurd z.1 (by decide)⟩ | omega), f1 342 _ (by first | decide | exact fun z => absurd z.1 (by decide) | exact ⟨fun z => absurd z.1 (by decide), fun z => absurd z.1 (by decide)⟩ | omega)] at ep2
    refine g_C ?_
    refine g_S (by omega) (by omega) ?_
    refine ⟨hS.k336, ?_⟩
    refine zc_cell 1 1 hS hm3 ht R3 y3 (by omega) l3 (lo := 0) (hi := p2' - 1) (by show 57 + 3 * D2 3 + ((1 : Nat) : Int) = _; omega) (by omega) (by omega) rfl (by show D2 0 - 1 = _; omega) (fun v lv uv => okb_of (l := 0) (u := 5) (by rw [show (57 + 3 * n0 + 1).toNat = 57 + 3 * n0.toNat + 1 by omega]; exact rq.2.1) (by omega) (by omega)) (fun m8 hm8 n8 t8 => g_ifF (by decide) (g_C ⟨by decide, hf m8 hm8 n8 t8⟩)) (fun q4 v4 m4 hm4 f4 lo4 hi4 q04 qn4 sk4 xv4 r4 y4 n4 p4 ln4 _ bd4 => ?_)
    refine g_ifT (by decide) ?_
    have eq4 : q4 = at' := by
      have z : Sk b n q3 q4 := by rw [x3] at sk4; exact sk4
      have z2 := sk3.idem.uniq z
      omega
    rw [eq4] at bd4
    obtain ⟨D4, eD4⟩ : ∃ z : Dd, z = ud D2 (57 + 3 * n0 + 1) v4 := ⟨_, rfl⟩
    have gD4 : ∀ p : Int, ¬ p = 57 + 3 * n0 + 1 → D4 p = D2 p := fun p z => by rw [eD4]; exact ud_ne z
    have rt : Rt D4 v2 v4 ↔ Rt D2 v2 v4 := by rw [eD4]; exact Rt_ud (by omega) (by omega)
    rw [← eD4] at r4 ln4
    have dn4 : D4 3 = n0 := (gD4 3 (by omega)).trans dn2
    have d04 : D4 0 = D 0 := (gD4 0 (by omega)).trans d02
    have b1 : v2 = v4 → dBad D2 1 1 v4 := fun z => ⟨rfl, rfl, Or.inl (by rw [dn2, xD2]; exact z)⟩
    have b2 : Rt D2 v2 v4 → dBad D2 1 1 v4 := fun z => ⟨rfl, rfl, Or.inr (by rw [dn2, xD2]; exact z)⟩
    have b3 : ¬ v2 = v4 → ¬ Rt D2 v2 v4 → ¬ dBad D2 1 1 v4 := fun z1 z2 z => by
      rcases z.2.2 with y | y
      · rw [dn2, xD2] at y; exact z1 y
      · rw [dn2, xD2] at y; exact z2 y
    have xa : m4 342 (57 + 3 * n0) = v2 := by rw [f4 342 _ (by first | decide | exact fun z => absurd z.1 (by decide) | exact ⟨fun z => absurd z.1 (by decide), fun z => absurd z.1 (by decide)⟩ | omega), f3 342 _ (by first | decide | exact fun z => absurd z.1 (by decide) | exact ⟨fun z => absurd z.1 (by decide), fun z => absurd z.1 (by decide)⟩ | omega)]; exact xv2
    refine g_getr 7 342 rfl hS.k336 hm4.f_336_7 (by decide) ?_
    refine g_ldu hS.k342 hS.l342 (by omega) (by omega) (fun a1 ea1 => ?_)
    refine g_getr 7 342 rfl hS.k336 hm4.f_336_7 (by decide) ?_
    refine g_C ?_
    refine g_A (by omega) (by omega) ?_
    refine g_ldu hS.k342 hS.l342 (by omega) (by omega) (fun a2 ea2 => ?_)
    refine g_if (fun w2 => bad m4 at' hm4 y4 (by omega) (by omega) (bd4 (b1 (by omega)))) (fun w2 => ?_)
    refine g_getr 7 342 rfl hS.k336 hm4.f_336_7 (by decide) ?_
    refine g_ldu hS.k342 hS.l342 (by omega) (by omega) (fun a3 ea3 => ?_)
    refine g_getr 7 342 rfl hS.k336 hm4.f_336_7 (by decide) ?_
    refine g_C ?_
    refine g_A (by omega) (by omega) ?_
    refine g_ldu hS.k342 hS.l342 (by omega) (by omega) (fun a4 ea4 => ?_)
    rw [xa] at ea3
    rw [xv4] at ea4
    refine ⟨hS.k336, ?_⟩
    rw [ea3, ea4]
    refine zc_isRoadTold hS hm4 r4 (fun z => g_ifF (by decide) (bad m4 at' hm4 y4 (by omega) (by omega) (bd4 (b2 (rt.mp z))))) (fun z => g_ifT rfl ?_)
    have l4 := ln4 (b3 (by omega) (fun y => z (rt.mpr y))) (by decide)
    refine g_C ?_
    refine g_A (by omega) (by omega) ?_
    refine g_C ?_
    refine g_C ?_
    refine ⟨hS.k336, ?_⟩
    refine zc_cell 1 2 hS hm4 ht r4 y4 (by omega) l4 (lo := 1) (hi := 5) (by show 57 + 3 * D4 3 + ((2 : Nat) : Int) = _; omega) (by omega) (by omega) rfl rfl (fun v lv uv => okb_of (l := 0) (u := 5) (by rw [show (57 + 3 * n0 + 2).toNat = 57 + 3 * n0.toNat + 2 by omega]; exact rq.2.2) (by omega) (by omega)) (fun m8 hm8 n8 t8 => g_ifF (by decide) (g_C ⟨by decide, hf m8 hm8 n8 t8⟩)) (fun q5 v5 m5 hm5 f5 lo5 hi5 q05 qn5 sk5 xv5 r5 y5 n5 p5 _ le5 _ => ?_)
    obtain ⟨D5, eD5⟩ : ∃ z : Dd, z = ud D4 (57 + 3 * n0 + 2) v5 := ⟨_, rfl⟩
    have gD5 : ∀ p : Int, ¬ p = 57 + 3 * n0 + 2 → D5 p = D4 p := fun p z => by rw [eD5]; exact ud_ne z
    rw [← eD5] at r5 le5
    have dn5 : D5 3 = n0 := (gD5 3 (by omega)).trans dn4
    have d05 : D5 0 = D 0 := (gD5 0 (by omega)).trans d04
    have l5 := le5 (fun z => absurd z.2.1 (by decide)) rfl
    have eF : dFin D5 1 = ud D5 3 (n0 + 1) := by
      show ud D5 3 (D5 3 + 1) = _
      rw [dn5]
    rw [eF] at l5
    refine g_ifT (by decide) ?_
    refine g_getr 7 342 rfl hS.k336 hm5.f_336_7 (by decide) ?_
    refine g_C ?_
    refine g_ldu hS.k342 hS.l342 (by omega) (by omega) (fun q1 eq1 => ?_)
    rw [f5 342 _ (by first | decide | exact fun z => absurd z.1 (by decide) | exact ⟨fun z => absurd z.1 (by decide), fun z => absurd z.1 (by decide)⟩ | omega), f4 342 _ (by first | decide | exact fun z => absurd z.1 (by decide) | exact ⟨fun z => absurd z.1 (by decide), fun z => absurd z.1 (by decide)⟩ | omega), f3 342 _ (by first | decide | exact fun z => absurd z.1 (by decide) | exact ⟨fun z => absurd z.1 (by decide), fun z => absurd z.1 (by decide)⟩ | omega), f2 342 _ (by first | decide | exact fun z => absurd z.1 (by decide) | exact ⟨fun z => absurd z.1 (by decide), fun z => absurd z.1 (by decide)⟩ | omega), f1 342 _ (by first | decide | exact fun z => absurd z.1 (by decide) | exact ⟨fun z => absurd z.1 (by decide), fun z => absurd z.1 (by decide)⟩ | omega)] at eq1
    refine g_C ?_
    refine g_A (by omega) (by omega) ?_
    refine g_st hS.k342 hS.l342 (by omega) (by omega) (hm5.w342 (by omega) (okb_of (l := 0) (u := 8) (by decide +kernel) (by omega) (by omega))) (fun m6 e6 hm6 => ?_)
    have f6 : ∀ c p : Int, ¬ (c = 342 ∧ p = 3) → m6 c p = m5 c p := fun c p q => (congrFun (congrFun e6 _) _).trans (up_ne q)
    have x6 : m6 342 3 = q1 + 1 := (congrFun (congrFun e6 _) _).trans (up_at _ _ _ _)
    have r6 : Rd (ud D5 3 (n0 + 1)) m6 := r5.up (fun p z => f6 342 p (fun y => z y.2)) (by rw [x6]; omega)
    have e8 : m6 336 8 = m5 336 8 := f6 336 8 (by first | decide | exact fun z => absurd z.1 (by decide) | exact ⟨fun z => absurd z.1 (by decide), fun z => absurd z.1 (by decide)⟩ | omega)
    rw [← e8] at l5
    have F : ∀ c p : Int, ¬ (c = 336 ∧ 8 ≤ p ∧ p ≤ 10) ∧ ¬ (c = 342 ∧ (p = 3 ∨ 57 ≤ p)) → m6 c p = m0 c p := fun c p q => by rw [f6 c p (by first | exact fun y => absurd (y.1 ▸ z) (by decide) | exact fun y => absurd (y.1 ▸ q) (by decide) | exact z | exact q | exact z.1 | exact q.1 | exact z.2 | exact q.2 | omega), f5 c p (by first | exact fun y => absurd (y.1 ▸ z) (by decide) | exact fun y => absurd (y.1 ▸ q) (by decide) | exact z | exact q | exact z.1 | exact q.1 | exact z.2 | exact q.2 | omega), f4 c p (by first | exact fun y => absurd (y.1 ▸ z) (by decide) | exact fun y => absurd (y.1 ▸ q) (by decide) | exact z | exact q | exact z.1 | exact q.1 | exact z.2 | exact q.2 | omega), f3 c p (by first | exact fun y => absurd (y.1 ▸ z) (by decide) | exact fun y => absurd (y.1 ▸ q) (by decide) | exact z | exact q | exact z.1 | exact q.1 | exact z.2 | exact q.2 | omega), f2 c p (by first | exact fun y => absurd (y.1 ▸ z) (by decide) | exact fun y => absurd (y.1 ▸ q) (by decide) | exact z | exact q | exact z.1 | exact q.1 | exact z.2 | exact q.2 | omega), f1 c p (by first | exact fun y => absurd (y.1 ▸ z) (by decide) | exact fun y => absurd (y.1 ▸ q) (by decide) | exact z | exact q | exact z.1 | exact q.1 | exact z.2 | exact q.2 | omega)]
    have z0 : ud D5 3 (n0 + 1) 0 = D 0 := (ud_ne (by omega)).trans d05
    refine g_C ⟨by decide, hk m6 _ hm6 (hp.oth (by omega) (by omega) (fun p q => F 342 p (by first | decide | exact fun z => absurd z.1 (by decide) | exact ⟨fun z => absurd z.1 (by decide), fun z => absurd z.1 (by decide)⟩ | omega))) r6 (by omega) (fun p q => F 336 p (by first | decide | exact fun z => absurd z.1 (by decide) | exact ⟨fun z => absurd z.1 (by decide), fun z => absurd z.1 (by decide)⟩ | omega)) (by omega) (by omega) (by rw [f6 336 9 (by first | decide | exact fun z => absurd z.1 (by decide) | exact ⟨fun z => absurd z.1 (by decide), fun z => absurd z.1 (by decide)⟩ | omega)]; exact y5) l5⟩
  · refine g_C ?_
    refine ⟨hS.k336, ?_⟩
    refine zx_fails hS hm0 h9 (by decide) (by decide) (by omega) (by omega) (fun m9 hm9 f9 y9 => ?_)
    refine ⟨by decide, hf m9 hm9 (by omega) ?_⟩
    rw [y9, show 1 + 8 * u1 + 4 = 5 + 8 * u1 by omega]
    exact hF (by show D 3 = 8; omega)
end
section
theorem zc_isDairyWord {X : Mm} {S : Sh} {m0 : Mm} {K : Int → Mm → Prop} {b : Int → Int} {n q : Int} (hS : Shp S) (hm0 : Inv X S m0) (ht : TR X b n) (hq : m0 336 8 = q) (hqn : q ≤ n) (sq : Sk b n q q) (h1 : ∀ (i : Nat) (M1 : Mm), i < 6 → (∀ j : Nat, j < i → ¬ Wk b n j q) → Wk b n i q → Inv X S M1 → (∀ c p : Int, ¬ (c = 336 ∧ 8 ≤ p ∧ p ≤ 8) → M1 c p = m0 c p) → M1 336 8 = q → K 1 M1) (h0 : ∀ M1 : Mm, (∀ j : Nat, j < 6 → ¬ Wk b n j q) → Inv X S M1 → (∀ c p : Int, ¬ (c = 336 ∧ 8 ≤ p ∧ p ≤ 8) → M1 c p = m0 c p) → M1 336 8 = q → K 0 M1) : wp_X12_isDairyWord S m0 336 K := by
  obtain ⟨w0, w1, w2, w3, w4, w5, -⟩ := pw_all
  have at1 : ∀ {p q' : Int}, p = q → Sk b n p q' → q' = q := fun e h => by rw [e] at h; exact (sq.uniq h).symm
  refine u_X12_isDairyWord ?_
  have yes : ∀ (i : Nat) (M1 : Mm), i < 6 → (∀ j : Nat, j < i → ¬ Wk b n j q) → Wk b n i q → Inv X S M1 → (∀ c p : Int, ¬ (c = 336 ∧ 8 ≤ p ∧ p ≤ 8) → M1 c p = m0 c p) → M1 336 8 = q → wp_X12_isDairyWord_60 S K M1 := by
    intro i M1 a1 a2 a3 a4 a5 a6
    refine u_X12_isDairyWord_60 ?_
    exact g_C ⟨by decide, h1 i M1 a1 a2 a3 a4 a5 a6⟩
  refine g_C ?_
  refine ⟨hS.k336, ?_⟩
  refine zx_isWord 0 hS hm0 ht (by omega) (by decide) w0.symm (fun q1 m1 hm1 f1 sk1 x1 qn1 k1 => ?_) (fun q1 m1 hm1 f1 sk1 x1 qn1 k1 => ?_)
  · have e1 := at1 hq sk1
    rw [e1] at x1 k1
    refine g_ifT (by decide) ?_
    exact yes 0 m1 (by decide) (fun j hj => absurd hj (by omega)) k1 hm1 (fun c p z => by rw [f1 c p z]) x1
  have e1 := at1 hq sk1
  rw [e1] at x1 k1
  refine g_ifF (by decide) ?_
  refine g_C ?_
  refine ⟨hS.k336, ?_⟩
  refine zx_isWord 1 hS hm1 ht (by omega) (by decide) w1.symm (fun q2 m2 hm2 f2 sk2 x2 qn2 k2 => ?_) (fun q2 m2 hm2 f2 sk2 x2 qn2 k2 => ?_)
  · have e2 := at1 x1 sk2
    rw [e2] at x2 k2
    refine g_ifT (by decide) ?_
    exact yes 1 m2 (by decide) (fun j hj => by obtain rfl : j = 0 := (by omega); assumption) k2 hm2 (fun c p z => by rw [f2 c p z, f1 c p z]) x2
  have e2 := at1 x1 sk2
  rw [e2] at x2 k2
  refine g_ifF (by decide) ?_
  refine g_C ?_
  refine ⟨hS.k336, ?_⟩
  refine zx_isWord 2 hS hm2 ht (by omega) (by decide) w2.symm (fun q3 m3 hm3 f3 sk3 x3 qn3 k3 => ?_) (fun q3 m3 hm3 f3 sk3 x3 qn3 k3 => ?_)
  · have e3 := at1 x2 sk3
    rw [e3] at x3 k3
    refine g_ifT (by decide) ?_
    exact yes 2 m3 (by decide) (fun j hj => by rcases (show j = 0 ∨ j = 1 by omega) with e | e <;> subst e <;> assumption) k3 hm3 (fun c p z => by rw [f3 c p z, f2 c p z, f1 c p z]) x3
  have e3 := at1 x2 sk3
  rw [e3] at x3 k3
  refine g_ifF (by decide) ?_
  refine g_C ?_
  refine ⟨hS.k336, ?_⟩
  refine zx_isWord 3 hS hm3 ht (by omega) (by decide) w3.symm (fun q4 m4 hm4 f4 sk4 x4 qn4 k4 => ?_) (fun q4 m4 hm4 f4 sk4 x4 qn4 k4 => ?_)
  · have e4 := at1 x3 sk4
    rw [e4] at x4 k4
    refine g_ifT (by decide) ?_
    exact yes 3 m4 (by decide) (fun j hj => by rcases (show j = 0 ∨ j = 1 ∨ j = 2 by omega) with e | e | e <;> subst e <;> assumption) k4 hm4 (fun c p z => by rw [f4 c p z, f3 c p z, f2 c p z, f1 c p z]) x4
  have e4 := at1 x3 sk4
  rw [e4] at x4 k4
  refine g_ifF (by decide) ?_
  refine g_C ?_
  refine ⟨hS.k336, ?_⟩
  refine zx_isWord 4 hS hm4 ht (by omega) (by decide) w4.symm (fun q5 m5 hm5 f5 sk5 x5 qn5 k5 => ?_) (fun q5 m5 hm5 f5 sk5 x5 qn5 k5 => ?_)
  · have e5 := at1 x4 sk5
    rw [e5] at x5 k5
    refine g_ifT (by decide) ?_
    exact yes 4 m5 (by decide) (fun j hj => by rcases (show j = 0 ∨ j = 1 ∨ j = 2 ∨ j = 3 by omega) with e | e | e | e <;> subst e <;> assumption) k5 hm5 (fun c p z => by rw [f5 c p z, f4 c p z, f3 c p z, f2 c p z, f1 c p z]) x5
  have e5 := at1 x4 sk5
  rw [e5] at x5 k5
  refine g_ifF (by decide) ?_
  refine g_C ?_
  refine ⟨hS.k336, ?_⟩
  refine zx_isWord 5 hS hm5 ht (by omega) (by decide) w5.symm (fun q6 m6 hm6 f6 sk6 x6 qn6 k6 => ?_) (fun q6 m6 hm6 f6 sk6 x6 qn6 k6 => ?_)
  · have e6 := at1 x5 sk6
    rw [e6] at x6 k6
    refine g_ifF (by decide) ?_
    exact yes 5 m6 (by decide) (fun j hj => by rcases (show j = 0 ∨ j = 1 ∨ j = 2 ∨ j = 3 ∨ j = 4 by omega) with e | e | e | e | e <;> subst e <;> assumption) k6 hm6 (fun c p z => by rw [f6 c p z, f5 c p z, f4 c p z, f3 c p z, f2 c p z, f1 c p z]) x6
  have e6 := at1 x5 sk6
  rw [e6] at x6 k6
  refine g_ifT rfl ?_
  exact g_C ⟨by decide, h0 m6 (fun j hj => by rcases (show j = 0 ∨ j = 1 ∨ j = 2 ∨ j = 3 ∨ j = 4 ∨ j = 5 by omega) with e | e | e | e | e | e <;> subst e <;> assumption) hm6 (fun c p z => by rw [f6 c p z, f5 c p z, f4 c p z, f3 c p z, f2 c p z, f1 c p z]) x6⟩
/-- a clause of a DAIRY, its word being the i-th -/
theorem zc_line {X : Mm} {S : Sh} {m0 : Mm} {K : Int → Mm → Prop} {b : Int → Int} {n k u1 : Int} {T : Int → Dd → Prop} {D : Dd} (i : Nat) (hi : i < 6) (hS : Shp S) (hm0 : Inv X S m0) (ht : TR X b n) (rd : Rd D m0) (h9 : m0 336 9 = 0) (hq : m0 336 8 = u1) (h1 : 0 ≤ u1) (h1' : u1 ≤ n) (sq : Sk b n u1 u1) (hn : ∀ j : Nat, j < i → ¬ Wk b n j u1) (wk : Wk b n i u1) (hp : PR m0) (d0 : D 0 = 0 ∨ 2 ≤ D 0) (hF : ((i = 0 ∧ ¬ D 0 = 0) ∨ (¬ i = 0 ∧ D 0 = 0) ∨ dFull D i) → T (5 + 8 * u1) dz) (hL : ¬ ((i = 0 ∧ ¬ D 0 = 0) ∨ (¬ i = 0 ∧ D 0 = 0) ∨ dFull D i) → Ld b n T 1 i 0 (u1 + tl i) k D) (hf : ∀ M1 : Mm, Inv X S M1 → ¬ M1 336 9 = 0 → T (M1 336 9) dz → K 0 M1) (hk : ∀ (M1 : Mm) (D' : Dd), Inv X S M1 → PR M1 → Rd D' M1 → 2 ≤ D' 0 → (∀ p : Int, (p = 11 ∨ p = 14) → M1 336 p = m0 336 p) → u1 ≤ M1 336 8 → M1 336 8 ≤ n → M1 336 9 = 0 → Ld b n T 2 0 0 (M1 336 8) k D' → K 1 M1) : wp_X12_dairyLineHere S m0 336 u1 K := by
  obtain ⟨w0, w1, w2, w3, w4, w5, -⟩ := pw_all
  have nb := ht.2.1
  have at1 : ∀ {p q' : Int}, p = u1 → Sk b n p q' → q' = u1 := fun e h => by rw [e] at h; exact (sq.uniq h).symm
  refine u_X12_dairyLineHere ?_
  refine g_C ?_
  refine ⟨hS.k336, ?_⟩
  refine zx_isWord 0 hS hm0 ht (by omega) (by decide) w0.symm (fun q1 m1 hm1 f1 sk1 x1 qn1 k1 => ?_) (fun q1 m1 hm1 f1 sk1 x1 qn1 k1 => ?_)
  · have e1 := at1 hq sk1
    rw [e1] at x1 k1
    have ei : i = 0 := by
      by_cases e : i = 0
      · exact e
      · exact absurd k1 (hn 0 (by omega))
    subst ei
    refine g_ifF (by decide) ?_
    refine ⟨hS.k336, ?_⟩
    exact zc_isDairyHere hS hm1 ht (rd.same (fun p => f1 342 p (by first | decide | exact fun z => absurd z.1 (by decide) | exact ⟨fun z => absurd z.1 (by decide), fun z => absurd z.1 (by decide)⟩ | omega))) ((f1 336 9 (by first | decide | exact fun z => absurd z.1 (by decide) | exact ⟨fun z => absurd z.1 (by decide), fun z => absurd z.1 (by decide)⟩ | omega)).trans h9) x1 h1 h1' wk (hp.same (fun p => f1 342 p (by first | decide | exact fun z => absurd z.1 (by decide) | exact ⟨fun z => absurd z.1 (by decide), fun z => absurd z.1 (by decide)⟩ | omega))) (fun z => hF (Or.inl ⟨rfl, z⟩)) (fun z => hL (fun y => by rcases y with y | y | y; exact y.2 z; exact y.1 rfl; exact y)) (fun m9 hm9 n9 t9 => ⟨by decide, hf m9 hm9 n9 t9⟩) (fun m9 D9 hm9 p9 r9 d9 t9 a9 b9 y9 l9 => ⟨by decide, hk m9 D9 hm9 p9 r9 d9 (fun p q => (t9 p q).trans (f1 336 p (by first | decide | exact fun z => absurd z.1 (by decide) | exact ⟨fun z => absurd z.1 (by decide), fun z => absurd z.1 (by decide)⟩ | omega))) a9 b9 y9 l9⟩)
  · have e1 := at1 hq sk1
    rw [e1] at x1 k1
    have ne : ¬ i = 0 := fun z => by rw [z] at wk; exact k1 wk
    have r1 := rd.same (fun p => f1 342 p (by first | decide | exact fun z => absurd z.1 (by decide) | exact ⟨fun z => absurd z.1 (by decide), fun z => absurd z.1 (by decide)⟩ | omega))
    have e01 := r1 0 (by decide) (by decide)
    refine g_ifT rfl ?_
    refine g_getr 7 342 rfl hS.k336 hm1.f_336_7 (by decide) ?_
    refine g_C ?_
    refine g_ldu hS.k342 hS.l342 (by omega) (by omega) (fun v ev => ?_)
    refine g_if (fun w => ?_) (fun w => ?_)
    · have D0 : ¬ D 0 = 0 := by omega
      have D2 : 2 ≤ D 0 := by omega
      have hF' : dFull D i → T (5 + 8 * u1) dz := fun z => hF (Or.inr (Or.inr z))
      have hL' : ¬ dFull D i → Ld b n T 1 i 0 (u1 + tl i) k D := fun z => hL (fun y => by rcases y with y | y | y; exact ne y.1; exact D0 y.2; exact z y)
      refine g_C ?_
      refine ⟨hS.k336, ?_⟩
      refine zx_isWord 1 hS hm1 ht (by omega) (by decide) w1.symm (fun q2 m2 hm2 f2 sk2 x2 qn2 k2 => ?_) (fun q2 m2 hm2 f2 sk2 x2 qn2 k2 => ?_)
      · have e2 := at1 x1 sk2
        rw [e2] at x2 k2
        have ei : i = 1 := by
          by_cases e : i = 1
          · exact e
          · by_cases e2 : 1 < i
            · exact absurd k2 (hn 1 e2)
            · exfalso
              exact ne (by omega)
        subst ei
        refine g_ifF (by decide) ?_
        exact ⟨hS.k336, zc_isRoadHere hS hm2 ht (r1.same (fun p => by rw [f2 342 p (by first | decide | exact fun z => absurd z.1 (by decide) | exact ⟨fun z => absurd z.1 (by decide), fun z => absurd z.1 (by decide)⟩ | omega)])) (by rw [f2 336 9 (by first | decide | exact fun z => absurd z.1 (by decide) | exact ⟨fun z => absurd z.1 (by decide), fun z => absurd z.1 (by decide)⟩ | omega), f1 336 9 (by first | decide | exact fun z => absurd z.1 (by decide) | exact ⟨fun z => absurd z.1 (by decide), fun z => absurd z.1 (by decide)⟩ | omega)]; exact h9) x2 h1 h1' wk (hp.same (fun p => by rw [f2 342 p (by first | decide | exact fun z => absurd z.1 (by decide) | exact ⟨fun z => absurd z.1 (by decide), fun z => absurd z.1 (by decide)⟩ | omega), f1 342 p (by first | decide | exact fun z => absurd z.1 (by decide) | exact ⟨fun z => absurd z.1 (by decide), fun z => absurd z.1 (by decide)⟩ | omega)])) D2 hF' hL' (fun m9 hm9 n9 t9 => ⟨by decide, hf m9 hm9 n9 t9⟩) (fun m9 D9 hm9 p9 r9 d9 t9 a9 b9 y9 l9 => ⟨by decide, hk m9 D9 hm9 p9 r9 d9 (fun p q => by rw [t9 p q, f2 336 p (by first | decide | exact fun z => absurd z.1 (by decide) | exact ⟨fun z => absurd z.1 (by decide), fun z => absurd z.1 (by decide)⟩ | omega), f1 336 p (by first | decide | exact fun z => absurd z.1 (by decide) | exact ⟨fun z => absurd z.1 (by decide), fun z => absurd z.1 (by decide)⟩ | omega)]) a9 b9 y9 l9⟩)⟩
      have e2 := at1 x1 sk2
      rw [e2] at x2 k2
      refine g_ifT rfl ?_
      refine g_C ?_
      refine ⟨hS.k336, ?_⟩
      refine zx_isWord 2 hS hm2 ht (by omega) (by decide) w2.symm (fun q3 m3 hm3 f3 sk3 x3 qn3 k3 => ?_) (fun q3 m3 hm3 f3 sk3 x3 qn3 k3 => ?_)
      · have e3 := at1 x2 sk3
        rw [e3] at x3 k3
        have ei : i = 2 := by
          by_cases e : i = 2
          · exact e
          · by_cases e2 : 2 < i
            · exact absurd k3 (hn 2 e2)
            · exfalso
              rcases (show i = 0 ∨ i = 1 by omega) with z | z
              · exact ne z
              · rw [z] at wk; exact k2 wk
        subst ei
        refine g_ifF (by decide) ?_
        exact ⟨hS.k336, zc_isHandHere hS hm3 ht (r1.same (fun p => by rw [f3 342 p (by first | decide | exact fun z => absurd z.1 (by decide) | exact ⟨fun z => absurd z.1 (by decide), fun z => absurd z.1 (by decide)⟩ | omega), f2 342 p (by first | decide | exact fun z => absurd z.1 (by decide) | exact ⟨fun z => absurd z.1 (by decide), fun z => absurd z.1 (by decide)⟩ | omega)])) (by rw [f3 336 9 (by first | decide | exact fun z => absurd z.1 (by decide) | exact ⟨fun z => absurd z.1 (by decide), fun z => absurd z.1 (by decide)⟩ | omega), f2 336 9 (by first | decide | exact fun z => absurd z.1 (by decide) | exact ⟨fun z => absurd z.1 (by decide), fun z => absurd z.1 (by decide)⟩ | omega), f1 336 9 (by first | decide | exact fun z => absurd z.1 (by decide) | exact ⟨fun z => absurd z.1 (by decide), fun z => absurd z.1 (by decide)⟩ | omega)]; exact h9) x3 h1 h1' wk (hp.same (fun p => by rw [f3 342 p (by first | decide | exact fun z => absurd z.1 (by decide) | exact ⟨fun z => absurd z.1 (by decide), fun z => absurd z.1 (by decide)⟩ | omega), f2 342 p (by first | decide | exact fun z => absurd z.1 (by decide) | exact ⟨fun z => absurd z.1 (by decide), fun z => absurd z.1 (by decide)⟩ | omega), f1 342 p (by first | decide | exact fun z => absurd z.1 (by decide) | exact ⟨fun z => absurd z.1 (by decide), fun z => absurd z.1 (by decide)⟩ | omega)])) D2 hF' hL' (fun m9 hm9 n9 t9 => ⟨by decide, hf m9 hm9 n9 t9⟩) (fun m9 D9 hm9 p9 r9 d9 t9 a9 b9 y9 l9 => ⟨by decide, hk m9 D9 hm9 p9 r9 d9 (fun p q => by rw [t9 p q, f3 336 p (by first | decide | exact fun z => absurd z.1 (by decide) | exact ⟨fun z => absurd z.1 (by decide), fun z => absurd z.1 (by decide)⟩ | omega), f2 336 p (by first | decide | exact fun z => absurd z.1 (by decide) | exact ⟨fun z => absurd z.1 (by decide), fun z => absurd z.1 (by decide)⟩ | omega), f1 336 p (by first | decide | exact fun z => absurd z.1 (by decide) | exact ⟨fun z => absurd z.1 (by decide), fun z => absurd z.1 (by decide)⟩ | omega)]) a9 b9 y9 l9⟩)⟩
      have e3 := at1 x2 sk3
      rw [e3] at x3 k3
      refine g_ifT rfl ?_
      refine g_C ?_
      refine ⟨hS.k336, ?_⟩
      refine zx_isWord 3 hS hm3 ht (by omega) (by decide) w3.symm (fun q4 m4 hm4 f4 sk4 x4 qn4 k4 => ?_) (fun q4 m4 hm4 f4 sk4 x4 qn4 k4 => ?_)
      · have e4 := at1 x3 sk4
        rw [e4] at x4 k4
        have ei : i = 3 := by
          by_cases e : i = 3
          · exact e
          · by_cases e2 : 3 < i
            · exact absurd k4 (hn 3 e2)
            · exfalso
              rcases (show i = 0 ∨ i = 1 ∨ i = 2 by omega) with z | z | z
              · exact ne z
              · rw [z] at wk; exact k2 wk
              · rw [z] at wk; exact k3 wk
        subst ei
        refine g_ifF (by decide) ?_
        exact ⟨hS.k336, zc_isJugHere hS hm4 ht (r1.same (fun p => by rw [f4 342 p (by first | decide | exact fun z => absurd z.1 (by decide) | exact ⟨fun z => absurd z.1 (by decide), fun z => absurd z.1 (by decide)⟩ | omega), f3 342 p (by first | decide | exact fun z => absurd z.1 (by decide) | exact ⟨fun z => absurd z.1 (by decide), fun z => absurd z.1 (by decide)⟩ | omega), f2 342 p (by first | decide | exact fun z => absurd z.1 (by decide) | exact ⟨fun z => absurd z.1 (by decide), fun z => absurd z.1 (by decide)⟩ | omega)])) (by rw [f4 336 9 (by first | decide | exact fun z => absurd z.1 (by decide) | exact ⟨fun z => absurd z.1 (by decide), fun z => absurd z.1 (by decide)⟩ | omega), f3 336 9 (by first | decide | exact fun z => absurd z.1 (by decide) | exact ⟨fun z => absurd z.1 (by decide), fun z => absurd z.1 (by decide)⟩ | omega), f2 336 9 (by first | decide | exact fun z => absurd z.1 (by decide) | exact ⟨fun z => absurd z.1 (by decide), fun z => absurd z.1 (by decide)⟩ | omega), f1 336 9 (by first | decide | exact fun z => absurd z.1 (by decide) | exact ⟨fun z => absurd z.1 (by decide), fun z => absurd z.1 (by decide)⟩ | omega)]; exact h9) x4 h1 h1' wk (hp.same (fun p => by rw [f4 342 p (by first | decide | exact fun z => absurd z.1 (by decide) | exact ⟨fun z => absurd z.1 (by decide), fun z => absurd z.1 (by decide)⟩ | omega), f3 342 p (by first | decide | exact fun z => absurd z.1 (by decide) | exact ⟨fun z => absurd z.1 (by decide), fun z => absurd z.1 (by decide)⟩ | omega), f2 342 p (by first | decide | exact fun z => absurd z.1 (by decide) | exact ⟨fun z => absurd z.1 (by decide), fun z => absurd z.1 (by decide)⟩ | omega), f1 342 p (by first | decide | exact fun z => absurd z.1 (by decide) | exact ⟨fun z => absurd z.1 (by decide), fun z => absurd z.1 (by decide)⟩ | omega)])) D2 hF' hL' (fun m9 hm9 n9 t9 => ⟨by decide, hf m9 hm9 n9 t9⟩) (fun m9 D9 hm9 p9 r9 d9 t9 a9 b9 y9 l9 => ⟨by decide, hk m9 D9 hm9 p9 r9 d9 (fun p q => by rw [t9 p q, f4 336 p (by first | decide | exact fun z => absurd z.1 (by decide) | exact ⟨fun z => absurd z.1 (by decide), fun z => absurd z.1 (by decide)⟩ | omega), f3 336 p (by first | decide | exact fun z => absurd z.1 (by decide) | exact ⟨fun z => absurd z.1 (by decide), fun z => absurd z.1 (by decide)⟩ | omega), f2 336 p (by first | decide | exact fun z => absurd z.1 (by decide) | exact ⟨fun z => absurd z.1 (by decide), fun z => absurd z.1 (by decide)⟩ | omega), f1 336 p (by first | decide | exact fun z => absurd z.1 (by decide) | exact ⟨fun z => absurd z.1 (by decide), fun z => absurd z.1 (by decide)⟩ | omega)]) a9 b9 y9 l9⟩)⟩
      have e4 := at1 x3 sk4
      rw [e4] at x4 k4
      refine g_ifT rfl ?_
      refine g_C ?_
      refine ⟨hS.k336, ?_⟩
      refine zx_isWord 4 hS hm4 ht (by omega) (by decide) w4.symm (fun q5 m5 hm5 f5 sk5 x5 qn5 k5 => ?_) (fun q5 m5 hm5 f5 sk5 x5 qn5 k5 => ?_)
      · have e5 := at1 x4 sk5
        rw [e5] at x5 k5
        have ei : i = 4 := by
          by_cases e : i = 4
          · exact e
          · by_cases e2 : 4 < i
            · exact absurd k5 (hn 4 e2)
            · exfalso
              rcases (show i = 0 ∨ i = 1 ∨ i = 2 ∨ i = 3 by omega) with z | z | z | z
              · exact ne z
              · rw [z] at wk; exact k2 wk
              · rw [z] at wk; exact k3 wk
              · rw [z] at wk; exact k4 wk
        subst ei
        refine g_ifF (by decide) ?_
        exact ⟨hS.k336, zc_isHeatHere hS hm5 ht (r1.same (fun p => by rw [f5 342 p (by first | decide | exact fun z => absurd z.1 (by decide) | exact ⟨fun z => absurd z.1 (by decide), fun z => absurd z.1 (by decide)⟩ | omega), f4 342 p (by first | decide | exact fun z => absurd z.1 (by decide) | exact ⟨fun z => absurd z.1 (by decide), fun z => absurd z.1 (by decide)⟩ | omega), f3 342 p (by first | decide | exact fun z => absurd z.1 (by decide) | exact ⟨fun z => absurd z.1 (by decide), fun z => absurd z.1 (by decide)⟩ | omega), f2 342 p (by first | decide | exact fun z => absurd z.1 (by decide) | exact ⟨fun z => absurd z.1 (by decide), fun z => absurd z.1 (by decide)⟩ | omega)])) (by rw [f5 336 9 (by first | decide | exact fun z => absurd z.1 (by decide) | exact ⟨fun z => absurd z.1 (by decide), fun z => absurd z.1 (by decide)⟩ | omega), f4 336 9 (by first | decide | exact fun z => absurd z.1 (by decide) | exact ⟨fun z => absurd z.1 (by decide), fun z => absurd z.1 (by decide)⟩ | omega), f3 336 9 (by first | decide | exact fun z => absurd z.1 (by decide) | exact ⟨fun z => absurd z.1 (by decide), fun z => absurd z.1 (by decide)⟩ | omega), f2 336 9 (by first | decide | exact fun z => absurd z.1 (by decide) | exact ⟨fun z => absurd z.1 (by decide), fun z => absurd z.1 (by decide)⟩ | omega), f1 336 9 (by first | decide | exact fun z => absurd z.1 (by decide) | exact ⟨fun z => absurd z.1 (by decide), fun z => absurd z.1 (by decide)⟩ | omega)]; exact h9) x5 h1 h1' wk (hp.same (fun p => by rw [f5 342 p (by first | decide | exact fun z => absurd z.1 (by decide) | exact ⟨fun z => absurd z.1 (by decide), fun z => absurd z.1 (by decide)⟩ | omega), f4 342 p (by first | decide | exact fun z => absurd z.1 (by decide) | exact ⟨fun z => absurd z.1 (by decide), fun z => absurd z.1 (by decide)⟩ | omega), f3 342 p (by first | decide | exact fun z => absurd z.1 (by decide) | exact ⟨fun z => absurd z.1 (by decide), fun z => absurd z.1 (by decide)⟩ | omega), f2 342 p (by first | decide | exact fun z => absurd z.1 (by decide) | exact ⟨fun z => absurd z.1 (by decide), fun z => absurd z.1 (by decide)⟩ | omega), f1 342 p (by first | decide | exact fun z => absurd z.1 (by decide) | exact ⟨fun z => absurd z.1 (by decide), fun z => absurd z.1 (by decide)⟩ | omega)])) D2 hF' hL' (fun m9 hm9 n9 t9 => ⟨by decide, hf m9 hm9 n9 t9⟩) (fun m9 D9 hm9 p9 r9 d9 t9 a9 b9 y9 l9 => ⟨by decide, hk m9 D9 hm9 p9 r9 d9 (fun p q => by rw [t9 p q, f5 336 p (by first | decide | exact fun z => absurd z.1 (by decide) | exact ⟨fun z => absurd z.1 (by decide), fun z => absurd z.1 (by decide)⟩ | omega), f4 336 p (by first | decide | exact fun z => absurd z.1 (by decide) | exact ⟨fun z => absurd z.1 (by decide), fun z => absurd z.1 (by decide)⟩ | omega), f3 336 p (by first | decide | exact fun z => absurd z.1 (by decide) | exact ⟨fun z => absurd z.1 (by decide), fun z => absurd z.1 (by decide)⟩ | omega), f2 336 p (by first | decide | exact fun z => absurd z.1 (by decide) | exact ⟨fun z => absurd z.1 (by decide), fun z => absurd z.1 (by decide)⟩ | omega), f1 336 p (by first | decide | exact fun z => absurd z.1 (by decide) | exact ⟨fun z => absurd z.1 (by decide), fun z => absurd z.1 (by decide)⟩ | omega)]) a9 b9 y9 l9⟩)⟩
      have e5 := at1 x4 sk5
      rw [e5] at x5 k5
      refine g_ifT rfl ?_
      have ei : i = 5 := by
        by_cases e : i = 5
        · exact e
        · exfalso
          rcases (show i = 0 ∨ i = 1 ∨ i = 2 ∨ i = 3 ∨ i = 4 by omega) with z | z | z | z | z
          · exact ne z
          · rw [z] at wk; exact k2 wk
          · rw [z] at wk; exact k3 wk
          · rw [z] at wk; exact k4 wk
          · rw [z] at wk; exact k5 wk
      subst ei
      exact ⟨hS.k336, zc_isWantHere hS hm5 ht (r1.same (fun p => by rw [f5 342 p (by first | decide | exact fun z => absurd z.1 (by decide) | exact ⟨fun z => absurd z.1 (by decide), fun z => absurd z.1 (by decide)⟩ | omega), f4 342 p (by first | decide | exact fun z => absurd z.1 (by decide) | exact ⟨fun z => absurd z.1 (by decide), fun z => absurd z.1 (by decide)⟩ | omega), f3 342 p (by first | decide | exact fun z => absurd z.1 (by decide) | exact ⟨fun z => absurd z.1 (by decide), fun z => absurd z.1 (by decide)⟩ | omega), f2 342 p (by first | decide | exact fun z => absurd z.1 (by decide) | exact ⟨fun z => absurd z.1 (by decide), fun z => absurd z.1 (by decide)⟩ | omega)])) (by rw [f5 336 9 (by first | decide | exact fun z => absurd z.1 (by decide) | exact ⟨fun z => absurd z.1 (by decide), fun z => absurd z.1 (by decide)⟩ | omega), f4 336 9 (by first | decide | exact fun z => absurd z.1 (by decide) | exact ⟨fun z => absurd z.1 (by decide), fun z => absurd z.1 (by decide)⟩ | omega), f3 336 9 (by first | decide | exact fun z => absurd z.1 (by decide) | exact ⟨fun z => absurd z.1 (by decide), fun z => absurd z.1 (by decide)⟩ | omega), f2 336 9 (by first | decide | exact fun z => absurd z.1 (by decide) | exact ⟨fun z => absurd z.1 (by decide), fun z => absurd z.1 (by decide)⟩ | omega), f1 336 9 (by first | decide | exact fun z => absurd z.1 (by decide) | exact ⟨fun z => absurd z.1 (by decide), fun z => absurd z.1 (by decide)⟩ | omega)]; exact h9) x5 h1 h1' wk (hp.same (fun p => by rw [f5 342 p (by first | decide | exact fun z => absurd z.1 (by decide) | exact ⟨fun z => absurd z.1 (by decide), fun z => absurd z.1 (by decide)⟩ | omega), f4 342 p (by first | decide | exact fun z => absurd z.1 (by decide) | exact ⟨fun z => absurd z.1 (by decide), fun z => absurd z.1 (by decide)⟩ | omega), f3 342 p (by first | decide | exact fun z => absurd z.1 (by decide) | exact ⟨fun z => absurd z.1 (by decide), fun z => absurd z.1 (by decide)⟩ | omega), f2 342 p (by first | decide | exact fun z => absurd z.1 (by decide) | exact ⟨fun z => absurd z.1 (by decide), fun z => absurd z.1 (by decide)⟩ | omega), f1 342 p (by first | decide | exact fun z => absurd z.1 (by decide) | exact ⟨fun z => absurd z.1 (by decide), fun z => absurd z.1 (by decide)⟩ | omega)])) D2 hF' hL' (fun m9 hm9 n9 t9 => ⟨by decide, hf m9 hm9 n9 t9⟩) (fun m9 D9 hm9 p9 r9 d9 t9 a9 b9 y9 l9 => ⟨by decide, hk m9 D9 hm9 p9 r9 d9 (fun p q => by rw [t9 p q, f5 336 p (by first | decide | exact fun z => absurd z.1 (by decide) | exact ⟨fun z => absurd z.1 (by decide), fun z => absurd z.1 (by decide)⟩ | omega), f4 336 p (by first | decide | exact fun z => absurd z.1 (by decide) | exact ⟨fun z => absurd z.1 (by decide), fun z => absurd z.1 (by decide)⟩ | omega), f3 336 p (by first | decide | exact fun z => absurd z.1 (by decide) | exact ⟨fun z => absurd z.1 (by decide), fun z => absurd z.1 (by decide)⟩ | omega), f2 336 p (by first | decide | exact fun z => absurd z.1 (by decide) | exact ⟨fun z => absurd z.1 (by decide), fun z => absurd z.1 (by decide)⟩ | omega), f1 336 p (by first | decide | exact fun z => absurd z.1 (by decide) | exact ⟨fun z => absurd z.1 (by decide), fun z => absurd z.1 (by decide)⟩ | omega)]) a9 b9 y9 l9⟩)⟩
    · refine g_C ?_
      refine ⟨hS.k336, ?_⟩
      refine zx_fails hS hm1 ((f1 336 9 (by first | decide | exact fun z => absurd z.1 (by decide) | exact ⟨fun z => absurd z.1 (by decide), fun z => absurd z.1 (by decide)⟩ | omega)).trans h9) (by decide) (by decide) (by omega) (by omega) (fun m9 hm9 f9 y9 => ?_)
      refine ⟨by decide, hf m9 hm9 (by omega) ?_⟩
      rw [y9, show 1 + 8 * u1 + 4 = 5 + 8 * u1 by omega]
      exact hF (Or.inr (Or.inl ⟨ne, by omega⟩))
theorem zc_clause {X : Mm} {S : Sh} {m0 : Mm} {K : Int → Mm → Prop} {b : Int → Int} {n k : Int} {T : Int → Dd → Prop} {D : Dd} (hS : Shp S) (hm0 : Inv X S m0) (ht : TR X b n) (rd : Rd D m0) (h9 : m0 336 9 = 0) (h8 : m0 336 8 ≤ n) (hp : PR m0) (t6 : m0 336 11 = 6) (hl : m0 336 14 = k) (k0 : 0 ≤ k) (k1 : k ≤ 40) (d0 : D 0 = 0 ∨ 2 ≤ D 0) (l : Ld b n T 0 0 0 (m0 336 8) k D) (hf : ∀ M1 : Mm, Inv X S M1 → ¬ M1 336 9 = 0 → T (M1 336 9) dz → K 0 M1) (hk : ∀ (M1 : Mm) (D' : Dd), Inv X S M1 → PR M1 → Rd D' M1 → 2 ≤ D' 0 → M1 336 11 = 6 → M1 336 14 = k + 1 → k + 1 ≤ 40 → m0 336 8 ≤ M1 336 8 → M1 336 8 ≤ n → M1 336 9 = 0 → Ld b n T 2 0 0 (M1 336 8) (k + 1) D' → K 1 M1) : wp_X12_clauseHere S m0 336 K := by
  have nb := ht.2.1
  have b80 := hm0.f_336_8
  refine u_X12_clauseHere ?_
  refine ⟨hS.k336, ?_⟩
  refine zx_see hS hm0 ht h8 (fun r1 q m1 hm1 f1 sk x1 hq _ => ?_)
  have sk1 := sk.1
  have p1 : PR m1 := hp.same (fun p => f1 342 p (by first | decide | exact fun z => absurd z.1 (by decide) | exact ⟨fun z => absurd z.1 (by decide), fun z => absurd z.1 (by decide)⟩ | omega))
  have t1 : m1 336 11 = 6 := (f1 336 11 (by first | decide | exact fun z => absurd z.1 (by decide) | exact ⟨fun z => absurd z.1 (by decide), fun z => absurd z.1 (by decide)⟩ | omega)).trans t6
  have y1 : m1 336 9 = 0 := (f1 336 9 (by first | decide | exact fun z => absurd z.1 (by decide) | exact ⟨fun z => absurd z.1 (by decide), fun z => absurd z.1 (by decide)⟩ | omega)).trans h9
  have R1 : Rd D m1 := rd.same (fun p => f1 342 p (by first | decide | exact fun z => absurd z.1 (by decide) | exact ⟨fun z => absurd z.1 (by decide), fun z => absurd z.1 (by decide)⟩ | omega))
  refine g_getu 8 rfl hS.k336 (fun v ev => ?_)
  have evq : v = q := by omega
  subst evq
  refine g_getu 11 rfl hS.k336 (fun t et => ?_)
  refine g_C ?_
  refine g_ifF (by first | decide | omega) ?_
  refine g_C ?_
  refine u_X12_clauseHere_24 ?_
  refine g_ifF (by decide) ?_
  refine ⟨hS.k336, ?_⟩
  refine zc_isDairyWord hS hm1 ht x1 hq sk.idem (fun i m2 hi hn wk hm2 f2 x2 => ?_) (fun m2 hn hm2 f2 x2 => ?_)
  · have p2 : PR m2 := p1.same (fun p => f2 342 p (by first | decide | exact fun z => absurd z.1 (by decide) | exact ⟨fun z => absurd z.1 (by decide), fun z => absurd z.1 (by decide)⟩ | omega))
    have t2 : m2 336 11 = 6 := (f2 336 11 (by first | decide | exact fun z => absurd z.1 (by decide) | exact ⟨fun z => absurd z.1 (by decide), fun z => absurd z.1 (by decide)⟩ | omega)).trans t1
    have y2 : m2 336 9 = 0 := (f2 336 9 (by first | decide | exact fun z => absurd z.1 (by decide) | exact ⟨fun z => absurd z.1 (by decide), fun z => absurd z.1 (by decide)⟩ | omega)).trans y1
    have R2 : Rd D m2 := R1.same (fun p => f2 342 p (by first | decide | exact fun z => absurd z.1 (by decide) | exact ⟨fun z => absurd z.1 (by decide), fun z => absurd z.1 (by decide)⟩ | omega))
    have l14 : m2 336 14 = k := by rw [f2 336 14 (by first | decide | exact fun z => absurd z.1 (by decide) | exact ⟨fun z => absurd z.1 (by decide), fun z => absurd z.1 (by decide)⟩ | omega), f1 336 14 (by first | decide | exact fun z => absurd z.1 (by decide) | exact ⟨fun z => absurd z.1 (by decide), fun z => absurd z.1 (by decide)⟩ | omega)]; exact hl
    refine g_ifT (by decide) ?_
    refine u_X12_clauseHere_56 ?_
    refine g_getu 14 rfl hS.k336 (fun l1 el => ?_)
    refine g_ifF (by decide) ?_
    refine g_C ?_
    refine u_X12_clauseHere_71 ?_
    refine g_if (fun w2 => ?_) (fun w2 => ?_)
    · have k39 : k + 1 ≤ 40 := by omega
      refine g_getu 14 rfl hS.k336 (fun l2 el2 => ?_)
      refine g_C ?_
      refine g_A (by omega) (by omega) ?_
      refine g_put 14 rfl hS.k336 (hm2.w_336_14 (by omega) (by omega)) (fun m3 e3 hm3 => ?_)
      have f3 : ∀ c p : Int, ¬ (c = 336 ∧ p = 14) → m3 c p = m2 c p := fun c p q => (congrFun (congrFun e3 _) _).trans (up_ne q)
      have x3 : m3 336 14 = l2 + 1 := (congrFun (congrFun e3 _) _).trans (up_at _ _ _ _)
      have n40 : ¬ k = 40 := by omega
      refine g_ifF (by decide) ?_
      refine ⟨hS.k336, ?_⟩
      exact zc_line i hi hS hm3 ht (R2.same (fun p => f3 342 p (by first | decide | exact fun z => absurd z.1 (by decide) | exact ⟨fun z => absurd z.1 (by decide), fun z => absurd z.1 (by decide)⟩ | omega))) ((f3 336 9 (by first | decide | exact fun z => absurd z.1 (by decide) | exact ⟨fun z => absurd z.1 (by decide), fun z => absurd z.1 (by decide)⟩ | omega)).trans y2) ((f3 336 8 (by first | decide | exact fun z => absurd z.1 (by decide) | exact ⟨fun z => absurd z.1 (by decide), fun z => absurd z.1 (by decide)⟩ | omega)).trans x2) (by omega) hq sk.idem hn wk (p2.same (fun p => f3 342 p (by first | decide | exact fun z => absurd z.1 (by decide) | exact ⟨fun z => absurd z.1 (by decide), fun z => absurd z.1 (by decide)⟩ | omega))) d0 (fun z => l.full sk i hi hn wk (Or.inr z)) (fun z => l.go sk i hi hn wk (fun y => by rcases y with y | y; exact n40 y; exact z y)) (fun m9 hm9 n9 t9 => ⟨by decide, hf m9 hm9 n9 t9⟩) (fun m9 D9 hm9 p9 r9 d9 t9 a9 b9 y9 l9 => ⟨by decide, hk m9 D9 hm9 p9 r9 d9 (by rw [t9 11 (by decide), f3 336 11 (by first | decide | exact fun z => absurd z.1 (by decide) | exact ⟨fun z => absurd z.1 (by decide), fun z => absurd z.1 (by decide)⟩ | omega)]; exact t2) (by rw [t9 14 (by decide), x3]; omega) k39 (by omega) b9 y9 l9⟩)
    · refine g_C ?_
      refine ⟨hS.k336, ?_⟩
      refine zx_fails hS hm2 y2 (by decide) (by decide) (by omega) (by omega) (fun m9 hm9 f9 y9 => ?_)
      refine ⟨by decide, hf m9 hm9 (by omega) ?_⟩
      rw [y9, show 1 + 8 * v + 4 = 5 + 8 * v by omega]
      exact l.full sk i hi hn wk (Or.inl (by omega))
  · refine g_ifF (by decide) ?_
    refine u_X12_clauseHere_49 ?_
    refine g_C ?_
    refine ⟨hS.k336, ?_⟩
    refine zx_fails hS hm2 ((f2 336 9 (by first | decide | exact fun z => absurd z.1 (by decide) | exact ⟨fun z => absurd z.1 (by decide), fun z => absurd z.1 (by decide)⟩ | omega)).trans y1) (by decide) (by decide) (by omega) (by omega) (fun m9 hm9 f9 y9 => ?_)
    refine ⟨by decide, hf m9 hm9 (by omega) ?_⟩
    rw [y9, show 1 + 8 * v + 0 = 1 + 8 * v by omega]
    exact l.none sk hn
theorem zc_readsAll {X : Mm} {S : Sh} {m0 : Mm} {K : Int → Mm → Prop} {b : Int → Int} {n : Int} {T : Int → Dd → Prop} {D : Dd} (hS : Shp S) (hm0 : Inv X S m0) (ht : TR X b n) (t6 : m0 336 11 = 6) (rd : Rd D m0) (hp : PR m0) (d0 : D 0 = 0) (hT : ∀ (f : Int) (E : Dd), DA b n 0 0 0 0 0 D f E → T f E) (hf : ∀ M1 : Mm, Inv X S M1 → ¬ M1 336 9 = 0 → T (M1 336 9) dz → K 0 (up M1 336 1 0)) (hk : ∀ (M1 : Mm) (D' : Dd), Inv X S M1 → PR M1 → Rd D' M1 → T 0 D' → K 1 (up M1 336 1 0)) : wp_X12_readsAll S m0 336 K := by
  have nb := ht.2.1
  have fin : ∀ m : Mm, Inv X S m → ((¬ m 336 9 = 0 ∧ T (m 336 9) dz) ∨ (m 336 9 = 0 ∧ PR m ∧ ∃ D' : Dd, Rd D' m ∧ T 0 D')) → wp_X12_readsAll_88 S K 336 m := by
    intro m hm hh
    refine u_X12_readsAll_88 ?_
    refine g_C ?_
    refine g_putR 1 rfl hS.k336 (fun m1 e1 => ?_)
    refine g_getu 9 rfl hS.k336 (fun v ev => ?_)
    rw [e1] at ev
    have ev' : v = m 336 9 := ev.trans (up_ne (by omega))
    rw [e1]
    rcases hh with ⟨a1, a2⟩ | ⟨a1, a2, D', a3, a4⟩
    · exact g_ifT (by first | decide | omega) (g_C ⟨by decide, hf m hm a1 a2⟩)
    · exact g_ifF (by first | decide | omega) (g_C ⟨by decide, hk m D' hm a2 a3 a4⟩)
  have L : ∀ (N : Nat) (u k : Int) (m : Mm), Inv X S m → ((u = 0 ∧ (¬ m 336 9 = 0 ∧ T (m 336 9) dz) ∧ 1 ≤ N) ∨ (u = 1 ∧ (m 336 9 = 0 ∧ PR m ∧ m 336 11 = 6 ∧ m 336 14 = k ∧ 0 ≤ k ∧ k ≤ 40 ∧ m 336 8 ≤ n ∧ ∃ D' : Dd, Rd D' m ∧ 2 ≤ D' 0 ∧ Ld b n T 2 0 0 (m 336 8) k D') ∧ 402 - m 336 8 ≤ (N : Int))) → wp_X12_readsAll_35 S K N 336 u m := by
    intro N
    induction N with
    | zero =>
      intro u k m hm h
      have b8 := hm.f_336_8
      exfalso
      rcases h with h | h
      · exact absurd h.2.2 (by decide)
      · have := h.2.2; omega
    | succ N ih =>
      intro u k m hm h
      refine u_X12_readsAll_35 ?_
      rcases h with ⟨h1, h2, h3⟩ | ⟨h1, ⟨z9, zp, z11, z14, k0, k1, z8, D', rd', d2, ls⟩, h3⟩
      · refine g_ifT h1 ?_
        refine u_X12_readsAll_66 ?_
        refine g_ifT h1 ?_
        exact fin m hm (Or.inl h2)
      · refine g_ifF (by first | decide | omega) ?_
        have b80 := hm.f_336_8
        refine ⟨hS.k336, ?_⟩
        refine zx_see hS hm ht z8 (fun r1 q m1 hm1 f1 sk e1 qn y1 => ?_)
        have sk1 := sk.1
        have q0 : 0 ≤ q := by omega
        have p1 : PR m1 := zp.same (fun p => f1 342 p (by first | decide | exact fun z => absurd z.1 (by decide) | exact ⟨fun z => absurd z.1 (by decide), fun z => absurd z.1 (by decide)⟩ | omega))
        have R1 : Rd D' m1 := rd'.same (fun p => f1 342 p (by first | decide | exact fun z => absurd z.1 (by decide) | exact ⟨fun z => absurd z.1 (by decide), fun z => absurd z.1 (by decide)⟩ | omega))
        have w9 : m1 336 9 = 0 := (f1 336 9 (by first | decide | exact fun z => absurd z.1 (by decide) | exact ⟨fun z => absurd z.1 (by decide), fun z => absurd z.1 (by decide)⟩ | omega)).trans z9
        have c59 := u8_is ht (v := 59) q0 y1 (by decide) (by decide)
        refine g_C ?_
        refine g_if (fun w => ?_) (fun w => ?_)
        · have n59 : ¬ (q < n ∧ b q = 59) := fun z => by have := c59.2 z; omega
          refine u_X12_readsAll_66 ?_
          refine g_ifF (by first | decide | omega) ?_
          refine ⟨hS.k336, ?_⟩
          refine zx_see hS hm1 ht (by omega) (fun r2 q2 m2 hm2 f2 sk2 e2 qn2 y2 => ?_)
          have eq : q = q2 := by rw [e1] at sk2; exact sk.idem.uniq sk2
          rw [← eq] at e2 y2
          have p2 : PR m2 := p1.same (fun p => f2 342 p (by first | decide | exact fun z => absurd z.1 (by decide) | exact ⟨fun z => absurd z.1 (by decide), fun z => absurd z.1 (by decide)⟩ | omega))
          have R2 : Rd D' m2 := R1.same (fun p => f2 342 p (by first | decide | exact fun z => absurd z.1 (by decide) | exact ⟨fun z => absurd z.1 (by decide), fun z => absurd z.1 (by decide)⟩ | omega))
          have v9 : m2 336 9 = 0 := (f2 336 9 (by first | decide | exact fun z => absurd z.1 (by decide) | exact ⟨fun z => absurd z.1 (by decide), fun z => absurd z.1 (by decide)⟩ | omega)).trans w9
          have rr : r2 = -1 ↔ n ≤ q := by
            rcases y2 with ⟨z1, z2⟩ | ⟨z1, z2⟩
            · have zb := ht.2.2 q q0 z1
              have zu := u8_r zb.2.1 zb.2.2
              exact ⟨fun y => by omega, fun y => by omega⟩
            · exact ⟨fun _ => z1, fun _ => z2⟩
          refine g_C ?_
          refine g_if (fun w2 => fin m2 hm2 (Or.inr ⟨v9, p2, D', R2, ls.stop sk (rr.1 (by omega))⟩)) (fun w2 => ?_)
          have nq : ¬ n ≤ q := fun z => by have := rr.2 z; omega
          refine g_C ?_
          refine g_getu 8 rfl hS.k336 (fun v ev => ?_)
          rw [show v = q by omega]
          refine ⟨hS.k336, ?_⟩
          refine zx_fails hS hm2 v9 (by decide) (by decide) q0 (by omega) (fun m3 hm3 f3 e9 => ?_)
          refine fin m3 hm3 (Or.inl ⟨by omega, ?_⟩)
          rw [e9, show 1 + 8 * q + 0 = 1 + 8 * q by omega]
          exact ls.odd sk nq (fun z => n59 ⟨by omega, z⟩)
        · have y59 := c59.1 (by omega)
          have y59a := y59.1
          refine g_getu 8 rfl hS.k336 (fun v ev => ?_)
          refine g_C ?_
          refine g_A (by omega) (by omega) ?_
          refine g_put 8 rfl hS.k336 (hm1.w_336_8 (by omega) (by omega)) (fun m2 e2 hm2 => ?_)
          have f2 : ∀ c p : Int, ¬ (c = 336 ∧ p = 8) → m2 c p = m1 c p := fun c p q => (congrFun (congrFun e2 _) _).trans (up_ne q)
          have x2 : m2 336 8 = v + 1 := (congrFun (congrFun e2 _) _).trans (up_at _ _ _ _)
          have x2' : m2 336 8 = q + 1 := by omega
          have l2 := ls.more sk (by omega) y59.2
          rw [← x2'] at l2
          refine ⟨hS.k336, ?_⟩
          refine zc_clause hS hm2 ht (R1.same (fun p => f2 342 p (by first | decide | exact fun z => absurd z.1 (by decide) | exact ⟨fun z => absurd z.1 (by decide), fun z => absurd z.1 (by decide)⟩ | omega))) ((f2 336 9 (by first | decide | exact fun z => absurd z.1 (by decide) | exact ⟨fun z => absurd z.1 (by decide), fun z => absurd z.1 (by decide)⟩ | omega)).trans w9) (by omega) (p1.same (fun p => f2 342 p (by first | decide | exact fun z => absurd z.1 (by decide) | exact ⟨fun z => absurd z.1 (by decide), fun z => absurd z.1 (by decide)⟩ | omega))) (by rw [f2 336 11 (by first | decide | exact fun z => absurd z.1 (by decide) | exact ⟨fun z => absurd z.1 (by decide), fun z => absurd z.1 (by decide)⟩ | omega), f1 336 11 (by first | decide | exact fun z => absurd z.1 (by decide) | exact ⟨fun z => absurd z.1 (by decide), fun z => absurd z.1 (by decide)⟩ | omega)]; exact z11) (by rw [f2 336 14 (by first | decide | exact fun z => absurd z.1 (by decide) | exact ⟨fun z => absurd z.1 (by decide), fun z => absurd z.1 (by decide)⟩ | omega), f1 336 14 (by first | decide | exact fun z => absurd z.1 (by decide) | exact ⟨fun z => absurd z.1 (by decide), fun z => absurd z.1 (by decide)⟩ | omega)]; exact z14) k0 k1 (Or.inr d2) l2 (fun m3 hm3 n3 t3 => ?_) (fun m3 D3 hm3 p3 r3 d3 a3 b3 c3 e3 g3 i3 l3 => ?_)
          · exact ih 0 k m3 hm3 (Or.inl ⟨rfl, ⟨n3, t3⟩, by omega⟩)
          · exact ih 1 (k + 1) m3 hm3 (Or.inr ⟨rfl, ⟨i3, p3, a3, b3, by omega, c3, g3, D3, r3, d3, l3⟩, by omega⟩)
  refine u_X12_readsAll ?_
  refine g_getr 4 339 rfl hS.k336 hm0.f_336_4 (by decide) ?_
  refine g_getu 11 rfl hS.k336 (fun t et => ?_)
  refine g_C ?_
  refine g_st hS.k339 hS.l339 (by omega) (by omega) (hm0.wa_339 (by omega) (by omega) (by omega) (by omega)) (fun m1 e1 hm1 => ?_)
  refine g_C ?_
  refine g_put 14 rfl hS.k336 (hm1.w_336_14 (by omega) (by omega)) (fun m2 e2 hm2 => ?_)
  refine g_C ?_
  refine g_put 8 rfl hS.k336 (hm2.w_336_8 (by omega) (by omega)) (fun m3 e3 hm3 => ?_)
  refine g_C ?_
  refine g_put 9 rfl hS.k336 (hm3.w_336_9 (by omega) (by omega)) (fun m4 e4 hm4 => ?_)
  refine g_C ?_
  refine g_put 12 rfl hS.k336 (hm4.w_336_12 (by omega) (by omega)) (fun m5 e5 hm5 => ?_)
  have f1 : ∀ c p : Int, ¬ (c = 339 ∧ p = t) → m1 c p = m0 c p := fun c p q => (congrFun (congrFun e1 _) _).trans (up_ne q)
  have f2 : ∀ c p : Int, ¬ (c = 336 ∧ p = 14) → m2 c p = m1 c p := fun c p q => (congrFun (congrFun e2 _) _).trans (up_ne q)
  have x2 : m2 336 14 = 0 := (congrFun (congrFun e2 _) _).trans (up_at _ _ _ _)
  have f3 : ∀ c p : Int, ¬ (c = 336 ∧ p = 8) → m3 c p = m2 c p := fun c p q => (congrFun (congrFun e3 _) _).trans (up_ne q)
  have x3 : m3 336 8 = 0 := (congrFun (congrFun e3 _) _).trans (up_at _ _ _ _)
  have f4 : ∀ c p : Int, ¬ (c = 336 ∧ p = 9) → m4 c p = m3 c p := fun c p q => (congrFun (congrFun e4 _) _).trans (up_ne q)
  have x4 : m4 336 9 = 0 := (congrFun (congrFun e4 _) _).trans (up_at _ _ _ _)
  have f5 : ∀ c p : Int, ¬ (c = 336 ∧ p = 12) → m5 c p = m4 c p := fun c p q => (congrFun (congrFun e5 _) _).trans (up_ne q)
  have F : ∀ c p : Int, ¬ (c = 336 ∧ (p = 14 ∨ p = 8 ∨ p = 9 ∨ p = 12)) → m5 c p = m1 c p := fun c p q => by rw [f5 c p (by first | exact fun y => absurd (y.1 ▸ z) (by decide) | exact fun y => absurd (y.1 ▸ q) (by decide) | exact z | exact q | exact z.1 | exact q.1 | exact z.2 | exact q.2 | omega), f4 c p (by first | exact fun y => absurd (y.1 ▸ z) (by decide) | exact fun y => absurd (y.1 ▸ q) (by decide) | exact z | exact q | exact z.1 | exact q.1 | exact z.2 | exact q.2 | omega), f3 c p (by first | exact fun y => absurd (y.1 ▸ z) (by decide) | exact fun y => absurd (y.1 ▸ q) (by decide) | exact z | exact q | exact z.1 | exact q.1 | exact z.2 | exact q.2 | omega), f2 c p (by first | exact fun y => absurd (y.1 ▸ z) (by decide) | exact fun y => absurd (y.1 ▸ q) (by decide) | exact z | exact q | exact z.1 | exact q.1 | exact z.2 | exact q.2 | omega)]
  have z14 : m5 336 14 = 0 := by rw [f5 336 14 (by first | decide | exact fun z => absurd z.1 (by decide) | exact ⟨fun z => absurd z.1 (by decide), fun z => absurd z.1 (by decide)⟩ | omega), f4 336 14 (by first | decide | exact fun z => absurd z.1 (by decide) | exact ⟨fun z => absurd z.1 (by decide), fun z => absurd z.1 (by decide)⟩ | omega), f3 336 14 (by first | decide | exact fun z => absurd z.1 (by decide) | exact ⟨fun z => absurd z.1 (by decide), fun z => absurd z.1 (by decide)⟩ | omega), x2]
  have z8 : m5 336 8 = 0 := by rw [f5 336 8 (by first | decide | exact fun z => absurd z.1 (by decide) | exact ⟨fun z => absurd z.1 (by decide), fun z => absurd z.1 (by decide)⟩ | omega), f4 336 8 (by first | decide | exact fun z => absurd z.1 (by decide) | exact ⟨fun z => absurd z.1 (by decide), fun z => absurd z.1 (by decide)⟩ | omega), x3]
  have z9 : m5 336 9 = 0 := by rw [f5 336 9 (by first | decide | exact fun z => absurd z.1 (by decide) | exact ⟨fun z => absurd z.1 (by decide), fun z => absurd z.1 (by decide)⟩ | omega), x4]
  have G : ∀ p : Int, m5 342 p = m0 342 p := fun p => by rw [F 342 p (by first | decide | exact fun z => absurd z.1 (by decide) | exact ⟨fun z => absurd z.1 (by decide), fun z => absurd z.1 (by decide)⟩ | omega), f1 342 p (by first | decide | exact fun z => absurd z.1 (by decide) | exact ⟨fun z => absurd z.1 (by decide), fun z => absurd z.1 (by decide)⟩ | omega)]
  refine ⟨hS.k336, ?_⟩
  refine zc_clause hS hm5 ht (rd.same G) z9 (by omega) (hp.same G) (by rw [F 336 11 (by first | decide | exact fun z => absurd z.1 (by decide) | exact ⟨fun z => absurd z.1 (by decide), fun z => absurd z.1 (by decide)⟩ | omega), f1 336 11 (by first | decide | exact fun z => absurd z.1 (by decide) | exact ⟨fun z => absurd z.1 (by decide), fun z => absurd z.1 (by decide)⟩ | omega)]; exact t6) z14 (by decide) (by decide) (Or.inl d0) (by rw [z8]; exact hT) (fun m6 hm6 n6 t6 => ?_) (fun m6 D6 hm6 p6 r6 d6 a6 b6 c6 e6 g6 i6 l6 => ?_)
  · exact ⟨402, L 402 0 0 m6 hm6 (Or.inl ⟨rfl, ⟨n6, t6⟩, by decide⟩)⟩
  · have b86 := hm6.f_336_8
    exact ⟨402, L 402 1 (0 + 1) m6 hm6 (Or.inr ⟨rfl, ⟨i6, p6, a6, b6, by decide, by decide, g6, D6, r6, d6, l6⟩, by omega⟩)⟩
end
section
/-! what the class's reader holds, beside what was told -/
def LAh (D : Dd) (M : Mm) : Prop := ∀ i : Int, 0 ≤ i → i < D 4 → M 45 i = D (10 + 5 * i) ∧ M 35 i = D (10 + 5 * i + 3) ∧ M 36 i = D (10 + 5 * i + 4)
def LAj (D : Dd) (M : Mm) : Prop := ∀ i : Int, 0 ≤ i → i < D 5 → M 48 i = D (35 + 4 * i) ∧ M 50 i = D (35 + 4 * i + 2)
def LAt (D : Dd) (M : Mm) : Prop := ∀ i : Int, 0 ≤ i → i < D 9 → M 37 i = D (81 + 3 * i) ∧ M 38 i = D (81 + 3 * i + 1) ∧ M 39 i = D (81 + 3 * i + 2)
def LAw (D : Dd) (M : Mm) : Prop := ∀ i : Int, 0 ≤ i → i < D 6 → M 40 i = D (93 + 4 * i) ∧ M 41 i = D (93 + 4 * i + 1) ∧ M 42 i = D (93 + 4 * i + 2) ∧ M 43 i = D (93 + 4 * i + 3)
/-- the ROAD's HOURS between two PLACES, 0 if there is none -/
def LAr (D : Dd) (M : Mm) : Prop := ∀ a c : Int, 0 ≤ a → a ≤ 5 → 0 ≤ c → c ≤ 5 → (M 33 (6 * a + c) = 0 ∧ ¬ Rt D a c) ∨ (1 ≤ M 33 (6 * a + c) ∧ ∃ k : Int, 0 ≤ k ∧ k < D 3 ∧ ((D (57 + 3 * k) = a ∧ D (57 + 3 * k + 1) = c) ∨ (D (57 + 3 * k) = c ∧ D (57 + 3 * k + 1) = a)) ∧ M 33 (6 * a + c) = D (57 + 3 * k + 2))
def LAc (D : Dd) (M : Mm) : Prop := M 32 0 = D 0 ∧ M 32 1 = D 1 ∧ M 32 2 = D 2 ∧ M 32 3 = D 3 ∧ M 32 4 = D 4 ∧ M 32 5 = D 5 ∧ M 32 6 = D 9 ∧ M 32 7 = D 6
/-- what a STATE holds beside what is told: all at its begin -/
def LAs (D : Dd) (M : Mm) : Prop := (M 44 0 = 0 ∧ M 44 1 = 0) ∧ (∀ i : Int, 0 ≤ i → i < 5 → M 46 i = 0 ∧ M 47 i = 0) ∧ (∀ i : Int, 0 ≤ i → i < 4 → M 49 i = -1) ∧ (∀ i : Int, 0 ≤ i → i < 6 → M 51 i = -1) ∧ (∀ i : Int, 0 ≤ i → D 5 ≤ i → i < 4 → M 48 i = -1)
def LC (D : Dd) (M : Mm) : Prop := LAc D M ∧ LAr D M ∧ LAh D M ∧ LAj D M ∧ LAt D M ∧ LAw D M ∧ LAs D M
theorem LAs.keep {D D' : Dd} {M M' : Mm} (h : LAs D M) (f : ∀ c p : Int, (c = 44 ∨ c = 46 ∨ c = 47 ∨ c = 49 ∨ c = 51) → M' c p = M c p) (g : ∀ i : Int, 0 ≤ i → D' 5 ≤ i → M' 48 i = M 48 i) (hD : D 5 ≤ D' 5) : LAs D' M' := by
  obtain ⟨⟨a1, a2⟩, b, c, d, e⟩ := h
  refine ⟨⟨by rw [f 44 0 (by first | decide | exact fun z => absurd z.1 (by decide) | exact ⟨fun z => absurd z.1 (by decide), fun z => absurd z.1 (by decide)⟩ | omega)]; exact a1, by rw [f 44 1 (by first | decide | exact fun z => absurd z.1 (by decide) | exact ⟨fun z => absurd z.1 (by decide), fun z => absurd z.1 (by decide)⟩ | omega)]; exact a2⟩, fun i i0 i1 => by rw [f 46 i (by first | decide | exact fun z => absurd z.1 (by decide) | exact ⟨fun z => absurd z.1 (by decide), fun z => absurd z.1 (by decide)⟩ | omega), f 47 i (by first | decide | exact fun z => absurd z.1 (by decide) | exact ⟨fun z => absurd z.1 (by decide), fun z => absurd z.1 (by decide)⟩ | omega)]; exact b i i0 i1, fun i i0 i1 => by rw [f 49 i (by first | decide | exact fun z => absurd z.1 (by decide) | exact ⟨fun z => absurd z.1 (by decide), fun z => absurd z.1 (by decide)⟩ | omega)]; exact c i i0 i1, fun i i0 i1 => by rw [f 51 i (by first | decide | exact fun z => absurd z.1 (by decide) | exact ⟨fun z => absurd z.1 (by decide), fun z => absurd z.1 (by decide)⟩ | omega)]; exact d i i0 i1, fun i i0 i1 i2 => by rw [g i i0 i1]; exact e i i0 (by omega) i2⟩
theorem LAh.keep {D D' : Dd} {M M' : Mm} (h : LAh D M) (hb : D 4 ≤ 5) (f : ∀ c p : Int, (c = 45 ∨ c = 35 ∨ c = 36) → M' c p = M c p) (g : ∀ p : Int, (p = 4 ∨ (10 ≤ p ∧ p < 35)) → D' p = D p) : LAh D' M' := by
  intro i i0 i1
  rw [g 4 (by omega)] at i1
  rw [f 45 i (by first | decide | exact fun z => absurd z.1 (by decide) | exact ⟨fun z => absurd z.1 (by decide), fun z => absurd z.1 (by decide)⟩ | omega), f 35 i (by first | decide | exact fun z => absurd z.1 (by decide) | exact ⟨fun z => absurd z.1 (by decide), fun z => absurd z.1 (by decide)⟩ | omega), f 36 i (by first | decide | exact fun z => absurd z.1 (by decide) | exact ⟨fun z => absurd z.1 (by decide), fun z => absurd z.1 (by decide)⟩ | omega), g _ (by omega), g _ (by omega), g _ (by omega)]
  exact h i i0 i1
theorem LAj.keep {D D' : Dd} {M M' : Mm} (h : LAj D M) (hb : D 5 ≤ 4) (f : ∀ c p : Int, (c = 48 ∨ c = 50) → M' c p = M c p) (g : ∀ p : Int, (p = 5 ∨ (35 ≤ p ∧ p < 51)) → D' p = D p) : LAj D' M' := by
  intro i i0 i1
  rw [g 5 (by omega)] at i1
  rw [f 48 i (by first | decide | exact fun z => absurd z.1 (by decide) | exact ⟨fun z => absurd z.1 (by decide), fun z => absurd z.1 (by decide)⟩ | omega), f 50 i (by first | decide | exact fun z => absurd z.1 (by decide) | exact ⟨fun z => absurd z.1 (by decide), fun z => absurd z.1 (by decide)⟩ | omega), g _ (by omega), g _ (by omega)]
  exact h i i0 i1
theorem LAt.keep {D D' : Dd} {M M' : Mm} (h : LAt D M) (hb : D 9 ≤ 4) (f : ∀ c p : Int, (c = 37 ∨ c = 38 ∨ c = 39) → M' c p = M c p) (g : ∀ p : Int, (p = 9 ∨ (81 ≤ p ∧ p < 93)) → D' p = D p) : LAt D' M' := by
  intro i i0 i1
  rw [g 9 (by omega)] at i1
  rw [f 37 i (by first | decide | exact fun z => absurd z.1 (by decide) | exact ⟨fun z => absurd z.1 (by decide), fun z => absurd z.1 (by decide)⟩ | omega), f 38 i (by first | decide | exact fun z => absurd z.1 (by decide) | exact ⟨fun z => absurd z.1 (by decide), fun z => absurd z.1 (by decide)⟩ | omega), f 39 i (by first | decide | exact fun z => absurd z.1 (by decide) | exact ⟨fun z => absurd z.1 (by decide), fun z => absurd z.1 (by decide)⟩ | omega), g _ (by omega), g _ (by omega), g _ (by omega)]
  exact h i i0 i1
theorem LAw.keep {D D' : Dd} {M M' : Mm} (h : LAw D M) (hb : D 6 ≤ 6) (f : ∀ c p : Int, (c = 40 ∨ c = 41 ∨ c = 42 ∨ c = 43) → M' c p = M c p) (g : ∀ p : Int, (p = 6 ∨ (93 ≤ p ∧ p < 117)) → D' p = D p) : LAw D' M' := by
  intro i i0 i1
  rw [g 6 (by omega)] at i1
  rw [f 40 i (by first | decide | exact fun z => absurd z.1 (by decide) | exact ⟨fun z => absurd z.1 (by decide), fun z => absurd z.1 (by decide)⟩ | omega), f 41 i (by first | decide | exact fun z => absurd z.1 (by decide) | exact ⟨fun z => absurd z.1 (by decide), fun z => absurd z.1 (by decide)⟩ | omega), f 42 i (by first | decide | exact fun z => absurd z.1 (by decide) | exact ⟨fun z => absurd z.1 (by decide), fun z => absurd z.1 (by decide)⟩ | omega), f 43 i (by first | decide | exact fun z => absurd z.1 (by decide) | exact ⟨fun z => absurd z.1 (by decide), fun z => absurd z.1 (by decide)⟩ | omega), g _ (by omega), g _ (by omega), g _ (by omega), g _ (by omega)]
  exact h i i0 i1
theorem Rt_keep {D D' : Dd} {a c : Int} (hb : D 3 ≤ 8) (g : ∀ p : Int, (p = 3 ∨ (57 ≤ p ∧ p < 81)) → D' p = D p) : Rt D' a c ↔ Rt D a c := by
  constructor
  · rintro ⟨k, k0, k1, h⟩
    rw [g 3 (by omega)] at k1
    rw [g _ (by omega), g _ (by omega)] at h
    exact ⟨k, k0, k1, h⟩
  · rintro ⟨k, k0, k1, h⟩
    refine ⟨k, k0, by rw [g 3 (by omega)]; exact k1, ?_⟩
    rw [g _ (by omega), g _ (by omega)]
    exact h
theorem LAr.keep {D D' : Dd} {M M' : Mm} (h : LAr D M) (hb : D 3 ≤ 8) (f : ∀ p : Int, M' 33 p = M 33 p) (g : ∀ p : Int, (p = 3 ∨ (57 ≤ p ∧ p < 81)) → D' p = D p) : LAr D' M' := by
  intro a c a0 a1 c0 c1
  rw [f _]
  rcases h a c a0 a1 c0 c1 with ⟨h1, h2⟩ | ⟨h1, k, k0, k1, h2, h3⟩
  · exact Or.inl ⟨h1, fun z => h2 ((Rt_keep hb g).mp z)⟩
  · refine Or.inr ⟨h1, k, k0, by rw [g 3 (by omega)]; exact k1, ?_, ?_⟩
    · rw [g _ (by omega), g _ (by omega)]; exact h2
    · rw [g _ (by omega)]; exact h3
theorem zn_num {X : Mm} {S : Sh} {m0 : Mm} {K : Int → Mm → Prop} {b : Int → Int} {n k lo hi : Int} {T : Int → Dd → Prop} {D : Dd} (h j : Nat) (hS : Shp S) (hm0 : Inv X S m0) (ht : TC X b n) (h14 : m0 1 4 = 0) (hp : m0 1 2 ≤ n) (l : Ld b n T 1 h j (m0 1 2) k D) (hlo : dLo D h j = lo) (hhi : dHi D h j = hi) (hf : ∀ M1 : Mm, Inv X S M1 → (∀ c p : Int, ¬ (c = 1 ∧ 2 ≤ p ∧ p ≤ 4) → M1 c p = m0 c p) → ¬ M1 1 4 = 0 → T (M1 1 4) dz → K (-1) M1) (hk : ∀ (q v : Int) (M1 : Mm), Inv X S M1 → (∀ c p : Int, ¬ (c = 1 ∧ 2 ≤ p ∧ p ≤ 3) → M1 c p = m0 c p) → lo ≤ v → v ≤ hi → 0 ≤ v → M1 1 3 = q → 0 ≤ q → M1 1 2 ≤ n → M1 1 4 = 0 → (¬ dBad D h j v → ¬ j = dEnd h → Ld b n T 1 h (j + 1) (M1 1 2) k (ud D (dCl D h j) v)) → (¬ dBad D h j v → j = dEnd h → Ld b n T 2 0 0 (M1 1 2) k (dFin (ud D (dCl D h j) v) h)) → (dBad D h j v → T (2 + 8 * q) dz) → K v M1) : wp_X7_takeNumber S m0 1 lo hi K := by
  have b2 := hm0.f_1_2
  subst hlo hhi
  refine ze_num hS hm0 ht hp h14 (fun q r m2 hm2 f2 sk qd dr a5 al ah nn x2 x3 rn => ?_) (fun q m2 hm2 f2 sk q0 nd x4 => ?_) (fun q r m2 hm2 f2 sk q0 qd dr bad x4 => ?_)
  · have sk1 := sk.1
    refine hk q _ m2 hm2 f2 (by omega) (by omega) nn x3 (by omega) (by omega) ((f2 1 4 (by first | decide | exact fun z => absurd z.1 (by decide) | exact ⟨fun z => absurd z.1 (by decide), fun z => absurd z.1 (by decide)⟩ | omega)).trans h14) (fun nb ne => ?_) (fun nb ee => ?_) (fun yb => ?_)
    · rw [x2]
      exact l.nx sk qd dr (fun z => by rcases z with z | z | z | z; exact a5 z; exact al z; exact ah z; exact nb z) ne
    · rw [x2]
      exact l.end sk qd dr (fun z => by rcases z with z | z | z | z; exact a5 z; exact al z; exact ah z; exact nb z) ee
    · exact l.bad1 sk qd dr (Or.inr (Or.inr (Or.inr yb)))
  · refine hf m2 hm2 f2 (by omega) ?_
    rw [x4]
    exact l.bad0 sk nd
  · refine hf m2 hm2 f2 (by omega) ?_
    rw [x4]
    refine l.bad1 sk qd dr ?_
    rcases bad with z | z | z
    · exact Or.inl z
    · exact Or.inr (Or.inl z)
    · exact Or.inr (Or.inr (Or.inl z))
theorem zn_place {X : Mm} {S : Sh} {m0 : Mm} {K : Int → Mm → Prop} {b : Int → Int} {n k : Int} {T : Int → Dd → Prop} {D : Dd} (h j : Nat) (hS : Shp S) (hm0 : Inv X S m0) (ht : TC X b n) (h14 : m0 1 4 = 0) (hp : m0 1 2 ≤ n) (l : Ld b n T 1 h j (m0 1 2) k D) (e0 : m0 32 0 = D 0) (hlo : dLo D h j = 0) (hhi : dHi D h j = D 0 - 1) (hf : ∀ M1 : Mm, Inv X S M1 → (∀ c p : Int, ¬ (c = 1 ∧ 2 ≤ p ∧ p ≤ 4) → M1 c p = m0 c p) → ¬ M1 1 4 = 0 → T (M1 1 4) dz → K (-1) M1) (hk : ∀ (q v : Int) (M1 : Mm), Inv X S M1 → (∀ c p : Int, ¬ (c = 1 ∧ 2 ≤ p ∧ p ≤ 3) → M1 c p = m0 c p) → v ≤ D 0 - 1 → 0 ≤ v → M1 1 3 = q → 0 ≤ q → M1 1 2 ≤ n → M1 1 4 = 0 → (¬ dBad D h j v → ¬ j = dEnd h → Ld b n T 1 h (j + 1) (M1 1 2) k (ud D (dCl D h j) v)) → (dBad D h j v → T (2 + 8 * q) dz) → K v M1) : wp_X0_takePlace S m0 31 K := by
  have c0 := hm0.f_32_0
  refine u_X0_takePlace ?_
  refine g_getr 0 1 rfl hS.k31 hm0.f_31_0 (by decide) ?_
  refine g_C ?_
  refine g_getr 1 32 rfl hS.k31 hm0.f_31_1 (by decide) ?_
  refine g_get 0 (0) (6) rfl hS.k32 hm0.f_32_0 (fun v ev bv cv => ?_)
  refine g_C ?_
  refine g_S (by omega) (by omega) ?_
  refine ⟨hS.k1, ?_⟩
  exact zn_num h j hS hm0 ht h14 hp l hlo (by rw [hhi]; omega) hf (fun q v1 m1 hm1 f1 a1 a2 a3 a4 a5 a6 a7 a8 a9 a10 => hk q v1 m1 hm1 f1 (by omega) a3 a4 a5 a6 a7 a8 a10)
theorem LC.readHand {D Dz : Dd} {M M' : Mm} {v1 v2 v3 : Int} (lc : LC D M) (h3 : D 3 ≤ 8) (h4 : 0 ≤ D 4 ∧ D 4 ≤ 5) (h5 : 0 ≤ D 5 ∧ D 5 ≤ 4) (h9 : 0 ≤ D 9 ∧ D 9 ≤ 4) (h6 : 0 ≤ D 6 ∧ D 6 ≤ 6) (hc : D 4 < 5) (F : ∀ c p : Int, ¬ (c = 1 ∧ 2 ≤ p ∧ p ≤ 3) ∧ ¬ (c = 32 ∧ p = 4) ∧ ¬ (c = 45 ∧ p = D 4) ∧ ¬ (c = 35 ∧ p = D 4) ∧ ¬ (c = 36 ∧ p = D 4) → M' c p = M c p) (sc : M' 32 4 = D 4 + 1) (s0 : M' 45 (D 4) = v1) (s1 : M' 35 (D 4) = v2) (s2 : M' 36 (D 4) = v3) (G : ∀ p : Int, ¬ p = 4 ∧ ¬ (10 + 5 * D 4 ≤ p ∧ p < 10 + 5 * D 4 + 5) → Dz p = D p) (xc : Dz 4 = D 4 + 1) (x0 : Dz (10 + 5 * D 4) = v1) (x1 : Dz (10 + 5 * D 4 + 3) = v2) (x2 : Dz (10 + 5 * D 4 + 4) = v3) : LC Dz M' := by
  obtain ⟨⟨q0, q1, q2, q3, q4, q5, q6, q7⟩, lr, lh, lj, lt, lw, ls⟩ := lc
  refine ⟨⟨by rw [F 32 0 (by first | decide | exact fun z => absurd z.1 (by decide) | exact ⟨fun z => absurd z.1 (by decide), fun z => absurd z.1 (by decide)⟩ | omega), G 0 (by omega)]; exact q0, by rw [F 32 1 (by first | decide | exact fun z => absurd z.1 (by decide) | exact ⟨fun z => absurd z.1 (by decide), fun z => absurd z.1 (by decide)⟩ | omega), G 1 (by omega)]; exact q1, by rw [F 32 2 (by first | decide | exact fun z => absurd z.1 (by decide) | exact ⟨fun z => absurd z.1 (by decide), fun z => absurd z.1 (by decide)⟩ | omega), G 2 (by omega)]; exact q2, by rw [F 32 3 (by first | decide | exact fun z => absurd z.1 (by decide) | exact ⟨fun z => absurd z.1 (by decide), fun z => absurd z.1 (by decide)⟩ | omega), G 3 (by omega)]; exact q3, by rw [sc, xc], by rw [F 32 5 (by first | decide | exact fun z => absurd z.1 (by decide) | exact ⟨fun z => absurd z.1 (by decide), fun z => absurd z.1 (by decide)⟩ | omega), G 5 (by omega)]; exact q5, by rw [F 32 6 (by first | decide | exact fun z => absurd z.1 (by decide) | exact ⟨fun z => absurd z.1 (by decide), fun z => absurd z.1 (by decide)⟩ | omega), G 9 (by omega)]; exact q6, by rw [F 32 7 (by first | decide | exact fun z => absurd z.1 (by decide) | exact ⟨fun z => absurd z.1 (by decide), fun z => absurd z.1 (by decide)⟩ | omega), G 6 (by omega)]; exact q7⟩, ?_, ?_, ?_, ?_, ?_, ?_⟩
  · exact lr.keep h3 (fun p => F 33 p (by first | decide | exact fun z => absurd z.1 (by decide) | exact ⟨fun z => absurd z.1 (by decide), fun z => absurd z.1 (by decide)⟩ | omega)) (fun p z => G p (by omega))
  · intro i i0 i1
    rw [xc] at i1
    by_cases e : i = D 4
    · subst e
      exact ⟨s0.trans x0.symm, s1.trans x1.symm, s2.trans x2.symm⟩
    · have hh := lh i i0 (by omega)
      rw [F 45 i (by first | decide | exact fun z => absurd z.1 (by decide) | exact ⟨fun z => absurd z.1 (by decide), fun z => absurd z.1 (by decide)⟩ | omega), F 35 i (by first | decide | exact fun z => absurd z.1 (by decide) | exact ⟨fun z => absurd z.1 (by decide), fun z => absurd z.1 (by decide)⟩ | omega), F 36 i (by first | decide | exact fun z => absurd z.1 (by decide) | exact ⟨fun z => absurd z.1 (by decide), fun z => absurd z.1 (by decide)⟩ | omega)]
      rw [G (10 + 5 * i) (by omega), G (10 + 5 * i + 3) (by omega), G (10 + 5 * i + 4) (by omega)]
      exact hh
  · exact lj.keep h5.2 (fun c p z => F c p (by omega)) (fun p z => G p (by omega))
  · exact lt.keep h9.2 (fun c p z => F c p (by omega)) (fun p z => G p (by omega))
  · exact lw.keep h6.2 (fun c p z => F c p (by omega)) (fun p z => G p (by omega))
  · exact ls.keep (fun c p z => F c p (by omega)) (fun i i0 i1 => F 48 i (by first | decide | exact fun z => absurd z.1 (by decide) | exact ⟨fun z => absurd z.1 (by decide), fun z => absurd z.1 (by decide)⟩ | omega)) (by rw [G 5 (by omega)]; exact Int.le_refl _)
theorem fr_readHand {m0 m1 m2 m3 m4 m5 m6 m7 : Mm} {i4 i5 i6 d : Int} (f1 : ∀ c p : Int, ¬ (c = 1 ∧ 2 ≤ p ∧ p ≤ 3) → m1 c p = m0 c p) (f2 : ∀ c p : Int, ¬ (c = 1 ∧ 2 ≤ p ∧ p ≤ 3) → m2 c p = m1 c p) (f3 : ∀ c p : Int, ¬ (c = 1 ∧ 2 ≤ p ∧ p ≤ 3) → m3 c p = m2 c p) (f4 : ∀ c p : Int, ¬ (c = 45 ∧ p = i4) → m4 c p = m3 c p) (f5 : ∀ c p : Int, ¬ (c = 35 ∧ p = i5) → m5 c p = m4 c p) (f6 : ∀ c p : Int, ¬ (c = 36 ∧ p = i6) → m6 c p = m5 c p) (f7 : ∀ c p : Int, ¬ (c = 32 ∧ p = 4) → m7 c p = m6 c p) (e4 : i4 = d) (e5 : i5 = d) (e6 : i6 = d) : ∀ c p : Int, ¬ (c = 1 ∧ 2 ≤ p ∧ p ≤ 3) ∧ ¬ (c = 32 ∧ p = 4) ∧ ¬ (c = 45 ∧ p = d) ∧ ¬ (c = 35 ∧ p = d) ∧ ¬ (c = 36 ∧ p = d) → m7 c p = m0 c p := fun c p z => by rw [f7 c p (by first | exact fun y => absurd (y.1 ▸ z) (by decide) | exact fun y => absurd (y.1 ▸ q) (by decide) | exact z | exact q | exact z.1 | exact q.1 | exact z.2 | exact q.2 | omega), f6 c p (by first | exact fun y => absurd (y.1 ▸ z) (by decide) | exact fun y => absurd (y.1 ▸ q) (by decide) | exact z | exact q | exact z.1 | exact q.1 | exact z.2 | exact q.2 | omega), f5 c p (by first | exact fun y => absurd (y.1 ▸ z) (by decide) | exact fun y => absurd (y.1 ▸ q) (by decide) | exact z | exact q | exact z.1 | exact q.1 | exact z.2 | exact q.2 | omega), f4 c p (by first | exact fun y => absurd (y.1 ▸ z) (by decide) | exact fun y => absurd (y.1 ▸ q) (by decide) | exact z | exact q | exact z.1 | exact q.1 | exact z.2 | exact q.2 | omega), f3 c p (by first | exact fun y => absurd (y.1 ▸ z) (by decide) | exact fun y => absurd (y.1 ▸ q) (by decide) | exact z | exact q | exact z.1 | exact q.1 | exact z.2 | exact q.2 | omega), f2 c p (by first | exact fun y => absurd (y.1 ▸ z) (by decide) | exact fun y => absurd (y.1 ▸ q) (by decide) | exact z | exact q | exact z.1 | exact q.1 | exact z.2 | exact q.2 | omega), f1 c p (by first | exact fun y => absurd (y.1 ▸ z) (by decide) | exact fun y => absurd (y.1 ▸ q) (by decide) | exact z | exact q | exact z.1 | exact q.1 | exact z.2 | exact q.2 | omega)]
theorem gg_readHand {D D1 D2 D3 Dz : Dd} (gD1 : ∀ p : Int, ¬ p = 10 + 5 * D 4 → D1 p = D p) (gD2 : ∀ p : Int, ¬ p = 10 + 5 * D 4 + 3 → D2 p = D1 p) (gD3 : ∀ p : Int, ¬ p = 10 + 5 * D 4 + 4 → D3 p = D2 p) (gz : ∀ p : Int, ¬ p = 4 → ¬ p = 10 + 5 * D 4 + 1 → ¬ p = 10 + 5 * D 4 + 2 → Dz p = D3 p) : ∀ p : Int, ¬ p = 4 ∧ ¬ (10 + 5 * D 4 ≤ p ∧ p < 10 + 5 * D 4 + 5) → Dz p = D p := fun p z => by rw [gz p (by omega) (by omega) (by omega), gD3 p (by omega), gD2 p (by omega), gD1 p (by omega)]
theorem zn_readHand {X : Mm} {S : Sh} {m0 : Mm} {K : Int → Mm → Prop} {b : Int → Int} {n k : Int} {T : Int → Dd → Prop} {D : Dd} (hS : Shp S) (hm0 : Inv X S m0) (ht : TC X b n) (h14 : m0 1 4 = 0) (hp : m0 1 2 ≤ n) (lc : LC D m0) (l : Ld b n T 1 2 0 (m0 1 2) k D) (d0 : 2 ≤ D 0) (nf : D 4 < 5) (hf : ∀ M1 : Mm, Inv X S M1 → (∀ c p : Int, 336 ≤ c → M1 c p = m0 c p) → ¬ M1 1 4 = 0 → T (M1 1 4) dz → K 0 M1) (hk : ∀ (M1 : Mm) (D' : Dd), Inv X S M1 → (∀ c p : Int, 336 ≤ c → M1 c p = m0 c p) → LC D' M1 → 2 ≤ D' 0 → M1 1 4 = 0 → M1 1 2 ≤ n → Ld b n T 2 0 0 (M1 1 2) k D' → K 1 M1) : wp_X0_readHand S m0 31 K := by
  obtain ⟨⟨q0, q1, q2, q3, q4, q5, q6, q7⟩, lr, lh, lj, lt, lw, ls⟩ := id lc
  have c0 := hm0.f_32_0
  have c3 := hm0.f_32_3
  have c4 := hm0.f_32_4
  have c5 := hm0.f_32_5
  have c6 := hm0.f_32_6
  have c7 := hm0.f_32_7
  refine u_X0_readHand ?_
  refine ⟨hS.k31, ?_⟩
  refine zn_place 2 0 hS hm0 ht h14 hp l q0 rfl rfl (fun m8 hm8 f8 n8 t8 => ?_) (fun q1x v1 m1 hm1 f1 u1 g1 x1 xq1 n1 y1 ln1 _ => ?_)
  · refine g_C ?_
    refine g_ifF (by first | decide | omega) ?_
    refine g_C ?_
    refine u_X0_readHand_24 ?_
    refine g_C ?_
    refine g_ifF (by first | decide | omega) ?_
    refine g_C ?_
    refine u_X0_readHand_43 ?_
    refine g_C ?_
    refine g_ifF (by first | decide | omega) ?_
    refine g_C ?_
    exact ⟨by decide, hf m8 hm8 (fun c p z => by rw [f8 c p (by first | exact fun y => absurd (y.1 ▸ z) (by decide) | exact fun y => absurd (y.1 ▸ q) (by decide) | exact z | exact q | exact z.1 | exact q.1 | exact z.2 | exact q.2 | omega)]) n8 t8⟩
  obtain ⟨D1, eD1⟩ : ∃ z : Dd, z = ud D (dCl D 2 0) v1 := ⟨_, rfl⟩
  have ec1 : dCl D 2 0 = 10 + 5 * D 4 := by
    show 10 + 5 * D 4 = _
    omega
  rw [← eD1] at ln1
  rw [ec1] at eD1
  have gD1 : ∀ p : Int, ¬ p = 10 + 5 * D 4 → D1 p = D p := fun p z => by rw [eD1]; exact ud_ne z
  have xD1 : D1 (10 + 5 * D 4) = v1 := by rw [eD1]; exact ud_at _ _ _
  have dn1 : D1 4 = D 4 := gD1 4 (by omega)
  have l1 := ln1 (fun z => absurd z.1 (by decide)) (by decide)
  refine g_C ?_
  refine g_ifT (by first | decide | omega) ?_
  refine g_getr 0 1 rfl hS.k31 hm1.f_31_0 (by decide) ?_
  refine g_C ?_
  refine g_C ?_
  refine ⟨hS.k1, ?_⟩
  refine zn_num 2 1 hS hm1 ht y1 n1 l1 (lo := 0) (hi := 20) rfl rfl (fun m8 hm8 f8 n8 t8 => ?_) (fun q2x v2 m2 hm2 f2 lo2 hi2 g2 x2 xq2 n2 y2 ln2 le2 _ => ?_)
  · refine u_X0_readHand_24 ?_
    refine g_C ?_
    refine g_ifF (by first | decide | omega) ?_
    refine g_C ?_
    refine u_X0_readHand_43 ?_
    refine g_C ?_
    refine g_ifF (by first | decide | omega) ?_
    refine g_C ?_
    exact ⟨by decide, hf m8 hm8 (fun c p z => by rw [f8 c p (by first | exact fun y => absurd (y.1 ▸ z) (by decide) | exact fun y => absurd (y.1 ▸ q) (by decide) | exact z | exact q | exact z.1 | exact q.1 | exact z.2 | exact q.2 | omega), f1 c p (by first | exact fun y => absurd (y.1 ▸ z) (by decide) | exact fun y => absurd (y.1 ▸ q) (by decide) | exact z | exact q | exact z.1 | exact q.1 | exact z.2 | exact q.2 | omega)]) n8 t8⟩
  obtain ⟨D2, eD2⟩ : ∃ z : Dd, z = ud D1 (dCl D1 2 1) v2 := ⟨_, rfl⟩
  have ec2 : dCl D1 2 1 = 10 + 5 * D 4 + 3 := by
    show 10 + 5 * D1 4 + 3 = _
    omega
  rw [← eD2] at ln2 le2
  rw [ec2] at eD2
  have gD2 : ∀ p : Int, ¬ p = 10 + 5 * D 4 + 3 → D2 p = D1 p := fun p z => by rw [eD2]; exact ud_ne z
  have xD2 : D2 (10 + 5 * D 4 + 3) = v2 := by rw [eD2]; exact ud_at _ _ _
  have dn2 : D2 4 = D 4 := (gD2 4 (by omega)).trans dn1
  have l2 := ln2 (fun z => absurd z.1 (by decide)) (by decide)
  refine u_X0_readHand_24 ?_
  refine g_C ?_
  refine g_ifT (by first | decide | omega) ?_
  refine g_getr 0 1 rfl hS.k31 hm2.f_31_0 (by decide) ?_
  refine g_C ?_
  refine g_C ?_
  refine ⟨hS.k1, ?_⟩
  refine zn_num 2 2 hS hm2 ht y2 n2 l2 (lo := 0) (hi := 5) rfl rfl (fun m8 hm8 f8 n8 t8 => ?_) (fun q3x v3 m3 hm3 f3 lo3 hi3 g3 x3 xq3 n3 y3 ln3 le3 _ => ?_)
  · refine u_X0_readHand_43 ?_
    refine g_C ?_
    refine g_ifF (by first | decide | omega) ?_
    refine g_C ?_
    exact ⟨by decide, hf m8 hm8 (fun c p z => by rw [f8 c p (by first | exact fun y => absurd (y.1 ▸ z) (by decide) | exact fun y => absurd (y.1 ▸ q) (by decide) | exact z | exact q | exact z.1 | exact q.1 | exact z.2 | exact q.2 | omega), f2 c p (by first | exact fun y => absurd (y.1 ▸ z) (by decide) | exact fun y => absurd (y.1 ▸ q) (by decide) | exact z | exact q | exact z.1 | exact q.1 | exact z.2 | exact q.2 | omega), f1 c p (by first | exact fun y => absurd (y.1 ▸ z) (by decide) | exact fun y => absurd (y.1 ▸ q) (by decide) | exact z | exact q | exact z.1 | exact q.1 | exact z.2 | exact q.2 | omega)]) n8 t8⟩
  obtain ⟨D3, eD3⟩ : ∃ z : Dd, z = ud D2 (dCl D2 2 2) v3 := ⟨_, rfl⟩
  have ec3 : dCl D2 2 2 = 10 + 5 * D 4 + 4 := by
    show 10 + 5 * D2 4 + 4 = _
    omega
  rw [← eD3] at ln3 le3
  rw [ec3] at eD3
  have gD3 : ∀ p : Int, ¬ p = 10 + 5 * D 4 + 4 → D3 p = D2 p := fun p z => by rw [eD3]; exact ud_ne z
  have xD3 : D3 (10 + 5 * D 4 + 4) = v3 := by rw [eD3]; exact ud_at _ _ _
  have dn3 : D3 4 = D 4 := (gD3 4 (by omega)).trans dn2
  have l3 := le3 (fun z => absurd z.1 (by decide)) rfl
  refine u_X0_readHand_43 ?_
  refine g_C ?_
  refine g_ifT (by first | decide | omega) ?_
  refine g_getr 2 44 rfl hS.k31 hm3.f_31_2 (by decide) ?_
  refine g_getr 2 45 rfl hS.k44 hm3.f_44_2 (by decide) ?_
  refine g_getr 1 32 rfl hS.k31 hm3.f_31_1 (by decide) ?_
  refine g_getu 4 rfl hS.k32 (fun i4 ei4 => ?_)
  rw [f3 32 4 (by first | decide | exact fun z => absurd z.1 (by decide) | exact ⟨fun z => absurd z.1 (by decide), fun z => absurd z.1 (by decide)⟩ | omega), f2 32 4 (by first | decide | exact fun z => absurd z.1 (by decide) | exact ⟨fun z => absurd z.1 (by decide), fun z => absurd z.1 (by decide)⟩ | omega), f1 32 4 (by first | decide | exact fun z => absurd z.1 (by decide) | exact ⟨fun z => absurd z.1 (by decide), fun z => absurd z.1 (by decide)⟩ | omega), q4] at ei4
  refine g_st hS.k45 hS.l45 (by omega) (by omega) (hm3.wa_45 (by omega) (by omega) (by omega) (by omega)) (fun m4 e4 hm4 => ?_)
  have f4 : ∀ c p : Int, ¬ (c = 45 ∧ p = i4) → m4 c p = m3 c p := fun c p q => (congrFun (congrFun e4 _) _).trans (up_ne q)
  have s4 : m4 45 i4 = v1 := (congrFun (congrFun e4 _) _).trans (up_at _ _ _ _)
  refine g_getr 1 32 rfl hS.k31 hm4.f_31_1 (by decide) ?_
  refine g_getr 10 35 rfl hS.k32 hm4.f_32_10 (by decide) ?_
  refine g_getr 1 32 rfl hS.k31 hm4.f_31_1 (by decide) ?_
  refine g_getu 4 rfl hS.k32 (fun i5 ei5 => ?_)
  rw [f4 32 4 (by first | decide | exact fun z => absurd z.1 (by decide) | exact ⟨fun z => absurd z.1 (by decide), fun z => absurd z.1 (by decide)⟩ | omega), f3 32 4 (by first | decide | exact fun z => absurd z.1 (by decide) | exact ⟨fun z => absurd z.1 (by decide), fun z => absurd z.1 (by decide)⟩ | omega), f2 32 4 (by first | decide | exact fun z => absurd z.1 (by decide) | exact ⟨fun z => absurd z.1 (by decide), fun z => absurd z.1 (by decide)⟩ | omega), f1 32 4 (by first | decide | exact fun z => absurd z.1 (by decide) | exact ⟨fun z => absurd z.1 (by decide), fun z => absurd z.1 (by decide)⟩ | omega), q4] at ei5
  refine g_st hS.k35 hS.l35 (by omega) (by omega) (hm4.wa_35 (by omega) (by omega) (by omega) (by omega)) (fun m5 e5 hm5 => ?_)
  have f5 : ∀ c p : Int, ¬ (c = 35 ∧ p = i5) → m5 c p = m4 c p := fun c p q => (congrFun (congrFun e5 _) _).trans (up_ne q)
  have s5 : m5 35 i5 = v2 := (congrFun (congrFun e5 _) _).trans (up_at _ _ _ _)
  refine g_getr 1 32 rfl hS.k31 hm5.f_31_1 (by decide) ?_
  refine g_getr 11 36 rfl hS.k32 hm5.f_32_11 (by decide) ?_
  refine g_getr 1 32 rfl hS.k31 hm5.f_31_1 (by decide) ?_
  refine g_getu 4 rfl hS.k32 (fun i6 ei6 => ?_)
  rw [f5 32 4 (by first | decide | exact fun z => absurd z.1 (by decide) | exact ⟨fun z => absurd z.1 (by decide), fun z => absurd z.1 (by decide)⟩ | omega), f4 32 4 (by first | decide | exact fun z => absurd z.1 (by decide) | exact ⟨fun z => absurd z.1 (by decide), fun z => absurd z.1 (by decide)⟩ | omega), f3 32 4 (by first | decide | exact fun z => absurd z.1 (by decide) | exact ⟨fun z => absurd z.1 (by decide), fun z => absurd z.1 (by decide)⟩ | omega), f2 32 4 (by first | decide | exact fun z => absurd z.1 (by decide) | exact ⟨fun z => absurd z.1 (by decide), fun z => absurd z.1 (by decide)⟩ | omega), f1 32 4 (by first | decide | exact fun z => absurd z.1 (by decide) | exact ⟨fun z => absurd z.1 (by decide), fun z => absurd z.1 (by decide)⟩ | omega), q4] at ei6
  refine g_st hS.k36 hS.l36 (by omega) (by omega) (hm5.wa_36 (by omega) (by omega) (by omega) (by omega)) (fun m6 e6 hm6 => ?_)
  have f6 : ∀ c p : Int, ¬ (c = 36 ∧ p = i6) → m6 c p = m5 c p := fun c p q => (congrFun (congrFun e6 _) _).trans (up_ne q)
  have s6 : m6 36 i6 = v3 := (congrFun (congrFun e6 _) _).trans (up_at _ _ _ _)
  refine g_getr 1 32 rfl hS.k31 hm6.f_31_1 (by decide) ?_
  refine g_getu 4 rfl hS.k32 (fun i7 ei7 => ?_)
  rw [f6 32 4 (by first | decide | exact fun z => absurd z.1 (by decide) | exact ⟨fun z => absurd z.1 (by decide), fun z => absurd z.1 (by decide)⟩ | omega), f5 32 4 (by first | decide | exact fun z => absurd z.1 (by decide) | exact ⟨fun z => absurd z.1 (by decide), fun z => absurd z.1 (by decide)⟩ | omega), f4 32 4 (by first | decide | exact fun z => absurd z.1 (by decide) | exact ⟨fun z => absurd z.1 (by decide), fun z => absurd z.1 (by decide)⟩ | omega), f3 32 4 (by first | decide | exact fun z => absurd z.1 (by decide) | exact ⟨fun z => absurd z.1 (by decide), fun z => absurd z.1 (by decide)⟩ | omega), f2 32 4 (by first | decide | exact fun z => absurd z.1 (by decide) | exact ⟨fun z => absurd z.1 (by decide), fun z => absurd z.1 (by decide)⟩ | omega), f1 32 4 (by first | decide | exact fun z => absurd z.1 (by decide) | exact ⟨fun z => absurd z.1 (by decide), fun z => absurd z.1 (by decide)⟩ | omega), q4] at ei7
  refine g_C ?_
  refine g_A (by omega) (by omega) ?_
  refine g_put 4 rfl hS.k32 (hm6.w_32_4 (by omega) (by omega)) (fun m7 e7 hm7 => ?_)
  have f7 : ∀ c p : Int, ¬ (c = 32 ∧ p = 4) → m7 c p = m6 c p := fun c p q => (congrFun (congrFun e7 _) _).trans (up_ne q)
  have s7 : m7 32 4 = i7 + 1 := (congrFun (congrFun e7 _) _).trans (up_at _ _ _ _)
  have F := fr_readHand f1 f2 f3 f4 f5 f6 f7 ei4 ei5 ei6
  obtain ⟨Dz, eDz⟩ : ∃ z : Dd, z = dFin D3 2 := ⟨_, rfl⟩
  rw [← eDz] at l3
  have eF : Dz = ud (ud (ud D3 (10 + 5 * D3 4 + 1) 0) (10 + 5 * D3 4 + 2) 0) 4 (D3 4 + 1) := eDz
  rw [dn3] at eF
  have gz : ∀ p : Int, ¬ p = 4 → ¬ p = 10 + 5 * D 4 + 1 → ¬ p = 10 + 5 * D 4 + 2 → Dz p = D3 p := fun p z0 z1 z2 => by rw [eF, ud_ne z0, ud_ne z2, ud_ne z1]
  have xz : Dz 4 = D 4 + 1 := by rw [eF]; exact ud_at _ _ _
  have e12 : m7 1 2 = m3 1 2 := by rw [f7 1 2 (by first | decide | exact fun z => absurd z.1 (by decide) | exact ⟨fun z => absurd z.1 (by decide), fun z => absurd z.1 (by decide)⟩ | omega), f6 1 2 (by first | decide | exact fun z => absurd z.1 (by decide) | exact ⟨fun z => absurd z.1 (by decide), fun z => absurd z.1 (by decide)⟩ | omega), f5 1 2 (by first | decide | exact fun z => absurd z.1 (by decide) | exact ⟨fun z => absurd z.1 (by decide), fun z => absurd z.1 (by decide)⟩ | omega), f4 1 2 (by first | decide | exact fun z => absurd z.1 (by decide) | exact ⟨fun z => absurd z.1 (by decide), fun z => absurd z.1 (by decide)⟩ | omega)]
  have e14 : m7 1 4 = 0 := by rw [f7 1 4 (by first | decide | exact fun z => absurd z.1 (by decide) | exact ⟨fun z => absurd z.1 (by decide), fun z => absurd z.1 (by decide)⟩ | omega), f6 1 4 (by first | decide | exact fun z => absurd z.1 (by decide) | exact ⟨fun z => absurd z.1 (by decide), fun z => absurd z.1 (by decide)⟩ | omega), f5 1 4 (by first | decide | exact fun z => absurd z.1 (by decide) | exact ⟨fun z => absurd z.1 (by decide), fun z => absurd z.1 (by decide)⟩ | omega), f4 1 4 (by first | decide | exact fun z => absurd z.1 (by decide) | exact ⟨fun z => absurd z.1 (by decide), fun z => absurd z.1 (by decide)⟩ | omega)]; exact y3
  rw [← e12] at l3
  have S0 : m7 45 (D 4) = v1 := by rw [f7 45 _ (by first | decide | exact fun z => absurd z.1 (by decide) | exact ⟨fun z => absurd z.1 (by decide), fun z => absurd z.1 (by decide)⟩ | omega), f6 45 _ (by first | decide | exact fun z => absurd z.1 (by decide) | exact ⟨fun z => absurd z.1 (by decide), fun z => absurd z.1 (by decide)⟩ | omega), f5 45 _ (by first | decide | exact fun z => absurd z.1 (by decide) | exact ⟨fun z => absurd z.1 (by decide), fun z => absurd z.1 (by decide)⟩ | omega), ← ei4]; exact s4
  have Z0 : Dz (10 + 5 * D 4) = v1 := by rw [gz _ (by omega) (by omega) (by omega), gD3 _ (by omega), gD2 _ (by omega)]; exact xD1
  have S1 : m7 35 (D 4) = v2 := by rw [f7 35 _ (by first | decide | exact fun z => absurd z.1 (by decide) | exact ⟨fun z => absurd z.1 (by decide), fun z => absurd z.1 (by decide)⟩ | omega), f6 35 _ (by first | decide | exact fun z => absurd z.1 (by decide) | exact ⟨fun z => absurd z.1 (by decide), fun z => absurd z.1 (by decide)⟩ | omega), ← ei5]; exact s5
  have Z1 : Dz (10 + 5 * D 4 + 3) = v2 := by rw [gz _ (by omega) (by omega) (by omega), gD3 _ (by omega)]; exact xD2
  have S2 : m7 36 (D 4) = v3 := by rw [f7 36 _ (by first | decide | exact fun z => absurd z.1 (by decide) | exact ⟨fun z => absurd z.1 (by decide), fun z => absurd z.1 (by decide)⟩ | omega), ← ei6]; exact s6
  have Z2 : Dz (10 + 5 * D 4 + 4) = v3 := by rw [gz _ (by omega) (by omega) (by omega)]; exact xD3
  have G := gg_readHand gD1 gD2 gD3 gz
  have lz : LC Dz m7 := LC.readHand lc (by omega) (by omega) (by omega) (by omega) (by omega) nf F (by rw [s7]; omega) S0 S1 S2 G xz Z0 Z1 Z2
  have dz0 : 2 ≤ Dz 0 := by rw [G 0 (by omega)]; exact d0
  have nz : m7 1 2 ≤ n := by omega
  exact g_C ⟨by decide, hk m7 Dz hm7 (fun c p z => F c p (by omega)) lz dz0 e14 nz l3⟩
theorem LC.readJug {D Dz : Dd} {M M' : Mm} {v1 v2 : Int} (lc : LC D M) (h3 : D 3 ≤ 8) (h4 : 0 ≤ D 4 ∧ D 4 ≤ 5) (h5 : 0 ≤ D 5 ∧ D 5 ≤ 4) (h9 : 0 ≤ D 9 ∧ D 9 ≤ 4) (h6 : 0 ≤ D 6 ∧ D 6 ≤ 6) (hc : D 5 < 4) (F : ∀ c p : Int, ¬ (c = 1 ∧ 2 ≤ p ∧ p ≤ 3) ∧ ¬ (c = 32 ∧ p = 5) ∧ ¬ (c = 48 ∧ p = D 5) ∧ ¬ (c = 50 ∧ p = D 5) → M' c p = M c p) (sc : M' 32 5 = D 5 + 1) (s0 : M' 48 (D 5) = v1) (s1 : M' 50 (D 5) = v2) (G : ∀ p : Int, ¬ p = 5 ∧ ¬ (35 + 4 * D 5 ≤ p ∧ p < 35 + 4 * D 5 + 4) → Dz p = D p) (xc : Dz 5 = D 5 + 1) (x0 : Dz (35 + 4 * D 5) = v1) (x1 : Dz (35 + 4 * D 5 + 2) = v2) : LC Dz M' := by
  obtain ⟨⟨q0, q1, q2, q3, q4, q5, q6, q7⟩, lr, lh, lj, lt, lw, ls⟩ := lc
  refine ⟨⟨by rw [F 32 0 (by first | decide | exact fun z => absurd z.1 (by decide) | exact ⟨fun z => absurd z.1 (by decide), fun z => absurd z.1 (by decide)⟩ | omega), G 0 (by omega)]; exact q0, by rw [F 32 1 (by first | decide | exact fun z => absurd z.1 (by decide) | exact ⟨fun z => absurd z.1 (by decide), fun z => absurd z.1 (by decide)⟩ | omega), G 1 (by omega)]; exact q1, by rw [F 32 2 (by first | decide | exact fun z => absurd z.1 (by decide) | exact ⟨fun z => absurd z.1 (by decide), fun z => absurd z.1 (by decide)⟩ | omega), G 2 (by omega)]; exact q2, by rw [F 32 3 (by first | decide | exact fun z => absurd z.1 (by decide) | exact ⟨fun z => absurd z.1 (by decide), fun z => absurd z.1 (by decide)⟩ | omega), G 3 (by omega)]; exact q3, by rw [F 32 4 (by first | decide | exact fun z => absurd z.1 (by decide) | exact ⟨fun z => absurd z.1 (by decide), fun z => absurd z.1 (by decide)⟩ | omega), G 4 (by omega)]; exact q4, by rw [sc, xc], by rw [F 32 6 (by first | decide | exact fun z => absurd z.1 (by decide) | exact ⟨fun z => absurd z.1 (by decide), fun z => absurd z.1 (by decide)⟩ | omega), G 9 (by omega)]; exact q6, by rw [F 32 7 (by first | decide | exact fun z => absurd z.1 (by decide) | exact ⟨fun z => absurd z.1 (by decide), fun z => absurd z.1 (by decide)⟩ | omega), G 6 (by omega)]; exact q7⟩, ?_, ?_, ?_, ?_, ?_, ?_⟩
  · exact lr.keep h3 (fun p => F 33 p (by first | decide | exact fun z => absurd z.1 (by decide) | exact ⟨fun z => absurd z.1 (by decide), fun z => absurd z.1 (by decide)⟩ | omega)) (fun p z => G p (by omega))
  · exact lh.keep h4.2 (fun c p z => F c p (by omega)) (fun p z => G p (by omega))
  · intro i i0 i1
    rw [xc] at i1
    by_cases e : i = D 5
    · subst e
      exact ⟨s0.trans x0.symm, s1.trans x1.symm⟩
    · have hh := lj i i0 (by omega)
      rw [F 48 i (by first | decide | exact fun z => absurd z.1 (by decide) | exact ⟨fun z => absurd z.1 (by decide), fun z => absurd z.1 (by decide)⟩ | omega), F 50 i (by first | decide | exact fun z => absurd z.1 (by decide) | exact ⟨fun z => absurd z.1 (by decide), fun z => absurd z.1 (by decide)⟩ | omega)]
      rw [G (35 + 4 * i) (by omega), G (35 + 4 * i + 2) (by omega)]
      exact hh
  · exact lt.keep h9.2 (fun c p z => F c p (by omega)) (fun p z => G p (by omega))
  · exact lw.keep h6.2 (fun c p z => F c p (by omega)) (fun p z => G p (by omega))
  · exact ls.keep (fun c p z => F c p (by omega)) (fun i i0 i1 => F 48 i (by first | decide | exact fun z => absurd z.1 (by decide) | exact ⟨fun z => absurd z.1 (by decide), fun z => absurd z.1 (by decide)⟩ | omega)) (by omega)
theorem fr_readJug {m0 m1 m2 m3 m4 m5 : Mm} {i3 i4 d : Int} (f1 : ∀ c p : Int, ¬ (c = 1 ∧ 2 ≤ p ∧ p ≤ 3) → m1 c p = m0 c p) (f2 : ∀ c p : Int, ¬ (c = 1 ∧ 2 ≤ p ∧ p ≤ 3) → m2 c p = m1 c p) (f3 : ∀ c p : Int, ¬ (c = 48 ∧ p = i3) → m3 c p = m2 c p) (f4 : ∀ c p : Int, ¬ (c = 50 ∧ p = i4) → m4 c p = m3 c p) (f5 : ∀ c p : Int, ¬ (c = 32 ∧ p = 5) → m5 c p = m4 c p) (e3 : i3 = d) (e4 : i4 = d) : ∀ c p : Int, ¬ (c = 1 ∧ 2 ≤ p ∧ p ≤ 3) ∧ ¬ (c = 32 ∧ p = 5) ∧ ¬ (c = 48 ∧ p = d) ∧ ¬ (c = 50 ∧ p = d) → m5 c p = m0 c p := fun c p z => by rw [f5 c p (by first | exact fun y => absurd (y.1 ▸ z) (by decide) | exact fun y => absurd (y.1 ▸ q) (by decide) | exact z | exact q | exact z.1 | exact q.1 | exact z.2 | exact q.2 | omega), f4 c p (by first | exact fun y => absurd (y.1 ▸ z) (by decide) | exact fun y => absurd (y.1 ▸ q) (by decide) | exact z | exact q | exact z.1 | exact q.1 | exact z.2 | exact q.2 | omega), f3 c p (by first | exact fun y => absurd (y.1 ▸ z) (by decide) | exact fun y => absurd (y.1 ▸ q) (by decide) | exact z | exact q | exact z.1 | exact q.1 | exact z.2 | exact q.2 | omega), f2 c p (by first | exact fun y => absurd (y.1 ▸ z) (by decide) | exact fun y => absurd (y.1 ▸ q) (by decide) | exact z | exact q | exact z.1 | exact q.1 | exact z.2 | exact q.2 | omega), f1 c p (by first | exact fun y => absurd (y.1 ▸ z) (by decide) | exact fun y => absurd (y.1 ▸ q) (by decide) | exact z | exact q | exact z.1 | exact q.1 | exact z.2 | exact q.2 | omega)]
theorem gg_readJug {D D1 D2 Dz : Dd} (gD1 : ∀ p : Int, ¬ p = 35 + 4 * D 5 → D1 p = D p) (gD2 : ∀ p : Int, ¬ p = 35 + 4 * D 5 + 2 → D2 p = D1 p) (gz : ∀ p : Int, ¬ p = 5 → ¬ p = 35 + 4 * D 5 + 1 → ¬ p = 35 + 4 * D 5 + 3 → Dz p = D2 p) : ∀ p : Int, ¬ p = 5 ∧ ¬ (35 + 4 * D 5 ≤ p ∧ p < 35 + 4 * D 5 + 4) → Dz p = D p := fun p z => by rw [gz p (by omega) (by omega) (by omega), gD2 p (by omega), gD1 p (by omega)]
theorem zn_readJug {X : Mm} {S : Sh} {m0 : Mm} {K : Int → Mm → Prop} {b : Int → Int} {n k : Int} {T : Int → Dd → Prop} {D : Dd} (hS : Shp S) (hm0 : Inv X S m0) (ht : TC X b n) (h14 : m0 1 4 = 0) (hp : m0 1 2 ≤ n) (lc : LC D m0) (l : Ld b n T 1 3 0 (m0 1 2) k D) (d0 : 2 ≤ D 0) (nf : D 5 < 4) (hf : ∀ M1 : Mm, Inv X S M1 → (∀ c p : Int, 336 ≤ c → M1 c p = m0 c p) → ¬ M1 1 4 = 0 → T (M1 1 4) dz → K 0 M1) (hk : ∀ (M1 : Mm) (D' : Dd), Inv X S M1 → (∀ c p : Int, 336 ≤ c → M1 c p = m0 c p) → LC D' M1 → 2 ≤ D' 0 → M1 1 4 = 0 → M1 1 2 ≤ n → Ld b n T 2 0 0 (M1 1 2) k D' → K 1 M1) : wp_X0_readJug S m0 31 K := by
  obtain ⟨⟨q0, q1, q2, q3, q4, q5, q6, q7⟩, lr, lh, lj, lt, lw, ls⟩ := id lc
  have c0 := hm0.f_32_0
  have c3 := hm0.f_32_3
  have c4 := hm0.f_32_4
  have c5 := hm0.f_32_5
  have c6 := hm0.f_32_6
  have c7 := hm0.f_32_7
  refine u_X0_readJug ?_
  refine ⟨hS.k31, ?_⟩
  refine zn_place 3 0 hS hm0 ht h14 hp l q0 rfl rfl (fun m8 hm8 f8 n8 t8 => ?_) (fun q1x v1 m1 hm1 f1 u1 g1 x1 xq1 n1 y1 ln1 _ => ?_)
  · refine g_C ?_
    refine g_ifF (by first | decide | omega) ?_
    refine g_C ?_
    refine u_X0_readJug_24 ?_
    refine g_C ?_
    refine g_ifF (by first | decide | omega) ?_
    refine g_C ?_
    exact ⟨by decide, hf m8 hm8 (fun c p z => by rw [f8 c p (by first | exact fun y => absurd (y.1 ▸ z) (by decide) | exact fun y => absurd (y.1 ▸ q) (by decide) | exact z | exact q | exact z.1 | exact q.1 | exact z.2 | exact q.2 | omega)]) n8 t8⟩
  obtain ⟨D1, eD1⟩ : ∃ z : Dd, z = ud D (dCl D 3 0) v1 := ⟨_, rfl⟩
  have ec1 : dCl D 3 0 = 35 + 4 * D 5 := by
    show 35 + 4 * D 5 = _
    omega
  rw [← eD1] at ln1
  rw [ec1] at eD1
  have gD1 : ∀ p : Int, ¬ p = 35 + 4 * D 5 → D1 p = D p := fun p z => by rw [eD1]; exact ud_ne z
  have xD1 : D1 (35 + 4 * D 5) = v1 := by rw [eD1]; exact ud_at _ _ _
  have dn1 : D1 5 = D 5 := gD1 5 (by omega)
  have l1 := ln1 (fun z => absurd z.1 (by decide)) (by decide)
  refine g_C ?_
  refine g_ifT (by first | decide | omega) ?_
  refine g_getr 0 1 rfl hS.k31 hm1.f_31_0 (by decide) ?_
  refine g_C ?_
  refine g_C ?_
  refine ⟨hS.k1, ?_⟩
  refine zn_num 3 1 hS hm1 ht y1 n1 l1 (lo := 0) (hi := 99) rfl rfl (fun m8 hm8 f8 n8 t8 => ?_) (fun q2x v2 m2 hm2 f2 lo2 hi2 g2 x2 xq2 n2 y2 ln2 le2 _ => ?_)
  · refine u_X0_readJug_24 ?_
    refine g_C ?_
    refine g_ifF (by first | decide | omega) ?_
    refine g_C ?_
    exact ⟨by decide, hf m8 hm8 (fun c p z => by rw [f8 c p (by first | exact fun y => absurd (y.1 ▸ z) (by decide) | exact fun y => absurd (y.1 ▸ q) (by decide) | exact z | exact q | exact z.1 | exact q.1 | exact z.2 | exact q.2 | omega), f1 c p (by first | exact fun y => absurd (y.1 ▸ z) (by decide) | exact fun y => absurd (y.1 ▸ q) (by decide) | exact z | exact q | exact z.1 | exact q.1 | exact z.2 | exact q.2 | omega)]) n8 t8⟩
  obtain ⟨D2, eD2⟩ : ∃ z : Dd, z = ud D1 (dCl D1 3 1) v2 := ⟨_, rfl⟩
  have ec2 : dCl D1 3 1 = 35 + 4 * D 5 + 2 := by
    show 35 + 4 * D1 5 + 2 = _
    omega
  rw [← eD2] at ln2 le2
  rw [ec2] at eD2
  have gD2 : ∀ p : Int, ¬ p = 35 + 4 * D 5 + 2 → D2 p = D1 p := fun p z => by rw [eD2]; exact ud_ne z
  have xD2 : D2 (35 + 4 * D 5 + 2) = v2 := by rw [eD2]; exact ud_at _ _ _
  have dn2 : D2 5 = D 5 := (gD2 5 (by omega)).trans dn1
  have l2 := le2 (fun z => absurd z.1 (by decide)) rfl
  refine u_X0_readJug_24 ?_
  refine g_C ?_
  refine g_ifT (by first | decide | omega) ?_
  refine g_getr 2 44 rfl hS.k31 hm2.f_31_2 (by decide) ?_
  refine g_getr 5 48 rfl hS.k44 hm2.f_44_5 (by decide) ?_
  refine g_getr 1 32 rfl hS.k31 hm2.f_31_1 (by decide) ?_
  refine g_getu 5 rfl hS.k32 (fun i3 ei3 => ?_)
  rw [f2 32 5 (by first | decide | exact fun z => absurd z.1 (by decide) | exact ⟨fun z => absurd z.1 (by decide), fun z => absurd z.1 (by decide)⟩ | omega), f1 32 5 (by first | decide | exact fun z => absurd z.1 (by decide) | exact ⟨fun z => absurd z.1 (by decide), fun z => absurd z.1 (by decide)⟩ | omega), q5] at ei3
  refine g_st hS.k48 hS.l48 (by omega) (by omega) (hm2.wa_48 (by omega) (by omega) (by omega) (by omega)) (fun m3 e3 hm3 => ?_)
  have f3 : ∀ c p : Int, ¬ (c = 48 ∧ p = i3) → m3 c p = m2 c p := fun c p q => (congrFun (congrFun e3 _) _).trans (up_ne q)
  have s3 : m3 48 i3 = v1 := (congrFun (congrFun e3 _) _).trans (up_at _ _ _ _)
  refine g_getr 2 44 rfl hS.k31 hm3.f_31_2 (by decide) ?_
  refine g_getr 7 50 rfl hS.k44 hm3.f_44_7 (by decide) ?_
  refine g_getr 1 32 rfl hS.k31 hm3.f_31_1 (by decide) ?_
  refine g_getu 5 rfl hS.k32 (fun i4 ei4 => ?_)
  rw [f3 32 5 (by first | decide | exact fun z => absurd z.1 (by decide) | exact ⟨fun z => absurd z.1 (by decide), fun z => absurd z.1 (by decide)⟩ | omega), f2 32 5 (by first | decide | exact fun z => absurd z.1 (by decide) | exact ⟨fun z => absurd z.1 (by decide), fun z => absurd z.1 (by decide)⟩ | omega), f1 32 5 (by first | decide | exact fun z => absurd z.1 (by decide) | exact ⟨fun z => absurd z.1 (by decide), fun z => absurd z.1 (by decide)⟩ | omega), q5] at ei4
  refine g_st hS.k50 hS.l50 (by omega) (by omega) (hm3.wa_50 (by omega) (by omega) (by omega) (by omega)) (fun m4 e4 hm4 => ?_)
  have f4 : ∀ c p : Int, ¬ (c = 50 ∧ p = i4) → m4 c p = m3 c p := fun c p q => (congrFun (congrFun e4 _) _).trans (up_ne q)
  have s4 : m4 50 i4 = v2 := (congrFun (congrFun e4 _) _).trans (up_at _ _ _ _)
  refine g_getr 1 32 rfl hS.k31 hm4.f_31_1 (by decide) ?_
  refine g_getu 5 rfl hS.k32 (fun i5 ei5 => ?_)
  rw [f4 32 5 (by first | decide | exact fun z => absurd z.1 (by decide) | exact ⟨fun z => absurd z.1 (by decide), fun z => absurd z.1 (by decide)⟩ | omega), f3 32 5 (by first | decide | exact fun z => absurd z.1 (by decide) | exact ⟨fun z => absurd z.1 (by decide), fun z => absurd z.1 (by decide)⟩ | omega), f2 32 5 (by first | decide | exact fun z => absurd z.1 (by decide) | exact ⟨fun z => absurd z.1 (by decide), fun z => absurd z.1 (by decide)⟩ | omega), f1 32 5 (by first | decide | exact fun z => absurd z.1 (by decide) | exact ⟨fun z => absurd z.1 (by decide), fun z => absurd z.1 (by decide)⟩ | omega), q5] at ei5
  refine g_C ?_
  refine g_A (by omega) (by omega) ?_
  refine g_put 5 rfl hS.k32 (hm4.w_32_5 (by omega) (by omega)) (fun m5 e5 hm5 => ?_)
  have f5 : ∀ c p : Int, ¬ (c = 32 ∧ p = 5) → m5 c p = m4 c p := fun c p q => (congrFun (congrFun e5 _) _).trans (up_ne q)
  have s5 : m5 32 5 = i5 + 1 := (congrFun (congrFun e5 _) _).trans (up_at _ _ _ _)
  have F := fr_readJug f1 f2 f3 f4 f5 ei3 ei4
  obtain ⟨Dz, eDz⟩ : ∃ z : Dd, z = dFin D2 3 := ⟨_, rfl⟩
  rw [← eDz] at l2
  have eF : Dz = ud (ud (ud D2 (35 + 4 * D2 5 + 1) (-1)) (35 + 4 * D2 5 + 3) 0) 5 (D2 5 + 1) := eDz
  rw [dn2] at eF
  have gz : ∀ p : Int, ¬ p = 5 → ¬ p = 35 + 4 * D 5 + 1 → ¬ p = 35 + 4 * D 5 + 3 → Dz p = D2 p := fun p z0 z1 z2 => by rw [eF, ud_ne z0, ud_ne z2, ud_ne z1]
  have xz : Dz 5 = D 5 + 1 := by rw [eF]; exact ud_at _ _ _
  have e12 : m5 1 2 = m2 1 2 := by rw [f5 1 2 (by first | decide | exact fun z => absurd z.1 (by decide) | exact ⟨fun z => absurd z.1 (by decide), fun z => absurd z.1 (by decide)⟩ | omega), f4 1 2 (by first | decide | exact fun z => absurd z.1 (by decide) | exact ⟨fun z => absurd z.1 (by decide), fun z => absurd z.1 (by decide)⟩ | omega), f3 1 2 (by first | decide | exact fun z => absurd z.1 (by decide) | exact ⟨fun z => absurd z.1 (by decide), fun z => absurd z.1 (by decide)⟩ | omega)]
  have e14 : m5 1 4 = 0 := by rw [f5 1 4 (by first | decide | exact fun z => absurd z.1 (by decide) | exact ⟨fun z => absurd z.1 (by decide), fun z => absurd z.1 (by decide)⟩ | omega), f4 1 4 (by first | decide | exact fun z => absurd z.1 (by decide) | exact ⟨fun z => absurd z.1 (by decide), fun z => absurd z.1 (by decide)⟩ | omega), f3 1 4 (by first | decide | exact fun z => absurd z.1 (by decide) | exact ⟨fun z => absurd z.1 (by decide), fun z => absurd z.1 (by decide)⟩ | omega)]; exact y2
  rw [← e12] at l2
  have S0 : m5 48 (D 5) = v1 := by rw [f5 48 _ (by first | decide | exact fun z => absurd z.1 (by decide) | exact ⟨fun z => absurd z.1 (by decide), fun z => absurd z.1 (by decide)⟩ | omega), f4 48 _ (by first | decide | exact fun z => absurd z.1 (by decide) | exact ⟨fun z => absurd z.1 (by decide), fun z => absurd z.1 (by decide)⟩ | omega), ← ei3]; exact s3
  have Z0 : Dz (35 + 4 * D 5) = v1 := by rw [gz _ (by omega) (by omega) (by omega), gD2 _ (by omega)]; exact xD1
  have S1 : m5 50 (D 5) = v2 := by rw [f5 50 _ (by first | decide | exact fun z => absurd z.1 (by decide) | exact ⟨fun z => absurd z.1 (by decide), fun z => absurd z.1 (by decide)⟩ | omega), ← ei4]; exact s4
  have Z1 : Dz (35 + 4 * D 5 + 2) = v2 := by rw [gz _ (by omega) (by omega) (by omega)]; exact xD2
  have G := gg_readJug gD1 gD2 gz
  have lz : LC Dz m5 := LC.readJug lc (by omega) (by omega) (by omega) (by omega) (by omega) nf F (by rw [s5]; omega) S0 S1 G xz Z0 Z1
  have dz0 : 2 ≤ Dz 0 := by rw [G 0 (by omega)]; exact d0
  have nz : m5 1 2 ≤ n := by omega
  exact g_C ⟨by decide, hk m5 Dz hm5 (fun c p z => F c p (by omega)) lz dz0 e14 nz l2⟩
end
