theorem Ld.sk {b : Int → Int} {n : Int} {T : Int → Dd → Prop} {m h j : Nat} {p q k : Int} {D : Dd} (l : Ld b n T m h j p k D) (hs : Sk b n p q) : Ld b n T m h j q k D := by
  intro f E z
  obtain ⟨N, z⟩ := z
  cases N with
  | zero => exact z.elim
  | succ N =>
    obtain ⟨q', hs', g⟩ := z
    have e := hs.idem.uniq hs'
    subst e
    exact l f E ⟨N + 1, q, hs, g⟩
theorem dch_at {b : Int → Int} {n : Int} {A : Da} {q k : Int} {D : Dd} {f : Int} {E : Dd} (i : Nat) (hi : i < 6) (hn : ∀ j : Nat, j < i → ¬ Wk b n j q) (wk : Wk b n i q) (h : wIf (k = 40 ∨ (i = 0 ∧ ¬ D 0 = 0) ∨ (¬ i = 0 ∧ D 0 = 0) ∨ dFull D i) (f = 5 + 8 * q ∧ E = dz) (A 1 i 0 (q + tl i) (k + 1) D f E)) : dch b n A q k D f E [0, 1, 2, 3, 4, 5] := by
  rcases (show i = 0 ∨ i = 1 ∨ i = 2 ∨ i = 3 ∨ i = 4 ∨ i = 5 by omega) with e | e | e | e | e | e <;> subst e
  · exact g_ifT wk h
  · exact g_ifF (hn 0 (by decide)) (g_ifT wk h)
  · exact g_ifF (hn 0 (by decide)) (g_ifF (hn 1 (by decide)) (g_ifT wk h))
  · exact g_ifF (hn 0 (by decide)) (g_ifF (hn 1 (by decide)) (g_ifF (hn 2 (by decide)) (g_ifT wk h)))
  · exact g_ifF (hn 0 (by decide)) (g_ifF (hn 1 (by decide)) (g_ifF (hn 2 (by decide)) (g_ifF (hn 3 (by decide)) (g_ifT wk h))))
  · exact g_ifF (hn 0 (by decide)) (g_ifF (hn 1 (by decide)) (g_ifF (hn 2 (by decide)) (g_ifF (hn 3 (by decide)) (g_ifF (hn 4 (by decide)) (g_ifT wk h)))))
theorem Ld.none {b : Int → Int} {n : Int} {T : Int → Dd → Prop} {p q k : Int} {D : Dd} (l : Ld b n T 0 0 0 p k D) (hs : Sk b n p q) (hn : ∀ j : Nat, j < 6 → ¬ Wk b n j q) : T (1 + 8 * q) dz := l _ _ (d_step hs (g_ifT rfl (g_ifF (hn 0 (by decide)) (g_ifF (hn 1 (by decide)) (g_ifF (hn 2 (by decide)) (g_ifF (hn 3 (by decide)) (g_ifF (hn 4 (by decide)) (g_ifF (hn 5 (by decide)) ⟨rfl, rfl⟩))))))))
theorem Ld.full {b : Int → Int} {n : Int} {T : Int → Dd → Prop} {p q k : Int} {D : Dd} (l : Ld b n T 0 0 0 p k D) (hs : Sk b n p q) (i : Nat) (hi : i < 6) (hn : ∀ j : Nat, j < i → ¬ Wk b n j q) (wk : Wk b n i q) (hb : k = 40 ∨ (i = 0 ∧ ¬ D 0 = 0) ∨ (¬ i = 0 ∧ D 0 = 0) ∨ dFull D i) : T (5 + 8 * q) dz := l _ _ (d_step hs (g_ifT rfl (dch_at i hi hn wk (g_ifT hb ⟨rfl, rfl⟩))))
theorem Ld.go {b : Int → Int} {n : Int} {T : Int → Dd → Prop} {p q k : Int} {D : Dd} (l : Ld b n T 0 0 0 p k D) (hs : Sk b n p q) (i : Nat) (hi : i < 6) (hn : ∀ j : Nat, j < i → ¬ Wk b n j q) (wk : Wk b n i q) (hb : ¬ (k = 40 ∨ (i = 0 ∧ ¬ D 0 = 0) ∨ (¬ i = 0 ∧ D 0 = 0) ∨ dFull D i)) : Ld b n T 1 i 0 (q + tl i) (k + 1) D := fun _ _ z => l _ _ (d_step hs (g_ifT rfl (dch_at i hi hn wk (g_ifF hb z))))
theorem Ld.stop {b : Int → Int} {n : Int} {T : Int → Dd → Prop} {p q k : Int} {D : Dd} (l : Ld b n T 2 0 0 p k D) (hs : Sk b n p q) (hq : n ≤ q) : T 0 D := l _ _ (d_step hs (g_ifF (by decide) (g_ifF (by decide) (g_ifT hq ⟨rfl, rfl⟩))))
theorem Ld.odd {b : Int → Int} {n : Int} {T : Int → Dd → Prop} {p q k : Int} {D : Dd} (l : Ld b n T 2 0 0 p k D) (hs : Sk b n p q) (hq : ¬ n ≤ q) (h59 : ¬ b q = 59) : T (1 + 8 * q) dz := l _ _ (d_step hs (g_ifF (by decide) (g_ifF (by decide) (g_ifF hq (g_ifF h59 ⟨rfl, rfl⟩)))))
theorem Ld.more {b : Int → Int} {n : Int} {T : Int → Dd → Prop} {p q k : Int} {D : Dd} (l : Ld b n T 2 0 0 p k D) (hs : Sk b n p q) (hq : ¬ n ≤ q) (h59 : b q = 59) : Ld b n T 0 0 0 (q + 1) k D := fun _ _ z => l _ _ (d_step hs (g_ifF (by decide) (g_ifF (by decide) (g_ifF hq (g_ifT h59 z)))))
theorem Rt_ud {D : Dd} {c v a e : Int} (hc : 57 + 3 * D 3 ≤ c) (h3 : 0 ≤ D 3) : Rt (ud D c v) a e ↔ Rt D a e := by
  have e3 : ud D c v 3 = D 3 := ud_ne (by omega)
  constructor
  · rintro ⟨k, k0, k1, h⟩
    rw [e3] at k1
    rw [ud_ne (by omega), ud_ne (by omega)] at h
    exact ⟨k, k0, k1, h⟩
  · rintro ⟨k, k0, k1, h⟩
    refine ⟨k, k0, by rw [e3]; exact k1, ?_⟩
    rw [ud_ne (by omega), ud_ne (by omega)]
    exact h
theorem zc_isRoadTold {X : Mm} {S : Sh} {m : Mm} {K : Int → Mm → Prop} {u1 u2 : Int} {D : Dd} (hS : Shp S) (hm : Inv X S m) (rd : Rd D m) (h1 : Rt D u1 u2 → K 1 m) (h0 : ¬ Rt D u1 u2 → K 0 m) : wp_X12_isRoadTold S m 336 u1 u2 K := by
  have c3 := hm.f_342_3
  have r3 := rd 3 (by decide) (by decide)
  refine u_X12_isRoadTold ?_
  refine g_C ?_
  have L : ∀ (N : Nat) (k : Int), 0 ≤ k → k ≤ D 3 → (∀ i : Int, 0 ≤ i → i < k → ¬ ((D (57 + 3 * i) = u1 ∧ D (57 + 3 * i + 1) = u2) ∨ (D (57 + 3 * i) = u2 ∧ D (57 + 3 * i + 1) = u1))) → 9 - k ≤ (N : Int) → wp_X12_isRoadTold_2 S K N 336 u1 u2 k m := by
    intro N
    induction N with
    | zero => intro k _ _ _ h; exfalso; omega
    | succ N ih =>
      intro k k0 k1 hn h
      refine u_X12_isRoadTold_2 ?_
      refine g_getr 7 342 rfl hS.k336 hm.f_336_7 (by decide) ?_
      refine g_C ?_
      refine g_ldu hS.k342 hS.l342 (by omega) (by omega) (fun v ev => ?_)
      refine g_if (fun w => g_C ⟨by decide, h0 (fun z => ?_)⟩) (fun w => ?_)
      · obtain ⟨i, i0, i1, hi⟩ := z
        exact hn i i0 (by omega) hi
      have ra := rd (57 + 3 * k) (by omega) (by omega)
      have rb := rd (57 + 3 * k + 1) (by omega) (by omega)
      refine g_C ?_
      refine g_C ?_
      refine g_M (by omega) (by omega) ?_
      refine g_A (by omega) (by omega) ?_
      have nx : ¬ ((D (57 + 3 * k) = u1 ∧ D (57 + 3 * k + 1) = u2) ∨ (D (57 + 3 * k) = u2 ∧ D (57 + 3 * k + 1) = u1)) → wp_X12_isRoadTold_70 S (fun a0 a1 a2 a3 M => wp_X12_isRoadTold_2 S K N a0 a1 a2 a3 M) K 336 u1 u2 k m := by
        intro z
        refine u_X12_isRoadTold_70 ?_
        refine g_A (by omega) (by omega) ?_
        refine ih (k + 1) (by omega) (by omega) (fun i i0 i1 => ?_) (by omega)
        by_cases e : i = k
        · rw [e]; exact z
        · exact hn i i0 (by omega)
      have se : ¬ (D (57 + 3 * k) = u1 ∧ D (57 + 3 * k + 1) = u2) → wp_X12_isRoadTold_44 S (fun a0 a1 a2 a3 M => wp_X12_isRoadTold_2 S K N a0 a1 a2 a3 M) K 336 u1 u2 k (57 + 3 * k) m := by
        intro z
        refine u_X12_isRoadTold_44 ?_
        refine g_getr 7 342 rfl hS.k336 hm.f_336_7 (by decide) ?_
        refine g_ldu hS.k342 hS.l342 (by omega) (by omega) (fun x ex => ?_)
        refine g_if (fun w2 => nx (fun y => by rcases y with y | y; exact z y; exact w2 (by omega))) (fun w2 => ?_)
        refine g_getr 7 342 rfl hS.k336 hm.f_336_7 (by decide) ?_
        refine g_C ?_
        refine g_A (by omega) (by omega) ?_
        refine g_ldu hS.k342 hS.l342 (by omega) (by omega) (fun x2 ex2 => ?_)
        refine g_if (fun w3 => nx (fun y => by rcases y with y | y; exact z y; exact w3 (by omega))) (fun w3 => ?_)
        exact g_C ⟨by decide, h1 ⟨k, k0, by omega, Or.inr ⟨by omega, by omega⟩⟩⟩
      refine g_getr 7 342 rfl hS.k336 hm.f_336_7 (by decide) ?_
      refine g_ldu hS.k342 hS.l342 (by omega) (by omega) (fun x ex => ?_)
      refine g_if (fun w2 => se (fun y => w2 (by omega))) (fun w2 => ?_)
      refine g_getr 7 342 rfl hS.k336 hm.f_336_7 (by decide) ?_
      refine g_C ?_
      refine g_A (by omega) (by omega) ?_
      refine g_ldu hS.k342 hS.l342 (by omega) (by omega) (fun x2 ex2 => ?_)
      refine g_if (fun w3 => g_C ⟨by decide, h1 ⟨k, k0, by omega, Or.inl ⟨by omega, by omega⟩⟩⟩) (fun w3 => se (fun y => w3 (by omega)))
  exact ⟨9, L 9 0 (by decide) (by omega) (fun i i0 i1 => absurd i1 (by omega)) (by decide)⟩
theorem zc_isDairyHere {X : Mm} {S : Sh} {m0 : Mm} {K : Int → Mm → Prop} {b : Int → Int} {n k u1 : Int} {T : Int → Dd → Prop} {D : Dd} (hS : Shp S) (hm0 : Inv X S m0) (ht : TR X b n) (rd : Rd D m0) (h9 : m0 336 9 = 0) (hq : m0 336 8 = u1) (h1 : 0 ≤ u1) (h1' : u1 ≤ n) (wk : Wk b n 0 u1) (hp : PR m0) (hF : ¬ D 0 = 0 → T (5 + 8 * u1) dz) (hL : D 0 = 0 → Ld b n T 1 0 0 (u1 + tl 0) k D) (hf : ∀ M1 : Mm, Inv X S M1 → ¬ M1 336 9 = 0 → T (M1 336 9) dz → K 0 M1) (hk : ∀ (M1 : Mm) (D' : Dd), Inv X S M1 → PR M1 → Rd D' M1 → 2 ≤ D' 0 → (∀ p : Int, (p = 11 ∨ p = 14) → M1 336 p = m0 336 p) → u1 ≤ M1 336 8 → M1 336 8 ≤ n → M1 336 9 = 0 → Ld b n T 2 0 0 (M1 336 8) k D' → K 1 M1) : wp_X12_isDairyHere S m0 336 u1 K := by
  have nb := ht.2.1
  have c0 := hm0.f_342_0
  have c4 := hm0.f_342_4
  have c5 := hm0.f_342_5
  have r0 := rd 0 (by decide) (by decide)
  refine u_X12_isDairyHere ?_
  refine g_getr 7 342 rfl hS.k336 hm0.f_336_7 (by decide) ?_
  refine g_C ?_
  refine g_ldu hS.k342 hS.l342 (by omega) (by omega) (fun v0 ev0 => ?_)
  refine g_if (fun w => ?_) (fun w => ?_)
  · have l0 := hL (by omega)
    refine ⟨hS.k336, ?_⟩
    refine zx_passWord 0 hS hm0 ht hq h1 (by decide) wk (fun m1 hm1 f1 x1 le1 => ?_)
    have tk := tl_r 0 (by decide)
    have y1 : m1 336 9 = 0 := (f1 336 9 (by first | decide | exact fun z => absurd z.1 (by decide) | exact ⟨fun z => absurd z.1 (by decide), fun z => absurd z.1 (by decide)⟩ | omega)).trans h9
    rw [← x1] at l0
    refine g_C ?_
    refine g_C ?_
    refine ⟨hS.k336, ?_⟩
    refine zx_num hS hm1 ht y1 (by omega) (fun q r m2 hm2 f2 sk qd dr a5 al ah nn x10 x8 rn => ?_) (fun q m2 hm2 sk q0 nd x9 => ?_) (fun q r m2 hm2 sk q0 qd dr bad x9 => ?_)
    rotate_left
    · refine g_ifF (by decide) (g_C ⟨by decide, hf m2 hm2 (by omega) ?_⟩)
      rw [x9]
      exact l0.bad0 sk nd
    · refine g_ifF (by decide) (g_C ⟨by decide, hf m2 hm2 (by omega) ?_⟩)
      rw [x9]
      refine l0.bad1 sk qd dr ?_
      rcases bad with z | z | z
      · exact Or.inl z
      · exact Or.inr (Or.inl z)
      · exact Or.inr (Or.inr (Or.inl z))
    have sk1 := sk.1
    have dr1 := dr.1
    have b81 := hm1.f_336_8
    obtain ⟨v, ev⟩ : ∃ v : Int, nv b q r = v := ⟨_, rfl⟩
    have l2 := l0.nx sk qd dr (fun z => by rcases z with z | z | z | z; exact a5 z; exact al z; exact ah z; exact absurd z.1 (by decide)) (by decide)
    rw [ev] at al ah nn x10 l2
    rw [← x8] at l2
    have y2 : m2 336 9 = 0 := (f2 336 9 (by first | decide | exact fun z => absurd z.1 (by decide) | exact ⟨fun z => absurd z.1 (by decide), fun z => absurd z.1 (by decide)⟩ | omega)).trans y1
    obtain ⟨D2, eD2⟩ : ∃ z : Dd, z = ud D 200 v := ⟨_, rfl⟩
    have l2 : Ld b n T 1 0 1 (m2 336 8) k D2 := by rw [eD2]; exact l2
    have gD2 : ∀ p : Int, ¬ p = 200 → D2 p = D p := fun p z => by rw [eD2]; exact ud_ne z
    have r2 : Rd D2 m2 := fun p p0 p1 => by rw [gD2 p (by omega), f2 342 p (by first | decide | exact fun z => absurd z.1 (by decide) | exact ⟨fun z => absurd z.1 (by decide), fun z => absurd z.1 (by decide)⟩ | omega), f1 342 p (by first | decide | exact fun z => absurd z.1 (by decide) | exact ⟨fun z => absurd z.1 (by decide), fun z => absurd z.1 (by decide)⟩ | omega)]; exact rd p p0 p1
    refine g_ifT (by decide) ?_
    refine g_getu 10 rfl hS.k336 (fun v2 ev2 => ?_)
    have ev2' : v2 = v := by omega
    refine g_C ?_
    refine g_C ?_
    refine g_C ?_
    refine ⟨hS.k336, ?_⟩
    refine zc_cell 0 1 hS hm2 ht r2 y2 (by omega) l2 (lo := 0) (hi := 9) rfl (by decide) (by decide) rfl rfl (fun v lv uv => okb_of (l := 0) (u := 9) (by decide +kernel) lv uv) (fun m8 hm8 n8 t8 => g_ifT rfl (g_C ⟨by decide, hf m8 hm8 n8 t8⟩)) (fun q3 v3 m3 hm3 f3 lo3 hi3 q03 qn3 sk3 xv3 r3 y3 n3 p3 ln3 _ _ => ?_)
    have l3 := ln3 (fun z => absurd z.1 (by decide)) (by decide)
    refine g_ifF (by decide) ?_
    refine g_C ?_
    refine g_C ?_
    refine g_C ?_
    refine ⟨hS.k336, ?_⟩
    refine zc_cell 0 2 hS hm3 ht r3 y3 (by omega) l3 (lo := 10) (hi := 99) rfl (by decide) (by decide) rfl rfl (fun v lv uv => okb_of (l := 0) (u := 99) (by decide +kernel) (by omega) (by omega)) (fun m8 hm8 n8 t8 => g_ifF (by decide) (g_C ⟨by decide, hf m8 hm8 n8 t8⟩)) (fun q4 v4 m4 hm4 f4 lo4 hi4 q04 qn4 sk4 xv4 r4 y4 n4 p4 _ le4 _ => ?_)
    have l4 := le4 (fun z => absurd z.1 (by decide)) rfl
    have e200 : ud (ud D2 1 v3) 2 v4 200 = v2 := by rw [ud_ne (by omega), ud_ne (by omega), eD2, ud_at, ev2']
    have eF : dFin (ud (ud D2 1 v3) 2 v4) 0 = ud (ud (ud D2 1 v3) 2 v4) 0 v2 := by
      show ud (ud (ud D2 1 v3) 2 v4) 0 (ud (ud D2 1 v3) 2 v4 200) = _
      rw [e200]
    rw [eF] at l4
    refine g_ifT (by decide) ?_
    refine g_getr 7 342 rfl hS.k336 hm4.f_336_7 (by decide) ?_
    refine g_C ?_
    refine g_st hS.k342 hS.l342 (by omega) (by omega) (hm4.w342 (by omega) (okb_of (l := 0) (u := 6) (by decide +kernel) (by omega) (by omega))) (fun m5 e5 hm5 => ?_)
    have f5 : ∀ c p : Int, ¬ (c = 342 ∧ p = 0) → m5 c p = m4 c p := fun c p q => (congrFun (congrFun e5 _) _).trans (up_ne q)
    have x5 : m5 342 0 = v2 := (congrFun (congrFun e5 _) _).trans (up_at _ _ _ _)
    have r5 := r4.up (fun p z => f5 342 p (fun y => z y.2)) x5
    have e8 : m5 336 8 = m4 336 8 := f5 336 8 (by first | decide | exact fun z => absurd z.1 (by decide) | exact ⟨fun z => absurd z.1 (by decide), fun z => absurd z.1 (by decide)⟩ | omega)
    rw [← e8] at l4
    have F : ∀ c p : Int, ¬ (c = 336 ∧ 8 ≤ p ∧ p ≤ 10) ∧ ¬ (c = 342 ∧ (p = 0 ∨ p = 1 ∨ p = 2)) → m5 c p = m0 c p := fun c p q => by rw [f5 c p (by first | exact fun y => absurd (y.1 ▸ z) (by decide) | exact fun y => absurd (y.1 ▸ q) (by decide) | exact z | exact q | exact z.1 | exact q.1 | exact z.2 | exact q.2 | omega), f4 c p (by first | exact fun y => absurd (y.1 ▸ z) (by decide) | exact fun y => absurd (y.1 ▸ q) (by decide) | exact z | exact q | exact z.1 | exact q.1 | exact z.2 | exact q.2 | omega), f3 c p (by first | exact fun y => absurd (y.1 ▸ z) (by decide) | exact fun y => absurd (y.1 ▸ q) (by decide) | exact z | exact q | exact z.1 | exact q.1 | exact z.2 | exact q.2 | omega), f2 c p (by first | exact fun y => absurd (y.1 ▸ z) (by decide) | exact fun y => absurd (y.1 ▸ q) (by decide) | exact z | exact q | exact z.1 | exact q.1 | exact z.2 | exact q.2 | omega), f1 c p (by first | exact fun y => absurd (y.1 ▸ z) (by decide) | exact fun y => absurd (y.1 ▸ q) (by decide) | exact z | exact q | exact z.1 | exact q.1 | exact z.2 | exact q.2 | omega)]
    have z0 : ud (ud (ud D2 1 v3) 2 v4) 0 v2 0 = v2 := ud_at _ _ _
    refine g_C ⟨by decide, hk m5 _ hm5 ?_ r5 (by omega) (fun p q => F 336 p (by first | decide | exact fun z => absurd z.1 (by decide) | exact ⟨fun z => absurd z.1 (by decide), fun z => absurd z.1 (by decide)⟩ | omega)) (by omega) (by omega) (by rw [f5 336 9 (by first | decide | exact fun z => absurd z.1 (by decide) | exact ⟨fun z => absurd z.1 (by decide), fun z => absurd z.1 (by decide)⟩ | omega)]; exact y4) l4⟩
    unfold PR at hp ⊢
    rw [F 342 4 (by first | decide | exact fun z => absurd z.1 (by decide) | exact ⟨fun z => absurd z.1 (by decide), fun z => absurd z.1 (by decide)⟩ | omega), F 342 5 (by first | decide | exact fun z => absurd z.1 (by decide) | exact ⟨fun z => absurd z.1 (by decide), fun z => absurd z.1 (by decide)⟩ | omega)]
    refine ⟨fun a a0 a1 => ?_, fun a a0 a1 => ?_⟩
    · have q := hp.1 a a0 a1
      obtain ⟨q1, q2⟩ := rq_hp a.toNat (by omega)
      have q3 := hm0.rd 342 (10 + 5 * a.toNat) 0 5 (by decide) q1 q2 (by decide)
      rw [show ((342 : Nat) : Int) = 342 from rfl, show ((10 + 5 * a.toNat : Nat) : Int) = 10 + 5 * a by omega] at q3
      exfalso; omega
    · have q := hp.2 a a0 a1
      obtain ⟨q1, q2⟩ := rq_jp a.toNat (by omega)
      have q3 := hm0.rd 342 (35 + 4 * a.toNat) 0 5 (by decide) q1 q2 (by decide)
      rw [show ((342 : Nat) : Int) = 342 from rfl, show ((35 + 4 * a.toNat : Nat) : Int) = 35 + 4 * a by omega] at q3
      exfalso; omega
  · refine g_C ?_
    refine ⟨hS.k336, ?_⟩
    refine zx_fails hS hm0 h9 (by decide) (by decide) (by omega) (by omega) (fun m9 hm9 f9 y9 => ?_)
    refine ⟨by decide, hf m9 hm9 (by omega) ?_⟩
    rw [y9, show 1 + 8 * u1 + 4 = 5 + 8 * u1 by omega]
    exact hF (by omega)
theorem zc_isRoadHere {X : Mm} {S : Sh} {m0 : Mm} {K : Int → Mm → Prop} {b : Int → Int} {n k u1 : Int} {T : Int → Dd → Prop} {D : Dd} (hS : Shp S) (hm0 : Inv X S m0) (ht : TR X b n) (rd : Rd D m0) (h9 : m0 336 9 = 0) (hq : m0 336 8 = u1) (h1 : 0 ≤ u1) (h1' : u1 ≤ n) (wk : Wk b n 1 u1) (hp : PR m0) (d0 : 2 ≤ D 0) (hF : dFull D 1 → T (5 + 8 * u1) dz) (hL : ¬ dFull D 1 → Ld b n T 1 1 0 (u1 + tl 1) k D) (hf : ∀ M1 : Mm, Inv X S M1 → ¬ M1 336 9 = 0 → T (M1 336 9) dz → K 0 M1) (hk : ∀ (M1 : Mm) (D' : Dd), Inv X S M1 → PR M1 → Rd D' M1 → 2 ≤ D' 0 → (∀ p : Int, (p = 11 ∨ p = 14) → M1 336 p = m0 336 p) → u1 ≤ M1 336 8 → M1 336 8 ≤ n → M1 336 9 = 0 → Ld b n T 2 0 0 (M1 336 8) k D' → K 1 M1) : wp_X12_isRoadHere S m0 336 u1 K := by
  have nb := ht.2.1
  have c0 := hm0.f_342_0
  have c4 := hm0.f_342_4
  have c5 := hm0.f_342_5
  have cc := hm0.f_342_3
  have r0 := rd 0 (by decide) (by decide)
  have rc := rd 3 (by decide) (by decide)
  have bad : ∀ (m : Mm) (a : Int), Inv X S m → m 336 9 = 0 → 0 ≤ a → a ≤ n → T (2 + 8 * a) dz → wp_X12_isRoadHere_122 S K 336 a m := by
    intro m a hm hm9 a0 a1 ta
    refine u_X12_isRoadHere_122 ?_
    refine g_C ?_
    refine ⟨hS.k336, ?_⟩
    refine zx_fails hS hm hm9 (by decide) (by decide) (by omega) (by omega) (fun m9 hm9 f9 y9 => ?_)
    refine ⟨by decide, hf m9 hm9 (by omega) ?_⟩
    rw [y9, show 1 + 8 * a + 1 = 2 + 8 * a by omega]
    exact ta
  refine u_X12_isRoadHere ?_
  refine g_getr 7 342 rfl hS.k336 hm0.f_336_7 (by decide) ?_
  refine g_C ?_
  refine g_ldu hS.k342 hS.l342 (by omega) (by omega) (fun v0 ev0 => ?_)
  refine g_C ?_
  refine g_if (fun w => ?_) (fun w => ?_)
  · have l0 := hL (fun z => w (by have z2 : D 3 = 8 := z; omega))
    refine ⟨hS.k336, ?_⟩
    refine zx_passWord 1 hS hm0 ht hq h1 (by decide) wk (fun m1 hm1 f1 x1 le1 => ?_)
    have tk := tl_r 1 (by decide)
    have r1 : Rd D m1 := rd.same (fun p => f1 342 p (by first | decide | exact fun z => absurd z.1 (by decide) | exact ⟨fun z => absurd z.1 (by decide), fun z => absurd z.1 (by decide)⟩ | omega))
    have y1 : m1 336 9 = 0 := (f1 336 9 (by first | decide | exact fun z => absurd z.1 (by decide) | exact ⟨fun z => absurd z.1 (by decide), fun z => absurd z.1 (by decide)⟩ | omega)).trans h9
    rw [← x1] at l0
    refine g_C ?_
    refine g_C ?_
    refine g_getr 7 342 rfl hS.k336 hm1.f_336_7 (by decide) ?_
    refine g_C ?_
    refine g_ldu hS.k342 hS.l342 (by omega) (by omega) (fun n0 en => ?_)
    rw [f1 342 _ (by first | decide | exact fun z => absurd z.1 (by decide) | exact ⟨fun z => absurd z.1 (by decide), fun z => absurd z.1 (by decide)⟩ | omega)] at en
    have dn : D 3 = n0 := by omega
    refine g_M (by omega) (by omega) ?_
    refine g_A (by omega) (by omega) ?_
    refine g_C ?_
    refine g_getr 7 342 rfl hS.k336 hm1.f_336_7 (by decide) ?_
    refine g_C ?_
    refine g_ldu hS.k342 hS.l342 (by omega) (by omega) (fun pp epp => ?_)
    rw [f1 342 _ (by first | decide | exact fun z => absurd z.1 (by decide) | exact ⟨fun z => absurd z.1 (by decide), fun z => absurd z.1 (by decide)⟩ | omega)] at epp
    refine g_C ?_
    refine g_S (by omega) (by omega) ?_
    refine ⟨hS.k336, ?_⟩
    have rq := rq_57 n0.toNat (by omega)
    refine zc_cell 1 0 hS hm1 ht r1 y1 (by omega) l0 (lo := 0) (hi := pp - 1) (by show 57 + 3 * D 3 + ((0 : Nat) : Int) = _; omega) (by omega) (by omega) rfl (by show D 0 - 1 = _; omega) (fun v lv uv => okb_of (l := 0) (u := 5) (by rw [show (57 + 3 * n0).toNat = 57 + 3 * n0.toNat by omega]; exact rq.1) (by omega) (by omega)) (fun m8 hm8 n8 t8 => g_ifF (by decide) (g_C ⟨by decide, hf m8 hm8 n8 t8⟩)) (fun q2 v2 m2 hm2 f2 lo2 hi2 q02 qn2 sk2 xv2 r2 y2 n2 p2 ln2 _ _ => ?_)
    refine g_ifT (by decide) ?_
    obtain ⟨D2, eD2⟩ : ∃ z : Dd, z = ud D (57 + 3 * n0) v2 := ⟨_, rfl⟩
    have gD2 : ∀ p : Int, ¬ p = 57 + 3 * n0 → D2 p = D p := fun p z => by rw [eD2]; exact ud_ne z
    have xD2 : D2 (57 + 3 * n0) = v2 := by rw [eD2]; exact ud_at _ _ _
    rw [← eD2] at r2 ln2
    have dn2 : D2 3 = n0 := (gD2 3 (by omega)).trans dn
    have d02 : D2 0 = D 0 := gD2 0 (by omega)
    have l2 := ln2 (fun z => absurd z.2.1 (by decide)) (by decide)
    refine ⟨hS.k336, ?_⟩
    refine zx_see hS hm2 ht (by omega) (fun r3 q3 m3 hm3 f3 sk3 x3 hq3 _ => ?_)
    have sk31 := sk3.1
    have b82 := hm2.f_336_8
    have l3 := l2.sk sk3
    rw [← x3] at l3
    have R3 : Rd D2 m3 := r2.same (fun p => f3 342 p (by first | decide | exact fun z => absurd z.1 (by decide) | exact ⟨fun z => absurd z.1 (by decide), fun z => absurd z.1 (by decide)⟩ | omega))
    have y3 : m3 336 9 = 0 := (f3 336 9 (by first | decide | exact fun z => absurd z.1 (by decide) | exact ⟨fun z => absurd z.1 (by decide), fun z => absurd z.1 (by decide)⟩ | omega)).trans y2
    refine g_getu 8 rfl hS.k336 (fun at' eat => ?_)
    refine g_C ?_
    refine g_A (by omega) (by omega) ?_
    refine g_C ?_
    refine g_getr 7 342 rfl hS.k336 hm3.f_336_7 (by decide) ?_
    refine g_C ?_
    refine g_ldu hS.k342 hS.l342 (by omega) (by omega) (fun p2' ep2 => ?_)
    rw [f3 342 _ (by first | decide | exact fun z => absurd z.1 (by decide) | exact ⟨fun z => absurd z.1 (by decide), fun z => absurd z.1 (by decide)⟩ | omega), f2 342 _ (by first | decide | exact fun z => absurd z.1 (by decide) | exact ⟨fun z => absurd z.1 (by decide), fun z => absurd z.1 (by decide)⟩ | omega), f1 342 _ (by first | decide | exact fun z => absurd z.1 (by decide) | exact ⟨fun z => absurd z.1 (by decide), fun z => absurd z.1 (by decide)⟩ | omega)] at ep2
    refine g_C ?_
    refine g_S (by omega) (by omega) ?_
    refine ⟨hS.k336, ?_⟩
    refine zc_cell 1 1 hS hm3 ht R3 y3 (by omega) l3 (lo := 0) (hi := p2' - 1) (by show 57 + 3 * D2 3 + ((1 : Nat) : Int) = _; omega) (by omega) (by omega) rfl (by show D2 0 - 1 = _; omega) (fun v lv uv => okb_of (l := 0) (u := 5) (by rw [show (57 + 3 * n0 + 1).toNat = 57 + 3 * n0.toNat + 1 by omega]; exact rq.2.1) (by omega) (by omega)) (fun m8 hm8 n8 t8 => g_ifF (by decide) (g_C ⟨by decide, hf m8 hm8 n8 t8⟩)) (fun q4 v4 m4 hm4 f4 lo4 hi4 q04 qn4 sk4 xv4 r4 y4 n4 p4 ln4 _ bd4 => ?_)
    refine g_ifT (by decide) ?_
    have eq4 : q4 = at' := by
      have z : Sk b n q3 q4 := by rw [x3] at sk4; exact sk4
      have z2 := sk3.idem.uniq z
      omega
    rw [eq4] at bd4
    obtain ⟨D4, eD4⟩ : ∃ z : Dd, z = ud D2 (57 + 3 * n0 + 1) v4 := ⟨_, rfl⟩
    have gD4 : ∀ p : Int, ¬ p = 57 + 3 * n0 + 1 → D4 p = D2 p := fun p z => by rw [eD4]; exact ud_ne z
    have rt : Rt D4 v2 v4 ↔ Rt D2 v2 v4 := by rw [eD4]; exact Rt_ud (by omega) (by omega)
    rw [← eD4] at r4 ln4
    have dn4 : D4 3 = n0 := (gD4 3 (by omega)).trans dn2
    have d04 : D4 0 = D 0 := (gD4 0 (by omega)).trans d02
    have b1 : v2 = v4 → dBad D2 1 1 v4 := fun z => ⟨rfl, rfl, Or.inl (by rw [dn2, xD2]; exact z)⟩
    have b2 : Rt D2 v2 v4 → dBad D2 1 1 v4 := fun z => ⟨rfl, rfl, Or.inr (by rw [dn2, xD2]; exact z)⟩
    have b3 : ¬ v2 = v4 → ¬ Rt D2 v2 v4 → ¬ dBad D2 1 1 v4 := fun z1 z2 z => by
      rcases z.2.2 with y | y
      · rw [dn2, xD2] at y; exact z1 y
      · rw [dn2, xD2] at y; exact z2 y
    have xa : m4 342 (57 + 3 * n0) = v2 := by rw [f4 342 _ (by first | decide | exact fun z => absurd z.1 (by decide) | exact ⟨fun z => absurd z.1 (by decide), fun z => absurd z.1 (by decide)⟩ | omega), f3 342 _ (by first | decide | exact fun z => absurd z.1 (by decide) | exact ⟨fun z => absurd z.1 (by decide), fun z => absurd z.1 (by decide)⟩ | omega)]; exact xv2
    refine g_getr 7 342 rfl hS.k336 hm4.f_336_7 (by decide) ?_
    refine g_ldu hS.k342 hS.l342 (by omega) (by omega) (fun a1 ea1 => ?_)
    refine g_getr 7 342 rfl hS.k336 hm4.f_336_7 (by decide) ?_
    refine g_C ?_
    refine g_A (by omega) (by omega) ?_
    refine g_ldu hS.k342 hS.l342 (by omega) (by omega) (fun a2 ea2 => ?_)
    refine g_if (fun w2 => bad m4 at' hm4 y4 (by omega) (by omega) (bd4 (b1 (by omega)))) (fun w2 => ?_)
    refine g_getr 7 342 rfl hS.k336 hm4.f_336_7 (by decide) ?_
    refine g_ldu hS.k342 hS.l342 (by omega) (by omega) (fun a3 ea3 => ?_)
    refine g_getr 7 342 rfl hS.k336 hm4.f_336_7 (by decide) ?_
    refine g_C ?_
    refine g_A (by omega) (by omega) ?_
    refine g_ldu hS.k342 hS.l342 (by omega) (by omega) (fun a4 ea4 => ?_)
    rw [xa] at ea3
    rw [xv4] at ea4
    refine ⟨hS.k336, ?_⟩
    rw [ea3, ea4]
    refine zc_isRoadTold hS hm4 r4 (fun z => g_ifF (by decide) (bad m4 at' hm4 y4 (by omega) (by omega) (bd4 (b2 (rt.mp z))))) (fun z => g_ifT rfl ?_)
    have l4 := ln4 (b3 (by omega) (fun y => z (rt.mpr y))) (by decide)
    refine g_C ?_
    refine g_A (by omega) (by omega) ?_
    refine g_C ?_
    refine g_C ?_
    refine ⟨hS.k336, ?_⟩
    refine zc_cell 1 2 hS hm4 ht r4 y4 (by omega) l4 (lo := 1) (hi := 5) (by show 57 + 3 * D4 3 + ((2 : Nat) : Int) = _; omega) (by omega) (by omega) rfl rfl (fun v lv uv => okb_of (l := 0) (u := 5) (by rw [show (57 + 3 * n0 + 2).toNat = 57 + 3 * n0.toNat + 2 by omega]; exact rq.2.2) (by omega) (by omega)) (fun m8 hm8 n8 t8 => g_ifF (by decide) (g_C ⟨by decide, hf m8 hm8 n8 t8⟩)) (fun q5 v5 m5 hm5 f5 lo5 hi5 q05 qn5 sk5 xv5 r5 y5 n5 p5 _ le5 _ => ?_)
    obtain ⟨D5, eD5⟩ : ∃ z : Dd, z = ud D4 (57 + 3 * n0 + 2) v5 := ⟨_, rfl⟩
    have gD5 : ∀ p : Int, ¬ p = 57 + 3 * n0 + 2 → D5 p = D4 p := fun p z => by rw [eD5]; exact ud_ne z
    rw [← eD5] at r5 le5
    have dn5 : D5 3 = n0 := (gD5 3 (by omega)).trans dn4
    have d05 : D5 0 = D 0 := (gD5 0 (by omega)).trans d04
    have l5 := le5 (fun z => absurd z.2.1 (by decide)) rfl
    have eF : dFin D5 1 = ud D5 3 (n0 + 1) := by
      show ud D5 3 (D5 3 + 1) = _
      rw [dn5]
    rw [eF] at l5
    refine g_ifT (by decide) ?_
    refine g_getr 7 342 rfl hS.k336 hm5.f_336_7 (by decide) ?_
    refine g_C ?_
    refine g_ldu hS.k342 hS.l342 (by omega) (by omega) (fun q1 eq1 => ?_)
    rw [f5 342 _ (by first | decide | exact fun z => absurd z.1 (by decide) | exact ⟨fun z => absurd z.1 (by decide), fun z => absurd z.1 (by decide)⟩ | omega), f4 342 _ (by first | decide | exact fun z => absurd z.1 (by decide) | exact ⟨fun z => absurd z.1 (by decide), fun z => absurd z.1 (by decide)⟩ | omega), f3 342 _ (by first | decide | exact fun z => absurd z.1 (by decide) | exact ⟨fun z => absurd z.1 (by decide), fun z => absurd z.1 (by decide)⟩ | omega), f2 342 _ (by first | decide | exact fun z => absurd z.1 (by decide) | exact ⟨fun z => absurd z.1 (by decide), fun z => absurd z.1 (by decide)⟩ | omega), f1 342 _ (by first | decide | exact fun z => absurd z.1 (by decide) | exact ⟨fun z => absurd z.1 (by decide), fun z => absurd z.1 (by decide)⟩ | omega)] at eq1
    refine g_C ?_
    refine g_A (by omega) (by omega) ?_
    refine g_st hS.k342 hS.l342 (by omega) (by omega) (hm5.w342 (by omega) (okb_of (l := 0) (u := 8) (by decide +kernel) (by omega) (by omega))) (fun m6 e6 hm6 => ?_)
    have f6 : ∀ c p : Int, ¬ (c = 342 ∧ p = 3) → m6 c p = m5 c p := fun c p q => (congrFun (congrFun e6 _) _).trans (up_ne q)
    have x6 : m6 342 3 = q1 + 1 := (congrFun (congrFun e6 _) _).trans (up_at _ _ _ _)
    have r6 : Rd (ud D5 3 (n0 + 1)) m6 := r5.up (fun p z => f6 342 p (fun y => z y.2)) (by rw [x6]; omega)
    have e8 : m6 336 8 = m5 336 8 := f6 336 8 (by first | decide | exact fun z => absurd z.1 (by decide) | exact ⟨fun z => absurd z.1 (by decide), fun z => absurd z.1 (by decide)⟩ | omega)
    rw [← e8] at l5
    have F : ∀ c p : Int, ¬ (c = 336 ∧ 8 ≤ p ∧ p ≤ 10) ∧ ¬ (c = 342 ∧ (p = 3 ∨ 57 ≤ p)) → m6 c p = m0 c p := fun c p q => by rw [f6 c p (by first | exact fun y => absurd (y.1 ▸ z) (by decide) | exact fun y => absurd (y.1 ▸ q) (by decide) | exact z | exact q | exact z.1 | exact q.1 | exact z.2 | exact q.2 | omega), f5 c p (by first | exact fun y => absurd (y.1 ▸ z) (by decide) | exact fun y => absurd (y.1 ▸ q) (by decide) | exact z | exact q | exact z.1 | exact q.1 | exact z.2 | exact q.2 | omega), f4 c p (by first | exact fun y => absurd (y.1 ▸ z) (by decide) | exact fun y => absurd (y.1 ▸ q) (by decide) | exact z | exact q | exact z.1 | exact q.1 | exact z.2 | exact q.2 | omega), f3 c p (by first | exact fun y => absurd (y.1 ▸ z) (by decide) | exact fun y => absurd (y.1 ▸ q) (by decide) | exact z | exact q | exact z.1 | exact q.1 | exact z.2 | exact q.2 | omega), f2 c p (by first | exact fun y => absurd (y.1 ▸ z) (by decide) | exact fun y => absurd (y.1 ▸ q) (by decide) | exact z | exact q | exact z.1 | exact q.1 | exact z.2 | exact q.2 | omega), f1 c p (by first | exact fun y => absurd (y.1 ▸ z) (by decide) | exact fun y => absurd (y.1 ▸ q) (by decide) | exact z | exact q | exact z.1 | exact q.1 | exact z.2 | exact q.2 | omega)]
    have z0 : ud D5 3 (n0 + 1) 0 = D 0 := (ud_ne (by omega)).trans d05
    refine g_C ⟨by decide, hk m6 _ hm6 (hp.oth (by omega) (by omega) (fun p q => F 342 p (by first | decide | exact fun z => absurd z.1 (by decide) | exact ⟨fun z => absurd z.1 (by decide), fun z => absurd z.1 (by decide)⟩ | omega))) r6 (by omega) (fun p q => F 336 p (by first | decide | exact fun z => absurd z.1 (by decide) | exact ⟨fun z => absurd z.1 (by decide), fun z => absurd z.1 (by decide)⟩ | omega)) (by omega) (by omega) (by rw [f6 336 9 (by first | decide | exact fun z => absurd z.1 (by decide) | exact ⟨fun z => absurd z.1 (by decide), fun z => absurd z.1 (by decide)⟩ | omega)]; exact y5) l5⟩
  · refine g_C ?_
    refine ⟨hS.k336, ?_⟩
    refine zx_fails hS hm0 h9 (by decide) (by decide) (by omega) (by omega) (fun m9 hm9 f9 y9 => ?_)
    refine ⟨by decide, hf m9 hm9 (by omega) ?_⟩
    rw [y9, show 1 + 8 * u1 + 4 = 5 + 8 * u1 by omega]
    exact hF (by show D 3 = 8; omega)
