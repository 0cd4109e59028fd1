section
/-! what is alike on both sides: a SCENE of the class (cells s ..) beside a row D of the reference -/
def DB (D : Int → Int) : Prop := (0 ≤ D 4 ∧ D 4 ≤ 5) ∧ (0 ≤ D 5 ∧ D 5 ≤ 4) ∧ (0 ≤ D 6 ∧ D 6 ≤ 6) ∧ (0 ≤ D 9 ∧ D 9 ≤ 4) ∧ (0 ≤ D 157 ∧ D 157 ≤ 10)
def TT (M : Mm) (s : Int) (D : Int → Int) : Prop := M s 4 = D 157 ∧ ∀ i : Int, 0 ≤ i → i < D 157 → M (s + 21) i = D (117 + 4 * i) ∧ M (s + 22) i = D (117 + 4 * i + 1) ∧ M (s + 23) i = D (117 + 4 * i + 2) ∧ M (s + 24) i = D (117 + 4 * i + 3)
/-- which places of the cells of a DAIRY as told, and of a STATE, count -/
abbrev inT (c p : Int) : Prop := 0 ≤ p ∧ (((c = 1 ∨ c = 2) ∧ p < 36) ∨ ((c = 3 ∨ c = 4) ∧ p < 5) ∨ (5 ≤ c ∧ c ≤ 7 ∧ p < 4) ∨ (8 ≤ c ∧ c ≤ 11 ∧ p < 6))
abbrev inS (c p : Int) : Prop := 0 ≤ p ∧ ((1 ≤ c ∧ c ≤ 3 ∧ p < 5) ∨ (4 ≤ c ∧ c ≤ 6 ∧ p < 4) ∨ (c = 7 ∧ p < 6))
/-- what of a row is told -/
abbrev tp (p : Int) : Prop := (0 ≤ p ∧ p ≤ 6) ∨ p = 9 ∨ (10 ≤ p ∧ p < 35 ∧ 3 ≤ (p - 10) % 5) ∨ (57 ≤ p ∧ p < 117)
theorem Rt_move {D D' : Int → Int} {a c : Int} (b3 : D 3 ≤ 8) (G : ∀ p : Int, tp p → D' p = D p) : Rt D' a c → Rt D a c := by
  intro h
  obtain ⟨k, k0, k1, k2⟩ := h
  rw [G 3 (by omega)] at k1
  rw [G (57 + 3 * k) (by omega), G (57 + 3 * k + 1) (by omega)] at k2
  exact ⟨k, k0, k1, k2⟩
theorem TL.move {M M' : Mm} {u u' : Int} {D D' : Int → Int} (h : TL u D M) (b : DB D) (b3 : D 3 ≤ 8) (h0 : ∀ p : Int, 0 ≤ p → p < 8 → M' u' p = M u p) (hh : ∀ c p : Int, inT c p → M' (u' + c) p = M (u + c) p) (G : ∀ p : Int, tp p → D' p = D p) : TL u' D' M' := by
  obtain ⟨⟨c0, c1, c2, c3, c4, c5, c6, c7⟩, r, hs, ts, ws⟩ := h
  obtain ⟨b4, b5, b6, b9, b157⟩ := b
  have g3 := G 3 (by omega)
  have g4 := G 4 (by omega)
  have g6 := G 6 (by omega)
  have g9 := G 9 (by omega)
  refine ⟨⟨?_, ?_, ?_, ?_, ?_, ?_, ?_, ?_⟩, fun a c a0 a5 c0' c5' => ?_, fun i i0 i1 => ?_, fun i i0 i1 => ?_, fun i i0 i1 => ?_⟩
  · rw [h0 0 (by omega) (by first | decide | exact fun z => absurd z.1 (by decide) | exact ⟨fun z => absurd z.1 (by decide), fun z => absurd z.1 (by decide)⟩ | omega), G 0 (by omega)]; exact c0
  · rw [h0 1 (by omega) (by first | decide | exact fun z => absurd z.1 (by decide) | exact ⟨fun z => absurd z.1 (by decide), fun z => absurd z.1 (by decide)⟩ | omega), G 1 (by omega)]; exact c1
  · rw [h0 2 (by omega) (by first | decide | exact fun z => absurd z.1 (by decide) | exact ⟨fun z => absurd z.1 (by decide), fun z => absurd z.1 (by decide)⟩ | omega), G 2 (by omega)]; exact c2
  · rw [h0 3 (by omega) (by first | decide | exact fun z => absurd z.1 (by decide) | exact ⟨fun z => absurd z.1 (by decide), fun z => absurd z.1 (by decide)⟩ | omega), g3]; exact c3
  · rw [h0 4 (by omega) (by first | decide | exact fun z => absurd z.1 (by decide) | exact ⟨fun z => absurd z.1 (by decide), fun z => absurd z.1 (by decide)⟩ | omega), g4]; exact c4
  · rw [h0 5 (by omega) (by first | decide | exact fun z => absurd z.1 (by decide) | exact ⟨fun z => absurd z.1 (by decide), fun z => absurd z.1 (by decide)⟩ | omega), G 5 (by omega)]; exact c5
  · rw [h0 6 (by omega) (by first | decide | exact fun z => absurd z.1 (by decide) | exact ⟨fun z => absurd z.1 (by decide), fun z => absurd z.1 (by decide)⟩ | omega), g9]; exact c6
  · rw [h0 7 (by omega) (by first | decide | exact fun z => absurd z.1 (by decide) | exact ⟨fun z => absurd z.1 (by decide), fun z => absurd z.1 (by decide)⟩ | omega), g6]; exact c7
  · rw [hh 1 (6 * a + c) (by first | decide | exact fun z => absurd z.1 (by decide) | exact ⟨fun z => absurd z.1 (by decide), fun z => absurd z.1 (by decide)⟩ | omega)]
    rcases r a c a0 a5 c0' c5' with ⟨e, n⟩ | ⟨e, k, k0, k1, k2, k3⟩
    · exact Or.inl ⟨e, fun q => n (Rt_move b3 G q)⟩
    · refine Or.inr ⟨e, k, k0, by rw [g3]; exact k1, ?_, ?_⟩
      · rw [G (57 + 3 * k) (by omega), G (57 + 3 * k + 1) (by omega)]; exact k2
      · rw [G (57 + 3 * k + 2) (by omega)]; exact k3
  · rw [g4] at i1
    rw [hh 3 i (by first | decide | exact fun z => absurd z.1 (by decide) | exact ⟨fun z => absurd z.1 (by decide), fun z => absurd z.1 (by decide)⟩ | omega), hh 4 i (by first | decide | exact fun z => absurd z.1 (by decide) | exact ⟨fun z => absurd z.1 (by decide), fun z => absurd z.1 (by decide)⟩ | omega), G (10 + 5 * i + 3) (by omega), G (10 + 5 * i + 4) (by omega)]
    exact hs i i0 i1
  · rw [g9] at i1
    rw [hh 5 i (by first | decide | exact fun z => absurd z.1 (by decide) | exact ⟨fun z => absurd z.1 (by decide), fun z => absurd z.1 (by decide)⟩ | omega), hh 6 i (by first | decide | exact fun z => absurd z.1 (by decide) | exact ⟨fun z => absurd z.1 (by decide), fun z => absurd z.1 (by decide)⟩ | omega), hh 7 i (by first | decide | exact fun z => absurd z.1 (by decide) | exact ⟨fun z => absurd z.1 (by decide), fun z => absurd z.1 (by decide)⟩ | omega), G (81 + 3 * i) (by omega), G (81 + 3 * i + 1) (by omega), G (81 + 3 * i + 2) (by omega)]
    exact ts i i0 i1
  · rw [g6] at i1
    rw [hh 8 i (by first | decide | exact fun z => absurd z.1 (by decide) | exact ⟨fun z => absurd z.1 (by decide), fun z => absurd z.1 (by decide)⟩ | omega), hh 9 i (by first | decide | exact fun z => absurd z.1 (by decide) | exact ⟨fun z => absurd z.1 (by decide), fun z => absurd z.1 (by decide)⟩ | omega), hh 10 i (by first | decide | exact fun z => absurd z.1 (by decide) | exact ⟨fun z => absurd z.1 (by decide), fun z => absurd z.1 (by decide)⟩ | omega), hh 11 i (by first | decide | exact fun z => absurd z.1 (by decide) | exact ⟨fun z => absurd z.1 (by decide), fun z => absurd z.1 (by decide)⟩ | omega), G (93 + 4 * i) (by omega), G (93 + 4 * i + 1) (by omega), G (93 + 4 * i + 2) (by omega), G (93 + 4 * i + 3) (by omega)]
    exact ws i i0 i1
theorem SR.move {M M' : Mm} {u u' : Int} {D D' : Int → Int} (h : SR M u D) (b : DB D) (h0 : ∀ p : Int, 0 ≤ p → p < 2 → M' u' p = M u p) (hh : ∀ c p : Int, inS c p → M' (u' + c) p = M (u + c) p) (G : ∀ p : Int, 0 ≤ p → p < 57 → D' p = D p) : SR M' u' D' := by
  obtain ⟨⟨r1, r2⟩, r3, r4, r5, r6⟩ := h
  obtain ⟨b4, b5, b6, b9, b157⟩ := b
  have g4 := G 4 (by omega) (by omega)
  have g5 := G 5 (by omega) (by omega)
  have g6 := G 6 (by omega) (by omega)
  refine ⟨⟨?_, ?_⟩, fun i i0 i1 => ?_, fun j j0 j1 => ?_, fun j j0 j1 => ?_, fun w w0 w1 => ?_⟩
  · rw [h0 0 (by omega) (by first | decide | exact fun z => absurd z.1 (by decide) | exact ⟨fun z => absurd z.1 (by decide), fun z => absurd z.1 (by decide)⟩ | omega), G 7 (by omega) (by omega)]; exact r1
  · rw [h0 1 (by omega) (by first | decide | exact fun z => absurd z.1 (by decide) | exact ⟨fun z => absurd z.1 (by decide), fun z => absurd z.1 (by decide)⟩ | omega), G 8 (by omega) (by omega)]; exact r2
  · rw [g4] at i1
    have q := r3 i i0 i1
    unfold SRh at q ⊢
    rw [hh 1 i (by first | decide | exact fun z => absurd z.1 (by decide) | exact ⟨fun z => absurd z.1 (by decide), fun z => absurd z.1 (by decide)⟩ | omega), hh 2 i (by first | decide | exact fun z => absurd z.1 (by decide) | exact ⟨fun z => absurd z.1 (by decide), fun z => absurd z.1 (by decide)⟩ | omega), hh 3 i (by first | decide | exact fun z => absurd z.1 (by decide) | exact ⟨fun z => absurd z.1 (by decide), fun z => absurd z.1 (by decide)⟩ | omega), G (10 + 5 * i) (by omega) (by omega), G (10 + 5 * i + 1) (by omega) (by omega), G (10 + 5 * i + 2) (by omega) (by omega)]
    exact q
  · rw [g5] at j1
    have q := r4 j j0 j1
    unfold SRj at q ⊢
    rw [hh 4 j (by first | decide | exact fun z => absurd z.1 (by decide) | exact ⟨fun z => absurd z.1 (by decide), fun z => absurd z.1 (by decide)⟩ | omega), hh 5 j (by first | decide | exact fun z => absurd z.1 (by decide) | exact ⟨fun z => absurd z.1 (by decide), fun z => absurd z.1 (by decide)⟩ | omega), hh 6 j (by first | decide | exact fun z => absurd z.1 (by decide) | exact ⟨fun z => absurd z.1 (by decide), fun z => absurd z.1 (by decide)⟩ | omega), G (35 + 4 * j) (by omega) (by omega), G (35 + 4 * j + 1) (by omega) (by omega), G (35 + 4 * j + 2) (by omega) (by omega), G (35 + 4 * j + 3) (by omega) (by omega), g4]
    exact q
  · rw [g5] at j0
    rw [hh 4 j (by first | decide | exact fun z => absurd z.1 (by decide) | exact ⟨fun z => absurd z.1 (by decide), fun z => absurd z.1 (by decide)⟩ | omega), hh 5 j (by first | decide | exact fun z => absurd z.1 (by decide) | exact ⟨fun z => absurd z.1 (by decide), fun z => absurd z.1 (by decide)⟩ | omega)]
    exact r5 j j0 j1
  · rw [g6] at w1
    rw [hh 7 w (by first | decide | exact fun z => absurd z.1 (by decide) | exact ⟨fun z => absurd z.1 (by decide), fun z => absurd z.1 (by decide)⟩ | omega), G (51 + w) (by omega) (by omega)]
    exact r6 w w0 w1
theorem TT.move {M M' : Mm} {s s' : Int} {D D' : Int → Int} (h : TT M s D) (b : DB D) (h0 : M' s' 4 = M s 4) (hh : ∀ c p : Int, 21 ≤ c → c ≤ 24 → 0 ≤ p → p < 10 → M' (s' + c) p = M (s + c) p) (G : ∀ p : Int, 117 ≤ p → p < 158 → D' p = D p) : TT M' s' D' := by
  obtain ⟨r1, r2⟩ := h
  obtain ⟨b4, b5, b6, b9, b157⟩ := b
  have g := G 157 (by omega) (by omega)
  refine ⟨by rw [h0, g]; exact r1, fun i i0 i1 => ?_⟩
  rw [g] at i1
  rw [hh 21 i (by first | decide | exact fun z => absurd z.1 (by decide) | exact ⟨fun z => absurd z.1 (by decide), fun z => absurd z.1 (by decide)⟩ | omega) (by first | decide | exact fun z => absurd z.1 (by decide) | exact ⟨fun z => absurd z.1 (by decide), fun z => absurd z.1 (by decide)⟩ | omega) i0 (by omega), hh 22 i (by first | decide | exact fun z => absurd z.1 (by decide) | exact ⟨fun z => absurd z.1 (by decide), fun z => absurd z.1 (by decide)⟩ | omega) (by first | decide | exact fun z => absurd z.1 (by decide) | exact ⟨fun z => absurd z.1 (by decide), fun z => absurd z.1 (by decide)⟩ | omega) i0 (by omega), hh 23 i (by first | decide | exact fun z => absurd z.1 (by decide) | exact ⟨fun z => absurd z.1 (by decide), fun z => absurd z.1 (by decide)⟩ | omega) (by first | decide | exact fun z => absurd z.1 (by decide) | exact ⟨fun z => absurd z.1 (by decide), fun z => absurd z.1 (by decide)⟩ | omega) i0 (by omega), hh 24 i (by first | decide | exact fun z => absurd z.1 (by decide) | exact ⟨fun z => absurd z.1 (by decide), fun z => absurd z.1 (by decide)⟩ | omega) (by first | decide | exact fun z => absurd z.1 (by decide) | exact ⟨fun z => absurd z.1 (by decide), fun z => absurd z.1 (by decide)⟩ | omega) i0 (by omega), G (117 + 4 * i) (by omega) (by omega), G (117 + 4 * i + 1) (by omega) (by omega), G (117 + 4 * i + 2) (by omega) (by omega), G (117 + 4 * i + 3) (by omega) (by omega)]
  exact r2 i i0 i1
theorem DB.move {D D' : Int → Int} (b : DB D) (G : ∀ p : Int, (p = 4 ∨ p = 5 ∨ p = 6 ∨ p = 9 ∨ p = 157) → D' p = D p) : DB D' := by
  unfold DB
  rw [G 4 (by omega), G 5 (by omega), G 6 (by omega), G 9 (by omega), G 157 (by omega)]
  exact b
/-- all of a SCENE but its rule and its seed -/
def RD (M : Mm) (s : Int) (D : Int → Int) : Prop := (DB D ∧ D 3 ≤ 8) ∧ TL (s + 1) D M ∧ SR M (s + 13) D ∧ TT M s D
theorem RD.move {M M' : Mm} {s s' : Int} {D D' : Int → Int} (h : RD M s D) (t0 : ∀ p : Int, 0 ≤ p → p < 8 → M' (s' + 1) p = M (s + 1) p) (t1 : ∀ c p : Int, inT c p → M' (s' + 1 + c) p = M (s + 1 + c) p) (s0 : ∀ p : Int, 0 ≤ p → p < 2 → M' (s' + 13) p = M (s + 13) p) (s1 : ∀ c p : Int, inS c p → M' (s' + 13 + c) p = M (s + 13 + c) p) (x0 : M' s' 4 = M s 4) (x1 : ∀ c p : Int, 21 ≤ c → c ≤ 24 → 0 ≤ p → p < 10 → M' (s' + c) p = M (s + c) p) (G : ∀ p : Int, 0 ≤ p → p < 158 → D' p = D p) : RD M' s' D' := by
  obtain ⟨⟨b, b3⟩, t, r, x⟩ := h
  exact ⟨⟨b.move (fun p q => G p (by omega) (by omega)), by rw [G 3 (by omega) (by omega)]; exact b3⟩, t.move b b3 t0 t1 (fun p q => G p (by omega) (by omega)), r.move b s0 s1 (fun p p0 p1 => G p p0 (by omega)), x.move b x0 x1 (fun p p0 p1 => G p (by omega) p1)⟩
/-- nothing of it is written -/
theorem RD.same {M M' : Mm} {s : Int} {D D' : Int → Int} (h : RD M s D) (F : ∀ c p : Int, s + 1 ≤ c → c ≤ s + 24 → M' c p = M c p) (x0 : M' s 4 = M s 4) (G : ∀ p : Int, 0 ≤ p → p < 158 → D' p = D p) : RD M' s D' := h.move (fun p _ _ => F _ p (by omega) (by omega)) (fun c p q => F _ p (by omega) (by omega)) (fun p _ _ => F _ p (by omega) (by omega)) (fun c p q => F _ p (by omega) (by omega)) x0 (fun c p _ _ _ _ => F _ p (by omega) (by omega)) G
/-- the row of an IMAGE, of an ACT undone -/
def iD (M : Mm) (k : Int) : Int → Int := fun p => M 354 (158 * k + p)
def uD (M : Mm) (r : Int) : Int → Int := fun p => M 347 (57 * r + p)
/-- an ACT that can be undone: row r of the reference, the STATE in cell c of the class; what is told stands in it as it does now -/
def RU (M : Mm) (c r : Int) : Prop := (SR M c (uD M r) ∧ DB (M 346)) ∧ ∀ p : Int, p < 57 → tp p → uD M r p = M 346 p
/-- all that lasts, but rules -/
def RW (M : Mm) : Prop := RD M 3 (M 346) ∧ (∀ k : Int, 0 ≤ k → k ≤ 3 → M 357 k = 0 ∨ RD M (76 + 25 * k) (iD M k)) ∧ M 0 5 = M 336 25 ∧ (∀ r : Int, 0 ≤ r → r < M 336 25 → RU M (176 + 8 * ((M 0 4 + 20 - M 336 25 + r) % 20)) r)
end
section
theorem zx_image12 {S : Sh} {m0 : Mm} {K : Int → Mm → Prop} {u1 : Int} (hS : Shp S) (hj : Jc S m0) (h0 : ¬ (0 ≤ u1 ∧ u1 ≤ 3) → K (-1) m0) (hk : ∀ (r : Int) (M1 : Mm), 0 ≤ u1 → u1 ≤ 3 → Jc S M1 → r = m0 346 7 → (∀ c p : Int, ¬ (c = 354 ∧ 158 * u1 ≤ p ∧ p < 158 * u1 + 158) → ¬ ((c = 355 ∨ c = 356 ∨ c = 357) ∧ p = u1) → M1 c p = m0 c p) → (∀ j : Int, 0 ≤ j → j < 158 → M1 354 (158 * u1 + j) = m0 346 j) → M1 356 u1 = m0 336 22 → M1 357 u1 = 1 → M1 355 u1 = m0 336 21 → K r M1) : wp_X12_image S m0 336 u1 K := by
  have hm0 := hj.inv
  refine u_X12_image ?_
  refine g_C ?_
  refine g_C ?_
  refine g_C ?_
  refine z_in (fun a b => ?_) (fun c => g_ifF (by decide) (g_C (h0 (by omega))))
  refine g_ifT (by decide) ?_
  refine g_getr 37 357 rfl hS.k336 hm0.f_336_37 (by decide) ?_
  refine g_C ?_
  refine g_stzR hS.k357 hS.l357 (by omega) (by omega) (by decide) (fun m1 e1 => ?_)
  have f1 : ∀ c p : Int, ¬ (c = 357 ∧ p = u1) → m1 c p = m0 c p := fun c p q => (congrFun (congrFun e1 _) _).trans (up_ne q)
  have y1 : m1 357 u1 = 1 := (congrFun (congrFun e1 _) _).trans (up_at _ _ _ _)
  refine g_getr 35 355 rfl hS.k336 ((f1 336 35 (by first | decide | exact fun z => absurd z.1 (by decide) | exact ⟨fun z => absurd z.1 (by decide), fun z => absurd z.1 (by decide)⟩ | omega)).trans hm0.f_336_35) (by decide) ?_
  refine g_getu 21 rfl hS.k336 (fun v ev => ?_)
  rw [f1 336 21 (by first | decide | exact fun z => absurd z.1 (by decide) | exact ⟨fun z => absurd z.1 (by decide), fun z => absurd z.1 (by decide)⟩ | omega)] at ev
  refine g_stR hS.k355 hS.l355 (by omega) (by omega) (fun m2 e2 => ?_)
  have f2 : ∀ c p : Int, ¬ (c = 355 ∧ p = u1) → m2 c p = m1 c p := fun c p q => (congrFun (congrFun e2 _) _).trans (up_ne q)
  have y2 : m2 355 u1 = v := (congrFun (congrFun e2 _) _).trans (up_at _ _ _ _)
  refine g_getr 36 356 rfl hS.k336 ((f2 336 36 (by first | decide | exact fun z => absurd z.1 (by decide) | exact ⟨fun z => absurd z.1 (by decide), fun z => absurd z.1 (by decide)⟩ | omega)).trans ((f1 336 36 (by first | decide | exact fun z => absurd z.1 (by decide) | exact ⟨fun z => absurd z.1 (by decide), fun z => absurd z.1 (by decide)⟩ | omega)).trans hm0.f_336_36)) (by decide) ?_
  refine g_getu 22 rfl hS.k336 (fun x ex => ?_)
  rw [f2 336 22 (by first | decide | exact fun z => absurd z.1 (by decide) | exact ⟨fun z => absurd z.1 (by decide), fun z => absurd z.1 (by decide)⟩ | omega), f1 336 22 (by first | decide | exact fun z => absurd z.1 (by decide) | exact ⟨fun z => absurd z.1 (by decide), fun z => absurd z.1 (by decide)⟩ | omega)] at ex
  refine g_stR hS.k356 hS.l356 (by omega) (by omega) (fun m3 e3 => ?_)
  have f3 : ∀ c p : Int, ¬ (c = 356 ∧ p = u1) → m3 c p = m2 c p := fun c p q => (congrFun (congrFun e3 _) _).trans (up_ne q)
  have y3 : m3 356 u1 = x := (congrFun (congrFun e3 _) _).trans (up_at _ _ _ _)
  have F3 : ∀ c p : Int, ¬ ((c = 355 ∨ c = 356 ∨ c = 357) ∧ p = u1) → m3 c p = m0 c p := fun c p q => by rw [f3 c p (by first | exact fun y => absurd (y.1 ▸ z) (by decide) | exact fun y => absurd (y.1 ▸ q) (by decide) | exact z | exact q | exact z.1 | exact q.1 | exact z.2 | exact q.2 | omega), f2 c p (by first | exact fun y => absurd (y.1 ▸ z) (by decide) | exact fun y => absurd (y.1 ▸ q) (by decide) | exact z | exact q | exact z.1 | exact q.1 | exact z.2 | exact q.2 | omega), f1 c p (by first | exact fun y => absurd (y.1 ▸ z) (by decide) | exact fun y => absurd (y.1 ▸ q) (by decide) | exact z | exact q | exact z.1 | exact q.1 | exact z.2 | exact q.2 | omega)]
  have z355 : m3 355 u1 = m0 336 21 := by rw [f3 355 _ (by first | decide | exact fun z => absurd z.1 (by decide) | exact ⟨fun z => absurd z.1 (by decide), fun z => absurd z.1 (by decide)⟩ | omega), y2, ev]
  have z357 : m3 357 u1 = 1 := by rw [f3 357 _ (by first | decide | exact fun z => absurd z.1 (by decide) | exact ⟨fun z => absurd z.1 (by decide), fun z => absurd z.1 (by decide)⟩ | omega), f2 357 _ (by first | decide | exact fun z => absurd z.1 (by decide) | exact ⟨fun z => absurd z.1 (by decide), fun z => absurd z.1 (by decide)⟩ | omega), y1]
  have z356 : m3 356 u1 = m0 336 22 := by rw [y3, ex]
  refine g_C ?_
  have fin : ∀ m : Mm, (∀ c p : Int, ¬ (c = 354 ∧ 158 * u1 ≤ p ∧ p < 158 * u1 + 158) → m c p = m3 c p) → (∀ j : Int, 0 ≤ j → j < 158 → m 354 (158 * u1 + j) = m0 346 j) → Jc S m := by
    intro m f hc
    have F : ∀ c p : Int, ¬ (c = 354 ∧ 158 * u1 ≤ p ∧ p < 158 * u1 + 158) → ¬ ((c = 355 ∨ c = 356 ∨ c = 357) ∧ p = u1) → m c p = m0 c p := fun c p q1 q2 => (f c p q1).trans (F3 c p q2)
    have bH := hm0.f_346_4
    have bJ := hm0.f_346_5
    have b21 := hm0.f_336_21
    have b22 := hm0.f_336_22
    refine hj.chg (fun c p hc' hp => ?_) (fun i => F 30 i (by first | decide | exact fun z => absurd z.1 (by decide) | exact ⟨fun z => absurd z.1 (by decide), fun z => absurd z.1 (by decide)⟩ | omega) (by first | decide | exact fun z => absurd z.1 (by decide) | exact ⟨fun z => absurd z.1 (by decide), fun z => absurd z.1 (by decide)⟩ | omega)) (F 55 1 (by first | decide | exact fun z => absurd z.1 (by decide) | exact ⟨fun z => absurd z.1 (by decide), fun z => absurd z.1 (by decide)⟩ | omega) (by first | decide | exact fun z => absurd z.1 (by decide) | exact ⟨fun z => absurd z.1 (by decide), fun z => absurd z.1 (by decide)⟩ | omega)) ?_ ?_
    · by_cases z : (c : Int) = 354 ∧ 158 * u1 ≤ (p : Int) ∧ (p : Int) < 158 * u1 + 158
      · have z1 : c = 354 := by omega
        subst z1
        refine Or.inr ?_
        obtain ⟨j, hj'⟩ : ∃ j : Nat, (p : Int) = 158 * u1 + j := ⟨((p : Int) - 158 * u1).toNat, by omega⟩
        have e : p = 158 * u1.toNat + j := by omega
        have q := hj.1 346 j (by decide) (by rw [pT_said.1]; omega)
        rw [show ((354 : Nat) : Int) = 354 from rfl, hj', hc j (by omega) (by omega), e, bq_354 _ (by omega) j (by omega)]
        exact q
      · by_cases z2 : ((c : Int) = 355 ∨ (c : Int) = 356 ∨ (c : Int) = 357) ∧ (p : Int) = u1
        · refine Or.inr ?_
          rw [f c p z]
          obtain ⟨z3, z4⟩ := z2
          rw [z4]
          rcases z3 with z3 | z3 | z3
          · have z5 : c = 355 := by omega
            rw [z3, z355, z5, bd_u (b := (-1, 5)) (by decide +kernel)]
            exact Or.inr b21
          · have z5 : c = 356 := by omega
            rw [z3, z356, z5, bd_u (b := (0, 2147483647)) (by decide +kernel)]
            exact Or.inr b22
          · have z5 : c = 357 := by omega
            rw [z3, z357, z5, bd_u (b := (0, 1)) (by decide +kernel)]
            exact Or.inr ⟨by decide, by decide⟩
        · exact Or.inl (F c p z z2)
    · obtain ⟨ga, gb, gc, gd⟩ := hj.2.2.2.1
      unfold Good
      rw [F 336 21 (by first | decide | exact fun z => absurd z.1 (by decide) | exact ⟨fun z => absurd z.1 (by decide), fun z => absurd z.1 (by decide)⟩ | omega) (by first | decide | exact fun z => absurd z.1 (by decide) | exact ⟨fun z => absurd z.1 (by decide), fun z => absurd z.1 (by decide)⟩ | omega), F 336 2 (by first | decide | exact fun z => absurd z.1 (by decide) | exact ⟨fun z => absurd z.1 (by decide), fun z => absurd z.1 (by decide)⟩ | omega) (by first | decide | exact fun z => absurd z.1 (by decide) | exact ⟨fun z => absurd z.1 (by decide), fun z => absurd z.1 (by decide)⟩ | omega)]
      refine ⟨ga, fun k k0 k1 => ?_, gc, fun t t0 t1 => ?_⟩
      · by_cases e : k = u1
        · rw [e, f 355 _ (by first | decide | exact fun z => absurd z.1 (by decide) | exact ⟨fun z => absurd z.1 (by decide), fun z => absurd z.1 (by decide)⟩ | omega), z355]; exact Or.inr ga
        · rw [F 355 k (by first | decide | exact fun z => absurd z.1 (by decide) | exact ⟨fun z => absurd z.1 (by decide), fun z => absurd z.1 (by decide)⟩ | omega) (by first | decide | exact fun z => absurd z.1 (by decide) | exact ⟨fun z => absurd z.1 (by decide), fun z => absurd z.1 (by decide)⟩ | omega), F 357 k (by first | decide | exact fun z => absurd z.1 (by decide) | exact ⟨fun z => absurd z.1 (by decide), fun z => absurd z.1 (by decide)⟩ | omega) (by first | decide | exact fun z => absurd z.1 (by decide) | exact ⟨fun z => absurd z.1 (by decide), fun z => absurd z.1 (by decide)⟩ | omega)]; exact gb k k0 k1
      · exact rulOK_same (gd t t0 t1) (F 341 _ (by first | decide | exact fun z => absurd z.1 (by decide) | exact ⟨fun z => absurd z.1 (by decide), fun z => absurd z.1 (by decide)⟩ | omega) (by first | decide | exact fun z => absurd z.1 (by decide) | exact ⟨fun z => absurd z.1 (by decide), fun z => absurd z.1 (by decide)⟩ | omega)) (fun p _ _ => F 340 p (by first | decide | exact fun z => absurd z.1 (by decide) | exact ⟨fun z => absurd z.1 (by decide), fun z => absurd z.1 (by decide)⟩ | omega) (by first | decide | exact fun z => absurd z.1 (by decide) | exact ⟨fun z => absurd z.1 (by decide), fun z => absurd z.1 (by decide)⟩ | omega)) (fun p _ _ => F 338 p (by first | decide | exact fun z => absurd z.1 (by decide) | exact ⟨fun z => absurd z.1 (by decide), fun z => absurd z.1 (by decide)⟩ | omega) (by first | decide | exact fun z => absurd z.1 (by decide) | exact ⟨fun z => absurd z.1 (by decide), fun z => absurd z.1 (by decide)⟩ | omega))
    · obtain ⟨p1, p2, p3⟩ := hj.2.2.2.2
      have e7 : m 347 = m0 347 := funext (fun p => F 347 p (by first | decide | exact fun z => absurd z.1 (by decide) | exact ⟨fun z => absurd z.1 (by decide), fun z => absurd z.1 (by decide)⟩ | omega) (by first | decide | exact fun z => absurd z.1 (by decide) | exact ⟨fun z => absurd z.1 (by decide), fun z => absurd z.1 (by decide)⟩ | omega))
      have e6 : m 346 = m0 346 := funext (fun p => F 346 p (by first | decide | exact fun z => absurd z.1 (by decide) | exact ⟨fun z => absurd z.1 (by decide), fun z => absurd z.1 (by decide)⟩ | omega) (by first | decide | exact fun z => absurd z.1 (by decide) | exact ⟨fun z => absurd z.1 (by decide), fun z => absurd z.1 (by decide)⟩ | omega))
      unfold PL3
      rw [F 336 25 (by first | decide | exact fun z => absurd z.1 (by decide) | exact ⟨fun z => absurd z.1 (by decide), fun z => absurd z.1 (by decide)⟩ | omega) (by first | decide | exact fun z => absurd z.1 (by decide) | exact ⟨fun z => absurd z.1 (by decide), fun z => absurd z.1 (by decide)⟩ | omega), e7, e6]
      refine ⟨p1, p2, fun k k0 k1 => ?_⟩
      by_cases e : k = u1
      · rw [e]
        have e0 : m 354 (158 * u1) = m0 346 0 := by
          have := hc 0 (by decide) (by decide)
          rw [Int.add_zero] at this
          exact this
        unfold PlOK
        rw [hc 4 (by decide) (by decide), hc 5 (by decide) (by decide), e0]
        refine ⟨fun a a0 a1 => ?_, fun a a0 a1 => ?_⟩
        · show m 354 (158 * u1 + (10 + 5 * a)) < _
          rw [hc _ (by omega) (by omega)]
          exact p1.1 a a0 a1
        · show m 354 (158 * u1 + (35 + 4 * a)) < _
          rw [hc _ (by omega) (by omega)]
          exact p1.2 a a0 a1
      · obtain ⟨q1, q2⟩ := p3 k k0 k1
        have bP4 := hj.bnd 354 (158 * k.toNat + 4) 0 5 (by decide) (by rw [pT_said.2.2.1]; omega) (by rw [bq_354 _ (by omega) 4 (by decide)]; exact bd_said.2.1) (by decide)
        have bP5 := hj.bnd 354 (158 * k.toNat + 5) 0 4 (by decide) (by rw [pT_said.2.2.1]; omega) (by rw [bq_354 _ (by omega) 5 (by decide)]; exact bd_said.2.2) (by decide)
        rw [show ((354 : Nat) : Int) = 354 from rfl, show ((158 * k.toNat + 4 : Nat) : Int) = 158 * k + 4 by omega] at bP4
        rw [show ((354 : Nat) : Int) = 354 from rfl, show ((158 * k.toNat + 5 : Nat) : Int) = 158 * k + 5 by omega] at bP5
        have G : ∀ j : Int, 0 ≤ j → j < 158 → m 354 (158 * k + j) = m0 354 (158 * k + j) := fun j j0 j1 => F 354 _ (by first | decide | exact fun z => absurd z.1 (by decide) | exact ⟨fun z => absurd z.1 (by decide), fun z => absurd z.1 (by decide)⟩ | omega) (by first | decide | exact fun z => absurd z.1 (by decide) | exact ⟨fun z => absurd z.1 (by decide), fun z => absurd z.1 (by decide)⟩ | omega)
        have G0 : m 354 (158 * k) = m0 354 (158 * k) := F 354 _ (by first | decide | exact fun z => absurd z.1 (by decide) | exact ⟨fun z => absurd z.1 (by decide), fun z => absurd z.1 (by decide)⟩ | omega) (by first | decide | exact fun z => absurd z.1 (by decide) | exact ⟨fun z => absurd z.1 (by decide), fun z => absurd z.1 (by decide)⟩ | omega)
        unfold PlOK
        rw [G 4 (by decide) (by decide), G 5 (by decide) (by decide), G0]
        refine ⟨fun a a0 a1 => ?_, fun a a0 a1 => ?_⟩
        · show m 354 (158 * k + (10 + 5 * a)) < _
          rw [G _ (by omega) (by omega)]
          exact q1 a a0 a1
        · show m 354 (158 * k + (35 + 4 * a)) < _
          rw [G _ (by omega) (by omega)]
          exact q2 a a0 a1
  have L : ∀ (n : Nat) (k : Int) (m : Mm), 0 ≤ k → k ≤ 158 → (∀ c p : Int, ¬ (c = 354 ∧ 158 * u1 ≤ p ∧ p < 158 * u1 + 158) → m c p = m3 c p) → (∀ j : Int, 0 ≤ j → j < k → m 354 (158 * u1 + j) = m0 346 j) → 159 - k ≤ (n : Int) → wp_X12_image_43 S K n 336 u1 k m := by
    intro n
    induction n with
    | zero => intro k m _ _ _ _ h; exfalso; omega
    | succ n ih =>
      intro k m k0 k1 f hc h
      have e20 : m 336 20 = 346 := by rw [f 336 20 (by first | decide | exact fun z => absurd z.1 (by decide) | exact ⟨fun z => absurd z.1 (by decide), fun z => absurd z.1 (by decide)⟩ | omega), F3 336 20 (by first | decide | exact fun z => absurd z.1 (by decide) | exact ⟨fun z => absurd z.1 (by decide), fun z => absurd z.1 (by decide)⟩ | omega)]; exact hm0.f_336_20
      have e34 : m 336 34 = 354 := by rw [f 336 34 (by first | decide | exact fun z => absurd z.1 (by decide) | exact ⟨fun z => absurd z.1 (by decide), fun z => absurd z.1 (by decide)⟩ | omega), F3 336 34 (by first | decide | exact fun z => absurd z.1 (by decide) | exact ⟨fun z => absurd z.1 (by decide), fun z => absurd z.1 (by decide)⟩ | omega)]; exact hm0.f_336_34
      refine u_X12_image_43 ?_
      refine g_C ?_
      refine g_if (fun w2 => ?_) (fun w2 => ?_)
      · refine g_getr 20 346 rfl hS.k336 e20 (by decide) ?_
        refine g_C ?_
        refine g_ldu hS.k346 hS.l346 (by omega) (by omega) (fun v3 ev3 => ?_)
        refine hk _ m a b (fin m f (fun j j0 j1 => hc j j0 (by omega))) (by rw [ev3, f 346 7 (by first | decide | exact fun z => absurd z.1 (by decide) | exact ⟨fun z => absurd z.1 (by decide), fun z => absurd z.1 (by decide)⟩ | omega), F3 346 7 (by first | decide | exact fun z => absurd z.1 (by decide) | exact ⟨fun z => absurd z.1 (by decide), fun z => absurd z.1 (by decide)⟩ | omega)]) (fun c p q q2 => ?_) (fun j j0 j1 => hc j j0 (by omega)) ?_ ?_ ?_
        · rw [f c p q, F3 c p q2]
        · rw [f 356 _ (by first | decide | exact fun z => absurd z.1 (by decide) | exact ⟨fun z => absurd z.1 (by decide), fun z => absurd z.1 (by decide)⟩ | omega), z356]
        · rw [f 357 _ (by first | decide | exact fun z => absurd z.1 (by decide) | exact ⟨fun z => absurd z.1 (by decide), fun z => absurd z.1 (by decide)⟩ | omega), z357]
        · rw [f 355 _ (by first | decide | exact fun z => absurd z.1 (by decide) | exact ⟨fun z => absurd z.1 (by decide), fun z => absurd z.1 (by decide)⟩ | omega), z355]
      · refine g_getr 34 354 rfl hS.k336 e34 (by decide) ?_
        refine g_C ?_
        refine g_M (by omega) (by omega) ?_
        refine g_A (by omega) (by omega) ?_
        refine g_getr 20 346 rfl hS.k336 e20 (by decide) ?_
        refine g_ldu hS.k346 hS.l346 (by omega) (by omega) (fun x ex => ?_)
        refine g_stR hS.k354 hS.l354 (by omega) (by omega) (fun m4 e4 => ?_)
        have f4 : ∀ c p : Int, ¬ (c = 354 ∧ p = 158 * u1 + k) → m4 c p = m c p := fun c p q => (congrFun (congrFun e4 _) _).trans (up_ne q)
        have y4 : m4 354 (158 * u1 + k) = x := (congrFun (congrFun e4 _) _).trans (up_at _ _ _ _)
        refine g_A (by omega) (by omega) ?_
        refine ih (k + 1) m4 (by omega) (by omega) (fun c p q => (f4 c p (by first | exact fun y => absurd (y.1 ▸ z) (by decide) | exact fun y => absurd (y.1 ▸ q) (by decide) | exact z | exact q | exact z.1 | exact q.1 | exact z.2 | exact q.2 | omega)).trans (f c p q)) (fun j j0 j1 => ?_) (by omega)
        by_cases e : j = k
        · rw [e, y4, ex, f 346 _ (by first | decide | exact fun z => absurd z.1 (by decide) | exact ⟨fun z => absurd z.1 (by decide), fun z => absurd z.1 (by decide)⟩ | omega), F3 346 _ (by first | decide | exact fun z => absurd z.1 (by decide) | exact ⟨fun z => absurd z.1 (by decide), fun z => absurd z.1 (by decide)⟩ | omega)]
        · rw [f4 354 _ (by first | decide | exact fun z => absurd z.1 (by decide) | exact ⟨fun z => absurd z.1 (by decide), fun z => absurd z.1 (by decide)⟩ | omega)]
          exact hc j j0 (by omega)
  exact ⟨159, L 159 0 m3 (by omega) (by omega) (fun _ _ _ => rfl) (fun j j0 j1 => absurd j1 (by omega)) (by omega)⟩
theorem zx_back12 {S : Sh} {m0 : Mm} {K : Int → Mm → Prop} {u1 : Int} (hS : Shp S) (hj : Jc S m0) (h0 : (¬ (0 ≤ u1 ∧ u1 ≤ 3) ∨ m0 357 u1 = 0) → K (-1) m0) (hk : ∀ (r : Int) (M1 : Mm), 0 ≤ u1 → u1 ≤ 3 → ¬ m0 357 u1 = 0 → Jc S M1 → r = m0 354 (158 * u1 + 7) → M1 336 25 = 0 → (∀ c p : Int, ¬ (c = 346 ∧ 0 ≤ p ∧ p < 158) → ¬ (c = 336 ∧ (p = 21 ∨ p = 22 ∨ p = 25)) → M1 c p = m0 c p) → (∀ j : Int, 0 ≤ j → j < 158 → M1 346 j = m0 354 (158 * u1 + j)) → M1 336 22 = m0 356 u1 → M1 336 21 = m0 355 u1 → K r M1) : wp_X12_back S m0 336 u1 K := by
  have hm0 := hj.inv
  refine u_X12_back ?_
  refine g_C ?_
  refine g_C ?_
  refine g_C ?_
  refine z_in (fun a b => ?_) (fun c => g_ifT rfl (g_C (h0 (Or.inl (by omega)))))
  refine g_ifF (by decide) ?_
  refine g_getr 37 357 rfl hS.k336 hm0.f_336_37 (by decide) ?_
  refine g_ldu hS.k357 hS.l357 (by omega) (by omega) (fun fl efl => ?_)
  refine g_if (fun w => ?_) (fun w => g_C (h0 (Or.inr (by omega))))
  refine g_getr 35 355 rfl hS.k336 hm0.f_336_35 (by decide) ?_
  refine g_ldu hS.k355 hS.l355 (by omega) (by omega) (fun v ev => ?_)
  refine g_putR 21 rfl hS.k336 (fun m1 e1 => ?_)
  have f1 : ∀ c p : Int, ¬ (c = 336 ∧ p = 21) → m1 c p = m0 c p := fun c p q => (congrFun (congrFun e1 _) _).trans (up_ne q)
  have y1 : m1 336 21 = v := (congrFun (congrFun e1 _) _).trans (up_at _ _ _ _)
  refine g_getr 36 356 rfl hS.k336 ((f1 336 36 (by first | decide | exact fun z => absurd z.1 (by decide) | exact ⟨fun z => absurd z.1 (by decide), fun z => absurd z.1 (by decide)⟩ | omega)).trans hm0.f_336_36) (by decide) ?_
  refine g_ldu hS.k356 hS.l356 (by omega) (by omega) (fun x ex => ?_)
  rw [f1 356 _ (by first | decide | exact fun z => absurd z.1 (by decide) | exact ⟨fun z => absurd z.1 (by decide), fun z => absurd z.1 (by decide)⟩ | omega)] at ex
  refine g_putR 22 rfl hS.k336 (fun m2 e2 => ?_)
  have f2 : ∀ c p : Int, ¬ (c = 336 ∧ p = 22) → m2 c p = m1 c p := fun c p q => (congrFun (congrFun e2 _) _).trans (up_ne q)
  have y2 : m2 336 22 = x := (congrFun (congrFun e2 _) _).trans (up_at _ _ _ _)
  refine g_C ?_
  refine g_putR 25 rfl hS.k336 (fun m3 e3 => ?_)
  have f3 : ∀ c p : Int, ¬ (c = 336 ∧ p = 25) → m3 c p = m2 c p := fun c p q => (congrFun (congrFun e3 _) _).trans (up_ne q)
  have z25 : m3 336 25 = 0 := (congrFun (congrFun e3 _) _).trans (up_at _ _ _ _)
  have F3 : ∀ c p : Int, ¬ (c = 336 ∧ (p = 21 ∨ p = 22 ∨ p = 25)) → m3 c p = m0 c p := fun c p q => by rw [f3 c p (by first | exact fun y => absurd (y.1 ▸ z) (by decide) | exact fun y => absurd (y.1 ▸ q) (by decide) | exact z | exact q | exact z.1 | exact q.1 | exact z.2 | exact q.2 | omega), f2 c p (by first | exact fun y => absurd (y.1 ▸ z) (by decide) | exact fun y => absurd (y.1 ▸ q) (by decide) | exact z | exact q | exact z.1 | exact q.1 | exact z.2 | exact q.2 | omega), f1 c p (by first | exact fun y => absurd (y.1 ▸ z) (by decide) | exact fun y => absurd (y.1 ▸ q) (by decide) | exact z | exact q | exact z.1 | exact q.1 | exact z.2 | exact q.2 | omega)]
  have z21 : m3 336 21 = m0 355 u1 := by rw [f3 336 21 (by first | decide | exact fun z => absurd z.1 (by decide) | exact ⟨fun z => absurd z.1 (by decide), fun z => absurd z.1 (by decide)⟩ | omega), f2 336 21 (by first | decide | exact fun z => absurd z.1 (by decide) | exact ⟨fun z => absurd z.1 (by decide), fun z => absurd z.1 (by decide)⟩ | omega), y1, ev]
  have z22 : m3 336 22 = m0 356 u1 := by rw [f3 336 22 (by first | decide | exact fun z => absurd z.1 (by decide) | exact ⟨fun z => absurd z.1 (by decide), fun z => absurd z.1 (by decide)⟩ | omega), y2, ex]
  refine g_C ?_
  have fin : ∀ m : Mm, (∀ c p : Int, ¬ (c = 346 ∧ 0 ≤ p ∧ p < 158) → m c p = m3 c p) → (∀ j : Int, 0 ≤ j → j < 158 → m 346 j = m0 354 (158 * u1 + j)) → Jc S m := by
    intro m f hc
    have F : ∀ c p : Int, ¬ (c = 346 ∧ 0 ≤ p ∧ p < 158) → ¬ (c = 336 ∧ (p = 21 ∨ p = 22 ∨ p = 25)) → m c p = m0 c p := fun c p q1 q2 => (f c p q1).trans (F3 c p q2)
    have b21 := hm0.a_355 (i := u1) (by omega) (by omega)
    have b22 := hm0.a_356 (i := u1) (by omega) (by omega)
    have bP4 := hj.bnd 354 (158 * u1.toNat + 4) 0 5 (by decide) (by rw [pT_said.2.2.1]; omega) (by rw [bq_354 _ (by omega) 4 (by decide)]; exact bd_said.2.1) (by decide)
    have bP5 := hj.bnd 354 (158 * u1.toNat + 5) 0 4 (by decide) (by rw [pT_said.2.2.1]; omega) (by rw [bq_354 _ (by omega) 5 (by decide)]; exact bd_said.2.2) (by decide)
    rw [show ((354 : Nat) : Int) = 354 from rfl, show ((158 * u1.toNat + 4 : Nat) : Int) = 158 * u1 + 4 by omega] at bP4
    rw [show ((354 : Nat) : Int) = 354 from rfl, show ((158 * u1.toNat + 5 : Nat) : Int) = 158 * u1 + 5 by omega] at bP5
    refine hj.chg (fun c p hc' hp => ?_) (fun i => F 30 i (by first | decide | exact fun z => absurd z.1 (by decide) | exact ⟨fun z => absurd z.1 (by decide), fun z => absurd z.1 (by decide)⟩ | omega) (by first | decide | exact fun z => absurd z.1 (by decide) | exact ⟨fun z => absurd z.1 (by decide), fun z => absurd z.1 (by decide)⟩ | omega)) (F 55 1 (by first | decide | exact fun z => absurd z.1 (by decide) | exact ⟨fun z => absurd z.1 (by decide), fun z => absurd z.1 (by decide)⟩ | omega) (by first | decide | exact fun z => absurd z.1 (by decide) | exact ⟨fun z => absurd z.1 (by decide), fun z => absurd z.1 (by decide)⟩ | omega)) ?_ ?_
    · by_cases z : (c : Int) = 346 ∧ (p : Int) < 158
      · have z1 : c = 346 := by omega
        subst z1
        refine Or.inr ?_
        have q := hj.1 354 (158 * u1.toNat + p) (by decide) (by rw [pT_said.2.2.1]; omega)
        rw [bq_354 _ (by omega) p (by omega)] at q
        rw [show ((346 : Nat) : Int) = 346 from rfl, hc p (by omega) (by omega)]
        rw [show ((354 : Nat) : Int) = 354 from rfl, show ((158 * u1.toNat + p : Nat) : Int) = 158 * u1 + p by omega] at q
        exact q
      · by_cases z2 : (c : Int) = 336 ∧ ((p : Int) = 21 ∨ (p : Int) = 22 ∨ (p : Int) = 25)
        · refine Or.inr ?_
          rw [f c p (by omega)]
          obtain ⟨z3, z4⟩ := z2
          have z5 : c = 336 := by omega
          rcases z4 with z4 | z4 | z4
          · have z6 : p = 21 := by omega
            rw [z3, z4, z21, z5, z6]
            exact okb_of (l := -1) (u := 5) (by decide +kernel) b21.1 b21.2
          · have z6 : p = 22 := by omega
            rw [z3, z4, z22, z5, z6]
            exact okb_of (l := 0) (u := 2147483647) (by decide +kernel) b22.1 b22.2
          · have z6 : p = 25 := by omega
            rw [z3, z4, z25, z5, z6]
            exact okb_of (l := 0) (u := 20) (by decide +kernel) (by decide) (by decide)
        · exact Or.inl (F c p (by omega) z2)
    · obtain ⟨ga, gb, gc, gd⟩ := hj.2.2.2.1
      unfold Good
      rw [f 336 21 (by first | decide | exact fun z => absurd z.1 (by decide) | exact ⟨fun z => absurd z.1 (by decide), fun z => absurd z.1 (by decide)⟩ | omega), z21, F 336 2 (by first | decide | exact fun z => absurd z.1 (by decide) | exact ⟨fun z => absurd z.1 (by decide), fun z => absurd z.1 (by decide)⟩ | omega) (by first | decide | exact fun z => absurd z.1 (by decide) | exact ⟨fun z => absurd z.1 (by decide), fun z => absurd z.1 (by decide)⟩ | omega)]
      refine ⟨(gb u1 a (by omega)).resolve_left (by omega), fun k k0 k1 => ?_, gc, fun t t0 t1 => ?_⟩
      · rw [F 355 k (by first | decide | exact fun z => absurd z.1 (by decide) | exact ⟨fun z => absurd z.1 (by decide), fun z => absurd z.1 (by decide)⟩ | omega) (by first | decide | exact fun z => absurd z.1 (by decide) | exact ⟨fun z => absurd z.1 (by decide), fun z => absurd z.1 (by decide)⟩ | omega), F 357 k (by first | decide | exact fun z => absurd z.1 (by decide) | exact ⟨fun z => absurd z.1 (by decide), fun z => absurd z.1 (by decide)⟩ | omega) (by first | decide | exact fun z => absurd z.1 (by decide) | exact ⟨fun z => absurd z.1 (by decide), fun z => absurd z.1 (by decide)⟩ | omega)]; exact gb k k0 k1
      · exact rulOK_same (gd t t0 t1) (F 341 _ (by first | decide | exact fun z => absurd z.1 (by decide) | exact ⟨fun z => absurd z.1 (by decide), fun z => absurd z.1 (by decide)⟩ | omega) (by first | decide | exact fun z => absurd z.1 (by decide) | exact ⟨fun z => absurd z.1 (by decide), fun z => absurd z.1 (by decide)⟩ | omega)) (fun p _ _ => F 340 p (by first | decide | exact fun z => absurd z.1 (by decide) | exact ⟨fun z => absurd z.1 (by decide), fun z => absurd z.1 (by decide)⟩ | omega) (by first | decide | exact fun z => absurd z.1 (by decide) | exact ⟨fun z => absurd z.1 (by decide), fun z => absurd z.1 (by decide)⟩ | omega)) (fun p _ _ => F 338 p (by first | decide | exact fun z => absurd z.1 (by decide) | exact ⟨fun z => absurd z.1 (by decide), fun z => absurd z.1 (by decide)⟩ | omega) (by first | decide | exact fun z => absurd z.1 (by decide) | exact ⟨fun z => absurd z.1 (by decide), fun z => absurd z.1 (by decide)⟩ | omega))
    · obtain ⟨p1, p2, p3⟩ := hj.2.2.2.2
      have e4 : m 354 = m0 354 := funext (fun p => F 354 p (by first | decide | exact fun z => absurd z.1 (by decide) | exact ⟨fun z => absurd z.1 (by decide), fun z => absurd z.1 (by decide)⟩ | omega) (by first | decide | exact fun z => absurd z.1 (by decide) | exact ⟨fun z => absurd z.1 (by decide), fun z => absurd z.1 (by decide)⟩ | omega))
      unfold PL3
      rw [f 336 25 (by first | decide | exact fun z => absurd z.1 (by decide) | exact ⟨fun z => absurd z.1 (by decide), fun z => absurd z.1 (by decide)⟩ | omega), z25, e4]
      obtain ⟨q1, q2⟩ := p3 u1 a (by omega)
      have e0 : m 346 0 = m0 354 (158 * u1) := by
        have := hc 0 (by decide) (by decide)
        rw [Int.add_zero] at this
        exact this
      refine ⟨⟨fun i i0 i1 => ?_, fun i i0 i1 => ?_⟩, fun i i0 i1 => absurd i1 (by omega), p3⟩
      · rw [hc 4 (by decide) (by decide)] at i1
        rw [hc _ (by omega) (by omega), e0]
        exact q1 i i0 i1
      · rw [hc 5 (by decide) (by decide)] at i1
        rw [hc _ (by omega) (by omega), e0]
        exact q2 i i0 i1
  have L : ∀ (n : Nat) (k : Int) (m : Mm), 0 ≤ k → k ≤ 158 → (∀ c p : Int, ¬ (c = 346 ∧ 0 ≤ p ∧ p < 158) → m c p = m3 c p) → (∀ j : Int, 0 ≤ j → j < k → m 346 j = m0 354 (158 * u1 + j)) → 159 - k ≤ (n : Int) → wp_X12_back_50 S K n 336 u1 k m := by
    intro n
    induction n with
    | zero => intro k m _ _ _ _ h; exfalso; omega
    | succ n ih =>
      intro k m k0 k1 f hc h
      have e20 : m 336 20 = 346 := by rw [f 336 20 (by first | decide | exact fun z => absurd z.1 (by decide) | exact ⟨fun z => absurd z.1 (by decide), fun z => absurd z.1 (by decide)⟩ | omega), F3 336 20 (by first | decide | exact fun z => absurd z.1 (by decide) | exact ⟨fun z => absurd z.1 (by decide), fun z => absurd z.1 (by decide)⟩ | omega)]; exact hm0.f_336_20
      have e34 : m 336 34 = 354 := by rw [f 336 34 (by first | decide | exact fun z => absurd z.1 (by decide) | exact ⟨fun z => absurd z.1 (by decide), fun z => absurd z.1 (by decide)⟩ | omega), F3 336 34 (by first | decide | exact fun z => absurd z.1 (by decide) | exact ⟨fun z => absurd z.1 (by decide), fun z => absurd z.1 (by decide)⟩ | omega)]; exact hm0.f_336_34
      refine u_X12_back_50 ?_
      refine g_C ?_
      refine g_if (fun w2 => ?_) (fun w2 => ?_)
      · refine g_getr 20 346 rfl hS.k336 e20 (by decide) ?_
        refine g_C ?_
        refine g_ldu hS.k346 hS.l346 (by omega) (by omega) (fun v3 ev3 => ?_)
        refine hk _ m a b (by omega) (fin m f (fun j j0 j1 => hc j j0 (by omega))) (by rw [ev3]; exact hc 7 (by omega) (by first | decide | exact fun z => absurd z.1 (by decide) | exact ⟨fun z => absurd z.1 (by decide), fun z => absurd z.1 (by decide)⟩ | omega)) (by rw [f 336 25 (by first | decide | exact fun z => absurd z.1 (by decide) | exact ⟨fun z => absurd z.1 (by decide), fun z => absurd z.1 (by decide)⟩ | omega), z25]) (fun c p q q2 => ?_) (fun j j0 j1 => hc j j0 (by omega)) ?_ (by rw [f 336 21 (by first | decide | exact fun z => absurd z.1 (by decide) | exact ⟨fun z => absurd z.1 (by decide), fun z => absurd z.1 (by decide)⟩ | omega), z21])
        · rw [f c p q, F3 c p q2]
        · rw [f 336 22 (by first | decide | exact fun z => absurd z.1 (by decide) | exact ⟨fun z => absurd z.1 (by decide), fun z => absurd z.1 (by decide)⟩ | omega), z22]
      · refine g_getr 20 346 rfl hS.k336 e20 (by decide) ?_
        refine g_getr 34 354 rfl hS.k336 e34 (by decide) ?_
        refine g_C ?_
        refine g_M (by omega) (by omega) ?_
        refine g_A (by omega) (by omega) ?_
        refine g_ldu hS.k354 hS.l354 (by omega) (by omega) (fun y ey => ?_)
        refine g_stR hS.k346 hS.l346 (by omega) (by omega) (fun m4 e4 => ?_)
        have f4 : ∀ c p : Int, ¬ (c = 346 ∧ p = k) → m4 c p = m c p := fun c p q => (congrFun (congrFun e4 _) _).trans (up_ne q)
        have y4 : m4 346 k = y := (congrFun (congrFun e4 _) _).trans (up_at _ _ _ _)
        refine g_A (by omega) (by omega) ?_
        refine ih (k + 1) m4 (by omega) (by omega) (fun c p q => (f4 c p (by first | exact fun y => absurd (y.1 ▸ z) (by decide) | exact fun y => absurd (y.1 ▸ q) (by decide) | exact z | exact q | exact z.1 | exact q.1 | exact z.2 | exact q.2 | omega)).trans (f c p q)) (fun j j0 j1 => ?_) (by omega)
        by_cases e : j = k
        · rw [e, y4, ey, f 354 _ (by first | decide | exact fun z => absurd z.1 (by decide) | exact ⟨fun z => absurd z.1 (by decide), fun z => absurd z.1 (by decide)⟩ | omega), F3 354 _ (by first | decide | exact fun z => absurd z.1 (by decide) | exact ⟨fun z => absurd z.1 (by decide), fun z => absurd z.1 (by decide)⟩ | omega)]
        · rw [f4 346 _ (by first | decide | exact fun z => absurd z.1 (by decide) | exact ⟨fun z => absurd z.1 (by decide), fun z => absurd z.1 (by decide)⟩ | omega)]
          exact hc j j0 (by omega)
  exact ⟨159, L 159 0 m3 (by omega) (by omega) (fun _ _ _ => rfl) (fun j j0 j1 => absurd j1 (by omega)) (by omega)⟩
theorem zx_undo12 {S : Sh} {m0 : Mm} {K : Int → Mm → Prop} (hS : Shp S) (hj : JX S m0) (h0 : m0 336 25 = 0 → K (-1) m0) (hk : ∀ (r : Int) (M1 : Mm), JX S M1 → ¬ m0 336 25 = 0 → r = m0 336 25 - 1 → 0 ≤ r → r ≤ 19 → M1 336 25 = r → (∀ c p : Int, ¬ (c = 346 ∧ 0 ≤ p ∧ p < 57) → ¬ (c = 336 ∧ p = 25) → M1 c p = m0 c p) → (∀ j : Int, 0 ≤ j → j < 57 → M1 346 j = m0 347 (57 * r + j)) → K r M1) : wp_X12_undo S m0 336 K := by
  have hm0 := hj.inv
  have b25 := hm0.f_336_25
  refine u_X12_undo ?_
  refine g_getu 25 rfl hS.k336 (fun v ev => ?_)
  refine g_if (fun w => ?_) (fun w => g_C (h0 (by omega)))
  refine g_getu 25 rfl hS.k336 (fun v2 ev2 => ?_)
  refine g_C ?_
  refine g_S (by omega) (by omega) ?_
  obtain ⟨r, hr⟩ : ∃ r : Int, r = v2 - 1 := ⟨_, rfl⟩
  rw [← hr]
  refine g_putR 25 rfl hS.k336 (fun m1 e1 => ?_)
  have f1 : ∀ c p : Int, ¬ (c = 336 ∧ p = 25) → m1 c p = m0 c p := fun c p q => (congrFun (congrFun e1 _) _).trans (up_ne q)
  have y1 : m1 336 25 = r := (congrFun (congrFun e1 _) _).trans (up_at _ _ _ _)
  refine g_C ?_
  have fin : ∀ m : Mm, (∀ c p : Int, ¬ (c = 346 ∧ 0 ≤ p ∧ p < 57) → m c p = m1 c p) → (∀ j : Int, 0 ≤ j → j < 57 → m 346 j = m0 347 (57 * r + j)) → JX S m := by
    intro m f hc
    have F : ∀ c p : Int, ¬ (c = 346 ∧ 0 ≤ p ∧ p < 57) → ¬ (c = 336 ∧ p = 25) → m c p = m0 c p := fun c p q1 q2 => (f c p q1).trans (f1 c p q2)
    have e25 : m 336 25 = r := (f 336 25 (by first | decide | exact fun z => absurd z.1 (by decide) | exact ⟨fun z => absurd z.1 (by decide), fun z => absurd z.1 (by decide)⟩ | omega)).trans y1
    have bH := hj.1.bnd 347 (57 * r.toNat + 4) 0 5 (by decide) (by rw [pT_said.2.1]; omega) (by rw [bq_347 _ (by omega) 4 (by decide)]; exact bd_said.2.1) (by decide)
    have bJ := hj.1.bnd 347 (57 * r.toNat + 5) 0 4 (by decide) (by rw [pT_said.2.1]; omega) (by rw [bq_347 _ (by omega) 5 (by decide)]; exact bd_said.2.2) (by decide)
    rw [show ((347 : Nat) : Int) = 347 from rfl, show ((57 * r.toNat + 4 : Nat) : Int) = 57 * r + 4 by omega] at bH
    rw [show ((347 : Nat) : Int) = 347 from rfl, show ((57 * r.toNat + 5 : Nat) : Int) = 57 * r + 5 by omega] at bJ
    refine ⟨hj.1.chg (fun c p hc' hp => ?_) (fun i => F 30 i (by first | decide | exact fun z => absurd z.1 (by decide) | exact ⟨fun z => absurd z.1 (by decide), fun z => absurd z.1 (by decide)⟩ | omega) (by first | decide | exact fun z => absurd z.1 (by decide) | exact ⟨fun z => absurd z.1 (by decide), fun z => absurd z.1 (by decide)⟩ | omega)) (F 55 1 (by first | decide | exact fun z => absurd z.1 (by decide) | exact ⟨fun z => absurd z.1 (by decide), fun z => absurd z.1 (by decide)⟩ | omega) (by first | decide | exact fun z => absurd z.1 (by decide) | exact ⟨fun z => absurd z.1 (by decide), fun z => absurd z.1 (by decide)⟩ | omega)) ?_ ?_, ?_⟩
    · by_cases z : (c : Int) = 346 ∧ (p : Int) < 57
      · have z1 : c = 346 := by omega
        subst z1
        refine Or.inr ?_
        have q := hj.1.1 347 (57 * r.toNat + p) (by decide) (by rw [pT_said.2.1]; omega)
        rw [bq_347 _ (by omega) p (by omega)] at q
        rw [show ((346 : Nat) : Int) = 346 from rfl, hc p (by omega) (by omega)]
        rw [show ((347 : Nat) : Int) = 347 from rfl, show ((57 * r.toNat + p : Nat) : Int) = 57 * r + p by omega] at q
        exact q
      · by_cases z2 : (c : Int) = 336 ∧ (p : Int) = 25
        · have z3 : c = 336 := by omega
          have z4 : p = 25 := by omega
          subst z3 z4
          refine Or.inr ?_
          rw [show ((336 : Nat) : Int) = 336 from rfl, show ((25 : Nat) : Int) = 25 from rfl, e25]
          exact okb_of (l := 0) (u := 20) (by decide +kernel) (by omega) (by omega)
        · exact Or.inl (F c p (by omega) z2)
    · exact hj.1.2.2.2.1.eq (fun p q => F 336 p (by first | decide | exact fun z => absurd z.1 (by decide) | exact ⟨fun z => absurd z.1 (by decide), fun z => absurd z.1 (by decide)⟩ | omega) (by first | decide | exact fun z => absurd z.1 (by decide) | exact ⟨fun z => absurd z.1 (by decide), fun z => absurd z.1 (by decide)⟩ | omega)) (fun c p q => F c p (by omega) (by omega))
    · obtain ⟨p1, p2, p3⟩ := hj.1.2.2.2.2
      have e7 : m 347 = m0 347 := funext (fun p => F 347 p (by first | decide | exact fun z => absurd z.1 (by decide) | exact ⟨fun z => absurd z.1 (by decide), fun z => absurd z.1 (by decide)⟩ | omega) (by first | decide | exact fun z => absurd z.1 (by decide) | exact ⟨fun z => absurd z.1 (by decide), fun z => absurd z.1 (by decide)⟩ | omega))
      have e4 : m 354 = m0 354 := funext (fun p => F 354 p (by first | decide | exact fun z => absurd z.1 (by decide) | exact ⟨fun z => absurd z.1 (by decide), fun z => absurd z.1 (by decide)⟩ | omega) (by first | decide | exact fun z => absurd z.1 (by decide) | exact ⟨fun z => absurd z.1 (by decide), fun z => absurd z.1 (by decide)⟩ | omega))
      unfold PL3
      rw [e25, e7, e4]
      obtain ⟨q1, q2⟩ := p2 r (by omega) (by omega)
      refine ⟨⟨fun a a0 a1 => ?_, fun a a0 a1 => ?_⟩, fun i i0 i1 => p2 i i0 (by omega), p3⟩
      · rw [hc 4 (by decide) (by decide)] at a1
        rw [hc _ (by omega) (by omega), hc 0 (by decide) (by decide), Int.add_zero]
        exact q1 a a0 a1
      · rw [hc 5 (by decide) (by decide)] at a1
        rw [hc _ (by omega) (by omega), hc 0 (by decide) (by decide), Int.add_zero]
        exact q2 a a0 a1
    · have k6 := hj.2
      have G : ∀ c p : Int, ¬ c = 346 → ¬ (c = 336 ∧ p = 25) → m c p = m0 c p := fun c p a b => F c p (by omega) b
      unfold Xr at k6 ⊢
      rw [G 3 3 (by omega) (by omega), G 336 22 (by omega) (by omega), G 76 3 (by omega) (by omega), G 76 9 (by omega) (by omega), G 101 3 (by omega) (by omega), G 101 9 (by omega) (by omega), G 126 3 (by omega) (by omega), G 126 9 (by omega) (by omega), G 151 3 (by omega) (by omega), G 151 9 (by omega) (by omega), G 356 0 (by omega) (by omega), G 356 1 (by omega) (by omega), G 356 2 (by omega) (by omega), G 356 3 (by omega) (by omega), G 357 0 (by omega) (by omega), G 357 1 (by omega) (by omega), G 357 2 (by omega) (by omega), G 357 3 (by omega) (by omega)]
      exact ⟨k6.1, k6.2.on G⟩
  have L : ∀ (n : Nat) (k : Int) (m : Mm), 0 ≤ k → k ≤ 57 → (∀ c p : Int, ¬ (c = 346 ∧ 0 ≤ p ∧ p < 57) → m c p = m1 c p) → (∀ j : Int, 0 ≤ j → j < k → m 346 j = m0 347 (57 * r + j)) → 58 - k ≤ (n : Int) → wp_X12_undo_21 S K n 336 k m := by
    intro n
    induction n with
    | zero => intro k m _ _ _ _ h; exfalso; omega
    | succ n ih =>
      intro k m k0 k1 f hc h
      have e20 : m 336 20 = 346 := by rw [f 336 20 (by first | decide | exact fun z => absurd z.1 (by decide) | exact ⟨fun z => absurd z.1 (by decide), fun z => absurd z.1 (by decide)⟩ | omega), f1 336 20 (by first | decide | exact fun z => absurd z.1 (by decide) | exact ⟨fun z => absurd z.1 (by decide), fun z => absurd z.1 (by decide)⟩ | omega)]; exact hm0.f_336_20
      have e24 : m 336 24 = 347 := by rw [f 336 24 (by first | decide | exact fun z => absurd z.1 (by decide) | exact ⟨fun z => absurd z.1 (by decide), fun z => absurd z.1 (by decide)⟩ | omega), f1 336 24 (by first | decide | exact fun z => absurd z.1 (by decide) | exact ⟨fun z => absurd z.1 (by decide), fun z => absurd z.1 (by decide)⟩ | omega)]; exact hm0.f_336_24
      have e25 : m 336 25 = r := (f 336 25 (by first | decide | exact fun z => absurd z.1 (by decide) | exact ⟨fun z => absurd z.1 (by decide), fun z => absurd z.1 (by decide)⟩ | omega)).trans y1
      refine u_X12_undo_21 ?_
      refine g_C ?_
      refine g_if (fun w2 => ?_) (fun w2 => ?_)
      · refine g_getu 25 rfl hS.k336 (fun v3 ev3 => ?_)
        have e3 : v3 = r := by rw [ev3]; exact e25
        rw [e3]
        exact hk r m (fin m f (fun j j0 j1 => hc j j0 (by omega))) (by omega) (by omega) (by omega) (by omega) e25 (fun c p q q2 => (f c p q).trans (f1 c p q2)) (fun j j0 j1 => hc j j0 (by omega))
      · refine g_getr 20 346 rfl hS.k336 e20 (by decide) ?_
        refine g_getr 24 347 rfl hS.k336 e24 (by decide) ?_
        refine g_C ?_
        refine g_getu 25 rfl hS.k336 (fun v3 ev3 => ?_)
        refine g_M (by omega) (by omega) ?_
        refine g_A (by omega) (by omega) ?_
        refine g_ldu hS.k347 hS.l347 (by omega) (by omega) (fun x ex => ?_)
        refine g_stR hS.k346 hS.l346 (by omega) (by omega) (fun m2 e2 => ?_)
        have f2 : ∀ c p : Int, ¬ (c = 346 ∧ p = k) → m2 c p = m c p := fun c p q => (congrFun (congrFun e2 _) _).trans (up_ne q)
        have y2 : m2 346 k = x := (congrFun (congrFun e2 _) _).trans (up_at _ _ _ _)
        refine g_A (by omega) (by omega) ?_
        refine ih (k + 1) m2 (by omega) (by omega) (fun c p q => (f2 c p (by first | exact fun y => absurd (y.1 ▸ z) (by decide) | exact fun y => absurd (y.1 ▸ q) (by decide) | exact z | exact q | exact z.1 | exact q.1 | exact z.2 | exact q.2 | omega)).trans (f c p q)) (fun j j0 j1 => ?_) (by omega)
        by_cases e : j = k
        · rw [e, y2, ex, f 347 _ (by first | decide | exact fun z => absurd z.1 (by decide) | exact ⟨fun z => absurd z.1 (by decide), fun z => absurd z.1 (by decide)⟩ | omega), f1 347 _ (by first | decide | exact fun z => absurd z.1 (by decide) | exact ⟨fun z => absurd z.1 (by decide), fun z => absurd z.1 (by decide)⟩ | omega), ev3, e25]
        · rw [f2 346 j (by first | decide | exact fun z => absurd z.1 (by decide) | exact ⟨fun z => absurd z.1 (by decide), fun z => absurd z.1 (by decide)⟩ | omega)]
          exact hc j j0 (by omega)
  exact ⟨58, L 58 0 m1 (by omega) (by omega) (fun _ _ _ => rfl) (fun j j0 j1 => absurd j1 (by omega)) (by omega)⟩
end
