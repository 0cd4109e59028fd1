/-! what is alike on both sides: a SCENE of the class (cells s ..) beside a row D of the reference -/
def DB (D : Int → Int) : Prop := (0 ≤ D 4 ∧ D 4 ≤ 5) ∧ (0 ≤ D 5 ∧ D 5 ≤ 4) ∧ (0 ≤ D 6 ∧ D 6 ≤ 6) ∧ (0 ≤ D 9 ∧ D 9 ≤ 4) ∧ (0 ≤ D 157 ∧ D 157 ≤ 10)
def TT (M : Mm) (s : Int) (D : Int → Int) : Prop := M s 4 = D 157 ∧ ∀ i : Int, 0 ≤ i → i < D 157 → M (s + 21) i = D (117 + 4 * i) ∧ M (s + 22) i = D (117 + 4 * i + 1) ∧ M (s + 23) i = D (117 + 4 * i + 2) ∧ M (s + 24) i = D (117 + 4 * i + 3)
/-- which places of the cells of a DAIRY as told, and of a STATE, count -/
abbrev inT (c p : Int) : Prop := 0 ≤ p ∧ (((c = 1 ∨ c = 2) ∧ p < 36) ∨ ((c = 3 ∨ c = 4) ∧ p < 5) ∨ (5 ≤ c ∧ c ≤ 7 ∧ p < 4) ∨ (8 ≤ c ∧ c ≤ 11 ∧ p < 6))
abbrev inS (c p : Int) : Prop := 0 ≤ p ∧ ((1 ≤ c ∧ c ≤ 3 ∧ p < 5) ∨ (4 ≤ c ∧ c ≤ 6 ∧ p < 4) ∨ (c = 7 ∧ p < 6))
/-- what of a row is told -/
abbrev tp (p : Int) : Prop := (0 ≤ p ∧ p ≤ 6) ∨ p = 9 ∨ (10 ≤ p ∧ p < 35 ∧ 3 ≤ (p - 10) % 5) ∨ (57 ≤ p ∧ p < 117)
theorem Rt_move {D D' : Int → Int} {a c : Int} (b3 : D 3 ≤ 8) (G : ∀ p : Int, tp p → D' p = D p) : Rt D' a c → Rt D a c := by
  intro h
  obtain ⟨k, k0, k1, k2⟩ := h
  rw [G 3 (by omega)] at k1
  rw [G (57 + 3 * k) (by omega), G (57 + 3 * k + 1) (by omega)] at k2
  exact ⟨k, k0, k1, k2⟩
theorem TL.move {M M' : Mm} {u u' : Int} {D D' : Int → Int} (h : TL u D M) (b : DB D) (b3 : D 3 ≤ 8) (h0 : ∀ p : Int, 0 ≤ p → p < 8 → M' u' p = M u p) (hh : ∀ c p : Int, inT c p → M' (u' + c) p = M (u + c) p) (G : ∀ p : Int, tp p → D' p = D p) : TL u' D' M' := by
  obtain ⟨⟨c0, c1, c2, c3, c4, c5, c6, c7⟩, r, hs, ts, ws⟩ := h
  obtain ⟨b4, b5, b6, b9, b157⟩ := b
  have g3 := G 3 (by omega)
  have g4 := G 4 (by omega)
  have g6 := G 6 (by omega)
  have g9 := G 9 (by omega)
  refine ⟨⟨?_, ?_, ?_, ?_, ?_, ?_, ?_, ?_⟩, fun a c a0 a5 c0' c5' => ?_, fun i i0 i1 => ?_, fun i i0 i1 => ?_, fun i i0 i1 => ?_⟩
  · rw [h0 0 (by omega) (by omega), G 0 (by omega)]; exact c0
  · rw [h0 1 (by omega) (by omega), G 1 (by omega)]; exact c1
  · rw [h0 2 (by omega) (by omega), G 2 (by omega)]; exact c2
  · rw [h0 3 (by omega) (by omega), g3]; exact c3
  · rw [h0 4 (by omega) (by omega), g4]; exact c4
  · rw [h0 5 (by omega) (by omega), G 5 (by omega)]; exact c5
  · rw [h0 6 (by omega) (by omega), g9]; exact c6
  · rw [h0 7 (by omega) (by omega), g6]; exact c7
  · rw [hh 1 (6 * a + c) (by omega)]
    rcases r a c a0 a5 c0' c5' with ⟨e, n⟩ | ⟨e, k, k0, k1, k2, k3⟩
    · exact Or.inl ⟨e, fun q => n (Rt_move b3 G q)⟩
    · refine Or.inr ⟨e, k, k0, by rw [g3]; exact k1, ?_, ?_⟩
      · rw [G (57 + 3 * k) (by omega), G (57 + 3 * k + 1) (by omega)]; exact k2
      · rw [G (57 + 3 * k + 2) (by omega)]; exact k3
  · rw [g4] at i1
    rw [hh 3 i (by omega), hh 4 i (by omega), G (10 + 5 * i + 3) (by omega), G (10 + 5 * i + 4) (by omega)]
    exact hs i i0 i1
  · rw [g9] at i1
    rw [hh 5 i (by omega), hh 6 i (by omega), hh 7 i (by omega), G (81 + 3 * i) (by omega), G (81 + 3 * i + 1) (by omega), G (81 + 3 * i + 2) (by omega)]
    exact ts i i0 i1
  · rw [g6] at i1
    rw [hh 8 i (by omega), hh 9 i (by omega), hh 10 i (by omega), hh 11 i (by omega), G (93 + 4 * i) (by omega), G (93 + 4 * i + 1) (by omega), G (93 + 4 * i + 2) (by omega), G (93 + 4 * i + 3) (by omega)]
    exact ws i i0 i1
theorem SR.move {M M' : Mm} {u u' : Int} {D D' : Int → Int} (h : SR M u D) (b : DB D) (h0 : ∀ p : Int, 0 ≤ p → p < 2 → M' u' p = M u p) (hh : ∀ c p : Int, inS c p → M' (u' + c) p = M (u + c) p) (G : ∀ p : Int, 0 ≤ p → p < 57 → D' p = D p) : SR M' u' D' := by
  obtain ⟨⟨r1, r2⟩, r3, r4, r5, r6⟩ := h
  obtain ⟨b4, b5, b6, b9, b157⟩ := b
  have g4 := G 4 (by omega) (by omega)
  have g5 := G 5 (by omega) (by omega)
  have g6 := G 6 (by omega) (by omega)
  refine ⟨⟨?_, ?_⟩, fun i i0 i1 => ?_, fun j j0 j1 => ?_, fun j j0 j1 => ?_, fun w w0 w1 => ?_⟩
  · rw [h0 0 (by omega) (by omega), G 7 (by omega) (by omega)]; exact r1
  · rw [h0 1 (by omega) (by omega), G 8 (by omega) (by omega)]; exact r2
  · rw [g4] at i1
    have q := r3 i i0 i1
    unfold SRh at q ⊢
    rw [hh 1 i (by omega), hh 2 i (by omega), hh 3 i (by omega), G (10 + 5 * i) (by omega) (by omega), G (10 + 5 * i + 1) (by omega) (by omega), G (10 + 5 * i + 2) (by omega) (by omega)]
    exact q
  · rw [g5] at j1
    have q := r4 j j0 j1
    unfold SRj at q ⊢
    rw [hh 4 j (by omega), hh 5 j (by omega), hh 6 j (by omega), G (35 + 4 * j) (by omega) (by omega), G (35 + 4 * j + 1) (by omega) (by omega), G (35 + 4 * j + 2) (by omega) (by omega), G (35 + 4 * j + 3) (by omega) (by omega), g4]
    exact q
  · rw [g5] at j0
    rw [hh 4 j (by omega), hh 5 j (by omega)]
    exact r5 j j0 j1
  · rw [g6] at w1
    rw [hh 7 w (by omega), G (51 + w) (by omega) (by omega)]
    exact r6 w w0 w1
theorem TT.move {M M' : Mm} {s s' : Int} {D D' : Int → Int} (h : TT M s D) (b : DB D) (h0 : M' s' 4 = M s 4) (hh : ∀ c p : Int, 21 ≤ c → c ≤ 24 → 0 ≤ p → p < 10 → M' (s' + c) p = M (s + c) p) (G : ∀ p : Int, 117 ≤ p → p < 158 → D' p = D p) : TT M' s' D' := by
  obtain ⟨r1, r2⟩ := h
  obtain ⟨b4, b5, b6, b9, b157⟩ := b
  have g := G 157 (by omega) (by omega)
  refine ⟨by rw [h0, g]; exact r1, fun i i0 i1 => ?_⟩
  rw [g] at i1
  rw [hh 21 i (by omega) (by omega) i0 (by omega), hh 22 i (by omega) (by omega) i0 (by omega), hh 23 i (by omega) (by omega) i0 (by omega), hh 24 i (by omega) (by omega) i0 (by omega), G (117 + 4 * i) (by omega) (by omega), G (117 + 4 * i + 1) (by omega) (by omega), G (117 + 4 * i + 2) (by omega) (by omega), G (117 + 4 * i + 3) (by omega) (by omega)]
  exact r2 i i0 i1
theorem DB.move {D D' : Int → Int} (b : DB D) (G : ∀ p : Int, (p = 4 ∨ p = 5 ∨ p = 6 ∨ p = 9 ∨ p = 157) → D' p = D p) : DB D' := by
  unfold DB
  rw [G 4 (by omega), G 5 (by omega), G 6 (by omega), G 9 (by omega), G 157 (by omega)]
  exact b
/-- all of a SCENE but its rule and its seed -/
def RD (M : Mm) (s : Int) (D : Int → Int) : Prop := (DB D ∧ D 3 ≤ 8) ∧ TL (s + 1) D M ∧ SR M (s + 13) D ∧ TT M s D
theorem RD.move {M M' : Mm} {s s' : Int} {D D' : Int → Int} (h : RD M s D) (t0 : ∀ p : Int, 0 ≤ p → p < 8 → M' (s' + 1) p = M (s + 1) p) (t1 : ∀ c p : Int, inT c p → M' (s' + 1 + c) p = M (s + 1 + c) p) (s0 : ∀ p : Int, 0 ≤ p → p < 2 → M' (s' + 13) p = M (s + 13) p) (s1 : ∀ c p : Int, inS c p → M' (s' + 13 + c) p = M (s + 13 + c) p) (x0 : M' s' 4 = M s 4) (x1 : ∀ c p : Int, 21 ≤ c → c ≤ 24 → 0 ≤ p → p < 10 → M' (s' + c) p = M (s + c) p) (G : ∀ p : Int, 0 ≤ p → p < 158 → D' p = D p) : RD M' s' D' := by
  obtain ⟨⟨b, b3⟩, t, r, x⟩ := h
  exact ⟨⟨b.move (fun p q => G p (by omega) (by omega)), by rw [G 3 (by omega) (by omega)]; exact b3⟩, t.move b b3 t0 t1 (fun p q => G p (by omega) (by omega)), r.move b s0 s1 (fun p p0 p1 => G p p0 (by omega)), x.move b x0 x1 (fun p p0 p1 => G p (by omega) p1)⟩
/-- nothing of it is written -/
theorem RD.same {M M' : Mm} {s : Int} {D D' : Int → Int} (h : RD M s D) (F : ∀ c p : Int, s + 1 ≤ c → c ≤ s + 24 → M' c p = M c p) (x0 : M' s 4 = M s 4) (G : ∀ p : Int, 0 ≤ p → p < 158 → D' p = D p) : RD M' s D' := h.move (fun p _ _ => F _ p (by omega) (by omega)) (fun c p q => F _ p (by omega) (by omega)) (fun p _ _ => F _ p (by omega) (by omega)) (fun c p q => F _ p (by omega) (by omega)) x0 (fun c p _ _ _ _ => F _ p (by omega) (by omega)) G
/-- the row of an IMAGE, of an ACT undone -/
def iD (M : Mm) (k : Int) : Int → Int := fun p => M 354 (158 * k + p)
def uD (M : Mm) (r : Int) : Int → Int := fun p => M 347 (57 * r + p)
/-- an ACT that can be undone: row r of the reference, the STATE in cell c of the class; what is told stands in it as it does now -/
def RU (M : Mm) (c r : Int) : Prop := (SR M c (uD M r) ∧ DB (M 346)) ∧ ∀ p : Int, p < 57 → tp p → uD M r p = M 346 p
/-- all that lasts, but rules -/
def RW (M : Mm) : Prop := RD M 3 (M 346) ∧ (∀ k : Int, 0 ≤ k → k ≤ 3 → M 357 k = 0 ∨ RD M (76 + 25 * k) (iD M k)) ∧ M 0 5 = M 336 25 ∧ (∀ r : Int, 0 ≤ r → r < M 336 25 → RU M (176 + 8 * ((M 0 4 + 20 - M 336 25 + r) % 20)) r)
