section
/-! what is held between two calls of the law: both sides alike -/
def UQ (D : Int → Int) : Prop := ∀ k l : Int, 0 ≤ k → k < D 3 → 0 ≤ l → l < D 3 → rMt D (D (57 + 3 * l)) (D (57 + 3 * l + 1)) k → k = l
theorem UQ.move {D D' : Int → Int} (h : UQ D) (b3 : D 3 ≤ 8) (G : ∀ p : Int, (p = 3 ∨ (57 ≤ p ∧ p < 81)) → D' p = D p) : UQ D' := by
  intro k l k0 k1 l0 l1 q
  rw [G 3 (by omega)] at k1 l1
  unfold rMt at q
  rw [G (57 + 3 * k) (by omega), G (57 + 3 * k + 1) (by omega), G (57 + 3 * l) (by omega), G (57 + 3 * l + 1) (by omega)] at q
  exact h k l k0 k1 l0 l1 q
theorem RO.of {M : Mm} {u : Int} {D : Int → Int} (t : TL u D M) (q : UQ D) : RO D (M (u + 1)) := by
  intro a c a0 a5 c0 c5
  rcases t.2.1 a c a0 a5 c0 c5 with ⟨e, n⟩ | ⟨e, k, k0, k1, k2, k3⟩
  · exact Or.inl ⟨e, n⟩
  · refine Or.inr ⟨e, ⟨k, k0, k1, k2⟩, fun l l0 l1 l2 => ?_⟩
    have z : l = k := by
      refine q l k l0 l1 k0 k1 ?_
      unfold rMt at l2 ⊢
      rcases k2 with ⟨z1, z2⟩ | ⟨z1, z2⟩ <;> rw [z1, z2]
      · exact l2
      · exact l2.symm
    rw [z, k3]
/-- the JUGS in a HAND are at most 2 -/
theorem bc_cnt {f : Int → Int} {h : Int} : bcF (hbt f h 4) = (if f 0 = h then 1 else 0) + (if f 1 = h then 1 else 0) + (if f 2 = h then 1 else 0) + (if f 3 = h then 1 else 0) := by
  have e3 : hbt f h 4 = if f 3 = h then iOr (hbt f h 3) (iShl 1 3) else hbt f h 3 := rfl
  have e2 : hbt f h 3 = if f 2 = h then iOr (hbt f h 2) (iShl 1 2) else hbt f h 2 := rfl
  have e1 : hbt f h 2 = if f 1 = h then iOr (hbt f h 1) (iShl 1 1) else hbt f h 1 := rfl
  have e0 : hbt f h 1 = if f 0 = h then iOr 0 (iShl 1 0) else 0 := rfl
  rw [e3, e2, e1, e0]
  by_cases z0 : f 0 = h <;> by_cases z1 : f 1 = h <;> by_cases z2 : f 2 = h <;> by_cases z3 : f 3 = h <;> simp only [z0, z1, z2, z3, ↓reduceIte] <;> decide +kernel
def H2 (f : Int → Int) : Prop := ∀ h : Int, 0 ≤ h → bcF (hbt f h 4) ≤ 2
theorem H2.move {f f' : Int → Int} (h : H2 f) (F : ∀ p : Int, 0 ≤ p → p < 4 → f' p = f p) : H2 f' := by
  intro g g0
  rw [hbt_same 4 (fun j j0 j1 => F j j0 (by omega))]
  exact h g g0
theorem H2.put {f f' : Int → Int} {j : Int} (h : H2 f) (F : ∀ p : Int, 0 ≤ p → p < 4 → ¬ p = j → f' p = f p) (q : 0 ≤ f' j → bcF (hbt f (f' j) 4) < 2) : H2 f' := by
  intro g g0
  have hg := h g g0
  rw [bc_cnt] at hg ⊢
  have e : ∀ p : Int, 0 ≤ p → p < 4 → ¬ p = j → (if f' p = g then (1 : Int) else 0) = (if f p = g then 1 else 0) := fun p p0 p1 p2 => by rw [F p p0 p1 p2]
  have b : ∀ p : Int, 0 ≤ (if f p = g then (1 : Int) else 0) ∧ (if f p = g then (1 : Int) else 0) ≤ 1 := fun p => by split <;> omega
  have b' : ∀ p : Int, 0 ≤ (if f' p = g then (1 : Int) else 0) ∧ (if f' p = g then (1 : Int) else 0) ≤ 1 := fun p => by split <;> omega
  have hj : (f' j = g ∧ (if f 0 = g then (1 : Int) else 0) + (if f 1 = g then 1 else 0) + (if f 2 = g then 1 else 0) + (if f 3 = g then 1 else 0) < 2) ∨ (if f' j = g then (1 : Int) else 0) = 0 := by
    by_cases z : f' j = g
    · have y := q (by omega)
      rw [bc_cnt, z] at y
      exact Or.inl ⟨z, y⟩
    · exact Or.inr (if_neg z)
  have s0 := e 0 (by decide) (by decide)
  have s1 := e 1 (by decide) (by decide)
  have s2 := e 2 (by decide) (by decide)
  have s3 := e 3 (by decide) (by decide)
  have t0 := b 0
  have t1 := b 1
  have t2 := b 2
  have t3 := b 3
  have v0 := b' 0
  have v1 := b' 1
  have v2 := b' 2
  have v3 := b' 3
  generalize (if f 0 = g then (1 : Int) else 0) = a0 at *
  generalize (if f 1 = g then (1 : Int) else 0) = a1 at *
  generalize (if f 2 = g then (1 : Int) else 0) = a2 at *
  generalize (if f 3 = g then (1 : Int) else 0) = a3 at *
  by_cases i0 : (0 : Int) = j
  · subst i0
    generalize (if f' 0 = g then (1 : Int) else 0) = c0 at *
    generalize (if f' 1 = g then (1 : Int) else 0) = c1 at *
    generalize (if f' 2 = g then (1 : Int) else 0) = c2 at *
    generalize (if f' 3 = g then (1 : Int) else 0) = c3 at *
    omega
  by_cases i1 : (1 : Int) = j
  · subst i1
    generalize (if f' 0 = g then (1 : Int) else 0) = c0 at *
    generalize (if f' 1 = g then (1 : Int) else 0) = c1 at *
    generalize (if f' 2 = g then (1 : Int) else 0) = c2 at *
    generalize (if f' 3 = g then (1 : Int) else 0) = c3 at *
    omega
  by_cases i2 : (2 : Int) = j
  · subst i2
    generalize (if f' 0 = g then (1 : Int) else 0) = c0 at *
    generalize (if f' 1 = g then (1 : Int) else 0) = c1 at *
    generalize (if f' 2 = g then (1 : Int) else 0) = c2 at *
    generalize (if f' 3 = g then (1 : Int) else 0) = c3 at *
    omega
  by_cases i3 : (3 : Int) = j
  · subst i3
    generalize (if f' 0 = g then (1 : Int) else 0) = c0 at *
    generalize (if f' 1 = g then (1 : Int) else 0) = c1 at *
    generalize (if f' 2 = g then (1 : Int) else 0) = c2 at *
    generalize (if f' 3 = g then (1 : Int) else 0) = c3 at *
    omega
  rw [s0 i0, s1 i1, s2 i2, s3 i3]
  exact hg
def SX (M : Mm) (s n : Int) : Prop := M (s + 13) 0 ≤ n ∧ (M (s + 1) 0 = 0 → M s 4 = 0) ∧ Wok (M (s + 1) 0) (M (s + 2)) (M (s + 3)) ∧ H2 (M (s + 18))
theorem SX.move {M M' : Mm} {s s' n : Int} (h : SX M s n) (e0 : M' (s' + 13) 0 = M (s + 13) 0) (e1 : M' (s' + 1) 0 = M (s + 1) 0) (e2 : M' s' 4 = M s 4) (e3 : ∀ p : Int, 0 ≤ p → p < 36 → M' (s' + 2) p = M (s + 2) p) (e4 : ∀ p : Int, 0 ≤ p → p < 36 → M' (s' + 3) p = M (s + 3) p) (e5 : ∀ p : Int, 0 ≤ p → p < 4 → M' (s' + 18) p = M (s + 18) p) : SX M' s' n := by
  obtain ⟨a, b, c, d⟩ := h
  exact ⟨by rw [e0]; exact a, by rw [e1, e2]; exact b, c.move e1 e3 e4, d.move e5⟩
def XZ (M : Mm) (n : Int) : Prop := SX M 3 n ∧ (∀ k : Int, 0 ≤ k → k ≤ 3 → SX M (76 + 25 * k) n) ∧ (∀ r : Int, 0 ≤ r → r ≤ 19 → M (176 + 8 * r) 0 ≤ n ∧ H2 (M (176 + 8 * r + 5))) ∧ UQ (M 346) ∧ (∀ k : Int, 0 ≤ k → k ≤ 3 → M 357 k = 0 ∨ UQ (iD M k)) ∧ (M 55 2 = 0 ∧ M 336 23 = 0)
/-- a rule of the class in cell c -/
def RCk (S : Sh) (M : Mm) (c : Int) (Cs : List Cz) : Prop := ¬ c = -2 ∧ ¬ c = -1 ∧ rowv S c ∧ Hs (M c) 0 (codC Cs) ∧ rlen S c = ((codC Cs).length : Int) ∧ 0 < (codC Cs).length ∧ Tys Cs ∧ nvs (codC Cs) ≤ 60
def CR (S : Sh) (M : Mm) : Prop := (∀ k : Int, 0 ≤ k → k < M 336 2 → ∃ Cs : List Cz, RCk S M (M 30 k) Cs ∧ RwR M k Cs ∧ nvs (rowC Cs) ≤ 60 ∧ N1 Cs) ∧ M 55 1 = (if M 3 2 < 0 then -2 else M 30 (M 3 2))
def RZ (S : Sh) (M : Mm) (n : Int) : Prop := JX S M ∧ RW M ∧ CR S M ∧ XZ M n
theorem RZ.inv {S : Sh} {M : Mm} {n : Int} (h : RZ S M n) : Inv (sf M) S M := h.1.inv
theorem RZ.rd {S : Sh} {M : Mm} {n : Int} (h : RZ S M n) : RD M 3 (M 346) := h.2.1.1
theorem RZ.tl {S : Sh} {M : Mm} {n : Int} (h : RZ S M n) : TL 4 (M 346) M := h.2.1.1.2.1
theorem RZ.sr {S : Sh} {M : Mm} {n : Int} (h : RZ S M n) : SR M 16 (M 346) := h.2.1.1.2.2.1
theorem RZ.tt {S : Sh} {M : Mm} {n : Int} (h : RZ S M n) : TT M 3 (M 346) := h.2.1.1.2.2.2
theorem RZ.ro {S : Sh} {M : Mm} {n : Int} (h : RZ S M n) : RO (M 346) (M 5) := RO.of h.tl h.2.2.2.2.2.2.1
/-- the rule in force on both sides -/
theorem RZ.rule {S : Sh} {M : Mm} {n : Int} (h : RZ S M n) : ∃ o : Option (List Cz), RC S M o ∧ RR M o := by
  obtain ⟨j, _, ⟨c1, c2⟩, _⟩ := h
  have e : M 3 2 = M 336 21 := j.2.2.2.1
  have g : M 336 21 < M 336 2 := j.1.2.2.2.1.1
  by_cases z : M 336 21 < 0
  · refine ⟨none, ?_, z⟩
    show M 55 1 = -2
    rw [c2, e, if_pos z]
  · obtain ⟨Cs, r1, r2, r3, r4⟩ := c1 (M 336 21) (by omega) g
    refine ⟨some Cs, ?_, ⟨by omega, r2, r3, r4⟩⟩
    have c3 : M 55 1 = M 30 (M 336 21) := by rw [c2, e, if_neg z]
    show ¬ M 55 1 = -2 ∧ ¬ M 55 1 = -1 ∧ rowv S (M 55 1) ∧ Hs (M (M 55 1)) 0 (codC Cs) ∧ rlen S (M 55 1) = ((codC Cs).length : Int) ∧ 0 < (codC Cs).length ∧ Tys Cs ∧ nvs (codC Cs) ≤ 60
    rw [c3]
    exact r1
theorem RCk.same {S : Sh} {M M' : Mm} {c : Int} {Cs : List Cz} (h : RCk S M c Cs) (F : ∀ c p : Int, 358 ≤ c → M' c p = M c p) : RCk S M' c Cs := by
  obtain ⟨a1, a2, a3, a4, a5⟩ := h
  have z : 358 ≤ c := by
    rcases a3 with q | q
    · exact absurd q a1
    · exact q.2.2
  exact ⟨a1, a2, a3, by rw [show M' c = M c from funext (fun p => F c p z)]; exact a4, a5⟩
theorem CR.same {S : Sh} {M M' : Mm} (h : CR S M) (F : ∀ c p : Int, (358 ≤ c ∨ c = 30 ∨ (c = 336 ∧ p = 2) ∨ (c = 55 ∧ p = 1) ∨ (c = 3 ∧ p = 2) ∨ c = 338 ∨ c = 340 ∨ c = 341) → M' c p = M c p) : CR S M' := by
  obtain ⟨c1, c2⟩ := h
  refine ⟨fun k k0 k1 => ?_, ?_⟩
  · rw [F 336 2 (by first | decide | exact fun z => absurd z.1 (by decide) | exact ⟨fun z => absurd z.1 (by decide), fun z => absurd z.1 (by decide)⟩ | omega)] at k1
    obtain ⟨Cs, r1, r2, r3⟩ := c1 k k0 k1
    refine ⟨Cs, ?_, r2.same (fun c p q => F c p (by omega)), r3⟩
    rw [F 30 k (by first | decide | exact fun z => absurd z.1 (by decide) | exact ⟨fun z => absurd z.1 (by decide), fun z => absurd z.1 (by decide)⟩ | omega)]
    exact r1.same (fun c p q => F c p (by omega))
  · rw [F 55 1 (by first | decide | exact fun z => absurd z.1 (by decide) | exact ⟨fun z => absurd z.1 (by decide), fun z => absurd z.1 (by decide)⟩ | omega), F 3 2 (by first | decide | exact fun z => absurd z.1 (by decide) | exact ⟨fun z => absurd z.1 (by decide), fun z => absurd z.1 (by decide)⟩ | omega), c2]
    by_cases z : M 3 2 < 0
    · rw [if_pos z, if_pos z]
    · rw [if_neg z, if_neg z, F 30 _ (by first | decide | exact fun z => absurd z.1 (by decide) | exact ⟨fun z => absurd z.1 (by decide), fun z => absurd z.1 (by decide)⟩ | omega)]
theorem RW.same {M M' : Mm} (h : RW M) (F : ∀ c p : Int, ((4 ≤ c ∧ c ≤ 27) ∨ (c = 3 ∧ p = 4) ∨ (76 ≤ c ∧ c ≤ 335) ∨ c = 346 ∨ c = 347 ∨ c = 354 ∨ c = 357 ∨ (c = 0 ∧ (p = 4 ∨ p = 5)) ∨ (c = 336 ∧ p = 25)) → M' c p = M c p) : RW M' := by
  obtain ⟨rd, im, eu, pa⟩ := h
  have e46 : M' 346 = M 346 := funext (fun p => F 346 p (by first | decide | exact fun z => absurd z.1 (by decide) | exact ⟨fun z => absurd z.1 (by decide), fun z => absurd z.1 (by decide)⟩ | omega))
  have e47 : ∀ r : Int, uD M' r = uD M r := fun r => funext (fun p => F 347 _ (by first | decide | exact fun z => absurd z.1 (by decide) | exact ⟨fun z => absurd z.1 (by decide), fun z => absurd z.1 (by decide)⟩ | omega))
  have e54 : ∀ k : Int, iD M' k = iD M k := fun k => funext (fun p => F 354 _ (by first | decide | exact fun z => absurd z.1 (by decide) | exact ⟨fun z => absurd z.1 (by decide), fun z => absurd z.1 (by decide)⟩ | omega))
  refine ⟨?_, fun k k0 k1 => ?_, ?_, fun r r0 r1 => ?_⟩
  · rw [e46]
    exact rd.same (fun c p c0 c1 => F c p (by omega)) (F 3 4 (by first | decide | exact fun z => absurd z.1 (by decide) | exact ⟨fun z => absurd z.1 (by decide), fun z => absurd z.1 (by decide)⟩ | omega)) (fun p _ _ => rfl)
  · rw [F 357 k (by first | decide | exact fun z => absurd z.1 (by decide) | exact ⟨fun z => absurd z.1 (by decide), fun z => absurd z.1 (by decide)⟩ | omega), e54]
    exact (im k k0 k1).imp (fun z => z) (fun z => z.same (fun c p c0 c1 => F c p (by omega)) (F _ 4 (by omega)) (fun p _ _ => rfl))
  · rw [F 0 5 (by first | decide | exact fun z => absurd z.1 (by decide) | exact ⟨fun z => absurd z.1 (by decide), fun z => absurd z.1 (by decide)⟩ | omega), F 336 25 (by first | decide | exact fun z => absurd z.1 (by decide) | exact ⟨fun z => absurd z.1 (by decide), fun z => absurd z.1 (by decide)⟩ | omega)]; exact eu
  · rw [F 336 25 (by first | decide | exact fun z => absurd z.1 (by decide) | exact ⟨fun z => absurd z.1 (by decide), fun z => absurd z.1 (by decide)⟩ | omega)] at r1 ⊢
    rw [F 0 4 (by first | decide | exact fun z => absurd z.1 (by decide) | exact ⟨fun z => absurd z.1 (by decide), fun z => absurd z.1 (by decide)⟩ | omega)]
    obtain ⟨o, ho⟩ : ∃ o : Int, o = (M 0 4 + 20 - M 336 25 + r) % 20 := ⟨_, rfl⟩
    have q := pa r r0 r1
    rw [← ho] at q ⊢
    have ob : 0 ≤ o ∧ o ≤ 19 := by omega
    obtain ⟨⟨sr, db⟩, tl⟩ := q
    unfold RU
    rw [e47, e46]
    refine ⟨⟨?_, db⟩, tl⟩
    obtain ⟨⟨r1', r2⟩, r3, r4, r5, r6⟩ := sr
    refine ⟨⟨by rw [F _ 0 (by omega)]; exact r1', by rw [F _ 1 (by omega)]; exact r2⟩, fun a a0 a1 => ?_, fun a a0 a1 => ?_, fun a a0 a1 => ?_, fun a a0 a1 => ?_⟩
    · have z := r3 a a0 a1
      unfold SRh at z ⊢
      rw [F _ a (by omega), F _ a (by omega), F _ a (by omega)]
      exact z
    · have z := r4 a a0 a1
      unfold SRj at z ⊢
      rw [F _ a (by omega), F _ a (by omega), F _ a (by omega)]
      exact z
    · rw [F _ a (by omega), F _ a (by omega)]
      exact r5 a a0 a1
    · rw [F _ a (by omega)]
      exact r6 a a0 a1
theorem XZ.same {M M' : Mm} {n : Int} (h : XZ M n) (F : ∀ c p : Int, ((4 ≤ c ∧ c ≤ 27) ∨ (c = 3 ∧ p = 4) ∨ (76 ≤ c ∧ c ≤ 335) ∨ c = 346 ∨ c = 347 ∨ c = 354 ∨ c = 357 ∨ (c = 55 ∧ p = 2) ∨ (c = 336 ∧ p = 23)) → M' c p = M c p) : XZ M' n := by
  obtain ⟨a, b, c, d, e, f⟩ := h
  refine ⟨a.move (F _ _ (by omega)) (F _ _ (by omega)) (F _ _ (by omega)) (fun p _ _ => F _ _ (by omega)) (fun p _ _ => F _ _ (by omega)) (fun p _ _ => F _ _ (by omega)), fun k k0 k1 => (b k k0 k1).move (F _ _ (by omega)) (F _ _ (by omega)) (F _ _ (by omega)) (fun p _ _ => F _ _ (by omega)) (fun p _ _ => F _ _ (by omega)) (fun p _ _ => F _ _ (by omega)), fun r r0 r1 => ?_, ?_, fun k k0 k1 => ?_, ?_⟩
  · rw [F _ 0 (by omega)]; exact ⟨(c r r0 r1).1, (c r r0 r1).2.move (fun p _ _ => F _ _ (by omega))⟩
  · rw [show M' 346 = M 346 from funext (fun p => F 346 p (by first | decide | exact fun z => absurd z.1 (by decide) | exact ⟨fun z => absurd z.1 (by decide), fun z => absurd z.1 (by decide)⟩ | omega))]; exact d
  · rw [F 357 k (by first | decide | exact fun z => absurd z.1 (by decide) | exact ⟨fun z => absurd z.1 (by decide), fun z => absurd z.1 (by decide)⟩ | omega), show iD M' k = iD M k from funext (fun p => F 354 _ (by first | decide | exact fun z => absurd z.1 (by decide) | exact ⟨fun z => absurd z.1 (by decide), fun z => absurd z.1 (by decide)⟩ | omega))]; exact e k k0 k1
  · rw [F 55 2 (by first | decide | exact fun z => absurd z.1 (by decide) | exact ⟨fun z => absurd z.1 (by decide), fun z => absurd z.1 (by decide)⟩ | omega), F 336 23 (by first | decide | exact fun z => absurd z.1 (by decide) | exact ⟨fun z => absurd z.1 (by decide), fun z => absurd z.1 (by decide)⟩ | omega)]; exact f
theorem XZ.mono {M : Mm} {n n' : Int} (h : XZ M n) (l : n ≤ n') : XZ M n' := by
  obtain ⟨⟨a1, a2⟩, b, c, d⟩ := h
  refine ⟨⟨by omega, a2⟩, fun k k0 k1 => ?_, fun r r0 r1 => ?_, d⟩
  · obtain ⟨z1, z2⟩ := b k k0 k1
    exact ⟨by omega, z2⟩
  · have z := c r r0 r1
    exact ⟨by omega, z.2⟩
theorem RZ.mono {S : Sh} {M : Mm} {n n' : Int} (h : RZ S M n) (l : n ≤ n') : RZ S M n' := ⟨h.1, h.2.1, h.2.2.1, h.2.2.2.mono l⟩
/-- what is asked changes nothing that lasts -/
theorem RZ.same {S : Sh} {M M' : Mm} {n : Int} (h : RZ S M n) (j : JX S M') (F : ∀ c p : Int, ¬ fq1_W c p → ¬ fq2_W c p → M' c p = M c p) : RZ S M' n :=
  ⟨j, h.2.1.same (fun c p q => F c p (by unfold fq1_W; omega) (by unfold fq2_W; omega)), h.2.2.1.same (fun c p q => F c p (by unfold fq1_W; omega) (by unfold fq2_W; omega)), h.2.2.2.same (fun c p q => F c p (by unfold fq1_W; omega) (by unfold fq2_W; omega))⟩
/-- an ACT of both sides -/
theorem RZ.act {S : Sh} {m0 M1 M2 M3 M4 : Mm} {n n' i u s : Int} (h : RZ S m0 n) (kp : KP m0 M1 i) (f2 : ∀ c p : Int, ¬ (16 ≤ c ∧ c ≤ 23) → ¬ (c = 56 ∨ (c = 55 ∧ 4 ≤ p)) → M2 c p = M1 c p) (ka : KA M2 M3 u s) (f4 : ∀ c p : Int, ¬ (c = 346 ∧ 0 ≤ p ∧ p < 57 ∧ ¬ tp p) → ¬ (344 ≤ c ∧ c ≤ 345) → ¬ (c = 336 ∧ p = 18) → M4 c p = M3 c p) (j2 : JX S M2) (hm4 : Inv (sf M2) S M4) (x : SR M4 16 (M4 346)) (x2 : H2 (M4 21)) (hn : n ≤ n') (hh : M2 16 0 ≤ n') : RZ S M4 n' := by
  have j4 := j2.of hm4
  obtain ⟨j, rw, cr, xz⟩ := h
  obtain ⟨k1, k2, k3, k4, k5, k6, k7, k8, k9, k10, k11⟩ := id kp
  obtain ⟨a1, a2, a3, a4, a5, a6⟩ := id ka
  have F : ∀ c p : Int, ¬ (176 ≤ c ∧ c ≤ 335) → ¬ (c = 0 ∧ (p = 4 ∨ p = 5)) → ¬ (16 ≤ c ∧ c ≤ 23) → ¬ (c = 56 ∨ (c = 55 ∧ 4 ≤ p)) → ¬ c = 347 → ¬ (c = 336 ∧ (p = 25 ∨ p = 18)) → ¬ (c = 346 ∧ 0 ≤ p ∧ p < 57 ∧ ¬ tp p) → ¬ (344 ≤ c ∧ c ≤ 345) → M4 c p = m0 c p := fun c p b1 b2 b3 b4 b5 b6 b7 b8 => by
    rw [f4 c p b7 b8 (fun z => b6 ⟨z.1, Or.inr z.2⟩), a4 c p b5 (fun z => b6 ⟨z.1, Or.inl z.2⟩), f2 c p b3 b4, kp.f b1 b2]
  refine ⟨j4, ?_, ?_, ?_⟩
  · exact rw.act k1 k2.1 k2.2 k3 k4 k5 k6.1 k6.2 k7 k8 k9 (fun c p b1 b2 => f2 c p b1 (by omega)) a1.1 a1.2 a2 a3 a4 a5 a6 f4 k10 k11 x
  · exact cr.same (fun c p q => F c p (by omega) (by omega) (by omega) (by omega) (by omega) (by omega) (by omega) (by omega))
  · obtain ⟨⟨s1, s2, s3, s4⟩, b, c, d, e, f⟩ := xz
    have G : ∀ p : Int, (tp p ∨ ¬ (0 ≤ p ∧ p < 57)) → M4 346 p = m0 346 p := fun p q => F 346 p (by first | decide | exact fun z => absurd z.1 (by decide) | exact ⟨fun z => absurd z.1 (by decide), fun z => absurd z.1 (by decide)⟩ | omega) (by first | decide | exact fun z => absurd z.1 (by decide) | exact ⟨fun z => absurd z.1 (by decide), fun z => absurd z.1 (by decide)⟩ | omega) (by first | decide | exact fun z => absurd z.1 (by decide) | exact ⟨fun z => absurd z.1 (by decide), fun z => absurd z.1 (by decide)⟩ | omega) (by first | decide | exact fun z => absurd z.1 (by decide) | exact ⟨fun z => absurd z.1 (by decide), fun z => absurd z.1 (by decide)⟩ | omega) (by first | decide | exact fun z => absurd z.1 (by decide) | exact ⟨fun z => absurd z.1 (by decide), fun z => absurd z.1 (by decide)⟩ | omega) (by first | decide | exact fun z => absurd z.1 (by decide) | exact ⟨fun z => absurd z.1 (by decide), fun z => absurd z.1 (by decide)⟩ | omega) (fun z => q.elim (fun y => z.2.2.2 y) (fun y => y ⟨z.2.1, z.2.2.1⟩)) (by omega)
    refine ⟨⟨?_, ?_, ?_, x2⟩, fun k l0 l1 => ?_, fun r r0 r1 => ⟨?_, ?_⟩, ?_, fun k l0 l1 => ?_, ?_⟩
    · show M4 16 0 ≤ n'
      rw [f4 16 0 (by first | decide | exact fun z => absurd z.1 (by decide) | exact ⟨fun z => absurd z.1 (by decide), fun z => absurd z.1 (by decide)⟩ | omega) (by first | decide | exact fun z => absurd z.1 (by decide) | exact ⟨fun z => absurd z.1 (by decide), fun z => absurd z.1 (by decide)⟩ | omega) (by first | decide | exact fun z => absurd z.1 (by decide) | exact ⟨fun z => absurd z.1 (by decide), fun z => absurd z.1 (by decide)⟩ | omega), a4 16 0 (by omega) (by omega)]
      exact hh
    · rw [F _ 0 (by omega) (by omega) (by omega) (by omega) (by omega) (by omega) (by omega) (by omega), F 3 4 (by first | decide | exact fun z => absurd z.1 (by decide) | exact ⟨fun z => absurd z.1 (by decide), fun z => absurd z.1 (by decide)⟩ | omega) (by first | decide | exact fun z => absurd z.1 (by decide) | exact ⟨fun z => absurd z.1 (by decide), fun z => absurd z.1 (by decide)⟩ | omega) (by first | decide | exact fun z => absurd z.1 (by decide) | exact ⟨fun z => absurd z.1 (by decide), fun z => absurd z.1 (by decide)⟩ | omega) (by first | decide | exact fun z => absurd z.1 (by decide) | exact ⟨fun z => absurd z.1 (by decide), fun z => absurd z.1 (by decide)⟩ | omega) (by first | decide | exact fun z => absurd z.1 (by decide) | exact ⟨fun z => absurd z.1 (by decide), fun z => absurd z.1 (by decide)⟩ | omega) (by first | decide | exact fun z => absurd z.1 (by decide) | exact ⟨fun z => absurd z.1 (by decide), fun z => absurd z.1 (by decide)⟩ | omega) (by first | decide | exact fun z => absurd z.1 (by decide) | exact ⟨fun z => absurd z.1 (by decide), fun z => absurd z.1 (by decide)⟩ | omega) (by first | decide | exact fun z => absurd z.1 (by decide) | exact ⟨fun z => absurd z.1 (by decide), fun z => absurd z.1 (by decide)⟩ | omega)]
      exact s2
    · exact s3.move (F _ 0 (by omega) (by omega) (by omega) (by omega) (by omega) (by omega) (by omega) (by omega)) (fun p _ _ => F _ p (by omega) (by omega) (by omega) (by omega) (by omega) (by omega) (by omega) (by omega)) (fun p _ _ => F _ p (by omega) (by omega) (by omega) (by omega) (by omega) (by omega) (by omega) (by omega))
    · have z := (b k l0 l1).move (M' := M4) (s' := 76 + 25 * k) (F _ _ (by omega) (by omega) (by omega) (by omega) (by omega) (by omega) (by omega) (by omega)) (F _ _ (by omega) (by omega) (by omega) (by omega) (by omega) (by omega) (by omega) (by omega)) (F _ _ (by omega) (by omega) (by omega) (by omega) (by omega) (by omega) (by omega) (by omega)) (fun p _ _ => F _ _ (by omega) (by omega) (by omega) (by omega) (by omega) (by omega) (by omega) (by omega)) (fun p _ _ => F _ _ (by omega) (by omega) (by omega) (by omega) (by omega) (by omega) (by omega) (by omega)) (fun p _ _ => F _ _ (by omega) (by omega) (by omega) (by omega) (by omega) (by omega) (by omega) (by omega))
      obtain ⟨z1, z2⟩ := z
      exact ⟨by omega, z2⟩
    · rw [f4 _ 0 (by omega) (by omega) (by omega), a4 _ 0 (by omega) (by omega), f2 _ 0 (by omega) (by omega)]
      by_cases e2 : r = i
      · rw [e2, k6.1]
        have : m0 16 0 ≤ n := s1
        omega
      · rw [k3 _ 0 (by omega) (by omega)]
        have := (c r r0 r1).1
        omega
    · have e4 : ∀ p : Int, M4 (176 + 8 * r + 5) p = M1 (176 + 8 * r + 5) p := fun p => by rw [f4 _ p (by omega) (by omega) (by omega), a4 _ p (by omega) (by omega), f2 _ p (by omega) (by omega)]
      by_cases e2 : r = i
      · refine s4.move (fun p p0 p1 => ?_)
        rw [e4, e2, show 176 + 8 * i + 5 = 181 + 8 * i by omega]
        exact (k8 p p0 p1).2.1
      · refine (c r r0 r1).2.move (fun p p0 p1 => ?_)
        rw [e4, k3 _ p (by omega) (by omega)]
    · refine d.move rw.1.1.2 (fun p q => G p (by omega))
    · rw [F 357 k (by first | decide | exact fun z => absurd z.1 (by decide) | exact ⟨fun z => absurd z.1 (by decide), fun z => absurd z.1 (by decide)⟩ | omega) (by first | decide | exact fun z => absurd z.1 (by decide) | exact ⟨fun z => absurd z.1 (by decide), fun z => absurd z.1 (by decide)⟩ | omega) (by first | decide | exact fun z => absurd z.1 (by decide) | exact ⟨fun z => absurd z.1 (by decide), fun z => absurd z.1 (by decide)⟩ | omega) (by first | decide | exact fun z => absurd z.1 (by decide) | exact ⟨fun z => absurd z.1 (by decide), fun z => absurd z.1 (by decide)⟩ | omega) (by first | decide | exact fun z => absurd z.1 (by decide) | exact ⟨fun z => absurd z.1 (by decide), fun z => absurd z.1 (by decide)⟩ | omega) (by first | decide | exact fun z => absurd z.1 (by decide) | exact ⟨fun z => absurd z.1 (by decide), fun z => absurd z.1 (by decide)⟩ | omega) (by first | decide | exact fun z => absurd z.1 (by decide) | exact ⟨fun z => absurd z.1 (by decide), fun z => absurd z.1 (by decide)⟩ | omega) (by first | decide | exact fun z => absurd z.1 (by decide) | exact ⟨fun z => absurd z.1 (by decide), fun z => absurd z.1 (by decide)⟩ | omega), show iD M4 k = iD m0 k from funext (fun p => F 354 _ (by first | decide | exact fun z => absurd z.1 (by decide) | exact ⟨fun z => absurd z.1 (by decide), fun z => absurd z.1 (by decide)⟩ | omega) (by first | decide | exact fun z => absurd z.1 (by decide) | exact ⟨fun z => absurd z.1 (by decide), fun z => absurd z.1 (by decide)⟩ | omega) (by first | decide | exact fun z => absurd z.1 (by decide) | exact ⟨fun z => absurd z.1 (by decide), fun z => absurd z.1 (by decide)⟩ | omega) (by first | decide | exact fun z => absurd z.1 (by decide) | exact ⟨fun z => absurd z.1 (by decide), fun z => absurd z.1 (by decide)⟩ | omega) (by first | decide | exact fun z => absurd z.1 (by decide) | exact ⟨fun z => absurd z.1 (by decide), fun z => absurd z.1 (by decide)⟩ | omega) (by first | decide | exact fun z => absurd z.1 (by decide) | exact ⟨fun z => absurd z.1 (by decide), fun z => absurd z.1 (by decide)⟩ | omega) (by first | decide | exact fun z => absurd z.1 (by decide) | exact ⟨fun z => absurd z.1 (by decide), fun z => absurd z.1 (by decide)⟩ | omega) (by first | decide | exact fun z => absurd z.1 (by decide) | exact ⟨fun z => absurd z.1 (by decide), fun z => absurd z.1 (by decide)⟩ | omega))]
      exact e k l0 l1
    · rw [F 55 2 (by first | decide | exact fun z => absurd z.1 (by decide) | exact ⟨fun z => absurd z.1 (by decide), fun z => absurd z.1 (by decide)⟩ | omega) (by first | decide | exact fun z => absurd z.1 (by decide) | exact ⟨fun z => absurd z.1 (by decide), fun z => absurd z.1 (by decide)⟩ | omega) (by first | decide | exact fun z => absurd z.1 (by decide) | exact ⟨fun z => absurd z.1 (by decide), fun z => absurd z.1 (by decide)⟩ | omega) (by first | decide | exact fun z => absurd z.1 (by decide) | exact ⟨fun z => absurd z.1 (by decide), fun z => absurd z.1 (by decide)⟩ | omega) (by first | decide | exact fun z => absurd z.1 (by decide) | exact ⟨fun z => absurd z.1 (by decide), fun z => absurd z.1 (by decide)⟩ | omega) (by first | decide | exact fun z => absurd z.1 (by decide) | exact ⟨fun z => absurd z.1 (by decide), fun z => absurd z.1 (by decide)⟩ | omega) (by first | decide | exact fun z => absurd z.1 (by decide) | exact ⟨fun z => absurd z.1 (by decide), fun z => absurd z.1 (by decide)⟩ | omega) (by first | decide | exact fun z => absurd z.1 (by decide) | exact ⟨fun z => absurd z.1 (by decide), fun z => absurd z.1 (by decide)⟩ | omega), F 336 23 (by first | decide | exact fun z => absurd z.1 (by decide) | exact ⟨fun z => absurd z.1 (by decide), fun z => absurd z.1 (by decide)⟩ | omega) (by first | decide | exact fun z => absurd z.1 (by decide) | exact ⟨fun z => absurd z.1 (by decide), fun z => absurd z.1 (by decide)⟩ | omega) (by first | decide | exact fun z => absurd z.1 (by decide) | exact ⟨fun z => absurd z.1 (by decide), fun z => absurd z.1 (by decide)⟩ | omega) (by first | decide | exact fun z => absurd z.1 (by decide) | exact ⟨fun z => absurd z.1 (by decide), fun z => absurd z.1 (by decide)⟩ | omega) (by first | decide | exact fun z => absurd z.1 (by decide) | exact ⟨fun z => absurd z.1 (by decide), fun z => absurd z.1 (by decide)⟩ | omega) (by first | decide | exact fun z => absurd z.1 (by decide) | exact ⟨fun z => absurd z.1 (by decide), fun z => absurd z.1 (by decide)⟩ | omega) (by first | decide | exact fun z => absurd z.1 (by decide) | exact ⟨fun z => absurd z.1 (by decide), fun z => absurd z.1 (by decide)⟩ | omega) (by first | decide | exact fun z => absurd z.1 (by decide) | exact ⟨fun z => absurd z.1 (by decide), fun z => absurd z.1 (by decide)⟩ | omega)]
      exact f
end
section
/-! the ACTS of both sides: alike, and alike they stay -/
theorem RZ.hd {S : Sh} {M : Mm} {n i : Int} (h : RZ S M n) (i0 : 0 ≤ i) (i1 : i < M 346 4) : M 17 i = M 346 (10 + 5 * i) ∧ M 18 i = M 346 (10 + 5 * i + 1) ∧ M 19 i = M 346 (10 + 5 * i + 2) := h.sr.2.1 i i0 i1
theorem RZ.jg {S : Sh} {M : Mm} {n j : Int} (h : RZ S M n) (j0 : 0 ≤ j) (j1 : j < M 346 5) : M 21 j = M 346 (35 + 4 * j + 1) ∧ M 22 j = M 346 (35 + 4 * j + 2) ∧ ((M 20 j = M 346 (35 + 4 * j) ∧ M 346 (35 + 4 * j + 1) = -1 ∧ M 346 (35 + 4 * j + 3) = 0 ∧ 0 ≤ M 346 (35 + 4 * j)) ∨ (M 20 j = -1 ∧ 0 ≤ M 346 (35 + 4 * j + 1) ∧ M 346 (35 + 4 * j + 1) < M 346 4 ∧ M 346 (35 + 4 * j + 3) = 0) ∨ (M 20 j = -1 ∧ M 346 (35 + 4 * j + 1) = -1 ∧ M 346 (35 + 4 * j + 3) = 1)) := h.sr.2.2.1 j j0 j1
theorem RZ.wt {S : Sh} {M : Mm} {n w : Int} (h : RZ S M n) (w0 : 0 ≤ w) (w1 : w < M 346 6) : M 23 w = M 346 (51 + w) := h.sr.2.2.2.2 w w0 w1
theorem RZ.ct {S : Sh} {M : Mm} {n : Int} (h : RZ S M n) : M 4 0 = M 346 0 ∧ M 4 1 = M 346 1 ∧ M 4 2 = M 346 2 ∧ M 4 3 = M 346 3 ∧ M 4 4 = M 346 4 ∧ M 4 5 = M 346 5 ∧ M 4 6 = M 346 9 ∧ M 4 7 = M 346 6 := h.tl.1
theorem RZ.sp {S : Sh} {M : Mm} {n i : Int} (h : RZ S M n) (i0 : 0 ≤ i) (i1 : i < M 346 4) : M 7 i = M 346 (10 + 5 * i + 3) ∧ M 8 i = M 346 (10 + 5 * i + 4) := h.tl.2.2.1 i i0 i1
theorem RZ.wd {S : Sh} {M : Mm} {n i : Int} (h : RZ S M n) (i0 : 0 ≤ i) (i1 : i < M 346 6) : M 12 i = M 346 (93 + 4 * i) ∧ M 13 i = M 346 (93 + 4 * i + 1) ∧ M 14 i = M 346 (93 + 4 * i + 2) ∧ M 15 i = M 346 (93 + 4 * i + 3) := h.tl.2.2.2.2 i i0 i1
theorem RZ.hb {S : Sh} {M : Mm} {n h : Int} (z : RZ S M n) (h0 : 0 ≤ h) : hbt (M 21) h 4 = hbR M h := SR.held z.inv z.sr h0
theorem RZ.db {S : Sh} {M : Mm} {n : Int} (h : RZ S M n) : (0 ≤ M 346 4 ∧ M 346 4 ≤ 5) ∧ (0 ≤ M 346 5 ∧ M 346 5 ≤ 4) ∧ (0 ≤ M 346 6 ∧ M 346 6 ≤ 6) ∧ (0 ≤ M 346 9 ∧ M 346 9 ≤ 4) ∧ (0 ≤ M 346 157 ∧ M 346 157 ≤ 10) := h.rd.1.1
theorem StR.same {m m' : Mm} {j : Int} (e : m' 346 = m 346) : StR m' j ↔ StR m j := by unfold StR; rw [e]
theorem hbR.eq {m m' : Mm} {h : Int} (e : m' 346 = m 346) : hbR m' h = hbR m h := by unfold hbR; rw [e]
/-- an ACT that changes one JUG -/
theorem RZ.actJ {S : Sh} {m0 M1 M2 M3 M4 : Mm} {n i u s j : Int} (h : RZ S m0 n) (j0 : 0 ≤ j) (j1 : j < m0 346 5) (kp : KP m0 M1 i) (f2 : ∀ c p : Int, ¬ (p = j ∧ (c = 20 ∨ c = 21)) → M2 c p = M1 c p) (ka : KA M2 M3 u s) (f4 : ∀ c p : Int, ¬ (c = 346 ∧ (p = 35 + 4 * j ∨ p = 35 + 4 * j + 1)) → M4 c p = M3 c p) (hm2 : Inv (sf m0) S M2) (hm4 : Inv (sf M2) S M4) (x2 : 0 ≤ M2 21 j → bcF (hbt (m0 21) (M2 21 j) 4) < 2) (x : (∀ c p : Int, ¬ (176 ≤ c ∧ c ≤ 335) → ¬ (c = 0 ∧ (p = 4 ∨ p = 5)) → ¬ (p = j ∧ (c = 20 ∨ c = 21)) → ¬ c = 347 → ¬ (c = 336 ∧ p = 25) → ¬ (c = 346 ∧ (p = 35 + 4 * j ∨ p = 35 + 4 * j + 1)) → M4 c p = m0 c p) → SRj M4 16 (M4 346) j) : RZ S M4 n := by
  have db := h.db
  have F : ∀ c p : Int, ¬ (176 ≤ c ∧ c ≤ 335) → ¬ (c = 0 ∧ (p = 4 ∨ p = 5)) → ¬ (p = j ∧ (c = 20 ∨ c = 21)) → ¬ c = 347 → ¬ (c = 336 ∧ p = 25) → ¬ (c = 346 ∧ (p = 35 + 4 * j ∨ p = 35 + 4 * j + 1)) → M4 c p = m0 c p := fun c p b1 b2 b3 b4 b5 b6 => by
    rw [f4 c p b6, ka.f b4 b5, f2 c p b3, kp.f b1 b2]
  have b16 : M2 16 0 = m0 16 0 := by rw [f2 16 0 (by first | decide | exact fun z => absurd z.1 (by decide) | exact ⟨fun z => absurd z.1 (by decide), fun z => absurd z.1 (by decide)⟩ | omega), kp.f (by omega) (by omega)]
  refine h.act kp (fun c p b1 b2 => f2 c p (by first | exact fun y => absurd (y.1 ▸ z) (by decide) | exact fun y => absurd (y.1 ▸ q) (by decide) | exact z | exact q | exact z.1 | exact q.1 | exact z.2 | exact q.2 | omega)) ka (fun c p b1 b2 b3 => f4 c p (by first | exact fun y => absurd (y.1 ▸ z) (by decide) | exact fun y => absurd (y.1 ▸ q) (by decide) | exact z | exact q | exact z.1 | exact q.1 | exact z.2 | exact q.2 | omega)) (h.1.of hm2) hm4 ?_ ?_ (Int.le_refl n) (by rw [b16]; exact h.2.2.2.1.1)
  · exact h.sr.jug db.1 db.2.1.2 db.2.2.1.2 ⟨j0, j1⟩ (fun c p q1 q2 => F c p (by omega) (by omega) (by omega) (by omega) (by omega) (by omega)) (fun p q => F 346 p (by first | decide | exact fun z => absurd z.1 (by decide) | exact ⟨fun z => absurd z.1 (by decide), fun z => absurd z.1 (by decide)⟩ | omega) (by first | decide | exact fun z => absurd z.1 (by decide) | exact ⟨fun z => absurd z.1 (by decide), fun z => absurd z.1 (by decide)⟩ | omega) (by first | decide | exact fun z => absurd z.1 (by decide) | exact ⟨fun z => absurd z.1 (by decide), fun z => absurd z.1 (by decide)⟩ | omega) (by first | decide | exact fun z => absurd z.1 (by decide) | exact ⟨fun z => absurd z.1 (by decide), fun z => absurd z.1 (by decide)⟩ | omega) (by first | decide | exact fun z => absurd z.1 (by decide) | exact ⟨fun z => absurd z.1 (by decide), fun z => absurd z.1 (by decide)⟩ | omega) (by first | decide | exact fun z => absurd z.1 (by decide) | exact ⟨fun z => absurd z.1 (by decide), fun z => absurd z.1 (by decide)⟩ | omega)) (x F)
  · have h2 : H2 (m0 21) := h.2.2.2.1.2.2.2
    have e : M4 21 j = M2 21 j := by rw [f4 21 j (by first | decide | exact fun z => absurd z.1 (by decide) | exact ⟨fun z => absurd z.1 (by decide), fun z => absurd z.1 (by decide)⟩ | omega), ka.f (by omega) (by omega)]
    refine h2.put (j := j) (fun p p0 p1 p2 => F 21 p (by first | decide | exact fun z => absurd z.1 (by decide) | exact ⟨fun z => absurd z.1 (by decide), fun z => absurd z.1 (by decide)⟩ | omega) (by first | decide | exact fun z => absurd z.1 (by decide) | exact ⟨fun z => absurd z.1 (by decide), fun z => absurd z.1 (by decide)⟩ | omega) (by first | decide | exact fun z => absurd z.1 (by decide) | exact ⟨fun z => absurd z.1 (by decide), fun z => absurd z.1 (by decide)⟩ | omega) (by first | decide | exact fun z => absurd z.1 (by decide) | exact ⟨fun z => absurd z.1 (by decide), fun z => absurd z.1 (by decide)⟩ | omega) (by first | decide | exact fun z => absurd z.1 (by decide) | exact ⟨fun z => absurd z.1 (by decide), fun z => absurd z.1 (by decide)⟩ | omega) (by first | decide | exact fun z => absurd z.1 (by decide) | exact ⟨fun z => absurd z.1 (by decide), fun z => absurd z.1 (by decide)⟩ | omega)) ?_
    rw [e]
    exact x2
theorem tk_iff {S : Sh} {m : Mm} {n h j : Int} (z : RZ S m n) : cTk m h j ↔ rTk m h j := by
  have ct := z.ct
  have db := z.db
  unfold cTk rTk StR
  rw [ct.2.2.2.2.1, ct.2.2.2.2.2.1]
  simp only [Int.add_zero]
  constructor
  · rintro ⟨h1, j1, a, b, c, d⟩
    have zh := z.hd h1.1 h1.2
    have zj := z.jg j1.1 j1.2
    rw [z.hb h1.1] at d
    exact ⟨h1, j1, by omega, ⟨by omega, by omega⟩, by omega, d⟩
  · rintro ⟨h1, j1, c, ⟨a, a2⟩, b, d⟩
    have zh := z.hd h1.1 h1.2
    have zj := z.jg j1.1 j1.2
    rw [← z.hb h1.1] at d
    exact ⟨h1, j1, by omega, by omega, by omega, d⟩
theorem rTk_eq {m m' : Mm} {h j : Int} (e : m' 346 = m 346) : rTk m' h j ↔ rTk m h j := by
  unfold rTk StR
  rw [hbR.eq e, e]
theorem zz_take {S : Sh} {m0 : Mm} {K : Int → Int → Mm → Prop} {K1 : Int → Mm → Prop} {n h j : Int} (hS : Shp S) (hz : RZ S m0 n) (hK : ∀ (r : Int) (M : Mm), wp_X12_take S M 336 h j (fun r2 M2 => K r r2 M2) → K1 r M) (hk : ∀ (r : Int) (M1 : Mm), RZ S M1 n → K r r M1) : wp_X11_take S m0 0 h j K1 := by
  have hm := hz.inv
  have ct := hz.ct
  refine zs_take11 hS hm (fun nc => hK _ _ (zs_take12 hS hm (fun _ => hk _ m0 hz) (fun u s M1 M2 c _ _ _ _ => absurd ((tk_iff hz).2 c) nc))) (fun i M1 M2 c kp hm2 f2 y21 y20 => ?_)
  have j2 := hz.1.of hm2
  have e46 : M2 346 = m0 346 := funext (fun p => by rw [f2 346 p (by first | decide | exact fun z => absurd z.1 (by decide) | exact ⟨fun z => absurd z.1 (by decide), fun z => absurd z.1 (by decide)⟩ | omega), kp.f (by omega) (by omega)])
  obtain ⟨h1, j1, _⟩ := id c
  refine hK _ _ (zs_take12 hS j2.inv (fun nc => absurd ((rTk_eq e46).2 ((tk_iff hz).1 c)) nc) (fun u s M3 M4 c4 ka hm4 f4 y4 => ?_))
  have zj := hz.jg j1.1 (by omega)
  have cc := ((rTk_eq e46).1 c4)
  have z4 : RZ S M4 n := by
    refine hz.actJ j1.1 (by omega) kp f2 ka (fun c p q => f4 c p (by first | exact fun y => absurd (y.1 ▸ z) (by decide) | exact fun y => absurd (y.1 ▸ q) (by decide) | exact z | exact q | exact z.1 | exact q.1 | exact z.2 | exact q.2 | omega)) hm2 hm4 (fun _ => by rw [y21]; exact c.2.2.2.2.2) (fun F => ?_)
    have G : ∀ p : Int, ¬ p = 35 + 4 * j + 1 → M4 346 p = m0 346 p := fun p q => by rw [f4 346 p (by first | decide | exact fun z => absurd z.1 (by decide) | exact ⟨fun z => absurd z.1 (by decide), fun z => absurd z.1 (by decide)⟩ | omega), ka.f (by omega) (by omega), e46]
    refine ⟨?_, ?_, Or.inr (Or.inl ⟨?_, by omega, ?_, ?_⟩)⟩
    · show M4 21 j = _
      rw [f4 21 j (by first | decide | exact fun z => absurd z.1 (by decide) | exact ⟨fun z => absurd z.1 (by decide), fun z => absurd z.1 (by decide)⟩ | omega), ka.f (by omega) (by omega), y21, y4]
    · show M4 22 j = _
      rw [F 22 j (by first | decide | exact fun z => absurd z.1 (by decide) | exact ⟨fun z => absurd z.1 (by decide), fun z => absurd z.1 (by decide)⟩ | omega) (by first | decide | exact fun z => absurd z.1 (by decide) | exact ⟨fun z => absurd z.1 (by decide), fun z => absurd z.1 (by decide)⟩ | omega) (by first | decide | exact fun z => absurd z.1 (by decide) | exact ⟨fun z => absurd z.1 (by decide), fun z => absurd z.1 (by decide)⟩ | omega) (by first | decide | exact fun z => absurd z.1 (by decide) | exact ⟨fun z => absurd z.1 (by decide), fun z => absurd z.1 (by decide)⟩ | omega) (by first | decide | exact fun z => absurd z.1 (by decide) | exact ⟨fun z => absurd z.1 (by decide), fun z => absurd z.1 (by decide)⟩ | omega) (by first | decide | exact fun z => absurd z.1 (by decide) | exact ⟨fun z => absurd z.1 (by decide), fun z => absurd z.1 (by decide)⟩ | omega), G _ (by omega)]
      exact zj.2.1
    · show M4 20 j = _
      rw [f4 20 j (by first | decide | exact fun z => absurd z.1 (by decide) | exact ⟨fun z => absurd z.1 (by decide), fun z => absurd z.1 (by decide)⟩ | omega), ka.f (by omega) (by omega), y20]
    · rw [G 4 (by omega), y4]; omega
    · rw [G _ (by omega)]; exact cc.2.2.2.1.2
  have e : hbt (M2 21) h 4 = hbR M4 h := by
    rw [← z4.hb h1.1, show M4 21 = M2 21 from funext (fun p => by rw [f4 21 p (by first | decide | exact fun z => absurd z.1 (by decide) | exact ⟨fun z => absurd z.1 (by decide), fun z => absurd z.1 (by decide)⟩ | omega), ka.f (by omega) (by omega)])]
  rw [← e]
  exact hk _ M4 z4
theorem pt_iff {S : Sh} {m : Mm} {n h j : Int} (z : RZ S m n) : cPt m h j ↔ rPt m h j := by
  have ct := z.ct
  unfold cPt rPt
  rw [ct.2.2.2.2.1, ct.2.2.2.2.2.1]
  constructor
  · rintro ⟨h1, j1, a, b⟩
    have zh := z.hd h1.1 h1.2
    have zj := z.jg j1.1 j1.2
    exact ⟨h1, j1, by omega, by omega⟩
  · rintro ⟨h1, j1, a, b⟩
    have zh := z.hd h1.1 h1.2
    have zj := z.jg j1.1 j1.2
    exact ⟨h1, j1, by omega, by omega⟩
theorem zz_put {S : Sh} {m0 : Mm} {K : Int → Int → Mm → Prop} {K1 : Int → Mm → Prop} {n h j : Int} (hS : Shp S) (hz : RZ S m0 n) (hK : ∀ (r : Int) (M : Mm), wp_X12_put S M 336 h j (fun r2 M2 => K r r2 M2) → K1 r M) (hk : ∀ (r : Int) (M1 : Mm), RZ S M1 n → K r r M1) : wp_X11_put S m0 0 h j K1 := by
  have hm := hz.inv
  have ct := hz.ct
  refine zs_put11 hS hm (fun nc => hK _ _ (zs_put12 hS hm (fun _ => hk _ m0 hz) (fun u s M1 M2 c _ _ _ _ _ => absurd ((pt_iff hz).2 c) nc))) (fun i M1 M2 c kp hm2 f2 y21 y20 => ?_)
  have j2 := hz.1.of hm2
  have e46 : M2 346 = m0 346 := funext (fun p => by rw [f2 346 p (by first | decide | exact fun z => absurd z.1 (by decide) | exact ⟨fun z => absurd z.1 (by decide), fun z => absurd z.1 (by decide)⟩ | omega), kp.f (by omega) (by omega)])
  obtain ⟨h1, j1, _⟩ := id c
  have zh := hz.hd h1.1 (by omega)
  have zj := hz.jg j1.1 (by omega)
  refine hK _ _ (zs_put12 hS j2.inv (fun nc => absurd (show rPt M2 h j by unfold rPt; rw [e46]; exact (pt_iff hz).1 c) nc) (fun u s M3 M4 c4 ka hm4 f4 y4 y5 => ?_))
  unfold rPt at c4
  rw [e46] at c4 y5
  have b17 : 0 ≤ m0 17 h ∧ m0 17 h ≤ 5 := hm.aB_5_1 (c := 16) (by decide) h1.1 (by have := hz.db; omega)
  have z4 : RZ S M4 n := by
    refine hz.actJ j1.1 (by omega) kp f2 ka (fun c p q => f4 c p (by first | exact fun y => absurd (y.1 ▸ z) (by decide) | exact fun y => absurd (y.1 ▸ q) (by decide) | exact z | exact q | exact z.1 | exact q.1 | exact z.2 | exact q.2 | omega)) hm2 hm4 (fun q => absurd q (by rw [y21]; decide)) (fun F => ?_)
    have G : ∀ p : Int, ¬ p = 35 + 4 * j + 1 → ¬ p = 35 + 4 * j → M4 346 p = m0 346 p := fun p q q2 => by rw [f4 346 p (by first | decide | exact fun z => absurd z.1 (by decide) | exact ⟨fun z => absurd z.1 (by decide), fun z => absurd z.1 (by decide)⟩ | omega), ka.f (by omega) (by omega), e46]
    refine ⟨?_, ?_, Or.inl ⟨?_, y4, ?_, ?_⟩⟩
    · show M4 21 j = _
      rw [f4 21 j (by first | decide | exact fun z => absurd z.1 (by decide) | exact ⟨fun z => absurd z.1 (by decide), fun z => absurd z.1 (by decide)⟩ | omega), ka.f (by omega) (by omega), y21, y4]
    · show M4 22 j = _
      rw [F 22 j (by first | decide | exact fun z => absurd z.1 (by decide) | exact ⟨fun z => absurd z.1 (by decide), fun z => absurd z.1 (by decide)⟩ | omega) (by first | decide | exact fun z => absurd z.1 (by decide) | exact ⟨fun z => absurd z.1 (by decide), fun z => absurd z.1 (by decide)⟩ | omega) (by first | decide | exact fun z => absurd z.1 (by decide) | exact ⟨fun z => absurd z.1 (by decide), fun z => absurd z.1 (by decide)⟩ | omega) (by first | decide | exact fun z => absurd z.1 (by decide) | exact ⟨fun z => absurd z.1 (by decide), fun z => absurd z.1 (by decide)⟩ | omega) (by first | decide | exact fun z => absurd z.1 (by decide) | exact ⟨fun z => absurd z.1 (by decide), fun z => absurd z.1 (by decide)⟩ | omega) (by first | decide | exact fun z => absurd z.1 (by decide) | exact ⟨fun z => absurd z.1 (by decide), fun z => absurd z.1 (by decide)⟩ | omega), G _ (by omega) (by omega)]
      exact zj.2.1
    · show M4 20 j = _
      rw [f4 20 j (by first | decide | exact fun z => absurd z.1 (by decide) | exact ⟨fun z => absurd z.1 (by decide), fun z => absurd z.1 (by decide)⟩ | omega), ka.f (by omega) (by omega), y20, y5, zh.1, Int.add_zero]
    · rw [G _ (by omega) (by omega)]; omega
    · rw [y5, Int.add_zero, ← zh.1]; omega
  rw [e46, Int.add_zero, ← zh.1]
  exact hk _ M4 z4
theorem ho_iff {S : Sh} {m : Mm} {n j h : Int} (z : RZ S m n) : cHo m j h ↔ rHo m j h := by
  have ct := z.ct
  have db := z.db
  unfold cHo rHo
  rw [ct.2.2.2.2.1, ct.2.2.2.2.2.1]
  simp only [Int.add_zero]
  have bb : ∀ l : Int, 0 ≤ l → bcF (hbt (m 21) l 4) ≤ 2 := z.2.2.2.1.2.2.2
  constructor
  · rintro ⟨h1, j1, g1, ne, a, b, c, d⟩
    have zh := z.hd h1.1 h1.2
    have zj := z.jg j1.1 j1.2
    have zg := z.hd g1.1 g1.2
    rw [z.hb h1.1] at d
    rw [zj.1] at zg g1 ne a b
    exact ⟨j1, h1, g1.1, ne, by omega, by omega, by omega, by omega⟩
  · rintro ⟨j1, h1, g0, ne, a, b, c, d⟩
    have zh := z.hd h1.1 h1.2
    have zj := z.jg j1.1 j1.2
    have zg := z.hd (i := m 346 (35 + 4 * j + 1)) (by omega) (by omega)
    rw [zj.1]
    have := bb h h1.1
    rw [z.hb h1.1] at this ⊢
    exact ⟨h1, j1, ⟨by omega, by omega⟩, ne, by omega, by omega, by omega, by omega⟩
theorem zz_handOn {S : Sh} {m0 : Mm} {K : Int → Int → Mm → Prop} {K1 : Int → Mm → Prop} {n j h : Int} (hS : Shp S) (hz : RZ S m0 n) (hK : ∀ (r : Int) (M : Mm), wp_X12_handOn S M 336 j h (fun r2 M2 => K r r2 M2) → K1 r M) (hk : ∀ (r : Int) (M1 : Mm), RZ S M1 n → K r r M1) : wp_X11_handOn S m0 0 j h K1 := by
  have hm := hz.inv
  have ct := hz.ct
  refine zs_handOn11 hS hm (fun nc => hK _ _ (zs_handOn12 hS hm (fun _ => hk _ m0 hz) (fun u s M1 M2 c _ _ _ _ => absurd ((ho_iff hz).2 c) nc))) (fun i M1 M2 c kp hm2 f2 y21 y20 => ?_)
  have j2 := hz.1.of hm2
  have e46 : M2 346 = m0 346 := funext (fun p => by rw [f2 346 p (by first | decide | exact fun z => absurd z.1 (by decide) | exact ⟨fun z => absurd z.1 (by decide), fun z => absurd z.1 (by decide)⟩ | omega), kp.f (by omega) (by omega)])
  obtain ⟨h1, j1, _⟩ := id c
  have zj := hz.jg j1.1 (by omega)
  refine hK _ _ (zs_handOn12 hS j2.inv (fun nc => absurd (show rHo M2 j h by unfold rHo; rw [hbR.eq e46, e46]; exact (ho_iff hz).1 c) nc) (fun u s M3 M4 c4 ka hm4 f4 y4 => ?_))
  have z4 : RZ S M4 n := by
    refine hz.actJ j1.1 (by omega) kp f2 ka (fun c p q => f4 c p (by first | exact fun y => absurd (y.1 ▸ z) (by decide) | exact fun y => absurd (y.1 ▸ q) (by decide) | exact z | exact q | exact z.1 | exact q.1 | exact z.2 | exact q.2 | omega)) hm2 hm4 (fun _ => by rw [y21]; exact c.2.2.2.2.2.2.2) (fun F => ?_)
    have G : ∀ p : Int, ¬ p = 35 + 4 * j + 1 → M4 346 p = m0 346 p := fun p q => by rw [f4 346 p (by first | decide | exact fun z => absurd z.1 (by decide) | exact ⟨fun z => absurd z.1 (by decide), fun z => absurd z.1 (by decide)⟩ | omega), ka.f (by omega) (by omega), e46]
    refine ⟨?_, ?_, Or.inr (Or.inl ⟨?_, by omega, ?_, ?_⟩)⟩
    · show M4 21 j = _
      rw [f4 21 j (by first | decide | exact fun z => absurd z.1 (by decide) | exact ⟨fun z => absurd z.1 (by decide), fun z => absurd z.1 (by decide)⟩ | omega), ka.f (by omega) (by omega), y21, y4]
    · show M4 22 j = _
      rw [F 22 j (by first | decide | exact fun z => absurd z.1 (by decide) | exact ⟨fun z => absurd z.1 (by decide), fun z => absurd z.1 (by decide)⟩ | omega) (by first | decide | exact fun z => absurd z.1 (by decide) | exact ⟨fun z => absurd z.1 (by decide), fun z => absurd z.1 (by decide)⟩ | omega) (by first | decide | exact fun z => absurd z.1 (by decide) | exact ⟨fun z => absurd z.1 (by decide), fun z => absurd z.1 (by decide)⟩ | omega) (by first | decide | exact fun z => absurd z.1 (by decide) | exact ⟨fun z => absurd z.1 (by decide), fun z => absurd z.1 (by decide)⟩ | omega) (by first | decide | exact fun z => absurd z.1 (by decide) | exact ⟨fun z => absurd z.1 (by decide), fun z => absurd z.1 (by decide)⟩ | omega) (by first | decide | exact fun z => absurd z.1 (by decide) | exact ⟨fun z => absurd z.1 (by decide), fun z => absurd z.1 (by decide)⟩ | omega), G _ (by omega)]
      exact zj.2.1
    · show M4 20 j = _
      rw [f4 20 j (by first | decide | exact fun z => absurd z.1 (by decide) | exact ⟨fun z => absurd z.1 (by decide), fun z => absurd z.1 (by decide)⟩ | omega), ka.f (by omega) (by omega), y20]
    · rw [G 4 (by omega), y4]; omega
    · rw [G _ (by omega)]
      have := c.2.2.1
      omega
  rw [e46, ← zj.1]
  exact hk _ M4 z4
theorem go_iff {S : Sh} {m : Mm} {n h p : Int} (z : RZ S m n) : cGo m h p ↔ rGo m (m 5) h p := by
  have ct := z.ct
  have hm := z.inv
  have b0 := hm.f_346_0
  have db := z.db
  unfold cGo rGo
  rw [ct.1, ct.2.2.2.2.1]
  have k : (0 ≤ h ∧ h < m 346 4) → (0 ≤ p ∧ p < m 346 0) → m 17 h = m 346 (10 + 5 * h + 0) ∧ m 18 h = m 346 (10 + 5 * h + 1) ∧ 0 ≤ m 5 (6 * m 17 h + p) := by
    intro h1 p1
    have zh := z.hd h1.1 h1.2
    have b17 : 0 ≤ m 17 h ∧ m 17 h ≤ 5 := hm.aB_5_1 (c := 16) (by decide) h1.1 (by omega)
    exact ⟨by rw [Int.add_zero]; exact zh.1, zh.2.1, (hm.a_5 (by omega) (by omega)).1⟩
  constructor
  · rintro ⟨h1, p1, a, b⟩
    have q := k h1 p1
    rw [q.1] at b q
    exact ⟨h1, p1, by omega, by omega⟩
  · rintro ⟨h1, p1, a, b⟩
    have q := k h1 p1
    rw [← q.1] at b
    exact ⟨h1, p1, by omega, by omega⟩
theorem zz_go {S : Sh} {m0 : Mm} {K : Int → Int → Mm → Prop} {K1 : Int → Mm → Prop} {n h p : Int} (hS : Shp S) (hz : RZ S m0 n) (hK : ∀ (r : Int) (M : Mm), wp_X12_go S M 336 h p (fun r2 M2 => K r r2 M2) → K1 r M) (hk : ∀ (r : Int) (M1 : Mm), RZ S M1 n → K r r M1) : wp_X11_go S m0 0 h p K1 := by
  have hm := hz.inv
  have ct := hz.ct
  have db := hz.db
  have fb : ∀ i : Int, 0 ≤ i → i < 36 → 0 ≤ m0 5 i ∧ m0 5 i ≤ 5 := fun i i0 i1 => hm.a_5 i0 i1
  refine zs_go11 hS hm (fun nc => hK _ _ (zs_go12 hS hm hz.ro fb (fun _ => hk _ m0 hz) (fun u s M1 M2 c _ _ _ _ _ => absurd ((go_iff hz).2 c) nc))) (fun i M1 M2 c kp hm2 f2 y17 y18 => ?_)
  have j2 := hz.1.of hm2
  have e46 : M2 346 = m0 346 := funext (fun p => by rw [f2 346 p (by first | decide | exact fun z => absurd z.1 (by decide) | exact ⟨fun z => absurd z.1 (by decide), fun z => absurd z.1 (by decide)⟩ | omega), kp.f (by omega) (by omega)])
  obtain ⟨h1, p1, _⟩ := id c
  have zh := hz.hd h1.1 (by omega)
  refine hK _ _ (zs_go12 hS j2.inv (by rw [e46]; exact hz.ro) fb (fun nc => absurd (show rGo M2 (m0 5) h p by unfold rGo; rw [e46]; exact (go_iff hz).1 c) nc) (fun u s M3 M4 c4 ka hm4 f4 y4 y5 => ?_))
  rw [e46, Int.add_zero, ← zh.1] at y4
  have F : ∀ c q : Int, ¬ (176 ≤ c ∧ c ≤ 335) → ¬ (c = 0 ∧ (q = 4 ∨ q = 5)) → ¬ (q = h ∧ (c = 17 ∨ c = 18)) → ¬ c = 347 → ¬ (c = 336 ∧ q = 25) → ¬ (c = 346 ∧ (q = 10 + 5 * h + 1 ∨ q = 10 + 5 * h)) → M4 c q = m0 c q := fun c q b1 b2 b3 b4 b5 b6 => by
    rw [f4 c q b6, ka.f b4 b5, f2 c q b3, kp.f b1 b2]
  have b16 : M2 16 0 = m0 16 0 := by rw [f2 16 0 (by first | decide | exact fun z => absurd z.1 (by decide) | exact ⟨fun z => absurd z.1 (by decide), fun z => absurd z.1 (by decide)⟩ | omega), kp.f (by omega) (by omega)]
  have z4 : RZ S M4 n := by
    refine hz.act kp (fun c q b1 b2 => f2 c q (by omega)) ka (fun c q b1 b2 b3 => f4 c q (by omega)) j2 hm4 ?_ ?_ (Int.le_refl n) (by rw [b16]; exact hz.2.2.2.1.1)
    · refine hz.sr.hand db.1.2 db.2.1.2 db.2.2.1.2 ⟨h1.1, by omega⟩ (fun c q q1 q2 => F c q (by omega) (by omega) (by omega) (by omega) (by omega) (by omega)) (fun q q1 => F 346 q (by first | decide | exact fun z => absurd z.1 (by decide) | exact ⟨fun z => absurd z.1 (by decide), fun z => absurd z.1 (by decide)⟩ | omega) (by first | decide | exact fun z => absurd z.1 (by decide) | exact ⟨fun z => absurd z.1 (by decide), fun z => absurd z.1 (by decide)⟩ | omega) (by first | decide | exact fun z => absurd z.1 (by decide) | exact ⟨fun z => absurd z.1 (by decide), fun z => absurd z.1 (by decide)⟩ | omega) (by first | decide | exact fun z => absurd z.1 (by decide) | exact ⟨fun z => absurd z.1 (by decide), fun z => absurd z.1 (by decide)⟩ | omega) (by first | decide | exact fun z => absurd z.1 (by decide) | exact ⟨fun z => absurd z.1 (by decide), fun z => absurd z.1 (by decide)⟩ | omega) (by first | decide | exact fun z => absurd z.1 (by decide) | exact ⟨fun z => absurd z.1 (by decide), fun z => absurd z.1 (by decide)⟩ | omega)) ⟨?_, ?_, ?_⟩
      · show M4 17 h = _
        rw [f4 17 h (by first | decide | exact fun z => absurd z.1 (by decide) | exact ⟨fun z => absurd z.1 (by decide), fun z => absurd z.1 (by decide)⟩ | omega), ka.f (by omega) (by omega), y17, y5]
      · show M4 18 h = _
        rw [f4 18 h (by first | decide | exact fun z => absurd z.1 (by decide) | exact ⟨fun z => absurd z.1 (by decide), fun z => absurd z.1 (by decide)⟩ | omega), ka.f (by omega) (by omega), y18, y4]
      · show M4 19 h = _
        rw [F 19 h (by first | decide | exact fun z => absurd z.1 (by decide) | exact ⟨fun z => absurd z.1 (by decide), fun z => absurd z.1 (by decide)⟩ | omega) (by first | decide | exact fun z => absurd z.1 (by decide) | exact ⟨fun z => absurd z.1 (by decide), fun z => absurd z.1 (by decide)⟩ | omega) (by first | decide | exact fun z => absurd z.1 (by decide) | exact ⟨fun z => absurd z.1 (by decide), fun z => absurd z.1 (by decide)⟩ | omega) (by first | decide | exact fun z => absurd z.1 (by decide) | exact ⟨fun z => absurd z.1 (by decide), fun z => absurd z.1 (by decide)⟩ | omega) (by first | decide | exact fun z => absurd z.1 (by decide) | exact ⟨fun z => absurd z.1 (by decide), fun z => absurd z.1 (by decide)⟩ | omega) (by first | decide | exact fun z => absurd z.1 (by decide) | exact ⟨fun z => absurd z.1 (by decide), fun z => absurd z.1 (by decide)⟩ | omega), F 346 (10 + 5 * h + 2) (by first | decide | exact fun z => absurd z.1 (by decide) | exact ⟨fun z => absurd z.1 (by decide), fun z => absurd z.1 (by decide)⟩ | omega) (by first | decide | exact fun z => absurd z.1 (by decide) | exact ⟨fun z => absurd z.1 (by decide), fun z => absurd z.1 (by decide)⟩ | omega) (by first | decide | exact fun z => absurd z.1 (by decide) | exact ⟨fun z => absurd z.1 (by decide), fun z => absurd z.1 (by decide)⟩ | omega) (by first | decide | exact fun z => absurd z.1 (by decide) | exact ⟨fun z => absurd z.1 (by decide), fun z => absurd z.1 (by decide)⟩ | omega) (by first | decide | exact fun z => absurd z.1 (by decide) | exact ⟨fun z => absurd z.1 (by decide), fun z => absurd z.1 (by decide)⟩ | omega) (by first | decide | exact fun z => absurd z.1 (by decide) | exact ⟨fun z => absurd z.1 (by decide), fun z => absurd z.1 (by decide)⟩ | omega)]
        exact zh.2.2
    · have h2 : H2 (m0 21) := hz.2.2.2.1.2.2.2
      exact h2.move (fun q _ _ => F 21 q (by first | decide | exact fun z => absurd z.1 (by decide) | exact ⟨fun z => absurd z.1 (by decide), fun z => absurd z.1 (by decide)⟩ | omega) (by first | decide | exact fun z => absurd z.1 (by decide) | exact ⟨fun z => absurd z.1 (by decide), fun z => absurd z.1 (by decide)⟩ | omega) (by first | decide | exact fun z => absurd z.1 (by decide) | exact ⟨fun z => absurd z.1 (by decide), fun z => absurd z.1 (by decide)⟩ | omega) (by first | decide | exact fun z => absurd z.1 (by decide) | exact ⟨fun z => absurd z.1 (by decide), fun z => absurd z.1 (by decide)⟩ | omega) (by first | decide | exact fun z => absurd z.1 (by decide) | exact ⟨fun z => absurd z.1 (by decide), fun z => absurd z.1 (by decide)⟩ | omega) (by first | decide | exact fun z => absurd z.1 (by decide) | exact ⟨fun z => absurd z.1 (by decide), fun z => absurd z.1 (by decide)⟩ | omega))
  rw [e46, Int.add_zero, ← zh.1]
  exact hk _ M4 z4
theorem su_iff {S : Sh} {m : Mm} {n w j : Int} (z : RZ S m n) (w1 : 0 ≤ w ∧ w < m 346 6) (j1 : 0 ≤ j ∧ j < m 346 5) : cSu m w j ↔ rSu m w j := by
  have zj := z.jg j1.1 j1.2
  have zw := z.wd w1.1 w1.2
  have hm := z.inv
  have db := z.db
  have bw : 0 ≤ m 12 w := (hm.a_12 w1.1 (by omega)).1
  unfold cSu rSu StR
  rw [Int.add_zero, Int.add_zero, zw.1, zw.2.1, zw.2.2.1, zj.2.1]
  rw [zw.1] at bw
  constructor
  · rintro ⟨a, b, c⟩
    exact ⟨⟨by omega, by omega⟩, by omega, b, c⟩
  · rintro ⟨⟨a1, a2⟩, a3, b, c⟩
    exact ⟨by omega, b, c⟩
theorem zz_meet {S : Sh} {m0 : Mm} {K : Int → Int → Mm → Prop} {K1 : Int → Mm → Prop} {n w : Int} (hS : Shp S) (hz : RZ S m0 n) (hK : ∀ (r : Int) (M : Mm), wp_X12_meet S M 336 w (fun r2 M2 => K r r2 M2) → K1 r M) (hk : ∀ (r : Int) (M1 : Mm), RZ S M1 n → K r r M1) : wp_X11_meet S m0 0 w K1 := by
  have hm := hz.inv
  have ct := hz.ct
  have db := hz.db
  have c5 : m0 4 5 = m0 346 5 := ct.2.2.2.2.2.1
  have c7 : m0 4 7 = m0 346 6 := ct.2.2.2.2.2.2.2
  have mt : ∀ w : Int, 0 ≤ w → w < m0 346 6 → (m0 23 w = -1 ↔ m0 346 (51 + w) < 0) := fun w w0 w1 => by
    have zw := hz.wt w0 w1
    have b := hm.aB_5_7 (c := 16) (by decide) (i := w) w0 (by omega)
    have b2 : -1 ≤ m0 23 w ∧ m0 23 w ≤ 999 := b
    omega
  refine zs_meet11 hS hm (fun nc => hK _ _ (zs_meet12 hS hm (fun _ => hk _ m0 hz) (fun j u s M1 M2 c _ _ _ _ _ _ => ?_))) (fun j i M1 M2 c kp hm2 f2 y23 y16 y20 => ?_)
  · obtain ⟨w1, me, j1, su, fi⟩ := c
    exact absurd ((su_iff hz w1 j1).2 su) (nc (by omega) ((mt w w1.1 w1.2).2 me) j j1.1 (by omega))
  have j2 := hz.1.of hm2
  have e46 : M2 346 = m0 346 := funext (fun p => by rw [f2 346 p (by first | decide | exact fun z => absurd z.1 (by decide) | exact ⟨fun z => absurd z.1 (by decide), fun z => absurd z.1 (by decide)⟩ | omega) (by first | decide | exact fun z => absurd z.1 (by decide) | exact ⟨fun z => absurd z.1 (by decide), fun z => absurd z.1 (by decide)⟩ | omega) (by first | decide | exact fun z => absurd z.1 (by decide) | exact ⟨fun z => absurd z.1 (by decide), fun z => absurd z.1 (by decide)⟩ | omega), kp.f (by omega) (by omega)])
  obtain ⟨w1, me, j1, su, fi⟩ := id c
  rw [c7] at w1
  rw [c5] at j1
  have zj := hz.jg j1.1 j1.2
  have zw := hz.wd w1.1 w1.2
  have su2 := (su_iff hz w1 j1).1 su
  refine hK _ _ (zs_meet12 hS j2.inv (fun nc => ?_) (fun j' u s M3 M4 c4 ka hm4 f4 y3 y51 y8 => ?_))
  · rw [e46] at nc
    refine absurd (show rSu M2 w j by unfold rSu StR; rw [e46]; exact su2) (nc w1 ((mt w w1.1 w1.2).1 me) j j1.1 j1.2)
  unfold rMe rSu StR at c4
  rw [e46] at c4 y51 y8
  obtain ⟨_, _, j1', su', fi'⟩ := c4
  have ej : j' = j := by
    rcases Int.lt_trichotomy j' j with q | q | q
    · exact absurd ((su_iff hz w1 j1').2 su') (fi j' j1'.1 q)
    · exact q
    · exact absurd su2 (fi' j j1.1 q)
  subst ej
  have F : ∀ c p : Int, ¬ (176 ≤ c ∧ c ≤ 335) → ¬ (c = 0 ∧ (p = 4 ∨ p = 5)) → ¬ (c = 23 ∧ p = w) → ¬ (c = 16 ∧ p = 1) → ¬ (c = 20 ∧ p = j') → ¬ c = 347 → ¬ (c = 336 ∧ p = 25) → ¬ (c = 346 ∧ (p = 35 + 4 * j' + 3 ∨ p = 51 + w ∨ p = 8)) → M4 c p = m0 c p := fun c p b1 b2 b3 b4 b5 b6 b7 b8 => by
    rw [f4 c p b8, ka.f b6 b7, f2 c p b3 b4 b5, kp.f b1 b2]
  have E : ∀ c p : Int, 16 ≤ c → c ≤ 23 → M4 c p = M2 c p := fun c p b1 b2 => by rw [f4 c p (by first | exact fun y => absurd (y.1 ▸ z) (by decide) | exact fun y => absurd (y.1 ▸ q) (by decide) | exact z | exact q | exact z.1 | exact q.1 | exact z.2 | exact q.2 | omega), ka.f (by omega) (by omega)]
  have b16 : M2 16 0 = m0 16 0 := by rw [f2 16 0 (by first | decide | exact fun z => absurd z.1 (by decide) | exact ⟨fun z => absurd z.1 (by decide), fun z => absurd z.1 (by decide)⟩ | omega) (by first | decide | exact fun z => absurd z.1 (by decide) | exact ⟨fun z => absurd z.1 (by decide), fun z => absurd z.1 (by decide)⟩ | omega) (by first | decide | exact fun z => absurd z.1 (by decide) | exact ⟨fun z => absurd z.1 (by decide), fun z => absurd z.1 (by decide)⟩ | omega), kp.f (by omega) (by omega)]
  have G : ∀ p : Int, ¬ (p = 35 + 4 * j' + 3 ∨ p = 51 + w ∨ p = 8) → M4 346 p = m0 346 p := fun p q => F 346 p (by first | decide | exact fun z => absurd z.1 (by decide) | exact ⟨fun z => absurd z.1 (by decide), fun z => absurd z.1 (by decide)⟩ | omega) (by first | decide | exact fun z => absurd z.1 (by decide) | exact ⟨fun z => absurd z.1 (by decide), fun z => absurd z.1 (by decide)⟩ | omega) (by first | decide | exact fun z => absurd z.1 (by decide) | exact ⟨fun z => absurd z.1 (by decide), fun z => absurd z.1 (by decide)⟩ | omega) (by first | decide | exact fun z => absurd z.1 (by decide) | exact ⟨fun z => absurd z.1 (by decide), fun z => absurd z.1 (by decide)⟩ | omega) (by first | decide | exact fun z => absurd z.1 (by decide) | exact ⟨fun z => absurd z.1 (by decide), fun z => absurd z.1 (by decide)⟩ | omega) (by first | decide | exact fun z => absurd z.1 (by decide) | exact ⟨fun z => absurd z.1 (by decide), fun z => absurd z.1 (by decide)⟩ | omega) (by first | decide | exact fun z => absurd z.1 (by decide) | exact ⟨fun z => absurd z.1 (by decide), fun z => absurd z.1 (by decide)⟩ | omega) (by first | decide | exact fun z => absurd z.1 (by decide) | exact ⟨fun z => absurd z.1 (by decide), fun z => absurd z.1 (by decide)⟩ | omega)
  have z4 : RZ S M4 n := by
    refine hz.act kp (fun c p b1 b2 => f2 c p (by first | exact fun y => absurd (y.1 ▸ z) (by decide) | exact fun y => absurd (y.1 ▸ q) (by decide) | exact z | exact q | exact z.1 | exact q.1 | exact z.2 | exact q.2 | omega) (by omega) (by omega)) ka (fun c p b1 b2 b3 => f4 c p (by first | exact fun y => absurd (y.1 ▸ z) (by decide) | exact fun y => absurd (y.1 ▸ q) (by decide) | exact z | exact q | exact z.1 | exact q.1 | exact z.2 | exact q.2 | omega)) j2 hm4 ?_ ?_ (Int.le_refl n) (by rw [b16]; exact hz.2.2.2.1.1)
    · obtain ⟨⟨r1, r2⟩, r3, r4, r5, r6⟩ := hz.sr
      refine ⟨⟨?_, ?_⟩, fun a a0 a1 => ?_, fun a a0 a1 => ?_, fun a a0 a1 => ?_, fun a a0 a1 => ?_⟩
      · rw [F 16 0 (by first | decide | exact fun z => absurd z.1 (by decide) | exact ⟨fun z => absurd z.1 (by decide), fun z => absurd z.1 (by decide)⟩ | omega) (by first | decide | exact fun z => absurd z.1 (by decide) | exact ⟨fun z => absurd z.1 (by decide), fun z => absurd z.1 (by decide)⟩ | omega) (by first | decide | exact fun z => absurd z.1 (by decide) | exact ⟨fun z => absurd z.1 (by decide), fun z => absurd z.1 (by decide)⟩ | omega) (by first | decide | exact fun z => absurd z.1 (by decide) | exact ⟨fun z => absurd z.1 (by decide), fun z => absurd z.1 (by decide)⟩ | omega) (by first | decide | exact fun z => absurd z.1 (by decide) | exact ⟨fun z => absurd z.1 (by decide), fun z => absurd z.1 (by decide)⟩ | omega) (by first | decide | exact fun z => absurd z.1 (by decide) | exact ⟨fun z => absurd z.1 (by decide), fun z => absurd z.1 (by decide)⟩ | omega) (by first | decide | exact fun z => absurd z.1 (by decide) | exact ⟨fun z => absurd z.1 (by decide), fun z => absurd z.1 (by decide)⟩ | omega) (by first | decide | exact fun z => absurd z.1 (by decide) | exact ⟨fun z => absurd z.1 (by decide), fun z => absurd z.1 (by decide)⟩ | omega), G 7 (by omega)]; exact r1
      · rw [E 16 1 (by omega) (by omega), y16, y8, zw.2.2.2, r2]
      · rw [G 4 (by omega)] at a1
        exact (r3 a a0 a1).same (F _ a (by omega) (by omega) (by omega) (by omega) (by omega) (by omega) (by omega) (by omega)) (F _ a (by omega) (by omega) (by omega) (by omega) (by omega) (by omega) (by omega) (by omega)) (F _ a (by omega) (by omega) (by omega) (by omega) (by omega) (by omega) (by omega) (by omega)) (G _ (by omega)) (G _ (by omega)) (G _ (by omega))
      · rw [G 5 (by omega)] at a1
        by_cases e : a = j'
        · subst e
          refine ⟨?_, ?_, Or.inr (Or.inr ⟨?_, ?_, y3⟩)⟩
          · rw [F _ a (by omega) (by omega) (by omega) (by omega) (by omega) (by omega) (by omega) (by omega), G _ (by omega)]; exact zj.1
          · rw [F _ a (by omega) (by omega) (by omega) (by omega) (by omega) (by omega) (by omega) (by omega), G _ (by omega)]; exact zj.2.1
          · show M4 20 a = _
            rw [E 20 a (by omega) (by omega), y20]
          · rw [G _ (by omega)]
            have := su'.1
            omega
        · exact (r4 a a0 a1).same (F _ a (by omega) (by omega) (by omega) (by omega) (by omega) (by omega) (by omega) (by omega)) (F _ a (by omega) (by omega) (by omega) (by omega) (by omega) (by omega) (by omega) (by omega)) (F _ a (by omega) (by omega) (by omega) (by omega) (by omega) (by omega) (by omega) (by omega)) (G _ (by omega)) (G _ (by omega)) (G _ (by omega)) (G _ (by omega)) (G _ (by omega))
      · rw [G 5 (by omega)] at a0
        rw [F _ a (by omega) (by omega) (by omega) (by omega) (by omega) (by omega) (by omega) (by omega), F _ a (by omega) (by omega) (by omega) (by omega) (by omega) (by omega) (by omega) (by omega)]
        exact r5 a a0 a1
      · rw [G 6 (by omega)] at a1
        by_cases e : a = w
        · subst e
          show M4 23 a = _
          rw [E 23 a (by omega) (by omega), y23, y51]
          exact r1
        · rw [F _ a (by omega) (by omega) (by omega) (by omega) (by omega) (by omega) (by omega) (by omega), G _ (by omega)]
          exact r6 a a0 a1
    · have h2 : H2 (m0 21) := hz.2.2.2.1.2.2.2
      exact h2.move (fun q _ _ => F 21 q (by first | decide | exact fun z => absurd z.1 (by decide) | exact ⟨fun z => absurd z.1 (by decide), fun z => absurd z.1 (by decide)⟩ | omega) (by first | decide | exact fun z => absurd z.1 (by decide) | exact ⟨fun z => absurd z.1 (by decide), fun z => absurd z.1 (by decide)⟩ | omega) (by first | decide | exact fun z => absurd z.1 (by decide) | exact ⟨fun z => absurd z.1 (by decide), fun z => absurd z.1 (by decide)⟩ | omega) (by first | decide | exact fun z => absurd z.1 (by decide) | exact ⟨fun z => absurd z.1 (by decide), fun z => absurd z.1 (by decide)⟩ | omega) (by first | decide | exact fun z => absurd z.1 (by decide) | exact ⟨fun z => absurd z.1 (by decide), fun z => absurd z.1 (by decide)⟩ | omega) (by first | decide | exact fun z => absurd z.1 (by decide) | exact ⟨fun z => absurd z.1 (by decide), fun z => absurd z.1 (by decide)⟩ | omega) (by first | decide | exact fun z => absurd z.1 (by decide) | exact ⟨fun z => absurd z.1 (by decide), fun z => absurd z.1 (by decide)⟩ | omega) (by first | decide | exact fun z => absurd z.1 (by decide) | exact ⟨fun z => absurd z.1 (by decide), fun z => absurd z.1 (by decide)⟩ | omega))
  exact hk _ M4 z4
end
section
/-! an HOUR on both sides, over one row D -/
def heD (i : Int) (D : Int → Int) (t : Int) : Int := if i = 0 then htR D t else 0
def hbD (D : Int → Int) (h : Int) : Int := hbt (fun j => D (36 + 4 * j)) h (D 5).toNat
def wdD (i : Int) (D : Int → Int) (j h : Int) : Int → Int := wds h (D (10 + 5 * h + 3)) (D (10 + 5 * h + 2)) j (D (35 + 4 * j + 2)) (heD i D (D 7)) (D 7) (if D (10 + 5 * h + 1) ≤ 0 then 0 else 1) (bcF (hbD D h)) (if D (35 + 4 * j + 2) < D 2 then 0 else 1)
def tnD (o : Option (List Cz)) (i : Int) (D : Int → Int) (j : Int) : Int := if D (35 + 4 * j + 1) < 0 then D 1 + heD i D (D 7) else tvO o (wdD i D j (D (35 + 4 * j + 1)))
def nuD (o : Option (List Cz)) (i : Int) (D : Int → Int) (p : Int) : Int := if D (35 + 4 * p + 3) = 1 then D (35 + 4 * p + 2) else min (D (35 + 4 * p + 2) + tnD o i D p) 999
/-- the row an HOUR later; how many JUGS become SOUR in it -/
def hrow (o : Option (List Cz)) (i : Int) (D : Int → Int) (p : Int) : Int := if p = 7 then D 7 + 1 else if 10 ≤ p ∧ p < 10 + 5 * D 4 ∧ (p - 10) % 5 = 1 then max 0 (D p - 1) else if 10 ≤ p ∧ p < 10 + 5 * D 4 ∧ (p - 10) % 5 = 2 then (if hbD D ((p - 10) / 5) = 0 then max 0 (D p - 1) else min (D p + D (p + 2)) 99) else if 35 ≤ p ∧ p < 35 + 4 * D 5 ∧ (p - 35) % 4 = 2 then nuD o i D ((p - 35) / 4) else D p
def hsour (o : Option (List Cz)) (i : Int) (D : Int → Int) : Int := soF (fun j => D (35 + 4 * j + 2)) (nuD o i D) (D 2) (D 5).toNat
theorem hrow_7 {o : Option (List Cz)} {i : Int} {D : Int → Int} : hrow o i D 7 = D 7 + 1 := if_pos rfl
theorem hrow_h1 {o : Option (List Cz)} {i h : Int} {D : Int → Int} (h0 : 0 ≤ h) (h1 : h < D 4) : hrow o i D (10 + 5 * h + 1) = max 0 (D (10 + 5 * h + 1) - 1) := by
  unfold hrow
  rw [if_neg (by omega), if_pos (by omega)]
theorem hrow_h2 {o : Option (List Cz)} {i h : Int} {D : Int → Int} (h0 : 0 ≤ h) (h1 : h < D 4) : hrow o i D (10 + 5 * h + 2) = (if hbD D h = 0 then max 0 (D (10 + 5 * h + 2) - 1) else min (D (10 + 5 * h + 2) + D (10 + 5 * h + 4)) 99) := by
  unfold hrow
  rw [if_neg (by omega), if_neg (by omega), if_pos (by omega), show (10 + 5 * h + 2 - 10) / 5 = h by omega, show 10 + 5 * h + 2 + 2 = 10 + 5 * h + 4 by omega]
theorem hrow_j {o : Option (List Cz)} {i j : Int} {D : Int → Int} (b4 : D 4 ≤ 5) (j0 : 0 ≤ j) (j1 : j < D 5) : hrow o i D (35 + 4 * j + 2) = nuD o i D j := by
  unfold hrow
  rw [if_neg (by omega), if_neg (by omega), if_neg (by omega), if_pos (by omega), show (35 + 4 * j + 2 - 35) / 4 = j by omega]
theorem hrow_e {o : Option (List Cz)} {i p : Int} {D : Int → Int} (q : ¬ (p = 7 ∨ (10 ≤ p ∧ p < 10 + 5 * D 4 ∧ ((p - 10) % 5 = 1 ∨ (p - 10) % 5 = 2)) ∨ (35 ≤ p ∧ p < 35 + 4 * D 5 ∧ (p - 35) % 4 = 2))) : hrow o i D p = D p := by
  unfold hrow
  rw [if_neg (by omega), if_neg (by omega), if_neg (by omega), if_neg (by omega)]
/-- the reference's row is it -/
theorem PRh.row {o : Option (List Cz)} {m M : Mm} (h : PRh o m M) (b4 : m 346 4 ≤ 5) : M 346 = hrow o (m 336 23) (m 346) := by
  obtain ⟨g1, g2, g3, g4⟩ := h
  funext p
  by_cases z : p = 7 ∨ (10 ≤ p ∧ p < 10 + 5 * m 346 4 ∧ ((p - 10) % 5 = 1 ∨ (p - 10) % 5 = 2)) ∨ (35 ≤ p ∧ p < 35 + 4 * m 346 5 ∧ (p - 35) % 4 = 2)
  · rcases z with z | ⟨z1, z2, z3 | z3⟩ | ⟨z1, z2, z3⟩
    · rw [z, hrow_7]; exact g4
    · obtain ⟨h, rfl⟩ : ∃ h : Int, p = 10 + 5 * h + 1 := ⟨(p - 10) / 5, by omega⟩
      rw [hrow_h1 (by omega) (by omega)]
      exact (g3 h (by omega) (by omega)).2
    · obtain ⟨h, rfl⟩ : ∃ h : Int, p = 10 + 5 * h + 2 := ⟨(p - 10) / 5, by omega⟩
      rw [hrow_h2 (by omega) (by omega)]
      exact (g3 h (by omega) (by omega)).1
    · obtain ⟨j, rfl⟩ : ∃ j : Int, p = 35 + 4 * j + 2 := ⟨(p - 35) / 4, by omega⟩
      rw [hrow_j b4 (by omega) (by omega)]
      exact g2 j (by omega) (by omega)
  · rw [hrow_e z]
    exact g1 346 p (by first | decide | exact fun z => absurd z.1 (by decide) | exact ⟨fun z => absurd z.1 (by decide), fun z => absurd z.1 (by decide)⟩ | omega) (by first | decide | exact fun z => absurd z.1 (by decide) | exact ⟨fun z => absurd z.1 (by decide), fun z => absurd z.1 (by decide)⟩ | omega) (by first | decide | exact fun z => absurd z.1 (by decide) | exact ⟨fun z => absurd z.1 (by decide), fun z => absurd z.1 (by decide)⟩ | omega) (fun y => z y.2)
theorem SR.heldD {M : Mm} {c h : Int} {D : Int → Int} (b5 : 0 ≤ D 5 ∧ D 5 ≤ 4) (r : SR M c D) (h0 : 0 ≤ h) : hbt (M (c + 5)) h 4 = hbD D h := by
  obtain ⟨_, _, r4, r5, _⟩ := r
  unfold hbD
  have e : (4 : Nat) = (D 5).toNat + (4 - (D 5).toNat) := by omega
  rw [e, hbt_ext _ (fun j j0 j1 => ?_)]
  · refine hbt_same _ (fun j j0 j1 => ?_)
    have q := (r4 j j0 (by omega)).1
    show M (c + 5) j = D (36 + 4 * j)
    rw [q]
    congr 1
    omega
  · have q := (r5 j (by omega) (by omega)).2
    rw [q]
    omega
theorem he_eq {m : Mm} {D : Int → Int} {i t : Int} (tl : TL 4 D m) (ic : m 55 2 = 0 ↔ i = 0) : heC m t = heD i D t := by
  unfold heC heD
  by_cases z : m 55 2 = 0
  · rw [if_pos z, if_pos (ic.1 z)]
    exact ht_eq tl
  · rw [if_neg z, if_neg (fun y => z (ic.2 y))]
theorem nw_eq {X : Mm} {S : Sh} {o : Option (List Cz)} {m : Mm} {D : Int → Int} {c j i : Int} (hm : Inv X S m) (hb : isSt c) (db : DB D) (sr : SR m c D) (tl : TL 4 D m) (ic : m 55 2 = 0 ↔ i = 0) (j0 : 0 ≤ j) (j1 : j < D 5) : nuC o m c j = nuD o i D j := by
  obtain ⟨b4, b5, _⟩ := db
  have b6 := hm.aB_5_6 hb j0 (by omega)
  obtain ⟨q1, q2, q3⟩ := sr.2.2.1 j j0 j1
  have h7 : m c 0 = D 7 := sr.1.1
  have he := he_eq (t := D 7) tl ic
  unfold nuC nuD
  rcases q3 with ⟨a1, a2, a3, a4⟩ | ⟨a1, a2, a3, a4⟩ | ⟨a1, a2, a3⟩
  · have e1 : tnC o m c j = tnD o i D j := by
      unfold tnC tnD
      rw [if_neg (by omega), if_pos (by omega), tl.1.2.1, h7, he]
    rw [if_neg (by omega), e1, q2]
    omega
  · have hh := sr.2.1 (D (35 + 4 * j + 1)) a2 a3
    have hs := tl.2.2.1 (D (35 + 4 * j + 1)) a2 a3
    have b2 := hm.aB_5_2 hb (i := D (35 + 4 * j + 1)) a2 (by omega)
    have e1 : tnC o m c j = tnD o i D j := by
      unfold tnC tnD
      rw [if_pos a1, if_neg (by omega), if_neg (by omega), q1]
      have ew : wdS m c j (D (35 + 4 * j + 1)) = wdD i D j (D (35 + 4 * j + 1)) := by
        unfold wdS wdD
        have hs1 : m 7 (D (35 + 4 * j + 1)) = D (10 + 5 * D (35 + 4 * j + 1) + 3) := hs.1
        rw [hs1, hh.2.2, q2, h7, he, SR.heldD b5 sr a2, tl.1.2.2.1]
        rw [hh.2.1] at b2 ⊢
        have er : (if D (10 + 5 * D (35 + 4 * j + 1) + 1) = 0 then (0 : Int) else 1) = (if D (10 + 5 * D (35 + 4 * j + 1) + 1) ≤ 0 then 0 else 1) := by
          by_cases z : D (10 + 5 * D (35 + 4 * j + 1) + 1) = 0
          · rw [if_pos z, if_pos (by omega)]
          · rw [if_neg z, if_neg (by omega)]
        rw [er]
      rw [ew]
    rw [if_neg (by omega), e1, q2]
    omega
  · have e1 : tnC o m c j = 0 := by
      unfold tnC
      rw [if_pos a1, if_pos (by omega)]
    rw [if_pos a3, e1, q2]
    rw [q2] at b6
    omega
/-- the class, over a STATE in cell c: it stays alike to the row -/
theorem SR_hour {X : Mm} {S : Sh} {o : Option (List Cz)} {m M2 : Mm} {D : Int → Int} {c i : Int} (hm : Inv X S m) (hb : isSt c) (hc : c = 16 ∨ c = 68) (db : DB D) (sr : SR m c D) (tl : TL 4 D m) (ic : m 55 2 = 0 ↔ i = 0) (h9 : m c 0 ≤ 998) (ph : PH o m M2 c) : SR M2 c (hrow o i D) ∧ soF (m (c + 6)) (nuC o m c) (m 4 2) (m 4 5).toNat = hsour o i D := by
  obtain ⟨b4, b5, b6, b9, b157⟩ := id db
  obtain ⟨p1, p2, p3, p4⟩ := ph
  have t4 : m 4 4 = D 4 := tl.1.2.2.2.2.1
  have t5 : m 4 5 = D 5 := tl.1.2.2.2.2.2.1
  have t2 : m 4 2 = D 2 := tl.1.2.2.1
  rw [t5] at p1 p2
  rw [t4] at p1 p3
  obtain ⟨⟨r1, r2⟩, r3, r4, r5, r6⟩ := id sr
  have g4' : hrow o i D 4 = D 4 := hrow_e (by omega)
  have g5' : hrow o i D 5 = D 5 := hrow_e (by omega)
  have g6' : hrow o i D 6 = D 6 := hrow_e (by omega)
  refine ⟨⟨⟨?_, ?_⟩, fun a i0 i1 => ?_, fun j j0 j1 => ?_, fun j j0 j1 => ?_, fun w w0 w1 => ?_⟩, ?_⟩
  · have bc := hm.fB_5_0 hb
    rw [p4, hrow_7, ← r1]
    omega
  · rw [p1 c 1 (by omega) (by omega) (by omega) (by omega) (by omega), hrow_e (by omega)]
    exact r2
  · rw [g4'] at i1
    obtain ⟨s1, s2, s3⟩ := r3 a i0 i1
    have hs : m 8 a = D (10 + 5 * a + 4) := (tl.2.2.1 a i0 i1).2
    refine ⟨?_, ?_, ?_⟩
    · rw [p1 _ a (by omega) (by omega) (by omega) (by omega) (by omega), hrow_e (by omega)]
      exact s1
    · rw [(p3 a i0 i1).2, hrow_h1 i0 i1, s2]
    · rw [(p3 a i0 i1).1, hrow_h2 i0 i1, s3, SR.heldD b5 sr i0, hs]
      by_cases z : hbD D a = 0
      · rw [if_pos z, if_pos z]
      · rw [if_neg z, if_neg z]
        omega
  · rw [g5'] at j1
    obtain ⟨s1, s2, s3⟩ := r4 j j0 j1
    refine ⟨?_, ?_, ?_⟩
    · rw [p1 _ j (by omega) (by omega) (by omega) (by omega) (by omega), hrow_e (by omega)]
      exact s1
    · rw [p2 j j0 j1, hrow_j b4.2 j0 j1]
      exact nw_eq hm hb db sr tl ic j0 j1
    · rw [p1 _ j (by omega) (by omega) (by omega) (by omega) (by omega), hrow_e (p := 35 + 4 * j) (by omega), hrow_e (p := 35 + 4 * j + 1) (by omega), hrow_e (p := 35 + 4 * j + 3) (by omega), g4']
      exact s3
  · rw [g5'] at j0
    rw [p1 _ j (by omega) (by omega) (by omega) (by omega) (by omega), p1 _ j (by omega) (by omega) (by omega) (by omega) (by omega)]
    exact r5 j j0 j1
  · rw [g6'] at w1
    rw [p1 _ w (by omega) (by omega) (by omega) (by omega) (by omega), hrow_e (by omega)]
    exact r6 w w0 w1
  · unfold hsour
    rw [t5, t2]
    exact soF_same _ (fun j j0 j1 => ⟨(r4 j j0 (by omega)).2.1, nw_eq hm hb db sr tl ic j0 (by omega)⟩)
theorem zs_isDairy {X : Mm} {S : Sh} {m : Mm} {K : Int → Mm → Prop} (hS : Shp S) (hm : Inv X S m) (h1 : ¬ m 346 0 = 0 → K 1 m) (h0 : m 346 0 = 0 → K 0 m) : wp_X12_isDairy S m 336 K := by
  have b0 := hm.f_346_0
  refine u_X12_isDairy ?_
  refine g_getr 20 346 rfl hS.k336 hm.f_336_20 (by decide) ?_
  refine g_C ?_
  refine g_ldu hS.k346 hS.l346 (by decide) (by decide) (fun v ev => ?_)
  exact g_if (fun w => g_C ⟨by decide, h0 (by omega)⟩) (fun w => g_C ⟨by decide, h1 (by omega)⟩)
theorem zz_hour {S : Sh} {m0 : Mm} {K : Int → Int → Mm → Prop} {K1 : Int → Mm → Prop} {n : Int} (hS : Shp S) (hz : RZ S m0 n) (hK : ∀ (r : Int) (M : Mm), wp_X12_hour S M 336 (fun r2 M2 => K r r2 M2) → K1 r M) (hk : ∀ (r : Int) (M1 : Mm), RZ S M1 (n + 1) → K r r M1) : wp_X11_hour S m0 0 K1 := by
  have hm := hz.inv
  have ct := hz.ct
  have db := hz.db
  have h7 : m0 16 0 = m0 346 7 := hz.sr.1.1
  have b16 := hm.f_16_0
  obtain ⟨o, rc, rr⟩ := hz.rule
  have zz : RZ S m0 (n + 1) := hz.mono (by omega)
  have no : (m0 346 0 = 0 ∨ m0 346 7 = 999) → wp_X12_hour S m0 336 (fun r2 M2 => K (-1) r2 M2) := by
    intro q
    refine u_X12_hour ?_
    refine ⟨hS.k336, ?_⟩
    refine zs_isDairy hS hm (fun w => g_ifF (by decide) ?_) (fun w => g_ifT rfl (g_C (hk _ m0 zz)))
    refine g_getr 20 346 rfl hS.k336 hm.f_336_20 (by decide) ?_
    refine g_C ?_
    refine g_ldu hS.k346 hS.l346 (by decide) (by decide) (fun v ev => ?_)
    refine g_C ?_
    exact g_ifF (fun z => z (by omega)) (g_C (hk _ m0 zz))
  refine u_X11_hour ?_
  refine g_getr 1 3 rfl hS.k0 hm.f_0_1 (by decide) ?_
  refine g_getr 0 4 rfl hS.k3 hm.f_3_0 (by decide) ?_
  refine g_getu 0 rfl hS.k4 (fun v ev => ?_)
  refine g_if (fun w => g_C (hK _ _ (no (by omega)))) (fun w => ?_)
  refine g_getr 1 3 rfl hS.k0 hm.f_0_1 (by decide) ?_
  refine g_getr 1 16 rfl hS.k3 hm.f_3_1 (by decide) ?_
  refine g_getu 0 rfl hS.k16 (fun v2 ev2 => ?_)
  refine g_C ?_
  refine g_if (fun w2 => ?_) (fun w2 => g_C (hK _ _ (no (by omega))))
  refine ⟨hS.k0, ?_⟩
  refine zk_keepPast hS hm (fun i m1 hm1 kp => ?_)
  refine g_getr 11 57 rfl hS.k0 hm1.f_0_11 (by decide) ?_
  refine g_getr 1 3 rfl hS.k0 hm1.f_0_1 (by decide) ?_
  refine g_getr 1 16 rfl hS.k3 hm1.f_3_1 (by decide) ?_
  refine ⟨hS.k57, ?_⟩
  have hb : isSt 16 := by decide
  have F1 : ∀ c p : Int, ¬ (176 ≤ c ∧ c ≤ 335) → ¬ c = 0 → m1 c p = m0 c p := fun c p a b => kp.f a (by omega)
  have e1 : m1 346 = m0 346 := funext (fun p => F1 346 p (by first | decide | exact fun z => absurd z.1 (by decide) | exact ⟨fun z => absurd z.1 (by decide), fun z => absurd z.1 (by decide)⟩ | omega) (by first | decide | exact fun z => absurd z.1 (by decide) | exact ⟨fun z => absurd z.1 (by decide), fun z => absurd z.1 (by decide)⟩ | omega))
  refine zh_pass hS hm1 (rc.keep (fun c p q => F1 c p (by omega) (by omega))) hb (Or.inl rfl) (fun m2 hm2 ph => ?_)
  have F2 : ∀ c p : Int, ¬ (16 ≤ c ∧ c ≤ 23) → ¬ (c = 56 ∨ (c = 55 ∧ 4 ≤ p)) → m2 c p = m1 c p := fun c p a b => ph.1 c p (by omega) (by omega) (by omega) (by omega) (by omega)
  have j2 := hz.1.of hm2
  have e2 : m2 346 = m0 346 := funext (fun p => by rw [F2 346 p (by first | decide | exact fun z => absurd z.1 (by decide) | exact ⟨fun z => absurd z.1 (by decide), fun z => absurd z.1 (by decide)⟩ | omega) (by first | decide | exact fun z => absurd z.1 (by decide) | exact ⟨fun z => absurd z.1 (by decide), fun z => absurd z.1 (by decide)⟩ | omega), e1])
  have i0 := hz.2.2.2.2.2.2.2.2
  have sr1 : SR m1 16 (m1 346) := hz.sr.move hz.rd.1.1 (fun p _ _ => F1 _ p (by omega) (by omega)) (fun c p q => F1 _ p (by omega) (by omega)) (fun p _ _ => F1 _ p (by omega) (by omega))
  have tl1 : TL 4 (m1 346) m1 := hz.tl.move hz.rd.1.1 hz.rd.1.2 (fun p _ _ => F1 _ p (by omega) (by omega)) (fun c p q => F1 _ p (by omega) (by omega)) (fun p _ => F1 _ p (by omega) (by omega))
  have ic1 : m1 55 2 = 0 ↔ (0 : Int) = 0 := by
    rw [F1 55 2 (by first | decide | exact fun z => absurd z.1 (by decide) | exact ⟨fun z => absurd z.1 (by decide), fun z => absurd z.1 (by decide)⟩ | omega) (by first | decide | exact fun z => absurd z.1 (by decide) | exact ⟨fun z => absurd z.1 (by decide), fun z => absurd z.1 (by decide)⟩ | omega), i0.1]
  refine hK _ _ ?_
  refine u_X12_hour ?_
  refine ⟨hS.k336, ?_⟩
  refine zs_isDairy hS j2.inv (fun w => g_ifF (by decide) ?_) (fun w => absurd w (by rw [e2]; omega))
  refine g_getr 20 346 rfl hS.k336 j2.inv.f_336_20 (by decide) ?_
  refine g_C ?_
  refine g_ldu hS.k346 hS.l346 (by decide) (by decide) (fun v3 ev3 => ?_)
  rw [e2] at ev3
  refine g_C ?_
  refine g_ifT (by first | decide | omega) ?_
  refine ⟨hS.k336, ?_⟩
  refine zk_keepsAct hS j2.inv (fun u s m3 hm3 ka => ?_)
  have e3 : m3 346 = m0 346 := funext (fun p => by rw [ka.f (by omega) (by omega), e2])
  have F3 : ∀ c p : Int, ¬ (176 ≤ c ∧ c ≤ 335) → ¬ c = 0 → ¬ (16 ≤ c ∧ c ≤ 23) → ¬ (c = 56 ∨ (c = 55 ∧ 4 ≤ p)) → ¬ c = 347 → ¬ (c = 336 ∧ p = 25) → m3 c p = m0 c p := fun c p a b d e f g => by rw [ka.f f g, F2 c p d e, F1 c p a b]
  refine ⟨hS.k336, ?_⟩
  refine zh_passes (o := o) hS hm3 (rr.keep (fun c p q => F3 c p (by omega) (by omega) (by omega) (by omega) (by omega) (by omega))) (by rw [e3]; omega) (fun j a0 a1 => ?_) (fun m4 hm4 pr => ?_)
  · rw [e3] at a1 ⊢
    rw [← (hz.jg a0 a1).2.1]
    exact hm.aB_5_6 (c := 16) hb a0 (by omega)
  have F4 : ∀ c p : Int, ¬ (c = 346 ∧ 0 ≤ p ∧ p < 57 ∧ ¬ tp p) → ¬ (344 ≤ c ∧ c ≤ 345) → ¬ (c = 336 ∧ p = 18) → m4 c p = m3 c p := fun c p a b d => by
    have q4 : m3 346 4 = m0 346 4 := by rw [e3]
    have q5 : m3 346 5 = m0 346 5 := by rw [e3]
    refine pr.1 c p (by omega) (by omega) d (fun z => a ⟨z.1, ?_⟩)
    obtain ⟨z1, z2⟩ := z
    rcases z2 with z2 | z2 | z2
    · refine ⟨by omega, by omega, ?_⟩
      unfold tp; omega
    · refine ⟨by omega, by omega, ?_⟩
      unfold tp; omega
    · refine ⟨by omega, by omega, ?_⟩
      unfold tp; omega
  have E : ∀ c' p : Int, (16 : Int) ≤ c' → c' ≤ 16 + 7 → m4 c' p = m2 c' p := fun c' p a b => by rw [F4 c' p (by omega) (by omega) (by omega), ka.f (by omega) (by omega)]
  have db1 : DB (m1 346) := by rw [e1]; exact hz.rd.1.1
  have R := SR_hour (o := o) (i := 0) hm1 hb (Or.inl rfl) db1 sr1 tl1 ic1 (by rw [F1 16 0 (by first | decide | exact fun z => absurd z.1 (by decide) | exact ⟨fun z => absurd z.1 (by decide), fun z => absurd z.1 (by decide)⟩ | omega) (by first | decide | exact fun z => absurd z.1 (by decide) | exact ⟨fun z => absurd z.1 (by decide), fun z => absurd z.1 (by decide)⟩ | omega)]; omega) ph
  have x23 : m3 336 23 = 0 := by rw [F3 336 23 (by first | decide | exact fun z => absurd z.1 (by decide) | exact ⟨fun z => absurd z.1 (by decide), fun z => absurd z.1 (by decide)⟩ | omega) (by first | decide | exact fun z => absurd z.1 (by decide) | exact ⟨fun z => absurd z.1 (by decide), fun z => absurd z.1 (by decide)⟩ | omega) (by first | decide | exact fun z => absurd z.1 (by decide) | exact ⟨fun z => absurd z.1 (by decide), fun z => absurd z.1 (by decide)⟩ | omega) (by first | decide | exact fun z => absurd z.1 (by decide) | exact ⟨fun z => absurd z.1 (by decide), fun z => absurd z.1 (by decide)⟩ | omega) (by first | decide | exact fun z => absurd z.1 (by decide) | exact ⟨fun z => absurd z.1 (by decide), fun z => absurd z.1 (by decide)⟩ | omega) (by first | decide | exact fun z => absurd z.1 (by decide) | exact ⟨fun z => absurd z.1 (by decide), fun z => absurd z.1 (by decide)⟩ | omega)]; exact i0.2
  have e4 : m4 346 = hrow o 0 (m0 346) := by rw [pr.row (by rw [e3]; omega), x23, e3]
  have R1 : SR m4 16 (m4 346) := by
    rw [e4]
    have q := R.1
    rw [e1] at q
    obtain ⟨⟨r1, r2⟩, r3, r4, r5, r6⟩ := q
    refine ⟨⟨by rw [E 16 0 (by omega) (by omega)]; exact r1, by rw [E 16 1 (by omega) (by omega)]; exact r2⟩, fun a a0 a1 => ?_, fun a a0 a1 => ?_, fun a a0 a1 => ?_, fun a a0 a1 => ?_⟩
    · exact (r3 a a0 a1).same (E _ a (by omega) (by omega)) (E _ a (by omega) (by omega)) (E _ a (by omega) (by omega)) rfl rfl rfl
    · exact (r4 a a0 a1).same (E _ a (by omega) (by omega)) (E _ a (by omega) (by omega)) (E _ a (by omega) (by omega)) rfl rfl rfl rfl rfl
    · rw [E _ a (by omega) (by omega), E _ a (by omega) (by omega)]; exact r5 a a0 a1
    · rw [E _ a (by omega) (by omega)]; exact r6 a a0 a1
  have z4 : RZ S m4 (n + 1) := by
    refine hz.act kp F2 ka F4 j2 hm4 R1 ?_ (by omega) ?_
    · have h2 : H2 (m0 21) := hz.2.2.2.1.2.2.2
      refine h2.move (fun p _ _ => ?_)
      rw [E 21 p (by omega) (by omega), ph.1 21 p (by omega) (by omega) (by omega) (by omega) (by omega), F1 21 p (by first | decide | exact fun z => absurd z.1 (by decide) | exact ⟨fun z => absurd z.1 (by decide), fun z => absurd z.1 (by decide)⟩ | omega) (by first | decide | exact fun z => absurd z.1 (by decide) | exact ⟨fun z => absurd z.1 (by decide), fun z => absurd z.1 (by decide)⟩ | omega)]
    · rw [ph.2.2.2, F1 16 0 (by first | decide | exact fun z => absurd z.1 (by decide) | exact ⟨fun z => absurd z.1 (by decide), fun z => absurd z.1 (by decide)⟩ | omega) (by first | decide | exact fun z => absurd z.1 (by decide) | exact ⟨fun z => absurd z.1 (by decide), fun z => absurd z.1 (by decide)⟩ | omega)]
      have : m0 16 0 ≤ n := hz.2.2.2.1.1
      omega
  have e := R.2
  rw [e1] at e
  rw [e]
  have ez : soF (fun j => m3 346 (35 + 4 * j + 2)) (nuR o m3) (m3 346 2) (m3 346 5).toNat = hsour o 0 (m0 346) := by
    have q : nuR o m3 = nuD o 0 (m0 346) := by
      funext j
      show nuD o (m3 336 23) (m3 346) j = nuD o 0 (m0 346) j
      rw [x23, e3]
    rw [q, e3]
    rfl
  rw [ez]
  exact hk _ m4 z4
end
section
theorem g_sc {L : Nat} {xs : Nat → Int32} {i : Int} {K : Int → Prop} (h0 : 0 ≤ i) (h1 : i < L) (h : ∀ v : Int, v = (xs i.toNat).toInt → -2147483648 ≤ v → v ≤ 2147483647 → K v) : wSc L xs i K := ⟨⟨h0, h1⟩, h _ rfl (k32_r _).1 (k32_r _).2⟩
theorem Xr.k {M : Mm} (h : Xr M) {k : Int} (h0 : 0 ≤ k) (h1 : k ≤ 3) : M (76 + 25 * k) 3 = M 356 k ∧ M (76 + 25 * k) 9 = M 357 k := by
  obtain ⟨-, a0, a1, a2, a3⟩ := h
  rcases (show k = 0 ∨ k = 1 ∨ k = 2 ∨ k = 3 by omega) with e | e | e | e <;> subst e
  · exact a0
  · exact a1
  · exact a2
  · exact a3
theorem Xr.mk {M : Mm} (h : M 3 3 = M 336 22) (hk : ∀ k : Int, 0 ≤ k → k ≤ 3 → M (76 + 25 * k) 3 = M 356 k ∧ M (76 + 25 * k) 9 = M 357 k) : Xr M := ⟨h, hk 0 (by decide) (by decide), hk 1 (by decide) (by decide), hk 2 (by decide) (by decide), hk 3 (by decide) (by decide)⟩
theorem Ya.k {M : Mm} (h : Ya M) {k : Int} (h0 : 0 ≤ k) (h1 : k ≤ 3) : M 357 k = 0 ∨ M (76 + 25 * k) 2 = M 355 k := by
  obtain ⟨-, -, a0, a1, a2, a3⟩ := h
  rcases (show k = 0 ∨ k = 1 ∨ k = 2 ∨ k = 3 by omega) with e | e | e | e <;> subst e
  · exact a0
  · exact a1
  · exact a2
  · exact a3
theorem Ya.mk {M : Mm} (h : M 1 1 = M 336 1 ∧ (∀ p : Int, 0 ≤ p → p < 400 → M 2 p = M 337 p) ∧ M 0 7 = M 336 2) (h2 : M 3 2 = M 336 21) (hk : ∀ k : Int, 0 ≤ k → k ≤ 3 → M 357 k = 0 ∨ M (76 + 25 * k) 2 = M 355 k) : Ya M := ⟨h, h2, hk 0 (by decide) (by decide), hk 1 (by decide) (by decide), hk 2 (by decide) (by decide), hk 3 (by decide) (by decide)⟩
/-- what of Ya no image and no going back touches -/
theorem Ya.up {M M1 : Mm} (h : Ya M) (hs : ∀ c p : Int, (c = 1 ∨ c = 2 ∨ c = 0 ∨ c = 337 ∨ (c = 336 ∧ (p = 1 ∨ p = 2))) → spP c p → M1 c p = M c p) : M1 1 1 = M1 336 1 ∧ (∀ p : Int, 0 ≤ p → p < 400 → M1 2 p = M1 337 p) ∧ M1 0 7 = M1 336 2 := by
  obtain ⟨⟨a1, a2, a3⟩, -⟩ := h
  rw [hs 1 1 (by decide) (by decide), hs 336 1 (by decide) (by decide), hs 0 7 (by decide) (by decide), hs 336 2 (by decide) (by decide)]
  exact ⟨a1, fun p p0 p1 => by rw [hs 2 p (by first | decide | exact fun z => absurd z.1 (by decide) | exact ⟨fun z => absurd z.1 (by decide), fun z => absurd z.1 (by decide)⟩ | omega) (by first | decide | exact fun z => absurd z.1 (by decide) | exact ⟨fun z => absurd z.1 (by decide), fun z => absurd z.1 (by decide)⟩ | omega), hs 337 p (by first | decide | exact fun z => absurd z.1 (by decide) | exact ⟨fun z => absurd z.1 (by decide), fun z => absurd z.1 (by decide)⟩ | omega) (by first | decide | exact fun z => absurd z.1 (by decide) | exact ⟨fun z => absurd z.1 (by decide), fun z => absurd z.1 (by decide)⟩ | omega)]; exact a2 p p0 p1, a3⟩
theorem Ya.out {M M1 : Mm} (h : Ya M) (hs : ∀ c p : Int, ¬ (c = 3 ∧ p = 3) → ¬ (c = 336 ∧ p = 22) → M1 c p = M c p) : Ya M1 := by
  obtain ⟨⟨a1, a2, a3⟩, a4, a5⟩ := h
  unfold Ya
  rw [hs 1 1 (by first | decide | exact fun z => absurd z.1 (by decide) | exact ⟨fun z => absurd z.1 (by decide), fun z => absurd z.1 (by decide)⟩ | omega) (by first | decide | exact fun z => absurd z.1 (by decide) | exact ⟨fun z => absurd z.1 (by decide), fun z => absurd z.1 (by decide)⟩ | omega), hs 336 1 (by first | decide | exact fun z => absurd z.1 (by decide) | exact ⟨fun z => absurd z.1 (by decide), fun z => absurd z.1 (by decide)⟩ | omega) (by first | decide | exact fun z => absurd z.1 (by decide) | exact ⟨fun z => absurd z.1 (by decide), fun z => absurd z.1 (by decide)⟩ | omega), hs 0 7 (by first | decide | exact fun z => absurd z.1 (by decide) | exact ⟨fun z => absurd z.1 (by decide), fun z => absurd z.1 (by decide)⟩ | omega) (by first | decide | exact fun z => absurd z.1 (by decide) | exact ⟨fun z => absurd z.1 (by decide), fun z => absurd z.1 (by decide)⟩ | omega), hs 336 2 (by first | decide | exact fun z => absurd z.1 (by decide) | exact ⟨fun z => absurd z.1 (by decide), fun z => absurd z.1 (by decide)⟩ | omega) (by first | decide | exact fun z => absurd z.1 (by decide) | exact ⟨fun z => absurd z.1 (by decide), fun z => absurd z.1 (by decide)⟩ | omega), hs 3 2 (by first | decide | exact fun z => absurd z.1 (by decide) | exact ⟨fun z => absurd z.1 (by decide), fun z => absurd z.1 (by decide)⟩ | omega) (by first | decide | exact fun z => absurd z.1 (by decide) | exact ⟨fun z => absurd z.1 (by decide), fun z => absurd z.1 (by decide)⟩ | omega), hs 336 21 (by first | decide | exact fun z => absurd z.1 (by decide) | exact ⟨fun z => absurd z.1 (by decide), fun z => absurd z.1 (by decide)⟩ | omega) (by first | decide | exact fun z => absurd z.1 (by decide) | exact ⟨fun z => absurd z.1 (by decide), fun z => absurd z.1 (by decide)⟩ | omega), hs 76 2 (by first | decide | exact fun z => absurd z.1 (by decide) | exact ⟨fun z => absurd z.1 (by decide), fun z => absurd z.1 (by decide)⟩ | omega) (by first | decide | exact fun z => absurd z.1 (by decide) | exact ⟨fun z => absurd z.1 (by decide), fun z => absurd z.1 (by decide)⟩ | omega), hs 101 2 (by first | decide | exact fun z => absurd z.1 (by decide) | exact ⟨fun z => absurd z.1 (by decide), fun z => absurd z.1 (by decide)⟩ | omega) (by first | decide | exact fun z => absurd z.1 (by decide) | exact ⟨fun z => absurd z.1 (by decide), fun z => absurd z.1 (by decide)⟩ | omega), hs 126 2 (by first | decide | exact fun z => absurd z.1 (by decide) | exact ⟨fun z => absurd z.1 (by decide), fun z => absurd z.1 (by decide)⟩ | omega) (by first | decide | exact fun z => absurd z.1 (by decide) | exact ⟨fun z => absurd z.1 (by decide), fun z => absurd z.1 (by decide)⟩ | omega), hs 151 2 (by first | decide | exact fun z => absurd z.1 (by decide) | exact ⟨fun z => absurd z.1 (by decide), fun z => absurd z.1 (by decide)⟩ | omega) (by first | decide | exact fun z => absurd z.1 (by decide) | exact ⟨fun z => absurd z.1 (by decide), fun z => absurd z.1 (by decide)⟩ | omega), hs 355 0 (by first | decide | exact fun z => absurd z.1 (by decide) | exact ⟨fun z => absurd z.1 (by decide), fun z => absurd z.1 (by decide)⟩ | omega) (by first | decide | exact fun z => absurd z.1 (by decide) | exact ⟨fun z => absurd z.1 (by decide), fun z => absurd z.1 (by decide)⟩ | omega), hs 355 1 (by first | decide | exact fun z => absurd z.1 (by decide) | exact ⟨fun z => absurd z.1 (by decide), fun z => absurd z.1 (by decide)⟩ | omega) (by first | decide | exact fun z => absurd z.1 (by decide) | exact ⟨fun z => absurd z.1 (by decide), fun z => absurd z.1 (by decide)⟩ | omega), hs 355 2 (by first | decide | exact fun z => absurd z.1 (by decide) | exact ⟨fun z => absurd z.1 (by decide), fun z => absurd z.1 (by decide)⟩ | omega) (by first | decide | exact fun z => absurd z.1 (by decide) | exact ⟨fun z => absurd z.1 (by decide), fun z => absurd z.1 (by decide)⟩ | omega), hs 355 3 (by first | decide | exact fun z => absurd z.1 (by decide) | exact ⟨fun z => absurd z.1 (by decide), fun z => absurd z.1 (by decide)⟩ | omega) (by first | decide | exact fun z => absurd z.1 (by decide) | exact ⟨fun z => absurd z.1 (by decide), fun z => absurd z.1 (by decide)⟩ | omega), hs 357 0 (by first | decide | exact fun z => absurd z.1 (by decide) | exact ⟨fun z => absurd z.1 (by decide), fun z => absurd z.1 (by decide)⟩ | omega) (by first | decide | exact fun z => absurd z.1 (by decide) | exact ⟨fun z => absurd z.1 (by decide), fun z => absurd z.1 (by decide)⟩ | omega), hs 357 1 (by first | decide | exact fun z => absurd z.1 (by decide) | exact ⟨fun z => absurd z.1 (by decide), fun z => absurd z.1 (by decide)⟩ | omega) (by first | decide | exact fun z => absurd z.1 (by decide) | exact ⟨fun z => absurd z.1 (by decide), fun z => absurd z.1 (by decide)⟩ | omega), hs 357 2 (by first | decide | exact fun z => absurd z.1 (by decide) | exact ⟨fun z => absurd z.1 (by decide), fun z => absurd z.1 (by decide)⟩ | omega) (by first | decide | exact fun z => absurd z.1 (by decide) | exact ⟨fun z => absurd z.1 (by decide), fun z => absurd z.1 (by decide)⟩ | omega), hs 357 3 (by first | decide | exact fun z => absurd z.1 (by decide) | exact ⟨fun z => absurd z.1 (by decide), fun z => absurd z.1 (by decide)⟩ | omega) (by first | decide | exact fun z => absurd z.1 (by decide) | exact ⟨fun z => absurd z.1 (by decide), fun z => absurd z.1 (by decide)⟩ | omega)]
  exact ⟨⟨a1, fun p p0 p1 => by rw [hs 2 p (by first | decide | exact fun z => absurd z.1 (by decide) | exact ⟨fun z => absurd z.1 (by decide), fun z => absurd z.1 (by decide)⟩ | omega) (by first | decide | exact fun z => absurd z.1 (by decide) | exact ⟨fun z => absurd z.1 (by decide), fun z => absurd z.1 (by decide)⟩ | omega), hs 337 p (by first | decide | exact fun z => absurd z.1 (by decide) | exact ⟨fun z => absurd z.1 (by decide), fun z => absurd z.1 (by decide)⟩ | omega) (by first | decide | exact fun z => absurd z.1 (by decide) | exact ⟨fun z => absurd z.1 (by decide), fun z => absurd z.1 (by decide)⟩ | omega)]; exact a2 p p0 p1, a3⟩, a4, a5⟩
end
