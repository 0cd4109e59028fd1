/-! what is held between two calls of the law: both sides alike -/
def UQ (D : Int → Int) : Prop := ∀ k l : Int, 0 ≤ k → k < D 3 → 0 ≤ l → l < D 3 → rMt D (D (57 + 3 * l)) (D (57 + 3 * l + 1)) k → k = l
theorem UQ.move {D D' : Int → Int} (h : UQ D) (b3 : D 3 ≤ 8) (G : ∀ p : Int, (p = 3 ∨ (57 ≤ p ∧ p < 81)) → D' p = D p) : UQ D' := by
  intro k l k0 k1 l0 l1 q
  rw [G 3 (by omega)] at k1 l1
  unfold rMt at q
  rw [G (57 + 3 * k) (by omega), G (57 + 3 * k + 1) (by omega), G (57 + 3 * l) (by omega), G (57 + 3 * l + 1) (by omega)] at q
  exact h k l k0 k1 l0 l1 q
theorem RO.of {M : Mm} {u : Int} {D : Int → Int} (t : TL u D M) (q : UQ D) : RO D (M (u + 1)) := by
  intro a c a0 a5 c0 c5
  rcases t.2.1 a c a0 a5 c0 c5 with ⟨e, n⟩ | ⟨e, k, k0, k1, k2, k3⟩
  · exact Or.inl ⟨e, n⟩
  · refine Or.inr ⟨e, ⟨k, k0, k1, k2⟩, fun l l0 l1 l2 => ?_⟩
    have z : l = k := by
      refine q l k l0 l1 k0 k1 ?_
      unfold rMt at l2 ⊢
      rcases k2 with ⟨z1, z2⟩ | ⟨z1, z2⟩ <;> rw [z1, z2]
      · exact l2
      · exact l2.symm
    rw [z, k3]
/-- the JUGS in a HAND are at most 2 -/
theorem bc_cnt {f : Int → Int} {h : Int} : bcF (hbt f h 4) = (if f 0 = h then 1 else 0) + (if f 1 = h then 1 else 0) + (if f 2 = h then 1 else 0) + (if f 3 = h then 1 else 0) := by
  have e3 : hbt f h 4 = if f 3 = h then iOr (hbt f h 3) (iShl 1 3) else hbt f h 3 := rfl
  have e2 : hbt f h 3 = if f 2 = h then iOr (hbt f h 2) (iShl 1 2) else hbt f h 2 := rfl
  have e1 : hbt f h 2 = if f 1 = h then iOr (hbt f h 1) (iShl 1 1) else hbt f h 1 := rfl
  have e0 : hbt f h 1 = if f 0 = h then iOr 0 (iShl 1 0) else 0 := rfl
  rw [e3, e2, e1, e0]
  by_cases z0 : f 0 = h <;> by_cases z1 : f 1 = h <;> by_cases z2 : f 2 = h <;> by_cases z3 : f 3 = h <;> simp only [z0, z1, z2, z3, ↓reduceIte] <;> decide +kernel
def H2 (f : Int → Int) : Prop := ∀ h : Int, 0 ≤ h → bcF (hbt f h 4) ≤ 2
theorem H2.move {f f' : Int → Int} (h : H2 f) (F : ∀ p : Int, 0 ≤ p → p < 4 → f' p = f p) : H2 f' := by
  intro g g0
  rw [hbt_same 4 (fun j j0 j1 => F j j0 (by omega))]
  exact h g g0
theorem H2.put {f f' : Int → Int} {j : Int} (h : H2 f) (F : ∀ p : Int, 0 ≤ p → p < 4 → ¬ p = j → f' p = f p) (q : 0 ≤ f' j → bcF (hbt f (f' j) 4) < 2) : H2 f' := by
  intro g g0
  have hg := h g g0
  rw [bc_cnt] at hg ⊢
  have e : ∀ p : Int, 0 ≤ p → p < 4 → ¬ p = j → (if f' p = g then (1 : Int) else 0) = (if f p = g then 1 else 0) := fun p p0 p1 p2 => by rw [F p p0 p1 p2]
  have b : ∀ p : Int, 0 ≤ (if f p = g then (1 : Int) else 0) ∧ (if f p = g then (1 : Int) else 0) ≤ 1 := fun p => by split <;> omega
  have b' : ∀ p : Int, 0 ≤ (if f' p = g then (1 : Int) else 0) ∧ (if f' p = g then (1 : Int) else 0) ≤ 1 := fun p => by split <;> omega
  have hj : (f' j = g ∧ (if f 0 = g then (1 : Int) else 0) + (if f 1 = g then 1 else 0) + (if f 2 = g then 1 else 0) + (if f 3 = g then 1 else 0) < 2) ∨ (if f' j = g then (1 : Int) else 0) = 0 := by
    by_cases z : f' j = g
    · have y := q (by omega)
      rw [bc_cnt, z] at y
      exact Or.inl ⟨z, y⟩
    · exact Or.inr (if_neg z)
  have s0 := e 0 (by decide) (by decide)
  have s1 := e 1 (by decide) (by decide)
  have s2 := e 2 (by decide) (by decide)
  have s3 := e 3 (by decide) (by decide)
  have t0 := b 0
  have t1 := b 1
  have t2 := b 2
  have t3 := b 3
  have v0 := b' 0
  have v1 := b' 1
  have v2 := b' 2
  have v3 := b' 3
  generalize (if f 0 = g then (1 : Int) else 0) = a0 at *
  generalize (if f 1 = g then (1 : Int) else 0) = a1 at *
  generalize (if f 2 = g then (1 : Int) else 0) = a2 at *
  generalize (if f 3 = g then (1 : Int) else 0) = a3 at *
  by_cases i0 : (0 : Int) = j
  · subst i0
    generalize (if f' 0 = g then (1 : Int) else 0) = c0 at *
    generalize (if f' 1 = g then (1 : Int) else 0) = c1 at *
    generalize (if f' 2 = g then (1 : Int) else 0) = c2 at *
    generalize (if f' 3 = g then (1 : Int) else 0) = c3 at *
    omega
  by_cases i1 : (1 : Int) = j
  · subst i1
    generalize (if f' 0 = g then (1 : Int) else 0) = c0 at *
    generalize (if f' 1 = g then (1 : Int) else 0) = c1 at *
    generalize (if f' 2 = g then (1 : Int) else 0) = c2 at *
    generalize (if f' 3 = g then (1 : Int) else 0) = c3 at *
    omega
  by_cases i2 : (2 : Int) = j
  · subst i2
    generalize (if f' 0 = g then (1 : Int) else 0) = c0 at *
    generalize (if f' 1 = g then (1 : Int) else 0) = c1 at *
    generalize (if f' 2 = g then (1 : Int) else 0) = c2 at *
    generalize (if f' 3 = g then (1 : Int) else 0) = c3 at *
    omega
  by_cases i3 : (3 : Int) = j
  · subst i3
    generalize (if f' 0 = g then (1 : Int) else 0) = c0 at *
    generalize (if f' 1 = g then (1 : Int) else 0) = c1 at *
    generalize (if f' 2 = g then (1 : Int) else 0) = c2 at *
    generalize (if f' 3 = g then (1 : Int) else 0) = c3 at *
    omega
  rw [s0 i0, s1 i1, s2 i2, s3 i3]
  exact hg
def SX (M : Mm) (s n : Int) : Prop := M (s + 13) 0 ≤ n ∧ (M (s + 1) 0 = 0 → M s 4 = 0) ∧ Wok (M (s + 1) 0) (M (s + 2)) (M (s + 3)) ∧ H2 (M (s + 18))
theorem SX.move {M M' : Mm} {s s' n : Int} (h : SX M s n) (e0 : M' (s' + 13) 0 = M (s + 13) 0) (e1 : M' (s' + 1) 0 = M (s + 1) 0) (e2 : M' s' 4 = M s 4) (e3 : ∀ p : Int, 0 ≤ p → p < 36 → M' (s' + 2) p = M (s + 2) p) (e4 : ∀ p : Int, 0 ≤ p → p < 36 → M' (s' + 3) p = M (s + 3) p) (e5 : ∀ p : Int, 0 ≤ p → p < 4 → M' (s' + 18) p = M (s + 18) p) : SX M' s' n := by
  obtain ⟨a, b, c, d⟩ := h
  exact ⟨by rw [e0]; exact a, by rw [e1, e2]; exact b, c.move e1 e3 e4, d.move e5⟩
def XZ (M : Mm) (n : Int) : Prop := SX M 3 n ∧ (∀ k : Int, 0 ≤ k → k ≤ 3 → SX M (76 + 25 * k) n) ∧ (∀ r : Int, 0 ≤ r → r ≤ 19 → M (176 + 8 * r) 0 ≤ n ∧ H2 (M (176 + 8 * r + 5))) ∧ UQ (M 346) ∧ (∀ k : Int, 0 ≤ k → k ≤ 3 → M 357 k = 0 ∨ UQ (iD M k)) ∧ (M 55 2 = 0 ∧ M 336 23 = 0)
/-- a rule of the class in cell c -/
def RCk (S : Sh) (M : Mm) (c : Int) (Cs : List Cz) : Prop := ¬ c = -2 ∧ ¬ c = -1 ∧ rowv S c ∧ Hs (M c) 0 (codC Cs) ∧ rlen S c = ((codC Cs).length : Int) ∧ 0 < (codC Cs).length ∧ Tys Cs ∧ nvs (codC Cs) ≤ 60
def CR (S : Sh) (M : Mm) : Prop := (∀ k : Int, 0 ≤ k → k < M 336 2 → ∃ Cs : List Cz, RCk S M (M 30 k) Cs ∧ RwR M k Cs ∧ nvs (rowC Cs) ≤ 60 ∧ N1 Cs) ∧ M 55 1 = (if M 3 2 < 0 then -2 else M 30 (M 3 2))
def RZ (S : Sh) (M : Mm) (n : Int) : Prop := JX S M ∧ RW M ∧ CR S M ∧ XZ M n
theorem RZ.inv {S : Sh} {M : Mm} {n : Int} (h : RZ S M n) : Inv (sf M) S M := h.1.inv
theorem RZ.rd {S : Sh} {M : Mm} {n : Int} (h : RZ S M n) : RD M 3 (M 346) := h.2.1.1
theorem RZ.tl {S : Sh} {M : Mm} {n : Int} (h : RZ S M n) : TL 4 (M 346) M := h.2.1.1.2.1
theorem RZ.sr {S : Sh} {M : Mm} {n : Int} (h : RZ S M n) : SR M 16 (M 346) := h.2.1.1.2.2.1
theorem RZ.tt {S : Sh} {M : Mm} {n : Int} (h : RZ S M n) : TT M 3 (M 346) := h.2.1.1.2.2.2
theorem RZ.ro {S : Sh} {M : Mm} {n : Int} (h : RZ S M n) : RO (M 346) (M 5) := RO.of h.tl h.2.2.2.2.2.2.1
/-- the rule in force on both sides -/
theorem RZ.rule {S : Sh} {M : Mm} {n : Int} (h : RZ S M n) : ∃ o : Option (List Cz), RC S M o ∧ RR M o := by
  obtain ⟨j, _, ⟨c1, c2⟩, _⟩ := h
  have e : M 3 2 = M 336 21 := j.2.2.2.1
  have g : M 336 21 < M 336 2 := j.1.2.2.2.1.1
  by_cases z : M 336 21 < 0
  · refine ⟨none, ?_, z⟩
    show M 55 1 = -2
    rw [c2, e, if_pos z]
  · obtain ⟨Cs, r1, r2, r3, r4⟩ := c1 (M 336 21) (by omega) g
    refine ⟨some Cs, ?_, ⟨by omega, r2, r3, r4⟩⟩
    have c3 : M 55 1 = M 30 (M 336 21) := by rw [c2, e, if_neg z]
    show ¬ M 55 1 = -2 ∧ ¬ M 55 1 = -1 ∧ rowv S (M 55 1) ∧ Hs (M (M 55 1)) 0 (codC Cs) ∧ rlen S (M 55 1) = ((codC Cs).length : Int) ∧ 0 < (codC Cs).length ∧ Tys Cs ∧ nvs (codC Cs) ≤ 60
    rw [c3]
    exact r1
theorem RCk.same {S : Sh} {M M' : Mm} {c : Int} {Cs : List Cz} (h : RCk S M c Cs) (F : ∀ c p : Int, 358 ≤ c → M' c p = M c p) : RCk S M' c Cs := by
  obtain ⟨a1, a2, a3, a4, a5⟩ := h
  have z : 358 ≤ c := by
    rcases a3 with q | q
    · exact absurd q a1
    · exact q.2.2
  exact ⟨a1, a2, a3, by rw [show M' c = M c from funext (fun p => F c p z)]; exact a4, a5⟩
theorem CR.same {S : Sh} {M M' : Mm} (h : CR S M) (F : ∀ c p : Int, (358 ≤ c ∨ c = 30 ∨ (c = 336 ∧ p = 2) ∨ (c = 55 ∧ p = 1) ∨ (c = 3 ∧ p = 2) ∨ c = 338 ∨ c = 340 ∨ c = 341) → M' c p = M c p) : CR S M' := by
  obtain ⟨c1, c2⟩ := h
  refine ⟨fun k k0 k1 => ?_, ?_⟩
  · rw [F 336 2 (by first | decide | exact fun z => absurd z.1 (by decide) | exact ⟨fun z => absurd z.1 (by decide), fun z => absurd z.1 (by decide)⟩ | omega)] at k1
    obtain ⟨Cs, r1, r2, r3⟩ := c1 k k0 k1
    refine ⟨Cs, ?_, r2.same (fun c p q => F c p (by omega)), r3⟩
    rw [F 30 k (by first | decide | exact fun z => absurd z.1 (by decide) | exact ⟨fun z => absurd z.1 (by decide), fun z => absurd z.1 (by decide)⟩ | omega)]
    exact r1.same (fun c p q => F c p (by omega))
  · rw [F 55 1 (by first | decide | exact fun z => absurd z.1 (by decide) | exact ⟨fun z => absurd z.1 (by decide), fun z => absurd z.1 (by decide)⟩ | omega), F 3 2 (by first | decide | exact fun z => absurd z.1 (by decide) | exact ⟨fun z => absurd z.1 (by decide), fun z => absurd z.1 (by decide)⟩ | omega), c2]
    by_cases z : M 3 2 < 0
    · rw [if_pos z, if_pos z]
    · rw [if_neg z, if_neg z, F 30 _ (by first | decide | exact fun z => absurd z.1 (by decide) | exact ⟨fun z => absurd z.1 (by decide), fun z => absurd z.1 (by decide)⟩ | omega)]
theorem RW.same {M M' : Mm} (h : RW M) (F : ∀ c p : Int, ((4 ≤ c ∧ c ≤ 27) ∨ (c = 3 ∧ p = 4) ∨ (76 ≤ c ∧ c ≤ 335) ∨ c = 346 ∨ c = 347 ∨ c = 354 ∨ c = 357 ∨ (c = 0 ∧ (p = 4 ∨ p = 5)) ∨ (c = 336 ∧ p = 25)) → M' c p = M c p) : RW M' := by
  obtain ⟨rd, im, eu, pa⟩ := h
  have e46 : M' 346 = M 346 := funext (fun p => F 346 p (by first | decide | exact fun z => absurd z.1 (by decide) | exact ⟨fun z => absurd z.1 (by decide), fun z => absurd z.1 (by decide)⟩ | omega))
  have e47 : ∀ r : Int, uD M' r = uD M r := fun r => funext (fun p => F 347 _ (by first | decide | exact fun z => absurd z.1 (by decide) | exact ⟨fun z => absurd z.1 (by decide), fun z => absurd z.1 (by decide)⟩ | omega))
  have e54 : ∀ k : Int, iD M' k = iD M k := fun k => funext (fun p => F 354 _ (by first | decide | exact fun z => absurd z.1 (by decide) | exact ⟨fun z => absurd z.1 (by decide), fun z => absurd z.1 (by decide)⟩ | omega))
  refine ⟨?_, fun k k0 k1 => ?_, ?_, fun r r0 r1 => ?_⟩
  · rw [e46]
    exact rd.same (fun c p c0 c1 => F c p (by omega)) (F 3 4 (by first | decide | exact fun z => absurd z.1 (by decide) | exact ⟨fun z => absurd z.1 (by decide), fun z => absurd z.1 (by decide)⟩ | omega)) (fun p _ _ => rfl)
  · rw [F 357 k (by first | decide | exact fun z => absurd z.1 (by decide) | exact ⟨fun z => absurd z.1 (by decide), fun z => absurd z.1 (by decide)⟩ | omega), e54]
    exact (im k k0 k1).imp (fun z => z) (fun z => z.same (fun c p c0 c1 => F c p (by omega)) (F _ 4 (by omega)) (fun p _ _ => rfl))
  · rw [F 0 5 (by first | decide | exact fun z => absurd z.1 (by decide) | exact ⟨fun z => absurd z.1 (by decide), fun z => absurd z.1 (by decide)⟩ | omega), F 336 25 (by first | decide | exact fun z => absurd z.1 (by decide) | exact ⟨fun z => absurd z.1 (by decide), fun z => absurd z.1 (by decide)⟩ | omega)]; exact eu
  · rw [F 336 25 (by first | decide | exact fun z => absurd z.1 (by decide) | exact ⟨fun z => absurd z.1 (by decide), fun z => absurd z.1 (by decide)⟩ | omega)] at r1 ⊢
    rw [F 0 4 (by first | decide | exact fun z => absurd z.1 (by decide) | exact ⟨fun z => absurd z.1 (by decide), fun z => absurd z.1 (by decide)⟩ | omega)]
    obtain ⟨o, ho⟩ : ∃ o : Int, o = (M 0 4 + 20 - M 336 25 + r) % 20 := ⟨_, rfl⟩
    have q := pa r r0 r1
    rw [← ho] at q ⊢
    have ob : 0 ≤ o ∧ o ≤ 19 := by omega
    obtain ⟨⟨sr, db⟩, tl⟩ := q
    unfold RU
    rw [e47, e46]
    refine ⟨⟨?_, db⟩, tl⟩
    obtain ⟨⟨r1', r2⟩, r3, r4, r5, r6⟩ := sr
    refine ⟨⟨by rw [F _ 0 (by omega)]; exact r1', by rw [F _ 1 (by omega)]; exact r2⟩, fun a a0 a1 => ?_, fun a a0 a1 => ?_, fun a a0 a1 => ?_, fun a a0 a1 => ?_⟩
    · have z := r3 a a0 a1
      unfold SRh at z ⊢
      rw [F _ a (by omega), F _ a (by omega), F _ a (by omega)]
      exact z
    · have z := r4 a a0 a1
      unfold SRj at z ⊢
      rw [F _ a (by omega), F _ a (by omega), F _ a (by omega)]
      exact z
    · rw [F _ a (by omega), F _ a (by omega)]
      exact r5 a a0 a1
    · rw [F _ a (by omega)]
      exact r6 a a0 a1
theorem XZ.same {M M' : Mm} {n : Int} (h : XZ M n) (F : ∀ c p : Int, ((4 ≤ c ∧ c ≤ 27) ∨ (c = 3 ∧ p = 4) ∨ (76 ≤ c ∧ c ≤ 335) ∨ c = 346 ∨ c = 347 ∨ c = 354 ∨ c = 357 ∨ (c = 55 ∧ p = 2) ∨ (c = 336 ∧ p = 23)) → M' c p = M c p) : XZ M' n := by
  obtain ⟨a, b, c, d, e, f⟩ := h
  refine ⟨a.move (F _ _ (by omega)) (F _ _ (by omega)) (F _ _ (by omega)) (fun p _ _ => F _ _ (by omega)) (fun p _ _ => F _ _ (by omega)) (fun p _ _ => F _ _ (by omega)), fun k k0 k1 => (b k k0 k1).move (F _ _ (by omega)) (F _ _ (by omega)) (F _ _ (by omega)) (fun p _ _ => F _ _ (by omega)) (fun p _ _ => F _ _ (by omega)) (fun p _ _ => F _ _ (by omega)), fun r r0 r1 => ?_, ?_, fun k k0 k1 => ?_, ?_⟩
  · rw [F _ 0 (by omega)]; exact ⟨(c r r0 r1).1, (c r r0 r1).2.move (fun p _ _ => F _ _ (by omega))⟩
  · rw [show M' 346 = M 346 from funext (fun p => F 346 p (by first | decide | exact fun z => absurd z.1 (by decide) | exact ⟨fun z => absurd z.1 (by decide), fun z => absurd z.1 (by decide)⟩ | omega))]; exact d
  · rw [F 357 k (by first | decide | exact fun z => absurd z.1 (by decide) | exact ⟨fun z => absurd z.1 (by decide), fun z => absurd z.1 (by decide)⟩ | omega), show iD M' k = iD M k from funext (fun p => F 354 _ (by first | decide | exact fun z => absurd z.1 (by decide) | exact ⟨fun z => absurd z.1 (by decide), fun z => absurd z.1 (by decide)⟩ | omega))]; exact e k k0 k1
  · rw [F 55 2 (by first | decide | exact fun z => absurd z.1 (by decide) | exact ⟨fun z => absurd z.1 (by decide), fun z => absurd z.1 (by decide)⟩ | omega), F 336 23 (by first | decide | exact fun z => absurd z.1 (by decide) | exact ⟨fun z => absurd z.1 (by decide), fun z => absurd z.1 (by decide)⟩ | omega)]; exact f
theorem XZ.mono {M : Mm} {n n' : Int} (h : XZ M n) (l : n ≤ n') : XZ M n' := by
  obtain ⟨⟨a1, a2⟩, b, c, d⟩ := h
  refine ⟨⟨by omega, a2⟩, fun k k0 k1 => ?_, fun r r0 r1 => ?_, d⟩
  · obtain ⟨z1, z2⟩ := b k k0 k1
    exact ⟨by omega, z2⟩
  · have z := c r r0 r1
    exact ⟨by omega, z.2⟩
theorem RZ.mono {S : Sh} {M : Mm} {n n' : Int} (h : RZ S M n) (l : n ≤ n') : RZ S M n' := ⟨h.1, h.2.1, h.2.2.1, h.2.2.2.mono l⟩
/-- what is asked changes nothing that lasts -/
theorem RZ.same {S : Sh} {M M' : Mm} {n : Int} (h : RZ S M n) (j : JX S M') (F : ∀ c p : Int, ¬ fq1_W c p → ¬ fq2_W c p → M' c p = M c p) : RZ S M' n :=
  ⟨j, h.2.1.same (fun c p q => F c p (by unfold fq1_W; omega) (by unfold fq2_W; omega)), h.2.2.1.same (fun c p q => F c p (by unfold fq1_W; omega) (by unfold fq2_W; omega)), h.2.2.2.same (fun c p q => F c p (by unfold fq1_W; omega) (by unfold fq2_W; omega))⟩
/-- an ACT of both sides -/
theorem RZ.act {S : Sh} {m0 M1 M2 M3 M4 : Mm} {n n' i u s : Int} (h : RZ S m0 n) (kp : KP m0 M1 i) (f2 : ∀ c p : Int, ¬ (16 ≤ c ∧ c ≤ 23) → ¬ (c = 56 ∨ (c = 55 ∧ 4 ≤ p)) → M2 c p = M1 c p) (ka : KA M2 M3 u s) (f4 : ∀ c p : Int, ¬ (c = 346 ∧ 0 ≤ p ∧ p < 57 ∧ ¬ tp p) → ¬ (344 ≤ c ∧ c ≤ 345) → ¬ (c = 336 ∧ p = 18) → M4 c p = M3 c p) (j2 : JX S M2) (hm4 : Inv (sf M2) S M4) (x : SR M4 16 (M4 346)) (x2 : H2 (M4 21)) (hn : n ≤ n') (hh : M2 16 0 ≤ n') : RZ S M4 n' := by
  have j4 := j2.of hm4
  obtain ⟨j, rw, cr, xz⟩ := h
  obtain ⟨k1, k2, k3, k4, k5, k6, k7, k8, k9, k10, k11⟩ := id kp
  obtain ⟨a1, a2, a3, a4, a5, a6⟩ := id ka
  have F : ∀ c p : Int, ¬ (176 ≤ c ∧ c ≤ 335) → ¬ (c = 0 ∧ (p = 4 ∨ p = 5)) → ¬ (16 ≤ c ∧ c ≤ 23) → ¬ (c = 56 ∨ (c = 55 ∧ 4 ≤ p)) → ¬ c = 347 → ¬ (c = 336 ∧ (p = 25 ∨ p = 18)) → ¬ (c = 346 ∧ 0 ≤ p ∧ p < 57 ∧ ¬ tp p) → ¬ (344 ≤ c ∧ c ≤ 345) → M4 c p = m0 c p := fun c p b1 b2 b3 b4 b5 b6 b7 b8 => by
    rw [f4 c p b7 b8 (fun z => b6 ⟨z.1, Or.inr z.2⟩), a4 c p b5 (fun z => b6 ⟨z.1, Or.inl z.2⟩), f2 c p b3 b4, kp.f b1 b2]
  refine ⟨j4, ?_, ?_, ?_⟩
  · exact rw.act k1 k2.1 k2.2 k3 k4 k5 k6.1 k6.2 k7 k8 k9 (fun c p b1 b2 => f2 c p b1 (by omega)) a1.1 a1.2 a2 a3 a4 a5 a6 f4 k10 k11 x
  · exact cr.same (fun c p q => F c p (by omega) (by omega) (by omega) (by omega) (by omega) (by omega) (by omega) (by omega))
  · obtain ⟨⟨s1, s2, s3, s4⟩, b, c, d, e, f⟩ := xz
    have G : ∀ p : Int, (tp p ∨ ¬ (0 ≤ p ∧ p < 57)) → M4 346 p = m0 346 p := fun p q => F 346 p (by first | decide | exact fun z => absurd z.1 (by decide) | exact ⟨fun z => absurd z.1 (by decide), fun z => absurd z.1 (by decide)⟩ | omega) (by first | decide | exact fun z => absurd z.1 (by decide) | exact ⟨fun z => absurd z.1 (by decide), fun z => absurd z.1 (by decide)⟩ | omega) (by first | decide | exact fun z => absurd z.1 (by decide) | exact ⟨fun z => absurd z.1 (by decide), fun z => absurd z.1 (by decide)⟩ | omega) (by first | decide | exact fun z => absurd z.1 (by decide) | exact ⟨fun z => absurd z.1 (by decide), fun z => absurd z.1 (by decide)⟩ | omega) (by first | decide | exact fun z => absurd z.1 (by decide) | exact ⟨fun z => absurd z.1 (by decide), fun z => absurd z.1 (by decide)⟩ | omega) (by first | decide | exact fun z => absurd z.1 (by decide) | exact ⟨fun z => absurd z.1 (by decide), fun z => absurd z.1 (by decide)⟩ | omega) (fun z => q.elim (fun y => z.2.2.2 y) (fun y => y ⟨z.2.1, z.2.2.1⟩)) (by omega)
    refine ⟨⟨?_, ?_, ?_, x2⟩, fun k l0 l1 => ?_, fun r r0 r1 => ⟨?_, ?_⟩, ?_, fun k l0 l1 => ?_, ?_⟩
    · show M4 16 0 ≤ n'
      rw [f4 16 0 (by first | decide | exact fun z => absurd z.1 (by decide) | exact ⟨fun z => absurd z.1 (by decide), fun z => absurd z.1 (by decide)⟩ | omega) (by first | decide | exact fun z => absurd z.1 (by decide) | exact ⟨fun z => absurd z.1 (by decide), fun z => absurd z.1 (by decide)⟩ | omega) (by first | decide | exact fun z => absurd z.1 (by decide) | exact ⟨fun z => absurd z.1 (by decide), fun z => absurd z.1 (by decide)⟩ | omega), a4 16 0 (by omega) (by omega)]
      exact hh
    · rw [F _ 0 (by omega) (by omega) (by omega) (by omega) (by omega) (by omega) (by omega) (by omega), F 3 4 (by first | decide | exact fun z => absurd z.1 (by decide) | exact ⟨fun z => absurd z.1 (by decide), fun z => absurd z.1 (by decide)⟩ | omega) (by first | decide | exact fun z => absurd z.1 (by decide) | exact ⟨fun z => absurd z.1 (by decide), fun z => absurd z.1 (by decide)⟩ | omega) (by first | decide | exact fun z => absurd z.1 (by decide) | exact ⟨fun z => absurd z.1 (by decide), fun z => absurd z.1 (by decide)⟩ | omega) (by first | decide | exact fun z => absurd z.1 (by decide) | exact ⟨fun z => absurd z.1 (by decide), fun z => absurd z.1 (by decide)⟩ | omega) (by first | decide | exact fun z => absurd z.1 (by decide) | exact ⟨fun z => absurd z.1 (by decide), fun z => absurd z.1 (by decide)⟩ | omega) (by first | decide | exact fun z => absurd z.1 (by decide) | exact ⟨fun z => absurd z.1 (by decide), fun z => absurd z.1 (by decide)⟩ | omega) (by first | decide | exact fun z => absurd z.1 (by decide) | exact ⟨fun z => absurd z.1 (by decide), fun z => absurd z.1 (by decide)⟩ | omega) (by first | decide | exact fun z => absurd z.1 (by decide) | exact ⟨fun z => absurd z.1 (by decide), fun z => absurd z.1 (by decide)⟩ | omega)]
      exact s2
    · exact s3.move (F _ 0 (by omega) (by omega) (by omega) (by omega) (by omega) (by omega) (by omega) (by omega)) (fun p _ _ => F _ p (by omega) (by omega) (by omega) (by omega) (by omega) (by omega) (by omega) (by omega)) (fun p _ _ => F _ p (by omega) (by omega) (by omega) (by omega) (by omega) (by omega) (by omega) (by omega))
    · have z := (b k l0 l1).move (M' := M4) (s' := 76 + 25 * k) (F _ _ (by omega) (by omega) (by omega) (by omega) (by omega) (by omega) (by omega) (by omega)) (F _ _ (by omega) (by omega) (by omega) (by omega) (by omega) (by omega) (by omega) (by omega)) (F _ _ (by omega) (by omega) (by omega) (by omega) (by omega) (by omega) (by omega) (by omega)) (fun p _ _ => F _ _ (by omega) (by omega) (by omega) (by omega) (by omega) (by omega) (by omega) (by omega)) (fun p _ _ => F _ _ (by omega) (by omega) (by omega) (by omega) (by omega) (by omega) (by omega) (by omega)) (fun p _ _ => F _ _ (by omega) (by omega) (by omega) (by omega) (by omega) (by omega) (by omega) (by omega))
      obtain ⟨z1, z2⟩ := z
      exact ⟨by omega, z2⟩
    · rw [f4 _ 0 (by omega) (by omega) (by omega), a4 _ 0 (by omega) (by omega), f2 _ 0 (by omega) (by omega)]
      by_cases e2 : r = i
      · rw [e2, k6.1]
        have : m0 16 0 ≤ n := s1
        omega
      · rw [k3 _ 0 (by omega) (by omega)]
        have := (c r r0 r1).1
        omega
    · have e4 : ∀ p : Int, M4 (176 + 8 * r + 5) p = M1 (176 + 8 * r + 5) p := fun p => by rw [f4 _ p (by omega) (by omega) (by omega), a4 _ p (by omega) (by omega), f2 _ p (by omega) (by omega)]
      by_cases e2 : r = i
      · refine s4.move (fun p p0 p1 => ?_)
        rw [e4, e2, show 176 + 8 * i + 5 = 181 + 8 * i by omega]
        exact (k8 p p0 p1).2.1
      · refine (c r r0 r1).2.move (fun p p0 p1 => ?_)
        rw [e4, k3 _ p (by omega) (by omega)]
    · refine d.move rw.1.1.2 (fun p q => G p (by omega))
    · rw [F 357 k (by first | decide | exact fun z => absurd z.1 (by decide) | exact ⟨fun z => absurd z.1 (by decide), fun z => absurd z.1 (by decide)⟩ | omega) (by first | decide | exact fun z => absurd z.1 (by decide) | exact ⟨fun z => absurd z.1 (by decide), fun z => absurd z.1 (by decide)⟩ | omega) (by first | decide | exact fun z => absurd z.1 (by decide) | exact ⟨fun z => absurd z.1 (by decide), fun z => absurd z.1 (by decide)⟩ | omega) (by first | decide | exact fun z => absurd z.1 (by decide) | exact ⟨fun z => absurd z.1 (by decide), fun z => absurd z.1 (by decide)⟩ | omega) (by first | decide | exact fun z => absurd z.1 (by decide) | exact ⟨fun z => absurd z.1 (by decide), fun z => absurd z.1 (by decide)⟩ | omega) (by first | decide | exact fun z => absurd z.1 (by decide) | exact ⟨fun z => absurd z.1 (by decide), fun z => absurd z.1 (by decide)⟩ | omega) (by first | decide | exact fun z => absurd z.1 (by decide) | exact ⟨fun z => absurd z.1 (by decide), fun z => absurd z.1 (by decide)⟩ | omega) (by first | decide | exact fun z => absurd z.1 (by decide) | exact ⟨fun z => absurd z.1 (by decide), fun z => absurd z.1 (by decide)⟩ | omega), show iD M4 k = iD m0 k from funext (fun p => F 354 _ (by first | decide | exact fun z => absurd z.1 (by decide) | exact ⟨fun z => absurd z.1 (by decide), fun z => absurd z.1 (by decide)⟩ | omega) (by first | decide | exact fun z => absurd z.1 (by decide) | exact ⟨fun z => absurd z.1 (by decide), fun z => absurd z.1 (by decide)⟩ | omega) (by first | decide | exact fun z => absurd z.1 (by decide) | exact ⟨fun z => absurd z.1 (by decide), fun z => absurd z.1 (by decide)⟩ | omega) (by first | decide | exact fun z => absurd z.1 (by decide) | exact ⟨fun z => absurd z.1 (by decide), fun z => absurd z.1 (by decide)⟩ | omega) (by first | decide | exact fun z => absurd z.1 (by decide) | exact ⟨fun z => absurd z.1 (by decide), fun z => absurd z.1 (by decide)⟩ | omega) (by first | decide | exact fun z => absurd z.1 (by decide) | exact ⟨fun z => absurd z.1 (by decide), fun z => absurd z.1 (by decide)⟩ | omega) (by first | decide | exact fun z => absurd z.1 (by decide) | exact ⟨fun z => absurd z.1 (by decide), fun z => absurd z.1 (by decide)⟩ | omega) (by first | decide | exact fun z => absurd z.1 (by decide) | exact ⟨fun z => absurd z.1 (by decide), fun z => absurd z.1 (by decide)⟩ | omega))]
      exact e k l0 l1
    · rw [F 55 2 (by first | decide | exact fun z => absurd z.1 (by decide) | exact ⟨fun z => absurd z.1 (by decide), fun z => absurd z.1 (by decide)⟩ | omega) (by first | decide | exact fun z => absurd z.1 (by decide) | exact ⟨fun z => absurd z.1 (by decide), fun z => absurd z.1 (by decide)⟩ | omega) (by first | decide | exact fun z => absurd z.1 (by decide) | exact ⟨fun z => absurd z.1 (by decide), fun z => absurd z.1 (by decide)⟩ | omega) (by first | decide | exact fun z => absurd z.1 (by decide) | exact ⟨fun z => absurd z.1 (by decide), fun z => absurd z.1 (by decide)⟩ | omega) (by first | decide | exact fun z => absurd z.1 (by decide) | exact ⟨fun z => absurd z.1 (by decide), fun z => absurd z.1 (by decide)⟩ | omega) (by first | decide | exact fun z => absurd z.1 (by decide) | exact ⟨fun z => absurd z.1 (by decide), fun z => absurd z.1 (by decide)⟩ | omega) (by first | decide | exact fun z => absurd z.1 (by decide) | exact ⟨fun z => absurd z.1 (by decide), fun z => absurd z.1 (by decide)⟩ | omega) (by first | decide | exact fun z => absurd z.1 (by decide) | exact ⟨fun z => absurd z.1 (by decide), fun z => absurd z.1 (by decide)⟩ | omega), F 336 23 (by first | decide | exact fun z => absurd z.1 (by decide) | exact ⟨fun z => absurd z.1 (by decide), fun z => absurd z.1 (by decide)⟩ | omega) (by first | decide | exact fun z => absurd z.1 (by decide) | exact ⟨fun z => absurd z.1 (by decide), fun z => absurd z.1 (by decide)⟩ | omega) (by first | decide | exact fun z => absurd z.1 (by decide) | exact ⟨fun z => absurd z.1 (by decide), fun z => absurd z.1 (by decide)⟩ | omega) (by first | decide | exact fun z => absurd z.1 (by decide) | exact ⟨fun z => absurd z.1 (by decide), fun z => absurd z.1 (by decide)⟩ | omega) (by first | decide | exact fun z => absurd z.1 (by decide) | exact ⟨fun z => absurd z.1 (by decide), fun z => absurd z.1 (by decide)⟩ | omega) (by first | decide | exact fun z => absurd z.1 (by decide) | exact ⟨fun z => absurd z.1 (by decide), fun z => absurd z.1 (by decide)⟩ | omega) (by first | decide | exact fun z => absurd z.1 (by decide) | exact ⟨fun z => absurd z.1 (by decide), fun z => absurd z.1 (by decide)⟩ | omega) (by first | decide | exact fun z => absurd z.1 (by decide) | exact ⟨fun z => absurd z.1 (by decide), fun z => absurd z.1 (by decide)⟩ | omega)]
      exact f
