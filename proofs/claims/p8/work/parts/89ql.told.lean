section
/-! what is told, held by a Told at cell u as the row D says -/
def TLr (u : Int) (D : Dd) (M : Mm) : Prop := ∀ a c : Int, 0 ≤ a → a ≤ 5 → 0 ≤ c → c ≤ 5 → (M (u + 1) (6 * a + c) = 0 ∧ ¬ Rt D a c) ∨ (1 ≤ M (u + 1) (6 * a + c) ∧ ∃ k : Int, 0 ≤ k ∧ k < D 3 ∧ ((D (57 + 3 * k) = a ∧ D (57 + 3 * k + 1) = c) ∨ (D (57 + 3 * k) = c ∧ D (57 + 3 * k + 1) = a)) ∧ M (u + 1) (6 * a + c) = D (57 + 3 * k + 2))
def TLc (u : Int) (D : Dd) (M : Mm) : Prop := M u 0 = D 0 ∧ M u 1 = D 1 ∧ M u 2 = D 2 ∧ M u 3 = D 3 ∧ M u 4 = D 4 ∧ M u 5 = D 5 ∧ M u 6 = D 9 ∧ M u 7 = D 6
def TLh (u : Int) (D : Dd) (M : Mm) : Prop := ∀ i : Int, 0 ≤ i → i < D 4 → M (u + 3) i = D (10 + 5 * i + 3) ∧ M (u + 4) i = D (10 + 5 * i + 4)
def TLt (u : Int) (D : Dd) (M : Mm) : Prop := ∀ i : Int, 0 ≤ i → i < D 9 → M (u + 5) i = D (81 + 3 * i) ∧ M (u + 6) i = D (81 + 3 * i + 1) ∧ M (u + 7) i = D (81 + 3 * i + 2)
def TLw (u : Int) (D : Dd) (M : Mm) : Prop := ∀ i : Int, 0 ≤ i → i < D 6 → M (u + 8) i = D (93 + 4 * i) ∧ M (u + 9) i = D (93 + 4 * i + 1) ∧ M (u + 10) i = D (93 + 4 * i + 2) ∧ M (u + 11) i = D (93 + 4 * i + 3)
def TL (u : Int) (D : Dd) (M : Mm) : Prop := TLc u D M ∧ TLr u D M ∧ TLh u D M ∧ TLt u D M ∧ TLw u D M
theorem LC.told {X : Mm} {S : Sh} {D : Dd} {m m' : Mm} (h : LC D m) (hm : Inv X S m) (c : ∀ i : Int, 0 ≤ i → i ≤ 7 → m' 4 i = m 32 i) (r : ∀ p : Int, 0 ≤ p → p < 36 → m' 5 p = m 33 p) (s : ∀ p : Int, 0 ≤ p → p < 5 → m' 7 p = m 35 p ∧ m' 8 p = m 36 p) (t : ∀ p : Int, 0 ≤ p → p < 4 → m' 9 p = m 37 p ∧ m' 10 p = m 38 p ∧ m' 11 p = m 39 p) (w : ∀ p : Int, 0 ≤ p → p < 6 → m' 12 p = m 40 p ∧ m' 13 p = m 41 p ∧ m' 14 p = m 42 p ∧ m' 15 p = m 43 p) : TL 4 D m' := by
  have b4 := hm.f_32_4
  have b6 := hm.f_32_6
  have b7 := hm.f_32_7
  obtain ⟨⟨q0, q1, q2, q3, q4, q5, q6, q7⟩, lr, lh, lj, lt, lw, ls⟩ := h
  refine ⟨⟨?_, ?_, ?_, ?_, ?_, ?_, ?_, ?_⟩, fun a e a0 a1 e0 e1 => ?_, fun i i0 i1 => ?_, fun i i0 i1 => ?_, fun i i0 i1 => ?_⟩
  · rw [c 0 (by decide) (by decide)]; exact q0
  · rw [c 1 (by decide) (by decide)]; exact q1
  · rw [c 2 (by decide) (by decide)]; exact q2
  · rw [c 3 (by decide) (by decide)]; exact q3
  · rw [c 4 (by decide) (by decide)]; exact q4
  · rw [c 5 (by decide) (by decide)]; exact q5
  · rw [c 6 (by decide) (by decide)]; exact q6
  · rw [c 7 (by decide) (by decide)]; exact q7
  · rw [show (4 : Int) + 1 = 5 from rfl, r _ (by omega) (by omega)]
    exact lr a e a0 a1 e0 e1
  · rw [show (4 : Int) + 3 = 7 from rfl, show (4 : Int) + 4 = 8 from rfl, (s i i0 (by omega)).1, (s i i0 (by omega)).2]
    have z := lh i i0 i1
    exact ⟨z.2.1, z.2.2⟩
  · rw [show (4 : Int) + 5 = 9 from rfl, show (4 : Int) + 6 = 10 from rfl, show (4 : Int) + 7 = 11 from rfl, (t i i0 (by omega)).1, (t i i0 (by omega)).2.1, (t i i0 (by omega)).2.2]
    exact lt i i0 i1
  · rw [show (4 : Int) + 8 = 12 from rfl, show (4 : Int) + 9 = 13 from rfl, show (4 : Int) + 10 = 14 from rfl, show (4 : Int) + 11 = 15 from rfl, (w i i0 (by omega)).1, (w i i0 (by omega)).2.1, (w i i0 (by omega)).2.2.1, (w i i0 (by omega)).2.2.2]
    exact lw i i0 i1
end
section
/-! rows a combinator: what follows may be made weaker -/
theorem m_C {v : Int} {K K' : Int → Prop} (h : wC v K) (k : K v → K' v) : wC v K' := k h
theorem m_A {a b : Int} {K K' : Int → Prop} (h : wA a b K) (k : ∀ v, K v → K' v) : wA a b K' := k _ h
theorem m_S {a b : Int} {K K' : Int → Prop} (h : wS a b K) (k : ∀ v, K v → K' v) : wS a b K' := k _ h
theorem m_M {a b : Int} {K K' : Int → Prop} (h : wM a b K) (k : ∀ v, K v → K' v) : wM a b K' := k _ h
theorem m_O {g : Int → Int → Int} {a b : Int} {K K' : Int → Prop} (h : wO g a b K) (k : ∀ v, K v → K' v) : wO g a b K' := k _ h
theorem m_O1 {g : Int → Int} {a : Int} {K K' : Int → Prop} (h : wO1 g a K) (k : ∀ v, K v → K' v) : wO1 g a K' := k _ h
theorem m_D {g : Int → Int → Int} {a b : Int} {K K' : Int → Prop} (h : wD g a b K) (k : ∀ v, K v → K' v) : wD g a b K' := ⟨h.1, k _ h.2⟩
theorem m_LA {a b : Int} {K K' : Int → Prop} (h : wLA a b K) (k : ∀ v, K v → K' v) : wLA a b K' := k _ h
theorem m_LS {a b : Int} {K K' : Int → Prop} (h : wLS a b K) (k : ∀ v, K v → K' v) : wLS a b K' := k _ h
theorem m_LM {a b : Int} {K K' : Int → Prop} (h : wLM a b K) (k : ∀ v, K v → K' v) : wLM a b K' := k _ h
theorem m_Cmp {a b : Int} {K K' : Int → Prop} (h : wCmp a b K) (k : ∀ v, K v → K' v) : wCmp a b K' := k _ h
theorem m_if {c A B A' B' : Prop} (h : wIf c A B) (ka : A → A') (kb : B → B') : wIf c A' B' := ⟨fun q => ka (h.1 q), fun q => kb (h.2 q)⟩
theorem m_and {A B B' : Prop} (h : A ∧ B) (k : B → B') : A ∧ B' := ⟨h.1, k h.2⟩
theorem m_ex {A B : Nat → Prop} (h : ∃ n, A n) (k : ∀ n, A n → B n) : ∃ n, B n := by
  obtain ⟨n, h⟩ := h
  exact ⟨n, k n h⟩
theorem m_Get {S : Sh} {M : Mm} {x : Int} {ci j : Nat} {K K' : Int → Prop} (h : wGet S M x ci j K) (k : ∀ v, K v → K' v) : wGet S M x ci j K' := ⟨h.1, k _ h.2⟩
theorem m_GetR {S : Sh} {M : Mm} {x : Int} {ci j : Nat} {K K' : Int → Prop} (h : wGetR S M x ci j K) (k : ∀ v, K v → K' v) : wGetR S M x ci j K' := ⟨h.1, h.2.1, k _ h.2.2⟩
theorem m_gr {S : Sh} {M : Mm} {x r : Int} {ci j : Nat} {K K' : Int → Prop} (e : M x j = r) (h : wGetR S M x ci j K) (k : K r → K' r) : wGetR S M x ci j K' := by
  subst e
  exact ⟨h.1, h.2.1, k h.2.2⟩
theorem m_Ld {S : Sh} {M : Mm} {x i : Int} {ci : Nat} {K K' : Int → Prop} (h : wLd S M x ci i K) (k : ∀ v, K v → K' v) : wLd S M x ci i K' := ⟨h.1, h.2.1, k _ h.2.2⟩
theorem m_Len {S : Sh} {x : Int} {ci : Nat} {K K' : Int → Prop} (h : wLen S x ci K) (k : ∀ v, K v → K' v) : wLen S x ci K' := h.elim (fun q => Or.inl ⟨q.1, k _ q.2⟩) (fun q => Or.inr ⟨q.1, q.2.1, k _ q.2.2⟩)
theorem m_Slen {x : Int} {K K' : Int → Prop} (h : wSlen x K) (k : ∀ v, K v → K' v) : wSlen x K' := by
  obtain ⟨j, a, b, c⟩ := h
  exact ⟨j, a, b, k _ c⟩
theorem m_Sch {x i : Int} {K K' : Int → Prop} (h : wSch x i K) (k : ∀ v, K v → K' v) : wSch x i K' := by
  obtain ⟨j, a, b, c, d, e⟩ := h
  exact ⟨j, a, b, c, d, k _ e⟩
theorem m_Put {S : Sh} {M : Mm} {x v : Int} {ci j : Nat} {F : Mm → Prop} {K K' : Mm → Prop} (f : F (up M x j v)) (h : wPut S M x ci j v K) (k : ∀ m, F m → K m → K' m) : wPut S M x ci j v K' := ⟨h.1, k _ f h.2⟩
theorem m_St {S : Sh} {M : Mm} {x i v : Int} {ci : Nat} {F : Mm → Prop} {K K' : Mm → Prop} (f : F (up M x i v)) (h : wSt S M x ci i v K) (k : ∀ m, F m → K m → K' m) : wSt S M x ci i v K' := ⟨h.1, h.2.1, k _ f h.2.2⟩
theorem m_Cpy {S : Sh} {M : Mm} {x sp y dp n : Int} {F : Mm → Prop} {K K' : Mm → Prop} (f : F (cpM M x sp y dp n)) (h : wCpy S M x sp y dp n K) (k : ∀ m, F m → K m → K' m) : wCpy S M x sp y dp n K' := ⟨h.1, h.2.1, h.2.2.1, k _ f h.2.2.2⟩
end
