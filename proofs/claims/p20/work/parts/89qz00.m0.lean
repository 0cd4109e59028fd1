/-! rows a combinator: what follows may be made weaker -/
theorem m_C {v : Int} {K K' : Int → Prop} (h : wC v K) (k : K v → K' v) : wC v K' := k h
theorem m_A {a b : Int} {K K' : Int → Prop} (h : wA a b K) (k : ∀ v, K v → K' v) : wA a b K' := k _ h
theorem m_S {a b : Int} {K K' : Int → Prop} (h : wS a b K) (k : ∀ v, K v → K' v) : wS a b K' := k _ h
theorem m_M {a b : Int} {K K' : Int → Prop} (h : wM a b K) (k : ∀ v, K v → K' v) : wM a b K' := k _ h
theorem m_O {g : Int → Int → Int} {a b : Int} {K K' : Int → Prop} (h : wO g a b K) (k : ∀ v, K v → K' v) : wO g a b K' := k _ h
theorem m_O1 {g : Int → Int} {a : Int} {K K' : Int → Prop} (h : wO1 g a K) (k : ∀ v, K v → K' v) : wO1 g a K' := k _ h
theorem m_D {g : Int → Int → Int} {a b : Int} {K K' : Int → Prop} (h : wD g a b K) (k : ∀ v, K v → K' v) : wD g a b K' := ⟨h.1, k _ h.2⟩
theorem m_LA {a b : Int} {K K' : Int → Prop} (h : wLA a b K) (k : ∀ v, K v → K' v) : wLA a b K' := k _ h
theorem m_LS {a b : Int} {K K' : Int → Prop} (h : wLS a b K) (k : ∀ v, K v → K' v) : wLS a b K' := k _ h
theorem m_LM {a b : Int} {K K' : Int → Prop} (h : wLM a b K) (k : ∀ v, K v → K' v) : wLM a b K' := k _ h
theorem m_Cmp {a b : Int} {K K' : Int → Prop} (h : wCmp a b K) (k : ∀ v, K v → K' v) : wCmp a b K' := k _ h
theorem m_if {c A B A' B' : Prop} (h : wIf c A B) (ka : A → A') (kb : B → B') : wIf c A' B' := ⟨fun q => ka (h.1 q), fun q => kb (h.2 q)⟩
theorem m_and {A B B' : Prop} (h : A ∧ B) (k : B → B') : A ∧ B' := ⟨h.1, k h.2⟩
theorem m_ex {A B : Nat → Prop} (h : ∃ n, A n) (k : ∀ n, A n → B n) : ∃ n, B n := by
  obtain ⟨n, h⟩ := h
  exact ⟨n, k n h⟩
theorem m_Get {S : Sh} {M : Mm} {x : Int} {ci j : Nat} {K K' : Int → Prop} (h : wGet S M x ci j K) (k : ∀ v, K v → K' v) : wGet S M x ci j K' := ⟨h.1, k _ h.2⟩
theorem m_GetR {S : Sh} {M : Mm} {x : Int} {ci j : Nat} {K K' : Int → Prop} (h : wGetR S M x ci j K) (k : ∀ v, K v → K' v) : wGetR S M x ci j K' := ⟨h.1, h.2.1, k _ h.2.2⟩
theorem m_gr {S : Sh} {M : Mm} {x r : Int} {ci j : Nat} {K K' : Int → Prop} (e : M x j = r) (h : wGetR S M x ci j K) (k : K r → K' r) : wGetR S M x ci j K' := by
  subst e
  exact ⟨h.1, h.2.1, k h.2.2⟩
theorem m_Ld {S : Sh} {M : Mm} {x i : Int} {ci : Nat} {K K' : Int → Prop} (h : wLd S M x ci i K) (k : ∀ v, K v → K' v) : wLd S M x ci i K' := ⟨h.1, h.2.1, k _ h.2.2⟩
theorem m_Len {S : Sh} {x : Int} {ci : Nat} {K K' : Int → Prop} (h : wLen S x ci K) (k : ∀ v, K v → K' v) : wLen S x ci K' := h.elim (fun q => Or.inl ⟨q.1, k _ q.2⟩) (fun q => Or.inr ⟨q.1, q.2.1, k _ q.2.2⟩)
theorem m_Slen {x : Int} {K K' : Int → Prop} (h : wSlen x K) (k : ∀ v, K v → K' v) : wSlen x K' := by
  obtain ⟨j, a, b, c⟩ := h
  exact ⟨j, a, b, k _ c⟩
theorem m_Sch {x i : Int} {K K' : Int → Prop} (h : wSch x i K) (k : ∀ v, K v → K' v) : wSch x i K' := by
  obtain ⟨j, a, b, c, d, e⟩ := h
  exact ⟨j, a, b, c, d, k _ e⟩
theorem m_Put {S : Sh} {M : Mm} {x v : Int} {ci j : Nat} {F : Mm → Prop} {K K' : Mm → Prop} (f : F (up M x j v)) (h : wPut S M x ci j v K) (k : ∀ m, F m → K m → K' m) : wPut S M x ci j v K' := ⟨h.1, k _ f h.2⟩
theorem m_St {S : Sh} {M : Mm} {x i v : Int} {ci : Nat} {F : Mm → Prop} {K K' : Mm → Prop} (f : F (up M x i v)) (h : wSt S M x ci i v K) (k : ∀ m, F m → K m → K' m) : wSt S M x ci i v K' := ⟨h.1, h.2.1, k _ f h.2.2⟩
theorem m_Cpy {S : Sh} {M : Mm} {x sp y dp n : Int} {F : Mm → Prop} {K K' : Mm → Prop} (f : F (cpM M x sp y dp n)) (h : wCpy S M x sp y dp n K) (k : ∀ m, F m → K m → K' m) : wCpy S M x sp y dp n K' := ⟨h.1, h.2.1, h.2.2.1, k _ f h.2.2.2⟩
