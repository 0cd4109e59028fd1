/-! rows a combinator: two ends of one run -/
theorem d_C {v : Int} {K1 K2 K3 : Int → Prop} (h : wC v K1) (g : wC v K2) (k : ∀ v, K1 v → K2 v → K3 v) : wC v K3 := k _ h g
theorem d_A {a b : Int} {K1 K2 K3 : Int → Prop} (h : wA a b K1) (g : wA a b K2) (k : ∀ v, K1 v → K2 v → K3 v) : wA a b K3 := k _ h g
theorem d_S {a b : Int} {K1 K2 K3 : Int → Prop} (h : wS a b K1) (g : wS a b K2) (k : ∀ v, K1 v → K2 v → K3 v) : wS a b K3 := k _ h g
theorem d_M {a b : Int} {K1 K2 K3 : Int → Prop} (h : wM a b K1) (g : wM a b K2) (k : ∀ v, K1 v → K2 v → K3 v) : wM a b K3 := k _ h g
theorem d_LA {a b : Int} {K1 K2 K3 : Int → Prop} (h : wLA a b K1) (g : wLA a b K2) (k : ∀ v, K1 v → K2 v → K3 v) : wLA a b K3 := k _ h g
theorem d_LS {a b : Int} {K1 K2 K3 : Int → Prop} (h : wLS a b K1) (g : wLS a b K2) (k : ∀ v, K1 v → K2 v → K3 v) : wLS a b K3 := k _ h g
theorem d_LM {a b : Int} {K1 K2 K3 : Int → Prop} (h : wLM a b K1) (g : wLM a b K2) (k : ∀ v, K1 v → K2 v → K3 v) : wLM a b K3 := k _ h g
theorem d_Cmp {a b : Int} {K1 K2 K3 : Int → Prop} (h : wCmp a b K1) (g : wCmp a b K2) (k : ∀ v, K1 v → K2 v → K3 v) : wCmp a b K3 := k _ h g
theorem d_O {f : Int → Int → Int} {a b : Int} {K1 K2 K3 : Int → Prop} (h : wO f a b K1) (g : wO f a b K2) (k : ∀ v, K1 v → K2 v → K3 v) : wO f a b K3 := k _ h g
theorem d_O1 {f : Int → Int} {a : Int} {K1 K2 K3 : Int → Prop} (h : wO1 f a K1) (g : wO1 f a K2) (k : ∀ v, K1 v → K2 v → K3 v) : wO1 f a K3 := k _ h g
theorem d_D {f : Int → Int → Int} {a b : Int} {K1 K2 K3 : Int → Prop} (h : wD f a b K1) (g : wD f a b K2) (k : ∀ v, K1 v → K2 v → K3 v) : wD f a b K3 := ⟨h.1, k _ h.2 g.2⟩
theorem d_if {c A B A1 B1 A2 B2 : Prop} (h : wIf c A B) (g : wIf c A1 B1) (ka : A → A1 → A2) (kb : B → B1 → B2) : wIf c A2 B2 := ⟨fun q => ka (h.1 q) (g.1 q), fun q => kb (h.2 q) (g.2 q)⟩
theorem d_and {A B B1 B2 : Prop} (h : A ∧ B) (g : A ∧ B1) (k : B → B1 → B2) : A ∧ B2 := ⟨h.1, k h.2 g.2⟩
theorem d_Get {S : Sh} {M : Mm} {x : Int} {ci j : Nat} {K1 K2 K3 : Int → Prop} (h : wGet S M x ci j K1) (g : wGet S M x ci j K2) (k : ∀ v, K1 v → K2 v → K3 v) : wGet S M x ci j K3 := ⟨h.1, k _ h.2 g.2⟩
theorem d_GetR {S : Sh} {M : Mm} {x : Int} {ci j : Nat} {K1 K2 K3 : Int → Prop} (h : wGetR S M x ci j K1) (g : wGetR S M x ci j K2) (k : ∀ v, K1 v → K2 v → K3 v) : wGetR S M x ci j K3 := ⟨h.1, h.2.1, k _ h.2.2 g.2.2⟩
theorem d_Ld {S : Sh} {M : Mm} {x i : Int} {ci : Nat} {K1 K2 K3 : Int → Prop} (h : wLd S M x ci i K1) (g : wLd S M x ci i K2) (k : ∀ v, K1 v → K2 v → K3 v) : wLd S M x ci i K3 := ⟨h.1, h.2.1, k _ h.2.2 g.2.2⟩
theorem d_LdR {S : Sh} {M : Mm} {x i : Int} {ci : Nat} {K1 K2 K3 : Int → Prop} (h : wLdR S M x ci i K1) (g : wLdR S M x ci i K2) (k : ∀ v, K1 v → K2 v → K3 v) : wLdR S M x ci i K3 := ⟨h.1, h.2.1, h.2.2.1, k _ h.2.2.2 g.2.2.2⟩
theorem d_Put {S : Sh} {M : Mm} {x v : Int} {ci j : Nat} {K1 K2 K3 : Mm → Prop} (h : wPut S M x ci j v K1) (g : wPut S M x ci j v K2) (k : ∀ v, K1 v → K2 v → K3 v) : wPut S M x ci j v K3 := ⟨h.1, k _ h.2 g.2⟩
theorem d_PutZ {S : Sh} {M : Mm} {x v : Int} {ci j : Nat} {K1 K2 K3 : Mm → Prop} (h : wPutZ S M x ci j v K1) (g : wPutZ S M x ci j v K2) (k : ∀ v, K1 v → K2 v → K3 v) : wPutZ S M x ci j v K3 := ⟨h.1, h.2.1, k _ h.2.2 g.2.2⟩
theorem d_PutR {S : Sh} {M : Mm} {x v : Int} {ci j : Nat} {K1 K2 K3 : Mm → Prop} (h : wPutR S M x ci j v K1) (g : wPutR S M x ci j v K2) (k : ∀ v, K1 v → K2 v → K3 v) : wPutR S M x ci j v K3 := ⟨h.1, h.2.1, k _ h.2.2 g.2.2⟩
theorem d_St {S : Sh} {M : Mm} {x i v : Int} {ci : Nat} {K1 K2 K3 : Mm → Prop} (h : wSt S M x ci i v K1) (g : wSt S M x ci i v K2) (k : ∀ v, K1 v → K2 v → K3 v) : wSt S M x ci i v K3 := ⟨h.1, h.2.1, k _ h.2.2 g.2.2⟩
theorem d_StB {S : Sh} {M : Mm} {x i v : Int} {ci : Nat} {K1 K2 K3 : Mm → Prop} (h : wStB S M x ci i v K1) (g : wStB S M x ci i v K2) (k : ∀ v, K1 v → K2 v → K3 v) : wStB S M x ci i v K3 := ⟨h.1, h.2.1, h.2.2.1, k _ h.2.2.2 g.2.2.2⟩
theorem d_StZ {S : Sh} {M : Mm} {x i v : Int} {ci : Nat} {K1 K2 K3 : Mm → Prop} (h : wStZ S M x ci i v K1) (g : wStZ S M x ci i v K2) (k : ∀ v, K1 v → K2 v → K3 v) : wStZ S M x ci i v K3 := ⟨h.1, h.2.1, h.2.2.1, k _ h.2.2.2 g.2.2.2⟩
theorem d_Cpy {S : Sh} {M : Mm} {x sp y dp n : Int} {K1 K2 K3 : Mm → Prop} (h : wCpy S M x sp y dp n K1) (g : wCpy S M x sp y dp n K2) (k : ∀ v, K1 v → K2 v → K3 v) : wCpy S M x sp y dp n K3 := ⟨h.1, h.2.1, h.2.2.1, k _ h.2.2.2 g.2.2.2⟩
theorem d_Len {S : Sh} {x : Int} {ci : Nat} {K1 K2 K3 : Int → Prop} (h : wLen S x ci K1) (g : wLen S x ci K2) (k : ∀ v, K1 v → K2 v → K3 v) : wLen S x ci K3 := by
  rcases h with h | h <;> rcases g with g | g
  · exact Or.inl ⟨h.1, k _ h.2 g.2⟩
  · exact absurd g.1.1 (by omega)
  · exact absurd h.1.1 (by omega)
  · exact Or.inr ⟨h.1, h.2.1, k _ h.2.2 g.2.2⟩
