theorem Lx.at {b : Int → Int} {n : Int} {T : Int → List Int → Prop} {O0 R0 : List Int} {M M1 : Mm} {m k q : Int} {W V : List Int} (h : Lx b n T O0 R0 M m W V k) (F : ∀ c p : Int, c = 338 ∨ c = 339 ∨ (c = 336 ∧ p = 11) → M1 c p = M c p) (hs : Sk b n (M 336 8) q) (e8 : M1 336 8 = q) (e12 : M1 336 12 = M 336 12) (e9 : M1 336 9 = M 336 9) (hn : q ≤ n) : Lx b n T O0 R0 M1 m W V k := by
  refine ⟨fun f E hA => h.1 f E (Bcc.back hs ?_), e9.trans h.2.1, by omega, h.2.2.2.same F⟩
  rw [e8, e12] at hA
  exact hA
