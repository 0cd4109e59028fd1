theorem PLi.same {X M M1 : Mm} (h : PLi X M) (hs : ∀ c p : Int, (c = 346 ∨ c = 347 ∨ c = 348 ∨ c = 354 ∨ (c = 336 ∧ p = 25)) → M1 c p = M c p) : PLi X M1 := by
  have e6 : M1 346 = M 346 := funext (fun p => hs 346 p (by omega))
  have e7 : M1 347 = M 347 := funext (fun p => hs 347 p (by omega))
  have e8 : M1 348 = M 348 := funext (fun p => hs 348 p (by omega))
  have e4 : M1 354 = M 354 := funext (fun p => hs 354 p (by omega))
  have e5 : M1 336 25 = M 336 25 := hs 336 25 (by omega)
  unfold PLi at h ⊢
  rw [e6, e7, e8, e4, e5]
  exact h
