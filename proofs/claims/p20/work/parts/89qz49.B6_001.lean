theorem RZ.keep {S : Sh} {M M' : Mm} {n : Int} (h : RZ S M n) (j : JX S M') (F : ∀ c p : Int, KZ c p → M' c p = M c p) : RZ S M' n :=
  ⟨j, h.2.1.same (fun c p q => F c p (by unfold KZ; omega)), h.2.2.1.same (fun c p q => F c p (by unfold KZ; omega)), h.2.2.2.same (fun c p q => F c p (by unfold KZ; omega))⟩
