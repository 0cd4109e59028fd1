theorem Tbl.same {M M1 : Mm} {t : Int} : ∀ (l : List Cz) (i a : Int), (∀ p : Int, p < 48 * t + 4 * (i + (l.length : Int)) → M1 340 p = M 340 p) → Tbl M t i a l → Tbl M1 t i a l := by
  intro l
  induction l with
  | nil => intro i a _ _; exact trivial
  | cons c l ih =>
    intro i a h z
    rw [List.length_cons] at h
    refine ⟨?_, ih (i + 1) _ (fun p hp => h p (by omega)) z.2⟩
    refine ⟨z.1.1, ?_⟩
    have z1 := z.1.2
    unfold Ent at z1 ⊢
    rw [h _ (by omega), h _ (by omega), h _ (by omega), h _ (by omega)]
    exact z1
