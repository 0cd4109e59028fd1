theorem PLi.put {X M : Mm} (h : PLi X M) {c p v : Int} (hc : ¬ (c = 348 ∨ c = 347 ∨ c = 354 ∨ (c = 336 ∧ p = 25))) (hv : c = 346 → (∀ a : Int, 0 ≤ a → a < X 346 4 → p = 10 + 5 * a → v < X 346 0) ∧ (∀ a : Int, 0 ≤ a → a < X 346 5 → p = 35 + 4 * a → v < X 346 0)) : PLi X (up M c p v) := by
  by_cases e : c = 346
  · have q := hv e
    subst e
    have e7 : up M 346 p v 347 = M 347 := funext (fun j => up_ne (by omega))
    have e8 : up M 346 p v 348 = M 348 := funext (fun j => up_ne (by omega))
    have e4 : up M 346 p v 354 = M 354 := funext (fun j => up_ne (by omega))
    have e5 : up M 346 p v 336 25 = M 336 25 := up_ne (by omega)
    unfold PLi at h ⊢
    rw [e7, e8, e4, e5]
    refine ⟨⟨fun a a1 a2 => ?_, fun a a1 a2 => ?_⟩, h.2⟩
    · by_cases z : 10 + 5 * a = p
      · rw [z, up_at]; exact q.1 a a1 a2 z.symm
      · rw [up_ne (fun y => z y.2)]; exact h.1.1 a a1 a2
    · by_cases z : 35 + 4 * a = p
      · rw [z, up_at]; exact q.2 a a1 a2 z.symm
      · rw [up_ne (fun y => z y.2)]; exact h.1.2 a a1 a2
  · exact h.same (fun c' p' h' => up_ne (by omega))
