/-! the class's rule reader, held against Acc -/
theorem Acc.back {b : Int → Int} {n m p q c : Int} {st : List Bool} {k f : Int} (hs : Sk b n p q) (h : Acc b n m q c st k f) : Acc b n m p c st k f := by
  obtain ⟨N, h⟩ := h
  cases N with
  | zero => exact h.elim
  | succ N =>
    obtain ⟨r, hr, h⟩ := h
    have e := hr.uniq hs.idem
    subst e
    exact ⟨N + 1, r, hs, h⟩
/-- the class has come so far: T is how it must end -/
def Lk (b : Int → Int) (n : Int) (T : Int → Prop) (M : Mm) (m : Int) (st : List Bool) (k : Int) : Prop := (∀ f : Int, Acc b n m (M 1 2) (M 52 3) st k f → T f) ∧ M 1 4 = 0 ∧ M 1 2 ≤ n ∧ M 52 2 + M 52 5 + 2 ≤ M 1 2 ∧ M 52 3 ≤ 60 ∧ st.length ≤ 10 ∧ CP M st ∧ M 52 7 = cnt st
theorem Lk.move {b : Int → Int} {n : Int} {T : Int → Prop} {M M1 : Mm} {m k q : Int} {st : List Bool} (h : Lk b n T M m st k) (f : ∀ c p : Int, ¬ (c = 1 ∧ 2 ≤ p ∧ p ≤ 3) → M1 c p = M c p) (hs : Sk b n (M 1 2) q) (hq : M1 1 2 = q) (hn : q ≤ n) : Lk b n T M1 m st k := by
  obtain ⟨h1, h2, h3, h4, h5, h6, h7, h8⟩ := h
  refine ⟨fun g z => h1 g ?_, (f 1 4 (by omega)).trans h2, by omega, ?_, by rw [f 52 3 (by omega)]; exact h5, h6, h7.same (f 52 5 (by omega)) (f 52 6 (by omega)) (fun p => f 54 p (by omega)), (f 52 7 (by omega)).trans h8⟩
  · rw [hq, f 52 3 (by omega)] at z
    exact Acc.back hs z
  · rw [f 52 2 (by omega), f 52 5 (by omega)]
    have := hs.1
    omega
theorem vws_t : ∀ i : Nat, i < 10 → vws.getD i 0 < 17 := by decide
