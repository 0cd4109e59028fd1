theorem Lk.fault {b : Int → Int} {n : Int} {T : Int → Prop} {M : Mm} {m k q f : Int} {st : List Bool} (h : Lk b n T M m st k) (hs : Sk b n (M 1 2) q) (hp : stp b n (Acc b n) m q (M 52 3) st k f) : T f := h.1 f (a_step hs hp)
theorem ze_refuse0 {X : Mm} {S : Sh} {m0 : Mm} {K : Int → Mm → Prop} {q u : Int} {T : Int → Prop} (hS : Shp S) (hm0 : Inv X S m0) (h4 : m0 1 4 = 0) (h3 : m0 1 3 = q) (q0 : 0 ≤ q) (u0 : 0 ≤ u) (u1 : u ≤ 4) (hT : T (1 + 8 * q + u)) (hf : ∀ M1 : Mm, Inv X S M1 → T (M1 1 4) → ¬ M1 1 4 = 0 → K 0 M1) : isK S 1 7 ∧ wp_X7_refuse S m0 1 u (fun v M => (v = 0 ∨ v = 1) ∧ K v M) := by
  refine ⟨hS.k1, ?_⟩
  refine ze_refuse hS hm0 u0 u1 (fun m2 hm2 f2 y2 => ?_)
  have y3 : m2 1 4 = 1 + 8 * q + u := by omega
  refine ⟨by decide, hf m2 hm2 ?_ (by omega)⟩
  rw [y3]
  exact hT
