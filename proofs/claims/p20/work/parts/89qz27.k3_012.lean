theorem Lx.to {b : Int → Int} {n : Int} {T : Int → List Int → Prop} {O0 R0 : List Int} {M M1 : Mm} {m m' k k' q p c : Int} {W V W' V' : List Int} (h : Lx b n T O0 R0 M m W V k) (hs : Sk b n (M 336 8) q) (e8 : M1 336 8 = p) (e12 : M1 336 12 = c) (e9 : M1 336 9 = M 336 9) (hn : p ≤ n) (hp : ∀ (f : Int) (E : List Int), Bcc b n m' p c [] (O0 ++ W') k' f E → bst b n (Bcc b n) m q (M 336 12) [] (O0 ++ W) k f E) (hr : RQ M1 (R0 ++ V')) : Lx b n T O0 R0 M1 m' W' V' k' := by
  refine ⟨fun f E hA => h.1 f E (b_step hs (hp f E ?_)), e9.trans h.2.1, by omega, hr⟩
  rw [e8, e12] at hA
  exact hA
