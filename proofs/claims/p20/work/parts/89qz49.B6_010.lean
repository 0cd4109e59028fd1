theorem zs_in {S : Sh} {m : Mm} {K : Int → Mm → Prop} {v a b : Int} (h1 : a ≤ v ∧ v ≤ b → K 1 m) (h0 : ¬ (a ≤ v ∧ v ≤ b) → K 0 m) : wp_X12_in S m v a b K := by
  refine u_X12_in ?_
  refine g_cmpx (fun c1 e1 => ?_)
  refine g_if (fun w => g_C ⟨by decide, h0 (by omega)⟩) (fun w => ?_)
  refine g_cmpx (fun c2 e2 => ?_)
  exact g_if (fun w2 => g_C ⟨by decide, h0 (by omega)⟩) (fun w2 => g_C ⟨by decide, h1 (by omega)⟩)
