theorem zs_turned11 {S : Sh} {m : Mm} {K : Int → Mm → Prop} {u : Int} (h1 : 0 ≤ u ∧ u ≤ 999 → K 1 m) (h0 : ¬ (0 ≤ u ∧ u ≤ 999) → K 0 m) : wp_X11_isTurned S m u K := by
  refine u_X11_isTurned ?_
  refine g_if (fun w => g_C ⟨by decide, h0 (by omega)⟩) (fun w => ?_)
  refine g_C ?_
  exact g_if (fun w2 => g_C ⟨by decide, h0 (by omega)⟩) (fun w2 => g_C ⟨by decide, h1 (by omega)⟩)
