theorem DA.wf {b : Int → Int} {n : Int} {D E : Dd} (h : DA b n 0 0 0 0 0 D 0 E) (h0 : ∀ p : Int, 0 ≤ p → p < 10 → D p = 0) : WD E := by
  obtain ⟨N, h⟩ := h
  have z : ∀ p : Int, 0 ≤ p → p < 10 → D p = 0 := h0
  refine da_wf N 0 0 0 0 0 D 0 E h rfl ⟨⟨z 7 (by decide) (by decide), z 8 (by decide) (by decide)⟩, fun i i0 i1 => ?_, fun i i0 i1 => ?_, fun i i0 i1 => ?_, fun k l k0 k1 => ?_, ?_⟩ (fun y => absurd y (by decide))
  · rw [z 4 (by decide) (by decide)] at i1; omega
  · rw [z 5 (by decide) (by decide)] at i1; omega
  · rw [z 6 (by decide) (by decide)] at i1; omega
  · rw [z 3 (by decide) (by decide)] at k1; omega
  · rw [z 3 (by decide) (by decide), z 4 (by decide) (by decide), z 5 (by decide) (by decide), z 6 (by decide) (by decide), z 9 (by decide) (by decide)]
    decide
