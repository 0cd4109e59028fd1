theorem SR.mv {M M' : Mm} {u u' : Int} {D D' : Int → Int} (h : SR M u D) (b4 : D 4 ≤ 5) (b5 : D 5 ≤ 4) (b5' : 0 ≤ D 5) (b6 : D 6 ≤ 6) (h0 : ∀ p : Int, 0 ≤ p → p < 2 → M' u' p = M u p) (hh : ∀ c p : Int, inS c p → M' (u' + c) p = M (u + c) p) (G : ∀ p : Int, 0 ≤ p → p < 57 → D' p = D p) : SR M' u' D' := by
  obtain ⟨⟨r1, r2⟩, r3, r4, r5, r6⟩ := h
  have g4 := G 4 (by omega) (by omega)
  have g5 := G 5 (by omega) (by omega)
  have g6 := G 6 (by omega) (by omega)
  refine ⟨⟨?_, ?_⟩, fun i i0 i1 => ?_, fun j j0 j1 => ?_, fun j j0 j1 => ?_, fun w w0 w1 => ?_⟩
  · rw [h0 0 (by omega) (by omega), G 7 (by omega) (by omega)]; exact r1
  · rw [h0 1 (by omega) (by omega), G 8 (by omega) (by omega)]; exact r2
  · rw [g4] at i1
    have q := r3 i i0 i1
    unfold SRh at q ⊢
    rw [hh 1 i (by omega), hh 2 i (by omega), hh 3 i (by omega), G (10 + 5 * i) (by omega) (by omega), G (10 + 5 * i + 1) (by omega) (by omega), G (10 + 5 * i + 2) (by omega) (by omega)]
    exact q
  · rw [g5] at j1
    have q := r4 j j0 j1
    unfold SRj at q ⊢
    rw [hh 4 j (by omega), hh 5 j (by omega), hh 6 j (by omega), G (35 + 4 * j) (by omega) (by omega), G (35 + 4 * j + 1) (by omega) (by omega), G (35 + 4 * j + 2) (by omega) (by omega), G (35 + 4 * j + 3) (by omega) (by omega), g4]
    exact q
  · rw [g5] at j0
    rw [hh 4 j (by omega), hh 5 j (by omega)]
    exact r5 j j0 j1
  · rw [g6] at w1
    rw [hh 7 w (by omega), G (51 + w) (by omega) (by omega)]
    exact r6 w w0 w1
