theorem start_J {S : Sh} {M : Mm} (s : Sp 358 S) (m : Mp 358 (fun _ _ => False) M) : Shp S ∧ JX S M := by
  have e : ∀ c p : Nat, c < 358 → p < pT.getD c 0 → M c p = ini c p := fun c p hc hp => (m c p hc hp).resolve_left (fun z => z)
  have z46 : ∀ p : Int, 0 ≤ p → p < 158 → M 346 p = 0 := by
    intro p p0 p1
    have q := e 346 p.toNat (by decide) (by rw [pT_said.1]; omega)
    rw [Int.toNat_of_nonneg p0, ini_u iT_st.1] at q
    exact q
  have z54 : ∀ p : Int, 0 ≤ p → p < 632 → M 354 p = 0 := by
    intro p p0 p1
    have q := e 354 p.toNat (by decide) (by rw [pT_said.2.2.1]; omega)
    rw [Int.toNat_of_nonneg p0, ini_u iT_st.2.1] at q
    exact q
  have z57 : ∀ p : Int, 0 ≤ p → p < 4 → M 357 p = 0 := by
    intro p p0 p1
    have q := e 357 p.toNat (by decide) (by rw [pT_st.2.1]; omega)
    rw [Int.toNat_of_nonneg p0, ini_u iT_st.2.2.1] at q
    exact q
  have z56 : ∀ p : Int, 0 ≤ p → p < 4 → M 356 p = 0 := by
    intro p p0 p1
    have q := e 356 p.toNat (by decide) (by rw [pT_st.2.2.1]; omega)
    rw [Int.toNat_of_nonneg p0, ini_u iT_st.2.2.2.1] at q
    exact q
  have z30 : ∀ p : Int, 0 ≤ p → p < 6 → M 30 p = -2 := by
    intro p p0 p1
    have q := e 30 p.toNat (by decide) (by rw [pT_st.2.2.2.1]; omega)
    rw [Int.toNat_of_nonneg p0, ini_u iT_st.2.2.2.2] at q
    exact q
  have g : ∀ (c p : Nat) (v : Int), c < 358 → p < pT.getD c 0 → ini c p = v → M c p = v := fun c p v hc hp hv => (e c p hc hp).trans hv
  have r2 : M 336 2 = 0 := g 336 2 0 (by decide) (by decide +kernel) (by decide +kernel)
  have r21 : M 336 21 = -1 := g 336 21 (-1) (by decide) (by decide +kernel) (by decide +kernel)
  have r25 : M 336 25 = 0 := g 336 25 0 (by decide) (by decide +kernel) (by decide +kernel)
  have r22 : M 336 22 = 0 := g 336 22 0 (by decide) (by decide +kernel) (by decide +kernel)
  refine ⟨⟨by rw [s.1]; decide, s.2⟩, ⟨fun c p hc hp => ?_, fun i i0 i1 => Or.inl (z30 i i0 i1), Or.inl (g 55 1 (-2) (by decide) (by decide +kernel) (by decide +kernel)), ?_, ?_⟩, Xr.mk ?_ (fun k k0 k1 => ?_), Ya.mk ⟨?_, fun p p0 p1 => ?_, ?_⟩ ?_ (fun k k0 k1 => Or.inl (z57 k k0 (by omega)))⟩
  · rw [e c p hc hp]
    exact ini_bd hc
  · unfold Good
    rw [r2, r21]
    exact ⟨by decide, fun k k0 k1 => Or.inl (z57 k k0 k1), by decide, fun t t0 t1 => absurd t1 (by omega)⟩
  · refine ⟨⟨fun a a0 a1 => ?_, fun a a0 a1 => ?_⟩, fun r r0 r1 => ?_, fun k k0 k1 => ⟨fun a a0 a1 => ?_, fun a a0 a1 => ?_⟩⟩
    · rw [z46 4 (by decide) (by decide)] at a1
      omega
    · rw [z46 5 (by decide) (by decide)] at a1
      omega
    · rw [r25] at r1
      omega
    · rw [z54 _ (by omega) (by omega)] at a1
      omega
    · rw [z54 _ (by omega) (by omega)] at a1
      omega
  · rw [r22]
    exact g 3 3 0 (by decide) (by decide +kernel) (by decide +kernel)
  · rw [z56 k k0 (by omega), z57 k k0 (by omega)]
    rcases (show k = 0 ∨ k = 1 ∨ k = 2 ∨ k = 3 by omega) with e | e | e | e <;> subst e
    · exact ⟨g 76 3 0 (by decide) (by decide +kernel) (by decide +kernel), g 76 9 0 (by decide) (by decide +kernel) (by decide +kernel)⟩
    · exact ⟨g 101 3 0 (by decide) (by decide +kernel) (by decide +kernel), g 101 9 0 (by decide) (by decide +kernel) (by decide +kernel)⟩
    · exact ⟨g 126 3 0 (by decide) (by decide +kernel) (by decide +kernel), g 126 9 0 (by decide) (by decide +kernel) (by decide +kernel)⟩
    · exact ⟨g 151 3 0 (by decide) (by decide +kernel) (by decide +kernel), g 151 9 0 (by decide) (by decide +kernel) (by decide +kernel)⟩
  · exact (g 1 1 0 (by decide) (by decide +kernel) (by decide +kernel)).trans (g 336 1 0 (by decide) (by decide +kernel) (by decide +kernel)).symm
  · have q := e 2 p.toNat (by decide) (by rw [iT_tp.2.2.1]; omega)
    rw [Int.toNat_of_nonneg p0, ini_u iT_tp.1] at q
    have q2 := e 337 p.toNat (by decide) (by rw [iT_tp.2.2.2]; omega)
    rw [Int.toNat_of_nonneg p0, ini_u iT_tp.2.1] at q2
    exact q.trans q2.symm
  · rw [r2]
    exact g 0 7 0 (by decide) (by decide +kernel) (by decide +kernel)
  · rw [r21]
    exact g 3 2 (-1) (by decide) (by decide +kernel) (by decide +kernel)
