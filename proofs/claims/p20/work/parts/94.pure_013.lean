theorem start_R {S : Sh} {M : Mm} (s : Sp 358 S) (m : Mp 358 (fun _ _ => False) M) : Shp S ∧ RZ S M 0 := by
  obtain ⟨hS, hj⟩ := start_J s m
  have e : ∀ c p : Nat, c < 358 → p < pT.getD c 0 → M c p = ini c p := fun c p hc hp => (m c p hc hp).resolve_left (fun z => z)
  have g : ∀ (c p : Nat) (v : Int), c < 358 → p < pT.getD c 0 → ini c p = v → M c p = v := fun c p v hc hp hv => (e c p hc hp).trans hv
  have z46 : ∀ p : Int, 0 ≤ p → p < 158 → M 346 p = 0 := by
    intro p p0 p1
    have q := e 346 p.toNat (by decide) (by rw [pT_said.1]; omega)
    rw [Int.toNat_of_nonneg p0, ini_u iT_st.1] at q
    exact q
  have z57 : ∀ p : Int, 0 ≤ p → p < 4 → M 357 p = 0 := by
    intro p p0 p1
    have q := e 357 p.toNat (by decide) (by rw [pT_st.2.1]; omega)
    rw [Int.toNat_of_nonneg p0, ini_u iT_st.2.2.1] at q
    exact q
  have d3 := z46 3 (by decide) (by decide)
  have d4 := z46 4 (by decide) (by decide)
  have d5 := z46 5 (by decide) (by decide)
  have d6 := z46 6 (by decide) (by decide)
  have d9 := z46 9 (by decide) (by decide)
  have d157 := z46 157 (by decide) (by decide)
  have r2 : M 336 2 = 0 := g 336 2 0 (by decide) (by decide +kernel) (by decide +kernel)
  have r25 : M 336 25 = 0 := g 336 25 0 (by decide) (by decide +kernel) (by decide +kernel)
  have z16 : M 16 0 = 0 := g 16 0 0 (by decide) (by decide +kernel) (by decide +kernel)
  have z34 : M 3 4 = 0 := g 3 4 0 (by decide) (by decide +kernel) (by decide +kernel)
  have sl : ∀ p : Int, 0 ≤ p → p < 4 → M 20 p = -1 ∧ M 21 p = -1 := by
    intro p p0 p1
    have q := ck_sl p.toNat (by omega)
    have a := g 20 p.toNat (-1) (by decide) q.1.1 q.1.2
    have b := g 21 p.toNat (-1) (by decide) q.2.1 q.2.2
    rw [Int.toNat_of_nonneg p0] at a b
    exact ⟨a, b⟩
  have db : DB (M 346) := ⟨by omega, by omega, by omega, by omega, by omega⟩
  refine ⟨hS, hj, ⟨⟨⟨db, by omega⟩, ⟨⟨?_, ?_, ?_, ?_, ?_, ?_, ?_, ?_⟩, fun a c a0 a5 c0 c5 => ?_, fun i i0 i1 => absurd i1 (by omega), fun i i0 i1 => absurd i1 (by omega), fun i i0 i1 => absurd i1 (by omega)⟩, ⟨⟨?_, ?_⟩, fun i i0 i1 => absurd i1 (by omega), fun i i0 i1 => absurd i1 (by omega), fun j j0 j1 => sl j (by omega) j1, fun i i0 i1 => absurd i1 (by omega)⟩, ⟨?_, fun i i0 i1 => absurd i1 (by omega)⟩⟩, fun k k0 k1 => Or.inl (z57 k k0 (by omega)), ?_, fun r r0 r1 => absurd r1 (by omega)⟩, ⟨fun k k0 k1 => absurd k1 (by omega), ?_⟩, ⟨⟨?_, fun _ => z34, Wok.none (Int.le_of_eq (g 4 0 0 (by decide) (by decide +kernel) (by decide +kernel))), ?_⟩, fun k k0 k1 => ?_, fun r r0 r1 => ?_, fun k l k0 k1 => absurd k1 (by omega), fun k k0 k1 => Or.inl (z57 k k0 (by omega)), ?_, ?_⟩⟩
  · rw [z46 0 (by decide) (by decide)]; exact g 4 0 0 (by decide) (by decide +kernel) (by decide +kernel)
  · rw [z46 1 (by decide) (by decide)]; exact g 4 1 0 (by decide) (by decide +kernel) (by decide +kernel)
  · rw [z46 2 (by decide) (by decide)]; exact g 4 2 0 (by decide) (by decide +kernel) (by decide +kernel)
  · rw [d3]; exact g 4 3 0 (by decide) (by decide +kernel) (by decide +kernel)
  · rw [d4]; exact g 4 4 0 (by decide) (by decide +kernel) (by decide +kernel)
  · rw [d5]; exact g 4 5 0 (by decide) (by decide +kernel) (by decide +kernel)
  · rw [d9]; exact g 4 6 0 (by decide) (by decide +kernel) (by decide +kernel)
  · rw [d6]; exact g 4 7 0 (by decide) (by decide +kernel) (by decide +kernel)
  · refine Or.inl ⟨?_, fun z => ?_⟩
    · have q := ck_5 (6 * a + c).toNat (by omega)
      have b := g 5 (6 * a + c).toNat 0 (by decide) q.1 q.2
      rw [Int.toNat_of_nonneg (by omega)] at b
      exact b
    · obtain ⟨k, k0, k1, _⟩ := z
      omega
  · exact z16.trans (z46 7 (by decide) (by decide)).symm
  · rw [z46 8 (by decide) (by decide)]; exact g 16 1 0 (by decide) (by decide +kernel) (by decide +kernel)
  · rw [z34, d157]
  · rw [r25]; exact g 0 5 0 (by decide) (by decide +kernel) (by decide +kernel)
  · have a : M 3 2 = -1 := g 3 2 (-1) (by decide) (by decide +kernel) (by decide +kernel)
    have b : M 55 1 = -2 := g 55 1 (-2) (by decide) (by decide +kernel) (by decide +kernel)
    rw [a, b, if_pos (by decide)]
  · show M 16 0 ≤ 0
    omega
  · exact H2_none (fun p p0 p1 => (sl p p0 p1).2)
  · have q := ck_im k.toNat (by omega)
    have a := g (89 + 25 * k.toNat) 0 0 (by omega) q.1.1 q.1.2
    have b := g (76 + 25 * k.toNat) 4 0 (by omega) q.2.1.1 q.2.1.2
    have ea : ((89 + 25 * k.toNat : Nat) : Int) = 76 + 25 * k + 13 := by omega
    have eb : ((76 + 25 * k.toNat : Nat) : Int) = 76 + 25 * k := by omega
    have ec : ((94 + 25 * k.toNat : Nat) : Int) = 76 + 25 * k + 18 := by omega
    rw [ea] at a
    rw [eb] at b
    have qt := ck_to k.toNat (by omega)
    have at0 := g (77 + 25 * k.toNat) 0 0 (by omega) qt.1 qt.2
    have et : ((77 + 25 * k.toNat : Nat) : Int) = 76 + 25 * k + 1 := by omega
    rw [et] at at0
    refine ⟨?_, fun _ => b, Wok.none (Int.le_of_eq at0), H2_none (fun p p0 p1 => ?_)⟩
    · have a : M (76 + 25 * k + 13) 0 = 0 := a
      omega
    · have c := g (94 + 25 * k.toNat) p.toNat (-1) (by omega) (q.2.2 p.toNat (by omega)).1 (q.2.2 p.toNat (by omega)).2
      rw [ec, Int.toNat_of_nonneg p0] at c
      exact c
  · have q := ck_ps r.toNat (by omega)
    have a := g (176 + 8 * r.toNat) 0 0 (by omega) q.1.1 q.1.2
    have ea : ((176 + 8 * r.toNat : Nat) : Int) = 176 + 8 * r := by omega
    have ec : ((181 + 8 * r.toNat : Nat) : Int) = 176 + 8 * r + 5 := by omega
    rw [ea] at a
    refine ⟨?_, H2_none (fun p p0 p1 => ?_)⟩
    · have a : M (176 + 8 * r) 0 = 0 := a
      omega
    · have c := g (181 + 8 * r.toNat) p.toNat (-1) (by omega) (q.2 p.toNat (by omega)).1 (q.2 p.toNat (by omega)).2
      rw [ec, Int.toNat_of_nonneg p0] at c
      exact c
  · exact g 55 2 0 (by decide) (by decide +kernel) (by decide +kernel)
  · exact g 336 23 0 (by decide) (by decide +kernel) (by decide +kernel)
