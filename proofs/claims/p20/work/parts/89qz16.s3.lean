/-! a STATE of the class (cell c) beside the reference's row D -/
def SRj (M : Mm) (c : Int) (D : Int → Int) (j : Int) : Prop := M (c + 5) j = D (35 + 4 * j + 1) ∧ M (c + 6) j = D (35 + 4 * j + 2) ∧ ((M (c + 4) j = D (35 + 4 * j) ∧ D (35 + 4 * j + 1) = -1 ∧ D (35 + 4 * j + 3) = 0 ∧ 0 ≤ D (35 + 4 * j)) ∨ (M (c + 4) j = -1 ∧ 0 ≤ D (35 + 4 * j + 1) ∧ D (35 + 4 * j + 1) < D 4 ∧ D (35 + 4 * j + 3) = 0) ∨ (M (c + 4) j = -1 ∧ D (35 + 4 * j + 1) = -1 ∧ D (35 + 4 * j + 3) = 1))
def SRh (M : Mm) (c : Int) (D : Int → Int) (i : Int) : Prop := M (c + 1) i = D (10 + 5 * i) ∧ M (c + 2) i = D (10 + 5 * i + 1) ∧ M (c + 3) i = D (10 + 5 * i + 2)
def SR (M : Mm) (c : Int) (D : Int → Int) : Prop := (M c 0 = D 7 ∧ M c 1 = D 8) ∧ (∀ i : Int, 0 ≤ i → i < D 4 → SRh M c D i) ∧ (∀ j : Int, 0 ≤ j → j < D 5 → SRj M c D j) ∧ (∀ j : Int, D 5 ≤ j → j < 4 → M (c + 4) j = -1 ∧ M (c + 5) j = -1) ∧ (∀ w : Int, 0 ≤ w → w < D 6 → M (c + 7) w = D (51 + w))
theorem SRj.same {M M' : Mm} {c j : Int} {D D' : Int → Int} (h : SRj M c D j) (h4 : M' (c + 4) j = M (c + 4) j) (h5 : M' (c + 5) j = M (c + 5) j) (h6 : M' (c + 6) j = M (c + 6) j) (g0 : D' (35 + 4 * j) = D (35 + 4 * j)) (g1 : D' (35 + 4 * j + 1) = D (35 + 4 * j + 1)) (g2 : D' (35 + 4 * j + 2) = D (35 + 4 * j + 2)) (g3 : D' (35 + 4 * j + 3) = D (35 + 4 * j + 3)) (g4 : D' 4 = D 4) : SRj M' c D' j := by
  unfold SRj at h ⊢
  rw [h4, h5, h6, g0, g1, g2, g3, g4]
  exact h
theorem SRh.same {M M' : Mm} {c i : Int} {D D' : Int → Int} (h : SRh M c D i) (h1 : M' (c + 1) i = M (c + 1) i) (h2 : M' (c + 2) i = M (c + 2) i) (h3 : M' (c + 3) i = M (c + 3) i) (g0 : D' (10 + 5 * i) = D (10 + 5 * i)) (g1 : D' (10 + 5 * i + 1) = D (10 + 5 * i + 1)) (g2 : D' (10 + 5 * i + 2) = D (10 + 5 * i + 2)) : SRh M' c D' i := by
  unfold SRh at h ⊢
  rw [h1, h2, h3, g0, g1, g2]
  exact h
/-- one JUG changes -/
theorem SR.jug {M M' : Mm} {c j : Int} {D D' : Int → Int} (r : SR M c D) (b4 : 0 ≤ D 4 ∧ D 4 ≤ 5) (b5 : D 5 ≤ 4) (b6 : D 6 ≤ 6) (hj : 0 ≤ j ∧ j < D 5) (F : ∀ c' p : Int, ¬ (p = j ∧ (c' = c + 4 ∨ c' = c + 5 ∨ c' = c + 6)) → c ≤ c' ∧ c' ≤ c + 7 → M' c' p = M c' p) (G : ∀ p : Int, ¬ (35 + 4 * j ≤ p ∧ p ≤ 35 + 4 * j + 3) → D' p = D p) (x : SRj M' c D' j) : SR M' c D' := by
  obtain ⟨⟨r1, r2⟩, r3, r4, r5, r6⟩ := r
  have g4 : D' 4 = D 4 := G 4 (by omega)
  have g5 : D' 5 = D 5 := G 5 (by omega)
  have g6 : D' 6 = D 6 := G 6 (by omega)
  refine ⟨⟨by rw [F c 0 (by omega) (by omega), G 7 (by omega)]; exact r1, by rw [F c 1 (by omega) (by omega), G 8 (by omega)]; exact r2⟩, fun i i0 i1 => ?_, fun k k0 k1 => ?_, fun k k0 k1 => ?_, fun w w0 w1 => ?_⟩
  · rw [g4] at i1
    exact (r3 i i0 i1).same (F _ _ (by omega) (by omega)) (F _ _ (by omega) (by omega)) (F _ _ (by omega) (by omega)) (G _ (by omega)) (G _ (by omega)) (G _ (by omega))
  · rw [g5] at k1
    by_cases e : k = j
    · rw [e]; exact x
    · exact (r4 k k0 k1).same (F _ _ (by omega) (by omega)) (F _ _ (by omega) (by omega)) (F _ _ (by omega) (by omega)) (G _ (by omega)) (G _ (by omega)) (G _ (by omega)) (G _ (by omega)) g4
  · rw [g5] at k0
    rw [F (c + 4) k (by omega) (by omega), F (c + 5) k (by omega) (by omega)]
    exact r5 k k0 k1
  · rw [g6] at w1
    rw [F (c + 7) w (by omega) (by omega), G _ (by omega)]
    exact r6 w w0 w1
/-- one HAND changes -/
theorem SR.hand {M M' : Mm} {c i : Int} {D D' : Int → Int} (r : SR M c D) (b4 : D 4 ≤ 5) (b5 : D 5 ≤ 4) (b6 : D 6 ≤ 6) (hi : 0 ≤ i ∧ i < D 4) (F : ∀ c' p : Int, ¬ (p = i ∧ (c' = c + 1 ∨ c' = c + 2 ∨ c' = c + 3)) → c ≤ c' ∧ c' ≤ c + 7 → M' c' p = M c' p) (G : ∀ p : Int, ¬ (10 + 5 * i ≤ p ∧ p ≤ 10 + 5 * i + 2) → D' p = D p) (x : SRh M' c D' i) : SR M' c D' := by
  obtain ⟨⟨r1, r2⟩, r3, r4, r5, r6⟩ := r
  have g4 : D' 4 = D 4 := G 4 (by omega)
  have g5 : D' 5 = D 5 := G 5 (by omega)
  have g6 : D' 6 = D 6 := G 6 (by omega)
  refine ⟨⟨by rw [F c 0 (by omega) (by omega), G 7 (by omega)]; exact r1, by rw [F c 1 (by omega) (by omega), G 8 (by omega)]; exact r2⟩, fun k k0 k1 => ?_, fun k k0 k1 => ?_, fun k k0 k1 => ?_, fun w w0 w1 => ?_⟩
  · rw [g4] at k1
    by_cases e : k = i
    · rw [e]; exact x
    · exact (r3 k k0 k1).same (F _ _ (by omega) (by omega)) (F _ _ (by omega) (by omega)) (F _ _ (by omega) (by omega)) (G _ (by omega)) (G _ (by omega)) (G _ (by omega))
  · rw [g5] at k1
    exact (r4 k k0 k1).same (F _ _ (by omega) (by omega)) (F _ _ (by omega) (by omega)) (F _ _ (by omega) (by omega)) (G _ (by omega)) (G _ (by omega)) (G _ (by omega)) (G _ (by omega)) g4
  · rw [g5] at k0
    rw [F (c + 4) k (by omega) (by omega), F (c + 5) k (by omega) (by omega)]
    exact r5 k k0 k1
  · rw [g6] at w1
    rw [F (c + 7) w (by omega) (by omega), G _ (by omega)]
    exact r6 w w0 w1
/-- both sides hold the same JUGS in a HAND -/
theorem SR.held {X : Mm} {S : Sh} {M : Mm} {c h : Int} (hm : Inv X S M) (r : SR M c (M 346)) (h0 : 0 ≤ h) : hbt (M (c + 5)) h 4 = hbR M h := by
  have b5 := hm.f_346_5
  obtain ⟨_, _, r4, r5, _⟩ := r
  unfold hbR
  have e : (4 : Nat) = (M 346 5).toNat + (4 - (M 346 5).toNat) := by omega
  rw [e, hbt_ext _ (fun j j0 j1 => ?_)]
  · refine hbt_same _ (fun j j0 j1 => ?_)
    have q := (r4 j j0 (by omega)).1
    show M (c + 5) j = M 346 (36 + 4 * j)
    rw [q]
    congr 1
    omega
  · have q := (r5 j (by omega) (by omega)).2
    omega
