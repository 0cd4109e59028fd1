theorem i2b_r (a : Int) : -128 ≤ i2b a ∧ i2b a ≤ 127 := by
  unfold i2b
  rw [Int8.toInt_toInt32]
  have h1 := Int8.le_toInt (Int32.ofInt a).toInt8
  have h2 := Int8.toInt_lt (Int32.ofInt a).toInt8
  omega
/-- the TAPE's cells alone were written -/
def sameT (M M1 : Mm) : Prop := ∀ a j : Int, ¬ a = 337 → ¬ (a = 336 ∧ j = 1) → M1 a j = M a j
theorem sameT.rf {M : Mm} : sameT M M := fun _ _ _ _ => rfl
theorem sameT.tr {M M1 M2 : Mm} (h : sameT M M1) (h2 : sameT M1 M2) : sameT M M2 := fun a j ha hj => (h2 a j ha hj).trans (h a j ha hj)
theorem sameT.R {M M1 : Mm} (h : sameT M M1) (hR : RfM M) : RfM M1 := by
  have e : ∀ j : Int, j ≠ 1 → M1 336 j = M 336 j := fun j hj => h 336 j (by decide) (fun q => hj q.2)
  unfold RfM at hR ⊢
  simp only [e 0 (by decide), e 3 (by decide), e 4 (by decide), e 5 (by decide), e 6 (by decide), e 7 (by decide), e 15 (by decide), e 17 (by decide), e 19 (by decide), e 20 (by decide), e 24 (by decide), e 26 (by decide), e 27 (by decide), e 28 (by decide), e 30 (by decide), e 31 (by decide), e 32 (by decide), e 34 (by decide), e 35 (by decide), e 36 (by decide), e 37 (by decide)]
  exact hR
