theorem txF : ∀ i, i < 21 → ∀ q, txR[i]? = some q → q.2.2.2 < txN ∧ (Term.string q.1 q.2.1 = txT q.2.2.2 ∨ Cond.eq (txT q.2.2.2) (.string q.1 q.2.1) ∈ FL ∨ Cond.eq (.string q.1 q.2.1) (txT q.2.2.2) ∈ FL) := by
  intro i hi q hq
  have h : ∀ i, i < 21 → (match txR[i]? with | some q => decide (q.2.2.2 < txN) && (decide (Term.string q.1 q.2.1 = txT q.2.2.2) || decide (Cond.eq (txT q.2.2.2) (.string q.1 q.2.1) ∈ FL) || decide (Cond.eq (.string q.1 q.2.1) (txT q.2.2.2) ∈ FL)) | none => true) = true := by decide +kernel
  have h1 := h i hi
  rw [hq] at h1
  simp only [Bool.and_eq_true, Bool.or_eq_true, decide_eq_true_eq] at h1
  obtain ⟨a, (b | b) | b⟩ := h1
  · exact ⟨a, Or.inl b⟩
  · exact ⟨a, Or.inr (Or.inl b)⟩
  · exact ⟨a, Or.inr (Or.inr b)⟩
