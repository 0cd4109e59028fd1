theorem nvs_row : ∀ Cs : List Cz, nvs (rowC Cs) = nvs (codC Cs) := by
  intro Cs
  induction Cs with
  | nil => rfl
  | cons c l ih =>
    show nvs (row1 c ++ rowC l) = nvs (cod1 c ++ codC l)
    rw [nvs_app, nvs_app, ih]
    have : nvs (cod1 c) = nvs (row1 c) := by
      unfold cod1 row1
      rw [nvs_app, nvs_app, nvs_app]
      have e : nvs [if c.2.1 then (-26 : Int) else -25] = 0 := by cases c.2.1 <;> rfl
      rw [e]
      omega
    rw [this]
