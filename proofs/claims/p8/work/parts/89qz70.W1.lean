/-! WAYS: their HOURS, PLACE by PLACE -/
def ctL (h : Int → Int) (v : Int) : Int := (if h 0 < v then 1 else 0) + (if h 1 < v then 1 else 0) + (if h 2 < v then 1 else 0) + (if h 3 < v then 1 else 0) + (if h 4 < v then 1 else 0) + (if h 5 < v then 1 else 0)
theorem ifL {x v w : Int} (h : w ≤ v) : (if x < w then (1 : Int) else 0) ≤ if x < v then 1 else 0 := by
  by_cases q : x < w
  · rw [if_pos q, if_pos (by omega)]; exact Int.le_refl 1
  · rw [if_neg q]; split <;> decide
theorem ifS {x v : Int} (h : x < v) : (if x < x then (1 : Int) else 0) + 1 ≤ if x < v then 1 else 0 := by
  rw [if_pos h, if_neg (by omega)]; decide
theorem if01 {x v : Int} : 0 ≤ (if x < v then (1 : Int) else 0) ∧ (if x < v then (1 : Int) else 0) ≤ 1 := by split <;> decide
theorem ctL_step {h : Int → Int} {b v : Int} (b0 : 0 ≤ b) (b5 : b ≤ 5) (hv : h b < v) : ctL h (h b) + 1 ≤ ctL h v := by
  have m0 := ifL (x := h 0) (w := h b) (v := v) (by omega)
  have m1 := ifL (x := h 1) (w := h b) (v := v) (by omega)
  have m2 := ifL (x := h 2) (w := h b) (v := v) (by omega)
  have m3 := ifL (x := h 3) (w := h b) (v := v) (by omega)
  have m4 := ifL (x := h 4) (w := h b) (v := v) (by omega)
  have m5 := ifL (x := h 5) (w := h b) (v := v) (by omega)
  have s := ifS hv
  unfold ctL
  rcases (show b = 0 ∨ b = 1 ∨ b = 2 ∨ b = 3 ∨ b = 4 ∨ b = 5 by omega) with e | e | e | e | e | e <;> subst e <;> omega
theorem ctL_0 {h : Int → Int} {v : Int} : 0 ≤ ctL h v := by
  have m0 := if01 (x := h 0) (v := v)
  have m1 := if01 (x := h 1) (v := v)
  have m2 := if01 (x := h 2) (v := v)
  have m3 := if01 (x := h 3) (v := v)
  have m4 := if01 (x := h 4) (v := v)
  have m5 := if01 (x := h 5) (v := v)
  unfold ctL
  omega
/-- how many PLACES are nearer -/
abbrev nrF (g : Int → Int) (c a : Int) : Int := ctL (fun x => g (6 * x + c)) (g (6 * a + c))
theorem Wok.nxt {P : Int} {f g : Int → Int} (w : Wok P f g) {a c : Int} (a0 : 0 ≤ a) (a1 : a < P) (c0 : 0 ≤ c) (c1 : c < P) (n : ¬ a = c) (h : g (6 * a + c) < 1000) : ∃ b : Int, 0 ≤ b ∧ b < P ∧ 0 < f (6 * a + b) ∧ f (6 * a + b) + g (6 * b + c) = g (6 * a + c) ∧ nrF g c b + 1 ≤ nrF g c a := by
  obtain ⟨p6, h0, h1, h2, h3⟩ := w
  obtain ⟨b, b0, b1, r1, r2⟩ := h3 a c a0 a1 c0 c1 n h
  have r3 := h2 a b c a0 a1 b0 b1 c0 c1 r1
  exact ⟨b, b0, b1, r1, by omega, ctL_step (h := fun x => g (6 * x + c)) (b := b) b0 (by omega) (by show g (6 * b + c) < g (6 * a + c); omega)⟩
theorem Wok.far {P : Int} {f g : Int → Int} (w : Wok P f g) (fb : ∀ p : Int, 0 ≤ p → p < 36 → f p ≤ 5) {c : Int} (c0 : 0 ≤ c) (c1 : c < P) : ∀ (n : Nat) (a : Int), 0 ≤ a → a < P → nrF g c a ≤ (n : Int) → g (6 * a + c) < 1000 → g (6 * a + c) ≤ 5 * (n : Int) := by
  have p6 := w.1
  intro n
  induction n with
  | zero =>
    intro a a0 a1 hn h
    by_cases e : a = c
    · rw [e, w.2.1 c c0 c1]; decide
    · obtain ⟨b, b0, b1, r1, r2, r3⟩ := w.nxt a0 a1 c0 c1 e h
      have z : 0 ≤ nrF g c b := ctL_0
      have z2 : nrF g c a ≤ 0 := hn
      omega
  | succ n ih =>
    intro a a0 a1 hn h
    by_cases e : a = c
    · rw [e, w.2.1 c c0 c1]; omega
    · obtain ⟨b, b0, b1, r1, r2, r3⟩ := w.nxt a0 a1 c0 c1 e h
      have q := ih b b0 b1 (by omega) (by omega)
      have q2 := fb (6 * a + b) (by omega) (by omega)
      omega
