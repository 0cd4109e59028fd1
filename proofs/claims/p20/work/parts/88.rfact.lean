theorem pw6 : (1953854062 : Int) = pw 6 := by decide +kernel
theorem pw13 : (26982 : Int) = pw 13 := by decide +kernel
theorem pw14 : (7237492 : Int) = pw 14 := by decide +kernel
theorem pw15 : (6385252 : Int) = pw 15 := by decide +kernel
theorem pw16 : (28530 : Int) = pw 16 := by decide +kernel
theorem tl_s : tl 6 = 4 ∧ tl 13 = 2 ∧ tl 14 = 3 ∧ tl 15 = 3 ∧ tl 16 = 2 := by decide +kernel
theorem tw_s : tw 6 0 = 116 ∧ tw 13 0 = 105 ∧ tw 14 0 = 110 ∧ tw 15 0 = 97 ∧ tw 16 0 = 111 := by decide +kernel
/-- behind a fact, its closing brackets read -/
def Tl (b : Int → Int) (n : Int) (T : Int → Prop) (M : Mm) (mo : Int) (s : List Bool) (k : Int) : Prop := Lr b n T M mo s k ∧ RS M (dropN s) ∧ Top M ∧ (mo = 6 ∨ mo = 7) ∧ (mo = 6 → Nar b n M) ∧ Sk b n (M 336 8) (M 336 8) ∧ ¬ (M 336 8 < n ∧ b (M 336 8) = 93 ∧ true ∈ s)
theorem Tl.same {b : Int → Int} {n mo k : Int} {T : Int → Prop} {M M1 : Mm} {s : List Bool} (h : Tl b n T M mo s k) (e8 : M1 336 8 = M 336 8) (f : ∀ c p : Int, ¬ (c = 336 ∧ p = 8) → M1 c p = M c p) : Tl b n T M1 mo s k := by
  obtain ⟨h1, h2, h3, h4, h5, h6, h7⟩ := h
  refine ⟨h1.eq e8 (f 336 12 (by omega)) (f 336 9 (by omega)), h2.same (fun p => f 343 p (by omega)) (f 336 16 (by omega)) (f 336 13 (by omega)), h3.same (fun p => f 343 p (by omega)) (f 336 16 (by omega)), h4, fun z q hq => h5 z q ?_, ?_, ?_⟩
  · rw [e8] at hq; exact hq
  · rw [e8]; exact h6
  · rw [e8]; exact h7
