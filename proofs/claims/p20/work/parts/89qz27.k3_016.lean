theorem rl_len {f : Int → Int} : ∀ n : Nat, (rl f n).length = n := by
  intro n
  induction n with
  | zero => rfl
  | succ n ih =>
    show (rl f n ++ [f (n : Int)]).length = n + 1
    rw [List.length_append, ih]
    rfl
