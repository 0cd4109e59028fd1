/-! MATCH of the reference: all rows one after another -/
theorem pw_b : ∀ b : Nat, b < 6 → ∀ k : Nat, k < 7 → b ^ k ≤ 15625 := by decide +kernel
theorem zq_power {S : Sh} {m : Mm} {K : Int → Mm → Prop} {b n : Int} {B N : Nat} (eb : b = (B : Int)) (en : n = (N : Int)) (hb : B ≤ 5) (hn : N ≤ 6) (hk : K ((B ^ N : Nat) : Int) m) : wp_X12_power S m b n K := by
  subst eb en
  have L : ∀ (l k : Nat), k ≤ N → N + 1 - k ≤ l → wp_X12_power_4 S K l (B : Int) (N : Int) ((B ^ k : Nat) : Int) k m := by
    intro l
    induction l with
    | zero => intro k _ hl; exfalso; omega
    | succ l ih =>
      intro k k1 hl
      refine u_X12_power_4 ?_
      refine g_if (fun q => ?_) (fun q => ?_)
      · have ek : N = k := by omega
        rw [ek] at hk
        exact hk
      · have e : ((B ^ k : Nat) : Int) * (B : Int) = ((B ^ (k + 1) : Nat) : Int) := by rw [Nat.pow_succ, Int.natCast_mul]
        have z := pw_b B (by omega) (k + 1) (by omega)
        refine g_Ml _ e (by omega) (by omega) ?_
        refine g_A (by omega) (by omega) ?_
        exact ih (k + 1) (by omega) (by omega)
  refine u_X12_power ?_
  refine g_C ?_
  refine g_C ?_
  exact ⟨N + 1, L (N + 1) 0 (by omega) (by omega)⟩
