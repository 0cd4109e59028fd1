/-- hands and jugs that are being told stand at places that are told -/
def PR (M : Mm) : Prop := PlOK (M 342) (M 342 0) (M 342 4) (M 342 5)
theorem PR.same {m m' : Mm} (h : PR m) (f : ∀ p : Int, m' 342 p = m 342 p) : PR m' := by
  have e : m' 342 = m 342 := funext f
  unfold PR
  rw [e]
  exact h
theorem PR.hand {m m' : Mm} (h : PR m) {n : Int} (hn : n = m 342 4) (b : 0 ≤ n ∧ n ≤ 4) (f : ∀ p : Int, ¬ (10 + 5 * n ≤ p ∧ p < 15 + 5 * n) → ¬ p = 4 → m' 342 p = m 342 p) (h4 : m' 342 4 = n + 1) (hp : m' 342 (10 + 5 * n) < m 342 0) : PR m' := by
  unfold PR at h ⊢
  obtain ⟨h1, h2⟩ := h
  rw [h4, f 0 (by omega) (by omega), f 5 (by omega) (by omega)]
  refine ⟨fun a a0 a1 => ?_, fun a a0 a1 => ?_⟩
  · by_cases e : a = n
    · rw [e]; exact hp
    · rw [f _ (by omega) (by omega)]; exact h1 a a0 (by omega)
  · rw [f _ (by omega) (by omega)]; exact h2 a a0 a1
theorem PR.jug {m m' : Mm} (h : PR m) {n : Int} (hn : n = m 342 5) (b : 0 ≤ n ∧ n ≤ 3) (b4 : m 342 4 ≤ 5) (f : ∀ p : Int, ¬ (35 + 4 * n ≤ p ∧ p < 39 + 4 * n) → ¬ p = 5 → m' 342 p = m 342 p) (h5 : m' 342 5 = n + 1) (hp : m' 342 (35 + 4 * n) < m 342 0) : PR m' := by
  unfold PR at h ⊢
  obtain ⟨h1, h2⟩ := h
  rw [h5, f 0 (by omega) (by omega), f 4 (by omega) (by omega)]
  refine ⟨fun a a0 a1 => ?_, fun a a0 a1 => ?_⟩
  · rw [f _ (by omega) (by omega)]; exact h1 a a0 a1
  · by_cases e : a = n
    · rw [e]; exact hp
    · rw [f _ (by omega) (by omega)]; exact h2 a a0 (by omega)
theorem PR.oth {m m' : Mm} (h : PR m) (b4 : m 342 4 ≤ 5) (b5 : m 342 5 ≤ 4) (f : ∀ p : Int, (p = 0 ∨ p = 4 ∨ p = 5 ∨ (10 ≤ p ∧ p ≤ 50)) → m' 342 p = m 342 p) : PR m' := by
  unfold PR at h ⊢
  obtain ⟨h1, h2⟩ := h
  rw [f 0 (by omega), f 4 (by omega), f 5 (by omega)]
  refine ⟨fun a a0 a1 => ?_, fun a a0 a1 => ?_⟩
  · rw [f _ (by omega)]; exact h1 a a0 a1
  · rw [f _ (by omega)]; exact h2 a a0 a1
theorem Inv.w342 {X : Mm} {S : Sh} {M : Mm} (h : Inv X S M) {i v : Int} (h0 : 0 ≤ i) (hb : okb (bd 342 i.toNat) v) : Inv X S (up M 342 i v) := by
  have q := h.wl 342 i.toNat (v := v) (h.pl.put (by omega) (fun e => absurd e (by decide))) hb (by omega) (by decide) (by omega)
  rw [show ((342 : Nat) : Int) = 342 from rfl, Int.toNat_of_nonneg h0] at q
  exact q
theorem rq_51 : ∀ a : Nat, a < 6 → bd 342 (51 + 1 * a) = (-2147483648, 2147483647) := by decide +kernel
theorem rq_10 : ∀ a : Nat, a < 5 → bd 342 (10 + 5 * a) = (0, 5) := by decide +kernel
theorem rq_13 : ∀ a : Nat, a < 5 → bd 342 (13 + 5 * a) = (0, 20) := by decide +kernel
theorem rq_14 : ∀ a : Nat, a < 5 → bd 342 (14 + 5 * a) = (0, 5) := by decide +kernel
theorem rq_11 : ∀ a : Nat, a < 5 → bd 342 (11 + 5 * a) = (0, 5) := by decide +kernel
theorem rq_12 : ∀ a : Nat, a < 5 → bd 342 (12 + 5 * a) = (0, 99) := by decide +kernel
theorem rq_35 : ∀ a : Nat, a < 4 → bd 342 (35 + 4 * a) = (0, 5) := by decide +kernel
theorem rq_37 : ∀ a : Nat, a < 4 → bd 342 (37 + 4 * a) = (-2147483648, 2147483647) := by decide +kernel
theorem rq_36 : ∀ a : Nat, a < 4 → bd 342 (36 + 4 * a) = (-1, 4) := by decide +kernel
theorem rq_38 : ∀ a : Nat, a < 4 → bd 342 (38 + 4 * a) = (0, 1) := by decide +kernel
theorem rq_81 : ∀ a : Nat, a < 4 → bd 342 (81 + 3 * a) = (0, 99) := by decide +kernel
theorem rq_82 : ∀ a : Nat, a < 4 → bd 342 (82 + 3 * a) = (0, 99) := by decide +kernel
theorem rq_83 : ∀ a : Nat, a < 4 → bd 342 (83 + 3 * a) = (0, 5) := by decide +kernel
theorem rq_93 : ∀ a : Nat, a < 6 → bd 342 (93 + 4 * a) = (0, 5) := by decide +kernel
theorem rq_94 : ∀ a : Nat, a < 6 → bd 342 (94 + 4 * a) = (0, 99) := by decide +kernel
theorem rq_95 : ∀ a : Nat, a < 6 → bd 342 (95 + 4 * a) = (0, 99) := by decide +kernel
theorem rq_96 : ∀ a : Nat, a < 6 → bd 342 (96 + 4 * a) = (0, 50) := by decide +kernel
