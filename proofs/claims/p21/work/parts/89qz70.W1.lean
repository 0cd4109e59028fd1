section
/-! WAYS: their HOURS, PLACE by PLACE -/
def ctL (h : Int → Int) (v : Int) : Int := (if h 0 < v then 1 else 0) + (if h 1 < v then 1 else 0) + (if h 2 < v then 1 else 0) + (if h 3 < v then 1 else 0) + (if h 4 < v then 1 else 0) + (if h 5 < v then 1 else 0)
theorem ifL {x v w : Int} (h : w ≤ v) : (if x < w then (1 : Int) else 0) ≤ if x < v then 1 else 0 := by
  by_cases q : x < w
  · rw [if_pos q, if_pos (by omega)]; exact Int.le_refl 1
  · rw [if_neg q]; split <;> decide
theorem ifS {x v : Int} (h : x < v) : (if x < x then (1 : Int) else 0) + 1 ≤ if x < v then 1 else 0 := by
  rw [if_pos h, if_neg (by omega)]; decide
theorem if01 {x v : Int} : 0 ≤ (if x < v then (1 : Int) else 0) ∧ (if x < v then (1 : Int) else 0) ≤ 1 := by split <;> decide
theorem ctL_step {h : Int → Int} {b v : Int} (b0 : 0 ≤ b) (b5 : b ≤ 5) (hv : h b < v) : ctL h (h b) + 1 ≤ ctL h v := by
  have m0 := ifL (x := h 0) (w := h b) (v := v) (by omega)
  have m1 := ifL (x := h 1) (w := h b) (v := v) (by omega)
  have m2 := ifL (x := h 2) (w := h b) (v := v) (by omega)
  have m3 := ifL (x := h 3) (w := h b) (v := v) (by omega)
  have m4 := ifL (x := h 4) (w := h b) (v := v) (by omega)
  have m5 := ifL (x := h 5) (w := h b) (v := v) (by omega)
  have s := ifS hv
  unfold ctL
  rcases (show b = 0 ∨ b = 1 ∨ b = 2 ∨ b = 3 ∨ b = 4 ∨ b = 5 by omega) with e | e | e | e | e | e <;> subst e <;> omega
theorem ctL_0 {h : Int → Int} {v : Int} : 0 ≤ ctL h v := by
  have m0 := if01 (x := h 0) (v := v)
  have m1 := if01 (x := h 1) (v := v)
  have m2 := if01 (x := h 2) (v := v)
  have m3 := if01 (x := h 3) (v := v)
  have m4 := if01 (x := h 4) (v := v)
  have m5 := if01 (x := h 5) (v := v)
  unfold ctL
  omega
/-- how many PLACES are nearer -/
abbrev nrF (g : Int → Int) (c a : Int) : Int := ctL (fun x => g (6 * x + c)) (g (6 * a + c))
theorem Wok.nxt {P : Int} {f g : Int → Int} (w : Wok P f g) {a c : Int} (a0 : 0 ≤ a) (a1 : a < P) (c0 : 0 ≤ c) (c1 : c < P) (n : ¬ a = c) (h : g (6 * a + c) < 1000) : ∃ b : Int, 0 ≤ b ∧ b < P ∧ 0 < f (6 * a + b) ∧ f (6 * a + b) + g (6 * b + c) = g (6 * a + c) ∧ nrF g c b + 1 ≤ nrF g c a := by
  obtain ⟨p6, h0, h1, h2, h3⟩ := w
  obtain ⟨b, b0, b1, r1, r2⟩ := h3 a c a0 a1 c0 c1 n h
  have r3 := h2 a b c a0 a1 b0 b1 c0 c1 r1
  exact ⟨b, b0, b1, r1, by omega, ctL_step (h := fun x => g (6 * x + c)) (b := b) b0 (by omega) (by show g (6 * b + c) < g (6 * a + c); omega)⟩
theorem Wok.far {P : Int} {f g : Int → Int} (w : Wok P f g) (fb : ∀ p : Int, 0 ≤ p → p < 36 → f p ≤ 5) {c : Int} (c0 : 0 ≤ c) (c1 : c < P) : ∀ (n : Nat) (a : Int), 0 ≤ a → a < P → nrF g c a ≤ (n : Int) → g (6 * a + c) < 1000 → g (6 * a + c) ≤ 5 * (n : Int) := by
  have p6 := w.1
  intro n
  induction n with
  | zero =>
    intro a a0 a1 hn h
    by_cases e : a = c
    · rw [e, w.2.1 c c0 c1]; decide
    · obtain ⟨b, b0, b1, r1, r2, r3⟩ := w.nxt a0 a1 c0 c1 e h
      have z : 0 ≤ nrF g c b := ctL_0
      have z2 : nrF g c a ≤ 0 := hn
      omega
  | succ n ih =>
    intro a a0 a1 hn h
    by_cases e : a = c
    · rw [e, w.2.1 c c0 c1]; omega
    · obtain ⟨b, b0, b1, r1, r2, r3⟩ := w.nxt a0 a1 c0 c1 e h
      have q := ih b b0 b1 (by omega) (by omega)
      have q2 := fb (6 * a + b) (by omega) (by omega)
      omega
end
section
/-! WAY and BRINGS of both sides -/
theorem RZ.wk {S : Sh} {M : Mm} {n : Int} (h : RZ S M n) : Wok (M 4 0) (M 5) (M 6) := h.2.2.2.1.2.2.1
theorem RZ.fb {S : Sh} {M : Mm} {n : Int} (h : RZ S M n) : ∀ p : Int, 0 ≤ p → p < 36 → M 5 p ≤ 5 := fun p p0 p1 => (h.inv.a_5 (i := p) p0 p1).2
end
section
/-! RELAY over numbers: rows of HANDS by a table, and one after another -/
def cntF (p : Nat → Bool) : Nat → Int
  | 0 => 0
  | n + 1 => if p n = true then cntF p n + 1 else cntF p n
def sumF (h : Nat → Int) : Nat → Int
  | 0 => 0
  | n + 1 => sumF h n + h n
def mnF (h : Nat → Int) : Nat → Int
  | 0 => 999
  | n + 1 => min (mnF h n) (h n)
theorem cntF_1 {p : Nat → Bool} {n : Nat} (h : p n = true) : cntF p (n + 1) = cntF p n + 1 := if_pos h
theorem cntF_2 {p : Nat → Bool} {n : Nat} (h : ¬ p n = true) : cntF p (n + 1) = cntF p n := if_neg h
theorem cntF_ext {p q : Nat → Bool} : ∀ n : Nat, (∀ x : Nat, x < n → p x = q x) → cntF p n = cntF q n := by
  intro n
  induction n with
  | zero => intro _; rfl
  | succ n ih =>
    intro e
    have a := ih (fun x hx => e x (by omega))
    by_cases z : p n = true
    · rw [cntF_1 z, cntF_1 (by rw [← e n (by omega)]; exact z), a]
    · rw [cntF_2 z, cntF_2 (by rw [← e n (by omega)]; exact z), a]
theorem cntF_add {p : Nat → Bool} {a : Nat} : ∀ b : Nat, cntF p (a + b) = cntF p a + cntF (fun x => p (a + x)) b := by
  intro b
  induction b with
  | zero => exact (Int.add_zero _).symm
  | succ b ih =>
    by_cases z : p (a + b) = true
    · have e1 : cntF p (a + (b + 1)) = cntF p (a + b) + 1 := if_pos z
      have e2 : cntF (fun x => p (a + x)) (b + 1) = cntF (fun x => p (a + x)) b + 1 := if_pos z
      rw [e1, e2, ih]
      omega
    · have e1 : cntF p (a + (b + 1)) = cntF p (a + b) := if_neg z
      have e2 : cntF (fun x => p (a + x)) (b + 1) = cntF (fun x => p (a + x)) b := if_neg z
      rw [e1, e2, ih]
theorem cntF_mul {p : Nat → Bool} {Q : Nat} : ∀ d : Nat, cntF p (d * Q) = sumF (fun e => cntF (fun x => p (e * Q + x)) Q) d := by
  intro d
  induction d with
  | zero => rw [Nat.zero_mul]; rfl
  | succ d ih =>
    rw [Nat.succ_mul, cntF_add, ih]
    rfl
theorem cntF_b {p : Nat → Bool} : ∀ n : Nat, 0 ≤ cntF p n ∧ cntF p n ≤ (n : Int) := by
  intro n
  induction n with
  | zero => exact ⟨Int.le_refl 0, Int.le_refl 0⟩
  | succ n ih =>
    by_cases z : p n = true
    · rw [cntF_1 z]; omega
    · rw [cntF_2 z]; omega
theorem sumF_ext {h k : Nat → Int} : ∀ n : Nat, (∀ x : Nat, x < n → h x = k x) → sumF h n = sumF k n := by
  intro n
  induction n with
  | zero => intro _; rfl
  | succ n ih =>
    intro e
    show sumF h n + h n = sumF k n + k n
    rw [ih (fun x hx => e x (by omega)), e n (by omega)]
/-- rows that come as told, by how many ROADS are left -/
def rwF (H : Nat) (cr : Nat → Nat → Int → Int) (ok : Int → Bool) : Nat → Int → Int
  | 0 => fun s => if ok s = true then 1 else 0
  | r + 1 => fun s => sumF (fun h => rwF H cr ok r (cr r h s)) H
def leF (H : Nat) (cr : Nat → Nat → Int → Int) : Nat → Int → Int
  | 0 => fun s => s
  | r + 1 => fun s => mnF (fun h => leF H cr r (cr r h s)) H
def vrF (H : Nat) (cr : Nat → Nat → Int → Int) : Nat → Int → Nat → Int
  | 0 => fun s _ => s
  | r + 1 => fun s c => vrF H cr r (cr r (c / H ^ r % H) s) c
theorem vr_mod {H : Nat} {cr : Nat → Nat → Int → Int} {c d : Nat} : ∀ (r : Nat) (s : Int), c % H ^ r = d % H ^ r → vrF H cr r s c = vrF H cr r s d := by
  intro r
  induction r with
  | zero => intro s _; rfl
  | succ r ih =>
    intro s h
    rw [Nat.pow_succ] at h
    have e1 : c / H ^ r % H = d / H ^ r % H := by
      rw [← Nat.mod_mul_right_div_self, ← Nat.mod_mul_right_div_self, h]
    have e2 : c % H ^ r = d % H ^ r := by
      rw [← Nat.mod_mul_right_mod c (H ^ r) H, ← Nat.mod_mul_right_mod d (H ^ r) H, h]
    show vrF H cr r (cr r (c / H ^ r % H) s) c = vrF H cr r (cr r (d / H ^ r % H) s) d
    rw [e1]
    exact ih _ e2
theorem vr_blk {H : Nat} {cr : Nat → Nat → Int → Int} {r e x : Nat} {s : Int} (he : e < H) (hx : x < H ^ r) : vrF H cr (r + 1) s (e * H ^ r + x) = vrF H cr r (cr r e s) x := by
  have p : 0 < H ^ r := by omega
  have d1 : (e * H ^ r + x) / H ^ r % H = e := by
    rw [Nat.add_comm, Nat.add_mul_div_right _ _ p, Nat.div_eq_of_lt hx, Nat.zero_add, Nat.mod_eq_of_lt he]
  have d2 : (e * H ^ r + x) % H ^ r = x := Nat.mul_add_mod_of_lt hx
  show vrF H cr r (cr r ((e * H ^ r + x) / H ^ r % H) s) (e * H ^ r + x) = _
  rw [d1]
  exact vr_mod r _ (by rw [d2, Nat.mod_eq_of_lt hx])
theorem rw_cnt {H : Nat} {cr : Nat → Nat → Int → Int} {ok : Int → Bool} : ∀ (r : Nat) (s : Int), cntF (fun c => ok (vrF H cr r s c)) (H ^ r) = rwF H cr ok r s := by
  intro r
  induction r with
  | zero =>
    intro s
    show (if ok s = true then (0 : Int) + 1 else 0) = if ok s = true then 1 else 0
    rfl
  | succ r ih =>
    intro s
    rw [Nat.pow_succ, Nat.mul_comm, cntF_mul]
    show _ = sumF (fun h => rwF H cr ok r (cr r h s)) H
    refine sumF_ext H (fun e he => ?_)
    show cntF (fun x => ok (vrF H cr (r + 1) s (e * H ^ r + x))) (H ^ r) = rwF H cr ok r (cr r e s)
    rw [← ih]
    exact cntF_ext _ (fun x hx => by rw [vr_blk he hx])
theorem rw_0 {H : Nat} {cr : Nat → Nat → Int → Int} {ok : Int → Bool} (r : Nat) (s : Int) : 0 ≤ rwF H cr ok r s ∧ rwF H cr ok r s ≤ ((H ^ r : Nat) : Int) := by
  rw [← rw_cnt]
  exact cntF_b _
end
