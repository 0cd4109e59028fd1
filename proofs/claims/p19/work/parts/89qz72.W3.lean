/-! RELAY over numbers: rows of HANDS by a table, and one after another -/
def cntF (p : Nat → Bool) : Nat → Int
  | 0 => 0
  | n + 1 => if p n = true then cntF p n + 1 else cntF p n
def sumF (h : Nat → Int) : Nat → Int
  | 0 => 0
  | n + 1 => sumF h n + h n
def mnF (h : Nat → Int) : Nat → Int
  | 0 => 999
  | n + 1 => min (mnF h n) (h n)
theorem cntF_1 {p : Nat → Bool} {n : Nat} (h : p n = true) : cntF p (n + 1) = cntF p n + 1 := if_pos h
theorem cntF_2 {p : Nat → Bool} {n : Nat} (h : ¬ p n = true) : cntF p (n + 1) = cntF p n := if_neg h
theorem cntF_ext {p q : Nat → Bool} : ∀ n : Nat, (∀ x : Nat, x < n → p x = q x) → cntF p n = cntF q n := by
  intro n
  induction n with
  | zero => intro _; rfl
  | succ n ih =>
    intro e
    have a := ih (fun x hx => e x (by omega))
    by_cases z : p n = true
    · rw [cntF_1 z, cntF_1 (by rw [← e n (by omega)]; exact z), a]
    · rw [cntF_2 z, cntF_2 (by rw [← e n (by omega)]; exact z), a]
theorem cntF_add {p : Nat → Bool} {a : Nat} : ∀ b : Nat, cntF p (a + b) = cntF p a + cntF (fun x => p (a + x)) b := by
  intro b
  induction b with
  | zero => exact (Int.add_zero _).symm
  | succ b ih =>
    by_cases z : p (a + b) = true
    · have e1 : cntF p (a + (b + 1)) = cntF p (a + b) + 1 := if_pos z
      have e2 : cntF (fun x => p (a + x)) (b + 1) = cntF (fun x => p (a + x)) b + 1 := if_pos z
      rw [e1, e2, ih]
      omega
    · have e1 : cntF p (a + (b + 1)) = cntF p (a + b) := if_neg z
      have e2 : cntF (fun x => p (a + x)) (b + 1) = cntF (fun x => p (a + x)) b := if_neg z
      rw [e1, e2, ih]
theorem cntF_mul {p : Nat → Bool} {Q : Nat} : ∀ d : Nat, cntF p (d * Q) = sumF (fun e => cntF (fun x => p (e * Q + x)) Q) d := by
  intro d
  induction d with
  | zero => rw [Nat.zero_mul]; rfl
  | succ d ih =>
    rw [Nat.succ_mul, cntF_add, ih]
    rfl
theorem cntF_b {p : Nat → Bool} : ∀ n : Nat, 0 ≤ cntF p n ∧ cntF p n ≤ (n : Int) := by
  intro n
  induction n with
  | zero => exact ⟨Int.le_refl 0, Int.le_refl 0⟩
  | succ n ih =>
    by_cases z : p n = true
    · rw [cntF_1 z]; omega
    · rw [cntF_2 z]; omega
theorem sumF_ext {h k : Nat → Int} : ∀ n : Nat, (∀ x : Nat, x < n → h x = k x) → sumF h n = sumF k n := by
  intro n
  induction n with
  | zero => intro _; rfl
  | succ n ih =>
    intro e
    show sumF h n + h n = sumF k n + k n
    rw [ih (fun x hx => e x (by omega)), e n (by omega)]
/-- rows that come as told, by how many ROADS are left -/
def rwF (H : Nat) (cr : Nat → Nat → Int → Int) (ok : Int → Bool) : Nat → Int → Int
  | 0 => fun s => if ok s = true then 1 else 0
  | r + 1 => fun s => sumF (fun h => rwF H cr ok r (cr r h s)) H
def leF (H : Nat) (cr : Nat → Nat → Int → Int) : Nat → Int → Int
  | 0 => fun s => s
  | r + 1 => fun s => mnF (fun h => leF H cr r (cr r h s)) H
def vrF (H : Nat) (cr : Nat → Nat → Int → Int) : Nat → Int → Nat → Int
  | 0 => fun s _ => s
  | r + 1 => fun s c => vrF H cr r (cr r (c / H ^ r % H) s) c
theorem vr_mod {H : Nat} {cr : Nat → Nat → Int → Int} {c d : Nat} : ∀ (r : Nat) (s : Int), c % H ^ r = d % H ^ r → vrF H cr r s c = vrF H cr r s d := by
  intro r
  induction r with
  | zero => intro s _; rfl
  | succ r ih =>
    intro s h
    rw [Nat.pow_succ] at h
    have e1 : c / H ^ r % H = d / H ^ r % H := by
      rw [← Nat.mod_mul_right_div_self, ← Nat.mod_mul_right_div_self, h]
    have e2 : c % H ^ r = d % H ^ r := by
      rw [← Nat.mod_mul_right_mod c (H ^ r) H, ← Nat.mod_mul_right_mod d (H ^ r) H, h]
    show vrF H cr r (cr r (c / H ^ r % H) s) c = vrF H cr r (cr r (d / H ^ r % H) s) d
    rw [e1]
    exact ih _ e2
theorem vr_blk {H : Nat} {cr : Nat → Nat → Int → Int} {r e x : Nat} {s : Int} (he : e < H) (hx : x < H ^ r) : vrF H cr (r + 1) s (e * H ^ r + x) = vrF H cr r (cr r e s) x := by
  have p : 0 < H ^ r := by omega
  have d1 : (e * H ^ r + x) / H ^ r % H = e := by
    rw [Nat.add_comm, Nat.add_mul_div_right _ _ p, Nat.div_eq_of_lt hx, Nat.zero_add, Nat.mod_eq_of_lt he]
  have d2 : (e * H ^ r + x) % H ^ r = x := Nat.mul_add_mod_of_lt hx
  show vrF H cr r (cr r ((e * H ^ r + x) / H ^ r % H) s) (e * H ^ r + x) = _
  rw [d1]
  exact vr_mod r _ (by rw [d2, Nat.mod_eq_of_lt hx])
theorem rw_cnt {H : Nat} {cr : Nat → Nat → Int → Int} {ok : Int → Bool} : ∀ (r : Nat) (s : Int), cntF (fun c => ok (vrF H cr r s c)) (H ^ r) = rwF H cr ok r s := by
  intro r
  induction r with
  | zero =>
    intro s
    show (if ok s = true then (0 : Int) + 1 else 0) = if ok s = true then 1 else 0
    rfl
  | succ r ih =>
    intro s
    rw [Nat.pow_succ, Nat.mul_comm, cntF_mul]
    show _ = sumF (fun h => rwF H cr ok r (cr r h s)) H
    refine sumF_ext H (fun e he => ?_)
    show cntF (fun x => ok (vrF H cr (r + 1) s (e * H ^ r + x))) (H ^ r) = rwF H cr ok r (cr r e s)
    rw [← ih]
    exact cntF_ext _ (fun x hx => by rw [vr_blk he hx])
theorem rw_0 {H : Nat} {cr : Nat → Nat → Int → Int} {ok : Int → Bool} (r : Nat) (s : Int) : 0 ≤ rwF H cr ok r s ∧ rwF H cr ok r s ≤ ((H ^ r : Nat) : Int) := by
  rw [← rw_cnt]
  exact cntF_b _
