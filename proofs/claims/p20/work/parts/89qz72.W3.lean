/-! RELAY over numbers: rows of HANDS by a table, and one after another -/
def cntF (p : Nat → Bool) : Nat → Int
  | 0 => 0
  | n + 1 => if p n = true then cntF p n + 1 else cntF p n
def sumF (h : Nat → Int) : Nat → Int
  | 0 => 0
  | n + 1 => sumF h n + h n
def mnF (h : Nat → Int) : Nat → Int
  | 0 => 999
  | n + 1 => min (mnF h n) (h n)
theorem cntF_1 {p : Nat → Bool} {n : Nat} (h : p n = true) : cntF p (n + 1) = cntF p n + 1 := if_pos h
theorem cntF_2 {p : Nat → Bool} {n : Nat} (h : ¬ p n = true) : cntF p (n + 1) = cntF p n := if_neg h
theorem cntF_ext {p q : Nat → Bool} : ∀ n : Nat, (∀ x : Nat, x < n → p x = q x) → cntF p n = cntF q n := by
  intro n
  induction n with
  | zero => intro _; rfl
  | succ n ih =>
    intro e
    have a := ih (fun x hx => e x (by omega))
    by_cases z : p n = true
    · rw [cntF_1 z, cntF_1 (by rw [← e n (by omega)]; exact z), a]
    · rw [cntF_2 z, cntF_2 (by rw [← e n (by omega)]; exact z), a]
theorem cntF_add {p : Nat → Bool} {a : Nat} : ∀ b : Nat, cntF p (a + b) = cntF p a + cntF (fun x => p (a + x)) b := by
  intro b
  induction b with
  | zero => exact (Int.add_zero _).symm
  | succ b ih =>
    by_cases z : p (a + b) = true
    · have e1 : cntF p (a + (b + 1)) = cntF p (a + b) + 1 := if_pos z
      have e2 : cntF (fun x => p (a + x)) (b + 1) = cntF (fun x => p (a + x)) b + 1 := if_pos z
      rw [e1, e2, ih]
      omega
    · have e1 : cntF p (a + (b + 1)) = cntF p (a + b) := if_neg z
      have e2 : cntF (fun x => p (a + x)) (b + 1) = cntF (fun x => p (a + x)) b := if_neg z
      rw [e1, e2, ih]
theorem cntF_mul {p : Nat → Bool} {Q : Nat} : ∀ d : Nat, cntF p (d * Q) = sumF (fun e => cntF (fun x => p (e * Q + x)) Q) d := by
  intro d
  induction d with
  | zero => rw [Nat.zero_mul]; rfl
  | succ d ih =>
    rw [Nat.succ_mul, cntF_add, ih]
    rfl
theorem cntF_b {p : Nat → Bool} : ∀ n : Nat, 0 ≤ cntF p n ∧ cntF p n ≤ (n : Int) := by
  intro n
  induction n with
  | zero => exact ⟨Int.le_refl 0, Int.le_refl 0⟩
  | succ n ih =>
    by_cases z : p n = true
    · rw [cntF_1 z]; omega
    · rw [cntF_2 z]; omega
theorem cntF_no {p : Nat → Bool} : ∀ n : Nat, cntF p n = 0 → ∀ x : Nat, x < n → ¬ p x = true := by
  intro n
  induction n with
  | zero => intro _ x hx; omega
  | succ n ih =>
    intro h x hx
    have b := (cntF_b (p := p) n).1
    by_cases z : p n = true
    · rw [cntF_1 z] at h; omega
    · rw [cntF_2 z] at h
      by_cases e : x = n
      · rw [e]; exact z
      · exact ih h x (by omega)
theorem sumF_ext {h k : Nat → Int} : ∀ n : Nat, (∀ x : Nat, x < n → h x = k x) → sumF h n = sumF k n := by
  intro n
  induction n with
  | zero => intro _; rfl
  | succ n ih =>
    intro e
    show sumF h n + h n = sumF k n + k n
    rw [ih (fun x hx => e x (by omega)), e n (by omega)]
theorem sumF_0 {h : Nat → Int} : ∀ n : Nat, (∀ x : Nat, x < n → 0 ≤ h x) → 0 ≤ sumF h n ∧ (0 < sumF h n → ∃ x : Nat, x < n ∧ 0 < h x) := by
  intro n
  induction n with
  | zero => intro _; exact ⟨Int.le_refl 0, fun q => absurd q (Int.lt_irrefl 0)⟩
  | succ n ih =>
    intro e
    obtain ⟨a, b⟩ := ih (fun x hx => e x (by omega))
    have c := e n (by omega)
    have s : sumF h (n + 1) = sumF h n + h n := rfl
    refine ⟨by omega, fun q => ?_⟩
    by_cases z : 0 < h n
    · exact ⟨n, by omega, z⟩
    · obtain ⟨x, x0, x1⟩ := b (by omega)
      exact ⟨x, by omega, x1⟩
theorem mnF_ext {h k : Nat → Int} : ∀ n : Nat, (∀ x : Nat, x < n → h x = k x) → mnF h n = mnF k n := by
  intro n
  induction n with
  | zero => intro _; rfl
  | succ n ih =>
    intro e
    show min (mnF h n) (h n) = min (mnF k n) (k n)
    rw [ih (fun x hx => e x (by omega)), e n (by omega)]
theorem mnF_9 {h : Nat → Int} : ∀ n : Nat, mnF h n ≤ 999 := by
  intro n
  induction n with
  | zero => exact Int.le_refl 999
  | succ n ih =>
    show min (mnF h n) (h n) ≤ 999
    omega
theorem mnF_0 {h : Nat → Int} : ∀ n : Nat, (∀ x : Nat, x < n → 0 ≤ h x) → 0 ≤ mnF h n := by
  intro n
  induction n with
  | zero => intro _; show (0 : Int) ≤ 999; decide
  | succ n ih =>
    intro e
    have a := ih (fun x hx => e x (by omega))
    have b := e n (by omega)
    show 0 ≤ min (mnF h n) (h n)
    omega
theorem mnF_add {h : Nat → Int} {a : Nat} : ∀ b : Nat, mnF h (a + b) = min (mnF h a) (mnF (fun x => h (a + x)) b) := by
  intro b
  induction b with
  | zero =>
    have q := mnF_9 (h := h) a
    show mnF h a = min (mnF h a) 999
    omega
  | succ b ih =>
    show min (mnF h (a + b)) (h (a + b)) = min (mnF h a) (min (mnF (fun x => h (a + x)) b) (h (a + b)))
    rw [ih]
    omega
theorem mnF_mul {h : Nat → Int} {Q : Nat} : ∀ d : Nat, mnF h (d * Q) = mnF (fun e => mnF (fun x => h (e * Q + x)) Q) d := by
  intro d
  induction d with
  | zero => rw [Nat.zero_mul]; rfl
  | succ d ih =>
    rw [Nat.succ_mul, mnF_add, ih]
    rfl
/-- rows that come as told, by how many ROADS are left -/
def rwF (H : Nat) (cr : Nat → Nat → Int → Int) (ok : Int → Bool) : Nat → Int → Int
  | 0 => fun s => if ok s = true then 1 else 0
  | r + 1 => fun s => sumF (fun h => rwF H cr ok r (cr r h s)) H
def leF (H : Nat) (cr : Nat → Nat → Int → Int) : Nat → Int → Int
  | 0 => fun s => s
  | r + 1 => fun s => mnF (fun h => leF H cr r (cr r h s)) H
def vrF (H : Nat) (cr : Nat → Nat → Int → Int) : Nat → Int → Nat → Int
  | 0 => fun s _ => s
  | r + 1 => fun s c => vrF H cr r (cr r (c / H ^ r % H) s) c
theorem vr_mod {H : Nat} {cr : Nat → Nat → Int → Int} {c d : Nat} : ∀ (r : Nat) (s : Int), c % H ^ r = d % H ^ r → vrF H cr r s c = vrF H cr r s d := by
  intro r
  induction r with
  | zero => intro s _; rfl
  | succ r ih =>
    intro s h
    rw [Nat.pow_succ] at h
    have e1 : c / H ^ r % H = d / H ^ r % H := by
      rw [← Nat.mod_mul_right_div_self, ← Nat.mod_mul_right_div_self, h]
    have e2 : c % H ^ r = d % H ^ r := by
      rw [← Nat.mod_mul_right_mod c (H ^ r) H, ← Nat.mod_mul_right_mod d (H ^ r) H, h]
    show vrF H cr r (cr r (c / H ^ r % H) s) c = vrF H cr r (cr r (d / H ^ r % H) s) d
    rw [e1]
    exact ih _ e2
theorem vr_blk {H : Nat} {cr : Nat → Nat → Int → Int} {r e x : Nat} {s : Int} (he : e < H) (hx : x < H ^ r) : vrF H cr (r + 1) s (e * H ^ r + x) = vrF H cr r (cr r e s) x := by
  have p : 0 < H ^ r := by omega
  have d1 : (e * H ^ r + x) / H ^ r % H = e := by
    rw [Nat.add_comm, Nat.add_mul_div_right _ _ p, Nat.div_eq_of_lt hx, Nat.zero_add, Nat.mod_eq_of_lt he]
  have d2 : (e * H ^ r + x) % H ^ r = x := Nat.mul_add_mod_of_lt hx
  show vrF H cr r (cr r ((e * H ^ r + x) / H ^ r % H) s) (e * H ^ r + x) = _
  rw [d1]
  exact vr_mod r _ (by rw [d2, Nat.mod_eq_of_lt hx])
theorem rw_cnt {H : Nat} {cr : Nat → Nat → Int → Int} {ok : Int → Bool} : ∀ (r : Nat) (s : Int), cntF (fun c => ok (vrF H cr r s c)) (H ^ r) = rwF H cr ok r s := by
  intro r
  induction r with
  | zero =>
    intro s
    show (if ok s = true then (0 : Int) + 1 else 0) = if ok s = true then 1 else 0
    rfl
  | succ r ih =>
    intro s
    rw [Nat.pow_succ, Nat.mul_comm, cntF_mul]
    show _ = sumF (fun h => rwF H cr ok r (cr r h s)) H
    refine sumF_ext H (fun e he => ?_)
    show cntF (fun x => ok (vrF H cr (r + 1) s (e * H ^ r + x))) (H ^ r) = rwF H cr ok r (cr r e s)
    rw [← ih]
    exact cntF_ext _ (fun x hx => by rw [vr_blk he hx])
abbrev crB (H : Nat) (cr : Nat → Nat → Int → Int) : Prop := ∀ (r h : Nat) (s : Int), h < H → 0 ≤ s → s ≤ 999 → 0 ≤ cr r h s ∧ cr r h s ≤ 999
theorem le_mn {H : Nat} {cr : Nat → Nat → Int → Int} (hc : crB H cr) : ∀ (r : Nat) (s : Int), 0 ≤ s → s ≤ 999 → mnF (fun c => vrF H cr r s c) (H ^ r) = leF H cr r s := by
  intro r
  induction r with
  | zero =>
    intro s s0 s9
    show min 999 s = s
    omega
  | succ r ih =>
    intro s s0 s9
    rw [Nat.pow_succ, Nat.mul_comm, mnF_mul]
    show _ = mnF (fun h => leF H cr r (cr r h s)) H
    refine mnF_ext H (fun e he => ?_)
    show mnF (fun x => vrF H cr (r + 1) s (e * H ^ r + x)) (H ^ r) = leF H cr r (cr r e s)
    have q := hc r e s he s0 s9
    rw [← ih _ q.1 q.2]
    exact mnF_ext _ (fun x hx => vr_blk he hx)
theorem vr_b {H : Nat} {cr : Nat → Nat → Int → Int} (hc : crB H cr) : ∀ (r : Nat) (s : Int) (c : Nat), (0 < r → 0 < H) → 0 ≤ s → s ≤ 999 → 0 ≤ vrF H cr r s c ∧ vrF H cr r s c ≤ 999 := by
  intro r
  induction r with
  | zero => intro s c _ s0 s9; exact ⟨s0, s9⟩
  | succ r ih =>
    intro s c hH s0 s9
    have h0 := hH (Nat.succ_pos r)
    have q := hc r (c / H ^ r % H) s (Nat.mod_lt _ h0) s0 s9
    exact ih _ c (fun _ => h0) q.1 q.2
theorem rw_0 {H : Nat} {cr : Nat → Nat → Int → Int} {ok : Int → Bool} (r : Nat) (s : Int) : 0 ≤ rwF H cr ok r s ∧ rwF H cr ok r s ≤ ((H ^ r : Nat) : Int) := by
  rw [← rw_cnt]
  exact cntF_b _
theorem le_b {H : Nat} {cr : Nat → Nat → Int → Int} (hc : crB H cr) : ∀ (r : Nat) (s : Int), 0 ≤ s → s ≤ 999 → 0 ≤ leF H cr r s ∧ leF H cr r s ≤ 999 := by
  intro r
  induction r with
  | zero => intro s s0 s9; exact ⟨s0, s9⟩
  | succ r ih =>
    intro s s0 s9
    refine ⟨mnF_0 H (fun e he => ?_), mnF_9 H⟩
    have q := hc r e s he s0 s9
    exact (ih _ q.1 q.2).1
/-- no row comes as told, where none is counted -/
theorem rw_no {H : Nat} {cr : Nat → Nat → Int → Int} {ok : Int → Bool} {r : Nat} {s : Int} (hH : 0 < H) (h : rwF H cr ok r s = 0) (c : Nat) : ¬ ok (vrF H cr r s c) = true := by
  have p : 0 < H ^ r := Nat.pow_pos hH
  rw [← rw_cnt] at h
  have q := cntF_no _ h (c % H ^ r) (Nat.mod_lt c p)
  rw [vr_mod r s (show c % H ^ r = c % H ^ r % H ^ r by rw [Nat.mod_mod])]
  exact q
def fnF (p : Nat → Bool) : Nat → Nat → Nat
  | 0, _ => 0
  | k + 1, h => if p h = true then h else fnF p k (h + 1)
theorem fnF_at {p : Nat → Bool} {x : Nat} (hx : p x = true) : ∀ (k h : Nat), h ≤ x → x < h + k → h ≤ fnF p k h ∧ fnF p k h < h + k ∧ p (fnF p k h) = true ∧ ∀ y : Nat, h ≤ y → y < fnF p k h → ¬ p y = true := by
  intro k
  induction k with
  | zero => intro h a b; omega
  | succ k ih =>
    intro h a b
    by_cases q : p h = true
    · have e : fnF p (k + 1) h = h := if_pos q
      rw [e]
      exact ⟨Nat.le_refl h, by omega, q, fun y y0 y1 => by omega⟩
    · have e : fnF p (k + 1) h = fnF p k (h + 1) := if_neg q
      have n : ¬ h = x := fun z => q (by rw [z]; exact hx)
      obtain ⟨i1, i2, i3, i4⟩ := ih (h + 1) (by omega) (by omega)
      rw [e]
      refine ⟨by omega, by omega, i3, fun y y0 y1 => ?_⟩
      by_cases z : y = h
      · rw [z]; exact q
      · exact i4 y (by omega) y1
/-- the first HAND by which a row can still come as told -/
def fhF (H : Nat) (cr : Nat → Nat → Int → Int) (ok : Int → Bool) (r : Nat) (s : Int) : Nat := fnF (fun h => decide (0 < rwF H cr ok r (cr r h s))) H 0
theorem fhF_at {H : Nat} {cr : Nat → Nat → Int → Int} {ok : Int → Bool} {r : Nat} {s : Int} (h : 0 < rwF H cr ok (r + 1) s) : fhF H cr ok r s < H ∧ 0 < rwF H cr ok r (cr r (fhF H cr ok r s) s) ∧ ∀ y : Nat, y < fhF H cr ok r s → rwF H cr ok r (cr r y s) = 0 := by
  obtain ⟨x, x0, x1⟩ := (sumF_0 (h := fun h => rwF H cr ok r (cr r h s)) H (fun x _ => (rw_0 r _).1)).2 h
  obtain ⟨i1, i2, i3, i4⟩ := fnF_at (p := fun h => decide (0 < rwF H cr ok r (cr r h s))) (decide_eq_true x1) H 0 (Nat.zero_le x) (by omega)
  refine ⟨by unfold fhF; omega, of_decide_eq_true i3, fun y hy => ?_⟩
  have n := i4 y (Nat.zero_le y) hy
  have z := (rw_0 (H := H) (cr := cr) (ok := ok) r (cr r y s)).1
  have n2 : ¬ 0 < rwF H cr ok r (cr r y s) := fun q => n (decide_eq_true q)
  omega
def fcF (H : Nat) (cr : Nat → Nat → Int → Int) (ok : Int → Bool) : Nat → Int → Nat
  | 0 => fun _ => 0
  | r + 1 => fun s => fhF H cr ok r s * H ^ r + fcF H cr ok r (cr r (fhF H cr ok r s) s)
theorem fc_at {H : Nat} {cr : Nat → Nat → Int → Int} {ok : Int → Bool} : ∀ (r : Nat) (s : Int), 0 < rwF H cr ok r s → fcF H cr ok r s < H ^ r ∧ ok (vrF H cr r s (fcF H cr ok r s)) = true ∧ ∀ c : Nat, c < fcF H cr ok r s → ¬ ok (vrF H cr r s c) = true := by
  intro r
  induction r with
  | zero =>
    intro s h
    refine ⟨Nat.one_pos, ?_, fun c hc => absurd hc (Nat.not_lt_zero c)⟩
    have h2 : 0 < (if ok s = true then (1 : Int) else 0) := h
    by_cases z : ok s = true
    · exact z
    · rw [if_neg z] at h2; omega
  | succ r ih =>
    intro s h
    obtain ⟨q1, q2, q3⟩ := fhF_at h
    obtain ⟨i1, i2, i3⟩ := ih _ q2
    have hH : 0 < H := by omega
    have p : 0 < H ^ r := Nat.pow_pos hH
    have e : fcF H cr ok (r + 1) s = fhF H cr ok r s * H ^ r + fcF H cr ok r (cr r (fhF H cr ok r s) s) := rfl
    refine ⟨?_, ?_, fun c hc => ?_⟩
    · have a : fhF H cr ok r s + 1 ≤ H := q1
      have b := Nat.mul_le_mul_right (H ^ r) a
      rw [Nat.succ_mul] at b
      rw [e, Nat.pow_succ, Nat.mul_comm (H ^ r) H]
      omega
    · rw [e, vr_blk q1 i1]
      exact i2
    · rw [e] at hc
      have dm := Nat.div_add_mod' c (H ^ r)
      have ml := Nat.mod_lt c p
      obtain ⟨d, ed⟩ : ∃ d : Nat, d = c / H ^ r := ⟨_, rfl⟩
      obtain ⟨x, ex⟩ : ∃ x : Nat, x = c % H ^ r := ⟨_, rfl⟩
      rw [← ed, ← ex] at dm
      rw [← ex] at ml
      have dle : d ≤ fhF H cr ok r s := by
        apply Classical.byContradiction
        intro n
        have n2 : fhF H cr ok r s + 1 ≤ d := by omega
        have n3 := Nat.mul_le_mul_right (H ^ r) n2
        rw [Nat.succ_mul] at n3
        omega
      rw [← dm, vr_blk (by omega) ml]
      by_cases z : d < fhF H cr ok r s
      · exact rw_no hH (q3 d z) x
      · have de : d = fhF H cr ok r s := by omega
        rw [de] at dm ⊢
        exact i3 x (by omega)
/-- how far the JUG has TURNED along the first row -/
def tpF (H : Nat) (cr : Nat → Nat → Int → Int) (ok : Int → Bool) (n : Nat) (s : Int) : Nat → Int
  | 0 => s
  | i + 1 => cr (n - 1 - i) (fhF H cr ok (n - 1 - i) (tpF H cr ok n s i)) (tpF H cr ok n s i)
theorem fc_tp {H : Nat} {cr : Nat → Nat → Int → Int} {ok : Int → Bool} {n : Nat} {s : Int} (h : 0 < rwF H cr ok n s) : ∀ i : Nat, i ≤ n → 0 < rwF H cr ok (n - i) (tpF H cr ok n s i) ∧ fcF H cr ok n s % H ^ (n - i) = fcF H cr ok (n - i) (tpF H cr ok n s i) := by
  intro i
  induction i with
  | zero => intro _; exact ⟨h, Nat.mod_eq_of_lt (fc_at n s h).1⟩
  | succ i ih =>
    intro hi
    obtain ⟨a, b⟩ := ih (by omega)
    obtain ⟨r, er⟩ : ∃ r : Nat, r = n - (i + 1) := ⟨_, rfl⟩
    rw [show n - i = r + 1 by omega] at a b
    rw [← er]
    obtain ⟨q1, q2, q3⟩ := fhF_at a
    have e : tpF H cr ok n s (i + 1) = cr r (fhF H cr ok r (tpF H cr ok n s i)) (tpF H cr ok n s i) := by
      rw [show r = n - 1 - i by omega]; rfl
    rw [e]
    refine ⟨q2, ?_⟩
    have l := (fc_at r _ q2).1
    have e2 : fcF H cr ok (r + 1) (tpF H cr ok n s i) = fhF H cr ok r (tpF H cr ok n s i) * H ^ r + fcF H cr ok r (cr r (fhF H cr ok r (tpF H cr ok n s i)) (tpF H cr ok n s i)) := rfl
    rw [← Nat.mod_mul_right_mod _ (H ^ r) H, ← Nat.pow_succ, b, e2, Nat.mul_add_mod_of_lt l]
theorem fc_dg {H : Nat} {cr : Nat → Nat → Int → Int} {ok : Int → Bool} {n i r : Nat} {s : Int} (h : 0 < rwF H cr ok n s) (e : n = i + 1 + r) : fcF H cr ok n s / H ^ r % H = fhF H cr ok r (tpF H cr ok n s i) := by
  obtain ⟨a, b⟩ := fc_tp h i (by omega)
  rw [show n - i = r + 1 by omega] at a b
  obtain ⟨q1, q2, q3⟩ := fhF_at a
  have hH : 0 < H := by omega
  have p : 0 < H ^ r := Nat.pow_pos hH
  have l := (fc_at r _ q2).1
  have e2 : fcF H cr ok (r + 1) (tpF H cr ok n s i) = fhF H cr ok r (tpF H cr ok n s i) * H ^ r + fcF H cr ok r (cr r (fhF H cr ok r (tpF H cr ok n s i)) (tpF H cr ok n s i)) := rfl
  rw [← Nat.mod_mul_right_div_self, ← Nat.pow_succ, b, e2, Nat.add_comm, Nat.add_mul_div_right _ _ p, Nat.div_eq_of_lt l, Nat.zero_add]
theorem tp_b {H : Nat} {cr : Nat → Nat → Int → Int} {ok : Int → Bool} {n : Nat} {s : Int} (hc : crB H cr) (h : 0 < rwF H cr ok n s) (s0 : 0 ≤ s) (s9 : s ≤ 999) : ∀ i : Nat, i ≤ n → 0 ≤ tpF H cr ok n s i ∧ tpF H cr ok n s i ≤ 999 := by
  intro i
  induction i with
  | zero => intro _; exact ⟨s0, s9⟩
  | succ i ih =>
    intro hi
    have q := ih (by omega)
    obtain ⟨a, _⟩ := fc_tp h i (by omega)
    rw [show n - i = n - 1 - i + 1 by omega] at a
    obtain ⟨q1, q2, q3⟩ := fhF_at a
    exact hc _ _ _ q1 q.1 q.2
