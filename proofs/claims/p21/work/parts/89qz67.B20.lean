section
/-! MATCH over numbers: the best by a table, and by all rows one after another -/
theorem bt_01 : ∀ v : Nat, v < 32 → ∀ j : Nat, j < 5 → btF (v : Int) (j : Int) = 0 ∨ btF (v : Int) (j : Int) = 1 := by decide +kernel
theorem or_15 : ∀ v : Nat, v < 16 → ∀ j : Nat, j < 4 → 0 ≤ iOr (v : Int) (iShl 1 (j : Int)) ∧ iOr (v : Int) (iShl 1 (j : Int)) ≤ 15 := by decide +kernel
def mxF (h : Int → Int) (b : Int) : Nat → Int
  | 0 => b
  | n + 1 => max (mxF h b n) (h (n : Int))
theorem mxF_b {h : Int → Int} {b : Int} : ∀ n : Nat, b ≤ mxF h b n := by
  intro n
  induction n with
  | zero => exact Int.le_refl b
  | succ n ih =>
    show b ≤ max (mxF h b n) (h (n : Int))
    omega
theorem mxF_h {h : Int → Int} {b : Int} : ∀ (n : Nat) (j : Int), 0 ≤ j → j < (n : Int) → h j ≤ mxF h b n := by
  intro n
  induction n with
  | zero => intro j a c; omega
  | succ n ih =>
    intro j a c
    show h j ≤ max (mxF h b n) (h (n : Int))
    by_cases e : j = (n : Int)
    · rw [e]; omega
    · have q := ih j a (by omega)
      omega
theorem mxF_at {h : Int → Int} {b : Int} : ∀ n : Nat, mxF h b n = b ∨ ∃ j : Int, 0 ≤ j ∧ j < (n : Int) ∧ h j = mxF h b n := by
  intro n
  induction n with
  | zero => exact Or.inl rfl
  | succ n ih =>
    have e : mxF h b (n + 1) = max (mxF h b n) (h (n : Int)) := rfl
    by_cases q : h (n : Int) ≤ mxF h b n
    · have e2 : mxF h b (n + 1) = mxF h b n := by omega
      rw [e2]
      rcases ih with z | ⟨j, a, c, z⟩
      · exact Or.inl z
      · exact Or.inr ⟨j, a, by omega, z⟩
    · exact Or.inr ⟨(n : Int), by omega, by omega, by omega⟩
def nuF (u c : Int) : Int := if c = -1 then u else iOr u (iShl 1 c)
def jwF (kk : Nat → Int → Bool) (py : Nat → Int) (r : Nat) (g : Int → Int) (u j : Int) : Int := if ¬ btF u j = 1 ∧ kk r j = true then py r + g (iOr u (iShl 1 j)) else -1
def mW (J : Nat) (kk : Nat → Int → Bool) (py : Nat → Int) : Nat → Int → Int
  | 0 => fun _ => 0
  | r + 1 => fun u => mxF (jwF kk py r (mW J kk py r) u) (mW J kk py r u) J
def pwF (J : Nat) (kk : Nat → Int → Bool) (py : Nat → Int) (r : Nat) (u c : Int) : Int := if c = -1 then mW J kk py r u else jwF kk py r (mW J kk py r) u c
theorem mW_0 {J : Nat} {kk : Nat → Int → Bool} {py : Nat → Int} : ∀ (r : Nat) (u : Int), 0 ≤ mW J kk py r u := by
  intro r
  induction r with
  | zero => intro u; exact Int.le_refl 0
  | succ r ih =>
    intro u
    have a := ih u
    have b := mxF_b (h := jwF kk py r (mW J kk py r) u) (b := mW J kk py r u) J
    show 0 ≤ mxF (jwF kk py r (mW J kk py r) u) (mW J kk py r u) J
    omega
theorem mW_b {J : Nat} {kk : Nat → Int → Bool} {py : Nat → Int} {W : Int} (hp : ∀ r : Nat, (r : Int) < W → 0 ≤ py r ∧ py r ≤ 50) : ∀ (r : Nat) (u : Int), (r : Int) ≤ W → mW J kk py r u ≤ 50 * (r : Int) := by
  intro r
  induction r with
  | zero => intro u _; exact Int.le_refl 0
  | succ r ih =>
    intro u hr
    have a := ih u (by omega)
    have p := hp r (by omega)
    have e : mW J kk py (r + 1) u = mxF (jwF kk py r (mW J kk py r) u) (mW J kk py r u) J := rfl
    rcases mxF_at (h := jwF kk py r (mW J kk py r) u) (b := mW J kk py r u) J with z | ⟨j, j0, j1, z⟩
    · omega
    · have q : jwF kk py r (mW J kk py r) u j ≤ 50 * (r : Int) + 50 := by
        unfold jwF
        by_cases w : ¬ btF u j = 1 ∧ kk r j = true
        · rw [if_pos w]
          have b := ih (iOr u (iShl 1 j)) (by omega)
          omega
        · rw [if_neg w]
          omega
      omega
theorem pwF_le {J : Nat} {kk : Nat → Int → Bool} {py : Nat → Int} {r : Nat} {u c : Int} (c0 : -1 ≤ c) (c1 : c < (J : Int)) : pwF J kk py r u c ≤ mW J kk py (r + 1) u := by
  unfold pwF
  show _ ≤ mxF (jwF kk py r (mW J kk py r) u) (mW J kk py r u) J
  by_cases e : c = -1
  · rw [if_pos e]; exact mxF_b J
  · rw [if_neg e]; exact mxF_h J c (by omega) c1
def fsF (h : Int → Int) (v : Int) : Nat → Int → Int
  | 0, _ => -1
  | n + 1, c => if h c = v then c else fsF h v n (c + 1)
theorem fsF_at {h : Int → Int} {v x : Int} (hx : h x = v) : ∀ (n : Nat) (c : Int), c ≤ x → x < c + (n : Int) → c ≤ fsF h v n c ∧ fsF h v n c < c + (n : Int) ∧ h (fsF h v n c) = v ∧ ∀ y : Int, c ≤ y → y < fsF h v n c → ¬ h y = v := by
  intro n
  induction n with
  | zero => intro c a b; omega
  | succ n ih =>
    intro c a b
    by_cases q : h c = v
    · have e : fsF h v (n + 1) c = c := if_pos q
      rw [e]
      exact ⟨Int.le_refl c, by omega, q, fun y y0 y1 => by omega⟩
    · have e : fsF h v (n + 1) c = fsF h v n (c + 1) := if_neg q
      have nx : ¬ c = x := fun z => q (by rw [z]; exact hx)
      obtain ⟨i1, i2, i3, i4⟩ := ih (c + 1) (by omega) (by omega)
      rw [e]
      refine ⟨by omega, by omega, i3, fun y y0 y1 => ?_⟩
      by_cases z : y = c
      · rw [z]; exact q
      · exact i4 y (by omega) y1
def f1F (J : Nat) (kk : Nat → Int → Bool) (py : Nat → Int) (r : Nat) (u : Int) : Int := fsF (pwF J kk py r u) (mW J kk py (r + 1) u) (J + 1) (-1)
theorem f1F_at {J : Nat} {kk : Nat → Int → Bool} {py : Nat → Int} (r : Nat) (u : Int) : -1 ≤ f1F J kk py r u ∧ f1F J kk py r u < (J : Int) ∧ pwF J kk py r u (f1F J kk py r u) = mW J kk py (r + 1) u ∧ ∀ y : Int, -1 ≤ y → y < f1F J kk py r u → ¬ pwF J kk py r u y = mW J kk py (r + 1) u := by
  have go : ∀ x : Int, -1 ≤ x → x < (J : Int) → pwF J kk py r u x = mW J kk py (r + 1) u → -1 ≤ f1F J kk py r u ∧ f1F J kk py r u < (J : Int) ∧ pwF J kk py r u (f1F J kk py r u) = mW J kk py (r + 1) u ∧ ∀ y : Int, -1 ≤ y → y < f1F J kk py r u → ¬ pwF J kk py r u y = mW J kk py (r + 1) u := by
    intro x x0 x1 hx
    have q := fsF_at hx (J + 1) (-1) x0 (by omega)
    exact ⟨q.1, by have := q.2.1; unfold f1F; omega, q.2.2.1, q.2.2.2⟩
  rcases mxF_at (h := jwF kk py r (mW J kk py r) u) (b := mW J kk py r u) J with z | ⟨j, j0, j1, z⟩
  · refine go (-1) (by decide) (by omega) ?_
    have e : pwF J kk py r u (-1) = mW J kk py r u := if_pos rfl
    rw [e]
    exact z.symm
  · refine go j (by omega) j1 ?_
    have e : pwF J kk py r u j = jwF kk py r (mW J kk py r) u j := if_neg (by omega)
    rw [e]
    exact z
/-- the first row that is best, as a number to the base J + 1 -/
def foF (J : Nat) (kk : Nat → Int → Bool) (py : Nat → Int) : Nat → Int → Nat
  | 0 => fun _ => 0
  | r + 1 => fun u => (f1F J kk py r u + 1).toNat * (J + 1) ^ r + foF J kk py r (nuF u (f1F J kk py r u))
/-- what a row comes to -/
def vlF (J : Nat) (kk : Nat → Int → Bool) (py : Nat → Int) : Nat → Int → Nat → Int
  | 0 => fun _ _ => 0
  | r + 1 => fun u c => if c / (J + 1) ^ r % (J + 1) = 0 then vlF J kk py r u c else if ¬ btF u (((c / (J + 1) ^ r % (J + 1) : Nat) : Int) - 1) = 1 ∧ kk r (((c / (J + 1) ^ r % (J + 1) : Nat) : Int) - 1) = true then (if vlF J kk py r (iOr u (iShl 1 (((c / (J + 1) ^ r % (J + 1) : Nat) : Int) - 1))) c < 0 then -1 else py r + vlF J kk py r (iOr u (iShl 1 (((c / (J + 1) ^ r % (J + 1) : Nat) : Int) - 1))) c) else -1
theorem vlF_n {J : Nat} {kk : Nat → Int → Bool} {py : Nat → Int} {r c : Nat} {u : Int} (h : c / (J + 1) ^ r % (J + 1) = 0) : vlF J kk py (r + 1) u c = vlF J kk py r u c := if_pos h
theorem vlF_j {J : Nat} {kk : Nat → Int → Bool} {py : Nat → Int} {r c : Nat} {u j : Int} (h : ((c / (J + 1) ^ r % (J + 1) : Nat) : Int) = j + 1) (j0 : 0 ≤ j) (g : ¬ btF u j = 1 ∧ kk r j = true) : vlF J kk py (r + 1) u c = if vlF J kk py r (iOr u (iShl 1 j)) c < 0 then -1 else py r + vlF J kk py r (iOr u (iShl 1 j)) c := by
  have e : ((c / (J + 1) ^ r % (J + 1) : Nat) : Int) - 1 = j := by omega
  have q : vlF J kk py (r + 1) u c = if ¬ btF u (((c / (J + 1) ^ r % (J + 1) : Nat) : Int) - 1) = 1 ∧ kk r (((c / (J + 1) ^ r % (J + 1) : Nat) : Int) - 1) = true then (if vlF J kk py r (iOr u (iShl 1 (((c / (J + 1) ^ r % (J + 1) : Nat) : Int) - 1))) c < 0 then -1 else py r + vlF J kk py r (iOr u (iShl 1 (((c / (J + 1) ^ r % (J + 1) : Nat) : Int) - 1))) c) else -1 := if_neg (by omega)
  rw [q, e, if_pos g]
theorem vlF_x {J : Nat} {kk : Nat → Int → Bool} {py : Nat → Int} {r c : Nat} {u j : Int} (h : ((c / (J + 1) ^ r % (J + 1) : Nat) : Int) = j + 1) (j0 : 0 ≤ j) (g : ¬ (¬ btF u j = 1 ∧ kk r j = true)) : vlF J kk py (r + 1) u c = -1 := by
  have e : ((c / (J + 1) ^ r % (J + 1) : Nat) : Int) - 1 = j := by omega
  have q : vlF J kk py (r + 1) u c = if ¬ btF u (((c / (J + 1) ^ r % (J + 1) : Nat) : Int) - 1) = 1 ∧ kk r (((c / (J + 1) ^ r % (J + 1) : Nat) : Int) - 1) = true then (if vlF J kk py r (iOr u (iShl 1 (((c / (J + 1) ^ r % (J + 1) : Nat) : Int) - 1))) c < 0 then -1 else py r + vlF J kk py r (iOr u (iShl 1 (((c / (J + 1) ^ r % (J + 1) : Nat) : Int) - 1))) c) else -1 := if_neg (by omega)
  rw [q, e, if_neg g]
theorem dg_lt {J c r : Nat} : c / (J + 1) ^ r % (J + 1) < J + 1 := Nat.mod_lt _ (Nat.succ_pos J)
/-- a row is no better than its choice of one WANT -/
theorem vl_pw {J : Nat} {kk : Nat → Int → Bool} {py : Nat → Int} {r c : Nat} {u : Int} (ih : ∀ (u : Int), vlF J kk py r u c ≤ mW J kk py r u) : vlF J kk py (r + 1) u c ≤ pwF J kk py r u (((c / (J + 1) ^ r % (J + 1) : Nat) : Int) - 1) ∨ vlF J kk py (r + 1) u c = -1 := by
  by_cases z : c / (J + 1) ^ r % (J + 1) = 0
  · have e : pwF J kk py r u (((c / (J + 1) ^ r % (J + 1) : Nat) : Int) - 1) = mW J kk py r u := if_pos (by omega)
    rw [e, vlF_n z]
    exact Or.inl (ih u)
  · obtain ⟨j, ej⟩ : ∃ j : Int, j = ((c / (J + 1) ^ r % (J + 1) : Nat) : Int) - 1 := ⟨_, rfl⟩
    rw [← ej]
    by_cases g : ¬ btF u j = 1 ∧ kk r j = true
    · have e : pwF J kk py r u j = jwF kk py r (mW J kk py r) u j := if_neg (by omega)
      have e2 : jwF kk py r (mW J kk py r) u j = py r + mW J kk py r (iOr u (iShl 1 j)) := if_pos g
      rw [e, e2, vlF_j (j := j) (by omega) (by omega) g]
      have q := ih (iOr u (iShl 1 j))
      by_cases w : vlF J kk py r (iOr u (iShl 1 j)) c < 0
      · rw [if_pos w]; exact Or.inr rfl
      · rw [if_neg w]; exact Or.inl (by omega)
    · exact Or.inr (vlF_x (j := j) (by omega) (by omega) g)
theorem vl_le {J : Nat} {kk : Nat → Int → Bool} {py : Nat → Int} {c : Nat} : ∀ (r : Nat) (u : Int), vlF J kk py r u c ≤ mW J kk py r u := by
  intro r
  induction r with
  | zero => intro u; exact Int.le_refl 0
  | succ r ih =>
    intro u
    have d := dg_lt (J := J) (c := c) (r := r)
    rcases vl_pw (u := u) ih with q | q
    · have b := pwF_le (J := J) (kk := kk) (py := py) (r := r) (u := u) (c := ((c / (J + 1) ^ r % (J + 1) : Nat) : Int) - 1) (by omega) (by omega)
      omega
    · have b := mW_0 (J := J) (kk := kk) (py := py) (r + 1) u
      omega
theorem vl_mod {J : Nat} {kk : Nat → Int → Bool} {py : Nat → Int} {c d : Nat} : ∀ (r : Nat) (u : Int), c % (J + 1) ^ r = d % (J + 1) ^ r → vlF J kk py r u c = vlF J kk py r u d := by
  intro r
  induction r with
  | zero => intro u _; rfl
  | succ r ih =>
    intro u h
    rw [Nat.pow_succ] at h
    have e1 : c / (J + 1) ^ r % (J + 1) = d / (J + 1) ^ r % (J + 1) := by
      rw [← Nat.mod_mul_right_div_self, ← Nat.mod_mul_right_div_self, h]
    have e2 : c % (J + 1) ^ r = d % (J + 1) ^ r := by
      rw [← Nat.mod_mul_right_mod c ((J + 1) ^ r) (J + 1), ← Nat.mod_mul_right_mod d ((J + 1) ^ r) (J + 1), h]
    by_cases z : c / (J + 1) ^ r % (J + 1) = 0
    · rw [vlF_n z, vlF_n (by rw [← e1]; exact z)]
      exact ih u e2
    · obtain ⟨j, ej⟩ : ∃ j : Int, j = ((c / (J + 1) ^ r % (J + 1) : Nat) : Int) - 1 := ⟨_, rfl⟩
      by_cases g : ¬ btF u j = 1 ∧ kk r j = true
      · rw [vlF_j (j := j) (by omega) (by omega) g, vlF_j (j := j) (by rw [← e1]; omega) (by omega) g, ih _ e2]
      · rw [vlF_x (j := j) (by omega) (by omega) g, vlF_x (j := j) (by rw [← e1]; omega) (by omega) g]
theorem fo_lt {J : Nat} {kk : Nat → Int → Bool} {py : Nat → Int} : ∀ (r : Nat) (u : Int), foF J kk py r u < (J + 1) ^ r := by
  intro r
  induction r with
  | zero => intro u; exact Nat.one_pos
  | succ r ih =>
    intro u
    have a := ih (nuF u (f1F J kk py r u))
    have q := f1F_at (J := J) (kk := kk) (py := py) r u
    have b : (f1F J kk py r u + 1).toNat ≤ J := by omega
    have c := Nat.mul_le_mul_right ((J + 1) ^ r) b
    have e : (J + 1) ^ (r + 1) = J * (J + 1) ^ r + (J + 1) ^ r := by
      rw [Nat.pow_succ, Nat.mul_comm, Nat.succ_mul]
    show (f1F J kk py r u + 1).toNat * (J + 1) ^ r + foF J kk py r (nuF u (f1F J kk py r u)) < (J + 1) ^ (r + 1)
    omega
theorem fo_dg {J : Nat} {kk : Nat → Int → Bool} {py : Nat → Int} (r : Nat) (u : Int) : foF J kk py (r + 1) u / (J + 1) ^ r = (f1F J kk py r u + 1).toNat ∧ foF J kk py (r + 1) u % (J + 1) ^ r = foF J kk py r (nuF u (f1F J kk py r u)) := by
  have a := fo_lt (J := J) (kk := kk) (py := py) r (nuF u (f1F J kk py r u))
  have e : foF J kk py (r + 1) u = (f1F J kk py r u + 1).toNat * (J + 1) ^ r + foF J kk py r (nuF u (f1F J kk py r u)) := rfl
  have p : 0 < (J + 1) ^ r := Nat.pow_pos (Nat.succ_pos J)
  constructor
  · rw [e, Nat.add_comm, Nat.add_mul_div_right _ _ p, Nat.div_eq_of_lt a, Nat.zero_add]
  · rw [e, Nat.mul_add_mod_of_lt a]
theorem vl_fo {J : Nat} {kk : Nat → Int → Bool} {py : Nat → Int} : ∀ (r : Nat) (u : Int), vlF J kk py r u (foF J kk py r u) = mW J kk py r u := by
  intro r
  induction r with
  | zero => intro u; rfl
  | succ r ih =>
    intro u
    obtain ⟨d1, d2⟩ := fo_dg (J := J) (kk := kk) (py := py) r u
    obtain ⟨q1, q2, q3, q4⟩ := f1F_at (J := J) (kk := kk) (py := py) r u
    have dg : foF J kk py (r + 1) u / (J + 1) ^ r % (J + 1) = (f1F J kk py r u + 1).toNat := by
      rw [d1]; exact Nat.mod_eq_of_lt (by omega)
    have rs : ∀ v : Int, vlF J kk py r v (foF J kk py (r + 1) u) = vlF J kk py r v (foF J kk py r (nuF u (f1F J kk py r u))) := fun v => vl_mod r v (by rw [d2, Nat.mod_eq_of_lt (fo_lt r _)])
    by_cases e : f1F J kk py r u = -1
    · rw [vlF_n (by rw [dg, e]; rfl), rs]
      have e1 : nuF u (f1F J kk py r u) = u := if_pos e
      rw [e1, ih]
      have e2 : pwF J kk py r u (f1F J kk py r u) = mW J kk py r u := if_pos e
      rw [← q3, e2]
    · have e2 : pwF J kk py r u (f1F J kk py r u) = jwF kk py r (mW J kk py r) u (f1F J kk py r u) := if_neg e
      have m0 := mW_0 (J := J) (kk := kk) (py := py) (r + 1) u
      by_cases g : ¬ btF u (f1F J kk py r u) = 1 ∧ kk r (f1F J kk py r u) = true
      · have e3 : jwF kk py r (mW J kk py r) u (f1F J kk py r u) = py r + mW J kk py r (iOr u (iShl 1 (f1F J kk py r u))) := if_pos g
        have e1 : nuF u (f1F J kk py r u) = iOr u (iShl 1 (f1F J kk py r u)) := if_neg e
        have m1 := mW_0 (J := J) (kk := kk) (py := py) r (iOr u (iShl 1 (f1F J kk py r u)))
        rw [vlF_j (j := f1F J kk py r u) (by rw [dg]; omega) (by omega) g, rs, e1, ih, if_neg (by omega), ← q3, e2, e3]
      · have e3 : jwF kk py r (mW J kk py r) u (f1F J kk py r u) = -1 := if_neg g
        omega
theorem vl_lt {J : Nat} {kk : Nat → Int → Bool} {py : Nat → Int} : ∀ (r : Nat) (u : Int) (c : Nat), c < foF J kk py r u → vlF J kk py r u c < mW J kk py r u := by
  intro r
  induction r with
  | zero => intro u c h; exact absurd h (Nat.not_lt_zero c)
  | succ r ih =>
    intro u c h
    obtain ⟨q1, q2, q3, q4⟩ := f1F_at (J := J) (kk := kk) (py := py) r u
    have m0 := mW_0 (J := J) (kk := kk) (py := py) (r + 1) u
    have e : foF J kk py (r + 1) u = (f1F J kk py r u + 1).toNat * (J + 1) ^ r + foF J kk py r (nuF u (f1F J kk py r u)) := rfl
    have fl := fo_lt (J := J) (kk := kk) (py := py) r (nuF u (f1F J kk py r u))
    have p : 0 < (J + 1) ^ r := Nat.pow_pos (Nat.succ_pos J)
    have dm := Nat.div_add_mod' c ((J + 1) ^ r)
    have ml := Nat.mod_lt c p
    obtain ⟨d, ed⟩ : ∃ d : Nat, d = c / (J + 1) ^ r := ⟨_, rfl⟩
    rw [← ed] at dm
    have dle : d ≤ (f1F J kk py r u + 1).toNat := by
      apply Classical.byContradiction
      intro n
      have n2 : (f1F J kk py r u + 1).toNat + 1 ≤ d := by omega
      have n3 := Nat.mul_le_mul_right ((J + 1) ^ r) n2
      rw [Nat.succ_mul] at n3
      have j0 := Int.natCast_nonneg (c % (J + 1) ^ r)
      omega
    have dm2 : c / (J + 1) ^ r % (J + 1) = d := by rw [← ed]; exact Nat.mod_eq_of_lt (by omega)
    by_cases dl : d < (f1F J kk py r u + 1).toNat
    · rcases vl_pw (kk := kk) (py := py) (u := u) (r := r) (c := c) (fun v => vl_le r v) with q | q
      · rw [dm2] at q
        have b := pwF_le (J := J) (kk := kk) (py := py) (r := r) (u := u) (c := (d : Int) - 1) (by omega) (by omega)
        have n := q4 ((d : Int) - 1) (by omega) (by omega)
        omega
      · omega
    · have de : d = (f1F J kk py r u + 1).toNat := by omega
      have cl : c % (J + 1) ^ r < foF J kk py r (nuF u (f1F J kk py r u)) := by
        rw [de] at dm
        omega
      have il := ih _ _ cl
      have rs : ∀ v : Int, vlF J kk py r v c = vlF J kk py r v (c % (J + 1) ^ r) := fun v => vl_mod r v (by rw [Nat.mod_mod])
      by_cases e1 : f1F J kk py r u = -1
      · have en : nuF u (f1F J kk py r u) = u := if_pos e1
        rw [en] at il
        have e2 : pwF J kk py r u (f1F J kk py r u) = mW J kk py r u := if_pos e1
        rw [vlF_n (by rw [dm2, de, e1]; rfl), rs, ← q3, e2]
        exact il
      · have en : nuF u (f1F J kk py r u) = iOr u (iShl 1 (f1F J kk py r u)) := if_neg e1
        rw [en] at il
        have e2 : pwF J kk py r u (f1F J kk py r u) = jwF kk py r (mW J kk py r) u (f1F J kk py r u) := if_neg e1
        by_cases g : ¬ btF u (f1F J kk py r u) = 1 ∧ kk r (f1F J kk py r u) = true
        · have e3 : jwF kk py r (mW J kk py r) u (f1F J kk py r u) = py r + mW J kk py r (iOr u (iShl 1 (f1F J kk py r u))) := if_pos g
          rw [vlF_j (j := f1F J kk py r u) (by rw [dm2]; omega) (by omega) g, rs]
          by_cases w : vlF J kk py r (iOr u (iShl 1 (f1F J kk py r u))) (c % (J + 1) ^ r) < 0
          · rw [if_pos w]; omega
          · rw [if_neg w]; omega
        · rw [vlF_x (j := f1F J kk py r u) (by rw [dm2]; omega) (by omega) g]
          omega
/-- the JUGS used ahead of a WANT in the first best row -/
def usF (J : Nat) (kk : Nat → Int → Bool) (py : Nat → Int) (W : Nat) : Nat → Int
  | 0 => 0
  | w + 1 => nuF (usF J kk py W w) (f1F J kk py (W - 1 - w) (usF J kk py W w))
theorem fo_us {J : Nat} {kk : Nat → Int → Bool} {py : Nat → Int} {W : Nat} : ∀ w : Nat, w ≤ W → foF J kk py W 0 % (J + 1) ^ (W - w) = foF J kk py (W - w) (usF J kk py W w) := by
  intro w
  induction w with
  | zero => intro _; exact Nat.mod_eq_of_lt (fo_lt W 0)
  | succ w ih =>
    intro h
    have q := ih (by omega)
    obtain ⟨r, er⟩ : ∃ r : Nat, r = W - (w + 1) := ⟨_, rfl⟩
    have e1 : W - w = r + 1 := by omega
    have e2 : W - 1 - w = r := by omega
    rw [e1] at q
    rw [← er]
    have e3 : usF J kk py W (w + 1) = nuF (usF J kk py W w) (f1F J kk py r (usF J kk py W w)) := by rw [← e2]; rfl
    rw [e3, ← (fo_dg r (usF J kk py W w)).2, ← q, Nat.pow_succ, Nat.mod_mul_right_mod]
theorem fo_at {J : Nat} {kk : Nat → Int → Bool} {py : Nat → Int} {W w r : Nat} (h : W = w + 1 + r) : ((foF J kk py W 0 / (J + 1) ^ r % (J + 1) : Nat) : Int) - 1 = f1F J kk py r (usF J kk py W w) := by
  have q := fo_us (J := J) (kk := kk) (py := py) (W := W) w (by omega)
  rw [show W - w = r + 1 by omega] at q
  have z := f1F_at (J := J) (kk := kk) (py := py) r (usF J kk py W w)
  have e : foF J kk py W 0 / (J + 1) ^ r % (J + 1) = (f1F J kk py r (usF J kk py W w) + 1).toNat := by
    rw [← (fo_dg r (usF J kk py W w)).1, ← q, Nat.pow_succ, Nat.mod_mul_right_div_self]
  rw [e]
  omega
theorem us_b {J : Nat} {kk : Nat → Int → Bool} {py : Nat → Int} {W : Nat} (hJ : J ≤ 4) : ∀ w : Nat, 0 ≤ usF J kk py W w ∧ usF J kk py W w ≤ 15 := by
  intro w
  induction w with
  | zero => exact ⟨Int.le_refl 0, by show (0 : Int) ≤ 15; decide⟩
  | succ w ih =>
    have z := f1F_at (J := J) (kk := kk) (py := py) (W - 1 - w) (usF J kk py W w)
    show 0 ≤ nuF (usF J kk py W w) (f1F J kk py (W - 1 - w) (usF J kk py W w)) ∧ nuF (usF J kk py W w) (f1F J kk py (W - 1 - w) (usF J kk py W w)) ≤ 15
    unfold nuF
    by_cases e : f1F J kk py (W - 1 - w) (usF J kk py W w) = -1
    · rw [if_pos e]; exact ih
    · rw [if_neg e]
      have o := or_15 (usF J kk py W w).toNat (by omega) (f1F J kk py (W - 1 - w) (usF J kk py W w)).toNat (by omega)
      rw [Int.toNat_of_nonneg ih.1, Int.toNat_of_nonneg (by omega)] at o
      exact o
/-- which JUG a WANT may have, its PAY; by how many WANTS come behind it -/
def kkD (D : Int → Int) (r : Nat) (j : Int) : Bool := decide (D (51 + (D 6 - 1 - (r : Int))) < 0 ∧ ¬ D (35 + 4 * j + 3) = 1 ∧ D (93 + 4 * (D 6 - 1 - (r : Int)) + 1) ≤ D (35 + 4 * j + 2) ∧ D (35 + 4 * j + 2) ≤ D (93 + 4 * (D 6 - 1 - (r : Int)) + 2))
def pyD (D : Int → Int) (r : Nat) : Int := D (93 + 4 * (D 6 - 1 - (r : Int)) + 3)
theorem kkD_iff {D : Int → Int} {r : Nat} {j w : Int} (ew : D 6 - 1 - (r : Int) = w) : kkD D r j = true ↔ (D (51 + w) < 0 ∧ ¬ D (35 + 4 * j + 3) = 1 ∧ D (93 + 4 * w + 1) ≤ D (35 + 4 * j + 2) ∧ D (35 + 4 * j + 2) ≤ D (93 + 4 * w + 2)) := by
  unfold kkD
  rw [ew]
  exact ⟨fun h => of_decide_eq_true h, fun h => decide_eq_true h⟩
theorem pyD_w {D : Int → Int} {r : Nat} {w : Int} (ew : D 6 - 1 - (r : Int) = w) : pyD D r = D (93 + 4 * w + 3) := by
  unfold pyD
  rw [ew]
end
section
/-! MATCH of the class: the table -/
theorem zq_payWith {S : Sh} {m : Mm} {K : Int → Mm → Prop} {n w u c : Int} {D : Int → Int} {r : Nat} (hS : Shp S) (hz : RZ S m n) (eD : m 346 = D) (ew : D 6 - 1 - (r : Int) = w) (w0 : 0 ≤ w) (u0 : 0 ≤ u) (u1 : u ≤ 15) (c0 : -1 ≤ c) (c1 : c < D 5) (hp : ∀ r : Nat, (r : Int) < D 6 → 0 ≤ pyD D r ∧ pyD D r ≤ 50) (hg : ∀ v : Int, 0 ≤ v → v ≤ 15 → m 64 ((w + 1) * 16 + v) = mW (D 5).toNat (kkD D) (pyD D) r v) (hk : K (pwF (D 5).toNat (kkD D) (pyD D) r u c) m) : wp_X6_payWith S m 63 16 w u c K := by
  have hm := hz.inv
  have db := hz.db
  rw [eD] at db
  have w5 : w < D 6 := by omega
  have hr : (r : Int) < D 6 := by omega
  refine u_X6_payWith ?_
  refine g_C ?_
  refine g_A (by omega) (by omega) ?_
  refine g_C ?_
  refine g_M (by omega) (by omega) ?_
  refine g_C ?_
  refine g_if (fun c3 => ?_) (fun c3 => ?_)
  · have cn : ¬ c = -1 := c3
    have ep : pwF (D 5).toNat (kkD D) (pyD D) r u c = jwF (kkD D) (pyD D) r (mW (D 5).toNat (kkD D) (pyD D) r) u c := if_neg cn
    rw [ep] at hk
    have zj := hz.jg (j := c) (by omega) (by rw [eD]; exact c1)
    have zw := hz.wd (i := w) w0 (by rw [eD]; exact w5)
    have zt := hz.wt (w := w) w0 (by rw [eD]; exact w5)
    rw [eD] at zj zw zt
    have ki := kkD_iff (D := D) (r := r) (j := c) ew
    have bad : ¬ (¬ btF u c = 1 ∧ kkD D r c = true) → K (-1) m := fun q => by
      have e : jwF (kkD D) (pyD D) r (mW (D 5).toNat (kkD D) (pyD D) r) u c = -1 := if_neg q
      rw [e] at hk
      exact hk
    have no : ¬ (¬ btF u c = 1 ∧ kkD D r c = true) → wp_X6_payWith_46 S K 63 16 w u c ((w + 1) * 16) m := fun q => by
      refine u_X6_payWith_46 ?_
      refine g_C ?_
      refine u_X6_payWith_47 ?_
      exact g_ifT rfl (g_C (bad q))
    refine g_Oe (fun x ex => ?_)
    refine g_C ?_
    refine g_Oe (fun y ey => ?_)
    have eb : y = btF u c := by rw [ey, ex]; rfl
    have b01 := bt_01 u.toNat (by omega) c.toNat (by omega)
    rw [Int.toNat_of_nonneg u0, Int.toNat_of_nonneg (by omega)] at b01
    refine g_if (fun q => no (fun z => by have := z.1; omega)) (fun q => ?_)
    have fr : ¬ btF u c = 1 := by omega
    refine ⟨hS.k16, ?_⟩
    refine zh_gone hS hm (by decide) (by omega) (by omega) (fun a1 a2 => g_ifT (by decide) (no (fun z => ?_))) (fun a => g_ifF (by decide) (g_C ?_))
    · have k := ki.1 z.2
      have a1' : m 20 c = -1 := a1
      have a2' : m 21 c = -1 := a2
      omega
    have a' : ¬ (m 20 c = -1 ∧ m 21 c = -1) := a
    refine u_X6_payWith_47 ?_
    refine g_ifF (by decide) ?_
    refine g_getr 8 23 rfl hS.k16 hm.f_16_8 (by decide) ?_
    refine g_ldu hS.k23 hS.l23 (by omega) (by omega) (fun v1 e1 => ?_)
    have b23 := hm.a_23 (i := w) w0 (by omega)
    refine g_C ?_
    refine g_if (fun q2 => g_C (bad (fun z => by have k := ki.1 z.2; omega))) (fun q2 => ?_)
    refine g_getr 0 4 rfl hS.k63 hm.f_63_0 (by decide) ?_
    refine g_getr 7 22 rfl hS.k16 hm.f_16_7 (by decide) ?_
    refine g_ldu hS.k22 hS.l22 (by omega) (by omega) (fun v2 e2 => ?_)
    refine ⟨hS.k4, ?_⟩
    refine u_X8_suits ?_
    refine g_getr 16 13 rfl hS.k4 hm.f_4_16 (by decide) ?_
    refine g_ldu hS.k13 hS.l13 (by omega) (by omega) (fun v3 e3 => ?_)
    refine g_if (fun q3 => g_C ⟨by decide, g_ifF (by decide) (g_C (bad (fun z => by have k := ki.1 z.2; omega)))⟩) (fun q3 => ?_)
    refine g_getr 17 14 rfl hS.k4 hm.f_4_17 (by decide) ?_
    refine g_ldu hS.k14 hS.l14 (by omega) (by omega) (fun v4 e4 => ?_)
    refine g_if (fun q4 => g_C ⟨by decide, g_ifF (by decide) (g_C (bad (fun z => by have k := ki.1 z.2; omega)))⟩) (fun q4 => ?_)
    refine g_C ⟨by decide, g_ifT (by decide) ?_⟩
    have kt : kkD D r c = true := ki.2 ⟨by omega, by omega, by omega, by omega⟩
    refine g_getr 0 4 rfl hS.k63 hm.f_63_0 (by decide) ?_
    refine g_getr 18 15 rfl hS.k4 hm.f_4_18 (by decide) ?_
    refine g_ldu hS.k15 hS.l15 (by omega) (by omega) (fun v5 e5 => ?_)
    have b15 := hm.a_15 (i := w) w0 (by omega)
    refine g_getr 1 64 rfl hS.k63 hm.f_63_1 (by decide) ?_
    refine g_C ?_
    refine g_Oe (fun x2 ex2 => ?_)
    refine g_Oe (fun y2 ey2 => ?_)
    have ey3 : y2 = iOr u (iShl 1 c) := by rw [ey2, ex2]
    have yb := or_15 u.toNat (by omega) c.toNat (by omega)
    rw [Int.toNat_of_nonneg u0, Int.toNat_of_nonneg (by omega), ← ey3] at yb
    refine g_A (by omega) (by omega) ?_
    refine g_ldu hS.k64 hS.l64 (by omega) (by omega) (fun v6 e6 => ?_)
    rw [hg y2 yb.1 yb.2] at e6
    have b6 := mW_b (J := (D 5).toNat) (kk := kkD D) hp r y2 (by omega)
    have b7 := mW_0 (J := (D 5).toNat) (kk := kkD D) (py := pyD D) r y2
    refine g_A (by omega) (by omega) ?_
    have e : jwF (kkD D) (pyD D) r (mW (D 5).toNat (kkD D) (pyD D) r) u c = v5 + v6 := by
      have z : jwF (kkD D) (pyD D) r (mW (D 5).toNat (kkD D) (pyD D) r) u c = pyD D r + mW (D 5).toNat (kkD D) (pyD D) r (iOr u (iShl 1 c)) := if_pos ⟨fr, kt⟩
      rw [z, pyD_w ew, ← ey3, ← e6]
      omega
    rw [e] at hk
    exact hk
  · have ec : c = -1 := by omega
    refine g_getr 1 64 rfl hS.k63 hm.f_63_1 (by decide) ?_
    refine g_A (by omega) (by omega) ?_
    refine g_ldu hS.k64 hS.l64 (by omega) (by omega) (fun v6 e6 => ?_)
    rw [hg u u0 u1] at e6
    have ep : pwF (D 5).toNat (kkD D) (pyD D) r u c = mW (D 5).toNat (kkD D) (pyD D) r u := if_pos ec
    rw [ep, ← e6] at hk
    exact hk
abbrev mtF (m M : Mm) : Prop := ∀ c p : Int, ¬ c = 64 → M c p = m c p
abbrev mT (D : Int → Int) (w u : Int) (M : Mm) : Prop := ∀ w' v : Int, 0 ≤ v → v ≤ 15 → w' ≤ D 6 → (w < w' ∨ (w' = w ∧ v < u)) → M 64 (w' * 16 + v) = mW (D 5).toNat (kkD D) (pyD D) (D 6 - w').toNat v
theorem zq_matchWants {S : Sh} {m : Mm} {K : Mm → Prop} {n : Int} {D : Int → Int} (hS : Shp S) (hz : RZ S m n) (eD : m 346 = D) (hp : ∀ r : Nat, (r : Int) < D 6 → 0 ≤ pyD D r ∧ pyD D r ≤ 50) (hk : ∀ M1 : Mm, RZ S M1 n → mtF m M1 → mT D (-1) 0 M1 → K M1) : wp_X6_matchWants S m 63 16 K := by
  have hm := hz.inv
  have db := hz.db
  rw [eD] at db
  have ct := hz.ct
  rw [eD] at ct
  have zz : ∀ M : Mm, Inv (sf m) S M → mtF m M → RZ S M n := fun M hM F => hz.keep (hz.1.of hM) (fun c p q => F c p (by unfold KZ at q; omega))
  have L43 : ∀ (r : Nat) (w u : Int) (M : Mm) (g1 : Int → Int → Int → Mm → Prop) (g2 : Int → Int → Int → Int → Mm → Prop), D 6 - 1 - (r : Int) = w → 0 ≤ w → 0 ≤ u → u ≤ 15 → Inv (sf m) S M → mtF m M → mT D w u M → (∀ M' : Mm, Inv (sf m) S M' → mtF m M' → mT D w (u + 1) M' → g2 63 16 w (u + 1) M') → ∀ (l j : Nat), (j : Int) ≤ D 5 → 5 - j ≤ l → wp_X6_matchWants_43 S g1 g2 K l 63 16 w u (mxF (jwF (kkD D) (pyD D) r (mW (D 5).toNat (kkD D) (pyD D) r) u) (mW (D 5).toNat (kkD D) (pyD D) r u) j) j M := by
    intro r w u M g1 g2 ew w0 u0 u1 hM F T hg l
    have zM := zz M hM F
    have rw1 : ∀ v : Int, 0 ≤ v → v ≤ 15 → M 64 ((w + 1) * 16 + v) = mW (D 5).toNat (kkD D) (pyD D) r v := fun v v0 v1 => by
      rw [T (w + 1) v v0 v1 (by omega) (Or.inl (by omega)), show (D 6 - (w + 1)).toNat = r by omega]
    induction l with
    | zero => intro j j1 hl; exfalso; omega
    | succ l ih =>
      intro j j1 hl
      refine u_X6_matchWants_43 ?_
      refine g_getr 0 4 rfl hS.k63 hM.f_63_0 (by decide) ?_
      refine g_getu 5 rfl hS.k4 (fun v ev => ?_)
      rw [F 4 5 (by omega), ct.2.2.2.2.2.1] at ev
      refine g_if (fun q => ?_) (fun q => ?_)
      · have ej : (D 5).toNat = j := by omega
        refine g_getr 1 64 rfl hS.k63 hM.f_63_1 (by decide) ?_
        refine g_C ?_
        refine g_M (by omega) (by omega) ?_
        refine g_A (by omega) (by omega) ?_
        have e : mW (D 5).toNat (kkD D) (pyD D) (r + 1) u = mxF (jwF (kkD D) (pyD D) r (mW (D 5).toNat (kkD D) (pyD D) r) u) (mW (D 5).toNat (kkD D) (pyD D) r u) (D 5).toNat := rfl
        have b6 := mW_b (J := (D 5).toNat) (kk := kkD D) hp (r + 1) u (by omega)
        have b7 := mW_0 (J := (D 5).toNat) (kk := kkD D) (py := pyD D) (r + 1) u
        rw [← ej, ← e]
        refine g_st hS.k64 hS.l64 (by omega) (by omega) (hM.wa_64 (by omega) (by omega) (by omega) (by omega)) (fun m2 e2 hm2 => ?_)
        have f2 : ∀ c p : Int, ¬ (c = 64 ∧ p = w * 16 + u) → m2 c p = M c p := fun c p q => (congrFun (congrFun e2 _) _).trans (up_ne q)
        have y2 : m2 64 (w * 16 + u) = mW (D 5).toNat (kkD D) (pyD D) (r + 1) u := (congrFun (congrFun e2 _) _).trans (up_at _ _ _ _)
        refine g_A (by omega) (by omega) ?_
        refine hg m2 hm2 (fun c p q => by rw [f2 c p (by omega), F c p q]) (fun w' v v0 v1 w1 q2 => ?_)
        by_cases z : w' = w ∧ v = u
        · rw [z.1, z.2, y2, show (D 6 - w).toNat = r + 1 by omega]
        · rw [f2 64 _ (by omega)]
          exact T w' v v0 v1 w1 (by omega)
      · refine ⟨hS.k63, ?_⟩
        refine zq_payWith (D := D) (r := r) hS zM (by rw [← eD]; exact funext (fun p => F 346 p (by omega))) ew w0 u0 u1 (by omega) (by omega) hp rw1 ?_
        have ep : pwF (D 5).toNat (kkD D) (pyD D) r u (j : Int) = jwF (kkD D) (pyD D) r (mW (D 5).toNat (kkD D) (pyD D) r) u (j : Int) := if_neg (by omega)
        rw [ep]
        refine g_Oe (fun x ex => ?_)
        rw [ex]
        refine g_A (by omega) (by omega) ?_
        exact ih (j + 1) (by omega) (by omega)
  have L24 : ∀ (r : Nat) (w : Int) (g : Int → Int → Int → Mm → Prop), D 6 - 1 - (r : Int) = w → 0 ≤ w → (∀ M' : Mm, Inv (sf m) S M' → mtF m M' → mT D (w - 1) 0 M' → g 63 16 (w - 1) M') → ∀ (l u : Nat) (M : Mm), u ≤ 16 → Inv (sf m) S M → mtF m M → mT D w u M → 17 - u ≤ l → wp_X6_matchWants_24 S g K l 63 16 w u M := by
    intro r w g ew w0 hg l
    induction l with
    | zero => intro u M u1 _ _ _ hl; exfalso; omega
    | succ l ih =>
      intro u M u1 hM F T hl
      refine u_X6_matchWants_24 ?_
      refine g_C ?_
      refine g_if (fun q => ?_) (fun q => ?_)
      · refine g_A (by omega) (by omega) ?_
        refine hg M hM F (fun w' v v0 v1 w1 q2 => ?_)
        exact T w' v v0 v1 w1 (by omega)
      · refine g_C ?_
        refine ⟨hS.k63, ?_⟩
        have rw1 : ∀ v : Int, 0 ≤ v → v ≤ 15 → M 64 ((w + 1) * 16 + v) = mW (D 5).toNat (kkD D) (pyD D) r v := fun v v0 v1 => by
          rw [T (w + 1) v v0 v1 (by omega) (Or.inl (by omega)), show (D 6 - (w + 1)).toNat = r by omega]
        refine zq_payWith (D := D) (r := r) hS (zz M hM F) (by rw [← eD]; exact funext (fun p => F 346 p (by omega))) ew w0 (by omega) (by omega) (by decide) (by omega) hp rw1 ?_
        have ep : pwF (D 5).toNat (kkD D) (pyD D) r u (-1) = mW (D 5).toNat (kkD D) (pyD D) r u := if_pos rfl
        rw [ep]
        refine g_C ?_
        exact ⟨5, L43 r w u M g _ ew w0 (by omega) (by omega) hM F T (fun M' hM' F' T' => ih (u + 1) M' (by omega) hM' F' T' (by omega)) 5 0 (by omega) (by omega)⟩
  have L18 : ∀ (l k : Nat) (M : Mm), (k : Int) ≤ D 6 → Inv (sf m) S M → mtF m M → mT D ((k : Int) - 1) 0 M → k + 1 ≤ l → wp_X6_matchWants_18 S K l 63 16 ((k : Int) - 1) M := by
    intro l
    induction l with
    | zero => intro k M k1 _ _ _ hl; exfalso; omega
    | succ l ih =>
      intro k M k1 hM F T hl
      refine u_X6_matchWants_18 ?_
      refine g_if (fun q => ?_) (fun q => ?_)
      · have ek : k = 0 := by omega
        rw [ek] at T
        exact hk M (zz M hM F) F T
      · refine g_C ?_
        obtain ⟨k', ek⟩ : ∃ k' : Nat, k = k' + 1 := ⟨k - 1, by omega⟩
        refine ⟨17, L24 (D 6 - (k : Int)).toNat ((k : Int) - 1) _ (by omega) (by omega) (fun M' hM' F' T' => ?_) 17 0 M (by omega) hM F T (by omega)⟩
        have e : (k : Int) - 1 - 1 = (k' : Int) - 1 := by omega
        rw [e] at T' ⊢
        exact ih k' M' (by omega) hM' F' T' (by omega)
  refine u_X6_matchWants ?_
  refine g_getr 1 64 rfl hS.k63 hm.f_63_1 (by decide) ?_
  refine g_C ?_
  refine s_fillx hm hS.k64 hS.l64 (by decide) (fun M i h0 h1 h2 => h0.wa_64 h1 h2 (by omega) (by omega)) (fun m1 hm1 f1 z1 => ?_)
  refine g_getr 0 4 rfl hS.k63 hm1.f_63_0 (by decide) ?_
  refine g_getu 7 rfl hS.k4 (fun v ev => ?_)
  rw [f1 4 7 (by omega), ct.2.2.2.2.2.2.2] at ev
  refine g_C ?_
  refine g_S (by omega) (by omega) ?_
  have e : v - 1 = ((D 6).toNat : Int) - 1 := by omega
  rw [e]
  refine ⟨(D 6).toNat + 1, L18 ((D 6).toNat + 1) (D 6).toNat m1 (by omega) hm1 f1 (fun w' v v0 v1 w1 q => ?_) (by omega)⟩
  have ew : w' = D 6 := by omega
  rw [z1 _ (by omega) (by omega), show (D 6 - w').toNat = 0 by omega]
  rfl
theorem zq_firstBest {S : Sh} {m : Mm} {K : Int → Mm → Prop} {n w u : Int} {D : Int → Int} {r : Nat} (hS : Shp S) (hz : RZ S m n) (eD : m 346 = D) (ew : D 6 - 1 - (r : Int) = w) (w0 : 0 ≤ w) (u0 : 0 ≤ u) (u1 : u ≤ 15) (hp : ∀ r : Nat, (r : Int) < D 6 → 0 ≤ pyD D r ∧ pyD D r ≤ 50) (T : mT D (-1) 0 m) (hk : K (f1F (D 5).toNat (kkD D) (pyD D) r u) m) : wp_X6_firstBest S m 63 16 w u K := by
  have hm := hz.inv
  have db := hz.db
  rw [eD] at db
  have ct := hz.ct
  rw [eD] at ct
  have rw1 : ∀ v : Int, 0 ≤ v → v ≤ 15 → m 64 ((w + 1) * 16 + v) = mW (D 5).toNat (kkD D) (pyD D) r v := fun v v0 v1 => by
    rw [T (w + 1) v v0 v1 (by omega) (Or.inl (by omega)), show (D 6 - (w + 1)).toNat = r by omega]
  have rw0 : m 64 (w * 16 + u) = mW (D 5).toNat (kkD D) (pyD D) (r + 1) u := by
    rw [T w u u0 u1 (by omega) (Or.inl (by omega)), show (D 6 - w).toNat = r + 1 by omega]
  have L : ∀ (l k : Nat) (c : Int), c = D 5 - (k : Int) → -1 ≤ c → k + 1 ≤ l → K (fsF (pwF (D 5).toNat (kkD D) (pyD D) r u) (mW (D 5).toNat (kkD D) (pyD D) (r + 1) u) k c) m → wp_X6_firstBest_3 S K l 63 16 w u c m := by
    intro l
    induction l with
    | zero => intro k c _ _ hl _; exfalso; omega
    | succ l ih =>
      intro k c ec c0 hl hq
      refine u_X6_firstBest_3 ?_
      refine g_getr 0 4 rfl hS.k63 hm.f_63_0 (by decide) ?_
      refine g_getu 5 rfl hS.k4 (fun v ev => ?_)
      rw [ct.2.2.2.2.2.1] at ev
      refine g_if (fun q => ?_) (fun q => ?_)
      · have ek : k = 0 := by omega
        subst ek
        exact g_C hq
      · obtain ⟨k', ek⟩ : ∃ k' : Nat, k = k' + 1 := ⟨k - 1, by omega⟩
        subst ek
        refine ⟨hS.k63, ?_⟩
        refine zq_payWith (D := D) (r := r) hS hz eD ew w0 u0 u1 c0 (by omega) hp rw1 ?_
        refine g_getr 1 64 rfl hS.k63 hm.f_63_1 (by decide) ?_
        refine g_C ?_
        refine g_M (by omega) (by omega) ?_
        refine g_A (by omega) (by omega) ?_
        refine g_ldu hS.k64 hS.l64 (by omega) (by omega) (fun v2 e2 => ?_)
        rw [rw0] at e2
        rw [e2]
        refine g_if (fun q2 => ?_) (fun q2 => ?_)
        · have e : fsF (pwF (D 5).toNat (kkD D) (pyD D) r u) (mW (D 5).toNat (kkD D) (pyD D) (r + 1) u) (k' + 1) c = fsF (pwF (D 5).toNat (kkD D) (pyD D) r u) (mW (D 5).toNat (kkD D) (pyD D) (r + 1) u) k' (c + 1) := if_neg q2
          rw [e] at hq
          refine g_A (by omega) (by omega) ?_
          exact ih k' (c + 1) (by omega) (by omega) (by omega) hq
        · have e : fsF (pwF (D 5).toNat (kkD D) (pyD D) r u) (mW (D 5).toNat (kkD D) (pyD D) (r + 1) u) (k' + 1) c = c := if_pos (Classical.not_not.mp q2)
          rw [e] at hq
          exact hq
  refine u_X6_firstBest ?_
  refine g_C ?_
  exact ⟨(D 5).toNat + 2, L ((D 5).toNat + 2) ((D 5).toNat + 1) (-1) (by omega) (by decide) (by omega) hk⟩
theorem zq_jugOfWant {S : Sh} {m : Mm} {K : Int → Mm → Prop} {n : Int} {D : Int → Int} {a r W : Nat} (hS : Shp S) (hz : RZ S m n) (eD : m 346 = D) (eW : (W : Int) = D 6) (er : W = a + 1 + r) (hp : ∀ r : Nat, (r : Int) < D 6 → 0 ≤ pyD D r ∧ pyD D r ≤ 50) (T : mT D (-1) 0 m) (hk : K (f1F (D 5).toNat (kkD D) (pyD D) r (usF (D 5).toNat (kkD D) (pyD D) W a)) m) : wp_X6_jugOfWant S m 63 16 a K := by
  have db := hz.db
  rw [eD] at db
  have hJ : (D 5).toNat ≤ 4 := by omega
  have L : ∀ (l w : Nat) (j : Int), w ≤ a + 1 → (w = a + 1 → j = f1F (D 5).toNat (kkD D) (pyD D) r (usF (D 5).toNat (kkD D) (pyD D) W a)) → a + 2 - w ≤ l → wp_X6_jugOfWant_8 S K l 63 16 a (usF (D 5).toNat (kkD D) (pyD D) W w) j w m := by
    intro l
    induction l with
    | zero => intro w j w1 _ hl; exfalso; omega
    | succ l ih =>
      intro w j w1 hj hl
      refine u_X6_jugOfWant_8 ?_
      refine g_if (fun q => ?_) (fun q => ?_)
      · rw [← hj (by omega)] at hk
        exact hk
      have ub := us_b (kk := kkD D) (py := pyD D) (W := W) hJ w
      obtain ⟨s, es⟩ : ∃ s : Nat, s = W - 1 - w := ⟨_, rfl⟩
      have z := f1F_at (J := (D 5).toNat) (kk := kkD D) (py := pyD D) s (usF (D 5).toNat (kkD D) (pyD D) W w)
      have e1 : usF (D 5).toNat (kkD D) (pyD D) W (w + 1) = nuF (usF (D 5).toNat (kkD D) (pyD D) W w) (f1F (D 5).toNat (kkD D) (pyD D) s (usF (D 5).toNat (kkD D) (pyD D) W w)) := by rw [es]; rfl
      have hj2 : w + 1 = a + 1 → f1F (D 5).toNat (kkD D) (pyD D) s (usF (D 5).toNat (kkD D) (pyD D) W w) = f1F (D 5).toNat (kkD D) (pyD D) r (usF (D 5).toNat (kkD D) (pyD D) W a) := fun e => by
        rw [show s = r by omega, show w = a by omega]
      have or0 := or_05 (usF (D 5).toNat (kkD D) (pyD D) W w).toNat (by omega)
      rw [Int.toNat_of_nonneg ub.1] at or0
      obtain ⟨x, ex⟩ : ∃ x : Int, x = f1F (D 5).toNat (kkD D) (pyD D) s (usF (D 5).toNat (kkD D) (pyD D) W w) := ⟨_, rfl⟩
      obtain ⟨u, eu⟩ : ∃ u : Int, u = usF (D 5).toNat (kkD D) (pyD D) W w := ⟨_, rfl⟩
      rw [← ex] at z e1 hj2
      rw [← eu] at e1 ub or0 ⊢
      refine ⟨hS.k63, ?_⟩
      refine zq_firstBest (D := D) (r := s) hS hz eD (by omega) (by omega) ub.1 ub.2 hp T ?_
      rw [eu, ← ex, ← eu]
      refine g_C ?_
      refine g_if (fun q2 => ?_) (fun q2 => ?_)
      · refine g_C ?_
        refine g_Oe (fun y ey => ?_)
        refine u_X6_jugOfWant_39 ?_
        refine g_Oe (fun y2 ey2 => ?_)
        refine g_A (by omega) (by omega) ?_
        have e2 : y2 = usF (D 5).toNat (kkD D) (pyD D) W (w + 1) := by
          have e3 : nuF u x = iOr u (iShl 1 x) := if_neg q2
          rw [e1, e3, ey2, ey]
        rw [e2]
        exact ih (w + 1) x (by omega) hj2 (by omega)
      · refine g_C ?_
        refine u_X6_jugOfWant_39 ?_
        refine g_Oe (fun y2 ey2 => ?_)
        refine g_A (by omega) (by omega) ?_
        have e2 : y2 = usF (D 5).toNat (kkD D) (pyD D) W (w + 1) := by
          have e3 : nuF u x = u := if_pos (Classical.not_not.mp q2)
          rw [e1, e3, ey2, or0]
        rw [e2]
        exact ih (w + 1) x (by omega) hj2 (by omega)
  refine u_X6_jugOfWant ?_
  refine g_C ?_
  refine g_C ?_
  refine g_C ?_
  exact ⟨a + 2, L (a + 2) 0 (-1) (by omega) (fun e => absurd e (by omega)) (by omega)⟩
end
section
/-! MATCH of the reference: all rows one after another -/
theorem pw_b : ∀ b : Nat, b < 6 → ∀ k : Nat, k < 7 → b ^ k ≤ 15625 := by decide +kernel
theorem zq_power {S : Sh} {m : Mm} {K : Int → Mm → Prop} {b n : Int} {B N : Nat} (eb : b = (B : Int)) (en : n = (N : Int)) (hb : B ≤ 5) (hn : N ≤ 6) (hk : K ((B ^ N : Nat) : Int) m) : wp_X12_power S m b n K := by
  subst eb en
  have L : ∀ (l k : Nat), k ≤ N → N + 1 - k ≤ l → wp_X12_power_4 S K l (B : Int) (N : Int) ((B ^ k : Nat) : Int) k m := by
    intro l
    induction l with
    | zero => intro k _ hl; exfalso; omega
    | succ l ih =>
      intro k k1 hl
      refine u_X12_power_4 ?_
      refine g_if (fun q => ?_) (fun q => ?_)
      · have ek : N = k := by omega
        rw [ek] at hk
        exact hk
      · have e : ((B ^ k : Nat) : Int) * (B : Int) = ((B ^ (k + 1) : Nat) : Int) := by rw [Nat.pow_succ, Int.natCast_mul]
        have z := pw_b B (by omega) (k + 1) (by omega)
        refine g_Ml _ e (by omega) (by omega) ?_
        refine g_A (by omega) (by omega) ?_
        exact ih (k + 1) (by omega) (by omega)
  refine u_X12_power ?_
  refine g_C ?_
  refine g_C ?_
  exact ⟨N + 1, L (N + 1) 0 (by omega) (by omega)⟩
theorem zq_jugIn {X : Mm} {S : Sh} {m : Mm} {K : Int → Mm → Prop} {w : Int} {c r J : Nat} (hS : Shp S) (hm : Inv X S m) (eJ : m 346 5 = (J : Int)) (hJ : J ≤ 4) (e6 : m 346 6 - 1 - w = (r : Int)) (r6 : r ≤ 6) (w0 : 0 ≤ w) (hc : c ≤ 15625) (hk : K (((c / (J + 1) ^ r % (J + 1) : Nat) : Int) - 1) m) : wp_X12_jugIn S m 336 c w K := by
  have b6 := hm.f_346_6
  have pp : 0 < (J + 1) ^ r := Nat.pow_pos (Nat.succ_pos J)
  have pz := pw_b (J + 1) (by omega) r (by omega)
  have dl := Nat.div_le_self c ((J + 1) ^ r)
  have d0 := Int.natCast_nonneg (c / (J + 1) ^ r)
  refine u_X12_jugIn ?_
  refine g_getr 20 346 rfl hS.k336 hm.f_336_20 (by decide) ?_
  refine g_C ?_
  refine g_ldu hS.k346 hS.l346 (by decide) (by decide) (fun v1 ev1 => ?_)
  refine g_C ?_
  refine g_A (by omega) (by omega) ?_
  refine g_getr 20 346 rfl hS.k336 hm.f_336_20 (by decide) ?_
  refine g_C ?_
  refine g_ldu hS.k346 hS.l346 (by decide) (by decide) (fun v2 ev2 => ?_)
  refine g_C ?_
  refine g_S (by omega) (by omega) ?_
  refine g_S (by omega) (by omega) ?_
  refine zq_power (B := J + 1) (N := r) (by omega) (by omega) (by omega) r6 ?_
  refine ⟨by omega, ?_⟩
  rw [div32 (by omega) (by omega) (by omega) (by omega), ← Int.natCast_ediv]
  refine g_getr 20 346 rfl hS.k336 hm.f_336_20 (by decide) ?_
  refine g_C ?_
  refine g_ldu hS.k346 hS.l346 (by decide) (by decide) (fun v3 ev3 => ?_)
  refine g_C ?_
  refine g_A (by omega) (by omega) ?_
  have e3 : v3 + 1 = ((J + 1 : Nat) : Int) := by omega
  rw [e3]
  refine ⟨by omega, ?_⟩
  rw [rem32e (by omega) (by omega) (by omega) (by omega), ← Int.natCast_emod]
  refine g_C ?_
  have ml := dg_lt (J := J) (c := c) (r := r)
  refine g_S (by omega) (by omega) ?_
  exact hk
theorem zq_payBy_aux {X : Mm} {S : Sh} {m : Mm} {K : Int → Mm → Prop} {D : Int → Int} {c J : Nat} (hS : Shp S) (hm : Inv X S m) (eD : m 346 = D) (eJ : D 5 = (J : Int)) (hJ : J ≤ 4) (b6 : 0 ≤ D 6 ∧ D 6 ≤ 6) (hc : c ≤ 15625) (hp : ∀ r : Nat, (r : Int) < D 6 → 0 ≤ pyD D r ∧ pyD D r ≤ 50) : ∀ (r : Nat) (w u p : Int), D 6 = w + (r : Int) → 0 ≤ w → 0 ≤ u → u ≤ 15 → 0 ≤ p → p ≤ 50 * w → K (if vlF J (kkD D) (pyD D) r u c < 0 then -1 else p + vlF J (kkD D) (pyD D) r u c) m → wp_X12_payBy_7 S K (r + 1) 336 c u p w m := by
  intro r
  induction r with
  | zero =>
    intro w u p ew w0 u0 u1 p0 p1 hk
    refine u_X12_payBy_7 ?_
    refine g_getr 20 346 rfl hS.k336 hm.f_336_20 (by decide) ?_
    refine g_C ?_
    refine g_ldu hS.k346 hS.l346 (by decide) (by decide) (fun v ev => ?_)
    rw [eD] at ev
    refine g_ifT (by omega) ?_
    have e : vlF J (kkD D) (pyD D) 0 u c = 0 := rfl
    rw [e, if_neg (by decide), Int.add_zero] at hk
    exact hk
  | succ r ih =>
    intro w u p ew w0 u0 u1 p0 p1 hk
    have ew2 : D 6 - 1 - (r : Int) = w := by omega
    have hr := hp r (by omega)
    have ki := fun j => kkD_iff (D := D) (r := r) (j := j) ew2
    refine u_X12_payBy_7 ?_
    refine g_getr 20 346 rfl hS.k336 hm.f_336_20 (by decide) ?_
    refine g_C ?_
    refine g_ldu hS.k346 hS.l346 (by decide) (by decide) (fun v ev => ?_)
    rw [eD] at ev
    refine g_ifF (by omega) ?_
    refine ⟨hS.k336, ?_⟩
    refine zq_jugIn (J := J) (r := r) hS hm (by rw [eD]; exact eJ) hJ (by rw [eD]; omega) (by omega) w0 hc ?_
    have ml := dg_lt (J := J) (c := c) (r := r)
    obtain ⟨d, ed⟩ : ∃ d : Nat, d = c / (J + 1) ^ r % (J + 1) := ⟨_, rfl⟩
    rw [← ed] at ml ⊢
    refine g_if (fun q => ?_) (fun q => ?_)
    · obtain ⟨j, ej⟩ : ∃ j : Int, j = (d : Int) - 1 := ⟨_, rfl⟩
      rw [← ej] at q ⊢
      have dj : ((c / (J + 1) ^ r % (J + 1) : Nat) : Int) = j + 1 := by rw [← ed]; omega
      have bad : ¬ (¬ btF u j = 1 ∧ kkD D r j = true) → K (-1) m := fun g => by
        rw [vlF_x (j := j) dj q g, if_pos (by decide)] at hk
        exact hk
      refine g_getr 20 346 rfl hS.k336 hm.f_336_20 (by decide) ?_
      refine g_C ?_
      refine g_A (by omega) (by omega) ?_
      refine g_ldu hS.k346 hS.l346 (by omega) (by omega) (fun v1 e1 => ?_)
      rw [eD] at e1
      refine g_if (fun q1 => g_C (bad (fun z => by have k := (ki j).1 z.2; omega))) (fun q1 => ?_)
      refine g_C ?_
      refine ⟨hS.k336, ?_⟩
      refine zt_jugOf hS hm q (by omega) (by decide) (by decide) ?_
      rw [eD]
      refine g_C ?_
      refine g_if (fun q2 => g_C (bad (fun z => by have k := (ki j).1 z.2; omega))) (fun q2 => ?_)
      refine zq_isOf (fun b1 => g_ifT (by decide) (g_C (bad (fun z => z.1 b1)))) (fun b0 => g_ifF (by decide) ?_)
      refine g_C ?_
      refine ⟨hS.k336, ?_⟩
      refine zt_jugOf hS hm q (by omega) (by decide) (by decide) ?_
      refine g_C ?_
      refine g_C ?_
      refine ⟨hS.k336, ?_⟩
      refine zt_wantOf hS hm w0 (by omega) (by decide) (by decide) ?_
      refine g_C ?_
      refine g_C ?_
      refine ⟨hS.k336, ?_⟩
      refine zt_wantOf hS hm w0 (by omega) (by decide) (by decide) ?_
      refine g_C ?_
      rw [eD]
      refine zs_in (fun i1 => g_ifT (by decide) ?_) (fun i0 => g_ifF (by decide) (g_C (bad (fun z => by have k := (ki j).1 z.2; omega))))
      have kt : kkD D r j = true := (ki j).2 ⟨by omega, q2, i1.1, i1.2⟩
      refine g_C ?_
      refine g_Oe (fun x ex => ?_)
      refine g_Oe (fun y ey => ?_)
      have ey2 : y = iOr u (iShl 1 j) := by rw [ey, ex]
      have yb := or_15 u.toNat (by omega) j.toNat (by omega)
      rw [Int.toNat_of_nonneg u0, Int.toNat_of_nonneg q, ← ey2] at yb
      refine g_C ?_
      refine ⟨hS.k336, ?_⟩
      refine zt_wantOf hS hm w0 (by omega) (by decide) (by decide) ?_
      rw [eD]
      have pe := pyD_w (D := D) (r := r) ew2
      rw [← pe]
      refine g_A (by omega) (by omega) ?_
      refine u_X12_payBy_118 ?_
      refine g_A (by omega) (by omega) ?_
      refine ih (w + 1) y (p + pyD D r) (by omega) (by omega) yb.1 yb.2 (by omega) (by omega) ?_
      rw [vlF_j (j := j) dj q ⟨b0, kt⟩, ← ey2] at hk
      by_cases n : vlF J (kkD D) (pyD D) r y c < 0
      · rw [if_pos n] at hk ⊢
        rw [if_pos (by decide)] at hk
        exact hk
      · rw [if_neg n] at hk ⊢
        rw [if_neg (by omega)] at hk
        rw [Int.add_assoc]
        exact hk
    · refine u_X12_payBy_118 ?_
      refine g_A (by omega) (by omega) ?_
      rw [vlF_n (by rw [← ed]; omega)] at hk
      exact ih (w + 1) u p (by omega) (by omega) u0 u1 p0 (by omega) hk
theorem zq_match12 {X : Mm} {S : Sh} {m : Mm} {K : Int → Mm → Prop} {D : Int → Int} {what : Int} {J W : Nat} (hS : Shp S) (hm : Inv X S m) (eD : m 346 = D) (eJ : D 5 = (J : Int)) (hJ : J ≤ 4) (eW : D 6 = (W : Int)) (hW : W ≤ 6) (hp : ∀ r : Nat, (r : Int) < D 6 → 0 ≤ pyD D r ∧ pyD D r ≤ 50) (w0 : 0 ≤ what) (w9 : what ≤ 2147483647) (h0 : what = 0 → K (mW J (kkD D) (pyD D) W 0) m) (h1 : ∀ a r : Nat, what = (a : Int) + 1 → W = a + 1 + r → K (f1F J (kkD D) (pyD D) r (usF J (kkD D) (pyD D) W a)) m) (h2 : (W : Int) < what → K (-2) m) : ∃ n9 : Nat, wp_X12_match_29 S K n9 336 what 0 0 1 m := by
  have pz := pw_b (J + 1) (by omega) W (by omega)
  have pp : 0 < (J + 1) ^ W := Nat.pow_pos (Nat.succ_pos J)
  have L : ∀ (l c b : Nat) (t : Int), c ≤ (J + 1) ^ W → 0 < c → b < c → 0 ≤ t → (∀ x : Nat, x < c → vlF J (kkD D) (pyD D) W 0 x ≤ t) → vlF J (kkD D) (pyD D) W 0 b = t → (∀ x : Nat, x < b → vlF J (kkD D) (pyD D) W 0 x < t) → (J + 1) ^ W + 1 - c ≤ l → wp_X12_match_29 S K l 336 what b t c m := by
    intro l
    induction l with
    | zero => intro c b t c1 _ _ _ _ _ _ hl; exfalso; omega
    | succ l ih =>
      intro c b t c1 c0 bc t0 i1 i2 i3 hl
      have tb : t ≤ 300 := by
        rw [← i2]
        have q := vl_le (J := J) (kk := kkD D) (py := pyD D) (c := b) W 0
        have q2 := mW_b (J := J) (kk := kkD D) hp W 0 (by omega)
        omega
      refine u_X12_match_29 ?_
      refine g_getr 20 346 rfl hS.k336 hm.f_336_20 (by decide) ?_
      refine g_C ?_
      refine g_ldu hS.k346 hS.l346 (by decide) (by decide) (fun v ev => ?_)
      rw [eD, eJ] at ev
      refine g_C ?_
      refine g_A (by omega) (by omega) ?_
      refine g_getr 20 346 rfl hS.k336 hm.f_336_20 (by decide) ?_
      refine g_C ?_
      refine g_ldu hS.k346 hS.l346 (by decide) (by decide) (fun v2 ev2 => ?_)
      rw [eD, eW] at ev2
      refine zq_power (B := J + 1) (N := W) (by omega) ev2 (by omega) hW ?_
      refine g_if (fun q => ?_) (fun q => ?_)
      · have ec : c = (J + 1) ^ W := by omega
        have fl := fo_lt (J := J) (kk := kkD D) (py := pyD D) W 0
        have fo := vl_fo (J := J) (kk := kkD D) (py := pyD D) W 0
        have ti : t = mW J (kkD D) (pyD D) W 0 := by
          have q1 := i1 _ (by rw [ec]; exact fl)
          have q2 := vl_le (J := J) (kk := kkD D) (py := pyD D) (c := b) W 0
          omega
        have bi : b = foF J (kkD D) (pyD D) W 0 := by
          rcases Nat.lt_trichotomy b (foF J (kkD D) (pyD D) W 0) with z | z | z
          · have q1 := vl_lt (J := J) (kk := kkD D) (py := pyD D) W 0 b z
            omega
          · exact z
          · have q1 := i3 _ z
            omega
        refine g_if (fun q2 => ?_) (fun q2 => ?_)
        · refine g_getr 20 346 rfl hS.k336 hm.f_336_20 (by decide) ?_
          refine g_C ?_
          refine g_ldu hS.k346 hS.l346 (by decide) (by decide) (fun v3 ev3 => ?_)
          rw [eD, eW] at ev3
          refine g_if (fun q3 => ?_) (fun q3 => ?_)
          · refine g_C ?_
            refine g_S (by omega) (by omega) ?_
            refine ⟨hS.k336, ?_⟩
            obtain ⟨a, ea⟩ : ∃ a : Nat, what = (a : Int) + 1 := ⟨(what - 1).toNat, by omega⟩
            obtain ⟨r, er⟩ : ∃ r : Nat, W = a + 1 + r := ⟨W - (a + 1), by omega⟩
            refine zq_jugIn (J := J) (r := r) hS hm (by rw [eD]; exact eJ) hJ (by rw [eD, eW]; omega) (by omega) (by omega) (by omega) ?_
            rw [bi, fo_at er]
            exact h1 a r ea er
          · exact g_C (h2 (by omega))
        · have q := h0 (Classical.not_not.mp q2)
          rw [← ti] at q
          exact q
      refine ⟨hS.k336, ?_⟩
      refine u_X12_payBy ?_
      refine g_C ?_
      refine g_C ?_
      refine g_C ?_
      refine ⟨W + 1, zq_payBy_aux hS hm eD eJ hJ ⟨by omega, by omega⟩ (by omega) hp W 0 0 0 (by omega) (by decide) (by decide) (by decide) (by decide) (by decide) ?_⟩
      obtain ⟨x, ex⟩ : ∃ x : Int, x = vlF J (kkD D) (pyD D) W 0 c := ⟨_, rfl⟩
      rw [← ex, Int.zero_add]
      refine g_if (fun q2 => ?_) (fun q2 => ?_)
      · have xn : ¬ x < 0 := fun z => by rw [if_pos z] at q2; omega
        rw [if_neg xn] at q2 ⊢
        refine u_X12_match_75 ?_
        refine g_A (by omega) (by omega) ?_
        refine ih (c + 1) c x (by omega) (by omega) (by omega) (by omega) (fun y hy => ?_) ex.symm (fun y hy => ?_) (by omega)
        · by_cases e : y = c
          · rw [e, ← ex]; exact Int.le_refl x
          · have q1 := i1 y (by omega)
            omega
        · have q1 := i1 y hy
          omega
      · have xl : x ≤ t := by
          by_cases z : x < 0
          · omega
          · rw [if_neg z] at q2
            omega
        refine u_X12_match_75 ?_
        refine g_A (by omega) (by omega) ?_
        refine ih (c + 1) b t (by omega) (by omega) (by omega) t0 (fun y hy => ?_) i2 i3 (by omega)
        by_cases e : y = c
        · rw [e, ← ex]; exact xl
        · exact i1 y (by omega)
  have v0 : vlF J (kkD D) (pyD D) W 0 0 = 0 := by
    have g : ∀ (r : Nat) (u : Int), vlF J (kkD D) (pyD D) r u 0 = 0 := by
      intro r
      induction r with
      | zero => intro u; rfl
      | succ r ih => intro u; rw [vlF_n (by rw [Nat.zero_div, Nat.zero_mod])]; exact ih u
    exact g W 0
  refine ⟨(J + 1) ^ W, L ((J + 1) ^ W) 1 0 0 pp (by decide) (by decide) (by decide) (fun x hx => ?_) v0 (fun x hx => absurd hx (Nat.not_lt_zero x)) (by omega)⟩
  have ex : x = 0 := by omega
  rw [ex, v0]
  decide
theorem zz_match {S : Sh} {m0 : Mm} {K : Int → Int → Mm → Prop} {K1 : Int → Mm → Prop} {n w : Int} (hS : Shp S) (hz : RZ S m0 n) (hK : ∀ (r : Int) (M : Mm), wp_X12_match S M 336 w (fun r2 M2 => K r r2 M2) → K1 r M) (hk : ∀ (r : Int) (M1 : Mm), RZ S M1 n → K r r M1) : wp_X11_match S m0 0 w K1 := by
  have hm := hz.inv
  have db := hz.db
  have ct := hz.ct
  obtain ⟨D, eD⟩ : ∃ D : Int → Int, m0 346 = D := ⟨_, rfl⟩
  rw [eD] at db ct
  obtain ⟨J, eJ⟩ : ∃ J : Nat, D 5 = (J : Int) := ⟨(D 5).toNat, by omega⟩
  obtain ⟨W, eW⟩ : ∃ W : Nat, D 6 = (W : Int) := ⟨(D 6).toNat, by omega⟩
  have eJ2 : (D 5).toNat = J := by omega
  have hp : ∀ r : Nat, (r : Int) < D 6 → 0 ≤ pyD D r ∧ pyD D r ≤ 50 := fun r hr => by
    have zw := hz.wd (i := D 6 - 1 - (r : Int)) (by omega) (by rw [eD]; omega)
    rw [eD] at zw
    have b15 := hm.a_15 (i := D 6 - 1 - (r : Int)) (by omega) (by omega)
    rw [zw.2.2.2] at b15
    exact b15
  have no : ∀ r : Int, r = -3 → (m0 346 0 = 0 ∨ ¬ (0 ≤ w ∧ w ≤ 6)) → wp_X12_match S m0 336 w (fun r2 M2 => K r r2 M2) := by
    intro r er q
    rw [er]
    refine u_X12_match ?_
    refine ⟨hS.k336, ?_⟩
    refine zs_isDairy hS hm (fun c1 => g_ifF (by decide) ?_) (fun c1 => g_ifT rfl (g_C (hk _ m0 hz)))
    refine g_C ?_
    refine g_C ?_
    refine g_C ?_
    exact zs_in (fun c2 => absurd c2 (q.resolve_left c1)) (fun c2 => g_ifF (by decide) (g_C (hk _ m0 hz)))
  refine u_X11_match ?_
  refine g_getr 1 3 rfl hS.k0 hm.f_0_1 (by decide) ?_
  refine g_getr 0 4 rfl hS.k3 hm.f_3_0 (by decide) ?_
  refine g_getu 0 rfl hS.k4 (fun v ev => ?_)
  rw [ct.1] at ev
  refine g_if (fun q => g_C (hK _ _ (no _ rfl (Or.inl (by rw [eD]; omega))))) (fun q => ?_)
  refine g_if (fun q1 => g_C (hK _ _ (no _ rfl (Or.inr (by omega))))) (fun q1 => ?_)
  refine g_C ?_
  refine g_if (fun q2 => ?_) (fun q2 => g_C (hK _ _ (no _ rfl (Or.inr (by omega)))))
  have go : ∀ (r : Int) (M : Mm), RZ S M n → M 346 = D → ((w = 0 → r = mW J (kkD D) (pyD D) W 0) ∧ (∀ a s : Nat, w = (a : Int) + 1 → W = a + 1 + s → r = f1F J (kkD D) (pyD D) s (usF J (kkD D) (pyD D) W a)) ∧ ((W : Int) < w → r = -2)) → wp_X12_match S M 336 w (fun r2 M2 => K r r2 M2) := by
    intro r M zM e46 hr
    refine u_X12_match ?_
    refine ⟨hS.k336, ?_⟩
    refine zs_isDairy hS zM.inv (fun c1 => g_ifF (by decide) ?_) (fun c1 => absurd c1 (by rw [e46]; omega))
    refine g_C ?_
    refine g_C ?_
    refine g_C ?_
    refine zs_in (fun c2 => g_ifT (by decide) ?_) (fun c2 => absurd (by omega) c2)
    refine g_C ?_
    refine g_C ?_
    refine g_C ?_
    exact zq_match12 (D := D) (J := J) (W := W) hS zM.inv e46 eJ (by omega) eW (by omega) hp (by omega) (by omega) (fun z => by rw [← hr.1 z]; exact hk r M zM) (fun a s z1 z2 => by rw [← hr.2.1 a s z1 z2]; exact hk r M zM) (fun z => by rw [← hr.2.2 z]; exact hk r M zM)
  refine g_getr 1 3 rfl hS.k0 hm.f_0_1 (by decide) ?_
  refine g_getr 0 4 rfl hS.k3 hm.f_3_0 (by decide) ?_
  refine g_getu 7 rfl hS.k4 (fun v7 ev7 => ?_)
  rw [ct.2.2.2.2.2.2.2] at ev7
  refine g_if (fun q3 => ?_) (fun q3 => g_C (hK _ _ (go _ m0 hz eD ⟨fun z => by omega, fun a s z1 z2 => by omega, fun _ => rfl⟩)))
  refine g_getr 13 63 rfl hS.k0 hm.f_0_13 (by decide) ?_
  refine g_getr 1 3 rfl hS.k0 hm.f_0_1 (by decide) ?_
  refine g_getr 1 16 rfl hS.k3 hm.f_3_1 (by decide) ?_
  refine ⟨hS.k63, ?_⟩
  refine zq_matchWants (D := D) hS hz eD hp (fun m1 z1 f1 T => ?_)
  have hm1 := z1.inv
  have e46 : m1 346 = D := by rw [← eD]; exact funext (fun p => f1 346 p (by omega))
  refine g_if (fun w1 => ?_) (fun w1 => ?_)
  · refine g_getr 13 63 rfl hS.k0 hm1.f_0_13 (by decide) ?_
    refine g_getr 1 3 rfl hS.k0 hm1.f_0_1 (by decide) ?_
    refine g_getr 1 16 rfl hS.k3 hm1.f_3_1 (by decide) ?_
    refine g_C ?_
    refine g_S (by omega) (by omega) ?_
    refine ⟨hS.k63, ?_⟩
    obtain ⟨a, ea⟩ : ∃ a : Nat, w - 1 = (a : Int) := ⟨(w - 1).toNat, by omega⟩
    obtain ⟨r, er⟩ : ∃ r : Nat, W = a + 1 + r := ⟨W - (a + 1), by omega⟩
    rw [ea]
    refine zq_jugOfWant (D := D) (W := W) (r := r) hS z1 e46 eW.symm er hp T ?_
    rw [eJ2]
    refine hK _ _ (go _ m1 z1 e46 ⟨fun z => by omega, fun a2 s z1 z2 => ?_, fun z => by omega⟩)
    rw [show a2 = a by omega, show s = r by omega]
  · refine g_getr 13 63 rfl hS.k0 hm1.f_0_13 (by decide) ?_
    refine ⟨hS.k63, ?_⟩
    refine u_X6_mostPay ?_
    refine g_getr 1 64 rfl hS.k63 hm1.f_63_1 (by decide) ?_
    refine g_C ?_
    refine g_ldu hS.k64 hS.l64 (by decide) (by decide) (fun r er => ?_)
    have t0 := T 0 0 (by decide) (by decide) (by omega) (Or.inl (by decide))
    rw [show (0 : Int) * 16 + 0 = 0 from rfl, eJ2, show (D 6 - 0).toNat = W by omega] at t0
    refine hK _ _ (go _ m1 z1 e46 ⟨fun _ => by rw [er, t0], fun a s z1 z2 => by omega, fun z => by omega⟩)
end
