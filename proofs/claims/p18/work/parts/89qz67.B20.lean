/-! MATCH over numbers: the best by a table, and by all rows one after another -/
theorem bt_01 : ∀ v : Nat, v < 32 → ∀ j : Nat, j < 5 → btF (v : Int) (j : Int) = 0 ∨ btF (v : Int) (j : Int) = 1 := by decide +kernel
theorem or_15 : ∀ v : Nat, v < 16 → ∀ j : Nat, j < 4 → 0 ≤ iOr (v : Int) (iShl 1 (j : Int)) ∧ iOr (v : Int) (iShl 1 (j : Int)) ≤ 15 := by decide +kernel
def mxF (h : Int → Int) (b : Int) : Nat → Int
  | 0 => b
  | n + 1 => max (mxF h b n) (h (n : Int))
theorem mxF_b {h : Int → Int} {b : Int} : ∀ n : Nat, b ≤ mxF h b n := by
  intro n
  induction n with
  | zero => exact Int.le_refl b
  | succ n ih =>
    show b ≤ max (mxF h b n) (h (n : Int))
    omega
theorem mxF_h {h : Int → Int} {b : Int} : ∀ (n : Nat) (j : Int), 0 ≤ j → j < (n : Int) → h j ≤ mxF h b n := by
  intro n
  induction n with
  | zero => intro j a c; omega
  | succ n ih =>
    intro j a c
    show h j ≤ max (mxF h b n) (h (n : Int))
    by_cases e : j = (n : Int)
    · rw [e]; omega
    · have q := ih j a (by omega)
      omega
theorem mxF_at {h : Int → Int} {b : Int} : ∀ n : Nat, mxF h b n = b ∨ ∃ j : Int, 0 ≤ j ∧ j < (n : Int) ∧ h j = mxF h b n := by
  intro n
  induction n with
  | zero => exact Or.inl rfl
  | succ n ih =>
    have e : mxF h b (n + 1) = max (mxF h b n) (h (n : Int)) := rfl
    by_cases q : h (n : Int) ≤ mxF h b n
    · have e2 : mxF h b (n + 1) = mxF h b n := by omega
      rw [e2]
      rcases ih with z | ⟨j, a, c, z⟩
      · exact Or.inl z
      · exact Or.inr ⟨j, a, by omega, z⟩
    · exact Or.inr ⟨(n : Int), by omega, by omega, by omega⟩
def nuF (u c : Int) : Int := if c = -1 then u else iOr u (iShl 1 c)
def jwF (kk : Nat → Int → Bool) (py : Nat → Int) (r : Nat) (g : Int → Int) (u j : Int) : Int := if ¬ btF u j = 1 ∧ kk r j = true then py r + g (iOr u (iShl 1 j)) else -1
def mW (J : Nat) (kk : Nat → Int → Bool) (py : Nat → Int) : Nat → Int → Int
  | 0 => fun _ => 0
  | r + 1 => fun u => mxF (jwF kk py r (mW J kk py r) u) (mW J kk py r u) J
def pwF (J : Nat) (kk : Nat → Int → Bool) (py : Nat → Int) (r : Nat) (u c : Int) : Int := if c = -1 then mW J kk py r u else jwF kk py r (mW J kk py r) u c
theorem mW_0 {J : Nat} {kk : Nat → Int → Bool} {py : Nat → Int} : ∀ (r : Nat) (u : Int), 0 ≤ mW J kk py r u := by
  intro r
  induction r with
  | zero => intro u; exact Int.le_refl 0
  | succ r ih =>
    intro u
    have a := ih u
    have b := mxF_b (h := jwF kk py r (mW J kk py r) u) (b := mW J kk py r u) J
    show 0 ≤ mxF (jwF kk py r (mW J kk py r) u) (mW J kk py r u) J
    omega
theorem mW_b {J : Nat} {kk : Nat → Int → Bool} {py : Nat → Int} {W : Int} (hp : ∀ r : Nat, (r : Int) < W → 0 ≤ py r ∧ py r ≤ 50) : ∀ (r : Nat) (u : Int), (r : Int) ≤ W → mW J kk py r u ≤ 50 * (r : Int) := by
  intro r
  induction r with
  | zero => intro u _; exact Int.le_refl 0
  | succ r ih =>
    intro u hr
    have a := ih u (by omega)
    have p := hp r (by omega)
    have e : mW J kk py (r + 1) u = mxF (jwF kk py r (mW J kk py r) u) (mW J kk py r u) J := rfl
    rcases mxF_at (h := jwF kk py r (mW J kk py r) u) (b := mW J kk py r u) J with z | ⟨j, j0, j1, z⟩
    · omega
    · have q : jwF kk py r (mW J kk py r) u j ≤ 50 * (r : Int) + 50 := by
        unfold jwF
        by_cases w : ¬ btF u j = 1 ∧ kk r j = true
        · rw [if_pos w]
          have b := ih (iOr u (iShl 1 j)) (by omega)
          omega
        · rw [if_neg w]
          omega
      omega
theorem pwF_le {J : Nat} {kk : Nat → Int → Bool} {py : Nat → Int} {r : Nat} {u c : Int} (c0 : -1 ≤ c) (c1 : c < (J : Int)) : pwF J kk py r u c ≤ mW J kk py (r + 1) u := by
  unfold pwF
  show _ ≤ mxF (jwF kk py r (mW J kk py r) u) (mW J kk py r u) J
  by_cases e : c = -1
  · rw [if_pos e]; exact mxF_b J
  · rw [if_neg e]; exact mxF_h J c (by omega) c1
def fsF (h : Int → Int) (v : Int) : Nat → Int → Int
  | 0, _ => -1
  | n + 1, c => if h c = v then c else fsF h v n (c + 1)
theorem fsF_at {h : Int → Int} {v x : Int} (hx : h x = v) : ∀ (n : Nat) (c : Int), c ≤ x → x < c + (n : Int) → c ≤ fsF h v n c ∧ fsF h v n c < c + (n : Int) ∧ h (fsF h v n c) = v ∧ ∀ y : Int, c ≤ y → y < fsF h v n c → ¬ h y = v := by
  intro n
  induction n with
  | zero => intro c a b; omega
  | succ n ih =>
    intro c a b
    by_cases q : h c = v
    · have e : fsF h v (n + 1) c = c := if_pos q
      rw [e]
      exact ⟨Int.le_refl c, by omega, q, fun y y0 y1 => by omega⟩
    · have e : fsF h v (n + 1) c = fsF h v n (c + 1) := if_neg q
      have nx : ¬ c = x := fun z => q (by rw [z]; exact hx)
      obtain ⟨i1, i2, i3, i4⟩ := ih (c + 1) (by omega) (by omega)
      rw [e]
      refine ⟨by omega, by omega, i3, fun y y0 y1 => ?_⟩
      by_cases z : y = c
      · rw [z]; exact q
      · exact i4 y (by omega) y1
def f1F (J : Nat) (kk : Nat → Int → Bool) (py : Nat → Int) (r : Nat) (u : Int) : Int := fsF (pwF J kk py r u) (mW J kk py (r + 1) u) (J + 1) (-1)
theorem f1F_at {J : Nat} {kk : Nat → Int → Bool} {py : Nat → Int} (r : Nat) (u : Int) : -1 ≤ f1F J kk py r u ∧ f1F J kk py r u < (J : Int) ∧ pwF J kk py r u (f1F J kk py r u) = mW J kk py (r + 1) u ∧ ∀ y : Int, -1 ≤ y → y < f1F J kk py r u → ¬ pwF J kk py r u y = mW J kk py (r + 1) u := by
  have go : ∀ x : Int, -1 ≤ x → x < (J : Int) → pwF J kk py r u x = mW J kk py (r + 1) u → -1 ≤ f1F J kk py r u ∧ f1F J kk py r u < (J : Int) ∧ pwF J kk py r u (f1F J kk py r u) = mW J kk py (r + 1) u ∧ ∀ y : Int, -1 ≤ y → y < f1F J kk py r u → ¬ pwF J kk py r u y = mW J kk py (r + 1) u := by
    intro x x0 x1 hx
    have q := fsF_at hx (J + 1) (-1) x0 (by omega)
    exact ⟨q.1, by have := q.2.1; unfold f1F; omega, q.2.2.1, q.2.2.2⟩
  rcases mxF_at (h := jwF kk py r (mW J kk py r) u) (b := mW J kk py r u) J with z | ⟨j, j0, j1, z⟩
  · refine go (-1) (by decide) (by omega) ?_
    have e : pwF J kk py r u (-1) = mW J kk py r u := if_pos rfl
    rw [e]
    exact z.symm
  · refine go j (by omega) j1 ?_
    have e : pwF J kk py r u j = jwF kk py r (mW J kk py r) u j := if_neg (by omega)
    rw [e]
    exact z
/-- the first row that is best, as a number to the base J + 1 -/
def foF (J : Nat) (kk : Nat → Int → Bool) (py : Nat → Int) : Nat → Int → Nat
  | 0 => fun _ => 0
  | r + 1 => fun u => (f1F J kk py r u + 1).toNat * (J + 1) ^ r + foF J kk py r (nuF u (f1F J kk py r u))
/-- what a row comes to -/
def vlF (J : Nat) (kk : Nat → Int → Bool) (py : Nat → Int) : Nat → Int → Nat → Int
  | 0 => fun _ _ => 0
  | r + 1 => fun u c => if c / (J + 1) ^ r % (J + 1) = 0 then vlF J kk py r u c else if ¬ btF u (((c / (J + 1) ^ r % (J + 1) : Nat) : Int) - 1) = 1 ∧ kk r (((c / (J + 1) ^ r % (J + 1) : Nat) : Int) - 1) = true then (if vlF J kk py r (iOr u (iShl 1 (((c / (J + 1) ^ r % (J + 1) : Nat) : Int) - 1))) c < 0 then -1 else py r + vlF J kk py r (iOr u (iShl 1 (((c / (J + 1) ^ r % (J + 1) : Nat) : Int) - 1))) c) else -1
theorem vlF_n {J : Nat} {kk : Nat → Int → Bool} {py : Nat → Int} {r c : Nat} {u : Int} (h : c / (J + 1) ^ r % (J + 1) = 0) : vlF J kk py (r + 1) u c = vlF J kk py r u c := if_pos h
theorem vlF_j {J : Nat} {kk : Nat → Int → Bool} {py : Nat → Int} {r c : Nat} {u j : Int} (h : ((c / (J + 1) ^ r % (J + 1) : Nat) : Int) = j + 1) (j0 : 0 ≤ j) (g : ¬ btF u j = 1 ∧ kk r j = true) : vlF J kk py (r + 1) u c = if vlF J kk py r (iOr u (iShl 1 j)) c < 0 then -1 else py r + vlF J kk py r (iOr u (iShl 1 j)) c := by
  have e : ((c / (J + 1) ^ r % (J + 1) : Nat) : Int) - 1 = j := by omega
  have q : vlF J kk py (r + 1) u c = if ¬ btF u (((c / (J + 1) ^ r % (J + 1) : Nat) : Int) - 1) = 1 ∧ kk r (((c / (J + 1) ^ r % (J + 1) : Nat) : Int) - 1) = true then (if vlF J kk py r (iOr u (iShl 1 (((c / (J + 1) ^ r % (J + 1) : Nat) : Int) - 1))) c < 0 then -1 else py r + vlF J kk py r (iOr u (iShl 1 (((c / (J + 1) ^ r % (J + 1) : Nat) : Int) - 1))) c) else -1 := if_neg (by omega)
  rw [q, e, if_pos g]
theorem vlF_x {J : Nat} {kk : Nat → Int → Bool} {py : Nat → Int} {r c : Nat} {u j : Int} (h : ((c / (J + 1) ^ r % (J + 1) : Nat) : Int) = j + 1) (j0 : 0 ≤ j) (g : ¬ (¬ btF u j = 1 ∧ kk r j = true)) : vlF J kk py (r + 1) u c = -1 := by
  have e : ((c / (J + 1) ^ r % (J + 1) : Nat) : Int) - 1 = j := by omega
  have q : vlF J kk py (r + 1) u c = if ¬ btF u (((c / (J + 1) ^ r % (J + 1) : Nat) : Int) - 1) = 1 ∧ kk r (((c / (J + 1) ^ r % (J + 1) : Nat) : Int) - 1) = true then (if vlF J kk py r (iOr u (iShl 1 (((c / (J + 1) ^ r % (J + 1) : Nat) : Int) - 1))) c < 0 then -1 else py r + vlF J kk py r (iOr u (iShl 1 (((c / (J + 1) ^ r % (J + 1) : Nat) : Int) - 1))) c) else -1 := if_neg (by omega)
  rw [q, e, if_neg g]
theorem dg_lt {J c r : Nat} : c / (J + 1) ^ r % (J + 1) < J + 1 := Nat.mod_lt _ (Nat.succ_pos J)
/-- a row is no better than its choice of one WANT -/
theorem vl_pw {J : Nat} {kk : Nat → Int → Bool} {py : Nat → Int} {r c : Nat} {u : Int} (ih : ∀ (u : Int), vlF J kk py r u c ≤ mW J kk py r u) : vlF J kk py (r + 1) u c ≤ pwF J kk py r u (((c / (J + 1) ^ r % (J + 1) : Nat) : Int) - 1) ∨ vlF J kk py (r + 1) u c = -1 := by
  by_cases z : c / (J + 1) ^ r % (J + 1) = 0
  · have e : pwF J kk py r u (((c / (J + 1) ^ r % (J + 1) : Nat) : Int) - 1) = mW J kk py r u := if_pos (by omega)
    rw [e, vlF_n z]
    exact Or.inl (ih u)
  · obtain ⟨j, ej⟩ : ∃ j : Int, j = ((c / (J + 1) ^ r % (J + 1) : Nat) : Int) - 1 := ⟨_, rfl⟩
    rw [← ej]
    by_cases g : ¬ btF u j = 1 ∧ kk r j = true
    · have e : pwF J kk py r u j = jwF kk py r (mW J kk py r) u j := if_neg (by omega)
      have e2 : jwF kk py r (mW J kk py r) u j = py r + mW J kk py r (iOr u (iShl 1 j)) := if_pos g
      rw [e, e2, vlF_j (j := j) (by omega) (by omega) g]
      have q := ih (iOr u (iShl 1 j))
      by_cases w : vlF J kk py r (iOr u (iShl 1 j)) c < 0
      · rw [if_pos w]; exact Or.inr rfl
      · rw [if_neg w]; exact Or.inl (by omega)
    · exact Or.inr (vlF_x (j := j) (by omega) (by omega) g)
theorem vl_le {J : Nat} {kk : Nat → Int → Bool} {py : Nat → Int} {c : Nat} : ∀ (r : Nat) (u : Int), vlF J kk py r u c ≤ mW J kk py r u := by
  intro r
  induction r with
  | zero => intro u; exact Int.le_refl 0
  | succ r ih =>
    intro u
    have d := dg_lt (J := J) (c := c) (r := r)
    rcases vl_pw (u := u) ih with q | q
    · have b := pwF_le (J := J) (kk := kk) (py := py) (r := r) (u := u) (c := ((c / (J + 1) ^ r % (J + 1) : Nat) : Int) - 1) (by omega) (by omega)
      omega
    · have b := mW_0 (J := J) (kk := kk) (py := py) (r + 1) u
      omega
theorem vl_mod {J : Nat} {kk : Nat → Int → Bool} {py : Nat → Int} {c d : Nat} : ∀ (r : Nat) (u : Int), c % (J + 1) ^ r = d % (J + 1) ^ r → vlF J kk py r u c = vlF J kk py r u d := by
  intro r
  induction r with
  | zero => intro u _; rfl
  | succ r ih =>
    intro u h
    rw [Nat.pow_succ] at h
    have e1 : c / (J + 1) ^ r % (J + 1) = d / (J + 1) ^ r % (J + 1) := by
      rw [← Nat.mod_mul_right_div_self, ← Nat.mod_mul_right_div_self, h]
    have e2 : c % (J + 1) ^ r = d % (J + 1) ^ r := by
      rw [← Nat.mod_mul_right_mod c ((J + 1) ^ r) (J + 1), ← Nat.mod_mul_right_mod d ((J + 1) ^ r) (J + 1), h]
    by_cases z : c / (J + 1) ^ r % (J + 1) = 0
    · rw [vlF_n z, vlF_n (by rw [← e1]; exact z)]
      exact ih u e2
    · obtain ⟨j, ej⟩ : ∃ j : Int, j = ((c / (J + 1) ^ r % (J + 1) : Nat) : Int) - 1 := ⟨_, rfl⟩
      by_cases g : ¬ btF u j = 1 ∧ kk r j = true
      · rw [vlF_j (j := j) (by omega) (by omega) g, vlF_j (j := j) (by rw [← e1]; omega) (by omega) g, ih _ e2]
      · rw [vlF_x (j := j) (by omega) (by omega) g, vlF_x (j := j) (by rw [← e1]; omega) (by omega) g]
theorem fo_lt {J : Nat} {kk : Nat → Int → Bool} {py : Nat → Int} : ∀ (r : Nat) (u : Int), foF J kk py r u < (J + 1) ^ r := by
  intro r
  induction r with
  | zero => intro u; exact Nat.one_pos
  | succ r ih =>
    intro u
    have a := ih (nuF u (f1F J kk py r u))
    have q := f1F_at (J := J) (kk := kk) (py := py) r u
    have b : (f1F J kk py r u + 1).toNat ≤ J := by omega
    have c := Nat.mul_le_mul_right ((J + 1) ^ r) b
    have e : (J + 1) ^ (r + 1) = J * (J + 1) ^ r + (J + 1) ^ r := by
      rw [Nat.pow_succ, Nat.mul_comm, Nat.succ_mul]
    show (f1F J kk py r u + 1).toNat * (J + 1) ^ r + foF J kk py r (nuF u (f1F J kk py r u)) < (J + 1) ^ (r + 1)
    omega
theorem fo_dg {J : Nat} {kk : Nat → Int → Bool} {py : Nat → Int} (r : Nat) (u : Int) : foF J kk py (r + 1) u / (J + 1) ^ r = (f1F J kk py r u + 1).toNat ∧ foF J kk py (r + 1) u % (J + 1) ^ r = foF J kk py r (nuF u (f1F J kk py r u)) := by
  have a := fo_lt (J := J) (kk := kk) (py := py) r (nuF u (f1F J kk py r u))
  have e : foF J kk py (r + 1) u = (f1F J kk py r u + 1).toNat * (J + 1) ^ r + foF J kk py r (nuF u (f1F J kk py r u)) := rfl
  have p : 0 < (J + 1) ^ r := Nat.pow_pos (Nat.succ_pos J)
  constructor
  · rw [e, Nat.add_comm, Nat.add_mul_div_right _ _ p, Nat.div_eq_of_lt a, Nat.zero_add]
  · rw [e, Nat.mul_add_mod_of_lt a]
theorem vl_fo {J : Nat} {kk : Nat → Int → Bool} {py : Nat → Int} : ∀ (r : Nat) (u : Int), vlF J kk py r u (foF J kk py r u) = mW J kk py r u := by
  intro r
  induction r with
  | zero => intro u; rfl
  | succ r ih =>
    intro u
    obtain ⟨d1, d2⟩ := fo_dg (J := J) (kk := kk) (py := py) r u
    obtain ⟨q1, q2, q3, q4⟩ := f1F_at (J := J) (kk := kk) (py := py) r u
    have dg : foF J kk py (r + 1) u / (J + 1) ^ r % (J + 1) = (f1F J kk py r u + 1).toNat := by
      rw [d1]; exact Nat.mod_eq_of_lt (by omega)
    have rs : ∀ v : Int, vlF J kk py r v (foF J kk py (r + 1) u) = vlF J kk py r v (foF J kk py r (nuF u (f1F J kk py r u))) := fun v => vl_mod r v (by rw [d2, Nat.mod_eq_of_lt (fo_lt r _)])
    by_cases e : f1F J kk py r u = -1
    · rw [vlF_n (by rw [dg, e]; rfl), rs]
      have e1 : nuF u (f1F J kk py r u) = u := if_pos e
      rw [e1, ih]
      have e2 : pwF J kk py r u (f1F J kk py r u) = mW J kk py r u := if_pos e
      rw [← q3, e2]
    · have e2 : pwF J kk py r u (f1F J kk py r u) = jwF kk py r (mW J kk py r) u (f1F J kk py r u) := if_neg e
      have m0 := mW_0 (J := J) (kk := kk) (py := py) (r + 1) u
      by_cases g : ¬ btF u (f1F J kk py r u) = 1 ∧ kk r (f1F J kk py r u) = true
      · have e3 : jwF kk py r (mW J kk py r) u (f1F J kk py r u) = py r + mW J kk py r (iOr u (iShl 1 (f1F J kk py r u))) := if_pos g
        have e1 : nuF u (f1F J kk py r u) = iOr u (iShl 1 (f1F J kk py r u)) := if_neg e
        have m1 := mW_0 (J := J) (kk := kk) (py := py) r (iOr u (iShl 1 (f1F J kk py r u)))
        rw [vlF_j (j := f1F J kk py r u) (by rw [dg]; omega) (by omega) g, rs, e1, ih, if_neg (by omega), ← q3, e2, e3]
      · have e3 : jwF kk py r (mW J kk py r) u (f1F J kk py r u) = -1 := if_neg g
        omega
theorem vl_lt {J : Nat} {kk : Nat → Int → Bool} {py : Nat → Int} : ∀ (r : Nat) (u : Int) (c : Nat), c < foF J kk py r u → vlF J kk py r u c < mW J kk py r u := by
  intro r
  induction r with
  | zero => intro u c h; exact absurd h (Nat.not_lt_zero c)
  | succ r ih =>
    intro u c h
    obtain ⟨q1, q2, q3, q4⟩ := f1F_at (J := J) (kk := kk) (py := py) r u
    have m0 := mW_0 (J := J) (kk := kk) (py := py) (r + 1) u
    have e : foF J kk py (r + 1) u = (f1F J kk py r u + 1).toNat * (J + 1) ^ r + foF J kk py r (nuF u (f1F J kk py r u)) := rfl
    have fl := fo_lt (J := J) (kk := kk) (py := py) r (nuF u (f1F J kk py r u))
    have p : 0 < (J + 1) ^ r := Nat.pow_pos (Nat.succ_pos J)
    have dm := Nat.div_add_mod' c ((J + 1) ^ r)
    have ml := Nat.mod_lt c p
    obtain ⟨d, ed⟩ : ∃ d : Nat, d = c / (J + 1) ^ r := ⟨_, rfl⟩
    rw [← ed] at dm
    have dle : d ≤ (f1F J kk py r u + 1).toNat := by
      apply Classical.byContradiction
      intro n
      have n2 : (f1F J kk py r u + 1).toNat + 1 ≤ d := by omega
      have n3 := Nat.mul_le_mul_right ((J + 1) ^ r) n2
      rw [Nat.succ_mul] at n3
      have j0 := Int.natCast_nonneg (c % (J + 1) ^ r)
      omega
    have dm2 : c / (J + 1) ^ r % (J + 1) = d := by rw [← ed]; exact Nat.mod_eq_of_lt (by omega)
    by_cases dl : d < (f1F J kk py r u + 1).toNat
    · rcases vl_pw (kk := kk) (py := py) (u := u) (r := r) (c := c) (fun v => vl_le r v) with q | q
      · rw [dm2] at q
        have b := pwF_le (J := J) (kk := kk) (py := py) (r := r) (u := u) (c := (d : Int) - 1) (by omega) (by omega)
        have n := q4 ((d : Int) - 1) (by omega) (by omega)
        omega
      · omega
    · have de : d = (f1F J kk py r u + 1).toNat := by omega
      have cl : c % (J + 1) ^ r < foF J kk py r (nuF u (f1F J kk py r u)) := by
        rw [de] at dm
        omega
      have il := ih _ _ cl
      have rs : ∀ v : Int, vlF J kk py r v c = vlF J kk py r v (c % (J + 1) ^ r) := fun v => vl_mod r v (by rw [Nat.mod_mod])
      by_cases e1 : f1F J kk py r u = -1
      · have en : nuF u (f1F J kk py r u) = u := if_pos e1
        rw [en] at il
        have e2 : pwF J kk py r u (f1F J kk py r u) = mW J kk py r u := if_pos e1
        rw [vlF_n (by rw [dm2, de, e1]; rfl), rs, ← q3, e2]
        exact il
      · have en : nuF u (f1F J kk py r u) = iOr u (iShl 1 (f1F J kk py r u)) := if_neg e1
        rw [en] at il
        have e2 : pwF J kk py r u (f1F J kk py r u) = jwF kk py r (mW J kk py r) u (f1F J kk py r u) := if_neg e1
        by_cases g : ¬ btF u (f1F J kk py r u) = 1 ∧ kk r (f1F J kk py r u) = true
        · have e3 : jwF kk py r (mW J kk py r) u (f1F J kk py r u) = py r + mW J kk py r (iOr u (iShl 1 (f1F J kk py r u))) := if_pos g
          rw [vlF_j (j := f1F J kk py r u) (by rw [dm2]; omega) (by omega) g, rs]
          by_cases w : vlF J kk py r (iOr u (iShl 1 (f1F J kk py r u))) (c % (J + 1) ^ r) < 0
          · rw [if_pos w]; omega
          · rw [if_neg w]; omega
        · rw [vlF_x (j := f1F J kk py r u) (by rw [dm2]; omega) (by omega) g]
          omega
/-- the JUGS used ahead of a WANT in the first best row -/
def usF (J : Nat) (kk : Nat → Int → Bool) (py : Nat → Int) (W : Nat) : Nat → Int
  | 0 => 0
  | w + 1 => nuF (usF J kk py W w) (f1F J kk py (W - 1 - w) (usF J kk py W w))
theorem fo_us {J : Nat} {kk : Nat → Int → Bool} {py : Nat → Int} {W : Nat} : ∀ w : Nat, w ≤ W → foF J kk py W 0 % (J + 1) ^ (W - w) = foF J kk py (W - w) (usF J kk py W w) := by
  intro w
  induction w with
  | zero => intro _; exact Nat.mod_eq_of_lt (fo_lt W 0)
  | succ w ih =>
    intro h
    have q := ih (by omega)
    obtain ⟨r, er⟩ : ∃ r : Nat, r = W - (w + 1) := ⟨_, rfl⟩
    have e1 : W - w = r + 1 := by omega
    have e2 : W - 1 - w = r := by omega
    rw [e1] at q
    rw [← er]
    have e3 : usF J kk py W (w + 1) = nuF (usF J kk py W w) (f1F J kk py r (usF J kk py W w)) := by rw [← e2]; rfl
    rw [e3, ← (fo_dg r (usF J kk py W w)).2, ← q, Nat.pow_succ, Nat.mod_mul_right_mod]
theorem fo_at {J : Nat} {kk : Nat → Int → Bool} {py : Nat → Int} {W w r : Nat} (h : W = w + 1 + r) : ((foF J kk py W 0 / (J + 1) ^ r % (J + 1) : Nat) : Int) - 1 = f1F J kk py r (usF J kk py W w) := by
  have q := fo_us (J := J) (kk := kk) (py := py) (W := W) w (by omega)
  rw [show W - w = r + 1 by omega] at q
  have z := f1F_at (J := J) (kk := kk) (py := py) r (usF J kk py W w)
  have e : foF J kk py W 0 / (J + 1) ^ r % (J + 1) = (f1F J kk py r (usF J kk py W w) + 1).toNat := by
    rw [← (fo_dg r (usF J kk py W w)).1, ← q, Nat.pow_succ, Nat.mod_mul_right_div_self]
  rw [e]
  omega
theorem us_b {J : Nat} {kk : Nat → Int → Bool} {py : Nat → Int} {W : Nat} (hJ : J ≤ 4) : ∀ w : Nat, 0 ≤ usF J kk py W w ∧ usF J kk py W w ≤ 15 := by
  intro w
  induction w with
  | zero => exact ⟨Int.le_refl 0, by show (0 : Int) ≤ 15; decide⟩
  | succ w ih =>
    have z := f1F_at (J := J) (kk := kk) (py := py) (W - 1 - w) (usF J kk py W w)
    show 0 ≤ nuF (usF J kk py W w) (f1F J kk py (W - 1 - w) (usF J kk py W w)) ∧ nuF (usF J kk py W w) (f1F J kk py (W - 1 - w) (usF J kk py W w)) ≤ 15
    unfold nuF
    by_cases e : f1F J kk py (W - 1 - w) (usF J kk py W w) = -1
    · rw [if_pos e]; exact ih
    · rw [if_neg e]
      have o := or_15 (usF J kk py W w).toNat (by omega) (f1F J kk py (W - 1 - w) (usF J kk py W w)).toNat (by omega)
      rw [Int.toNat_of_nonneg ih.1, Int.toNat_of_nonneg (by omega)] at o
      exact o
/-- which JUG a WANT may have, its PAY; by how many WANTS come behind it -/
def kkD (D : Int → Int) (r : Nat) (j : Int) : Bool := decide (D (51 + (D 6 - 1 - (r : Int))) < 0 ∧ ¬ D (35 + 4 * j + 3) = 1 ∧ D (93 + 4 * (D 6 - 1 - (r : Int)) + 1) ≤ D (35 + 4 * j + 2) ∧ D (35 + 4 * j + 2) ≤ D (93 + 4 * (D 6 - 1 - (r : Int)) + 2))
def pyD (D : Int → Int) (r : Nat) : Int := D (93 + 4 * (D 6 - 1 - (r : Int)) + 3)
theorem kkD_iff {D : Int → Int} {r : Nat} {j w : Int} (ew : D 6 - 1 - (r : Int) = w) : kkD D r j = true ↔ (D (51 + w) < 0 ∧ ¬ D (35 + 4 * j + 3) = 1 ∧ D (93 + 4 * w + 1) ≤ D (35 + 4 * j + 2) ∧ D (35 + 4 * j + 2) ≤ D (93 + 4 * w + 2)) := by
  unfold kkD
  rw [ew]
  exact ⟨fun h => of_decide_eq_true h, fun h => decide_eq_true h⟩
theorem pyD_w {D : Int → Int} {r : Nat} {w : Int} (ew : D 6 - 1 - (r : Int) = w) : pyD D r = D (93 + 4 * w + 3) := by
  unfold pyD
  rw [ew]
