section
theorem CP.push {m m1 : Mm} {st : List Bool} {s : Int} (h : CP m st) (h0 : 0 ≤ m 52 5) (f : ∀ c p : Int, ¬ (c = 52 ∧ p = 5) ∧ ¬ (c = 54 ∧ p = m 52 5) → m1 c p = m c p) (h5 : m1 52 5 = m 52 5 + 1) (hs : m1 54 (m 52 5) = s) : stk (m1 54) (m1 52 5).toNat = (if s = -27 then true :: st else if s = -22 then false :: st else st) ∧ (((s = -23 ∨ s = -24) → ¬ hNt (m 54) (m 52 5).toNat) → okp (m1 54) (m1 52 5).toNat) ∧ (((-24 ≤ s ∧ s ≤ -12) ∨ s = -27) → ∀ j : Int, 0 ≤ j → j < m1 52 5 → (-24 ≤ m1 54 j ∧ m1 54 j ≤ -12) ∨ m1 54 j = -27) := by
  obtain ⟨p1, p2, p3, p4⟩ := h
  have en : (m1 52 5).toNat = (m 52 5).toNat + 1 := by omega
  have ct : (((m 52 5).toNat : Nat) : Int) = m 52 5 := by omega
  obtain ⟨q1, q2, q3⟩ := stk_same (f := m1 54) (g := m 54) (m 52 5).toNat (fun j j0 j1 => f 54 j (by first | decide | exact fun z => absurd z.1 (by decide) | exact ⟨fun z => absurd z.1 (by decide), fun z => absurd z.1 (by decide)⟩ | omega))
  refine ⟨?_, fun hh => ?_, fun hh j j0 j1 => ?_⟩
  · rw [en]
    show (if m1 54 (((m 52 5).toNat : Nat) : Int) = -27 then true :: stk (m1 54) (m 52 5).toNat else if m1 54 (((m 52 5).toNat : Nat) : Int) = -22 then false :: stk (m1 54) (m 52 5).toNat else stk (m1 54) (m 52 5).toNat) = _
    rw [ct, hs, q1, p1]
  · rw [en]
    refine ⟨by rw [q3]; exact p3, fun z => ?_⟩
    rw [ct, hs] at z
    rw [q2]
    exact hh z
  · by_cases e : j = m 52 5
    · rw [e, hs]; exact hh
    · rw [f 54 j (by first | decide | exact fun z => absurd z.1 (by decide) | exact ⟨fun z => absurd z.1 (by decide), fun z => absurd z.1 (by decide)⟩ | omega)]
      exact p4 j j0 (by omega)
end
section
theorem wrd_no {b : Int → Int} {n q : Int} {k : Nat} (h : Wk b n k q) (h2 : 2 ≤ tl k) : q < n ∧ b q = tw k 0 := by
  have z := h.1 0 (by omega) (by omega)
  rw [Int.add_zero] at z
  exact z
end
section
theorem Lk.fault {b : Int → Int} {n : Int} {T : Int → Prop} {M : Mm} {m k q f : Int} {st : List Bool} (h : Lk b n T M m st k) (hs : Sk b n (M 1 2) q) (hp : stp b n (Acc b n) m q (M 52 3) st k f) : T f := h.1 f (a_step hs hp)
theorem ze_refuse0 {X : Mm} {S : Sh} {m0 : Mm} {K : Int → Mm → Prop} {q u : Int} {T : Int → Prop} (hS : Shp S) (hm0 : Inv X S m0) (h4 : m0 1 4 = 0) (h3 : m0 1 3 = q) (q0 : 0 ≤ q) (u0 : 0 ≤ u) (u1 : u ≤ 4) (hT : T (1 + 8 * q + u)) (hf : ∀ M1 : Mm, Inv X S M1 → T (M1 1 4) → ¬ M1 1 4 = 0 → K 0 M1) : isK S 1 7 ∧ wp_X7_refuse S m0 1 u (fun v M => (v = 0 ∨ v = 1) ∧ K v M) := by
  refine ⟨hS.k1, ?_⟩
  refine ze_refuse hS hm0 u0 u1 (fun m2 hm2 f2 y2 => ?_)
  have y3 : m2 1 4 = 1 + 8 * q + u := by omega
  refine ⟨by decide, hf m2 hm2 ?_ (by omega)⟩
  rw [y3]
  exact hT
end
section
theorem Sk_ex (b : Int → Int) (n : Int) : ∀ (k : Nat) (p : Int), n - p ≤ (k : Int) → ∃ q : Int, Sk b n p q := by
  intro k
  induction k with
  | zero => intro p h; exact ⟨p, Sk.self (Or.inl (by omega))⟩
  | succ k ih =>
    intro p h
    by_cases e : p < n ∧ b p = 32
    · obtain ⟨q, hq⟩ := ih (p + 1) (by omega)
      exact ⟨q, hq.cons e.1 e.2⟩
    · exact ⟨p, Sk.self (by omega)⟩
theorem zl_whole {S : Sh} {m : Mm} {K : Int → Mm → Prop} (hS : Shp S) (h1 : (m 52 8 = 2 ∨ m 52 8 = 3) → K 1 m) (h0 : ¬ (m 52 8 = 2 ∨ m 52 8 = 3) → K 0 m) : wp_X3_isFactWhole S m 52 K := by
  refine u_X3_isFactWhole ?_
  refine g_getu 8 rfl hS.k52 (fun w ew => ?_)
  refine g_C ?_
  refine g_if (fun w1 => ?_) (fun w1 => ?_)
  · refine u_X3_isFactWhole_16 ?_
    exact g_C ⟨by decide, h1 (by omega)⟩
  · refine g_getu 8 rfl hS.k52 (fun w' ew' => ?_)
    refine g_C ?_
    refine g_if (fun w2 => g_C ⟨by decide, h0 (by omega)⟩) (fun w2 => ?_)
    refine u_X3_isFactWhole_16 ?_
    exact g_C ⟨by decide, h1 (by omega)⟩
end
section
theorem zl_isLetter {X : Mm} {S : Sh} {m : Mm} {K : Int → Mm → Prop} {i : Int} (hS : Shp S) (hm : Inv X S m) (h0 : 0 ≤ i) (k1 : i < m 336 1 → 97 ≤ m 337 i → m 337 i ≤ 122 → K 1 m) (k0 : ¬ (i < m 336 1 ∧ 97 ≤ m 337 i ∧ m 337 i ≤ 122) → K 0 m) : wp_X12_isLetter S m 336 i K := by
  refine u_X12_isLetter ?_
  refine g_get 1 (0) (400) rfl hS.k336 hm.f_336_1 (fun t et bt ct => ?_)
  refine g_if (fun w => ?_) (fun w => ?_)
  · exact g_C ⟨by decide, k0 (by omega)⟩
  · refine g_getr 0 337 rfl hS.k336 hm.f_336_0 (by decide) ?_
    refine g_ldu hS.k337 hS.l337 (by omega) (by omega) (fun x ex => ?_)
    refine g_C ?_
    refine g_if (fun w2 => ?_) (fun w2 => ?_)
    · exact g_C ⟨by decide, k0 (by omega)⟩
    · refine g_getr 0 337 rfl hS.k336 hm.f_336_0 (by decide) ?_
      refine g_ldu hS.k337 hS.l337 (by omega) (by omega) (fun y ey => ?_)
      refine g_C ?_
      refine g_if (fun w3 => ?_) (fun w3 => ?_)
      · exact g_C ⟨by decide, k0 (by omega)⟩
      · exact g_C ⟨by decide, k1 (by omega) (by omega) (by omega)⟩
/-! the reference's tape, to the letter -/
def TR (X : Mm) (b : Int → Int) (n : Int) : Prop := X 336 1 = n ∧ (0 ≤ n ∧ n ≤ 400) ∧ ∀ p : Int, 0 ≤ p → p < n → X 337 p = b p ∧ -128 ≤ b p ∧ b p ≤ 127
theorem TR.n {X : Mm} {S : Sh} {m : Mm} {b : Int → Int} {n : Int} (h : TR X b n) (hm : Inv X S m) : m 336 1 = n := (hm.g (by decide)).trans h.1
theorem TR.b {X : Mm} {S : Sh} {m : Mm} {b : Int → Int} {n : Int} (h : TR X b n) (hm : Inv X S m) {p : Int} (p0 : 0 ≤ p) (p1 : p < n) : m 337 p = b p := (hm.g (c := 337) (p := p) (by omega)).trans (h.2.2 p p0 p1).1
theorem zx_see {X : Mm} {S : Sh} {m0 : Mm} {K : Int → Mm → Prop} {b : Int → Int} {n : Int} (hS : Shp S) (hm0 : Inv X S m0) (ht : TR X b n) (hp : m0 336 8 ≤ n) (hk : ∀ (r q : Int) (M1 : Mm), Inv X S M1 → (∀ c p : Int, ¬ (c = 336 ∧ 8 ≤ p ∧ p ≤ 8) → M1 c p = m0 c p) → Sk b n (m0 336 8) q → M1 336 8 = q → q ≤ n → ((q < n ∧ r = u8 (b q)) ∨ (n ≤ q ∧ r = -1)) → K r M1) : wp_X12_see S m0 336 K := by
  have nb := ht.2.1
  have L : ∀ (k : Nat) (m : Mm), Inv X S m → (∀ c p : Int, ¬ (c = 336 ∧ 8 ≤ p ∧ p ≤ 8) → m c p = m0 c p) → m0 336 8 ≤ m 336 8 → (∀ j : Int, m0 336 8 ≤ j → j < m 336 8 → j < n ∧ b j = 32) → m 336 8 ≤ n → 401 - m 336 8 ≤ (k : Int) → wp_X12_see_0 S K k 336 m := by
    intro k
    induction k with
    | zero => intro m hm _ _ _ _ h; exfalso; omega
    | succ k ih =>
      intro m hm F a1 a2 a3 h
      have b8 := hm.f_336_8
      have g1 := ht.n hm
      have fin : (n ≤ m 336 8 ∨ ¬ b (m 336 8) = 32) → wp_X12_see_38 S K 336 m := by
        intro hn
        have sk : Sk b n (m0 336 8) (m 336 8) := ⟨a1, a2, hn⟩
        refine u_X12_see_38 ?_
        refine g_getu 8 rfl hS.k336 (fun v ev => ?_)
        refine g_getu 1 rfl hS.k336 (fun t et => ?_)
        rw [g1] at et
        refine g_if (fun w => g_C (hk (-1) (m 336 8) m hm F sk rfl a3 (Or.inr ⟨by omega, rfl⟩))) (fun w => ?_)
        refine g_getr 0 337 rfl hS.k336 hm.f_336_0 (by decide) ?_
        refine g_getu 8 rfl hS.k336 (fun v2 ev2 => ?_)
        refine g_ldu hS.k337 hS.l337 (by omega) (by omega) (fun x ex => ?_)
        refine g_C ?_
        refine g_Oe (fun y ey => ?_)
        have tb := ht.2.2 (m 336 8) (by omega) (by omega)
        rw [ex, ev2, ht.b hm (by omega) (by omega), iAnd_u8 tb.2.1 tb.2.2] at ey
        exact hk y (m 336 8) m hm F sk rfl a3 (Or.inl ⟨by omega, ey⟩)
      refine u_X12_see_0 ?_
      refine g_getu 8 rfl hS.k336 (fun v ev => ?_)
      refine g_getu 1 rfl hS.k336 (fun t et => ?_)
      rw [g1] at et
      refine g_if (fun w => fin (by omega)) (fun w => ?_)
      refine g_getr 0 337 rfl hS.k336 hm.f_336_0 (by decide) ?_
      refine g_getu 8 rfl hS.k336 (fun v2 ev2 => ?_)
      refine g_ldu hS.k337 hS.l337 (by omega) (by omega) (fun x ex => ?_)
      rw [ev2, ht.b hm (by omega) (by omega)] at ex
      refine g_C ?_
      refine g_if (fun w2 => fin (Or.inr (by omega))) (fun w2 => ?_)
      refine g_getu 8 rfl hS.k336 (fun v3 ev3 => ?_)
      refine g_C ?_
      refine g_A (by omega) (by omega) ?_
      refine g_put 8 rfl hS.k336 (hm.w_336_8 (by omega) (by omega)) (fun m2 e2 hm2 => ?_)
      have f2 : ∀ c p : Int, ¬ (c = 336 ∧ p = 8) → m2 c p = m c p := fun c p q => (congrFun (congrFun e2 _) _).trans (up_ne q)
      have x2 : m2 336 8 = v3 + 1 := (congrFun (congrFun e2 _) _).trans (up_at _ _ _ _)
      refine ih m2 hm2 (fun c p z => (f2 c p (by omega)).trans (F c p z)) (by omega) (fun j j0 j1 => ?_) (by omega) (by omega)
      by_cases e : j = m 336 8
      · rw [e]; exact ⟨by omega, by omega⟩
      · exact a2 j j0 (by omega)
  have b8 := hm0.f_336_8
  exact ⟨401, L 401 m0 hm0 (fun _ _ _ => rfl) (by omega) (fun j j0 j1 => absurd j1 (by omega)) hp (by omega)⟩
/-- letters in one number -/
def pkv (f : Nat → Int) : Nat → Int
  | 0 => 0
  | i + 1 => 256 * pkv f i + f i
theorem pkv_nn {f : Nat → Int} : ∀ i : Nat, (∀ j : Nat, j < i → 97 ≤ f j ∧ f j ≤ 122) → 0 ≤ pkv f i ∧ (0 < i → 97 ≤ pkv f i) := by
  intro i
  induction i with
  | zero => intro _; exact ⟨Int.le_refl 0, fun h => absurd h (Nat.lt_irrefl 0)⟩
  | succ i ih =>
    intro h
    have q := (ih (fun j hj => h j (by omega))).1
    have z := h i (by omega)
    show 0 ≤ 256 * pkv f i + f i ∧ (_ → 97 ≤ 256 * pkv f i + f i)
    exact ⟨by omega, fun _ => by omega⟩
theorem pkv_lt {f : Nat → Int} : ∀ i : Nat, i ≤ 7 → (∀ j : Nat, j < i → 97 ≤ f j ∧ f j ≤ 122) → pkv f i < 72057594037927936 ∧ (i ≤ 6 → pkv f i < 281474976710656) ∧ (i ≤ 5 → pkv f i < 1099511627776) ∧ (i ≤ 4 → pkv f i < 4294967296) ∧ (i ≤ 3 → pkv f i < 16777216) ∧ (i ≤ 2 → pkv f i < 65536) ∧ (i ≤ 1 → pkv f i < 256) ∧ (i = 0 → pkv f i = 0) := by
  intro i
  induction i with
  | zero =>
    intro _ _
    have e : pkv f 0 = 0 := rfl
    rw [e]
    exact ⟨by decide, fun _ => by decide, fun _ => by decide, fun _ => by decide, fun _ => by decide, fun _ => by decide, fun _ => by decide, fun _ => rfl⟩
  | succ i ih =>
    intro hi h
    have q := ih (by omega) (fun j hj => h j (by omega))
    have z := h i (by omega)
    simp only [pkv]
    omega
theorem pkv_inj {f g : Nat → Int} : ∀ i l : Nat, (∀ j : Nat, j < i → 97 ≤ f j ∧ f j ≤ 122) → (∀ j : Nat, j < l → 97 ≤ g j ∧ g j ≤ 122) → pkv f i = pkv g l → i = l ∧ ∀ j : Nat, j < i → f j = g j := by
  intro i
  induction i with
  | zero =>
    intro l _ hg e
    cases l with
    | zero => exact ⟨rfl, fun j hj => absurd hj (Nat.not_lt_zero j)⟩
    | succ l =>
      have q := (pkv_nn (l + 1) hg).2 (Nat.succ_pos l)
      rw [← e] at q
      exact absurd q (by show ¬ (97 : Int) ≤ 0; decide)
  | succ i ih =>
    intro l hf hg e
    cases l with
    | zero =>
      have q := (pkv_nn (i + 1) hf).2 (Nat.succ_pos i)
      rw [e] at q
      exact absurd q (by show ¬ (97 : Int) ≤ 0; decide)
    | succ l =>
      have e2 : 256 * pkv f i + f i = 256 * pkv g l + g l := e
      have z1 := hf i (by omega)
      have z2 := hg l (by omega)
      obtain ⟨h1, h2⟩ := ih l (fun j hj => hf j (by omega)) (fun j hj => hg j (by omega)) (by omega)
      subst h1
      refine ⟨rfl, fun j hj => ?_⟩
      by_cases ej : j = i
      · rw [ej]; omega
      · exact h2 j (by omega)
theorem shl8 {v : Int} (h0 : 0 ≤ v) (h1 : v < 281474976710656) : lShl v 8 = 256 * v := by
  have e1 : (Int64.ofInt v).toBitVec.toInt = v := i64o (by omega) (by omega)
  have m1 : (Int64.ofInt v).toBitVec.msb = false := msb_of (by omega)
  have n1 := BitVec.toInt_eq_toNat_of_msb m1
  have e3 : lShl v 8 = ((Int64.ofInt v).toBitVec <<< (8 : Nat)).toInt := rfl
  have hn : (Int64.ofInt v).toBitVec.toNat <<< 8 = 256 * (Int64.ofInt v).toBitVec.toNat := by rw [Nat.shiftLeft_eq]; omega
  have e4 : ((Int64.ofInt v).toBitVec <<< (8 : Nat)).toNat = 256 * (Int64.ofInt v).toBitVec.toNat := by
    rw [BitVec.toNat_shiftLeft, hn]
    exact Nat.mod_eq_of_lt (by omega)
  have hi := BitVec.toInt_eq_toNat_cond ((Int64.ofInt v).toBitVec <<< (8 : Nat))
  rw [e4, if_pos (by omega)] at hi
  rw [e3, hi]
  omega
theorem or8 {v x : Int} (h0 : 0 ≤ v) (h1 : v < 281474976710656) (x0 : 0 ≤ x) (x1 : x ≤ 255) : lOr (256 * v) x = 256 * v + x := by
  have e1 : (Int64.ofInt (256 * v)).toBitVec.toInt = 256 * v := i64o (by omega) (by omega)
  have e2 : (Int64.ofInt x).toBitVec.toInt = x := i64o (by omega) (by omega)
  have m1 : (Int64.ofInt (256 * v)).toBitVec.msb = false := msb_of (by omega)
  have m2 : (Int64.ofInt x).toBitVec.msb = false := msb_of (by omega)
  have m3 : ((Int64.ofInt (256 * v)).toBitVec ||| (Int64.ofInt x).toBitVec).msb = false := by rw [BitVec.msb_or, m1, m2]; rfl
  have n1 := BitVec.toInt_eq_toNat_of_msb m1
  have n2 := BitVec.toInt_eq_toNat_of_msb m2
  have n3 := BitVec.toInt_eq_toNat_of_msb m3
  rw [BitVec.toNat_or] at n3
  have a1 : (Int64.ofInt (256 * v)).toBitVec.toNat = v.toNat <<< 8 := by rw [Nat.shiftLeft_eq]; omega
  have q := Nat.shiftLeft_add_eq_or_of_lt (i := 8) (b := (Int64.ofInt x).toBitVec.toNat) (by omega) v.toNat
  rw [a1, ← q, Nat.shiftLeft_eq] at n3
  have e3 : lOr (256 * v) x = ((Int64.ofInt (256 * v)).toBitVec ||| (Int64.ofInt x).toBitVec).toInt := rfl
  rw [e3, n3]
  omega
/-- word k as the reference has it -/
def pw (k : Nat) : Int := pkv (fun i => tw k i) (tl k).toNat
theorem pw_all : pw 0 = 431131030137 ∧ pw 1 = 1919902052 ∧ pw 2 = 1751215716 ∧ pw 3 = 6976871 ∧ pw 4 = 1751474548 ∧ pw 5 = 2002873972 ∧ pw 6 = 1953854062 ∧ pw 7 = 495806932324 ∧ pw 8 = 499985311076 ∧ pw 9 = 128047779833188 ∧ pw 10 = 1752135026 ∧ pw 11 = 1751477348 ∧ pw 12 = 1936684402 ∧ pw 13 = 26982 ∧ pw 14 = 7237492 ∧ pw 15 = 6385252 ∧ pw 16 = 28530 := by decide +kernel
theorem tw_l : ∀ k : Nat, k < 17 → ∀ i : Nat, (i : Int) < tl k → 97 ≤ tw k i ∧ tw k i ≤ 122 := by
  have q : ∀ k : Nat, k < 17 → ∀ i : Nat, i < 6 → (i : Int) < tl k → 97 ≤ tw k i ∧ tw k i ≤ 122 := by decide +kernel
  intro k hk i hi
  have := tl_r k hk
  exact q k hk i (by omega) hi
theorem zx_isWord {X : Mm} {S : Sh} {m0 : Mm} {K : Int → Mm → Prop} {b : Int → Int} {n u : Int} (k : Nat) (hS : Shp S) (hm0 : Inv X S m0) (ht : TR X b n) (hp : m0 336 8 ≤ n) (hk17 : k < 17) (hu : u = pw k) (h1 : ∀ (q : Int) (M1 : Mm), Inv X S M1 → (∀ c p : Int, ¬ (c = 336 ∧ 8 ≤ p ∧ p ≤ 8) → M1 c p = m0 c p) → Sk b n (m0 336 8) q → M1 336 8 = q → q ≤ n → Wk b n k q → K 1 M1) (h0 : ∀ (q : Int) (M1 : Mm), Inv X S M1 → (∀ c p : Int, ¬ (c = 336 ∧ 8 ≤ p ∧ p ≤ 8) → M1 c p = m0 c p) → Sk b n (m0 336 8) q → M1 336 8 = q → q ≤ n → ¬ Wk b n k q → K 0 M1) : wp_X12_isWord S m0 336 u K := by
  have nb := ht.2.1
  have tr := tl_r k hk17
  have b80 := hm0.f_336_8
  refine u_X12_isWord ?_
  refine ⟨hS.k336, ?_⟩
  refine zx_see hS hm0 ht hp (fun r q m hm F sk xq hq hr => ?_)
  have s1 := sk.1
  have g1 := ht.n hm
  refine g_C ?_
  refine g_C ?_
  have L : ∀ (j : Nat) (v : Int) (i : Nat), q + i ≤ n → (∀ t : Nat, t < i → 97 ≤ b (q + t) ∧ b (q + t) ≤ 122) → (i ≤ 7 → v = pkv (fun t => b (q + t)) i) → 401 - (i : Int) ≤ (j : Int) → wp_X12_isWord_10 S K j 336 u v (i : Int) m := by
    intro j
    induction j with
    | zero => intro v i _ _ _ h; exfalso; omega
    | succ j ih =>
      intro v i a1 a2 a3 h
      refine u_X12_isWord_10 ?_
      refine g_getu 8 rfl hS.k336 (fun a ea => ?_)
      rw [xq] at ea
      refine g_A (by omega) (by omega) ?_
      refine ⟨hS.k336, ?_⟩
      refine zl_isLetter hS hm (by omega) (fun c1 c2 c3 => ?_) (fun c1 => ?_)
      · rw [g1] at c1
        rw [ea, ht.b hm (by omega) (by omega)] at c2 c3
        have nx : ∀ x : Int, (i + 1 ≤ 7 → x = pkv (fun t => b (q + t)) (i + 1)) → wp_X12_isWord_50 S (fun a0 a1 a2 a3 M => wp_X12_isWord_10 S K j a0 a1 a2 a3 M) K 336 u x (i : Int) m := by
          intro x hx
          refine u_X12_isWord_50 ?_
          refine g_A (by omega) (by omega) ?_
          rw [show (i : Int) + 1 = ((i + 1 : Nat) : Int) by omega]
          refine ih x (i + 1) (by omega) (fun t ht' => ?_) hx (by omega)
          by_cases e : t = i
          · rw [e]; exact ⟨c2, c3⟩
          · exact a2 t (by omega)
        refine g_ifF (by decide) ?_
        refine g_C ?_
        refine g_if (fun w => nx v (fun h7 => by omega)) (fun w => ?_)
        refine g_C ?_
        refine g_Oe (fun x ex => ?_)
        refine g_getr 0 337 rfl hS.k336 hm.f_336_0 (by decide) ?_
        refine g_getu 8 rfl hS.k336 (fun a2' ea2 => ?_)
        rw [xq] at ea2
        refine g_A (by omega) (by omega) ?_
        refine g_ldu hS.k337 hS.l337 (by omega) (by omega) (fun y ey => ?_)
        rw [ea2, ht.b hm (by omega) (by omega)] at ey
        refine g_C ?_
        refine g_Oe (fun z ez => ?_)
        refine nx z (fun h7 => ?_)
        have hv := a3 (by omega)
        have p0 := (pkv_nn (f := fun t => b (q + t)) i a2).1
        have p1 := (pkv_lt (f := fun t => b (q + t)) i (by omega) a2).2.1 (by omega)
        rw [ez, ex, hv, shl8 p0 p1, or8 p0 p1 (by omega) (by omega), ey]
        rfl
      · rw [g1] at c1
        have iff1 : Wk b n k q ↔ (0 < i ∧ i < 8 ∧ v = u) := by
          constructor
          · intro wk
            have nl : ¬ (q + tl k < n ∧ 97 ≤ b (q + tl k) ∧ b (q + tl k) ≤ 122) := wk.2
            have ei : (i : Int) = tl k := by
              by_cases e : (i : Int) < tl k
              · exfalso
                have z := wk.1 i (by omega) e
                have z2 := tw_l k hk17 i e
                rw [Int.toNat_natCast] at z
                refine c1 ⟨by omega, ?_⟩
                rw [ea, ht.b hm (by omega) z.1]
                omega
              · by_cases e2 : tl k < (i : Int)
                · exfalso
                  have z := a2 (tl k).toNat (by omega)
                  rw [Int.toNat_of_nonneg (by omega)] at z
                  exact nl ⟨by omega, z⟩
                · omega
            refine ⟨by omega, by omega, ?_⟩
            rw [a3 (by omega), hu]
            unfold pw
            have ei2 : i = (tl k).toNat := by omega
            rw [← ei2]
            have cg : ∀ j : Nat, j ≤ i → pkv (fun t => b (q + t)) j = pkv (fun t => tw k t) j := by
              intro j
              induction j with
              | zero => intro _; rfl
              | succ j ihj =>
                intro hj
                have z := wk.1 j (by omega) (by omega)
                rw [Int.toNat_natCast] at z
                show 256 * pkv (fun t => b (q + t)) j + b (q + j) = 256 * pkv (fun t => tw k t) j + tw k j
                rw [ihj (by omega), z.2]
            exact cg i (Nat.le_refl i)
          · rintro ⟨i0, i8, ev⟩
            rw [a3 (by omega), hu] at ev
            obtain ⟨e1, e2⟩ := pkv_inj i (tl k).toNat a2 (fun j hj => tw_l k hk17 j (by omega)) ev
            refine ⟨fun t t0 t1 => ?_, fun z => c1 ?_⟩
            · have z := e2 t.toNat (by omega)
              rw [Int.toNat_of_nonneg t0] at z
              exact ⟨by omega, z⟩
            · have ei : (i : Int) = tl k := by omega
              rw [ea, ei, ht.b hm (by omega) z.1]
              exact z
        have no : ¬ Wk b n k q → K 0 m := fun hn => h0 q m hm F sk xq hq hn
        refine g_ifT rfl ?_
        refine g_if (fun w => g_C ⟨by decide, no (fun z => by have := iff1.mp z; omega)⟩) (fun w => ?_)
        refine g_C ?_
        refine g_if (fun w2 => g_C ⟨by decide, no (fun z => by have := iff1.mp z; omega)⟩) (fun w2 => ?_)
        refine g_cmp (fun z => g_ifT (by decide) (g_C ⟨by decide, no (fun y => by have := iff1.mp y; omega)⟩)) (fun z => g_ifF (by decide) (g_C ⟨by decide, h1 q m hm F sk xq hq (iff1.mpr ⟨by omega, by omega, z⟩)⟩)) (fun z => g_ifT (by decide) (g_C ⟨by decide, no (fun y => by have := iff1.mp y; omega)⟩))
  exact ⟨401, L 401 0 0 (by omega) (fun t h => absurd h (Nat.not_lt_zero t)) (fun _ => rfl) (by decide)⟩
theorem zx_passWord {X : Mm} {S : Sh} {m0 : Mm} {K : Mm → Prop} {b : Int → Int} {n q : Int} (k : Nat) (hS : Shp S) (hm0 : Inv X S m0) (ht : TR X b n) (hq : m0 336 8 = q) (q0 : 0 ≤ q) (hk17 : k < 17) (wk : Wk b n k q) (hk : ∀ M1 : Mm, Inv X S M1 → (∀ c p : Int, ¬ (c = 336 ∧ 8 ≤ p ∧ p ≤ 8) → M1 c p = m0 c p) → M1 336 8 = q + tl k → q + tl k ≤ n → K M1) : wp_X12_passWord S m0 336 K := by
  have nb := ht.2.1
  have tr := tl_r k hk17
  have le : q + tl k ≤ n := by
    have z := wk.1 (tl k - 1) (by omega) (by omega)
    omega
  have L : ∀ (j : Nat) (m : Mm) (i : Int), Inv X S m → (∀ c p : Int, ¬ (c = 336 ∧ 8 ≤ p ∧ p ≤ 8) → m c p = m0 c p) → m 336 8 = q + i → 0 ≤ i → i ≤ tl k → tl k + 1 - i ≤ (j : Int) → wp_X12_passWord_0 S K j 336 m := by
    intro j
    induction j with
    | zero => intro m i _ _ _ _ _ h; exfalso; omega
    | succ j ih =>
      intro m i hm F e8 i0 i1 h
      have g1 := ht.n hm
      refine u_X12_passWord_0 ?_
      refine g_getu 8 rfl hS.k336 (fun v ev => ?_)
      rw [e8] at ev
      refine ⟨hS.k336, ?_⟩
      refine zl_isLetter hS hm (by omega) (fun c1 c2 c3 => ?_) (fun c1 => ?_)
      · rw [g1] at c1
        rw [ev, ht.b hm (by omega) (by omega)] at c2 c3
        have lt : i < tl k := by
          by_cases e : i = tl k
          · exfalso
            rw [e] at c2 c3
            exact wk.2 ⟨by omega, c2, c3⟩
          · omega
        refine g_ifF (by decide) ?_
        refine g_getu 8 rfl hS.k336 (fun v2 ev2 => ?_)
        refine g_C ?_
        refine g_A (by omega) (by omega) ?_
        refine g_put 8 rfl hS.k336 (hm.w_336_8 (by omega) (by omega)) (fun m2 e2 hm2 => ?_)
        have f2 : ∀ c p : Int, ¬ (c = 336 ∧ p = 8) → m2 c p = m c p := fun c p q => (congrFun (congrFun e2 _) _).trans (up_ne q)
        have x2 : m2 336 8 = v2 + 1 := (congrFun (congrFun e2 _) _).trans (up_at _ _ _ _)
        exact ih m2 (i + 1) hm2 (fun c p z => (f2 c p (by omega)).trans (F c p z)) (by omega) (by omega) (by omega) (by omega)
      · have ei : i = tl k := by
          by_cases e : i = tl k
          · exact e
          · exfalso
            have z := wk.1 i i0 (by omega)
            have z2 := tw_l k hk17 i.toNat (by omega)
            refine c1 ⟨by omega, ?_⟩
            rw [ev, ht.b hm (by omega) z.1]
            omega
        refine g_ifT rfl (hk m hm F (by omega) le)
  exact ⟨(tl k + 1).toNat, L (tl k + 1).toNat m0 0 hm0 (fun _ _ _ => rfl) (by omega) (by omega) (by omega) (by omega)⟩
end
section
theorem zx_fails {X : Mm} {S : Sh} {m0 : Mm} {K : Int → Mm → Prop} {u a : Int} (hS : Shp S) (hm0 : Inv X S m0) (h9 : m0 336 9 = 0) (u0 : 0 ≤ u) (u1 : u ≤ 4) (a0 : 0 ≤ a) (a1 : a ≤ 400) (hk : ∀ M1 : Mm, Inv X S M1 → (∀ c p : Int, ¬ (c = 336 ∧ p = 9) → M1 c p = m0 c p) → M1 336 9 = 1 + 8 * a + u → K 0 M1) : wp_X12_fails S m0 336 u a K := by
  refine u_X12_fails ?_
  refine g_getu 9 rfl hS.k336 (fun v ev => ?_)
  refine g_ifF (by omega) ?_
  refine g_C ?_
  refine g_C ?_
  refine g_M (by omega) (by omega) ?_
  refine g_A (by omega) (by omega) ?_
  refine g_A (by omega) (by omega) ?_
  refine g_put 9 rfl hS.k336 (hm0.w_336_9 (by omega) (by omega)) (fun m1 e1 hm1 => ?_)
  have f1 : ∀ c p : Int, ¬ (c = 336 ∧ p = 9) → m1 c p = m0 c p := fun c p q => (congrFun (congrFun e1 _) _).trans (up_ne q)
  have y1 : m1 336 9 = 1 + 8 * a + u := (congrFun (congrFun e1 _) _).trans (up_at _ _ _ _)
  exact g_C ⟨by decide, hk m1 hm1 f1 y1⟩
theorem zx_makes {X : Mm} {S : Sh} {m0 : Mm} {K : Int → Mm → Prop} {a : Int} (hS : Shp S) (hm0 : Inv X S m0) (h9 : m0 336 9 = 0) (a0 : 0 ≤ a) (a1 : a ≤ 400) (h1 : ∀ M1 : Mm, Inv X S M1 → (∀ c p : Int, ¬ (c = 336 ∧ p = 12) → M1 c p = m0 c p) → M1 336 12 = m0 336 12 + 1 → ¬ m0 336 12 = 60 → m0 336 12 ≤ 59 → K 1 M1) (h0 : ∀ M1 : Mm, Inv X S M1 → m0 336 12 = 60 → M1 336 9 = 4 + 8 * a → K 0 M1) : wp_X12_makes S m0 336 a K := by
  have b12 := hm0.f_336_12
  refine u_X12_makes ?_
  refine g_getu 12 rfl hS.k336 (fun v ev => ?_)
  refine g_C ?_
  refine g_if (fun w => ?_) (fun w => ?_)
  · refine g_getu 12 rfl hS.k336 (fun v2 ev2 => ?_)
    refine g_C ?_
    refine g_A (by omega) (by omega) ?_
    refine g_put 12 rfl hS.k336 (hm0.w_336_12 (by omega) (by omega)) (fun m1 e1 hm1 => ?_)
    have f1 : ∀ c p : Int, ¬ (c = 336 ∧ p = 12) → m1 c p = m0 c p := fun c p q => (congrFun (congrFun e1 _) _).trans (up_ne q)
    have y1 : m1 336 12 = v2 + 1 := (congrFun (congrFun e1 _) _).trans (up_at _ _ _ _)
    exact g_C ⟨by decide, h1 m1 hm1 f1 (by omega) (by omega) (by omega)⟩
  · refine g_C ?_
    refine ⟨hS.k336, ?_⟩
    refine zx_fails hS hm0 h9 (by decide) (by decide) a0 a1 (fun m1 hm1 f1 y1 => ⟨by decide, h0 m1 hm1 (by omega) (by omega)⟩)
theorem zx_isDigit {X : Mm} {S : Sh} {m : Mm} {K : Int → Mm → Prop} {b : Int → Int} {n i : Int} (hS : Shp S) (hm : Inv X S m) (ht : TR X b n) (i0 : 0 ≤ i) (h1 : i < n → Dg (b i) → K 1 m) (h0 : ¬ (i < n ∧ Dg (b i)) → K 0 m) : wp_X12_isDigit S m 336 i K := by
  have nb := ht.2.1
  have g1 := ht.n hm
  refine u_X12_isDigit ?_
  refine g_getu 1 rfl hS.k336 (fun t et => ?_)
  rw [g1] at et
  refine g_if (fun w => g_C ⟨by decide, h0 (fun z => by omega)⟩) (fun w => ?_)
  refine g_getr 0 337 rfl hS.k336 hm.f_336_0 (by decide) ?_
  refine g_ldu hS.k337 hS.l337 (by omega) (by omega) (fun x ex => ?_)
  rw [ht.b hm i0 (by omega)] at ex
  refine g_C ?_
  refine g_if (fun w2 => g_C ⟨by decide, h0 (fun z => by have := z.2; unfold Dg at this; omega)⟩) (fun w2 => ?_)
  refine g_getr 0 337 rfl hS.k336 hm.f_336_0 (by decide) ?_
  refine g_ldu hS.k337 hS.l337 (by omega) (by omega) (fun y ey => ?_)
  rw [ht.b hm i0 (by omega)] at ey
  refine g_C ?_
  refine g_if (fun w3 => g_C ⟨by decide, h0 (fun z => by have := z.2; unfold Dg at this; omega)⟩) (fun w3 => ?_)
  exact g_C ⟨by decide, h1 (by omega) ⟨by omega, by omega⟩⟩
theorem zx_wordHere {X : Mm} {S : Sh} {m0 : Mm} {K : Int → Mm → Prop} {b : Int → Int} {n q : Int} (hS : Shp S) (hm0 : Inv X S m0) (ht : TR X b n) (hq : m0 336 8 = q) (hqn : q ≤ n) (sq : Sk b n q q) (h1 : ∀ (i : Nat) (M1 : Mm), i < 10 → (∀ j : Nat, j < i → ¬ Wk b n (vws.getD j 0) q) → Wk b n (vws.getD i 0) q → Inv X S M1 → (∀ c p : Int, ¬ (c = 336 ∧ 8 ≤ p ∧ p ≤ 8) → M1 c p = m0 c p) → M1 336 8 = q → K (i : Int) M1) (h0 : ∀ M1 : Mm, (∀ j : Nat, j < 10 → ¬ Wk b n (vws.getD j 0) q) → Inv X S M1 → (∀ c p : Int, ¬ (c = 336 ∧ 8 ≤ p ∧ p ≤ 8) → M1 c p = m0 c p) → M1 336 8 = q → K (-1) M1) : wp_X12_wordHere S m0 336 K := by
  refine u_X12_wordHere ?_
  have F0 : ∀ c p : Int, ¬ (c = 336 ∧ 8 ≤ p ∧ p ≤ 8) → m0 c p = m0 c p := fun _ _ _ => rfl
  have x0 := hq
  refine g_C ?_
  refine ⟨hS.k336, ?_⟩
  refine zx_isWord 2 hS hm0 ht (by omega) (by decide) pw_all.2.2.1.symm (fun q' m1 hm1 f1 sk x1 _ wk => ?_) (fun q' m1 hm1 f1 sk x1 _ n1 => ?_)
  · rw [x0] at sk
    obtain rfl := sk.uniq sq
    have F : ∀ c p : Int, ¬ (c = 336 ∧ 8 ≤ p ∧ p ≤ 8) → m1 c p = m0 c p := fun c p z => (f1 c p z).trans (F0 c p z)
    exact g_ifF (by decide) (g_C (h1 0 m1 (by decide) (fun j hj => absurd hj (Nat.not_lt_zero j)) wk hm1 F x1))
  rw [x0] at sk
  have eqq0 := sk.uniq sq
  rw [eqq0] at x1 n1
  clear eqq0 sk
  have F1 : ∀ c p : Int, ¬ (c = 336 ∧ 8 ≤ p ∧ p ≤ 8) → m1 c p = m0 c p := fun c p z => (f1 c p z).trans (F0 c p z)
  refine g_ifT rfl ?_
  refine g_C ?_
  refine ⟨hS.k336, ?_⟩
  refine zx_isWord 7 hS hm1 ht (by omega) (by decide) pw_all.2.2.2.2.2.2.2.1.symm (fun q' m2 hm2 f2 sk x2 _ wk => ?_) (fun q' m2 hm2 f2 sk x2 _ n2 => ?_)
  · rw [x1] at sk
    obtain rfl := sk.uniq sq
    have F : ∀ c p : Int, ¬ (c = 336 ∧ 8 ≤ p ∧ p ≤ 8) → m2 c p = m0 c p := fun c p z => (f2 c p z).trans (F1 c p z)
    exact g_ifF (by decide) (g_C (h1 1 m2 (by decide) (fun j hj => by rcases (show j = 0 by omega) with e <;> subst e <;> assumption) wk hm2 F x2))
  rw [x1] at sk
  have eqq1 := sk.uniq sq
  rw [eqq1] at x2 n2
  clear eqq1 sk
  have F2 : ∀ c p : Int, ¬ (c = 336 ∧ 8 ≤ p ∧ p ≤ 8) → m2 c p = m0 c p := fun c p z => (f2 c p z).trans (F1 c p z)
  refine g_ifT rfl ?_
  refine g_C ?_
  refine ⟨hS.k336, ?_⟩
  refine zx_isWord 8 hS hm2 ht (by omega) (by decide) pw_all.2.2.2.2.2.2.2.2.1.symm (fun q' m3 hm3 f3 sk x3 _ wk => ?_) (fun q' m3 hm3 f3 sk x3 _ n3 => ?_)
  · rw [x2] at sk
    obtain rfl := sk.uniq sq
    have F : ∀ c p : Int, ¬ (c = 336 ∧ 8 ≤ p ∧ p ≤ 8) → m3 c p = m0 c p := fun c p z => (f3 c p z).trans (F2 c p z)
    exact g_ifF (by decide) (g_C (h1 2 m3 (by decide) (fun j hj => by rcases (show j = 0 ∨ j = 1 by omega) with e | e <;> subst e <;> assumption) wk hm3 F x3))
  rw [x2] at sk
  have eqq2 := sk.uniq sq
  rw [eqq2] at x3 n3
  clear eqq2 sk
  have F3 : ∀ c p : Int, ¬ (c = 336 ∧ 8 ≤ p ∧ p ≤ 8) → m3 c p = m0 c p := fun c p z => (f3 c p z).trans (F2 c p z)
  refine g_ifT rfl ?_
  refine g_C ?_
  refine ⟨hS.k336, ?_⟩
  refine zx_isWord 3 hS hm3 ht (by omega) (by decide) pw_all.2.2.2.1.symm (fun q' m4 hm4 f4 sk x4 _ wk => ?_) (fun q' m4 hm4 f4 sk x4 _ n4 => ?_)
  · rw [x3] at sk
    obtain rfl := sk.uniq sq
    have F : ∀ c p : Int, ¬ (c = 336 ∧ 8 ≤ p ∧ p ≤ 8) → m4 c p = m0 c p := fun c p z => (f4 c p z).trans (F3 c p z)
    exact g_ifF (by decide) (g_C (h1 3 m4 (by decide) (fun j hj => by rcases (show j = 0 ∨ j = 1 ∨ j = 2 by omega) with e | e | e <;> subst e <;> assumption) wk hm4 F x4))
  rw [x3] at sk
  have eqq3 := sk.uniq sq
  rw [eqq3] at x4 n4
  clear eqq3 sk
  have F4 : ∀ c p : Int, ¬ (c = 336 ∧ 8 ≤ p ∧ p ≤ 8) → m4 c p = m0 c p := fun c p z => (f4 c p z).trans (F3 c p z)
  refine g_ifT rfl ?_
  refine g_C ?_
  refine ⟨hS.k336, ?_⟩
  refine zx_isWord 9 hS hm4 ht (by omega) (by decide) pw_all.2.2.2.2.2.2.2.2.2.1.symm (fun q' m5 hm5 f5 sk x5 _ wk => ?_) (fun q' m5 hm5 f5 sk x5 _ n5 => ?_)
  · rw [x4] at sk
    obtain rfl := sk.uniq sq
    have F : ∀ c p : Int, ¬ (c = 336 ∧ 8 ≤ p ∧ p ≤ 8) → m5 c p = m0 c p := fun c p z => (f5 c p z).trans (F4 c p z)
    exact g_ifF (by decide) (g_C (h1 4 m5 (by decide) (fun j hj => by rcases (show j = 0 ∨ j = 1 ∨ j = 2 ∨ j = 3 by omega) with e | e | e | e <;> subst e <;> assumption) wk hm5 F x5))
  rw [x4] at sk
  have eqq4 := sk.uniq sq
  rw [eqq4] at x5 n5
  clear eqq4 sk
  have F5 : ∀ c p : Int, ¬ (c = 336 ∧ 8 ≤ p ∧ p ≤ 8) → m5 c p = m0 c p := fun c p z => (f5 c p z).trans (F4 c p z)
  refine g_ifT rfl ?_
  refine g_C ?_
  refine ⟨hS.k336, ?_⟩
  refine zx_isWord 4 hS hm5 ht (by omega) (by decide) pw_all.2.2.2.2.1.symm (fun q' m6 hm6 f6 sk x6 _ wk => ?_) (fun q' m6 hm6 f6 sk x6 _ n6 => ?_)
  · rw [x5] at sk
    obtain rfl := sk.uniq sq
    have F : ∀ c p : Int, ¬ (c = 336 ∧ 8 ≤ p ∧ p ≤ 8) → m6 c p = m0 c p := fun c p z => (f6 c p z).trans (F5 c p z)
    exact g_ifF (by decide) (g_C (h1 5 m6 (by decide) (fun j hj => by rcases (show j = 0 ∨ j = 1 ∨ j = 2 ∨ j = 3 ∨ j = 4 by omega) with e | e | e | e | e <;> subst e <;> assumption) wk hm6 F x6))
  rw [x5] at sk
  have eqq5 := sk.uniq sq
  rw [eqq5] at x6 n6
  clear eqq5 sk
  have F6 : ∀ c p : Int, ¬ (c = 336 ∧ 8 ≤ p ∧ p ≤ 8) → m6 c p = m0 c p := fun c p z => (f6 c p z).trans (F5 c p z)
  refine g_ifT rfl ?_
  refine g_C ?_
  refine ⟨hS.k336, ?_⟩
  refine zx_isWord 10 hS hm6 ht (by omega) (by decide) pw_all.2.2.2.2.2.2.2.2.2.2.1.symm (fun q' m7 hm7 f7 sk x7 _ wk => ?_) (fun q' m7 hm7 f7 sk x7 _ n7 => ?_)
  · rw [x6] at sk
    obtain rfl := sk.uniq sq
    have F : ∀ c p : Int, ¬ (c = 336 ∧ 8 ≤ p ∧ p ≤ 8) → m7 c p = m0 c p := fun c p z => (f7 c p z).trans (F6 c p z)
    exact g_ifF (by decide) (g_C (h1 6 m7 (by decide) (fun j hj => by rcases (show j = 0 ∨ j = 1 ∨ j = 2 ∨ j = 3 ∨ j = 4 ∨ j = 5 by omega) with e | e | e | e | e | e <;> subst e <;> assumption) wk hm7 F x7))
  rw [x6] at sk
  have eqq6 := sk.uniq sq
  rw [eqq6] at x7 n7
  clear eqq6 sk
  have F7 : ∀ c p : Int, ¬ (c = 336 ∧ 8 ≤ p ∧ p ≤ 8) → m7 c p = m0 c p := fun c p z => (f7 c p z).trans (F6 c p z)
  refine g_ifT rfl ?_
  refine g_C ?_
  refine ⟨hS.k336, ?_⟩
  refine zx_isWord 1 hS hm7 ht (by omega) (by decide) pw_all.2.1.symm (fun q' m8 hm8 f8 sk x8 _ wk => ?_) (fun q' m8 hm8 f8 sk x8 _ n8 => ?_)
  · rw [x7] at sk
    obtain rfl := sk.uniq sq
    have F : ∀ c p : Int, ¬ (c = 336 ∧ 8 ≤ p ∧ p ≤ 8) → m8 c p = m0 c p := fun c p z => (f8 c p z).trans (F7 c p z)
    exact g_ifF (by decide) (g_C (h1 7 m8 (by decide) (fun j hj => by rcases (show j = 0 ∨ j = 1 ∨ j = 2 ∨ j = 3 ∨ j = 4 ∨ j = 5 ∨ j = 6 by omega) with e | e | e | e | e | e | e <;> subst e <;> assumption) wk hm8 F x8))
  rw [x7] at sk
  have eqq7 := sk.uniq sq
  rw [eqq7] at x8 n8
  clear eqq7 sk
  have F8 : ∀ c p : Int, ¬ (c = 336 ∧ 8 ≤ p ∧ p ≤ 8) → m8 c p = m0 c p := fun c p z => (f8 c p z).trans (F7 c p z)
  refine g_ifT rfl ?_
  refine g_C ?_
  refine ⟨hS.k336, ?_⟩
  refine zx_isWord 11 hS hm8 ht (by omega) (by decide) pw_all.2.2.2.2.2.2.2.2.2.2.2.1.symm (fun q' m9 hm9 f9 sk x9 _ wk => ?_) (fun q' m9 hm9 f9 sk x9 _ n9 => ?_)
  · rw [x8] at sk
    obtain rfl := sk.uniq sq
    have F : ∀ c p : Int, ¬ (c = 336 ∧ 8 ≤ p ∧ p ≤ 8) → m9 c p = m0 c p := fun c p z => (f9 c p z).trans (F8 c p z)
    exact g_ifF (by decide) (g_C (h1 8 m9 (by decide) (fun j hj => by rcases (show j = 0 ∨ j = 1 ∨ j = 2 ∨ j = 3 ∨ j = 4 ∨ j = 5 ∨ j = 6 ∨ j = 7 by omega) with e | e | e | e | e | e | e | e <;> subst e <;> assumption) wk hm9 F x9))
  rw [x8] at sk
  have eqq8 := sk.uniq sq
  rw [eqq8] at x9 n9
  clear eqq8 sk
  have F9 : ∀ c p : Int, ¬ (c = 336 ∧ 8 ≤ p ∧ p ≤ 8) → m9 c p = m0 c p := fun c p z => (f9 c p z).trans (F8 c p z)
  refine g_ifT rfl ?_
  refine g_C ?_
  refine ⟨hS.k336, ?_⟩
  refine zx_isWord 12 hS hm9 ht (by omega) (by decide) pw_all.2.2.2.2.2.2.2.2.2.2.2.2.1.symm (fun q' m10 hm10 f10 sk x10 _ wk => ?_) (fun q' m10 hm10 f10 sk x10 _ n10 => ?_)
  · rw [x9] at sk
    obtain rfl := sk.uniq sq
    have F : ∀ c p : Int, ¬ (c = 336 ∧ 8 ≤ p ∧ p ≤ 8) → m10 c p = m0 c p := fun c p z => (f10 c p z).trans (F9 c p z)
    exact g_ifF (by decide) (g_C (h1 9 m10 (by decide) (fun j hj => by rcases (show j = 0 ∨ j = 1 ∨ j = 2 ∨ j = 3 ∨ j = 4 ∨ j = 5 ∨ j = 6 ∨ j = 7 ∨ j = 8 by omega) with e | e | e | e | e | e | e | e | e <;> subst e <;> assumption) wk hm10 F x10))
  rw [x9] at sk
  have eqq9 := sk.uniq sq
  rw [eqq9] at x10 n10
  clear eqq9 sk
  have F10 : ∀ c p : Int, ¬ (c = 336 ∧ 8 ≤ p ∧ p ≤ 8) → m10 c p = m0 c p := fun c p z => (f10 c p z).trans (F9 c p z)
  refine g_ifT rfl ?_
  exact g_C (h0 m10 (fun j hj => by rcases (show j = 0 ∨ j = 1 ∨ j = 2 ∨ j = 3 ∨ j = 4 ∨ j = 5 ∨ j = 6 ∨ j = 7 ∨ j = 8 ∨ j = 9 by omega) with e | e | e | e | e | e | e | e | e | e <;> subst e <;> assumption) hm10 F10 x10)
end
section
theorem iAnd15 {a : Int} (h1 : 0 ≤ a) (h2 : a ≤ 2147483647) : iAnd a 15 = a % 16 := by
  have e1 : (Int32.ofInt a).toBitVec.toInt = a := i32o (by omega) h2
  have m1 : (Int32.ofInt a).toBitVec.msb = false := msb_of (by omega)
  have n1 := BitVec.toInt_eq_toNat_of_msb m1
  have m2 : ((Int32.ofInt a).toBitVec &&& (Int32.ofInt 15).toBitVec).msb = false := by rw [BitVec.msb_and, m1]; rfl
  have n2 := BitVec.toInt_eq_toNat_of_msb m2
  rw [BitVec.toNat_and] at n2
  have e3 : iAnd a 15 = ((Int32.ofInt a).toBitVec &&& (Int32.ofInt 15).toBitVec).toInt := rfl
  have e4 : (Int32.ofInt 15).toBitVec.toNat = 15 := by decide
  rw [e4] at n2
  have e5 : (Int32.ofInt a).toBitVec.toNat &&& 15 = (Int32.ofInt a).toBitVec.toNat % 16 := Nat.and_two_pow_sub_one_eq_mod _ 4
  rw [e3, n2, e5]
  omega
theorem sg_word : ∀ w : Nat, w < 10 → iAnd (1 + 16 * (w : Int)) 15 = 1 ∧ iShr (1 + 16 * (w : Int)) 4 = (w : Int) := by decide +kernel
/-- one sign: from depth d to depth e -/
def ps1 (w d e : Int) : Prop := (iAnd w 15 = 0 ∧ d < 64 ∧ e = d + 1) ∨ (iAnd w 15 = 1 ∧ 0 ≤ iShr w 4 ∧ iShr w 4 ≤ 9 ∧ d < 64 ∧ e = d + 1) ∨ (iAnd w 15 = 11 ∧ 1 ≤ d ∧ e = d) ∨ (¬ iAnd w 15 = 0 ∧ ¬ iAnd w 15 = 1 ∧ ¬ iAnd w 15 = 11 ∧ 2 ≤ d ∧ e = d - 1)
theorem ps_num {v d : Int} (h0 : 0 ≤ v) (h1 : v ≤ 99999) (hd : d < 64) : ps1 (0 + 16 * v) d (d + 1) := by
  refine Or.inl ⟨?_, hd, rfl⟩
  rw [iAnd15 (by omega) (by omega)]
  omega
theorem ps_word {v d : Int} (h0 : 0 ≤ v) (h1 : v ≤ 9) (hd : d < 64) : ps1 (1 + 16 * v) d (d + 1) := by
  have q := sg_word v.toNat (by omega)
  rw [Int.toNat_of_nonneg h0] at q
  exact Or.inr (Or.inl ⟨q.1, by omega, by omega, hd, rfl⟩)
theorem ps_not {d : Int} (hd : 1 ≤ d) : ps1 (11 + 16 * 0) d d := by
  refine Or.inr (Or.inr (Or.inl ⟨?_, hd, rfl⟩))
  rw [iAnd15 (by omega) (by omega)]
  omega
theorem ps_two {s d : Int} (h0 : 2 ≤ s) (h1 : s ≤ 15) (h2 : ¬ s = 11) (hd : 2 ≤ d) : ps1 (s + 16 * 0) d (d - 1) := by
  have e : iAnd (s + 16 * 0) 15 = s := by
    rw [iAnd15 (by omega) (by omega)]
    omega
  exact Or.inr (Or.inr (Or.inr ⟨by omega, by omega, by omega, hd, rfl⟩))
/-- so many signs of row t from place i on: from depth d to depth e -/
def pth (M : Mm) (t : Int) : Nat → Int → Int → Int → Prop
  | 0, _, d, e => d = e
  | n + 1, i, d, e => ∃ f : Int, ps1 (M 338 (400 * t + i)) d f ∧ pth M t n (i + 1) f e
theorem pth_snoc {M : Mm} {t : Int} : ∀ (n : Nat) (i d e f : Int), pth M t n i d e → ps1 (M 338 (400 * t + (i + n))) e f → pth M t (n + 1) i d f := by
  intro n
  induction n with
  | zero =>
    intro i d e f h q
    have h2 : d = e := h
    subst h2
    refine ⟨f, ?_, rfl⟩
    rw [show i + ((0 : Nat) : Int) = i by omega] at q
    exact q
  | succ n ih =>
    intro i d e f h q
    obtain ⟨g, h1, h2⟩ := h
    refine ⟨g, h1, ih (i + 1) g e f h2 ?_⟩
    rw [show i + 1 + (n : Int) = i + ((n + 1 : Nat) : Int) by omega]
    exact q
theorem pth_same {M M1 : Mm} {t : Int} : ∀ (n : Nat) (i d e : Int), (∀ j : Int, i ≤ j → j < i + n → M1 338 (400 * t + j) = M 338 (400 * t + j)) → pth M t n i d e → pth M1 t n i d e := by
  intro n
  induction n with
  | zero => intro i d e _ h; exact h
  | succ n ih =>
    intro i d e hs h
    obtain ⟨g, h1, h2⟩ := h
    refine ⟨g, ?_, ih (i + 1) g e (fun j a b => hs j (by omega) (by omega)) h2⟩
    rw [hs i (by omega) (by omega)]
    exact h1
theorem pfx_of {M : Mm} {t : Int} : ∀ (n : Nat) (i d : Int), pth M t n i d 1 → pfx M t n i d := by
  intro n
  induction n with
  | zero => intro i d h; exact h
  | succ n ih =>
    intro i d h
    obtain ⟨g, h1, h2⟩ := h
    have h3 := ih (i + 1) g h2
    rcases h1 with q | q | q | q
    · obtain ⟨q1, q2, q3⟩ := q
      subst q3
      exact Or.inl ⟨q1, q2, h3⟩
    · obtain ⟨q1, q2, q3, q4, q5⟩ := q
      subst q5
      exact Or.inr (Or.inl ⟨q1, q2, q3, q4, h3⟩)
    · obtain ⟨q1, q2, q3⟩ := q
      subst q3
      exact Or.inr (Or.inr (Or.inl ⟨q1, q2, h3⟩))
    · obtain ⟨q1, q2, q3, q4, q5⟩ := q
      subst q5
      exact Or.inr (Or.inr (Or.inr ⟨q1, q2, q3, q4, h3⟩))
/-- the signs from b on of the row that is being read bring the stack from 0 to d -/
def Qs (M : Mm) (b d : Int) : Prop := (0 ≤ b ∧ b ≤ M 339 (M 336 11)) ∧ pth M (M 336 11) (M 339 (M 336 11) - b).toNat b 0 d
theorem Qs.same {M M1 : Mm} {b d : Int} (h : Qs M b d) (h8 : ∀ p : Int, M1 338 p = M 338 p) (h9 : ∀ p : Int, M1 339 p = M 339 p) (ht : M1 336 11 = M 336 11) : Qs M1 b d := by
  unfold Qs at h ⊢
  rw [ht, h9]
  exact ⟨h.1, pth_same _ _ _ _ (fun j _ _ => h8 _) h.2⟩
theorem Qs.push {M M1 : Mm} {b d e w : Int} (h : Qs M b d) (ht : M1 336 11 = M 336 11) (hl : M1 339 (M 336 11) = M 339 (M 336 11) + 1) (hw : M1 338 (400 * M 336 11 + M 339 (M 336 11)) = w) (ho : ∀ j : Int, j < 400 * M 336 11 + M 339 (M 336 11) → M1 338 j = M 338 j) (hp : ps1 w d e) : Qs M1 b e := by
  obtain ⟨⟨h1, h2⟩, h3⟩ := h
  unfold Qs
  rw [ht, hl]
  refine ⟨⟨h1, by omega⟩, ?_⟩
  rw [show (M 339 (M 336 11) + 1 - b).toNat = (M 339 (M 336 11) - b).toNat + 1 by omega]
  refine pth_snoc _ _ _ d _ (pth_same _ _ _ _ (fun j a b' => ho _ (by omega)) h3) ?_
  rw [show b + ((M 339 (M 336 11) - b).toNat : Int) = M 339 (M 336 11) by omega, hw]
  exact hp
/-- what a reader may change -/
def Adv (m0 m1 : Mm) : Prop := (∀ c p : Int, ¬ (c = 336 ∧ 8 ≤ p ∧ p ≤ 16) ∧ ¬ c = 338 ∧ ¬ c = 339 ∧ ¬ c = 343 → m1 c p = m0 c p) ∧ m1 336 11 = m0 336 11 ∧ (∀ j : Int, j < 400 * m0 336 11 + m0 339 (m0 336 11) → m1 338 j = m0 338 j) ∧ m0 339 (m0 336 11) ≤ m1 339 (m0 336 11) ∧ m0 336 8 ≤ m1 336 8 ∧ m0 336 12 ≤ m1 336 12 ∧ m1 336 14 = m0 336 14
def AdvS (m0 m1 : Mm) : Prop := Adv m0 m1 ∧ m1 336 16 = m0 336 16 ∧ (∀ p : Int, m1 343 p = m0 343 p) ∧ m1 336 13 = m0 336 13
theorem Adv.trans {a b c : Mm} (h : Adv a b) (k : Adv b c) : Adv a c := by
  obtain ⟨h1, h2, h3, h4, h5, h6, h7⟩ := h
  obtain ⟨k1, k2, k3, k4, k5, k6, k7⟩ := k
  rw [h2] at k3 k4
  exact ⟨fun x p q => (k1 x p q).trans (h1 x p q), k2.trans h2, fun j q => (k3 j (by omega)).trans (h3 j q), by omega, by omega, by omega, k7.trans h7⟩
theorem AdvS.trans {a b c : Mm} (h : AdvS a b) (k : AdvS b c) : AdvS a c := ⟨h.1.trans k.1, k.2.1.trans h.2.1, fun p => (k.2.2.1 p).trans (h.2.2.1 p), k.2.2.2.trans h.2.2.2⟩
theorem Adv.of {m0 m1 : Mm} (h : ∀ c p : Int, ¬ (c = 336 ∧ 8 ≤ p ∧ p ≤ 16 ∧ ¬ p = 11 ∧ ¬ p = 14) ∧ ¬ c = 343 → m1 c p = m0 c p) (h8 : m0 336 8 ≤ m1 336 8) (h12 : m0 336 12 ≤ m1 336 12) : Adv m0 m1 := by
  refine ⟨fun c p q => h c p (by omega), h 336 11 (by first | decide | exact fun z => absurd z.1 (by decide) | exact ⟨fun z => absurd z.1 (by decide), fun z => absurd z.1 (by decide)⟩ | omega), fun j _ => h 338 j (by first | decide | exact fun z => absurd z.1 (by decide) | exact ⟨fun z => absurd z.1 (by decide), fun z => absurd z.1 (by decide)⟩ | omega), ?_, h8, h12, h 336 14 (by first | decide | exact fun z => absurd z.1 (by decide) | exact ⟨fun z => absurd z.1 (by decide), fun z => absurd z.1 (by decide)⟩ | omega)⟩
  rw [h 339 _ (by first | decide | exact fun z => absurd z.1 (by decide) | exact ⟨fun z => absurd z.1 (by decide), fun z => absurd z.1 (by decide)⟩ | omega)]
  omega
theorem AdvS.of {m0 m1 : Mm} (h : ∀ c p : Int, ¬ (c = 336 ∧ 8 ≤ p ∧ p ≤ 12 ∧ ¬ p = 11) → m1 c p = m0 c p) (h8 : m0 336 8 ≤ m1 336 8) (h12 : m0 336 12 ≤ m1 336 12) : AdvS m0 m1 := ⟨Adv.of (fun c p q => h c p (by omega)) h8 h12, h 336 16 (by first | decide | exact fun z => absurd z.1 (by decide) | exact ⟨fun z => absurd z.1 (by decide), fun z => absurd z.1 (by decide)⟩ | omega), fun p => h 343 p (by first | decide | exact fun z => absurd z.1 (by decide) | exact ⟨fun z => absurd z.1 (by decide), fun z => absurd z.1 (by decide)⟩ | omega), h 336 13 (by first | decide | exact fun z => absurd z.1 (by decide) | exact ⟨fun z => absurd z.1 (by decide), fun z => absurd z.1 (by decide)⟩ | omega)⟩
theorem AdvS.rfl' (m : Mm) : AdvS m m := AdvS.of (fun _ _ _ => rfl) (by omega) (by omega)
/-- a rule is being read, into the row behind the last -/
def GX (X m : Mm) : Prop := m 336 11 = X 336 2 ∧ 0 ≤ X 336 2 ∧ X 336 2 ≤ 5
theorem GX.adv {X m m1 : Mm} (h : GX X m) (k : Adv m m1) : GX X m1 := ⟨k.2.1.trans h.1, h.2⟩
theorem zp_puts {X : Mm} {S : Sh} {m0 : Mm} {K : Mm → Prop} {s v : Int} (hS : Shp S) (hm0 : Inv X S m0) (g : GX X m0) (s0 : 0 ≤ s) (s1 : s ≤ 15) (v0 : 0 ≤ v) (v1 : v ≤ 99999) (hl : m0 339 (m0 336 11) ≤ 399) (hk : ∀ M1 : Mm, Inv X S M1 → (∀ c p : Int, ¬ (c = 338 ∧ p = 400 * m0 336 11 + m0 339 (m0 336 11)) ∧ ¬ (c = 339 ∧ p = m0 336 11) → M1 c p = m0 c p) → M1 339 (m0 336 11) = m0 339 (m0 336 11) + 1 → M1 338 (400 * m0 336 11 + m0 339 (m0 336 11)) = s + 16 * v → K M1) : wp_X12_puts S m0 336 s v K := by
  obtain ⟨g1, g2, g3⟩ := g
  have bl := hm0.a_339 (i := m0 336 11) (by omega) (by omega)
  refine u_X12_puts ?_
  refine g_getr 3 338 rfl hS.k336 hm0.f_336_3 (by decide) ?_
  refine g_C ?_
  refine g_getu 11 rfl hS.k336 (fun t et => ?_)
  refine g_M (by omega) (by omega) ?_
  refine g_getr 4 339 rfl hS.k336 hm0.f_336_4 (by decide) ?_
  refine g_getu 11 rfl hS.k336 (fun t2 et2 => ?_)
  refine g_ldu hS.k339 hS.l339 (by omega) (by omega) (fun l el => ?_)
  rw [et2] at el
  refine g_A (by omega) (by omega) ?_
  refine g_C ?_
  refine g_M (by omega) (by omega) ?_
  refine g_A (by omega) (by omega) ?_
  have hw1 : Inv X S (up m0 338 (400 * t + l) (s + 16 * v)) := hm0.wA (1, 0) (by decide) (by decide +kernel) (okb_n rfl) (by omega) (by decide) (by decide)
  refine g_st hS.k338 hS.l338 (by omega) (by omega) hw1 (fun m1 e1 hm1 => ?_)
  have F1 : ∀ c p : Int, ¬ (c = 338 ∧ p = 400 * t + l) → m1 c p = m0 c p := fun c p h => (congrFun (congrFun e1 _) _).trans (up_ne (by omega))
  have V1 : m1 338 (400 * t + l) = s + 16 * v := (congrFun (congrFun e1 _) _).trans (up_at _ _ _ _)
  refine g_getr 4 339 rfl hS.k336 hm1.f_336_4 (by decide) ?_
  refine g_getu 11 rfl hS.k336 (fun t3 et3 => ?_)
  rw [F1 336 11 (by first | decide | exact fun z => absurd z.1 (by decide) | exact ⟨fun z => absurd z.1 (by decide), fun z => absurd z.1 (by decide)⟩ | omega)] at et3
  refine g_ldu hS.k339 hS.l339 (by omega) (by omega) (fun l2 el2 => ?_)
  rw [F1 339 t3 (by first | decide | exact fun z => absurd z.1 (by decide) | exact ⟨fun z => absurd z.1 (by decide), fun z => absurd z.1 (by decide)⟩ | omega), et3] at el2
  refine g_C ?_
  refine g_A (by omega) (by omega) ?_
  refine g_st hS.k339 hS.l339 (by omega) (by omega) (hm1.wa_339 (by omega) (by omega) (by omega) (by omega)) (fun m2 e2 hm2 => ?_)
  refine hk m2 hm2 (fun c p h => ?_) ?_ ?_
  · exact (congrFun (congrFun e2 _) _).trans ((up_ne (by omega)).trans (F1 c p (by omega)))
  · exact (congrFun (congrFun e2 _) _).trans ((up_ate (by omega)).trans (by omega))
  · refine (congrFun (congrFun e2 _) _).trans ((up_ne (by omega)).trans ?_)
    rw [← el, ← et]
    exact V1
theorem puts_adv {m m1 : Mm} (F : ∀ c p : Int, ¬ (c = 338 ∧ p = 400 * m 336 11 + m 339 (m 336 11)) ∧ ¬ (c = 339 ∧ p = m 336 11) → m1 c p = m c p) (hl : m1 339 (m 336 11) = m 339 (m 336 11) + 1) : AdvS m m1 := by
  refine ⟨⟨fun c p q => F c p (by omega), F 336 11 (by first | decide | exact fun z => absurd z.1 (by decide) | exact ⟨fun z => absurd z.1 (by decide), fun z => absurd z.1 (by decide)⟩ | omega), fun j q => F 338 j (by first | decide | exact fun z => absurd z.1 (by decide) | exact ⟨fun z => absurd z.1 (by decide), fun z => absurd z.1 (by decide)⟩ | omega), by omega, ?_, ?_, F 336 14 (by first | decide | exact fun z => absurd z.1 (by decide) | exact ⟨fun z => absurd z.1 (by decide), fun z => absurd z.1 (by decide)⟩ | omega)⟩, F 336 16 (by first | decide | exact fun z => absurd z.1 (by decide) | exact ⟨fun z => absurd z.1 (by decide), fun z => absurd z.1 (by decide)⟩ | omega), fun p => F 343 p (by first | decide | exact fun z => absurd z.1 (by decide) | exact ⟨fun z => absurd z.1 (by decide), fun z => absurd z.1 (by decide)⟩ | omega), F 336 13 (by first | decide | exact fun z => absurd z.1 (by decide) | exact ⟨fun z => absurd z.1 (by decide), fun z => absurd z.1 (by decide)⟩ | omega)⟩
  · rw [F 336 8 (by first | decide | exact fun z => absurd z.1 (by decide) | exact ⟨fun z => absurd z.1 (by decide), fun z => absurd z.1 (by decide)⟩ | omega)]; omega
  · rw [F 336 12 (by first | decide | exact fun z => absurd z.1 (by decide) | exact ⟨fun z => absurd z.1 (by decide), fun z => absurd z.1 (by decide)⟩ | omega)]; omega
/-- what a VALUE, a term, a sum, a comparison leaves behind -/
def Out (m0 m1 : Mm) (k b d : Int) : Prop := AdvS m0 m1 ∧ Qs m1 b (d + 1) ∧ m1 339 (m1 336 11) + k ≤ m1 336 8 ∧ m0 336 8 + 1 ≤ m1 336 8 ∧ d + 1 ≤ m1 336 12
/-- what is wanted ahead of it -/
def Ina (X m : Mm) (k b d : Int) : Prop := GX X m ∧ 0 ≤ k ∧ Qs m b d ∧ 0 ≤ d ∧ d ≤ m 336 12 ∧ m 339 (m 336 11) + k ≤ m 336 8
theorem Ina.fr {X m m1 : Mm} {k b d : Int} (h : Ina X m k b d) (f : ∀ c p : Int, ¬ (c = 336 ∧ 8 ≤ p ∧ p ≤ 12 ∧ ¬ p = 11) → m1 c p = m c p) (h8 : m 336 8 ≤ m1 336 8) (h12 : m 336 12 ≤ m1 336 12) : Ina X m1 k b d ∧ AdvS m m1 := by
  obtain ⟨g, hk0, hq, hd0, hd, hl⟩ := h
  have A := AdvS.of f h8 h12
  refine ⟨⟨g.adv A.1, hk0, hq.same (fun p => f 338 p (by first | decide | exact fun z => absurd z.1 (by decide) | exact ⟨fun z => absurd z.1 (by decide), fun z => absurd z.1 (by decide)⟩ | omega)) (fun p => f 339 p (by first | decide | exact fun z => absurd z.1 (by decide) | exact ⟨fun z => absurd z.1 (by decide), fun z => absurd z.1 (by decide)⟩ | omega)) (f 336 11 (by first | decide | exact fun z => absurd z.1 (by decide) | exact ⟨fun z => absurd z.1 (by decide), fun z => absurd z.1 (by decide)⟩ | omega)), hd0, by omega, ?_⟩, A⟩
  rw [f 336 11 (by first | decide | exact fun z => absurd z.1 (by decide) | exact ⟨fun z => absurd z.1 (by decide), fun z => absurd z.1 (by decide)⟩ | omega), f 339 _ (by first | decide | exact fun z => absurd z.1 (by decide) | exact ⟨fun z => absurd z.1 (by decide), fun z => absurd z.1 (by decide)⟩ | omega)]
  omega
theorem put_out {X m0 m m1 : Mm} {k b d e s v : Int} (h : Ina X m k b d) (A : AdvS m0 m) (hs : m 339 (m 336 11) + k + 1 ≤ m 336 8) (h8 : m0 336 8 + 1 ≤ m 336 8) (he : e + 1 ≤ m 336 12) (f : ∀ c p : Int, ¬ (c = 338 ∧ p = 400 * m 336 11 + m 339 (m 336 11)) ∧ ¬ (c = 339 ∧ p = m 336 11) → m1 c p = m c p) (hl : m1 339 (m 336 11) = m 339 (m 336 11) + 1) (hw : m1 338 (400 * m 336 11 + m 339 (m 336 11)) = s + 16 * v) (hp : ps1 (s + 16 * v) d (e + 1)) : Out m0 m1 k b e := by
  obtain ⟨g, hk0, hq, hd0, hd, hl0⟩ := h
  have A4 := puts_adv f hl
  refine ⟨A.trans A4, hq.push A4.1.2.1 hl hw A4.1.2.2.1 hp, ?_, ?_, ?_⟩
  · rw [A4.1.2.1, hl, f 336 8 (by first | decide | exact fun z => absurd z.1 (by decide) | exact ⟨fun z => absurd z.1 (by decide), fun z => absurd z.1 (by decide)⟩ | omega)]; omega
  · rw [f 336 8 (by first | decide | exact fun z => absurd z.1 (by decide) | exact ⟨fun z => absurd z.1 (by decide), fun z => absurd z.1 (by decide)⟩ | omega)]; omega
  · rw [f 336 12 (by first | decide | exact fun z => absurd z.1 (by decide) | exact ⟨fun z => absurd z.1 (by decide), fun z => absurd z.1 (by decide)⟩ | omega)]; omega
/-- how the reference's reading stands to Acc -/
def Lr (b : Int → Int) (n : Int) (T : Int → Prop) (M : Mm) (m : Int) (st : List Bool) (k : Int) : Prop := (∀ f : Int, Acc b n m (M 336 8) (M 336 12) st k f → T f) ∧ M 336 9 = 0 ∧ M 336 8 ≤ n
theorem Lr.at {b : Int → Int} {n : Int} {T : Int → Prop} {M M1 : Mm} {m k q : Int} {st : List Bool} (h : Lr b n T M m st k) (hs : Sk b n (M 336 8) q) (e8 : M1 336 8 = q) (e12 : M1 336 12 = M 336 12) (e9 : M1 336 9 = M 336 9) (hn : q ≤ n) : Lr b n T M1 m st k := by
  refine ⟨fun f hA => h.1 f (Acc.back hs ?_), e9.trans h.2.1, by omega⟩
  rw [e8, e12] at hA
  exact hA
theorem Lr.eq {b : Int → Int} {n : Int} {T : Int → Prop} {M M1 : Mm} {m k : Int} {st : List Bool} (h : Lr b n T M m st k) (e8 : M1 336 8 = M 336 8) (e12 : M1 336 12 = M 336 12) (e9 : M1 336 9 = M 336 9) : Lr b n T M1 m st k := by
  unfold Lr
  rw [e8, e12, e9]
  exact h
theorem Lr.fault {b : Int → Int} {n : Int} {T : Int → Prop} {M : Mm} {m k q f : Int} {st : List Bool} (h : Lr b n T M m st k) (hs : Sk b n (M 336 8) q) (hp : stp b n (Acc b n) m q (M 336 12) st k f) : T f := h.1 f (a_step hs hp)
theorem Lr.to {b : Int → Int} {n : Int} {T : Int → Prop} {M M1 : Mm} {m m' k k' q p c : Int} {st st' : List Bool} (h : Lr b n T M m st k) (hs : Sk b n (M 336 8) q) (e8 : M1 336 8 = p) (e12 : M1 336 12 = c) (e9 : M1 336 9 = M 336 9) (hn : p ≤ n) (hp : ∀ f : Int, Acc b n m' p c st' k' f → stp b n (Acc b n) m q (M 336 12) st k f) : Lr b n T M1 m' st' k' := by
  refine ⟨fun f hA => h.1 f (a_step hs (hp f ?_)), e9.trans h.2.1, by omega⟩
  rw [e8, e12] at hA
  exact hA
/-- no * / % stands next; no arithmetic stands next -/
def Ntm (b : Int → Int) (n : Int) (M : Mm) : Prop := ∀ q : Int, Sk b n (M 336 8) q → ¬ (q < n ∧ (b q = 42 ∨ b q = 47 ∨ b q = 37))
def Nar (b : Int → Int) (n : Int) (M : Mm) : Prop := ∀ q : Int, Sk b n (M 336 8) q → ¬ (q < n ∧ Ar (b q))
theorem u8_is {b : Int → Int} {X : Mm} {n q r v : Int} (ht : TR X b n) (q0 : 0 ≤ q) (h : (q < n ∧ r = u8 (b q)) ∨ (n ≤ q ∧ r = -1)) (v0 : 0 ≤ v) (v1 : v ≤ 127) : r = v ↔ q < n ∧ b q = v := by
  rcases h with ⟨h1, h2⟩ | ⟨h1, h2⟩
  · have z := ht.2.2 q q0 h1
    have e := u8_eq z.2.1 z.2.2 v0 v1
    rw [h2, e]
    exact ⟨fun y => ⟨h1, y⟩, fun y => y.2⟩
  · exact ⟨fun y => absurd y (by omega), fun y => absurd y.1 (by omega)⟩
theorem Out.ina {X m0 m1 : Mm} {k b d : Int} (h : Out m0 m1 k b d) (i : Ina X m0 k b d) : Ina X m1 k b (d + 1) := by
  obtain ⟨g, hk0, hq, hd0, hd, hl⟩ := i
  obtain ⟨A, q, l, n, e⟩ := h
  exact ⟨g.adv A.1, hk0, q, by omega, e, l⟩
theorem Out.from {m0 m m1 : Mm} {k b d : Int} (h : Out m m1 k b d) (A : AdvS m0 m) : Out m0 m1 k b d := by
  obtain ⟨A2, q, l, n, e⟩ := h
  have a8 : m0 336 8 ≤ m 336 8 := A.1.2.2.2.2.1
  exact ⟨A.trans A2, q, l, by omega, e⟩
theorem Out.later {m0 m m1 : Mm} {k b d : Int} (h : Out m0 m k b d) (f : ∀ c p : Int, ¬ (c = 336 ∧ 8 ≤ p ∧ p ≤ 12 ∧ ¬ p = 11) → m1 c p = m c p) (h8 : m 336 8 ≤ m1 336 8) (h12 : m 336 12 ≤ m1 336 12) : Out m0 m1 k b d := by
  obtain ⟨A, q, l, n, e⟩ := h
  refine ⟨A.trans (AdvS.of f h8 h12), q.same (fun p => f 338 p (by first | decide | exact fun z => absurd z.1 (by decide) | exact ⟨fun z => absurd z.1 (by decide), fun z => absurd z.1 (by decide)⟩ | omega)) (fun p => f 339 p (by first | decide | exact fun z => absurd z.1 (by decide) | exact ⟨fun z => absurd z.1 (by decide), fun z => absurd z.1 (by decide)⟩ | omega)) (f 336 11 (by first | decide | exact fun z => absurd z.1 (by decide) | exact ⟨fun z => absurd z.1 (by decide), fun z => absurd z.1 (by decide)⟩ | omega)), ?_, by omega, by omega⟩
  rw [f 336 11 (by first | decide | exact fun z => absurd z.1 (by decide) | exact ⟨fun z => absurd z.1 (by decide), fun z => absurd z.1 (by decide)⟩ | omega), f 339 _ (by first | decide | exact fun z => absurd z.1 (by decide) | exact ⟨fun z => absurd z.1 (by decide), fun z => absurd z.1 (by decide)⟩ | omega)]
  omega
/-- behind a value and a sign, another value and the sign put -/
theorem two_out {X m0 m m2 m3 : Mm} {k b d s : Int} (i0 : Ina X m0 k b d) (o : Out m0 m k b d) (A : AdvS m m2) (h8 : m 336 8 + 1 ≤ m2 336 8) (o3 : Out m2 m3 (k + 1) b (d + 1)) {m4 : Mm} (s0 : 2 ≤ s) (s1 : s ≤ 15) (s2 : ¬ s = 11) (f : ∀ c p : Int, ¬ (c = 338 ∧ p = 400 * m3 336 11 + m3 339 (m3 336 11)) ∧ ¬ (c = 339 ∧ p = m3 336 11) → m4 c p = m3 c p) (hl : m4 339 (m3 336 11) = m3 339 (m3 336 11) + 1) (hw : m4 338 (400 * m3 336 11 + m3 339 (m3 336 11)) = s + 16 * 0) : Out m0 m4 k b d ∧ m 336 8 + 1 ≤ m4 336 8 := by
  obtain ⟨g, hk0, hq, hd0, hd, hl0⟩ := i0
  obtain ⟨A1, q1, l1, n1, e1⟩ := o
  obtain ⟨A3, q3, l3, n3, e3⟩ := o3
  have AA : AdvS m0 m3 := (A1.trans A).trans A3
  have ii : Ina X m3 k b (d + 1 + 1) := ⟨g.adv AA.1, hk0, q3, by omega, e3, by omega⟩
  have z := ps_two s0 s1 s2 (d := d + 1 + 1) (by omega)
  rw [show d + 1 + 1 - 1 = d + 1 by omega] at z
  have n3' : m0 336 8 ≤ m3 336 8 := AA.1.2.2.2.2.1
  have a2 : m 336 8 ≤ m2 336 8 := A.1.2.2.2.2.1
  have e8 : m4 336 8 = m3 336 8 := f 336 8 (by first | decide | exact fun z => absurd z.1 (by decide) | exact ⟨fun z => absurd z.1 (by decide), fun z => absurd z.1 (by decide)⟩ | omega)
  exact ⟨put_out ii AA (by omega) (by omega) (by omega) f hl hw z, by omega⟩
end
section
/-! the reference's open row, as a stack -/
def rsk (f : Int → Int) : Nat → List Bool
  | 0 => []
  | n + 1 => if f n = 91 then true :: rsk f n else if f n = 11 then false :: rsk f n else rsk f n
def hNr (f : Int → Int) : Nat → Prop
  | 0 => False
  | n + 1 => ¬ f n = 91 ∧ (f n = 11 ∨ hNr f n)
def okr (f : Int → Int) : Nat → Prop
  | 0 => True
  | n + 1 => okr f n ∧ ((f n = 12 ∨ f n = 13) → ¬ hNr f n)
theorem rsk_same {f g : Int → Int} : ∀ n : Nat, (∀ j : Int, 0 ≤ j → j < n → f j = g j) → rsk f n = rsk g n ∧ hNr f n = hNr g n ∧ okr f n = okr g n := by
  intro n
  induction n with
  | zero => intro _; exact ⟨rfl, rfl, rfl⟩
  | succ n ih =>
    intro h
    obtain ⟨h1, h2, h3⟩ := ih (fun j a c => h j a (by omega))
    have e := h n (by omega) (by omega)
    refine ⟨?_, ?_, ?_⟩
    · simp only [rsk, e, h1]
    · simp only [hNr, e, h2]
    · simp only [okr, e, h2, h3]
theorem rsk_mem {f : Int → Int} : ∀ n : Nat, true ∈ rsk f n ↔ ∃ j : Int, 0 ≤ j ∧ j < n ∧ f j = 91 := by
  intro n
  induction n with
  | zero => exact ⟨fun h => (by cases h), fun h => (by obtain ⟨j, h1, h2, h3⟩ := h; exfalso; omega)⟩
  | succ n ih =>
    have down : ¬ f n = 91 → ((∃ j : Int, 0 ≤ j ∧ j < ((n + 1 : Nat) : Int) ∧ f j = 91) ↔ ∃ j : Int, 0 ≤ j ∧ j < n ∧ f j = 91) := by
      intro e
      refine ⟨fun h => ?_, fun h => ?_⟩
      · obtain ⟨j, h1, h2, h3⟩ := h
        by_cases ej : j = n
        · rw [ej] at h3; exact absurd h3 e
        · exact ⟨j, h1, by omega, h3⟩
      · obtain ⟨j, h1, h2, h3⟩ := h
        exact ⟨j, h1, by omega, h3⟩
    show true ∈ (if f n = 91 then true :: rsk f n else if f n = 11 then false :: rsk f n else rsk f n) ↔ _
    by_cases e : f n = 91
    · rw [if_pos e]
      exact ⟨fun _ => ⟨n, by omega, by omega, e⟩, fun _ => List.mem_cons_self⟩
    · rw [if_neg e, down e, ← ih]
      by_cases e2 : f n = 11
      · rw [if_pos e2]
        exact ⟨fun h => (by cases h; assumption), fun h => List.mem_cons_of_mem _ h⟩
      · rw [if_neg e2]
def RS (M : Mm) (s : List Bool) : Prop := rsk (M 343) (M 336 16).toNat = s ∧ M 336 13 = (s.length : Int) ∧ s.length ≤ 10 ∧ okr (M 343) (M 336 16).toNat
def Top (M : Mm) : Prop := ¬ hNr (M 343) (M 336 16).toNat
theorem RS.same {m m1 : Mm} {s : List Bool} (h : RS m s) (f : ∀ p : Int, m1 343 p = m 343 p) (o : m1 336 16 = m 336 16) (d : m1 336 13 = m 336 13) : RS m1 s := by
  have e : m1 343 = m 343 := funext f
  unfold RS
  rw [e, o, d]
  exact h
theorem Top.same {m m1 : Mm} (h : Top m) (f : ∀ p : Int, m1 343 p = m 343 p) (o : m1 336 16 = m 336 16) : Top m1 := by
  have e : m1 343 = m 343 := funext f
  unfold Top
  rw [e, o]
  exact h
theorem RS.in {m : Mm} {s : List Bool} (h : RS m s) : true ∈ s ↔ ∃ j : Int, 0 ≤ j ∧ j < m 336 16 ∧ m 343 j = 91 := by
  rw [← h.1, rsk_mem]
  refine ⟨fun z => ?_, fun z => ?_⟩
  · obtain ⟨j, h1, h2, h3⟩ := z
    exact ⟨j, h1, by omega, h3⟩
  · obtain ⟨j, h1, h2, h3⟩ := z
    exact ⟨j, h1, by omega, h3⟩
theorem RS.push {m m1 : Mm} {s : List Bool} {x : Int} (h : RS m s) (h0 : 0 ≤ m 336 16) (f : ∀ j : Int, 0 ≤ j → j < m 336 16 → m1 343 j = m 343 j) (o : m1 336 16 = m 336 16 + 1) (hx : m1 343 (m 336 16) = x) : rsk (m1 343) (m1 336 16).toNat = (if x = 91 then true :: s else if x = 11 then false :: s else s) ∧ (((x = 12 ∨ x = 13) → Top m) → okr (m1 343) (m1 336 16).toNat) := by
  obtain ⟨p1, p2, p3, p4⟩ := h
  have en : (m1 336 16).toNat = (m 336 16).toNat + 1 := by omega
  have ct : (((m 336 16).toNat : Nat) : Int) = m 336 16 := by omega
  obtain ⟨q1, q2, q3⟩ := rsk_same (f := m1 343) (g := m 343) (m 336 16).toNat (fun j j0 j1 => f j j0 (by omega))
  refine ⟨?_, fun hh => ?_⟩
  · rw [en]
    show (if m1 343 (((m 336 16).toNat : Nat) : Int) = 91 then true :: rsk (m1 343) (m 336 16).toNat else if m1 343 (((m 336 16).toNat : Nat) : Int) = 11 then false :: rsk (m1 343) (m 336 16).toNat else rsk (m1 343) (m 336 16).toNat) = _
    rw [ct, hx, q1, p1]
  · rw [en]
    refine ⟨by rw [q3]; exact p4, fun z => ?_⟩
    rw [ct, hx] at z
    rw [q2]
    exact hh z
/-- the top taken away -/
theorem RS.pop {m m1 : Mm} {s : List Bool} (h : RS m s) (h0 : 1 ≤ m 336 16) (f : ∀ p : Int, m1 343 p = m 343 p) (o : m1 336 16 = m 336 16 - 1) : s = (if m 343 (m 336 16 - 1) = 91 then true :: rsk (m1 343) (m1 336 16).toNat else if m 343 (m 336 16 - 1) = 11 then false :: rsk (m1 343) (m1 336 16).toNat else rsk (m1 343) (m1 336 16).toNat) ∧ okr (m1 343) (m1 336 16).toNat ∧ ((m 343 (m 336 16 - 1) = 12 ∨ m 343 (m 336 16 - 1) = 13) → Top m1) := by
  have e : m1 343 = m 343 := funext f
  obtain ⟨p1, p2, p3, p4⟩ := h
  have en : (m 336 16).toNat = (m1 336 16).toNat + 1 := by omega
  have ct : (((m1 336 16).toNat : Nat) : Int) = m 336 16 - 1 := by omega
  rw [en] at p1 p4
  unfold Top
  rw [e]
  refine ⟨?_, p4.1, fun z => p4.2 (by rw [ct]; exact z)⟩
  rw [← p1]
  show (if m 343 (((m1 336 16).toNat : Nat) : Int) = 91 then true :: rsk (m 343) (m1 336 16).toNat else if m 343 (((m1 336 16).toNat : Nat) : Int) = 11 then false :: rsk (m 343) (m1 336 16).toNat else rsk (m 343) (m1 336 16).toNat) = _
  rw [ct]
theorem zo_isInside {X : Mm} {S : Sh} {m : Mm} {K : Int → Mm → Prop} (hS : Shp S) (hm : Inv X S m) (k1 : ∀ j : Int, 0 ≤ j → j < m 336 16 → m 343 j = 91 → K 1 m) (k0 : (∀ j : Int, 0 ≤ j → j < m 336 16 → ¬ m 343 j = 91) → K 0 m) : wp_X12_isInside S m 336 K := by
  have b16 := hm.f_336_16
  refine u_X12_isInside ?_
  refine g_C ?_
  have L : ∀ (n : Nat) (i : Int), 0 ≤ i → i ≤ m 336 16 → (∀ j : Int, 0 ≤ j → j < i → ¬ m 343 j = 91) → 401 - i ≤ (n : Int) → wp_X12_isInside_2 S K n 336 i m := by
    intro n
    induction n with
    | zero => intro i _ _ _ h; exfalso; omega
    | succ n ih =>
      intro i i0 i1 hn h
      refine u_X12_isInside_2 ?_
      refine g_getu 16 rfl hS.k336 (fun v ev => ?_)
      refine g_if (fun w => ?_) (fun w => ?_)
      · exact g_C ⟨by decide, k0 (fun j a b => hn j a (by omega))⟩
      · refine g_getr 15 343 rfl hS.k336 hm.f_336_15 (by decide) ?_
        refine g_ldu hS.k343 hS.l343 (by omega) (by omega) (fun x ex => ?_)
        refine g_C ?_
        refine g_if (fun w2 => ?_) (fun w2 => ?_)
        · refine g_A (by omega) (by omega) ?_
          refine ih (i + 1) (by omega) (by omega) (fun j a b => ?_) (by omega)
          by_cases e : j = i
          · rw [e, ← ex]; exact w2
          · exact hn j a (by omega)
        · exact g_C ⟨by decide, k1 i i0 (by omega) (by omega)⟩
  exact ⟨401, L 401 0 (by omega) (by omega) (fun j a b => absurd b (by omega)) (by omega)⟩
/-- how many of the first n are AND or OR -/
def nbf (f : Int → Int) : Nat → Int
  | 0 => 0
  | n + 1 => nbf f n + (if f n = 12 ∨ f n = 13 then 1 else 0)
theorem nbf_nn (f : Int → Int) : ∀ n : Nat, 0 ≤ nbf f n := by
  intro n
  induction n with
  | zero => exact Int.le_refl 0
  | succ n ih =>
    show 0 ≤ nbf f n + (if f n = 12 ∨ f n = 13 then 1 else 0)
    split <;> omega
theorem nbf_same {f g : Int → Int} : ∀ n : Nat, (∀ j : Int, 0 ≤ j → j < n → f j = g j) → nbf f n = nbf g n := by
  intro n
  induction n with
  | zero => intro _; rfl
  | succ n ih =>
    intro h
    show nbf f n + (if f n = 12 ∨ f n = 13 then 1 else 0) = nbf g n + (if g n = 12 ∨ g n = 13 then 1 else 0)
    rw [ih (fun j a b => h j a (by omega)), h n (by omega) (by omega)]
def nb (M : Mm) : Int := nbf (M 343) (M 336 16).toNat
theorem nbf_top {f : Int → Int} {o : Int} (h : 0 ≤ o) : nbf f (o + 1).toNat = nbf f o.toNat + (if f o = 12 ∨ f o = 13 then 1 else 0) := by
  rw [show (o + 1).toNat = o.toNat + 1 by omega]
  show nbf f o.toNat + (if f (o.toNat : Int) = 12 ∨ f (o.toNat : Int) = 13 then 1 else 0) = _
  rw [Int.toNat_of_nonneg h]
/-- amid a test: k to spare, e: a fact stands behind the last AND, OR -/
def Ts (X M : Mm) (k b e : Int) : Prop := GX X M ∧ Qs M b (nb M + e) ∧ (0 ≤ e ∧ e ≤ 1) ∧ nb M + e ≤ M 336 12 ∧ M 339 (M 336 11) + M 336 16 + k ≤ M 336 8 ∧ ∀ j : Int, 0 ≤ j → j < M 336 16 → M 343 j = 11 ∨ M 343 j = 12 ∨ M 343 j = 13 ∨ M 343 j = 91
theorem Ts.fr {X m m1 : Mm} {k b e : Int} (h : Ts X m k b e) (f : ∀ c p : Int, ¬ (c = 336 ∧ 8 ≤ p ∧ p ≤ 13 ∧ ¬ p = 11) → m1 c p = m c p) (h8 : m 336 8 ≤ m1 336 8) (h12 : m 336 12 ≤ m1 336 12) : Ts X m1 k b e ∧ Adv m m1 := by
  obtain ⟨g, hq, he, hn, hl, ho⟩ := h
  have A : Adv m m1 ∧ True := ⟨Adv.of (fun c p q => f c p (by omega)) h8 h12, trivial⟩
  have e43 : m1 343 = m 343 := funext (fun p => f 343 p (by first | decide | exact fun z => absurd z.1 (by decide) | exact ⟨fun z => absurd z.1 (by decide), fun z => absurd z.1 (by decide)⟩ | omega))
  have e16 : m1 336 16 = m 336 16 := f 336 16 (by first | decide | exact fun z => absurd z.1 (by decide) | exact ⟨fun z => absurd z.1 (by decide), fun z => absurd z.1 (by decide)⟩ | omega)
  have en : nb m1 = nb m := by unfold nb; rw [e43, e16]
  have el : m1 339 (m1 336 11) = m 339 (m 336 11) := by rw [f 336 11 (by first | decide | exact fun z => absurd z.1 (by decide) | exact ⟨fun z => absurd z.1 (by decide), fun z => absurd z.1 (by decide)⟩ | omega), f 339 _ (by first | decide | exact fun z => absurd z.1 (by decide) | exact ⟨fun z => absurd z.1 (by decide), fun z => absurd z.1 (by decide)⟩ | omega)]
  refine ⟨⟨g.adv A.1, ?_, he, by omega, by omega, ?_⟩, A.1⟩
  · rw [en]
    exact hq.same (fun p => f 338 p (by first | decide | exact fun z => absurd z.1 (by decide) | exact ⟨fun z => absurd z.1 (by decide), fun z => absurd z.1 (by decide)⟩ | omega)) (fun p => f 339 p (by first | decide | exact fun z => absurd z.1 (by decide) | exact ⟨fun z => absurd z.1 (by decide), fun z => absurd z.1 (by decide)⟩ | omega)) (f 336 11 (by first | decide | exact fun z => absurd z.1 (by decide) | exact ⟨fun z => absurd z.1 (by decide), fun z => absurd z.1 (by decide)⟩ | omega))
  · rw [e43, e16]
    exact ho
theorem Ts.slack {X m : Mm} {k k1 b e : Int} (h : Ts X m k b e) (h1 : m 339 (m 336 11) + m 336 16 + k1 ≤ m 336 8) : Ts X m k1 b e := ⟨h.1, h.2.1, h.2.2.1, h.2.2.2.1, h1, h.2.2.2.2.2⟩
theorem Adv.rfl' (m : Mm) : Adv m m := (AdvS.rfl' m).1
def strn (x : Int) : Int := if x = 13 then 1 else if x = 12 then 2 else if x = 11 then 3 else 0
theorem zl_strength {S : Sh} {m : Mm} {K : Int → Mm → Prop} {x : Int} (h : K (strn x) m) : wp_X12_strength S m x K := by
  refine u_X12_strength ?_
  unfold strn at h
  refine g_C ?_
  refine g_if (fun w => ?_) (fun w => ?_)
  · rw [if_neg w] at h
    refine g_C ?_
    refine g_if (fun w2 => ?_) (fun w2 => ?_)
    · rw [if_neg w2] at h
      refine g_C ?_
      refine g_if (fun w3 => ?_) (fun w3 => ?_)
      · rw [if_neg w3] at h
        exact g_C h
      · rw [if_pos (by omega)] at h
        exact g_C h
    · rw [if_pos (by omega)] at h
      exact g_C h
  · rw [if_pos (by omega)] at h
    exact g_C h
theorem strn_c (x : Int) : (x = 13 ∧ strn x = 1) ∨ (x = 12 ∧ strn x = 2) ∨ (x = 11 ∧ strn x = 3) ∨ (¬ x = 11 ∧ ¬ x = 12 ∧ ¬ x = 13 ∧ strn x = 0) := by
  unfold strn
  split
  · omega
  · split
    · omega
    · split <;> omega
theorem Ts.pushop {X m m1 : Mm} {k b e s k1 e1 : Int} (h : Ts X m k b e) (h0 : 0 ≤ m 336 16) (f : ∀ c p : Int, ¬ (c = 336 ∧ (p = 13 ∨ p = 16 ∨ p = 8)) ∧ ¬ (c = 343 ∧ p = m 336 16) → m1 c p = m c p) (o : m1 336 16 = m 336 16 + 1) (x : m1 343 (m 336 16) = s) (hs : s = 11 ∨ s = 12 ∨ s = 13 ∨ s = 91) (h8 : m 336 8 ≤ m1 336 8) (hl : m 339 (m 336 11) + m 336 16 + 1 + k1 ≤ m1 336 8) (he : e = e1 + (if s = 12 ∨ s = 13 then 1 else 0)) (he1 : 0 ≤ e1) : Ts X m1 k1 b e1 ∧ Adv m m1 := by
  obtain ⟨g, hq, he0, hn, hl0, ho⟩ := h
  have A : Adv m m1 := ⟨fun c p q => f c p (by omega), f 336 11 (by first | decide | exact fun z => absurd z.1 (by decide) | exact ⟨fun z => absurd z.1 (by decide), fun z => absurd z.1 (by decide)⟩ | omega), fun j _ => f 338 j (by first | decide | exact fun z => absurd z.1 (by decide) | exact ⟨fun z => absurd z.1 (by decide), fun z => absurd z.1 (by decide)⟩ | omega), by rw [f 339 _ (by first | decide | exact fun z => absurd z.1 (by decide) | exact ⟨fun z => absurd z.1 (by decide), fun z => absurd z.1 (by decide)⟩ | omega)]; omega, h8, by rw [f 336 12 (by first | decide | exact fun z => absurd z.1 (by decide) | exact ⟨fun z => absurd z.1 (by decide), fun z => absurd z.1 (by decide)⟩ | omega)]; omega, f 336 14 (by first | decide | exact fun z => absurd z.1 (by decide) | exact ⟨fun z => absurd z.1 (by decide), fun z => absurd z.1 (by decide)⟩ | omega)⟩
  have el : m1 339 (m1 336 11) = m 339 (m 336 11) := by rw [f 336 11 (by first | decide | exact fun z => absurd z.1 (by decide) | exact ⟨fun z => absurd z.1 (by decide), fun z => absurd z.1 (by decide)⟩ | omega), f 339 _ (by first | decide | exact fun z => absurd z.1 (by decide) | exact ⟨fun z => absurd z.1 (by decide), fun z => absurd z.1 (by decide)⟩ | omega)]
  have en : nb m1 = nb m + (if s = 12 ∨ s = 13 then 1 else 0) := by
    unfold nb
    rw [o, nbf_top h0, x, nbf_same (f := m1 343) (g := m 343) _ (fun j j0 j1 => f 343 j (by first | decide | exact fun z => absurd z.1 (by decide) | exact ⟨fun z => absurd z.1 (by decide), fun z => absurd z.1 (by decide)⟩ | omega))]
  have e12 : m1 336 12 = m 336 12 := f 336 12 (by first | decide | exact fun z => absurd z.1 (by decide) | exact ⟨fun z => absurd z.1 (by decide), fun z => absurd z.1 (by decide)⟩ | omega)
  refine ⟨⟨g.adv A, ?_, ?_, ?_, by omega, fun j j0 j1 => ?_⟩, A⟩
  · rw [show nb m1 + e1 = nb m + e by rw [en, he]; omega]
    exact hq.same (fun p => f 338 p (by first | decide | exact fun z => absurd z.1 (by decide) | exact ⟨fun z => absurd z.1 (by decide), fun z => absurd z.1 (by decide)⟩ | omega)) (fun p => f 339 p (by first | decide | exact fun z => absurd z.1 (by decide) | exact ⟨fun z => absurd z.1 (by decide), fun z => absurd z.1 (by decide)⟩ | omega)) (f 336 11 (by first | decide | exact fun z => absurd z.1 (by decide) | exact ⟨fun z => absurd z.1 (by decide), fun z => absurd z.1 (by decide)⟩ | omega))
  · refine ⟨he1, ?_⟩
    revert he
    split <;> omega
  · rw [show nb m1 + e1 = nb m + e by rw [en, he]; omega]
    omega
  · by_cases ej : j = m 336 16
    · rw [ej, x]
      exact hs
    · rw [f 343 j (by first | decide | exact fun z => absurd z.1 (by decide) | exact ⟨fun z => absurd z.1 (by decide), fun z => absurd z.1 (by decide)⟩ | omega)]
      exact ho j j0 (by omega)
end
section
theorem pw6 : (1953854062 : Int) = pw 6 := by decide +kernel
theorem pw13 : (26982 : Int) = pw 13 := by decide +kernel
theorem pw14 : (7237492 : Int) = pw 14 := by decide +kernel
theorem pw15 : (6385252 : Int) = pw 15 := by decide +kernel
theorem pw16 : (28530 : Int) = pw 16 := by decide +kernel
theorem tl_s : tl 6 = 4 ∧ tl 13 = 2 ∧ tl 14 = 3 ∧ tl 15 = 3 ∧ tl 16 = 2 := by decide +kernel
theorem tw_s : tw 6 0 = 116 ∧ tw 13 0 = 105 ∧ tw 14 0 = 110 ∧ tw 15 0 = 97 ∧ tw 16 0 = 111 := by decide +kernel
/-- behind a fact, its closing brackets read -/
def Tl (b : Int → Int) (n : Int) (T : Int → Prop) (M : Mm) (mo : Int) (s : List Bool) (k : Int) : Prop := Lr b n T M mo s k ∧ RS M (dropN s) ∧ Top M ∧ (mo = 6 ∨ mo = 7) ∧ (mo = 6 → Nar b n M) ∧ Sk b n (M 336 8) (M 336 8) ∧ ¬ (M 336 8 < n ∧ b (M 336 8) = 93 ∧ true ∈ s)
theorem Tl.same {b : Int → Int} {n mo k : Int} {T : Int → Prop} {M M1 : Mm} {s : List Bool} (h : Tl b n T M mo s k) (e8 : M1 336 8 = M 336 8) (f : ∀ c p : Int, ¬ (c = 336 ∧ p = 8) → M1 c p = M c p) : Tl b n T M1 mo s k := by
  obtain ⟨h1, h2, h3, h4, h5, h6, h7⟩ := h
  refine ⟨h1.eq e8 (f 336 12 (by first | decide | exact fun z => absurd z.1 (by decide) | exact ⟨fun z => absurd z.1 (by decide), fun z => absurd z.1 (by decide)⟩ | omega)) (f 336 9 (by first | decide | exact fun z => absurd z.1 (by decide) | exact ⟨fun z => absurd z.1 (by decide), fun z => absurd z.1 (by decide)⟩ | omega)), h2.same (fun p => f 343 p (by first | decide | exact fun z => absurd z.1 (by decide) | exact ⟨fun z => absurd z.1 (by decide), fun z => absurd z.1 (by decide)⟩ | omega)) (f 336 16 (by first | decide | exact fun z => absurd z.1 (by decide) | exact ⟨fun z => absurd z.1 (by decide), fun z => absurd z.1 (by decide)⟩ | omega)) (f 336 13 (by first | decide | exact fun z => absurd z.1 (by decide) | exact ⟨fun z => absurd z.1 (by decide), fun z => absurd z.1 (by decide)⟩ | omega)), h3.same (fun p => f 343 p (by first | decide | exact fun z => absurd z.1 (by decide) | exact ⟨fun z => absurd z.1 (by decide), fun z => absurd z.1 (by decide)⟩ | omega)) (f 336 16 (by first | decide | exact fun z => absurd z.1 (by decide) | exact ⟨fun z => absurd z.1 (by decide), fun z => absurd z.1 (by decide)⟩ | omega)), h4, fun z q hq => h5 z q ?_, ?_, ?_⟩
  · rw [e8] at hq; exact hq
  · rw [e8]; exact h6
  · rw [e8]; exact h7
end
section
/-- clause c of row t is good, within the first l signs -/
def Cl (M : Mm) (t c l : Int) : Prop := (0 ≤ M 340 (48 * t + 4 * c) ∧ M 340 (48 * t + 4 * c) ≤ M 340 (48 * t + 4 * c + 1) ∧ M 340 (48 * t + 4 * c + 1) ≤ l ∧ pth M t (M 340 (48 * t + 4 * c + 1) - M 340 (48 * t + 4 * c)).toNat (M 340 (48 * t + 4 * c)) 0 1) ∧ (M 340 (48 * t + 4 * c + 2) < 0 ∨ (0 ≤ M 340 (48 * t + 4 * c + 2) ∧ M 340 (48 * t + 4 * c + 2) ≤ M 340 (48 * t + 4 * c + 3) ∧ M 340 (48 * t + 4 * c + 3) ≤ l ∧ pth M t (M 340 (48 * t + 4 * c + 3) - M 340 (48 * t + 4 * c + 2)).toNat (M 340 (48 * t + 4 * c + 2)) 0 1))
theorem Cl.same {M M1 : Mm} {t c l l1 : Int} (h : Cl M t c l) (a0 : M1 340 (48 * t + 4 * c) = M 340 (48 * t + 4 * c)) (a1 : M1 340 (48 * t + 4 * c + 1) = M 340 (48 * t + 4 * c + 1)) (a2 : M1 340 (48 * t + 4 * c + 2) = M 340 (48 * t + 4 * c + 2)) (a3 : M1 340 (48 * t + 4 * c + 3) = M 340 (48 * t + 4 * c + 3)) (hs : ∀ j : Int, j < 400 * t + l → M1 338 j = M 338 j) (hl : l ≤ l1) : Cl M1 t c l1 := by
  unfold Cl at h ⊢
  rw [a0, a1, a2, a3]
  obtain ⟨⟨h1, h2, h3, h4⟩, h5⟩ := h
  refine ⟨⟨h1, h2, by omega, pth_same _ _ _ _ (fun j _ _ => hs _ (by omega)) h4⟩, ?_⟩
  rcases h5 with h5 | ⟨h5, h6, h7, h8⟩
  · exact Or.inl h5
  · exact Or.inr ⟨h5, h6, by omega, pth_same _ _ _ _ (fun j _ _ => hs _ (by omega)) h8⟩
theorem pfr_of {M : Mm} {t a b : Int} (h1 : 0 ≤ a) (h2 : a ≤ b) (h3 : b ≤ 400) (h4 : pth M t (b - a).toNat a 0 1) : pfr M t a b := by
  refine ⟨h1, ?_, h3, pfx_of _ _ _ h4⟩
  by_cases e : a = b
  · rw [e, show (b - b).toNat = 0 by omega] at h4
    exact absurd (show (0 : Int) = 1 from h4) (by decide)
  · omega
theorem Cl.ok {M : Mm} {t c l : Int} (h : Cl M t c l) (hl : l ≤ 400) : pfr M t (M 340 (48 * t + 4 * c)) (M 340 (48 * t + 4 * c + 1)) ∧ (M 340 (48 * t + 4 * c + 2) < 0 ∨ pfr M t (M 340 (48 * t + 4 * c + 2)) (M 340 (48 * t + 4 * c + 3))) := by
  obtain ⟨⟨h1, h2, h3, h4⟩, h5⟩ := h
  refine ⟨pfr_of h1 h2 (by omega) h4, ?_⟩
  rcases h5 with h5 | ⟨h5, h6, h7, h8⟩
  · exact Or.inl h5
  · exact Or.inr (pfr_of h5 h6 (by omega) h8)
/-- a rule's row, so far (d: how many more lines than clauses) -/
def Rl (X M : Mm) (d : Int) : Prop := GX X M ∧ M 339 (X 336 2) ≤ M 336 8 ∧ M 341 (X 336 2) + d = M 336 14 ∧ (0 ≤ M 341 (X 336 2) ∧ M 336 14 ≤ 12) ∧ ∀ c : Int, 0 ≤ c → c < M 341 (X 336 2) → Cl M (X 336 2) c (M 339 (X 336 2))
theorem Rl.fr {X m m1 : Mm} {d : Int} (h : Rl X m d) (f : ∀ c p : Int, ¬ (c = 336 ∧ ¬ p = 11 ∧ ¬ p = 14) → m1 c p = m c p) (h8 : m 336 8 ≤ m1 336 8) : Rl X m1 d := by
  obtain ⟨g, a, b, c, e⟩ := h
  refine ⟨⟨(f 336 11 (by first | decide | exact fun z => absurd z.1 (by decide) | exact ⟨fun z => absurd z.1 (by decide), fun z => absurd z.1 (by decide)⟩ | omega)).trans g.1, g.2⟩, ?_, ?_, ?_, fun i i0 i1 => ?_⟩
  · rw [f 339 _ (by first | decide | exact fun z => absurd z.1 (by decide) | exact ⟨fun z => absurd z.1 (by decide), fun z => absurd z.1 (by decide)⟩ | omega)]; omega
  · rw [f 341 _ (by first | decide | exact fun z => absurd z.1 (by decide) | exact ⟨fun z => absurd z.1 (by decide), fun z => absurd z.1 (by decide)⟩ | omega), f 336 14 (by first | decide | exact fun z => absurd z.1 (by decide) | exact ⟨fun z => absurd z.1 (by decide), fun z => absurd z.1 (by decide)⟩ | omega)]; exact b
  · rw [f 341 _ (by first | decide | exact fun z => absurd z.1 (by decide) | exact ⟨fun z => absurd z.1 (by decide), fun z => absurd z.1 (by decide)⟩ | omega), f 336 14 (by first | decide | exact fun z => absurd z.1 (by decide) | exact ⟨fun z => absurd z.1 (by decide), fun z => absurd z.1 (by decide)⟩ | omega)]; exact c
  · rw [f 341 _ (by first | decide | exact fun z => absurd z.1 (by decide) | exact ⟨fun z => absurd z.1 (by decide), fun z => absurd z.1 (by decide)⟩ | omega)] at i1
    exact (e i i0 i1).same (f 340 _ (by first | decide | exact fun z => absurd z.1 (by decide) | exact ⟨fun z => absurd z.1 (by decide), fun z => absurd z.1 (by decide)⟩ | omega)) (f 340 _ (by first | decide | exact fun z => absurd z.1 (by decide) | exact ⟨fun z => absurd z.1 (by decide), fun z => absurd z.1 (by decide)⟩ | omega)) (f 340 _ (by first | decide | exact fun z => absurd z.1 (by decide) | exact ⟨fun z => absurd z.1 (by decide), fun z => absurd z.1 (by decide)⟩ | omega)) (f 340 _ (by first | decide | exact fun z => absurd z.1 (by decide) | exact ⟨fun z => absurd z.1 (by decide), fun z => absurd z.1 (by decide)⟩ | omega)) (fun j _ => f 338 j (by first | decide | exact fun z => absurd z.1 (by decide) | exact ⟨fun z => absurd z.1 (by decide), fun z => absurd z.1 (by decide)⟩ | omega)) (by rw [f 339 _ (by first | decide | exact fun z => absurd z.1 (by decide) | exact ⟨fun z => absurd z.1 (by decide), fun z => absurd z.1 (by decide)⟩ | omega)]; omega)
theorem zx_takesWord {X : Mm} {S : Sh} {m0 : Mm} {K : Int → Mm → Prop} {b : Int → Int} {n u : Int} (k : Nat) (hS : Shp S) (hm0 : Inv X S m0) (ht : TR X b n) (hp : m0 336 8 ≤ n) (hk17 : k < 17) (hu : u = pw k) (hk : ∀ (r q : Int) (M1 : Mm), Inv X S M1 → (∀ c p : Int, ¬ (c = 336 ∧ 8 ≤ p ∧ p ≤ 8) → M1 c p = m0 c p) → Sk b n (m0 336 8) q → q ≤ n → ((r = 0 ∧ M1 336 8 = q ∧ ¬ Wk b n k q) ∨ (r = 1 ∧ M1 336 8 = q + tl k ∧ Wk b n k q ∧ q + tl k ≤ n)) → K r M1) : wp_X12_takesWord S m0 336 u K := by
  have b8 := hm0.f_336_8
  refine u_X12_takesWord ?_
  refine ⟨hS.k336, ?_⟩
  refine zx_isWord k hS hm0 ht hp hk17 hu (fun q m1 hm1 f1 sk e1 qn wk => ?_) (fun q m1 hm1 f1 sk e1 qn wk => ?_)
  · refine g_ifT (by decide) ?_
    refine ⟨hS.k336, ?_⟩
    refine zx_passWord k hS hm1 ht e1 (by have := sk.1; omega) hk17 wk (fun m2 hm2 f2 e2 rn => ?_)
    exact g_C ⟨by decide, hk 1 q m2 hm2 (fun c p z => (f2 c p z).trans (f1 c p z)) sk qn (Or.inr ⟨rfl, e2, wk, rn⟩)⟩
  · exact g_ifF (by decide) (g_C ⟨by decide, hk 0 q m1 hm1 f1 sk qn (Or.inl ⟨rfl, e1, wk⟩)⟩)
end
section
theorem pfx_same {X Y : Mm} {t : Int} : ∀ (n : Nat) (i d : Int), (∀ j : Int, i ≤ j → j < i + n → Y 338 (400 * t + j) = X 338 (400 * t + j)) → pfx X t n i d → pfx Y t n i d := by
  intro n
  induction n with
  | zero => intro i d _ h; exact h
  | succ n ih =>
    intro i d hs h
    have e := hs i (by omega) (by omega)
    have k := fun d' => ih (i + 1) d' (fun j a b => hs j (by omega) (by omega))
    unfold pfx at h ⊢
    rw [e]
    rcases h with h | h | h | h
    · exact Or.inl ⟨h.1, h.2.1, k _ h.2.2⟩
    · exact Or.inr (Or.inl ⟨h.1, h.2.1, h.2.2.1, h.2.2.2.1, k _ h.2.2.2.2⟩)
    · exact Or.inr (Or.inr (Or.inl ⟨h.1, h.2.1, k _ h.2.2⟩))
    · exact Or.inr (Or.inr (Or.inr ⟨h.1, h.2.1, h.2.2.1, h.2.2.2.1, k _ h.2.2.2.2⟩))
theorem pfr_same {X Y : Mm} {t a b : Int} (h : pfr X t a b) (hs : ∀ p : Int, 400 * t ≤ p → p < 400 * t + 400 → Y 338 p = X 338 p) : pfr Y t a b := ⟨h.1, h.2.1, h.2.2.1, pfx_same _ _ _ (fun j j0 j1 => hs _ (by have := h.1; omega) (by have := h.1; have := h.2.1; have := h.2.2.1; omega)) h.2.2.2⟩
theorem rulOK_same {X Y : Mm} {t : Int} (h : rulOK X t) (h1 : Y 341 t = X 341 t) (h2 : ∀ p : Int, 48 * t ≤ p → p < 48 * t + 48 → Y 340 p = X 340 p) (h3 : ∀ p : Int, 400 * t ≤ p → p < 400 * t + 400 → Y 338 p = X 338 p) : rulOK Y t := by
  obtain ⟨a, b⟩ := h
  unfold rulOK
  rw [h1]
  refine ⟨a, fun c c0 c1 => ?_⟩
  obtain ⟨q1, q2⟩ := b c c0 c1
  rw [h2 (48 * t + 4 * c) (by omega) (by omega), h2 (48 * t + 4 * c + 1) (by omega) (by omega), h2 (48 * t + 4 * c + 2) (by omega) (by omega), h2 (48 * t + 4 * c + 3) (by omega) (by omega)]
  refine ⟨pfr_same q1 h3, ?_⟩
  rcases q2 with q2 | q2
  · exact Or.inl q2
  · exact Or.inr (pfr_same q2 h3)
theorem Good.same {X Y : Mm} (h : Good X) (h1 : Y 336 21 = X 336 21) (h2 : Y 336 2 = X 336 2) (h3 : ∀ c k : Int, (c = 355 ∨ c = 357) → Y c k = X c k) (h4 : ∀ p : Int, p < X 336 2 → Y 341 p = X 341 p) (h5 : ∀ p : Int, p < 48 * X 336 2 → Y 340 p = X 340 p) (h6 : ∀ p : Int, p < 400 * X 336 2 → Y 338 p = X 338 p) : Good Y := by
  obtain ⟨a, b, c, d⟩ := h
  unfold Good
  rw [h1, h2]
  refine ⟨a, fun k k0 k1 => by rw [h3 355 k (by first | decide | exact fun z => absurd z.1 (by decide) | exact ⟨fun z => absurd z.1 (by decide), fun z => absurd z.1 (by decide)⟩ | omega), h3 357 k (by first | decide | exact fun z => absurd z.1 (by decide) | exact ⟨fun z => absurd z.1 (by decide), fun z => absurd z.1 (by decide)⟩ | omega)]; exact b k k0 k1, c, fun t t0 t1 => ?_⟩
  exact rulOK_same (d t t0 t1) (h4 t t1) (fun p _ p1 => h5 p (by omega)) (fun p _ p1 => h6 p (by omega))
/-- places that are: said, what was said, images -/
def PL3 (M : Mm) : Prop := PlOK (M 346) (M 346 0) (M 346 4) (M 346 5) ∧ (∀ r : Int, 0 ≤ r → r < M 336 25 → PlOK (fun p => M 347 (57 * r + p)) (M 347 (57 * r)) (M 347 (57 * r + 4)) (M 347 (57 * r + 5))) ∧ (∀ k : Int, 0 ≤ k → k < 4 → PlOK (fun p => M 354 (158 * k + p)) (M 354 (158 * k)) (M 354 (158 * k + 4)) (M 354 (158 * k + 5)))
def Jc (S : Sh) (M : Mm) : Prop := (∀ c p : Nat, c < 358 → p < pT.getD c 0 → okb (bd c p) (M c p)) ∧ (∀ i : Int, 0 ≤ i → i < 6 → rowv S (M 30 i)) ∧ rowv S (M 55 1) ∧ Good M ∧ PL3 M
/-- the seeds of both sides are alike -/
def Xr (M : Mm) : Prop := M 3 3 = M 336 22 ∧ (M 76 3 = M 356 0 ∧ M 76 9 = M 357 0) ∧ (M 101 3 = M 356 1 ∧ M 101 9 = M 357 1) ∧ (M 126 3 = M 356 2 ∧ M 126 9 = M 357 2) ∧ (M 151 3 = M 356 3 ∧ M 151 9 = M 357 3)
abbrev sf (M : Mm) : Mm := up M (-1) 0 0
theorem sf_e (M : Mm) {c p : Int} (h : ¬ c = -1) : sf M c p = M c p := up_ne (fun z => h z.1)
theorem Jc.inv {S : Sh} {M : Mm} (h : Jc S M) : Inv (sf M) S M := by
  obtain ⟨h1, h2, h3, h4, h5⟩ := h
  refine ⟨h1, fun c p hs => (sf_e M (by omega)).symm, h2, h3, h4.same (sf_e M (by decide)) (sf_e M (by decide)) (fun c k q => sf_e M (by omega)) (fun p _ => sf_e M (by decide)) (fun p _ => sf_e M (by decide)) (fun p _ => sf_e M (by decide)), fun hx => ?_, ?_⟩
  · have z : sf M (-1) 0 = 0 := up_at _ _ _ _
    rw [z] at hx
    exact absurd hx (by decide)
  · unfold PLi
    rw [sf_e M (c := 346) (p := 0) (by decide), sf_e M (c := 346) (p := 4) (by decide), sf_e M (c := 346) (p := 5) (by decide)]
    refine ⟨h5.1, fun hx => ?_, h5.2⟩
    have z : sf M (-1) 0 = 0 := up_at _ _ _ _
    rw [z] at hx
    exact absurd hx (by decide)
theorem Jc.of {X : Mm} {S : Sh} {M : Mm} (h : Inv X S M) : Jc S M := by
  refine ⟨h.1, h.2.2.1, h.row55, ?_, ?_⟩
  · exact h.good.same (h.g (by decide)) (h.g (by decide)) (fun c k q => h.g (by omega)) (fun p q => h.2.1 _ _ (Or.inr (Or.inr (Or.inr ⟨rfl, q⟩)))) (fun p q => h.2.1 _ _ (Or.inr (Or.inr (Or.inl ⟨rfl, q⟩)))) (fun p q => h.2.1 _ _ (Or.inr (Or.inl ⟨rfl, q⟩)))
  · have q := h.pl
    unfold PLi at q
    rw [← h.g (c := 346) (p := 0) (by decide), ← h.g (c := 346) (p := 4) (by decide), ← h.g (c := 346) (p := 5) (by decide)] at q
    exact ⟨q.1, q.2.2⟩
theorem Xr.same {M M1 : Mm} (h : Xr M) (hs : ∀ c p : Int, spP c p → M1 c p = M c p) : Xr M1 := by
  unfold Xr at h ⊢
  rw [hs 3 3 (by decide), hs 336 22 (by decide), hs 76 3 (by decide), hs 356 0 (by decide), hs 76 9 (by decide), hs 357 0 (by decide), hs 101 3 (by decide), hs 356 1 (by decide), hs 101 9 (by decide), hs 357 1 (by decide), hs 126 3 (by decide), hs 356 2 (by decide), hs 126 9 (by decide), hs 357 2 (by decide), hs 151 3 (by decide), hs 356 3 (by decide), hs 151 9 (by decide), hs 357 3 (by decide)]
  exact h
/-- the tapes, the numbers of rules, the forces of both sides are alike -/
def Ya (M : Mm) : Prop := (M 1 1 = M 336 1 ∧ (∀ p : Int, 0 ≤ p → p < 400 → M 2 p = M 337 p) ∧ M 0 7 = M 336 2) ∧ M 3 2 = M 336 21 ∧ (M 357 0 = 0 ∨ M 76 2 = M 355 0) ∧ (M 357 1 = 0 ∨ M 101 2 = M 355 1) ∧ (M 357 2 = 0 ∨ M 126 2 = M 355 2) ∧ (M 357 3 = 0 ∨ M 151 2 = M 355 3)
theorem Ya.same {M M1 : Mm} (h : Ya M) (hs : ∀ c p : Int, spP c p → M1 c p = M c p) : Ya M1 := by
  obtain ⟨⟨a1, a2, a3⟩, a4, a5⟩ := h
  unfold Ya
  rw [hs 1 1 (by decide), hs 336 1 (by decide), hs 0 7 (by decide), hs 336 2 (by decide), hs 3 2 (by decide), hs 336 21 (by decide), hs 76 2 (by decide), hs 355 0 (by decide), hs 357 0 (by decide), hs 101 2 (by decide), hs 355 1 (by decide), hs 357 1 (by decide), hs 126 2 (by decide), hs 355 2 (by decide), hs 357 2 (by decide), hs 151 2 (by decide), hs 355 3 (by decide), hs 357 3 (by decide)]
  exact ⟨⟨a1, fun p p0 p1 => by rw [hs 2 p (by first | decide | exact fun z => absurd z.1 (by decide) | exact ⟨fun z => absurd z.1 (by decide), fun z => absurd z.1 (by decide)⟩ | omega), hs 337 p (by first | decide | exact fun z => absurd z.1 (by decide) | exact ⟨fun z => absurd z.1 (by decide), fun z => absurd z.1 (by decide)⟩ | omega)]; exact a2 p p0 p1, a3⟩, a4, a5⟩
def JX (S : Sh) (M : Mm) : Prop := Jc S M ∧ Xr M ∧ Ya M
theorem JX.inv {S : Sh} {M : Mm} (h : JX S M) : Inv (sf M) S M := h.1.inv
theorem JX.of {S : Sh} {M M1 : Mm} (h : JX S M) (h1 : Inv (sf M) S M1) : JX S M1 := ⟨Jc.of h1, h.2.1.same (fun c p q => (h1.g q).trans (sf_e M (by omega))), h.2.2.same (fun c p q => (h1.g q).trans (sf_e M (by omega)))⟩
theorem Jc.put {S : Sh} {M : Mm} {c p v : Int} (h : Jc S M) (hb : ∀ c' p' : Nat, (c' : Int) = c → (p' : Int) = p → okb (bd c' p') v) (hn : ¬ c = 30 ∧ ¬ (c = 55 ∧ p = 1) ∧ ¬ (c = 336 ∧ (p = 21 ∨ p = 2 ∨ p = 25)) ∧ ¬ c = 355 ∧ ¬ c = 357 ∧ ¬ c = 341 ∧ ¬ c = 340 ∧ ¬ c = 338 ∧ ¬ c = 346 ∧ ¬ c = 347 ∧ ¬ c = 354) : Jc S (up M c p v) := by
  have F : ∀ c' p' : Int, ¬ (c' = c ∧ p' = p) → up M c p v c' p' = M c' p' := fun c' p' q => up_ne q
  obtain ⟨k1, k2, k3, k4, k5⟩ := h
  refine ⟨fun c' p' hc hp => ?_, fun i i0 i1 => ?_, ?_, ?_, ?_⟩
  · by_cases e : (c' : Int) = c ∧ (p' : Int) = p
    · rw [e.1, e.2, up_at]
      exact hb c' p' e.1 e.2
    · rw [F _ _ e]
      exact k1 c' p' hc hp
  · rw [F 30 i (by first | decide | exact fun z => absurd z.1 (by decide) | exact ⟨fun z => absurd z.1 (by decide), fun z => absurd z.1 (by decide)⟩ | omega)]; exact k2 i i0 i1
  · rw [F 55 1 (by first | decide | exact fun z => absurd z.1 (by decide) | exact ⟨fun z => absurd z.1 (by decide), fun z => absurd z.1 (by decide)⟩ | omega)]; exact k3
  · exact k4.same (F 336 21 (by first | decide | exact fun z => absurd z.1 (by decide) | exact ⟨fun z => absurd z.1 (by decide), fun z => absurd z.1 (by decide)⟩ | omega)) (F 336 2 (by first | decide | exact fun z => absurd z.1 (by decide) | exact ⟨fun z => absurd z.1 (by decide), fun z => absurd z.1 (by decide)⟩ | omega)) (fun c' k q => F c' k (by omega)) (fun p' _ => F 341 p' (by first | decide | exact fun z => absurd z.1 (by decide) | exact ⟨fun z => absurd z.1 (by decide), fun z => absurd z.1 (by decide)⟩ | omega)) (fun p' _ => F 340 p' (by first | decide | exact fun z => absurd z.1 (by decide) | exact ⟨fun z => absurd z.1 (by decide), fun z => absurd z.1 (by decide)⟩ | omega)) (fun p' _ => F 338 p' (by first | decide | exact fun z => absurd z.1 (by decide) | exact ⟨fun z => absurd z.1 (by decide), fun z => absurd z.1 (by decide)⟩ | omega))
  · unfold PL3 at k5 ⊢
    have e6 : up M c p v 346 = M 346 := funext (fun p' => F 346 p' (by first | decide | exact fun z => absurd z.1 (by decide) | exact ⟨fun z => absurd z.1 (by decide), fun z => absurd z.1 (by decide)⟩ | omega))
    have e7 : up M c p v 347 = M 347 := funext (fun p' => F 347 p' (by first | decide | exact fun z => absurd z.1 (by decide) | exact ⟨fun z => absurd z.1 (by decide), fun z => absurd z.1 (by decide)⟩ | omega))
    have e8 : up M c p v 354 = M 354 := funext (fun p' => F 354 p' (by first | decide | exact fun z => absurd z.1 (by decide) | exact ⟨fun z => absurd z.1 (by decide), fun z => absurd z.1 (by decide)⟩ | omega))
    rw [e6, e7, e8, F 336 25 (by first | decide | exact fun z => absurd z.1 (by decide) | exact ⟨fun z => absurd z.1 (by decide), fun z => absurd z.1 (by decide)⟩ | omega)]
    exact k5
theorem Jc.len12 {S : Sh} {M : Mm} {v : Int} (h : Jc S M) (h0 : 0 ≤ v) (h1 : v ≤ 400) : Jc S (up M 336 1 v) := by
  refine h.put (fun c p e1 e2 => ?_) (by decide)
  have e1 : c = 336 := by omega
  have e2 : p = 1 := by omega
  subst e1 e2
  exact okb_of (l := 0) (u := 400) (by decide +kernel) h0 h1
end
section
theorem Shp.new {S : Sh} (h : Shp S) (ci n : Nat) : Shp (newS S ci n) := by
  refine ⟨by show 358 ≤ S.1 + 1; have := h.1; omega, fun a ha => ?_⟩
  have h1 := h.1
  have e : ¬ (a : Int) = (S.1 : Int) := by omega
  show (if (a : Int) = (S.1 : Int) then ci else S.2.1 a) = _ ∧ (if (a : Int) = (S.1 : Int) then n else S.2.2 a) = _
  rw [if_neg e, if_neg e]
  exact h.2 a ha
theorem rowv.new {S : Sh} {v : Int} (h : rowv S v) (ci n : Nat) : rowv (newS S ci n) v := by
  rcases h with h | ⟨h1, h2, h3⟩
  · exact Or.inl h
  · obtain ⟨q0, q1, q2⟩ := h1
    have e : ¬ v = (S.1 : Int) := by omega
    refine Or.inr ⟨⟨q0, by show v.toNat < S.1 + 1; omega, ?_⟩, ?_, h3⟩
    · show (if v = (S.1 : Int) then ci else S.2.1 v) = 14
      rw [if_neg e]; exact q2
    · show (if v = (S.1 : Int) then n else S.2.2 v) ≤ 399
      rw [if_neg e]; exact h2
end
section
theorem g_i2be {a : Int} {K : Int → Prop} (h : ∀ v : Int, v = i2b a → K v) : wO1 i2b a K := h _ rfl
theorem g_stbR {S : Sh} {M : Mm} {x : Int} {ci n : Nat} {i v : Int} {K : Mm → Prop} (hk : isK S x ci) (hn : S.2.2 x = n) (h0 : 0 ≤ i) (h1 : i < n) (hz : -128 ≤ v ∧ v ≤ 127) (h : ∀ M' : Mm, M' = up M x i v → K M') : wStB S M x ci i v K := ⟨hk, ⟨h0, by rw [hn]; exact h1⟩, hz, h _ rfl⟩
theorem Jc.byte {S : Sh} {M : Mm} {c i v : Int} (h : Jc S M) (hc : c = 337 ∨ c = 2) (v0 : -128 ≤ v) (v1 : v ≤ 127) : Jc S (up M c i v) := by
  refine h.put (fun c' p' e1 e2 => ?_) (by omega)
  rcases hc with e | e
  · have e3 : c' = 337 := by omega
    rw [e3, bd_u (b := (-128, 127)) (by decide +kernel)]
    exact Or.inr ⟨v0, v1⟩
  · have e3 : c' = 2 := by omega
    rw [e3, bd_u (b := (-128, 127)) (by decide +kernel)]
    exact Or.inr ⟨v0, v1⟩
theorem Jc.len11 {S : Sh} {M : Mm} {v : Int} (h : Jc S M) (h0 : 0 ≤ v) (h1 : v ≤ 400) : Jc S (up M 1 1 v) := by
  refine h.put (fun c p e1 e2 => ?_) (by decide)
  have e1 : c = 1 := by omega
  have e2 : p = 1 := by omega
  subst e1 e2
  exact okb_of (l := 0) (u := 400) (by decide +kernel) h0 h1
theorem zk_four {S : Sh} {m0 : Mm} {K : Mm → Prop} {u l : Int} (hS : Shp S) (hj : Jc S m0) (hl : m0 336 1 = l) (l0 : 0 ≤ l) (l1 : l + 4 ≤ 400) (hk : ∀ M1 : Mm, Jc S M1 → (∀ c p : Int, ¬ (c = 336 ∧ p = 1) → ¬ (c = 337 ∧ l ≤ p ∧ p < l + 4) → M1 c p = m0 c p) → M1 336 1 = l + 4 → (∀ j : Int, 0 ≤ j → j < 4 → M1 337 (l + j) = i2b (iShr u (24 - 8 * j))) → K M1) : wp_X12_four S m0 336 u K := by
  refine u_X12_four ?_
  refine g_C ?_
  have L : ∀ (n : Nat) (j s : Int) (m : Mm), Jc S m → 0 ≤ j → j ≤ 4 → s = 24 - 8 * j → m 336 1 = l + j → (∀ c p : Int, ¬ (c = 336 ∧ p = 1) → ¬ (c = 337 ∧ l ≤ p ∧ p < l + 4) → m c p = m0 c p) → (∀ i : Int, 0 ≤ i → i < j → m 337 (l + i) = i2b (iShr u (24 - 8 * i))) → 5 - j ≤ (n : Int) → wp_X12_four_3 S K n 336 u s m := by
    intro n
    induction n with
    | zero => intro j s m _ _ _ _ _ _ _ h; exfalso; omega
    | succ n ih =>
      intro j s m jm j0 j4 es e1 F B h
      have hm := jm.inv
      refine u_X12_four_3 ?_
      refine g_if (fun w => hk m jm F (by omega) (fun i i0 i1 => B i i0 (by omega))) (fun w => ?_)
      refine g_getr 0 337 rfl hS.k336 hm.f_336_0 (by decide) ?_
      refine g_getu 1 rfl hS.k336 (fun v ev => ?_)
      refine g_Oe (fun x ex => ?_)
      refine g_i2be (fun y ey => ?_)
      have yr : -128 ≤ y ∧ y ≤ 127 := by rw [ey]; exact i2b_r _
      refine g_stbR hS.k337 hS.l337 (by omega) (by omega) yr (fun m1 e1' => ?_)
      have f1 : ∀ c p : Int, ¬ (c = 337 ∧ p = v) → m1 c p = m c p := fun c p q => (congrFun (congrFun e1' _) _).trans (up_ne q)
      have x1 : m1 337 v = y := (congrFun (congrFun e1' _) _).trans (up_at _ _ _ _)
      have j1 : Jc S m1 := by rw [e1']; exact jm.byte (by decide) yr.1 yr.2
      refine g_getu 1 rfl hS.k336 (fun v2 ev2 => ?_)
      rw [f1 336 1 (by omega)] at ev2
      refine g_C ?_
      refine g_A (by omega) (by omega) ?_
      refine g_putR 1 rfl hS.k336 (fun m2 e2 => ?_)
      have f2 : ∀ c p : Int, ¬ (c = 336 ∧ p = 1) → m2 c p = m1 c p := fun c p q => (congrFun (congrFun e2 _) _).trans (up_ne q)
      have x2 : m2 336 1 = v2 + 1 := (congrFun (congrFun e2 _) _).trans (up_at _ _ _ _)
      have j2 : Jc S m2 := by rw [e2]; exact j1.len12 (by omega) (by omega)
      refine g_A (by omega) (by omega) ?_
      refine ih (j + 1) _ m2 j2 (by omega) (by omega) (by omega) (by omega) (fun c p q1 q2 => ?_) (fun i i0 i1 => ?_) (by omega)
      · rw [f2 c p q1, f1 c p (by omega)]
        exact F c p q1 q2
      · by_cases ei : i = j
        · rw [f2 _ _ (by omega), show l + i = v by omega, x1, ey, ex, es, ei]
        · rw [f2 _ _ (by omega), f1 _ _ (by omega)]
          exact B i i0 (by omega)
  exact ⟨5, L 5 0 24 m0 hj (by decide) (by decide) (by decide) (by omega) (fun _ _ _ _ => rfl) (fun i i0 i1 => absurd i1 (by omega)) (by decide)⟩
theorem zk_add {S : Sh} {m0 : Mm} {K : Mm → Prop} {u l : Int} (hS : Shp S) (hj : Jc S m0) (hl : m0 1 1 = l) (l0 : 0 ≤ l) (l1 : l + 4 ≤ 400) (hk : ∀ M1 : Mm, Jc S M1 → (∀ c p : Int, ¬ (c = 1 ∧ p = 1) → ¬ (c = 2 ∧ l ≤ p ∧ p < l + 4) → M1 c p = m0 c p) → M1 1 1 = l + 4 → (∀ j : Int, 0 ≤ j → j < 4 → M1 2 (l + j) = i2b (iShr u (24 - 8 * j))) → K M1) : wp_X7_add S m0 1 u K := by
  refine u_X7_add ?_
  refine g_C ?_
  have L : ∀ (n : Nat) (j s : Int) (m : Mm), Jc S m → 0 ≤ j → j ≤ 4 → s = 24 - 8 * j → m 1 1 = l + j → (∀ c p : Int, ¬ (c = 1 ∧ p = 1) → ¬ (c = 2 ∧ l ≤ p ∧ p < l + 4) → m c p = m0 c p) → (∀ i : Int, 0 ≤ i → i < j → m 2 (l + i) = i2b (iShr u (24 - 8 * i))) → 5 - j ≤ (n : Int) → wp_X7_add_3 S K n 1 u s m := by
    intro n
    induction n with
    | zero => intro j s m _ _ _ _ _ _ _ h; exfalso; omega
    | succ n ih =>
      intro j s m jm j0 j4 es e1 F B h
      have hm := jm.inv
      refine u_X7_add_3 ?_
      refine g_if (fun w => hk m jm F (by omega) (fun i i0 i1 => B i i0 (by omega))) (fun w => ?_)
      refine g_getu 1 rfl hS.k1 (fun v0 ev0 => ?_)
      refine g_C ?_
      refine g_ifF (by omega) ?_
      refine g_getr 0 2 rfl hS.k1 hm.f_1_0 (by decide) ?_
      refine g_getu 1 rfl hS.k1 (fun v ev => ?_)
      refine g_Oe (fun x ex => ?_)
      refine g_i2be (fun y ey => ?_)
      have yr : -128 ≤ y ∧ y ≤ 127 := by rw [ey]; exact i2b_r _
      refine g_stbR hS.k2 hS.l2 (by omega) (by omega) yr (fun m1 e1' => ?_)
      have f1 : ∀ c p : Int, ¬ (c = 2 ∧ p = v) → m1 c p = m c p := fun c p q => (congrFun (congrFun e1' _) _).trans (up_ne q)
      have x1 : m1 2 v = y := (congrFun (congrFun e1' _) _).trans (up_at _ _ _ _)
      have j1 : Jc S m1 := by rw [e1']; exact jm.byte (by decide) yr.1 yr.2
      refine g_getu 1 rfl hS.k1 (fun v2 ev2 => ?_)
      rw [f1 1 1 (by omega)] at ev2
      refine g_C ?_
      refine g_A (by omega) (by omega) ?_
      refine g_putR 1 rfl hS.k1 (fun m2 e2 => ?_)
      have f2 : ∀ c p : Int, ¬ (c = 1 ∧ p = 1) → m2 c p = m1 c p := fun c p q => (congrFun (congrFun e2 _) _).trans (up_ne q)
      have x2 : m2 1 1 = v2 + 1 := (congrFun (congrFun e2 _) _).trans (up_at _ _ _ _)
      have j2 : Jc S m2 := by rw [e2]; exact j1.len11 (by omega) (by omega)
      refine u_X7_add_40 ?_
      refine g_A (by omega) (by omega) ?_
      refine ih (j + 1) _ m2 j2 (by omega) (by omega) (by omega) (by omega) (fun c p q1 q2 => ?_) (fun i i0 i1 => ?_) (by omega)
      · rw [f2 c p q1, f1 c p (by omega)]
        exact F c p q1 q2
      · by_cases ei : i = j
        · rw [f2 _ _ (by omega), show l + i = v by omega, x1, ey, ex, es, ei]
        · rw [f2 _ _ (by omega), f1 _ _ (by omega)]
          exact B i i0 (by omega)
  exact ⟨5, L 5 0 24 m0 hj (by decide) (by decide) (by decide) (by omega) (fun _ _ _ _ => rfl) (fun i i0 i1 => absurd i1 (by omega)) (by decide)⟩
end
section
theorem zk_feed12 {S : Sh} {m0 : Mm} {K : Int → Mm → Prop} {u1 u2 u3 u4 u5 l : Int} (hS : Shp S) (hj : Jc S m0) (hl : m0 336 1 = l) (h0 : ¬ l + 20 ≤ 400 → K (-1) m0) (hk : ∀ M1 : Mm, Jc S M1 → 0 ≤ l → l + 20 ≤ 400 → (∀ c p : Int, ¬ (c = 336 ∧ p = 1) → ¬ (c = 337 ∧ l ≤ p ∧ p < l + 20) → M1 c p = m0 c p) → M1 336 1 = l + 20 → ((∀ j : Int, 0 ≤ j → j < 4 → M1 337 (l + j) = i2b (iShr u1 (24 - 8 * j))) ∧ (∀ j : Int, 0 ≤ j → j < 4 → M1 337 (l + 4 + j) = i2b (iShr u2 (24 - 8 * j))) ∧ (∀ j : Int, 0 ≤ j → j < 4 → M1 337 (l + 8 + j) = i2b (iShr u3 (24 - 8 * j))) ∧ (∀ j : Int, 0 ≤ j → j < 4 → M1 337 (l + 12 + j) = i2b (iShr u4 (24 - 8 * j))) ∧ (∀ j : Int, 0 ≤ j → j < 4 → M1 337 (l + 16 + j) = i2b (iShr u5 (24 - 8 * j)))) → K (l + 20) M1) : wp_X12_feed S m0 336 u1 u2 u3 u4 u5 K := by
  have hm0 := hj.inv
  have b1 := hm0.f_336_1
  refine u_X12_feed ?_
  refine g_getu 1 rfl hS.k336 (fun v ev => ?_)
  refine g_C ?_
  refine g_A (by omega) (by omega) ?_
  refine g_C ?_
  refine g_if (fun w => ?_) (fun w => g_C (h0 (by omega)))
  refine ⟨hS.k336, ?_⟩
  refine zk_four (l := l) hS hj hl (by omega) (by omega) (fun m1 j1 f1 e1' w1 => ?_)
  have e1 : m1 336 1 = l + 4 := by omega
  refine ⟨hS.k336, ?_⟩
  refine zk_four (l := l + 4) hS j1 e1 (by omega) (by omega) (fun m2 j2 f2 e2' w2 => ?_)
  have e2 : m2 336 1 = l + 8 := by omega
  refine ⟨hS.k336, ?_⟩
  refine zk_four (l := l + 8) hS j2 e2 (by omega) (by omega) (fun m3 j3 f3 e3' w3 => ?_)
  have e3 : m3 336 1 = l + 12 := by omega
  refine ⟨hS.k336, ?_⟩
  refine zk_four (l := l + 12) hS j3 e3 (by omega) (by omega) (fun m4 j4 f4 e4' w4 => ?_)
  have e4 : m4 336 1 = l + 16 := by omega
  refine ⟨hS.k336, ?_⟩
  refine zk_four (l := l + 16) hS j4 e4 (by omega) (by omega) (fun m5 j5 f5 e5' w5 => ?_)
  have e5 : m5 336 1 = l + 20 := by omega
  refine g_getu 1 rfl hS.k336 (fun r er => ?_)
  rw [show r = l + 20 by omega]
  refine hk m5 j5 (by omega) (by omega) (fun c p q1 q2 => ?_) (by omega) ⟨fun j j0 j1 => ?_, fun j j0 j1 => ?_, fun j j0 j1 => ?_, fun j j0 j1 => ?_, fun j j0 j1 => ?_⟩
  · rw [f5 c p q1 (by omega), f4 c p q1 (by omega), f3 c p q1 (by omega), f2 c p q1 (by omega), f1 c p q1 (by omega)]
  · rw [f5 _ _ (by omega) (by omega), f4 _ _ (by omega) (by omega), f3 _ _ (by omega) (by omega), f2 _ _ (by omega) (by omega)]; exact w1 j j0 j1
  · rw [f5 _ _ (by omega) (by omega), f4 _ _ (by omega) (by omega), f3 _ _ (by omega) (by omega)]; exact w2 j j0 j1
  · rw [f5 _ _ (by omega) (by omega), f4 _ _ (by omega) (by omega)]; exact w3 j j0 j1
  · rw [f5 _ _ (by omega) (by omega)]; exact w4 j j0 j1
  · exact w5 j j0 j1
theorem zk_feed11 {S : Sh} {m0 : Mm} {K : Int → Mm → Prop} {u1 u2 u3 u4 u5 l : Int} (hS : Shp S) (hj : Jc S m0) (hl : m0 1 1 = l) (h0 : ¬ l + 20 ≤ 400 → K (-1) m0) (hk : ∀ M1 : Mm, Jc S M1 → 0 ≤ l → l + 20 ≤ 400 → (∀ c p : Int, ¬ (c = 1 ∧ p = 1) → ¬ (c = 2 ∧ l ≤ p ∧ p < l + 20) → M1 c p = m0 c p) → M1 1 1 = l + 20 → ((∀ j : Int, 0 ≤ j → j < 4 → M1 2 (l + j) = i2b (iShr u1 (24 - 8 * j))) ∧ (∀ j : Int, 0 ≤ j → j < 4 → M1 2 (l + 4 + j) = i2b (iShr u2 (24 - 8 * j))) ∧ (∀ j : Int, 0 ≤ j → j < 4 → M1 2 (l + 8 + j) = i2b (iShr u3 (24 - 8 * j))) ∧ (∀ j : Int, 0 ≤ j → j < 4 → M1 2 (l + 12 + j) = i2b (iShr u4 (24 - 8 * j))) ∧ (∀ j : Int, 0 ≤ j → j < 4 → M1 2 (l + 16 + j) = i2b (iShr u5 (24 - 8 * j)))) → K (l + 20) M1) : wp_X11_feed S m0 0 u1 u2 u3 u4 u5 K := by
  have hm0 := hj.inv
  have b1 := hm0.f_1_1
  refine u_X11_feed ?_
  refine g_getr 0 1 rfl hS.k0 hm0.f_0_0 (by decide) ?_
  refine g_C ?_
  refine ⟨hS.k1, ?_⟩
  refine u_X7_hasRoomFor ?_
  refine g_getu 1 rfl hS.k1 (fun v ev => ?_)
  refine g_A (by omega) (by omega) ?_
  refine g_C ?_
  refine g_if (fun w => g_C ⟨by decide, g_ifF (by decide) (g_C (h0 (by omega)))⟩) (fun w => g_C ⟨by decide, g_ifT (by decide) ?_⟩)
  refine g_getr 0 1 rfl hS.k0 hj.inv.f_0_0 (by decide) ?_
  refine ⟨hS.k1, ?_⟩
  refine zk_add (l := l) hS hj hl (by omega) (by omega) (fun m1 j1 f1 e1' w1 => ?_)
  have e1 : m1 1 1 = l + 4 := by omega
  refine g_getr 0 1 rfl hS.k0 j1.inv.f_0_0 (by decide) ?_
  refine ⟨hS.k1, ?_⟩
  refine zk_add (l := l + 4) hS j1 e1 (by omega) (by omega) (fun m2 j2 f2 e2' w2 => ?_)
  have e2 : m2 1 1 = l + 8 := by omega
  refine g_getr 0 1 rfl hS.k0 j2.inv.f_0_0 (by decide) ?_
  refine ⟨hS.k1, ?_⟩
  refine zk_add (l := l + 8) hS j2 e2 (by omega) (by omega) (fun m3 j3 f3 e3' w3 => ?_)
  have e3 : m3 1 1 = l + 12 := by omega
  refine g_getr 0 1 rfl hS.k0 j3.inv.f_0_0 (by decide) ?_
  refine ⟨hS.k1, ?_⟩
  refine zk_add (l := l + 12) hS j3 e3 (by omega) (by omega) (fun m4 j4 f4 e4' w4 => ?_)
  have e4 : m4 1 1 = l + 16 := by omega
  refine g_getr 0 1 rfl hS.k0 j4.inv.f_0_0 (by decide) ?_
  refine ⟨hS.k1, ?_⟩
  refine zk_add (l := l + 16) hS j4 e4 (by omega) (by omega) (fun m5 j5 f5 e5' w5 => ?_)
  have e5 : m5 1 1 = l + 20 := by omega
  refine g_getr 0 1 rfl hS.k0 j5.inv.f_0_0 (by decide) ?_
  refine g_getu 1 rfl hS.k1 (fun r er => ?_)
  rw [show r = l + 20 by omega]
  refine hk m5 j5 (by omega) (by omega) (fun c p q1 q2 => ?_) (by omega) ⟨fun j j0 j1 => ?_, fun j j0 j1 => ?_, fun j j0 j1 => ?_, fun j j0 j1 => ?_, fun j j0 j1 => ?_⟩
  · rw [f5 c p q1 (by omega), f4 c p q1 (by omega), f3 c p q1 (by omega), f2 c p q1 (by omega), f1 c p q1 (by omega)]
  · rw [f5 _ _ (by omega) (by omega), f4 _ _ (by omega) (by omega), f3 _ _ (by omega) (by omega), f2 _ _ (by omega) (by omega)]; exact w1 j j0 j1
  · rw [f5 _ _ (by omega) (by omega), f4 _ _ (by omega) (by omega), f3 _ _ (by omega) (by omega)]; exact w2 j j0 j1
  · rw [f5 _ _ (by omega) (by omega), f4 _ _ (by omega) (by omega)]; exact w3 j j0 j1
  · rw [f5 _ _ (by omega) (by omega)]; exact w4 j j0 j1
  · exact w5 j j0 j1
end
section
theorem JX.tape {S S1 : Sh} {m0 m2 : Mm} (h : JX S m0) (j : Jc S1 m2) (F : ∀ c p : Int, spP c p → ¬ (c = 1 ∧ p = 1) → ¬ (c = 336 ∧ (p = 1 ∨ p = 2)) → ¬ (c = 0 ∧ p = 7) → m2 c p = m0 c p) (e1 : m2 1 1 = m2 336 1) (e2 : m2 0 7 = m2 336 2) : JX S1 m2 := by
  obtain ⟨jc, xr, ⟨⟨a1, a2, a3⟩, a4, a5⟩⟩ := h
  refine ⟨j, ?_, ?_⟩
  · unfold Xr at xr ⊢
    rw [F 3 3 (by decide) (by omega) (by omega) (by omega), F 336 22 (by decide) (by omega) (by omega) (by omega), F 76 3 (by decide) (by omega) (by omega) (by omega), F 356 0 (by decide) (by omega) (by omega) (by omega), F 76 9 (by decide) (by omega) (by omega) (by omega), F 357 0 (by decide) (by omega) (by omega) (by omega), F 101 3 (by decide) (by omega) (by omega) (by omega), F 356 1 (by decide) (by omega) (by omega) (by omega), F 101 9 (by decide) (by omega) (by omega) (by omega), F 357 1 (by decide) (by omega) (by omega) (by omega), F 126 3 (by decide) (by omega) (by omega) (by omega), F 356 2 (by decide) (by omega) (by omega) (by omega), F 126 9 (by decide) (by omega) (by omega) (by omega), F 357 2 (by decide) (by omega) (by omega) (by omega), F 151 3 (by decide) (by omega) (by omega) (by omega), F 356 3 (by decide) (by omega) (by omega) (by omega), F 151 9 (by decide) (by omega) (by omega) (by omega), F 357 3 (by decide) (by omega) (by omega) (by omega)]
    exact xr
  · unfold Ya
    rw [F 3 2 (by decide) (by omega) (by omega) (by omega), F 336 21 (by decide) (by omega) (by omega) (by omega), F 76 2 (by decide) (by omega) (by omega) (by omega), F 355 0 (by decide) (by omega) (by omega) (by omega), F 357 0 (by decide) (by omega) (by omega) (by omega), F 101 2 (by decide) (by omega) (by omega) (by omega), F 355 1 (by decide) (by omega) (by omega) (by omega), F 357 1 (by decide) (by omega) (by omega) (by omega), F 126 2 (by decide) (by omega) (by omega) (by omega), F 355 2 (by decide) (by omega) (by omega) (by omega), F 357 2 (by decide) (by omega) (by omega) (by omega), F 151 2 (by decide) (by omega) (by omega) (by omega), F 355 3 (by decide) (by omega) (by omega) (by omega), F 357 3 (by decide) (by omega) (by omega) (by omega)]
    refine ⟨⟨e1, fun p p0 p1 => ?_, e2⟩, a4, a5⟩
    rw [F 2 p (by omega) (by omega) (by omega) (by omega), F 337 p (by omega) (by omega) (by omega) (by omega)]
    exact a2 p p0 p1
end
section
theorem JX.forced {S : Sh} {m0 m2 : Mm} (h : JX S m0) (j : Jc S m2) (F : ∀ c p : Int, spP c p → ¬ (c = 3 ∧ p = 2) → ¬ (c = 336 ∧ p = 21) → m2 c p = m0 c p) (e1 : m2 3 2 = m2 336 21) : JX S m2 := by
  obtain ⟨jc, xr, ⟨⟨a1, a2, a3⟩, a4, a5⟩⟩ := h
  refine ⟨j, ?_, ?_⟩
  · unfold Xr at xr ⊢
    rw [F 3 3 (by decide) (by omega) (by omega), F 336 22 (by decide) (by omega) (by omega), F 76 3 (by decide) (by omega) (by omega), F 356 0 (by decide) (by omega) (by omega), F 76 9 (by decide) (by omega) (by omega), F 357 0 (by decide) (by omega) (by omega), F 101 3 (by decide) (by omega) (by omega), F 356 1 (by decide) (by omega) (by omega), F 101 9 (by decide) (by omega) (by omega), F 357 1 (by decide) (by omega) (by omega), F 126 3 (by decide) (by omega) (by omega), F 356 2 (by decide) (by omega) (by omega), F 126 9 (by decide) (by omega) (by omega), F 357 2 (by decide) (by omega) (by omega), F 151 3 (by decide) (by omega) (by omega), F 356 3 (by decide) (by omega) (by omega), F 151 9 (by decide) (by omega) (by omega), F 357 3 (by decide) (by omega) (by omega)]
    exact xr
  · unfold Ya
    rw [F 1 1 (by decide) (by omega) (by omega), F 336 1 (by decide) (by omega) (by omega), F 0 7 (by decide) (by omega) (by omega), F 336 2 (by decide) (by omega) (by omega), F 76 2 (by decide) (by omega) (by omega), F 355 0 (by decide) (by omega) (by omega), F 357 0 (by decide) (by omega) (by omega), F 101 2 (by decide) (by omega) (by omega), F 355 1 (by decide) (by omega) (by omega), F 357 1 (by decide) (by omega) (by omega), F 126 2 (by decide) (by omega) (by omega), F 355 2 (by decide) (by omega) (by omega), F 357 2 (by decide) (by omega) (by omega), F 151 2 (by decide) (by omega) (by omega), F 355 3 (by decide) (by omega) (by omega), F 357 3 (by decide) (by omega) (by omega)]
    refine ⟨⟨a1, fun p p0 p1 => ?_, a3⟩, e1, a5⟩
    rw [F 2 p (by omega) (by omega) (by omega), F 337 p (by omega) (by omega) (by omega)]
    exact a2 p p0 p1
end
section
theorem Ya.on {M M1 : Mm} (h : Ya M) (hs : ∀ c p : Int, ¬ c = 346 → ¬ (c = 336 ∧ p = 25) → M1 c p = M c p) : Ya M1 := by
  obtain ⟨⟨a1, a2, a3⟩, a4, a5⟩ := h
  unfold Ya
  rw [hs 1 1 (by first | decide | exact fun z => absurd z.1 (by decide) | exact ⟨fun z => absurd z.1 (by decide), fun z => absurd z.1 (by decide)⟩ | omega) (by first | decide | exact fun z => absurd z.1 (by decide) | exact ⟨fun z => absurd z.1 (by decide), fun z => absurd z.1 (by decide)⟩ | omega), hs 336 1 (by first | decide | exact fun z => absurd z.1 (by decide) | exact ⟨fun z => absurd z.1 (by decide), fun z => absurd z.1 (by decide)⟩ | omega) (by first | decide | exact fun z => absurd z.1 (by decide) | exact ⟨fun z => absurd z.1 (by decide), fun z => absurd z.1 (by decide)⟩ | omega), hs 0 7 (by first | decide | exact fun z => absurd z.1 (by decide) | exact ⟨fun z => absurd z.1 (by decide), fun z => absurd z.1 (by decide)⟩ | omega) (by first | decide | exact fun z => absurd z.1 (by decide) | exact ⟨fun z => absurd z.1 (by decide), fun z => absurd z.1 (by decide)⟩ | omega), hs 336 2 (by first | decide | exact fun z => absurd z.1 (by decide) | exact ⟨fun z => absurd z.1 (by decide), fun z => absurd z.1 (by decide)⟩ | omega) (by first | decide | exact fun z => absurd z.1 (by decide) | exact ⟨fun z => absurd z.1 (by decide), fun z => absurd z.1 (by decide)⟩ | omega), hs 3 2 (by first | decide | exact fun z => absurd z.1 (by decide) | exact ⟨fun z => absurd z.1 (by decide), fun z => absurd z.1 (by decide)⟩ | omega) (by first | decide | exact fun z => absurd z.1 (by decide) | exact ⟨fun z => absurd z.1 (by decide), fun z => absurd z.1 (by decide)⟩ | omega), hs 336 21 (by first | decide | exact fun z => absurd z.1 (by decide) | exact ⟨fun z => absurd z.1 (by decide), fun z => absurd z.1 (by decide)⟩ | omega) (by first | decide | exact fun z => absurd z.1 (by decide) | exact ⟨fun z => absurd z.1 (by decide), fun z => absurd z.1 (by decide)⟩ | omega), hs 76 2 (by first | decide | exact fun z => absurd z.1 (by decide) | exact ⟨fun z => absurd z.1 (by decide), fun z => absurd z.1 (by decide)⟩ | omega) (by first | decide | exact fun z => absurd z.1 (by decide) | exact ⟨fun z => absurd z.1 (by decide), fun z => absurd z.1 (by decide)⟩ | omega), hs 355 0 (by first | decide | exact fun z => absurd z.1 (by decide) | exact ⟨fun z => absurd z.1 (by decide), fun z => absurd z.1 (by decide)⟩ | omega) (by first | decide | exact fun z => absurd z.1 (by decide) | exact ⟨fun z => absurd z.1 (by decide), fun z => absurd z.1 (by decide)⟩ | omega), hs 357 0 (by first | decide | exact fun z => absurd z.1 (by decide) | exact ⟨fun z => absurd z.1 (by decide), fun z => absurd z.1 (by decide)⟩ | omega) (by first | decide | exact fun z => absurd z.1 (by decide) | exact ⟨fun z => absurd z.1 (by decide), fun z => absurd z.1 (by decide)⟩ | omega), hs 101 2 (by first | decide | exact fun z => absurd z.1 (by decide) | exact ⟨fun z => absurd z.1 (by decide), fun z => absurd z.1 (by decide)⟩ | omega) (by first | decide | exact fun z => absurd z.1 (by decide) | exact ⟨fun z => absurd z.1 (by decide), fun z => absurd z.1 (by decide)⟩ | omega), hs 355 1 (by first | decide | exact fun z => absurd z.1 (by decide) | exact ⟨fun z => absurd z.1 (by decide), fun z => absurd z.1 (by decide)⟩ | omega) (by first | decide | exact fun z => absurd z.1 (by decide) | exact ⟨fun z => absurd z.1 (by decide), fun z => absurd z.1 (by decide)⟩ | omega), hs 357 1 (by first | decide | exact fun z => absurd z.1 (by decide) | exact ⟨fun z => absurd z.1 (by decide), fun z => absurd z.1 (by decide)⟩ | omega) (by first | decide | exact fun z => absurd z.1 (by decide) | exact ⟨fun z => absurd z.1 (by decide), fun z => absurd z.1 (by decide)⟩ | omega), hs 126 2 (by first | decide | exact fun z => absurd z.1 (by decide) | exact ⟨fun z => absurd z.1 (by decide), fun z => absurd z.1 (by decide)⟩ | omega) (by first | decide | exact fun z => absurd z.1 (by decide) | exact ⟨fun z => absurd z.1 (by decide), fun z => absurd z.1 (by decide)⟩ | omega), hs 355 2 (by first | decide | exact fun z => absurd z.1 (by decide) | exact ⟨fun z => absurd z.1 (by decide), fun z => absurd z.1 (by decide)⟩ | omega) (by first | decide | exact fun z => absurd z.1 (by decide) | exact ⟨fun z => absurd z.1 (by decide), fun z => absurd z.1 (by decide)⟩ | omega), hs 357 2 (by first | decide | exact fun z => absurd z.1 (by decide) | exact ⟨fun z => absurd z.1 (by decide), fun z => absurd z.1 (by decide)⟩ | omega) (by first | decide | exact fun z => absurd z.1 (by decide) | exact ⟨fun z => absurd z.1 (by decide), fun z => absurd z.1 (by decide)⟩ | omega), hs 151 2 (by first | decide | exact fun z => absurd z.1 (by decide) | exact ⟨fun z => absurd z.1 (by decide), fun z => absurd z.1 (by decide)⟩ | omega) (by first | decide | exact fun z => absurd z.1 (by decide) | exact ⟨fun z => absurd z.1 (by decide), fun z => absurd z.1 (by decide)⟩ | omega), hs 355 3 (by first | decide | exact fun z => absurd z.1 (by decide) | exact ⟨fun z => absurd z.1 (by decide), fun z => absurd z.1 (by decide)⟩ | omega) (by first | decide | exact fun z => absurd z.1 (by decide) | exact ⟨fun z => absurd z.1 (by decide), fun z => absurd z.1 (by decide)⟩ | omega), hs 357 3 (by first | decide | exact fun z => absurd z.1 (by decide) | exact ⟨fun z => absurd z.1 (by decide), fun z => absurd z.1 (by decide)⟩ | omega) (by first | decide | exact fun z => absurd z.1 (by decide) | exact ⟨fun z => absurd z.1 (by decide), fun z => absurd z.1 (by decide)⟩ | omega)]
  exact ⟨⟨a1, fun p p0 p1 => by rw [hs 2 p (by first | decide | exact fun z => absurd z.1 (by decide) | exact ⟨fun z => absurd z.1 (by decide), fun z => absurd z.1 (by decide)⟩ | omega) (by first | decide | exact fun z => absurd z.1 (by decide) | exact ⟨fun z => absurd z.1 (by decide), fun z => absurd z.1 (by decide)⟩ | omega), hs 337 p (by first | decide | exact fun z => absurd z.1 (by decide) | exact ⟨fun z => absurd z.1 (by decide), fun z => absurd z.1 (by decide)⟩ | omega) (by first | decide | exact fun z => absurd z.1 (by decide) | exact ⟨fun z => absurd z.1 (by decide), fun z => absurd z.1 (by decide)⟩ | omega)]; exact a2 p p0 p1, a3⟩, a4, a5⟩
theorem g_putzR {S : Sh} {M : Mm} {x : Int} {ci k : Nat} {v : Int} {K : Mm → Prop} (j : Int) (hj : (k : Int) = j) (hk : isK S x ci) (hz : v = 0 ∨ v = 1) (h : ∀ M', M' = up M x j v → K M') : wPutZ S M x ci k v K := by
  subst hj
  exact ⟨hk, hz, h _ rfl⟩
theorem g_stzR {S : Sh} {M : Mm} {x : Int} {ci n : Nat} {i v : Int} {K : Mm → Prop} (hk : isK S x ci) (hn : S.2.2 x = n) (h0 : 0 ≤ i) (h1 : i < n) (hz : v = 0 ∨ v = 1) (h : ∀ M', M' = up M x i v → K M') : wStZ S M x ci i v K := ⟨hk, ⟨h0, by rw [hn]; exact h1⟩, hz, h _ rfl⟩
theorem Jc.chg {S : Sh} {M M1 : Mm} (h : Jc S M) (hb : ∀ c p : Nat, c < 358 → p < pT.getD c 0 → M1 c p = M c p ∨ okb (bd c p) (M1 c p)) (h30 : ∀ i : Int, M1 30 i = M 30 i) (h55 : M1 55 1 = M 55 1) (hg : Good M1) (hp : PL3 M1) : Jc S M1 := by
  refine ⟨fun c p hc hp => ?_, fun i i0 i1 => by rw [h30]; exact h.2.1 i i0 i1, by rw [h55]; exact h.2.2.1, hg, hp⟩
  rcases hb c p hc hp with q | q
  · rw [q]; exact h.1 c p hc hp
  · exact q
theorem PL3.same {M M1 : Mm} (h : PL3 M) (h6 : ∀ p : Int, M1 346 p = M 346 p) (h7 : ∀ p : Int, M1 347 p = M 347 p) (h4 : ∀ p : Int, M1 354 p = M 354 p) (h5 : M1 336 25 = M 336 25) : PL3 M1 := by
  unfold PL3 at h ⊢
  have e6 : M1 346 = M 346 := funext h6
  have e7 : M1 347 = M 347 := funext h7
  have e4 : M1 354 = M 354 := funext h4
  rw [e6, e7, e4, h5]
  exact h
theorem Good.eq {X Y : Mm} (h : Good X) (h1 : ∀ p : Int, (p = 21 ∨ p = 2) → Y 336 p = X 336 p) (h3 : ∀ c p : Int, (c = 355 ∨ c = 357 ∨ c = 341 ∨ c = 340 ∨ c = 338) → Y c p = X c p) : Good Y := h.same (h1 21 (by decide)) (h1 2 (by decide)) (fun c k q => h3 c k (by omega)) (fun p _ => h3 341 p (by decide)) (fun p _ => h3 340 p (by decide)) (fun p _ => h3 338 p (by decide))
theorem Jc.bnd {S : Sh} {M : Mm} (h : Jc S M) (c p : Nat) (l u : Int) (hc : c < 358) (hp : p < pT.getD c 0) (hb : bd c p = (l, u)) (hlu : l ≤ u) : l ≤ M c p ∧ M c p ≤ u := h.inv.rd c p l u hc hp hb hlu
/-- one write to one place -/
theorem Jc.up1 {S : Sh} {M M1 : Mm} (h : Jc S M) (c0 p0 : Nat) {v : Int} (e : M1 = up M c0 p0 v) (hb : okb (bd c0 p0) v) (h30 : ¬ c0 = 30 ∧ ¬ (c0 = 55 ∧ p0 = 1)) (hg : Good M1) (hp : ¬ (c0 = 346 ∨ c0 = 347 ∨ c0 = 354 ∨ (c0 = 336 ∧ p0 = 25))) : Jc S M1 := by
  have f : ∀ c p : Int, ¬ (c = c0 ∧ p = p0) → M1 c p = M c p := fun c p q => (congrFun (congrFun e _) _).trans (up_ne q)
  refine h.chg (fun c p hc hp' => ?_) (fun i => f 30 i (by first | decide | exact fun z => absurd z.1 (by decide) | exact ⟨fun z => absurd z.1 (by decide), fun z => absurd z.1 (by decide)⟩ | omega)) (f 55 1 (by first | decide | exact fun z => absurd z.1 (by decide) | exact ⟨fun z => absurd z.1 (by decide), fun z => absurd z.1 (by decide)⟩ | omega)) hg (h.2.2.2.2.same (fun p => f 346 p (by first | decide | exact fun z => absurd z.1 (by decide) | exact ⟨fun z => absurd z.1 (by decide), fun z => absurd z.1 (by decide)⟩ | omega)) (fun p => f 347 p (by first | decide | exact fun z => absurd z.1 (by decide) | exact ⟨fun z => absurd z.1 (by decide), fun z => absurd z.1 (by decide)⟩ | omega)) (fun p => f 354 p (by first | decide | exact fun z => absurd z.1 (by decide) | exact ⟨fun z => absurd z.1 (by decide), fun z => absurd z.1 (by decide)⟩ | omega)) (f 336 25 (by first | decide | exact fun z => absurd z.1 (by decide) | exact ⟨fun z => absurd z.1 (by decide), fun z => absurd z.1 (by decide)⟩ | omega)))
  by_cases z : (c : Int) = c0 ∧ (p : Int) = p0
  · have z1 : c = c0 := by omega
    have z2 : p = p0 := by omega
    subst z1 z2
    refine Or.inr ?_
    rw [e, up_at]
    exact hb
  · exact Or.inl (f c p z)
theorem zj_seed12 {S : Sh} {m0 : Mm} {K : Int → Mm → Prop} {u1 : Int} (hS : Shp S) (h1 : 0 ≤ u1 → K (m0 336 22) (up m0 336 22 u1)) (h2 : u1 < 0 → K (-1) m0) : wp_X12_seed S m0 336 u1 K := by
  refine u_X12_seed ?_
  refine g_if (fun w => ?_) (fun w => g_C (h2 (by omega)))
  refine g_getu 22 rfl hS.k336 (fun v ev => ?_)
  refine g_putR 22 rfl hS.k336 (fun m1 e1 => ?_)
  rw [ev, e1]
  exact h1 w
theorem zj_seed11 {S : Sh} {m0 : Mm} {K : Int → Mm → Prop} {u1 : Int} (hS : Shp S) (hj : Jc S m0) (h1 : 0 ≤ u1 → K (m0 3 3) (up m0 3 3 u1)) (h2 : u1 < 0 → K (-1) m0) : wp_X11_seed S m0 0 u1 K := by
  have hm0 := hj.inv
  refine u_X11_seed ?_
  refine g_if (fun w => ?_) (fun w => g_C (h2 (by omega)))
  refine g_getr 1 3 rfl hS.k0 hm0.f_0_1 (by decide) ?_
  refine g_getu 3 rfl hS.k3 (fun v ev => ?_)
  refine g_getr 1 3 rfl hS.k0 hm0.f_0_1 (by decide) ?_
  refine g_putR 3 rfl hS.k3 (fun m1 e1 => ?_)
  rw [ev, e1]
  exact h1 w
theorem bq_347 : ∀ r : Nat, r < 20 → ∀ p : Nat, p < 57 → bd 347 (57 * r + p) = bd 346 p := by decide +kernel
theorem bq_354 : ∀ r : Nat, r < 4 → ∀ p : Nat, p < 158 → bd 354 (158 * r + p) = bd 346 p := by decide +kernel
theorem pT_said : pT.getD 346 0 = 158 ∧ pT.getD 347 0 = 1140 ∧ pT.getD 354 0 = 632 ∧ pT.getD 342 0 = 117 := by decide +kernel
theorem bd_said : bd 346 0 = (0, 6) ∧ bd 346 4 = (0, 5) ∧ bd 346 5 = (0, 4) := by decide +kernel
end
