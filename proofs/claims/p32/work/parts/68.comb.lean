theorem g_C {c : Int} {K : Int → Prop} (h : K c) : wC c K := h
theorem g_A {a b : Int} {K : Int → Prop} (h1 : -2147483648 ≤ a + b) (h2 : a + b ≤ 2147483647) (h : K (a + b)) : wA a b K := by
  unfold wA
  rw [w32_id h1 h2]
  exact h
theorem g_S {a b : Int} {K : Int → Prop} (h1 : -2147483648 ≤ a - b) (h2 : a - b ≤ 2147483647) (h : K (a - b)) : wS a b K := by
  unfold wS
  rw [w32_id h1 h2]
  exact h
theorem g_M {a b : Int} {K : Int → Prop} (h1 : -2147483648 ≤ a * b) (h2 : a * b ≤ 2147483647) (h : K (a * b)) : wM a b K := by
  unfold wM
  rw [w32_id h1 h2]
  exact h
theorem g_Al {a b : Int} {K : Int → Prop} (c : Int) (e : a + b = c) (h1 : -2147483648 ≤ c) (h2 : c ≤ 2147483647) (h : K c) : wA a b K := by
  subst e
  exact g_A h1 h2 h
theorem g_Aw {a b : Int} {K : Int → Prop} (h : ∀ v : Int, -2147483648 ≤ v → v ≤ 2147483647 → K v) : wA a b K := h _ (w32_r _).1 (w32_r _).2
theorem g_LA {a b : Int} {K : Int → Prop} (h1 : -9223372036854775808 ≤ a + b) (h2 : a + b ≤ 9223372036854775807) (h : K (a + b)) : wLA a b K := by
  unfold wLA
  rw [w64_id h1 h2]
  exact h
theorem g_LM {a b : Int} {K : Int → Prop} (h1 : -9223372036854775808 ≤ a * b) (h2 : a * b ≤ 9223372036854775807) (h : K (a * b)) : wLM a b K := by
  unfold wLM
  rw [w64_id h1 h2]
  exact h
theorem g_LAw {a b : Int} {K : Int → Prop} (h : ∀ v : Int, -9223372036854775808 ≤ v → v ≤ 9223372036854775807 → K v) : wLA a b K := h _ (w64_r _).1 (w64_r _).2
theorem g_LSw {a b : Int} {K : Int → Prop} (h : ∀ v : Int, -9223372036854775808 ≤ v → v ≤ 9223372036854775807 → K v) : wLS a b K := h _ (w64_r _).1 (w64_r _).2
theorem g_LMw {a b : Int} {K : Int → Prop} (h : ∀ v : Int, -9223372036854775808 ≤ v → v ≤ 9223372036854775807 → K v) : wLM a b K := h _ (w64_r _).1 (w64_r _).2
theorem g_min {a b : Int} {K : Int → Prop} (h : ∀ v : Int, v ≤ a → v ≤ b → (v = a ∨ v = b) → K v) : wO min a b K := h _ (Int.min_le_left _ _) (Int.min_le_right _ _) (by omega)
theorem g_max {a b : Int} {K : Int → Prop} (h : ∀ v : Int, a ≤ v → b ≤ v → (v = a ∨ v = b) → K v) : wO max a b K := h _ (Int.le_max_left _ _) (Int.le_max_right _ _) (by omega)
theorem g_o32 {f : Int32 → Int32 → Int32} {a b : Int} {K : Int → Prop} (h : ∀ v : Int, -2147483648 ≤ v → v ≤ 2147483647 → K v) : wO (o32 f) a b K := h _ (k32_r _).1 (k32_r _).2
theorem g_o32u {a b : Int} {K : Int → Prop} (h : ∀ v : Int, -2147483648 ≤ v → v ≤ 2147483647 → K v) : wO iUshr a b K := h _ (k32_r _).1 (k32_r _).2
theorem g_o64 {f : Int64 → Int64 → Int64} {a b : Int} {K : Int → Prop} (h : ∀ v : Int, -9223372036854775808 ≤ v → v ≤ 9223372036854775807 → K v) : wO (o64 f) a b K := h _ (k64_r _).1 (k64_r _).2
theorem g_D64 {f : Int64 → Int64 → Int64} {a b : Int} {K : Int → Prop} (hb : b ≠ 0) (h : ∀ v : Int, -9223372036854775808 ≤ v → v ≤ 9223372036854775807 → K v) : wD (o64 f) a b K := ⟨hb, h _ (k64_r _).1 (k64_r _).2⟩
theorem g_w32 {a : Int} {K : Int → Prop} (h1 : -2147483648 ≤ a) (h2 : a ≤ 2147483647) (h : K a) : wO1 w32 a K := by
  unfold wO1
  rw [w32_id h1 h2]
  exact h
theorem g_if {c A B : Prop} (h1 : c → A) (h2 : ¬ c → B) : wIf c A B := ⟨h1, h2⟩
theorem g_ifT {c A B : Prop} (hc : c) (h : A) : wIf c A B := ⟨fun _ => h, fun q => absurd hc q⟩
theorem g_ifF {c A B : Prop} (hc : ¬ c) (h : B) : wIf c A B := ⟨fun q => absurd q hc, fun _ => h⟩
theorem g_cmp {a b : Int} {K : Int → Prop} (h1 : a < b → K (-1)) (h2 : a = b → K 0) (h3 : b < a → K 1) : wCmp a b K := by
  unfold wCmp
  by_cases q1 : a < b
  · rw [if_pos q1]; exact h1 q1
  · rw [if_neg q1]
    by_cases q2 : a = b
    · rw [if_pos q2]; exact h2 q2
    · rw [if_neg q2]; exact h3 (by omega)
theorem g_get {S : Sh} {M : Mm} {x : Int} {ci k : Nat} {K : Int → Prop} (j l u : Int) (hj : (k : Int) = j) (hk : isK S x ci) (hb : l ≤ M x j ∧ M x j ≤ u) (h : ∀ v : Int, v = M x j → l ≤ v → v ≤ u → K v) : wGet S M x ci k K := by
  subst hj
  exact ⟨hk, h _ rfl hb.1 hb.2⟩
theorem g_getu {S : Sh} {M : Mm} {x : Int} {ci k : Nat} {K : Int → Prop} (j : Int) (hj : (k : Int) = j) (hk : isK S x ci) (h : ∀ v : Int, v = M x j → K v) : wGet S M x ci k K := by
  subst hj
  exact ⟨hk, h _ rfl⟩
theorem g_getr {S : Sh} {M : Mm} {x : Int} {ci k : Nat} {K : Int → Prop} (j c : Int) (hj : (k : Int) = j) (hk : isK S x ci) (he : M x j = c) (hn : c ≠ -1) (h : K c) : wGetR S M x ci k K := by
  subst hj he
  exact ⟨hk, hn, h⟩
theorem g_getrow {S : Sh} {M : Mm} {x : Int} {ci k : Nat} {K : Int → Prop} (j : Int) (hj : (k : Int) = j) (hk : isK S x ci) (he : rowv S (M x j)) (h : ∀ v : Int, v = M x j → rowv S v → K v) : wGetR S M x ci k K := by
  subst hj
  exact ⟨hk, rowv_ne he, h _ rfl he⟩
theorem g_ld {S : Sh} {M : Mm} {x : Int} {ci n : Nat} {i : Int} {K : Int → Prop} (l u : Int) (hk : isK S x ci) (hn : S.2.2 x = n) (h0 : 0 ≤ i) (h1 : i < n) (hb : l ≤ M x i ∧ M x i ≤ u) (h : ∀ v : Int, v = M x i → l ≤ v → v ≤ u → K v) : wLd S M x ci i K := ⟨hk, ⟨h0, by rw [hn]; exact h1⟩, h _ rfl hb.1 hb.2⟩
theorem g_ldu {S : Sh} {M : Mm} {x : Int} {ci n : Nat} {i : Int} {K : Int → Prop} (hk : isK S x ci) (hn : S.2.2 x = n) (h0 : 0 ≤ i) (h1 : i < n) (h : ∀ v : Int, v = M x i → K v) : wLd S M x ci i K := ⟨hk, ⟨h0, by rw [hn]; exact h1⟩, h _ rfl⟩
theorem g_ldrB {S : Sh} {M : Mm} {x : Int} {ci n : Nat} {i : Int} {K : Int → Prop} {P : Int → Prop} (hP : ∀ c : Int, P c → 0 ≤ c) (hk : isK S x ci) (hn : S.2.2 x = n) (h0 : 0 ≤ i) (h1 : i < n) (hb : P (M x i)) (h : ∀ v : Int, v = M x i → P v → K v) : wLdR S M x ci i K := ⟨hk, ⟨h0, by rw [hn]; exact h1⟩, by have := hP _ hb; omega, h _ rfl hb⟩
theorem g_len {S : Sh} {x : Int} {ci n : Nat} {K : Int → Prop} (j : Int) (hk : isK S x ci) (hn : S.2.2 x = n) (h1 : (n : Int) = j ∧ (n : Int) ≤ 2147483647) (h : K j) : wLen S x ci K := by
  refine Or.inr ⟨hk, by rw [hn]; exact h1.2, ?_⟩
  rw [hn, h1.1]
  exact h
def rlen (S : Sh) (v : Int) : Int := if v = -2 then 0 else S.2.2 v
theorem g_lenrow {S : Sh} {x : Int} {K : Int → Prop} (hr : rowv S x) (h : ∀ v : Int, v = rlen S x → 0 ≤ v → v ≤ 399 → K v) : wLen S x 14 K := by
  rcases hr with q | q
  · refine Or.inl ⟨q, h 0 (by rw [rlen, if_pos q]) (by decide) (by decide)⟩
  · have e : rlen S x = S.2.2 x := by
      rw [rlen, if_neg]
      have := q.1.1
      omega
    exact Or.inr ⟨q.1, by omega, h _ e.symm (by omega) (by omega)⟩
theorem g_ldrow {S : Sh} {M : Mm} {x i : Int} {K : Int → Prop} (hr : rowv S x) (h0 : 0 ≤ i) (h1 : i < rlen S x) (h : ∀ v : Int, K v) : wLd S M x 14 i K := by
  rcases hr with q | q
  · rw [rlen, if_pos q] at h1
    omega
  · have e : rlen S x = S.2.2 x := by
      rw [rlen, if_neg]
      have := q.1.1
      omega
    exact ⟨q.1, ⟨h0, by omega⟩, h _⟩
theorem g_put {X : Mm} {S : Sh} {M : Mm} {x : Int} {ci k : Nat} {v : Int} {K : Mm → Prop} (j : Int) (hj : (k : Int) = j) (hk : isK S x ci) (hw : Inv X S (up M x j v)) (h : ∀ M', M' = up M x j v → Inv X S M' → K M') : wPut S M x ci k v K := by
  subst hj
  exact ⟨hk, h _ rfl hw⟩
theorem g_putz {X : Mm} {S : Sh} {M : Mm} {x : Int} {ci k : Nat} {v : Int} {K : Mm → Prop} (j : Int) (hj : (k : Int) = j) (hk : isK S x ci) (hz : v = 0 ∨ v = 1) (hw : Inv X S (up M x j v)) (h : ∀ M', M' = up M x j v → Inv X S M' → K M') : wPutZ S M x ci k v K := by
  subst hj
  exact ⟨hk, hz, h _ rfl hw⟩
theorem g_putr {X : Mm} {S : Sh} {M : Mm} {x : Int} {ci k : Nat} {v : Int} {K : Mm → Prop} (j : Int) (hj : (k : Int) = j) (hk : isK S x ci) (hz : v ≠ -1) (hw : Inv X S (up M x j v)) (h : ∀ M', M' = up M x j v → Inv X S M' → K M') : wPutR S M x ci k v K := by
  subst hj
  exact ⟨hk, hz, h _ rfl hw⟩
theorem g_st {X : Mm} {S : Sh} {M : Mm} {x : Int} {ci n : Nat} {i v : Int} {K : Mm → Prop} (hk : isK S x ci) (hn : S.2.2 x = n) (h0 : 0 ≤ i) (h1 : i < n) (hw : Inv X S (up M x i v)) (h : ∀ M', M' = up M x i v → Inv X S M' → K M') : wSt S M x ci i v K := ⟨hk, ⟨h0, by rw [hn]; exact h1⟩, h _ rfl hw⟩
theorem g_stz {X : Mm} {S : Sh} {M : Mm} {x : Int} {ci n : Nat} {i v : Int} {K : Mm → Prop} (hk : isK S x ci) (hn : S.2.2 x = n) (h0 : 0 ≤ i) (h1 : i < n) (hz : v = 0 ∨ v = 1) (hw : Inv X S (up M x i v)) (h : ∀ M', M' = up M x i v → Inv X S M' → K M') : wStZ S M x ci i v K := ⟨hk, ⟨h0, by rw [hn]; exact h1⟩, hz, h _ rfl hw⟩
theorem g_cpy {X : Mm} {S : Sh} {M : Mm} {x y : Int} {n1 n2 : Nat} {n : Int} {K : Mm → Prop} (hk : isK S x 14) (hk2 : isK S y 14) (hn1 : S.2.2 x = n1) (hn2 : S.2.2 y = n2) (hb : 0 ≤ n ∧ n ≤ n1 ∧ n ≤ n2) (hw : Inv X S (cpM M x 0 y 0 n)) (h : ∀ M', Inv X S M' → K M') : wCpy S M x 0 y 0 n K := ⟨hk, hk2, ⟨by decide, by decide, hb.1, by rw [hn1]; omega, by rw [hn2]; omega⟩, h _ hw⟩
theorem i32o {a : Int} (h1 : -2147483648 ≤ a) (h2 : a ≤ 2147483647) : (Int32.ofInt a).toInt = a := Int32.toInt_ofInt_of_le h1 (by omega)
theorem i64o {a : Int} (h1 : -9223372036854775808 ≤ a) (h2 : a ≤ 9223372036854775807) : (Int64.ofInt a).toInt = a := Int64.toInt_ofInt_of_le h1 (by omega)
theorem div32 {a b : Int} (h1 : 0 ≤ a) (h2 : a ≤ 2147483647) (h3 : 0 < b) (h4 : b ≤ 2147483647) : iDiv a b = a / b := by
  unfold iDiv o32
  rw [Int32.toInt_div, i32o (by omega) h2, i32o (by omega) h4, Int.tdiv_eq_ediv_of_nonneg h1, Int.bmod_eq_of_le]
  · have := Int.ediv_nonneg h1 (Int.le_of_lt h3)
    omega
  · have := Int.ediv_le_self b h1
    omega
theorem div64 {a b : Int} (h1 : 0 ≤ a) (h2 : a ≤ 9223372036854775807) (h3 : 0 < b) (h4 : b ≤ 9223372036854775807) : lDiv a b = a / b := by
  unfold lDiv o64
  rw [Int64.toInt_div, i64o (by omega) h2, i64o (by omega) h4, Int.tdiv_eq_ediv_of_nonneg h1, Int.bmod_eq_of_le]
  · have := Int.ediv_nonneg h1 (Int.le_of_lt h3)
    omega
  · have := Int.ediv_le_self b h1
    omega
theorem ediv_mul_bd {a b : Int} (h1 : 0 ≤ a) (h3 : 0 < b) : 0 ≤ a / b * b ∧ a / b * b ≤ a ∧ a < a / b * b + b := by
  have e := Int.mul_ediv_add_emod a b
  have e2 := Int.emod_nonneg a (Int.ne_of_gt h3)
  have e3 := Int.emod_lt_of_pos a h3
  have e4 := Int.ediv_nonneg h1 (Int.le_of_lt h3)
  have e5 := Int.mul_nonneg e4 (Int.le_of_lt h3)
  rw [Int.mul_comm] at e
  omega
theorem rem32 {a b : Int} (h1 : 0 ≤ a) (h2 : a ≤ 2147483647) (h3 : 0 < b) (h4 : b ≤ 2147483647) : 0 ≤ iRem a b ∧ iRem a b < b ∧ iRem a b ≤ a := by
  have q := div32 h1 h2 h3 h4
  have w := ediv_mul_bd h1 h3
  unfold iDiv o32 at q
  unfold iRem o32
  rw [Int32.toInt_sub, Int32.toInt_mul, q, i32o (by omega) h2, i32o (by omega) h4, Int.bmod_eq_of_le (n := a / b * b) (by omega) (by omega), Int.bmod_eq_of_le (by omega) (by omega)]
  omega
theorem g_iDiv {a b : Int} {K : Int → Prop} (h1 : 0 ≤ a) (h2 : a ≤ 2147483647) (h3 : 0 < b) (h4 : b ≤ 2147483647) (h : ∀ v : Int, 0 ≤ v → v ≤ a → K v) : wD iDiv a b K := by
  refine ⟨by omega, ?_⟩
  rw [div32 h1 h2 h3 h4]
  exact h _ (Int.ediv_nonneg h1 (Int.le_of_lt h3)) (Int.ediv_le_self b h1)
theorem g_iDivc {a d : Int} {K : Int → Prop} (h1 : 0 ≤ a) (h2 : a ≤ 2147483647) (h3 : 0 < d ∧ d ≤ 2147483647) (h : ∀ v : Int, d * v ≤ a → a < d * v + d → K v) : wD iDiv a d K := by
  refine ⟨by omega, ?_⟩
  rw [div32 h1 h2 h3.1 h3.2]
  have q := ediv_mul_bd h1 h3.1
  rw [Int.mul_comm] at q
  exact h _ q.2.1 q.2.2
theorem g_iRem {a b : Int} {K : Int → Prop} (h1 : 0 ≤ a) (h2 : a ≤ 2147483647) (h3 : 0 < b) (h4 : b ≤ 2147483647) (h : ∀ v : Int, 0 ≤ v → v < b → K v) : wD iRem a b K := by
  have q := rem32 h1 h2 h3 h4
  exact ⟨by omega, h _ q.1 q.2.1⟩
theorem and_bd {w : Nat} (x y : BitVec w) (h : y.msb = false) : 0 ≤ (x &&& y).toInt ∧ (x &&& y).toInt ≤ y.toInt := by
  have h1 : (x &&& y).msb = false := by simp [h]
  rw [BitVec.toInt_eq_toNat_of_msb h1, BitVec.toInt_eq_toNat_of_msb h, BitVec.toNat_and]
  have := Nat.and_le_right (n := x.toNat) (m := y.toNat)
  omega
theorem msb_of {w : Nat} {x : BitVec w} (h : 0 ≤ x.toInt) : x.msb = false := by
  rw [BitVec.msb_eq_toInt]
  simp
  exact h
theorem iAnd_bd {a b : Int} (h1 : 0 ≤ b) (h2 : b ≤ 2147483647) : 0 ≤ iAnd a b ∧ iAnd a b ≤ b := by
  have e : (Int32.ofInt b).toBitVec.toInt = b := i32o (by omega) h2
  have q := and_bd (Int32.ofInt a).toBitVec (Int32.ofInt b).toBitVec (msb_of (by omega))
  rw [e] at q
  exact q
theorem g_iAndR {a b : Int} {K : Int → Prop} (h1 : 0 ≤ b) (h2 : b ≤ 2147483647) (h : ∀ v : Int, v = iAnd a b → 0 ≤ v → v ≤ b → K v) : wO iAnd a b K := h _ rfl (iAnd_bd h1 h2).1 (iAnd_bd h1 h2).2
theorem g_lAndM {a : Int} {K : Int → Prop} (h : ∀ v : Int, 0 ≤ v → v ≤ 2147483647 → K v) : wO lAnd a 2147483647 K := by
  have e : (Int64.ofInt 2147483647).toBitVec.toInt = 2147483647 := i64o (by decide) (by decide)
  have q := and_bd (Int64.ofInt a).toBitVec (Int64.ofInt 2147483647).toBitVec (msb_of (by omega))
  rw [e] at q
  exact h _ q.1 q.2
theorem g_iOr {a b : Int} {K : Int → Prop} (k : Nat) (h1 : 0 ≤ a) (h2 : a < 2 ^ k) (h3 : 0 ≤ b) (h4 : b < 2 ^ k) (hk : k ≤ 30 ∧ (2 : Int) ^ k ≤ 2147483647) (h : ∀ v : Int, 0 ≤ v → v < 2 ^ k → K v) : wO iOr a b K := by
  have e1 : (Int32.ofInt a).toBitVec.toInt = a := i32o (by omega) (by omega)
  have e2 : (Int32.ofInt b).toBitVec.toInt = b := i32o (by omega) (by omega)
  have m1 : (Int32.ofInt a).toBitVec.msb = false := msb_of (by omega)
  have m2 : (Int32.ofInt b).toBitVec.msb = false := msb_of (by omega)
  have m3 : ((Int32.ofInt a).toBitVec ||| (Int32.ofInt b).toBitVec).msb = false := by rw [BitVec.msb_or, m1, m2]; rfl
  have n1 := BitVec.toInt_eq_toNat_of_msb m1
  have n2 := BitVec.toInt_eq_toNat_of_msb m2
  have n3 := BitVec.toInt_eq_toNat_of_msb m3
  rw [BitVec.toNat_or] at n3
  have c : ((2 ^ k : Nat) : Int) = 2 ^ k := by rw [Int.natCast_pow]; rfl
  have q := Nat.or_lt_two_pow (x := (Int32.ofInt a).toBitVec.toNat) (y := (Int32.ofInt b).toBitVec.toNat) (n := k) (by omega) (by omega)
  have e3 : iOr a b = ((Int32.ofInt a).toBitVec ||| (Int32.ofInt b).toBitVec).toInt := rfl
  exact h _ (by rw [e3, n3]; omega) (by rw [e3, n3]; omega)
theorem shl_bd : ∀ k : Nat, k < 21 → ∀ n : Nat, n < 21 → k ≤ n → 1 ≤ iShl 1 (k : Int) ∧ iShl 1 (k : Int) ≤ 2 ^ n := by decide +kernel
theorem g_iShl {b : Int} {K : Int → Prop} (k : Nat) (h1 : 0 ≤ b) (h2 : b ≤ k) (h3 : k < 21) (h : ∀ v : Int, 1 ≤ v → v ≤ 2 ^ k → K v) : wO iShl 1 b K := by
  have q := shl_bd b.toNat (by omega) k h3 (by omega)
  rw [Int.toNat_of_nonneg h1] at q
  exact h _ q.1 q.2
theorem g_iShr {a b : Int} {K : Int → Prop} (h1 : 0 ≤ a) (h2 : a ≤ 2147483647) (h : ∀ v : Int, 0 ≤ v → v ≤ a → K v) : wO iShr a b K := by
  have e1 : (Int32.ofInt a).toBitVec.toInt = a := i32o (by omega) (by omega)
  have m1 : (Int32.ofInt a).toBitVec.msb = false := msb_of (by omega)
  have n1 := BitVec.toInt_eq_toNat_of_msb m1
  have key : ∀ s : Nat, 0 ≤ ((Int32.ofInt a).toBitVec.sshiftRight s).toInt ∧ ((Int32.ofInt a).toBitVec.sshiftRight s).toInt ≤ a := by
    intro s
    rw [BitVec.sshiftRight_eq_of_msb_false m1]
    have hle : ((Int32.ofInt a).toBitVec >>> s).toNat ≤ (Int32.ofInt a).toBitVec.toNat := by
      rw [BitVec.toNat_ushiftRight, Nat.shiftRight_eq_div_pow]
      exact Nat.div_le_self _ _
    have hi := BitVec.toInt_eq_toNat_cond ((Int32.ofInt a).toBitVec >>> s)
    rw [if_pos (by omega)] at hi
    omega
  have q := key ((Int32.ofInt b &&& 31).toBitVec.smod 32).toNat
  exact h _ q.1 q.2
theorem s_fill {X : Mm} {S : Sh} {M : Mm} {c v : Int} {n : Nat} {K : Mm → Prop} (hm : Inv X S M) (hk : isK S c 14) (hl : S.2.2 c = n) (hn : n ≤ 6000) (hw : ∀ (M : Mm) (i : Int), Inv X S M → 0 ≤ i → i < n → Inv X S (up M c i v)) (H : ∀ M', Inv X S M' → K M') : wp_J7_fill_53178 S M c v K := by
  have key : ∀ (k : Nat) (i : Int) (M1 : Mm), Inv X S M1 → 0 ≤ i → i ≤ n → (n : Int) + 1 - i ≤ k → wp_J7_fill_53178_5 S K k c v i n M1 := by
    intro k
    induction k with
    | zero => intro i M1 _ _ _ h4; exfalso; omega
    | succ k ih =>
      intro i M1 h1 h2 h3 h4
      refine g_if (fun _ => H M1 h1) (fun q => ?_)
      refine g_st hk hl h2 (by omega) (hw M1 i h1 h2 (by omega)) (fun M2 _ h5 => ?_)
      refine g_A (by omega) (by omega) ?_
      exact ih (i + 1) M2 h5 (by omega) (by omega) (by omega)
  refine g_C ?_
  refine g_len (n : Int) hk hl ⟨rfl, by omega⟩ ?_
  exact ⟨n + 1, key (n + 1) 0 M hm (by omega) (by omega) (by omega)⟩
theorem s_fill2 {X : Mm} {S : Sh} {M : Mm} {c v a b : Int} {n : Nat} {K : Mm → Prop} (hm : Inv X S M) (hk : isK S c 14) (hl : S.2.2 c = n) (hn : n ≤ 6000) (h0 : 0 ≤ a) (hab : a ≤ b) (hb : b ≤ n) (hw : ∀ (M : Mm) (i : Int), Inv X S M → 0 ≤ i → i < n → Inv X S (up M c i v)) (H : ∀ M', Inv X S M' → K M') : wp_J7_fill_fda19 S M c a b v K := by
  have key : ∀ (k : Nat) (i : Int) (M1 : Mm), Inv X S M1 → 0 ≤ i → i ≤ b → b + 1 - i ≤ k → wp_J7_fill_fda19_10 S K k c b v i M1 := by
    intro k
    induction k with
    | zero => intro i M1 _ _ _ h4; exfalso; omega
    | succ k ih =>
      intro i M1 h1 h2 h3 h4
      refine g_if (fun _ => H M1 h1) (fun q => ?_)
      refine g_st hk hl h2 (by omega) (hw M1 i h1 h2 (by omega)) (fun M2 _ h5 => ?_)
      refine g_A (by omega) (by omega) ?_
      exact ih (i + 1) M2 h5 (by omega) (by omega) (by omega)
  refine g_len (n : Int) hk hl ⟨rfl, by omega⟩ ?_
  refine g_ifT hab (g_ifT h0 (g_ifT hb ?_))
  exact ⟨(b + 1 - a).toNat, key _ a M hm h0 hab (by omega)⟩
