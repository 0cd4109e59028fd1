theorem zl_isLetter {X : Mm} {S : Sh} {m : Mm} {K : Int → Mm → Prop} {i : Int} (hS : Shp S) (hm : Inv X S m) (h0 : 0 ≤ i) (k1 : i < m 336 1 → 97 ≤ m 337 i → m 337 i ≤ 122 → K 1 m) (k0 : ¬ (i < m 336 1 ∧ 97 ≤ m 337 i ∧ m 337 i ≤ 122) → K 0 m) : wp_X12_isLetter S m 336 i K := by
  refine u_X12_isLetter ?_
  refine g_get 1 (0) (400) rfl hS.k336 hm.f_336_1 (fun t et bt ct => ?_)
  refine g_if (fun w => ?_) (fun w => ?_)
  · exact g_C ⟨by decide, k0 (by omega)⟩
  · refine g_getr 0 337 rfl hS.k336 hm.f_336_0 (by decide) ?_
    refine g_ldu hS.k337 hS.l337 (by omega) (by omega) (fun x ex => ?_)
    refine g_C ?_
    refine g_if (fun w2 => ?_) (fun w2 => ?_)
    · exact g_C ⟨by decide, k0 (by omega)⟩
    · refine g_getr 0 337 rfl hS.k336 hm.f_336_0 (by decide) ?_
      refine g_ldu hS.k337 hS.l337 (by omega) (by omega) (fun y ey => ?_)
      refine g_C ?_
      refine g_if (fun w3 => ?_) (fun w3 => ?_)
      · exact g_C ⟨by decide, k0 (by omega)⟩
      · exact g_C ⟨by decide, k1 (by omega) (by omega) (by omega)⟩
/-! the reference's tape, to the letter -/
def TR (X : Mm) (b : Int → Int) (n : Int) : Prop := X 336 1 = n ∧ (0 ≤ n ∧ n ≤ 400) ∧ ∀ p : Int, 0 ≤ p → p < n → X 337 p = b p ∧ -128 ≤ b p ∧ b p ≤ 127
theorem TR.n {X : Mm} {S : Sh} {m : Mm} {b : Int → Int} {n : Int} (h : TR X b n) (hm : Inv X S m) : m 336 1 = n := (hm.g (by decide)).trans h.1
theorem TR.b {X : Mm} {S : Sh} {m : Mm} {b : Int → Int} {n : Int} (h : TR X b n) (hm : Inv X S m) {p : Int} (p0 : 0 ≤ p) (p1 : p < n) : m 337 p = b p := (hm.g (c := 337) (p := p) (by omega)).trans (h.2.2 p p0 p1).1
theorem zx_see {X : Mm} {S : Sh} {m0 : Mm} {K : Int → Mm → Prop} {b : Int → Int} {n : Int} (hS : Shp S) (hm0 : Inv X S m0) (ht : TR X b n) (hp : m0 336 8 ≤ n) (hk : ∀ (r q : Int) (M1 : Mm), Inv X S M1 → (∀ c p : Int, ¬ (c = 336 ∧ 8 ≤ p ∧ p ≤ 8) → M1 c p = m0 c p) → Sk b n (m0 336 8) q → M1 336 8 = q → q ≤ n → ((q < n ∧ r = u8 (b q)) ∨ (n ≤ q ∧ r = -1)) → K r M1) : wp_X12_see S m0 336 K := by
  have nb := ht.2.1
  have L : ∀ (k : Nat) (m : Mm), Inv X S m → (∀ c p : Int, ¬ (c = 336 ∧ 8 ≤ p ∧ p ≤ 8) → m c p = m0 c p) → m0 336 8 ≤ m 336 8 → (∀ j : Int, m0 336 8 ≤ j → j < m 336 8 → j < n ∧ b j = 32) → m 336 8 ≤ n → 401 - m 336 8 ≤ (k : Int) → wp_X12_see_0 S K k 336 m := by
    intro k
    induction k with
    | zero => intro m hm _ _ _ _ h; exfalso; omega
    | succ k ih =>
      intro m hm F a1 a2 a3 h
      have b8 := hm.f_336_8
      have g1 := ht.n hm
      have fin : (n ≤ m 336 8 ∨ ¬ b (m 336 8) = 32) → wp_X12_see_38 S K 336 m := by
        intro hn
        have sk : Sk b n (m0 336 8) (m 336 8) := ⟨a1, a2, hn⟩
        refine u_X12_see_38 ?_
        refine g_getu 8 rfl hS.k336 (fun v ev => ?_)
        refine g_getu 1 rfl hS.k336 (fun t et => ?_)
        rw [g1] at et
        refine g_if (fun w => g_C (hk (-1) (m 336 8) m hm F sk rfl a3 (Or.inr ⟨by omega, rfl⟩))) (fun w => ?_)
        refine g_getr 0 337 rfl hS.k336 hm.f_336_0 (by decide) ?_
        refine g_getu 8 rfl hS.k336 (fun v2 ev2 => ?_)
        refine g_ldu hS.k337 hS.l337 (by omega) (by omega) (fun x ex => ?_)
        refine g_C ?_
        refine g_Oe (fun y ey => ?_)
        have tb := ht.2.2 (m 336 8) (by omega) (by omega)
        rw [ex, ev2, ht.b hm (by omega) (by omega), iAnd_u8 tb.2.1 tb.2.2] at ey
        exact hk y (m 336 8) m hm F sk rfl a3 (Or.inl ⟨by omega, ey⟩)
      refine u_X12_see_0 ?_
      refine g_getu 8 rfl hS.k336 (fun v ev => ?_)
      refine g_getu 1 rfl hS.k336 (fun t et => ?_)
      rw [g1] at et
      refine g_if (fun w => fin (by omega)) (fun w => ?_)
      refine g_getr 0 337 rfl hS.k336 hm.f_336_0 (by decide) ?_
      refine g_getu 8 rfl hS.k336 (fun v2 ev2 => ?_)
      refine g_ldu hS.k337 hS.l337 (by omega) (by omega) (fun x ex => ?_)
      rw [ev2, ht.b hm (by omega) (by omega)] at ex
      refine g_C ?_
      refine g_if (fun w2 => fin (Or.inr (by omega))) (fun w2 => ?_)
      refine g_getu 8 rfl hS.k336 (fun v3 ev3 => ?_)
      refine g_C ?_
      refine g_A (by omega) (by omega) ?_
      refine g_put 8 rfl hS.k336 (hm.w_336_8 (by omega) (by omega)) (fun m2 e2 hm2 => ?_)
      have f2 : ∀ c p : Int, ¬ (c = 336 ∧ p = 8) → m2 c p = m c p := fun c p q => (congrFun (congrFun e2 _) _).trans (up_ne q)
      have x2 : m2 336 8 = v3 + 1 := (congrFun (congrFun e2 _) _).trans (up_at _ _ _ _)
      refine ih m2 hm2 (fun c p z => (f2 c p (by omega)).trans (F c p z)) (by omega) (fun j j0 j1 => ?_) (by omega) (by omega)
      by_cases e : j = m 336 8
      · rw [e]; exact ⟨by omega, by omega⟩
      · exact a2 j j0 (by omega)
  have b8 := hm0.f_336_8
  exact ⟨401, L 401 m0 hm0 (fun _ _ _ => rfl) (by omega) (fun j j0 j1 => absurd j1 (by omega)) hp (by omega)⟩
/-- letters in one number -/
def pkv (f : Nat → Int) : Nat → Int
  | 0 => 0
  | i + 1 => 256 * pkv f i + f i
theorem pkv_nn {f : Nat → Int} : ∀ i : Nat, (∀ j : Nat, j < i → 97 ≤ f j ∧ f j ≤ 122) → 0 ≤ pkv f i ∧ (0 < i → 97 ≤ pkv f i) := by
  intro i
  induction i with
  | zero => intro _; exact ⟨Int.le_refl 0, fun h => absurd h (Nat.lt_irrefl 0)⟩
  | succ i ih =>
    intro h
    have q := (ih (fun j hj => h j (by omega))).1
    have z := h i (by omega)
    show 0 ≤ 256 * pkv f i + f i ∧ (_ → 97 ≤ 256 * pkv f i + f i)
    exact ⟨by omega, fun _ => by omega⟩
theorem pkv_lt {f : Nat → Int} : ∀ i : Nat, i ≤ 7 → (∀ j : Nat, j < i → 97 ≤ f j ∧ f j ≤ 122) → pkv f i < 72057594037927936 ∧ (i ≤ 6 → pkv f i < 281474976710656) ∧ (i ≤ 5 → pkv f i < 1099511627776) ∧ (i ≤ 4 → pkv f i < 4294967296) ∧ (i ≤ 3 → pkv f i < 16777216) ∧ (i ≤ 2 → pkv f i < 65536) ∧ (i ≤ 1 → pkv f i < 256) ∧ (i = 0 → pkv f i = 0) := by
  intro i
  induction i with
  | zero =>
    intro _ _
    have e : pkv f 0 = 0 := rfl
    rw [e]
    exact ⟨by decide, fun _ => by decide, fun _ => by decide, fun _ => by decide, fun _ => by decide, fun _ => by decide, fun _ => by decide, fun _ => rfl⟩
  | succ i ih =>
    intro hi h
    have q := ih (by omega) (fun j hj => h j (by omega))
    have z := h i (by omega)
    simp only [pkv]
    omega
theorem pkv_inj {f g : Nat → Int} : ∀ i l : Nat, (∀ j : Nat, j < i → 97 ≤ f j ∧ f j ≤ 122) → (∀ j : Nat, j < l → 97 ≤ g j ∧ g j ≤ 122) → pkv f i = pkv g l → i = l ∧ ∀ j : Nat, j < i → f j = g j := by
  intro i
  induction i with
  | zero =>
    intro l _ hg e
    cases l with
    | zero => exact ⟨rfl, fun j hj => absurd hj (Nat.not_lt_zero j)⟩
    | succ l =>
      have q := (pkv_nn (l + 1) hg).2 (Nat.succ_pos l)
      rw [← e] at q
      exact absurd q (by show ¬ (97 : Int) ≤ 0; decide)
  | succ i ih =>
    intro l hf hg e
    cases l with
    | zero =>
      have q := (pkv_nn (i + 1) hf).2 (Nat.succ_pos i)
      rw [e] at q
      exact absurd q (by show ¬ (97 : Int) ≤ 0; decide)
    | succ l =>
      have e2 : 256 * pkv f i + f i = 256 * pkv g l + g l := e
      have z1 := hf i (by omega)
      have z2 := hg l (by omega)
      obtain ⟨h1, h2⟩ := ih l (fun j hj => hf j (by omega)) (fun j hj => hg j (by omega)) (by omega)
      subst h1
      refine ⟨rfl, fun j hj => ?_⟩
      by_cases ej : j = i
      · rw [ej]; omega
      · exact h2 j (by omega)
theorem shl8 {v : Int} (h0 : 0 ≤ v) (h1 : v < 281474976710656) : lShl v 8 = 256 * v := by
  have e1 : (Int64.ofInt v).toBitVec.toInt = v := i64o (by omega) (by omega)
  have m1 : (Int64.ofInt v).toBitVec.msb = false := msb_of (by omega)
  have n1 := BitVec.toInt_eq_toNat_of_msb m1
  have e3 : lShl v 8 = ((Int64.ofInt v).toBitVec <<< (8 : Nat)).toInt := rfl
  have hn : (Int64.ofInt v).toBitVec.toNat <<< 8 = 256 * (Int64.ofInt v).toBitVec.toNat := by rw [Nat.shiftLeft_eq]; omega
  have e4 : ((Int64.ofInt v).toBitVec <<< (8 : Nat)).toNat = 256 * (Int64.ofInt v).toBitVec.toNat := by
    rw [BitVec.toNat_shiftLeft, hn]
    exact Nat.mod_eq_of_lt (by omega)
  have hi := BitVec.toInt_eq_toNat_cond ((Int64.ofInt v).toBitVec <<< (8 : Nat))
  rw [e4, if_pos (by omega)] at hi
  rw [e3, hi]
  omega
theorem or8 {v x : Int} (h0 : 0 ≤ v) (h1 : v < 281474976710656) (x0 : 0 ≤ x) (x1 : x ≤ 255) : lOr (256 * v) x = 256 * v + x := by
  have e1 : (Int64.ofInt (256 * v)).toBitVec.toInt = 256 * v := i64o (by omega) (by omega)
  have e2 : (Int64.ofInt x).toBitVec.toInt = x := i64o (by omega) (by omega)
  have m1 : (Int64.ofInt (256 * v)).toBitVec.msb = false := msb_of (by omega)
  have m2 : (Int64.ofInt x).toBitVec.msb = false := msb_of (by omega)
  have m3 : ((Int64.ofInt (256 * v)).toBitVec ||| (Int64.ofInt x).toBitVec).msb = false := by rw [BitVec.msb_or, m1, m2]; rfl
  have n1 := BitVec.toInt_eq_toNat_of_msb m1
  have n2 := BitVec.toInt_eq_toNat_of_msb m2
  have n3 := BitVec.toInt_eq_toNat_of_msb m3
  rw [BitVec.toNat_or] at n3
  have a1 : (Int64.ofInt (256 * v)).toBitVec.toNat = v.toNat <<< 8 := by rw [Nat.shiftLeft_eq]; omega
  have q := Nat.shiftLeft_add_eq_or_of_lt (i := 8) (b := (Int64.ofInt x).toBitVec.toNat) (by omega) v.toNat
  rw [a1, ← q, Nat.shiftLeft_eq] at n3
  have e3 : lOr (256 * v) x = ((Int64.ofInt (256 * v)).toBitVec ||| (Int64.ofInt x).toBitVec).toInt := rfl
  rw [e3, n3]
  omega
/-- word k as the reference has it -/
def pw (k : Nat) : Int := pkv (fun i => tw k i) (tl k).toNat
theorem pw_all : pw 0 = 431131030137 ∧ pw 1 = 1919902052 ∧ pw 2 = 1751215716 ∧ pw 3 = 6976871 ∧ pw 4 = 1751474548 ∧ pw 5 = 2002873972 ∧ pw 6 = 1953854062 ∧ pw 7 = 495806932324 ∧ pw 8 = 499985311076 ∧ pw 9 = 128047779833188 ∧ pw 10 = 1752135026 ∧ pw 11 = 1751477348 ∧ pw 12 = 1936684402 ∧ pw 13 = 26982 ∧ pw 14 = 7237492 ∧ pw 15 = 6385252 ∧ pw 16 = 28530 := by decide +kernel
theorem tw_l : ∀ k : Nat, k < 17 → ∀ i : Nat, (i : Int) < tl k → 97 ≤ tw k i ∧ tw k i ≤ 122 := by
  have q : ∀ k : Nat, k < 17 → ∀ i : Nat, i < 6 → (i : Int) < tl k → 97 ≤ tw k i ∧ tw k i ≤ 122 := by decide +kernel
  intro k hk i hi
  have := tl_r k hk
  exact q k hk i (by omega) hi
theorem zx_isWord {X : Mm} {S : Sh} {m0 : Mm} {K : Int → Mm → Prop} {b : Int → Int} {n u : Int} (k : Nat) (hS : Shp S) (hm0 : Inv X S m0) (ht : TR X b n) (hp : m0 336 8 ≤ n) (hk17 : k < 17) (hu : u = pw k) (h1 : ∀ (q : Int) (M1 : Mm), Inv X S M1 → (∀ c p : Int, ¬ (c = 336 ∧ 8 ≤ p ∧ p ≤ 8) → M1 c p = m0 c p) → Sk b n (m0 336 8) q → M1 336 8 = q → q ≤ n → Wk b n k q → K 1 M1) (h0 : ∀ (q : Int) (M1 : Mm), Inv X S M1 → (∀ c p : Int, ¬ (c = 336 ∧ 8 ≤ p ∧ p ≤ 8) → M1 c p = m0 c p) → Sk b n (m0 336 8) q → M1 336 8 = q → q ≤ n → ¬ Wk b n k q → K 0 M1) : wp_X12_isWord S m0 336 u K := by
  have nb := ht.2.1
  have tr := tl_r k hk17
  have b80 := hm0.f_336_8
  refine u_X12_isWord ?_
  refine ⟨hS.k336, ?_⟩
  refine zx_see hS hm0 ht hp (fun r q m hm F sk xq hq hr => ?_)
  have s1 := sk.1
  have g1 := ht.n hm
  refine g_C ?_
  refine g_C ?_
  have L : ∀ (j : Nat) (v : Int) (i : Nat), q + i ≤ n → (∀ t : Nat, t < i → 97 ≤ b (q + t) ∧ b (q + t) ≤ 122) → (i ≤ 7 → v = pkv (fun t => b (q + t)) i) → 401 - (i : Int) ≤ (j : Int) → wp_X12_isWord_10 S K j 336 u v (i : Int) m := by
    intro j
    induction j with
    | zero => intro v i _ _ _ h; exfalso; omega
    | succ j ih =>
      intro v i a1 a2 a3 h
      refine u_X12_isWord_10 ?_
      refine g_getu 8 rfl hS.k336 (fun a ea => ?_)
      rw [xq] at ea
      refine g_A (by omega) (by omega) ?_
      refine ⟨hS.k336, ?_⟩
      refine zl_isLetter hS hm (by omega) (fun c1 c2 c3 => ?_) (fun c1 => ?_)
      · rw [g1] at c1
        rw [ea, ht.b hm (by omega) (by omega)] at c2 c3
        have nx : ∀ x : Int, (i + 1 ≤ 7 → x = pkv (fun t => b (q + t)) (i + 1)) → wp_X12_isWord_50 S (fun a0 a1 a2 a3 M => wp_X12_isWord_10 S K j a0 a1 a2 a3 M) K 336 u x (i : Int) m := by
          intro x hx
          refine u_X12_isWord_50 ?_
          refine g_A (by omega) (by omega) ?_
          rw [show (i : Int) + 1 = ((i + 1 : Nat) : Int) by omega]
          refine ih x (i + 1) (by omega) (fun t ht' => ?_) hx (by omega)
          by_cases e : t = i
          · rw [e]; exact ⟨c2, c3⟩
          · exact a2 t (by omega)
        refine g_ifF (by decide) ?_
        refine g_C ?_
        refine g_if (fun w => nx v (fun h7 => by omega)) (fun w => ?_)
        refine g_C ?_
        refine g_Oe (fun x ex => ?_)
        refine g_getr 0 337 rfl hS.k336 hm.f_336_0 (by decide) ?_
        refine g_getu 8 rfl hS.k336 (fun a2' ea2 => ?_)
        rw [xq] at ea2
        refine g_A (by omega) (by omega) ?_
        refine g_ldu hS.k337 hS.l337 (by omega) (by omega) (fun y ey => ?_)
        rw [ea2, ht.b hm (by omega) (by omega)] at ey
        refine g_C ?_
        refine g_Oe (fun z ez => ?_)
        refine nx z (fun h7 => ?_)
        have hv := a3 (by omega)
        have p0 := (pkv_nn (f := fun t => b (q + t)) i a2).1
        have p1 := (pkv_lt (f := fun t => b (q + t)) i (by omega) a2).2.1 (by omega)
        rw [ez, ex, hv, shl8 p0 p1, or8 p0 p1 (by omega) (by omega), ey]
        rfl
      · rw [g1] at c1
        have iff1 : Wk b n k q ↔ (0 < i ∧ i < 8 ∧ v = u) := by
          constructor
          · intro wk
            have nl : ¬ (q + tl k < n ∧ 97 ≤ b (q + tl k) ∧ b (q + tl k) ≤ 122) := wk.2
            have ei : (i : Int) = tl k := by
              by_cases e : (i : Int) < tl k
              · exfalso
                have z := wk.1 i (by omega) e
                have z2 := tw_l k hk17 i e
                rw [Int.toNat_natCast] at z
                refine c1 ⟨by omega, ?_⟩
                rw [ea, ht.b hm (by omega) z.1]
                omega
              · by_cases e2 : tl k < (i : Int)
                · exfalso
                  have z := a2 (tl k).toNat (by omega)
                  rw [Int.toNat_of_nonneg (by omega)] at z
                  exact nl ⟨by omega, z⟩
                · omega
            refine ⟨by omega, by omega, ?_⟩
            rw [a3 (by omega), hu]
            unfold pw
            have ei2 : i = (tl k).toNat := by omega
            rw [← ei2]
            have cg : ∀ j : Nat, j ≤ i → pkv (fun t => b (q + t)) j = pkv (fun t => tw k t) j := by
              intro j
              induction j with
              | zero => intro _; rfl
              | succ j ihj =>
                intro hj
                have z := wk.1 j (by omega) (by omega)
                rw [Int.toNat_natCast] at z
                show 256 * pkv (fun t => b (q + t)) j + b (q + j) = 256 * pkv (fun t => tw k t) j + tw k j
                rw [ihj (by omega), z.2]
            exact cg i (Nat.le_refl i)
          · rintro ⟨i0, i8, ev⟩
            rw [a3 (by omega), hu] at ev
            obtain ⟨e1, e2⟩ := pkv_inj i (tl k).toNat a2 (fun j hj => tw_l k hk17 j (by omega)) ev
            refine ⟨fun t t0 t1 => ?_, fun z => c1 ?_⟩
            · have z := e2 t.toNat (by omega)
              rw [Int.toNat_of_nonneg t0] at z
              exact ⟨by omega, z⟩
            · have ei : (i : Int) = tl k := by omega
              rw [ea, ei, ht.b hm (by omega) z.1]
              exact z
        have no : ¬ Wk b n k q → K 0 m := fun hn => h0 q m hm F sk xq hq hn
        refine g_ifT rfl ?_
        refine g_if (fun w => g_C ⟨by decide, no (fun z => by have := iff1.mp z; omega)⟩) (fun w => ?_)
        refine g_C ?_
        refine g_if (fun w2 => g_C ⟨by decide, no (fun z => by have := iff1.mp z; omega)⟩) (fun w2 => ?_)
        refine g_cmp (fun z => g_ifT (by decide) (g_C ⟨by decide, no (fun y => by have := iff1.mp y; omega)⟩)) (fun z => g_ifF (by decide) (g_C ⟨by decide, h1 q m hm F sk xq hq (iff1.mpr ⟨by omega, by omega, z⟩)⟩)) (fun z => g_ifT (by decide) (g_C ⟨by decide, no (fun y => by have := iff1.mp y; omega)⟩))
  exact ⟨401, L 401 0 0 (by omega) (fun t h => absurd h (Nat.not_lt_zero t)) (fun _ => rfl) (by decide)⟩
theorem zx_passWord {X : Mm} {S : Sh} {m0 : Mm} {K : Mm → Prop} {b : Int → Int} {n q : Int} (k : Nat) (hS : Shp S) (hm0 : Inv X S m0) (ht : TR X b n) (hq : m0 336 8 = q) (q0 : 0 ≤ q) (hk17 : k < 17) (wk : Wk b n k q) (hk : ∀ M1 : Mm, Inv X S M1 → (∀ c p : Int, ¬ (c = 336 ∧ 8 ≤ p ∧ p ≤ 8) → M1 c p = m0 c p) → M1 336 8 = q + tl k → q + tl k ≤ n → K M1) : wp_X12_passWord S m0 336 K := by
  have nb := ht.2.1
  have tr := tl_r k hk17
  have le : q + tl k ≤ n := by
    have z := wk.1 (tl k - 1) (by omega) (by omega)
    omega
  have L : ∀ (j : Nat) (m : Mm) (i : Int), Inv X S m → (∀ c p : Int, ¬ (c = 336 ∧ 8 ≤ p ∧ p ≤ 8) → m c p = m0 c p) → m 336 8 = q + i → 0 ≤ i → i ≤ tl k → tl k + 1 - i ≤ (j : Int) → wp_X12_passWord_0 S K j 336 m := by
    intro j
    induction j with
    | zero => intro m i _ _ _ _ _ h; exfalso; omega
    | succ j ih =>
      intro m i hm F e8 i0 i1 h
      have g1 := ht.n hm
      refine u_X12_passWord_0 ?_
      refine g_getu 8 rfl hS.k336 (fun v ev => ?_)
      rw [e8] at ev
      refine ⟨hS.k336, ?_⟩
      refine zl_isLetter hS hm (by omega) (fun c1 c2 c3 => ?_) (fun c1 => ?_)
      · rw [g1] at c1
        rw [ev, ht.b hm (by omega) (by omega)] at c2 c3
        have lt : i < tl k := by
          by_cases e : i = tl k
          · exfalso
            rw [e] at c2 c3
            exact wk.2 ⟨by omega, c2, c3⟩
          · omega
        refine g_ifF (by decide) ?_
        refine g_getu 8 rfl hS.k336 (fun v2 ev2 => ?_)
        refine g_C ?_
        refine g_A (by omega) (by omega) ?_
        refine g_put 8 rfl hS.k336 (hm.w_336_8 (by omega) (by omega)) (fun m2 e2 hm2 => ?_)
        have f2 : ∀ c p : Int, ¬ (c = 336 ∧ p = 8) → m2 c p = m c p := fun c p q => (congrFun (congrFun e2 _) _).trans (up_ne q)
        have x2 : m2 336 8 = v2 + 1 := (congrFun (congrFun e2 _) _).trans (up_at _ _ _ _)
        exact ih m2 (i + 1) hm2 (fun c p z => (f2 c p (by omega)).trans (F c p z)) (by omega) (by omega) (by omega) (by omega)
      · have ei : i = tl k := by
          by_cases e : i = tl k
          · exact e
          · exfalso
            have z := wk.1 i i0 (by omega)
            have z2 := tw_l k hk17 i.toNat (by omega)
            refine c1 ⟨by omega, ?_⟩
            rw [ev, ht.b hm (by omega) z.1]
            omega
        refine g_ifT rfl (hk m hm F (by omega) le)
  exact ⟨(tl k + 1).toNat, L (tl k + 1).toNat m0 0 hm0 (fun _ _ _ => rfl) (by omega) (by omega) (by omega) (by omega)⟩
