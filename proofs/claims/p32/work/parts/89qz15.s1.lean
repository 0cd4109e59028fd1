section
/-! small methods of both sides, to the letter -/
/-- the JUGS that a HAND holds, as bits -/
def hbt (f : Int → Int) (h : Int) : Nat → Int
  | 0 => 0
  | n + 1 => if f n = h then iOr (hbt f h n) (iShl 1 (n : Int)) else hbt f h n
theorem hbt_same {f g : Int → Int} {h : Int} : ∀ n : Nat, (∀ j : Int, 0 ≤ j → j < n → g j = f j) → hbt g h n = hbt f h n := by
  intro n
  induction n with
  | zero => intro _; rfl
  | succ n ih =>
    intro e
    show (if g (n : Int) = h then iOr (hbt g h n) (iShl 1 (n : Int)) else hbt g h n) = (if f (n : Int) = h then iOr (hbt f h n) (iShl 1 (n : Int)) else hbt f h n)
    rw [ih (fun j a c => e j a (by omega)), e (n : Int) (by omega) (by omega)]
theorem or_t : ∀ n : Nat, n < 4 → ∀ v : Nat, v < 2 ^ n → (0 ≤ iOr (v : Int) (iShl 1 (n : Int)) ∧ iOr (v : Int) (iShl 1 (n : Int)) < 2 ^ (n + 1)) := by decide +kernel
theorem or_0 : ∀ v : Nat, v < 16 → iOr (v : Int) 0 = (v : Int) := by decide +kernel
theorem hbt_b {f : Int → Int} {h : Int} : ∀ n : Nat, n ≤ 4 → 0 ≤ hbt f h n ∧ hbt f h n < 2 ^ n := by
  intro n
  induction n with
  | zero => intro _; exact ⟨Int.le_refl 0, by show (0 : Int) < 2 ^ 0; decide⟩
  | succ n ih =>
    intro hn
    have q := ih (by omega)
    show 0 ≤ (if f (n : Int) = h then iOr (hbt f h n) (iShl 1 (n : Int)) else hbt f h n) ∧ (if f (n : Int) = h then iOr (hbt f h n) (iShl 1 (n : Int)) else hbt f h n) < 2 ^ (n + 1)
    by_cases e : f (n : Int) = h
    · rw [if_pos e]
      have z := or_t n (by omega) (hbt f h n).toNat (by
        have c : ((2 ^ n : Nat) : Int) = 2 ^ n := by rw [Int.natCast_pow]; rfl
        omega)
      rw [Int.toNat_of_nonneg q.1] at z
      exact z
    · rw [if_neg e, Int.pow_succ]
      omega
theorem hbt_15 {f : Int → Int} {h : Int} {n : Nat} (hn : n ≤ 4) : 0 ≤ hbt f h n ∧ hbt f h n ≤ 15 := by
  have q := hbt_b (f := f) (h := h) n hn
  rcases (show n = 0 ∨ n = 1 ∨ n = 2 ∨ n = 3 ∨ n = 4 by omega) with e | e | e | e | e <;> subst e
  · exact ⟨q.1, Int.le_trans (Int.le_of_lt q.2) (by decide)⟩
  · exact ⟨q.1, Int.le_trans (Int.le_of_lt q.2) (by decide)⟩
  · exact ⟨q.1, Int.le_trans (Int.le_of_lt q.2) (by decide)⟩
  · exact ⟨q.1, Int.le_trans (Int.le_of_lt q.2) (by decide)⟩
  · exact ⟨q.1, Int.le_of_lt_add_one q.2⟩
/-- JUGS that are not there are held by nobody -/
theorem hbt_ext {f : Int → Int} {h : Int} {n : Nat} : ∀ k : Nat, (∀ j : Int, (n : Int) ≤ j → j < ((n + k : Nat) : Int) → ¬ f j = h) → hbt f h (n + k) = hbt f h n := by
  intro k
  induction k with
  | zero => intro _; rfl
  | succ k ih =>
    intro e
    show (if f ((n + k : Nat) : Int) = h then iOr (hbt f h (n + k)) (iShl 1 ((n + k : Nat) : Int)) else hbt f h (n + k)) = _
    rw [if_neg (e _ (by omega) (by omega))]
    exact ih (fun j a c => e j a (by omega))
theorem zt_heldBits {X : Mm} {S : Sh} {m : Mm} {K : Int → Mm → Prop} {c h : Int} (hS : Shp S) (hm : Inv X S m) (hb : isSt c) (hk : K (hbt (m (c + 5)) h 4) m) : wp_X5_heldBits S m c h K := by
  refine u_X5_heldBits ?_
  refine g_C ?_
  refine g_C ?_
  have L : ∀ (n : Nat) (i : Nat), i ≤ 4 → 5 - (i : Int) ≤ (n : Int) → wp_X5_heldBits_4 S K n c h (hbt (m (c + 5)) h i) (i : Int) m := by
    intro n
    induction n with
    | zero => intro i hi hn; exfalso; omega
    | succ n ih =>
      intro i hi hn
      refine u_X5_heldBits_4 ?_
      refine g_C ?_
      refine g_if (fun w => ?_) (fun w => ?_)
      · have e : i = 4 := by omega
        subst e
        exact hk
      · refine g_getr 6 (c + 5) rfl (hS.kB_5_0 hb) (hm.fB_5_6 hb) (hS.nB_5_5 hb) ?_
        refine g_ldu (hS.kB_5_5 hb) (hS.lB_5_5 hb) (by omega) (by omega) (fun v ev => ?_)
        have nx : ∀ u : Int, u = hbt (m (c + 5)) h (i + 1) → wp_X5_heldBits_25 S (fun a0 a1 a2 a3 M => wp_X5_heldBits_4 S K n a0 a1 a2 a3 M) K c h u (i : Int) m := by
          intro u eu
          rw [eu]
          refine u_X5_heldBits_25 ?_
          refine g_A (by omega) (by omega) ?_
          rw [show (i : Int) + 1 = ((i + 1 : Nat) : Int) by omega]
          exact ih (i + 1) (by omega) (by omega)
        have e1 : hbt (m (c + 5)) h (i + 1) = (if m (c + 5) (i : Int) = h then iOr (hbt (m (c + 5)) h i) (iShl 1 (i : Int)) else hbt (m (c + 5)) h i) := rfl
        refine g_if (fun w2 => ?_) (fun w2 => ?_)
        · exact nx _ (by rw [e1, if_neg (by rw [← ev]; exact w2)])
        · refine g_C ?_
          refine g_Oe (fun a ea => ?_)
          refine g_Oe (fun b eb => ?_)
          refine nx b ?_
          rw [e1, if_pos (by rw [← ev]; omega), eb, ea]
  exact ⟨5, L 5 0 (by decide) (by decide)⟩
theorem zt_held {X : Mm} {S : Sh} {m : Mm} {K : Int → Mm → Prop} {h : Int} (hS : Shp S) (hm : Inv X S m) (hk : K (hbt (fun j => m 346 (36 + 4 * j)) h (m 346 5).toNat) m) : wp_X12_held S m 336 h K := by
  have b5 := hm.f_346_5
  refine u_X12_held ?_
  refine g_C ?_
  refine g_C ?_
  have L : ∀ (n : Nat) (i : Nat), (i : Int) ≤ m 346 5 → 5 - (i : Int) ≤ (n : Int) → wp_X12_held_4 S K n 336 h (hbt (fun j => m 346 (36 + 4 * j)) h i) (i : Int) m := by
    intro n
    induction n with
    | zero => intro i hi hn; exfalso; omega
    | succ n ih =>
      intro i hi hn
      refine u_X12_held_4 ?_
      refine g_getr 20 346 rfl hS.k336 hm.f_336_20 (by decide) ?_
      refine g_C ?_
      refine g_ldu hS.k346 hS.l346 (by omega) (by omega) (fun v ev => ?_)
      refine g_if (fun w => ?_) (fun w => ?_)
      · have e : i = (m 346 5).toNat := by omega
        subst e
        exact hk
      · refine g_C ?_
        refine ⟨hS.k336, ?_⟩
        refine u_X12_jugOf ?_
        refine g_getr 20 346 rfl hS.k336 hm.f_336_20 (by decide) ?_
        refine g_C ?_
        refine g_C ?_
        refine g_M (by omega) (by omega) ?_
        refine g_A (by omega) (by omega) ?_
        refine g_A (by omega) (by omega) ?_
        refine g_ldu hS.k346 hS.l346 (by omega) (by omega) (fun v2 ev2 => ?_)
        rw [show 35 + 4 * (i : Int) + 1 = 36 + 4 * (i : Int) by omega] at ev2
        have bb := hbt_15 (f := fun j => m 346 (36 + 4 * j)) (h := h) (n := i) (by omega)
        have nx : ∀ u : Int, iOr (hbt (fun j => m 346 (36 + 4 * j)) h i) u = hbt (fun j => m 346 (36 + 4 * j)) h (i + 1) → wp_X12_held_32 S (fun a0 a1 a2 a3 M => wp_X12_held_4 S K n a0 a1 a2 a3 M) K 336 h (i : Int) (hbt (fun j => m 346 (36 + 4 * j)) h i) u m := by
          intro u eu
          refine u_X12_held_32 ?_
          refine g_Oe (fun b eb => ?_)
          rw [eb, eu]
          refine g_A (by omega) (by omega) ?_
          rw [show (i : Int) + 1 = ((i + 1 : Nat) : Int) by omega]
          exact ih (i + 1) (by omega) (by omega)
        have e1 : hbt (fun j => m 346 (36 + 4 * j)) h (i + 1) = (if m 346 (36 + 4 * (i : Int)) = h then iOr (hbt (fun j => m 346 (36 + 4 * j)) h i) (iShl 1 (i : Int)) else hbt (fun j => m 346 (36 + 4 * j)) h i) := rfl
        refine g_if (fun w2 => ?_) (fun w2 => ?_)
        · refine g_C ?_
          refine nx 0 ?_
          rw [e1, if_neg (by rw [← ev2]; exact w2)]
          have z := or_0 (hbt (fun j => m 346 (36 + 4 * j)) h i).toNat (by omega)
          rw [Int.toNat_of_nonneg bb.1] at z
          exact z
        · refine g_C ?_
          refine g_Oe (fun a ea => ?_)
          refine nx a ?_
          rw [e1, if_pos (by rw [← ev2]; omega), ea]
  exact ⟨5, L 5 0 (by omega) (by decide)⟩
/-- how many bits there are -/
def bcF (u : Int) : Int :=
  let a := w32 (u - iAnd (iUshr u 1) 1431655765)
  let b := w32 (iAnd a 858993459 + iAnd (iUshr a 2) 858993459)
  let c := iAnd (w32 (b + iUshr b 4)) 252645135
  let d := w32 (c + iUshr c 8)
  iAnd (w32 (d + iUshr d 16)) 63
theorem zt_bitCount {S : Sh} {m : Mm} {K : Int → Mm → Prop} {u : Int} (hk : K (bcF u) m) : wp_J6_bitCount_0f7a4 S m u K := hk
def bcR : Nat → Int → Int → Int
  | 0, n, _ => n
  | k + 1, n, s => if s = 0 then n else bcR k (n + 1) (iAnd s (s - 1))
theorem bc_t : ∀ v : Nat, v < 16 → 0 ≤ bcF (v : Int) ∧ bcF (v : Int) ≤ 4 := by decide +kernel
theorem and_d : ∀ v : Nat, v < 16 → ¬ v = 0 → 0 ≤ iAnd (v : Int) ((v : Int) - 1) ∧ iAnd (v : Int) ((v : Int) - 1) < (v : Int) := by decide +kernel
def dn : Nat → Int → Bool
  | 0, s => s == 0
  | k + 1, s => s == 0 || dn k (iAnd s (s - 1))
theorem dn_t : ∀ v : Nat, v < 16 → dn 4 (v : Int) = true ∧ bcR 4 0 (v : Int) = bcF (v : Int) := by decide +kernel
theorem zt_bits_aux {S : Sh} {m : Mm} {K : Int → Mm → Prop} : ∀ (k : Nat) (n s : Int), 0 ≤ s → s ≤ 15 → 0 ≤ n → n + (k : Int) ≤ 100 → dn k s = true → K (bcR k n s) m → wp_X12_bits_4 S K (k + 1) n s m := by
  intro k
  induction k with
  | zero =>
    intro n s s0 s1 n0 n1 hd hk
    have e : s = 0 := of_decide_eq_true hd
    refine u_X12_bits_4 ?_
    exact g_ifT e hk
  | succ k ih =>
    intro n s s0 s1 n0 n1 hd hk
    refine u_X12_bits_4 ?_
    by_cases e : s = 0
    · refine g_ifT e ?_
      have e2 : bcR (k + 1) n s = n := if_pos e
      rw [e2] at hk
      exact hk
    · refine g_ifF e ?_
      have e2 : bcR (k + 1) n s = bcR k (n + 1) (iAnd s (s - 1)) := if_neg e
      rw [e2] at hk
      have hd2 : dn k (iAnd s (s - 1)) = true := by
        have h : (s == 0 || dn k (iAnd s (s - 1))) = true := hd
        rcases Bool.or_eq_true_iff.mp h with z | z
        · exact absurd (of_decide_eq_true z) e
        · exact z
      have q := and_d s.toNat (by omega) (by omega)
      rw [Int.toNat_of_nonneg s0] at q
      refine g_A (by omega) (by omega) ?_
      refine g_C ?_
      refine g_S (by omega) (by omega) ?_
      refine g_Oe (fun v ev => ?_)
      rw [ev]
      exact ih (n + 1) (iAnd s (s - 1)) q.1 (by omega) (by omega) (by omega) hd2 hk
theorem zt_bits {S : Sh} {m : Mm} {K : Int → Mm → Prop} {u : Int} (h0 : 0 ≤ u) (h1 : u ≤ 15) (hk : K (bcF u) m) : wp_X12_bits S m u K := by
  have q := dn_t u.toNat (by omega)
  rw [Int.toNat_of_nonneg h0] at q
  rw [← q.2] at hk
  refine u_X12_bits ?_
  refine g_C ?_
  exact ⟨5, zt_bits_aux 4 0 u h0 h1 (by decide) (by decide) q.1 hk⟩
/-! small tests of the class -/
theorem zt_jug0 {X : Mm} {S : Sh} {m : Mm} {K : Int → Mm → Prop} {c j : Int} (hS : Shp S) (hm : Inv X S m) (hb : isSt c) (j0 : 0 ≤ j) (j1 : j ≤ 3) (h1 : ¬ m (c + 4) j = -1 → K 1 m) (h0 : m (c + 4) j = -1 → K 0 m) : wp_X5_stands S m c j K := by
  refine u_X5_stands ?_
  refine g_getr 5 (c + 4) rfl (hS.kB_5_0 hb) (hm.fB_5_5 hb) (hS.nB_5_4 hb) ?_
  refine g_ldu (hS.kB_5_4 hb) (hS.lB_5_4 hb) (by omega) (by omega) (fun v ev => ?_)
  refine g_C ?_
  exact g_if (fun w => g_C ⟨by decide, h0 (by omega)⟩) (fun w => g_C ⟨by decide, h1 (by omega)⟩)
theorem zt_atPlace {X : Mm} {S : Sh} {m : Mm} {K : Int → Mm → Prop} {c h : Int} (hS : Shp S) (hm : Inv X S m) (hb : isSt c) (j0 : 0 ≤ h) (j1 : h ≤ 4) (h1 : m (c + 2) h = 0 → K 1 m) (h0 : ¬ m (c + 2) h = 0 → K 0 m) : wp_X5_isAtPlace S m c h K := by
  refine u_X5_isAtPlace ?_
  refine g_getr 3 (c + 2) rfl (hS.kB_5_0 hb) (hm.fB_5_3 hb) (hS.nB_5_2 hb) ?_
  refine g_ldu (hS.kB_5_2 hb) (hS.lB_5_2 hb) (by omega) (by omega) (fun v ev => ?_)
  exact g_if (fun w => g_C ⟨by decide, h0 (by omega)⟩) (fun w => g_C ⟨by decide, h1 (by omega)⟩)
theorem zt_more {X : Mm} {S : Sh} {m : Mm} {K : Int → Mm → Prop} {c h : Int} (hS : Shp S) (hm : Inv X S m) (hb : isSt c) (j0 : 0 ≤ h) (j1 : h ≤ 4) (h1 : m (c + 2) h = 0 → bcF (hbt (m (c + 5)) h 4) < 2 → K 1 m) (h0 : ¬ (m (c + 2) h = 0 ∧ bcF (hbt (m (c + 5)) h 4) < 2) → K 0 m) : wp_X5_canHoldMore S m c h K := by
  refine u_X5_canHoldMore ?_
  refine ⟨hS.kB_5_0 hb, ?_⟩
  refine zt_atPlace hS hm hb j0 j1 (fun w => ?_) (fun w => ?_)
  · refine g_ifF (by decide) ?_
    refine ⟨hS.kB_5_0 hb, ?_⟩
    refine u_X5_howManyHeld ?_
    refine ⟨hS.kB_5_0 hb, ?_⟩
    refine zt_heldBits hS hm hb ?_
    refine zt_bitCount ?_
    refine g_C ?_
    exact g_if (fun w2 => g_C ⟨by decide, h0 (fun z => by omega)⟩) (fun w2 => g_C ⟨by decide, h1 w (by omega)⟩)
  · exact g_ifT rfl (g_C ⟨by decide, h0 (fun z => w z.1)⟩)
theorem zt_canTake {X : Mm} {S : Sh} {m : Mm} {K : Int → Mm → Prop} {c h j : Int} (hS : Shp S) (hm : Inv X S m) (hb : isSt c) (i0 : 0 ≤ h) (i1 : h ≤ 4) (j0 : 0 ≤ j) (j1 : j ≤ 3) (h1 : (¬ m (c + 4) j = -1 ∧ m (c + 4) j = m (c + 1) h ∧ m (c + 2) h = 0 ∧ bcF (hbt (m (c + 5)) h 4) < 2) → K 1 m) (h0 : ¬ (¬ m (c + 4) j = -1 ∧ m (c + 4) j = m (c + 1) h ∧ m (c + 2) h = 0 ∧ bcF (hbt (m (c + 5)) h 4) < 2) → K 0 m) : wp_X5_canTake S m c h j K := by
  refine u_X5_canTake ?_
  refine ⟨hS.kB_5_0 hb, ?_⟩
  refine zt_jug0 hS hm hb j0 j1 (fun w => ?_) (fun w => g_ifT rfl (g_C ⟨by decide, h0 (fun z => z.1 w)⟩))
  refine g_ifF (by decide) ?_
  refine g_getr 5 (c + 4) rfl (hS.kB_5_0 hb) (hm.fB_5_5 hb) (hS.nB_5_4 hb) ?_
  refine g_ldu (hS.kB_5_4 hb) (hS.lB_5_4 hb) (by omega) (by omega) (fun v ev => ?_)
  refine g_getr 2 (c + 1) rfl (hS.kB_5_0 hb) (hm.fB_5_2 hb) (hS.nB_5_1 hb) ?_
  refine g_ldu (hS.kB_5_1 hb) (hS.lB_5_1 hb) (by omega) (by omega) (fun v2 ev2 => ?_)
  refine g_if (fun w2 => g_C ⟨by decide, h0 (fun z => w2 (by rw [ev, ev2]; exact z.2.1))⟩) (fun w2 => ?_)
  refine ⟨hS.kB_5_0 hb, ?_⟩
  exact zt_more hS hm hb i0 i1 (fun z1 z2 => g_ifF (by decide) (g_C ⟨by decide, h1 ⟨w, by omega, z1, z2⟩⟩)) (fun z => g_ifT rfl (g_C ⟨by decide, h0 (fun y => z ⟨y.2.2.1, y.2.2.2⟩)⟩))
theorem zt_canGive {X : Mm} {S : Sh} {m : Mm} {K : Int → Mm → Prop} {c g h : Int} (hS : Shp S) (hm : Inv X S m) (hb : isSt c) (g0 : 0 ≤ g) (g1 : g ≤ 4) (i0 : 0 ≤ h) (i1 : h ≤ 4) (h1 : (m (c + 2) g = 0 ∧ m (c + 1) g = m (c + 1) h ∧ m (c + 2) h = 0 ∧ bcF (hbt (m (c + 5)) h 4) < 2) → K 1 m) (h0 : ¬ (m (c + 2) g = 0 ∧ m (c + 1) g = m (c + 1) h ∧ m (c + 2) h = 0 ∧ bcF (hbt (m (c + 5)) h 4) < 2) → K 0 m) : wp_X5_canGive S m c g h K := by
  refine u_X5_canGive ?_
  refine ⟨hS.kB_5_0 hb, ?_⟩
  refine zt_atPlace hS hm hb g0 g1 (fun w => ?_) (fun w => g_ifT rfl (g_C ⟨by decide, h0 (fun z => w z.1)⟩))
  refine g_ifF (by decide) ?_
  refine g_getr 2 (c + 1) rfl (hS.kB_5_0 hb) (hm.fB_5_2 hb) (hS.nB_5_1 hb) ?_
  refine g_ldu (hS.kB_5_1 hb) (hS.lB_5_1 hb) (by omega) (by omega) (fun v ev => ?_)
  refine g_getr 2 (c + 1) rfl (hS.kB_5_0 hb) (hm.fB_5_2 hb) (hS.nB_5_1 hb) ?_
  refine g_ldu (hS.kB_5_1 hb) (hS.lB_5_1 hb) (by omega) (by omega) (fun v2 ev2 => ?_)
  refine g_if (fun w2 => g_C ⟨by decide, h0 (fun z => w2 (by rw [ev, ev2]; exact z.2.1))⟩) (fun w2 => ?_)
  refine ⟨hS.kB_5_0 hb, ?_⟩
  exact zt_more hS hm hb i0 i1 (fun z1 z2 => g_ifF (by decide) (g_C ⟨by decide, h1 ⟨w, by omega, z1, z2⟩⟩)) (fun z => g_ifT rfl (g_C ⟨by decide, h0 (fun y => z ⟨y.2.2.1, y.2.2.2⟩)⟩))
/-! small tests of the reference -/
theorem zt_jugOf {X : Mm} {S : Sh} {m : Mm} {K : Int → Mm → Prop} {j w : Int} (hS : Shp S) (hm : Inv X S m) (j0 : 0 ≤ j) (j1 : j ≤ 3) (w0 : 0 ≤ w) (w1 : w ≤ 3) (hk : K (m 346 (35 + 4 * j + w)) m) : wp_X12_jugOf S m 336 j w K := by
  refine u_X12_jugOf ?_
  refine g_getr 20 346 rfl hS.k336 hm.f_336_20 (by decide) ?_
  refine g_C ?_
  refine g_C ?_
  refine g_M (by omega) (by omega) ?_
  refine g_A (by omega) (by omega) ?_
  refine g_A (by omega) (by omega) ?_
  refine g_ldu hS.k346 hS.l346 (by omega) (by omega) (fun v ev => ?_)
  rw [ev]
  exact hk
theorem zt_handOf {X : Mm} {S : Sh} {m : Mm} {K : Int → Mm → Prop} {j w : Int} (hS : Shp S) (hm : Inv X S m) (j0 : 0 ≤ j) (j1 : j ≤ 4) (w0 : 0 ≤ w) (w1 : w ≤ 4) (hk : K (m 346 (10 + 5 * j + w)) m) : wp_X12_handOf S m 336 j w K := by
  refine u_X12_handOf ?_
  refine g_getr 20 346 rfl hS.k336 hm.f_336_20 (by decide) ?_
  refine g_C ?_
  refine g_C ?_
  refine g_M (by omega) (by omega) ?_
  refine g_A (by omega) (by omega) ?_
  refine g_A (by omega) (by omega) ?_
  refine g_ldu hS.k346 hS.l346 (by omega) (by omega) (fun v ev => ?_)
  rw [ev]
  exact hk
theorem zt_wantOf {X : Mm} {S : Sh} {m : Mm} {K : Int → Mm → Prop} {j w : Int} (hS : Shp S) (hm : Inv X S m) (j0 : 0 ≤ j) (j1 : j ≤ 5) (w0 : 0 ≤ w) (w1 : w ≤ 3) (hk : K (m 346 (93 + 4 * j + w)) m) : wp_X12_wantOf S m 336 j w K := by
  refine u_X12_wantOf ?_
  refine g_getr 20 346 rfl hS.k336 hm.f_336_20 (by decide) ?_
  refine g_C ?_
  refine g_C ?_
  refine g_M (by omega) (by omega) ?_
  refine g_A (by omega) (by omega) ?_
  refine g_A (by omega) (by omega) ?_
  refine g_ldu hS.k346 hS.l346 (by omega) (by omega) (fun v ev => ?_)
  rw [ev]
  exact hk
/-- a JUG stands, by the reference -/
def StR (m : Mm) (j : Int) : Prop := m 346 (35 + 4 * j + 1) < 0 ∧ m 346 (35 + 4 * j + 3) = 0
theorem zt_stands {X : Mm} {S : Sh} {m : Mm} {K : Int → Mm → Prop} {j : Int} (hS : Shp S) (hm : Inv X S m) (j0 : 0 ≤ j) (j1 : j ≤ 3) (h1 : StR m j → K 1 m) (h0 : ¬ StR m j → K 0 m) : wp_X12_stands S m 336 j K := by
  refine u_X12_stands ?_
  refine g_C ?_
  refine ⟨hS.k336, ?_⟩
  refine zt_jugOf hS hm j0 j1 (by decide) (by decide) ?_
  refine g_if (fun w => g_C ⟨by decide, h0 (fun z => by have := z.1; omega)⟩) (fun w => ?_)
  refine g_C ?_
  refine ⟨hS.k336, ?_⟩
  refine zt_jugOf hS hm j0 j1 (by decide) (by decide) ?_
  exact g_if (fun w2 => g_C ⟨by decide, h0 (fun z => w2 z.2)⟩) (fun w2 => g_C ⟨by decide, h1 ⟨by omega, by omega⟩⟩)
theorem zt_atR {X : Mm} {S : Sh} {m : Mm} {K : Int → Mm → Prop} {h : Int} (hS : Shp S) (hm : Inv X S m) (j0 : 0 ≤ h) (j1 : h ≤ 4) (h1 : m 346 (10 + 5 * h + 1) = 0 → K 1 m) (h0 : ¬ m 346 (10 + 5 * h + 1) = 0 → K 0 m) : wp_X12_isAtPlace S m 336 h K := by
  refine u_X12_isAtPlace ?_
  refine g_C ?_
  refine ⟨hS.k336, ?_⟩
  refine zt_handOf hS hm j0 j1 (by decide) (by decide) ?_
  exact g_if (fun w => g_C ⟨by decide, h0 w⟩) (fun w => g_C ⟨by decide, h1 (by omega)⟩)
/-- as bits, by the reference -/
def hbR (m : Mm) (h : Int) : Int := hbt (fun j => m 346 (36 + 4 * j)) h (m 346 5).toNat
theorem zt_takeR {X : Mm} {S : Sh} {m : Mm} {K : Int → Mm → Prop} {h j : Int} (hS : Shp S) (hm : Inv X S m) (i0 : 0 ≤ h) (i1 : h ≤ 4) (j0 : 0 ≤ j) (j1 : j ≤ 3) (h1 : (m 346 (10 + 5 * h + 1) = 0 ∧ StR m j ∧ m 346 (35 + 4 * j + 0) = m 346 (10 + 5 * h + 0) ∧ bcF (hbR m h) < 2) → K 1 m) (h0 : ¬ (m 346 (10 + 5 * h + 1) = 0 ∧ StR m j ∧ m 346 (35 + 4 * j + 0) = m 346 (10 + 5 * h + 0) ∧ bcF (hbR m h) < 2) → K 0 m) : wp_X12_canTake S m 336 h j K := by
  have b5 := hm.f_346_5
  refine u_X12_canTake ?_
  refine ⟨hS.k336, ?_⟩
  refine zt_atR hS hm i0 i1 (fun w1 => ?_) (fun w1 => g_ifT rfl (g_C ⟨by decide, h0 (fun z => w1 z.1)⟩))
  refine g_ifF (by decide) ?_
  refine ⟨hS.k336, ?_⟩
  refine zt_stands hS hm j0 j1 (fun w2 => ?_) (fun w2 => g_ifT rfl (g_C ⟨by decide, h0 (fun z => w2 z.2.1)⟩))
  refine g_ifF (by decide) ?_
  refine g_C ?_
  refine ⟨hS.k336, ?_⟩
  refine zt_jugOf hS hm j0 j1 (by decide) (by decide) ?_
  refine g_C ?_
  refine ⟨hS.k336, ?_⟩
  refine zt_handOf hS hm i0 i1 (by decide) (by decide) ?_
  refine g_if (fun w3 => g_C ⟨by decide, h0 (fun z => w3 z.2.2.1)⟩) (fun w3 => ?_)
  refine ⟨hS.k336, ?_⟩
  refine zt_held hS hm ?_
  have bb := hbt_15 (f := fun j => m 346 (36 + 4 * j)) (h := h) (n := (m 346 5).toNat) (by omega)
  refine zt_bits bb.1 bb.2 ?_
  refine g_C ?_
  refine g_if (fun w4 => g_C ⟨by decide, h0 (fun z => ?_)⟩) (fun w4 => g_C ⟨by decide, h1 ⟨w1, w2, by omega, ?_⟩⟩)
  · have z2 : bcF (hbt (fun j => m 346 (36 + 4 * j)) h (m 346 5).toNat) < 2 := z.2.2.2
    omega
  · show bcF (hbt (fun j => m 346 (36 + 4 * j)) h (m 346 5).toNat) < 2
    omega
end
section
/-! a STATE of the class (cell c) beside the reference's row D -/
def SRj (M : Mm) (c : Int) (D : Int → Int) (j : Int) : Prop := M (c + 5) j = D (35 + 4 * j + 1) ∧ M (c + 6) j = D (35 + 4 * j + 2) ∧ ((M (c + 4) j = D (35 + 4 * j) ∧ D (35 + 4 * j + 1) = -1 ∧ D (35 + 4 * j + 3) = 0 ∧ 0 ≤ D (35 + 4 * j)) ∨ (M (c + 4) j = -1 ∧ 0 ≤ D (35 + 4 * j + 1) ∧ D (35 + 4 * j + 1) < D 4 ∧ D (35 + 4 * j + 3) = 0) ∨ (M (c + 4) j = -1 ∧ D (35 + 4 * j + 1) = -1 ∧ D (35 + 4 * j + 3) = 1))
def SRh (M : Mm) (c : Int) (D : Int → Int) (i : Int) : Prop := M (c + 1) i = D (10 + 5 * i) ∧ M (c + 2) i = D (10 + 5 * i + 1) ∧ M (c + 3) i = D (10 + 5 * i + 2)
def SR (M : Mm) (c : Int) (D : Int → Int) : Prop := (M c 0 = D 7 ∧ M c 1 = D 8) ∧ (∀ i : Int, 0 ≤ i → i < D 4 → SRh M c D i) ∧ (∀ j : Int, 0 ≤ j → j < D 5 → SRj M c D j) ∧ (∀ j : Int, D 5 ≤ j → j < 4 → M (c + 4) j = -1 ∧ M (c + 5) j = -1) ∧ (∀ w : Int, 0 ≤ w → w < D 6 → M (c + 7) w = D (51 + w))
theorem SRj.same {M M' : Mm} {c j : Int} {D D' : Int → Int} (h : SRj M c D j) (h4 : M' (c + 4) j = M (c + 4) j) (h5 : M' (c + 5) j = M (c + 5) j) (h6 : M' (c + 6) j = M (c + 6) j) (g0 : D' (35 + 4 * j) = D (35 + 4 * j)) (g1 : D' (35 + 4 * j + 1) = D (35 + 4 * j + 1)) (g2 : D' (35 + 4 * j + 2) = D (35 + 4 * j + 2)) (g3 : D' (35 + 4 * j + 3) = D (35 + 4 * j + 3)) (g4 : D' 4 = D 4) : SRj M' c D' j := by
  unfold SRj at h ⊢
  rw [h4, h5, h6, g0, g1, g2, g3, g4]
  exact h
theorem SRh.same {M M' : Mm} {c i : Int} {D D' : Int → Int} (h : SRh M c D i) (h1 : M' (c + 1) i = M (c + 1) i) (h2 : M' (c + 2) i = M (c + 2) i) (h3 : M' (c + 3) i = M (c + 3) i) (g0 : D' (10 + 5 * i) = D (10 + 5 * i)) (g1 : D' (10 + 5 * i + 1) = D (10 + 5 * i + 1)) (g2 : D' (10 + 5 * i + 2) = D (10 + 5 * i + 2)) : SRh M' c D' i := by
  unfold SRh at h ⊢
  rw [h1, h2, h3, g0, g1, g2]
  exact h
/-- one JUG changes -/
theorem SR.jug {M M' : Mm} {c j : Int} {D D' : Int → Int} (r : SR M c D) (b4 : 0 ≤ D 4 ∧ D 4 ≤ 5) (b5 : D 5 ≤ 4) (b6 : D 6 ≤ 6) (hj : 0 ≤ j ∧ j < D 5) (F : ∀ c' p : Int, ¬ (p = j ∧ (c' = c + 4 ∨ c' = c + 5 ∨ c' = c + 6)) → c ≤ c' ∧ c' ≤ c + 7 → M' c' p = M c' p) (G : ∀ p : Int, ¬ (35 + 4 * j ≤ p ∧ p ≤ 35 + 4 * j + 3) → D' p = D p) (x : SRj M' c D' j) : SR M' c D' := by
  obtain ⟨⟨r1, r2⟩, r3, r4, r5, r6⟩ := r
  have g4 : D' 4 = D 4 := G 4 (by omega)
  have g5 : D' 5 = D 5 := G 5 (by omega)
  have g6 : D' 6 = D 6 := G 6 (by omega)
  refine ⟨⟨by rw [F c 0 (by omega) (by omega), G 7 (by omega)]; exact r1, by rw [F c 1 (by omega) (by omega), G 8 (by omega)]; exact r2⟩, fun i i0 i1 => ?_, fun k k0 k1 => ?_, fun k k0 k1 => ?_, fun w w0 w1 => ?_⟩
  · rw [g4] at i1
    exact (r3 i i0 i1).same (F _ _ (by omega) (by omega)) (F _ _ (by omega) (by omega)) (F _ _ (by omega) (by omega)) (G _ (by omega)) (G _ (by omega)) (G _ (by omega))
  · rw [g5] at k1
    by_cases e : k = j
    · rw [e]; exact x
    · exact (r4 k k0 k1).same (F _ _ (by omega) (by omega)) (F _ _ (by omega) (by omega)) (F _ _ (by omega) (by omega)) (G _ (by omega)) (G _ (by omega)) (G _ (by omega)) (G _ (by omega)) g4
  · rw [g5] at k0
    rw [F (c + 4) k (by omega) (by omega), F (c + 5) k (by omega) (by omega)]
    exact r5 k k0 k1
  · rw [g6] at w1
    rw [F (c + 7) w (by omega) (by omega), G _ (by omega)]
    exact r6 w w0 w1
/-- one HAND changes -/
theorem SR.hand {M M' : Mm} {c i : Int} {D D' : Int → Int} (r : SR M c D) (b4 : D 4 ≤ 5) (b5 : D 5 ≤ 4) (b6 : D 6 ≤ 6) (hi : 0 ≤ i ∧ i < D 4) (F : ∀ c' p : Int, ¬ (p = i ∧ (c' = c + 1 ∨ c' = c + 2 ∨ c' = c + 3)) → c ≤ c' ∧ c' ≤ c + 7 → M' c' p = M c' p) (G : ∀ p : Int, ¬ (10 + 5 * i ≤ p ∧ p ≤ 10 + 5 * i + 2) → D' p = D p) (x : SRh M' c D' i) : SR M' c D' := by
  obtain ⟨⟨r1, r2⟩, r3, r4, r5, r6⟩ := r
  have g4 : D' 4 = D 4 := G 4 (by omega)
  have g5 : D' 5 = D 5 := G 5 (by omega)
  have g6 : D' 6 = D 6 := G 6 (by omega)
  refine ⟨⟨by rw [F c 0 (by omega) (by omega), G 7 (by omega)]; exact r1, by rw [F c 1 (by omega) (by omega), G 8 (by omega)]; exact r2⟩, fun k k0 k1 => ?_, fun k k0 k1 => ?_, fun k k0 k1 => ?_, fun w w0 w1 => ?_⟩
  · rw [g4] at k1
    by_cases e : k = i
    · rw [e]; exact x
    · exact (r3 k k0 k1).same (F _ _ (by omega) (by omega)) (F _ _ (by omega) (by omega)) (F _ _ (by omega) (by omega)) (G _ (by omega)) (G _ (by omega)) (G _ (by omega))
  · rw [g5] at k1
    exact (r4 k k0 k1).same (F _ _ (by omega) (by omega)) (F _ _ (by omega) (by omega)) (F _ _ (by omega) (by omega)) (G _ (by omega)) (G _ (by omega)) (G _ (by omega)) (G _ (by omega)) g4
  · rw [g5] at k0
    rw [F (c + 4) k (by omega) (by omega), F (c + 5) k (by omega) (by omega)]
    exact r5 k k0 k1
  · rw [g6] at w1
    rw [F (c + 7) w (by omega) (by omega), G _ (by omega)]
    exact r6 w w0 w1
/-- both sides hold the same JUGS in a HAND -/
theorem SR.held {X : Mm} {S : Sh} {M : Mm} {c h : Int} (hm : Inv X S M) (r : SR M c (M 346)) (h0 : 0 ≤ h) : hbt (M (c + 5)) h 4 = hbR M h := by
  have b5 := hm.f_346_5
  obtain ⟨_, _, r4, r5, _⟩ := r
  unfold hbR
  have e : (4 : Nat) = (M 346 5).toNat + (4 - (M 346 5).toNat) := by omega
  rw [e, hbt_ext _ (fun j j0 j1 => ?_)]
  · refine hbt_same _ (fun j j0 j1 => ?_)
    have q := (r4 j j0 (by omega)).1
    show M (c + 5) j = M 346 (36 + 4 * j)
    rw [q]
    congr 1
    omega
  · have q := (r5 j (by omega) (by omega)).2
    omega
end
section
/-! what is alike on both sides: a SCENE of the class (cells s ..) beside a row D of the reference -/
def DB (D : Int → Int) : Prop := (0 ≤ D 4 ∧ D 4 ≤ 5) ∧ (0 ≤ D 5 ∧ D 5 ≤ 4) ∧ (0 ≤ D 6 ∧ D 6 ≤ 6) ∧ (0 ≤ D 9 ∧ D 9 ≤ 4) ∧ (0 ≤ D 157 ∧ D 157 ≤ 10)
def TT (M : Mm) (s : Int) (D : Int → Int) : Prop := M s 4 = D 157 ∧ ∀ i : Int, 0 ≤ i → i < D 157 → M (s + 21) i = D (117 + 4 * i) ∧ M (s + 22) i = D (117 + 4 * i + 1) ∧ M (s + 23) i = D (117 + 4 * i + 2) ∧ M (s + 24) i = D (117 + 4 * i + 3)
/-- which places of the cells of a DAIRY as told, and of a STATE, count -/
abbrev inT (c p : Int) : Prop := 0 ≤ p ∧ (((c = 1 ∨ c = 2) ∧ p < 36) ∨ ((c = 3 ∨ c = 4) ∧ p < 5) ∨ (5 ≤ c ∧ c ≤ 7 ∧ p < 4) ∨ (8 ≤ c ∧ c ≤ 11 ∧ p < 6))
abbrev inS (c p : Int) : Prop := 0 ≤ p ∧ ((1 ≤ c ∧ c ≤ 3 ∧ p < 5) ∨ (4 ≤ c ∧ c ≤ 6 ∧ p < 4) ∨ (c = 7 ∧ p < 6))
/-- what of a row is told -/
abbrev tp (p : Int) : Prop := (0 ≤ p ∧ p ≤ 6) ∨ p = 9 ∨ (10 ≤ p ∧ p < 35 ∧ 3 ≤ (p - 10) % 5) ∨ (57 ≤ p ∧ p < 117)
theorem Rt_move {D D' : Int → Int} {a c : Int} (b3 : D 3 ≤ 8) (G : ∀ p : Int, tp p → D' p = D p) : Rt D' a c → Rt D a c := by
  intro h
  obtain ⟨k, k0, k1, k2⟩ := h
  rw [G 3 (by omega)] at k1
  rw [G (57 + 3 * k) (by omega), G (57 + 3 * k + 1) (by omega)] at k2
  exact ⟨k, k0, k1, k2⟩
theorem TL.move {M M' : Mm} {u u' : Int} {D D' : Int → Int} (h : TL u D M) (b : DB D) (b3 : D 3 ≤ 8) (h0 : ∀ p : Int, 0 ≤ p → p < 8 → M' u' p = M u p) (hh : ∀ c p : Int, inT c p → M' (u' + c) p = M (u + c) p) (G : ∀ p : Int, tp p → D' p = D p) : TL u' D' M' := by
  obtain ⟨⟨c0, c1, c2, c3, c4, c5, c6, c7⟩, r, hs, ts, ws⟩ := h
  obtain ⟨b4, b5, b6, b9, b157⟩ := b
  have g3 := G 3 (by omega)
  have g4 := G 4 (by omega)
  have g6 := G 6 (by omega)
  have g9 := G 9 (by omega)
  refine ⟨⟨?_, ?_, ?_, ?_, ?_, ?_, ?_, ?_⟩, fun a c a0 a5 c0' c5' => ?_, fun i i0 i1 => ?_, fun i i0 i1 => ?_, fun i i0 i1 => ?_⟩
  · rw [h0 0 (by omega) (by first | decide | exact fun z => absurd z.1 (by decide) | exact ⟨fun z => absurd z.1 (by decide), fun z => absurd z.1 (by decide)⟩ | omega), G 0 (by omega)]; exact c0
  · rw [h0 1 (by omega) (by first | decide | exact fun z => absurd z.1 (by decide) | exact ⟨fun z => absurd z.1 (by decide), fun z => absurd z.1 (by decide)⟩ | omega), G 1 (by omega)]; exact c1
  · rw [h0 2 (by omega) (by first | decide | exact fun z => absurd z.1 (by decide) | exact ⟨fun z => absurd z.1 (by decide), fun z => absurd z.1 (by decide)⟩ | omega), G 2 (by omega)]; exact c2
  · rw [h0 3 (by omega) (by first | decide | exact fun z => absurd z.1 (by decide) | exact ⟨fun z => absurd z.1 (by decide), fun z => absurd z.1 (by decide)⟩ | omega), g3]; exact c3
  · rw [h0 4 (by omega) (by first | decide | exact fun z => absurd z.1 (by decide) | exact ⟨fun z => absurd z.1 (by decide), fun z => absurd z.1 (by decide)⟩ | omega), g4]; exact c4
  · rw [h0 5 (by omega) (by first | decide | exact fun z => absurd z.1 (by decide) | exact ⟨fun z => absurd z.1 (by decide), fun z => absurd z.1 (by decide)⟩ | omega), G 5 (by omega)]; exact c5
  · rw [h0 6 (by omega) (by first | decide | exact fun z => absurd z.1 (by decide) | exact ⟨fun z => absurd z.1 (by decide), fun z => absurd z.1 (by decide)⟩ | omega), g9]; exact c6
  · rw [h0 7 (by omega) (by first | decide | exact fun z => absurd z.1 (by decide) | exact ⟨fun z => absurd z.1 (by decide), fun z => absurd z.1 (by decide)⟩ | omega), g6]; exact c7
  · rw [hh 1 (6 * a + c) (by first | decide | exact fun z => absurd z.1 (by decide) | exact ⟨fun z => absurd z.1 (by decide), fun z => absurd z.1 (by decide)⟩ | omega)]
    rcases r a c a0 a5 c0' c5' with ⟨e, n⟩ | ⟨e, k, k0, k1, k2, k3⟩
    · exact Or.inl ⟨e, fun q => n (Rt_move b3 G q)⟩
    · refine Or.inr ⟨e, k, k0, by rw [g3]; exact k1, ?_, ?_⟩
      · rw [G (57 + 3 * k) (by omega), G (57 + 3 * k + 1) (by omega)]; exact k2
      · rw [G (57 + 3 * k + 2) (by omega)]; exact k3
  · rw [g4] at i1
    rw [hh 3 i (by first | decide | exact fun z => absurd z.1 (by decide) | exact ⟨fun z => absurd z.1 (by decide), fun z => absurd z.1 (by decide)⟩ | omega), hh 4 i (by first | decide | exact fun z => absurd z.1 (by decide) | exact ⟨fun z => absurd z.1 (by decide), fun z => absurd z.1 (by decide)⟩ | omega), G (10 + 5 * i + 3) (by omega), G (10 + 5 * i + 4) (by omega)]
    exact hs i i0 i1
  · rw [g9] at i1
    rw [hh 5 i (by first | decide | exact fun z => absurd z.1 (by decide) | exact ⟨fun z => absurd z.1 (by decide), fun z => absurd z.1 (by decide)⟩ | omega), hh 6 i (by first | decide | exact fun z => absurd z.1 (by decide) | exact ⟨fun z => absurd z.1 (by decide), fun z => absurd z.1 (by decide)⟩ | omega), hh 7 i (by first | decide | exact fun z => absurd z.1 (by decide) | exact ⟨fun z => absurd z.1 (by decide), fun z => absurd z.1 (by decide)⟩ | omega), G (81 + 3 * i) (by omega), G (81 + 3 * i + 1) (by omega), G (81 + 3 * i + 2) (by omega)]
    exact ts i i0 i1
  · rw [g6] at i1
    rw [hh 8 i (by first | decide | exact fun z => absurd z.1 (by decide) | exact ⟨fun z => absurd z.1 (by decide), fun z => absurd z.1 (by decide)⟩ | omega), hh 9 i (by first | decide | exact fun z => absurd z.1 (by decide) | exact ⟨fun z => absurd z.1 (by decide), fun z => absurd z.1 (by decide)⟩ | omega), hh 10 i (by first | decide | exact fun z => absurd z.1 (by decide) | exact ⟨fun z => absurd z.1 (by decide), fun z => absurd z.1 (by decide)⟩ | omega), hh 11 i (by first | decide | exact fun z => absurd z.1 (by decide) | exact ⟨fun z => absurd z.1 (by decide), fun z => absurd z.1 (by decide)⟩ | omega), G (93 + 4 * i) (by omega), G (93 + 4 * i + 1) (by omega), G (93 + 4 * i + 2) (by omega), G (93 + 4 * i + 3) (by omega)]
    exact ws i i0 i1
theorem SR.move {M M' : Mm} {u u' : Int} {D D' : Int → Int} (h : SR M u D) (b : DB D) (h0 : ∀ p : Int, 0 ≤ p → p < 2 → M' u' p = M u p) (hh : ∀ c p : Int, inS c p → M' (u' + c) p = M (u + c) p) (G : ∀ p : Int, 0 ≤ p → p < 57 → D' p = D p) : SR M' u' D' := by
  obtain ⟨⟨r1, r2⟩, r3, r4, r5, r6⟩ := h
  obtain ⟨b4, b5, b6, b9, b157⟩ := b
  have g4 := G 4 (by omega) (by omega)
  have g5 := G 5 (by omega) (by omega)
  have g6 := G 6 (by omega) (by omega)
  refine ⟨⟨?_, ?_⟩, fun i i0 i1 => ?_, fun j j0 j1 => ?_, fun j j0 j1 => ?_, fun w w0 w1 => ?_⟩
  · rw [h0 0 (by omega) (by first | decide | exact fun z => absurd z.1 (by decide) | exact ⟨fun z => absurd z.1 (by decide), fun z => absurd z.1 (by decide)⟩ | omega), G 7 (by omega) (by omega)]; exact r1
  · rw [h0 1 (by omega) (by first | decide | exact fun z => absurd z.1 (by decide) | exact ⟨fun z => absurd z.1 (by decide), fun z => absurd z.1 (by decide)⟩ | omega), G 8 (by omega) (by omega)]; exact r2
  · rw [g4] at i1
    have q := r3 i i0 i1
    unfold SRh at q ⊢
    rw [hh 1 i (by first | decide | exact fun z => absurd z.1 (by decide) | exact ⟨fun z => absurd z.1 (by decide), fun z => absurd z.1 (by decide)⟩ | omega), hh 2 i (by first | decide | exact fun z => absurd z.1 (by decide) | exact ⟨fun z => absurd z.1 (by decide), fun z => absurd z.1 (by decide)⟩ | omega), hh 3 i (by first | decide | exact fun z => absurd z.1 (by decide) | exact ⟨fun z => absurd z.1 (by decide), fun z => absurd z.1 (by decide)⟩ | omega), G (10 + 5 * i) (by omega) (by omega), G (10 + 5 * i + 1) (by omega) (by omega), G (10 + 5 * i + 2) (by omega) (by omega)]
    exact q
  · rw [g5] at j1
    have q := r4 j j0 j1
    unfold SRj at q ⊢
    rw [hh 4 j (by first | decide | exact fun z => absurd z.1 (by decide) | exact ⟨fun z => absurd z.1 (by decide), fun z => absurd z.1 (by decide)⟩ | omega), hh 5 j (by first | decide | exact fun z => absurd z.1 (by decide) | exact ⟨fun z => absurd z.1 (by decide), fun z => absurd z.1 (by decide)⟩ | omega), hh 6 j (by first | decide | exact fun z => absurd z.1 (by decide) | exact ⟨fun z => absurd z.1 (by decide), fun z => absurd z.1 (by decide)⟩ | omega), G (35 + 4 * j) (by omega) (by omega), G (35 + 4 * j + 1) (by omega) (by omega), G (35 + 4 * j + 2) (by omega) (by omega), G (35 + 4 * j + 3) (by omega) (by omega), g4]
    exact q
  · rw [g5] at j0
    rw [hh 4 j (by first | decide | exact fun z => absurd z.1 (by decide) | exact ⟨fun z => absurd z.1 (by decide), fun z => absurd z.1 (by decide)⟩ | omega), hh 5 j (by first | decide | exact fun z => absurd z.1 (by decide) | exact ⟨fun z => absurd z.1 (by decide), fun z => absurd z.1 (by decide)⟩ | omega)]
    exact r5 j j0 j1
  · rw [g6] at w1
    rw [hh 7 w (by first | decide | exact fun z => absurd z.1 (by decide) | exact ⟨fun z => absurd z.1 (by decide), fun z => absurd z.1 (by decide)⟩ | omega), G (51 + w) (by omega) (by omega)]
    exact r6 w w0 w1
theorem TT.move {M M' : Mm} {s s' : Int} {D D' : Int → Int} (h : TT M s D) (b : DB D) (h0 : M' s' 4 = M s 4) (hh : ∀ c p : Int, 21 ≤ c → c ≤ 24 → 0 ≤ p → p < 10 → M' (s' + c) p = M (s + c) p) (G : ∀ p : Int, 117 ≤ p → p < 158 → D' p = D p) : TT M' s' D' := by
  obtain ⟨r1, r2⟩ := h
  obtain ⟨b4, b5, b6, b9, b157⟩ := b
  have g := G 157 (by omega) (by omega)
  refine ⟨by rw [h0, g]; exact r1, fun i i0 i1 => ?_⟩
  rw [g] at i1
  rw [hh 21 i (by first | decide | exact fun z => absurd z.1 (by decide) | exact ⟨fun z => absurd z.1 (by decide), fun z => absurd z.1 (by decide)⟩ | omega) (by first | decide | exact fun z => absurd z.1 (by decide) | exact ⟨fun z => absurd z.1 (by decide), fun z => absurd z.1 (by decide)⟩ | omega) i0 (by omega), hh 22 i (by first | decide | exact fun z => absurd z.1 (by decide) | exact ⟨fun z => absurd z.1 (by decide), fun z => absurd z.1 (by decide)⟩ | omega) (by first | decide | exact fun z => absurd z.1 (by decide) | exact ⟨fun z => absurd z.1 (by decide), fun z => absurd z.1 (by decide)⟩ | omega) i0 (by omega), hh 23 i (by first | decide | exact fun z => absurd z.1 (by decide) | exact ⟨fun z => absurd z.1 (by decide), fun z => absurd z.1 (by decide)⟩ | omega) (by first | decide | exact fun z => absurd z.1 (by decide) | exact ⟨fun z => absurd z.1 (by decide), fun z => absurd z.1 (by decide)⟩ | omega) i0 (by omega), hh 24 i (by first | decide | exact fun z => absurd z.1 (by decide) | exact ⟨fun z => absurd z.1 (by decide), fun z => absurd z.1 (by decide)⟩ | omega) (by first | decide | exact fun z => absurd z.1 (by decide) | exact ⟨fun z => absurd z.1 (by decide), fun z => absurd z.1 (by decide)⟩ | omega) i0 (by omega), G (117 + 4 * i) (by omega) (by omega), G (117 + 4 * i + 1) (by omega) (by omega), G (117 + 4 * i + 2) (by omega) (by omega), G (117 + 4 * i + 3) (by omega) (by omega)]
  exact r2 i i0 i1
theorem DB.move {D D' : Int → Int} (b : DB D) (G : ∀ p : Int, (p = 4 ∨ p = 5 ∨ p = 6 ∨ p = 9 ∨ p = 157) → D' p = D p) : DB D' := by
  unfold DB
  rw [G 4 (by omega), G 5 (by omega), G 6 (by omega), G 9 (by omega), G 157 (by omega)]
  exact b
/-- all of a SCENE but its rule and its seed -/
def RD (M : Mm) (s : Int) (D : Int → Int) : Prop := (DB D ∧ D 3 ≤ 8) ∧ TL (s + 1) D M ∧ SR M (s + 13) D ∧ TT M s D
theorem RD.move {M M' : Mm} {s s' : Int} {D D' : Int → Int} (h : RD M s D) (t0 : ∀ p : Int, 0 ≤ p → p < 8 → M' (s' + 1) p = M (s + 1) p) (t1 : ∀ c p : Int, inT c p → M' (s' + 1 + c) p = M (s + 1 + c) p) (s0 : ∀ p : Int, 0 ≤ p → p < 2 → M' (s' + 13) p = M (s + 13) p) (s1 : ∀ c p : Int, inS c p → M' (s' + 13 + c) p = M (s + 13 + c) p) (x0 : M' s' 4 = M s 4) (x1 : ∀ c p : Int, 21 ≤ c → c ≤ 24 → 0 ≤ p → p < 10 → M' (s' + c) p = M (s + c) p) (G : ∀ p : Int, 0 ≤ p → p < 158 → D' p = D p) : RD M' s' D' := by
  obtain ⟨⟨b, b3⟩, t, r, x⟩ := h
  exact ⟨⟨b.move (fun p q => G p (by omega) (by omega)), by rw [G 3 (by omega) (by omega)]; exact b3⟩, t.move b b3 t0 t1 (fun p q => G p (by omega) (by omega)), r.move b s0 s1 (fun p p0 p1 => G p p0 (by omega)), x.move b x0 x1 (fun p p0 p1 => G p (by omega) p1)⟩
/-- nothing of it is written -/
theorem RD.same {M M' : Mm} {s : Int} {D D' : Int → Int} (h : RD M s D) (F : ∀ c p : Int, s + 1 ≤ c → c ≤ s + 24 → M' c p = M c p) (x0 : M' s 4 = M s 4) (G : ∀ p : Int, 0 ≤ p → p < 158 → D' p = D p) : RD M' s D' := h.move (fun p _ _ => F _ p (by omega) (by omega)) (fun c p q => F _ p (by omega) (by omega)) (fun p _ _ => F _ p (by omega) (by omega)) (fun c p q => F _ p (by omega) (by omega)) x0 (fun c p _ _ _ _ => F _ p (by omega) (by omega)) G
/-- the row of an IMAGE, of an ACT undone -/
def iD (M : Mm) (k : Int) : Int → Int := fun p => M 354 (158 * k + p)
def uD (M : Mm) (r : Int) : Int → Int := fun p => M 347 (57 * r + p)
/-- an ACT that can be undone: row r of the reference, the STATE in cell c of the class; what is told stands in it as it does now -/
def RU (M : Mm) (c r : Int) : Prop := (SR M c (uD M r) ∧ DB (M 346)) ∧ ∀ p : Int, p < 57 → tp p → uD M r p = M 346 p
/-- all that lasts, but rules -/
def RW (M : Mm) : Prop := RD M 3 (M 346) ∧ (∀ k : Int, 0 ≤ k → k ≤ 3 → M 357 k = 0 ∨ RD M (76 + 25 * k) (iD M k)) ∧ M 0 5 = M 336 25 ∧ (∀ r : Int, 0 ≤ r → r < M 336 25 → RU M (176 + 8 * ((M 0 4 + 20 - M 336 25 + r) % 20)) r)
end
section
theorem zx_image12 {S : Sh} {m0 : Mm} {K : Int → Mm → Prop} {u1 : Int} (hS : Shp S) (hj : Jc S m0) (h0 : ¬ (0 ≤ u1 ∧ u1 ≤ 3) → K (-1) m0) (hk : ∀ (r : Int) (M1 : Mm), 0 ≤ u1 → u1 ≤ 3 → Jc S M1 → r = m0 346 7 → (∀ c p : Int, ¬ (c = 354 ∧ 158 * u1 ≤ p ∧ p < 158 * u1 + 158) → ¬ ((c = 355 ∨ c = 356 ∨ c = 357) ∧ p = u1) → M1 c p = m0 c p) → (∀ j : Int, 0 ≤ j → j < 158 → M1 354 (158 * u1 + j) = m0 346 j) → M1 356 u1 = m0 336 22 → M1 357 u1 = 1 → M1 355 u1 = m0 336 21 → K r M1) : wp_X12_image S m0 336 u1 K := by
  have hm0 := hj.inv
  refine u_X12_image ?_
  refine g_C ?_
  refine g_C ?_
  refine g_C ?_
  refine z_in (fun a b => ?_) (fun c => g_ifF (by decide) (g_C (h0 (by omega))))
  refine g_ifT (by decide) ?_
  refine g_getr 37 357 rfl hS.k336 hm0.f_336_37 (by decide) ?_
  refine g_C ?_
  refine g_stzR hS.k357 hS.l357 (by omega) (by omega) (by decide) (fun m1 e1 => ?_)
  have f1 : ∀ c p : Int, ¬ (c = 357 ∧ p = u1) → m1 c p = m0 c p := fun c p q => (congrFun (congrFun e1 _) _).trans (up_ne q)
  have y1 : m1 357 u1 = 1 := (congrFun (congrFun e1 _) _).trans (up_at _ _ _ _)
  refine g_getr 35 355 rfl hS.k336 ((f1 336 35 (by first | decide | exact fun z => absurd z.1 (by decide) | exact ⟨fun z => absurd z.1 (by decide), fun z => absurd z.1 (by decide)⟩ | omega)).trans hm0.f_336_35) (by decide) ?_
  refine g_getu 21 rfl hS.k336 (fun v ev => ?_)
  rw [f1 336 21 (by first | decide | exact fun z => absurd z.1 (by decide) | exact ⟨fun z => absurd z.1 (by decide), fun z => absurd z.1 (by decide)⟩ | omega)] at ev
  refine g_stR hS.k355 hS.l355 (by omega) (by omega) (fun m2 e2 => ?_)
  have f2 : ∀ c p : Int, ¬ (c = 355 ∧ p = u1) → m2 c p = m1 c p := fun c p q => (congrFun (congrFun e2 _) _).trans (up_ne q)
  have y2 : m2 355 u1 = v := (congrFun (congrFun e2 _) _).trans (up_at _ _ _ _)
  refine g_getr 36 356 rfl hS.k336 ((f2 336 36 (by first | decide | exact fun z => absurd z.1 (by decide) | exact ⟨fun z => absurd z.1 (by decide), fun z => absurd z.1 (by decide)⟩ | omega)).trans ((f1 336 36 (by first | decide | exact fun z => absurd z.1 (by decide) | exact ⟨fun z => absurd z.1 (by decide), fun z => absurd z.1 (by decide)⟩ | omega)).trans hm0.f_336_36)) (by decide) ?_
  refine g_getu 22 rfl hS.k336 (fun x ex => ?_)
  rw [f2 336 22 (by first | decide | exact fun z => absurd z.1 (by decide) | exact ⟨fun z => absurd z.1 (by decide), fun z => absurd z.1 (by decide)⟩ | omega), f1 336 22 (by first | decide | exact fun z => absurd z.1 (by decide) | exact ⟨fun z => absurd z.1 (by decide), fun z => absurd z.1 (by decide)⟩ | omega)] at ex
  refine g_stR hS.k356 hS.l356 (by omega) (by omega) (fun m3 e3 => ?_)
  have f3 : ∀ c p : Int, ¬ (c = 356 ∧ p = u1) → m3 c p = m2 c p := fun c p q => (congrFun (congrFun e3 _) _).trans (up_ne q)
  have y3 : m3 356 u1 = x := (congrFun (congrFun e3 _) _).trans (up_at _ _ _ _)
  have F3 : ∀ c p : Int, ¬ ((c = 355 ∨ c = 356 ∨ c = 357) ∧ p = u1) → m3 c p = m0 c p := fun c p q => by rw [f3 c p (by first | exact fun y => absurd (y.1 ▸ z) (by decide) | exact fun y => absurd (y.1 ▸ q) (by decide) | exact z | exact q | exact z.1 | exact q.1 | exact z.2 | exact q.2 | omega), f2 c p (by first | exact fun y => absurd (y.1 ▸ z) (by decide) | exact fun y => absurd (y.1 ▸ q) (by decide) | exact z | exact q | exact z.1 | exact q.1 | exact z.2 | exact q.2 | omega), f1 c p (by first | exact fun y => absurd (y.1 ▸ z) (by decide) | exact fun y => absurd (y.1 ▸ q) (by decide) | exact z | exact q | exact z.1 | exact q.1 | exact z.2 | exact q.2 | omega)]
  have z355 : m3 355 u1 = m0 336 21 := by rw [f3 355 _ (by first | decide | exact fun z => absurd z.1 (by decide) | exact ⟨fun z => absurd z.1 (by decide), fun z => absurd z.1 (by decide)⟩ | omega), y2, ev]
  have z357 : m3 357 u1 = 1 := by rw [f3 357 _ (by first | decide | exact fun z => absurd z.1 (by decide) | exact ⟨fun z => absurd z.1 (by decide), fun z => absurd z.1 (by decide)⟩ | omega), f2 357 _ (by first | decide | exact fun z => absurd z.1 (by decide) | exact ⟨fun z => absurd z.1 (by decide), fun z => absurd z.1 (by decide)⟩ | omega), y1]
  have z356 : m3 356 u1 = m0 336 22 := by rw [y3, ex]
  refine g_C ?_
  have fin : ∀ m : Mm, (∀ c p : Int, ¬ (c = 354 ∧ 158 * u1 ≤ p ∧ p < 158 * u1 + 158) → m c p = m3 c p) → (∀ j : Int, 0 ≤ j → j < 158 → m 354 (158 * u1 + j) = m0 346 j) → Jc S m := by
    intro m f hc
    have F : ∀ c p : Int, ¬ (c = 354 ∧ 158 * u1 ≤ p ∧ p < 158 * u1 + 158) → ¬ ((c = 355 ∨ c = 356 ∨ c = 357) ∧ p = u1) → m c p = m0 c p := fun c p q1 q2 => (f c p q1).trans (F3 c p q2)
    have bH := hm0.f_346_4
    have bJ := hm0.f_346_5
    have b21 := hm0.f_336_21
    have b22 := hm0.f_336_22
    refine hj.chg (fun c p hc' hp => ?_) (fun i => F 30 i (by first | decide | exact fun z => absurd z.1 (by decide) | exact ⟨fun z => absurd z.1 (by decide), fun z => absurd z.1 (by decide)⟩ | omega) (by first | decide | exact fun z => absurd z.1 (by decide) | exact ⟨fun z => absurd z.1 (by decide), fun z => absurd z.1 (by decide)⟩ | omega)) (F 55 1 (by first | decide | exact fun z => absurd z.1 (by decide) | exact ⟨fun z => absurd z.1 (by decide), fun z => absurd z.1 (by decide)⟩ | omega) (by first | decide | exact fun z => absurd z.1 (by decide) | exact ⟨fun z => absurd z.1 (by decide), fun z => absurd z.1 (by decide)⟩ | omega)) ?_ ?_
    · by_cases z : (c : Int) = 354 ∧ 158 * u1 ≤ (p : Int) ∧ (p : Int) < 158 * u1 + 158
      · have z1 : c = 354 := by omega
        subst z1
        refine Or.inr ?_
        obtain ⟨j, hj'⟩ : ∃ j : Nat, (p : Int) = 158 * u1 + j := ⟨((p : Int) - 158 * u1).toNat, by omega⟩
        have e : p = 158 * u1.toNat + j := by omega
        have q := hj.1 346 j (by decide) (by rw [pT_said.1]; omega)
        rw [show ((354 : Nat) : Int) = 354 from rfl, hj', hc j (by omega) (by omega), e, bq_354 _ (by omega) j (by omega)]
        exact q
      · by_cases z2 : ((c : Int) = 355 ∨ (c : Int) = 356 ∨ (c : Int) = 357) ∧ (p : Int) = u1
        · refine Or.inr ?_
          rw [f c p z]
          obtain ⟨z3, z4⟩ := z2
          rw [z4]
          rcases z3 with z3 | z3 | z3
          · have z5 : c = 355 := by omega
            rw [z3, z355, z5, bd_u (b := (-1, 5)) (by decide +kernel)]
            exact Or.inr b21
          · have z5 : c = 356 := by omega
            rw [z3, z356, z5, bd_u (b := (0, 2147483647)) (by decide +kernel)]
            exact Or.inr b22
          · have z5 : c = 357 := by omega
            rw [z3, z357, z5, bd_u (b := (0, 1)) (by decide +kernel)]
            exact Or.inr ⟨by decide, by decide⟩
        · exact Or.inl (F c p z z2)
    · obtain ⟨ga, gb, gc, gd⟩ := hj.2.2.2.1
      unfold Good
      rw [F 336 21 (by first | decide | exact fun z => absurd z.1 (by decide) | exact ⟨fun z => absurd z.1 (by decide), fun z => absurd z.1 (by decide)⟩ | omega) (by first | decide | exact fun z => absurd z.1 (by decide) | exact ⟨fun z => absurd z.1 (by decide), fun z => absurd z.1 (by decide)⟩ | omega), F 336 2 (by first | decide | exact fun z => absurd z.1 (by decide) | exact ⟨fun z => absurd z.1 (by decide), fun z => absurd z.1 (by decide)⟩ | omega) (by first | decide | exact fun z => absurd z.1 (by decide) | exact ⟨fun z => absurd z.1 (by decide), fun z => absurd z.1 (by decide)⟩ | omega)]
      refine ⟨ga, fun k k0 k1 => ?_, gc, fun t t0 t1 => ?_⟩
      · by_cases e : k = u1
        · rw [e, f 355 _ (by first | decide | exact fun z => absurd z.1 (by decide) | exact ⟨fun z => absurd z.1 (by decide), fun z => absurd z.1 (by decide)⟩ | omega), z355]; exact Or.inr ga
        · rw [F 355 k (by first | decide | exact fun z => absurd z.1 (by decide) | exact ⟨fun z => absurd z.1 (by decide), fun z => absurd z.1 (by decide)⟩ | omega) (by first | decide | exact fun z => absurd z.1 (by decide) | exact ⟨fun z => absurd z.1 (by decide), fun z => absurd z.1 (by decide)⟩ | omega), F 357 k (by first | decide | exact fun z => absurd z.1 (by decide) | exact ⟨fun z => absurd z.1 (by decide), fun z => absurd z.1 (by decide)⟩ | omega) (by first | decide | exact fun z => absurd z.1 (by decide) | exact ⟨fun z => absurd z.1 (by decide), fun z => absurd z.1 (by decide)⟩ | omega)]; exact gb k k0 k1
      · exact rulOK_same (gd t t0 t1) (F 341 _ (by first | decide | exact fun z => absurd z.1 (by decide) | exact ⟨fun z => absurd z.1 (by decide), fun z => absurd z.1 (by decide)⟩ | omega) (by first | decide | exact fun z => absurd z.1 (by decide) | exact ⟨fun z => absurd z.1 (by decide), fun z => absurd z.1 (by decide)⟩ | omega)) (fun p _ _ => F 340 p (by first | decide | exact fun z => absurd z.1 (by decide) | exact ⟨fun z => absurd z.1 (by decide), fun z => absurd z.1 (by decide)⟩ | omega) (by first | decide | exact fun z => absurd z.1 (by decide) | exact ⟨fun z => absurd z.1 (by decide), fun z => absurd z.1 (by decide)⟩ | omega)) (fun p _ _ => F 338 p (by first | decide | exact fun z => absurd z.1 (by decide) | exact ⟨fun z => absurd z.1 (by decide), fun z => absurd z.1 (by decide)⟩ | omega) (by first | decide | exact fun z => absurd z.1 (by decide) | exact ⟨fun z => absurd z.1 (by decide), fun z => absurd z.1 (by decide)⟩ | omega))
    · obtain ⟨p1, p2, p3⟩ := hj.2.2.2.2
      have e7 : m 347 = m0 347 := funext (fun p => F 347 p (by first | decide | exact fun z => absurd z.1 (by decide) | exact ⟨fun z => absurd z.1 (by decide), fun z => absurd z.1 (by decide)⟩ | omega) (by first | decide | exact fun z => absurd z.1 (by decide) | exact ⟨fun z => absurd z.1 (by decide), fun z => absurd z.1 (by decide)⟩ | omega))
      have e6 : m 346 = m0 346 := funext (fun p => F 346 p (by first | decide | exact fun z => absurd z.1 (by decide) | exact ⟨fun z => absurd z.1 (by decide), fun z => absurd z.1 (by decide)⟩ | omega) (by first | decide | exact fun z => absurd z.1 (by decide) | exact ⟨fun z => absurd z.1 (by decide), fun z => absurd z.1 (by decide)⟩ | omega))
      unfold PL3
      rw [F 336 25 (by first | decide | exact fun z => absurd z.1 (by decide) | exact ⟨fun z => absurd z.1 (by decide), fun z => absurd z.1 (by decide)⟩ | omega) (by first | decide | exact fun z => absurd z.1 (by decide) | exact ⟨fun z => absurd z.1 (by decide), fun z => absurd z.1 (by decide)⟩ | omega), e7, e6]
      refine ⟨p1, p2, fun k k0 k1 => ?_⟩
      by_cases e : k = u1
      · rw [e]
        have e0 : m 354 (158 * u1) = m0 346 0 := by
          have := hc 0 (by decide) (by decide)
          rw [Int.add_zero] at this
          exact this
        unfold PlOK
        rw [hc 4 (by decide) (by decide), hc 5 (by decide) (by decide), e0]
        refine ⟨fun a a0 a1 => ?_, fun a a0 a1 => ?_⟩
        · show m 354 (158 * u1 + (10 + 5 * a)) < _
          rw [hc _ (by omega) (by omega)]
          exact p1.1 a a0 a1
        · show m 354 (158 * u1 + (35 + 4 * a)) < _
          rw [hc _ (by omega) (by omega)]
          exact p1.2 a a0 a1
      · obtain ⟨q1, q2⟩ := p3 k k0 k1
        have bP4 := hj.bnd 354 (158 * k.toNat + 4) 0 5 (by decide) (by rw [pT_said.2.2.1]; omega) (by rw [bq_354 _ (by omega) 4 (by decide)]; exact bd_said.2.1) (by decide)
        have bP5 := hj.bnd 354 (158 * k.toNat + 5) 0 4 (by decide) (by rw [pT_said.2.2.1]; omega) (by rw [bq_354 _ (by omega) 5 (by decide)]; exact bd_said.2.2) (by decide)
        rw [show ((354 : Nat) : Int) = 354 from rfl, show ((158 * k.toNat + 4 : Nat) : Int) = 158 * k + 4 by omega] at bP4
        rw [show ((354 : Nat) : Int) = 354 from rfl, show ((158 * k.toNat + 5 : Nat) : Int) = 158 * k + 5 by omega] at bP5
        have G : ∀ j : Int, 0 ≤ j → j < 158 → m 354 (158 * k + j) = m0 354 (158 * k + j) := fun j j0 j1 => F 354 _ (by first | decide | exact fun z => absurd z.1 (by decide) | exact ⟨fun z => absurd z.1 (by decide), fun z => absurd z.1 (by decide)⟩ | omega) (by first | decide | exact fun z => absurd z.1 (by decide) | exact ⟨fun z => absurd z.1 (by decide), fun z => absurd z.1 (by decide)⟩ | omega)
        have G0 : m 354 (158 * k) = m0 354 (158 * k) := F 354 _ (by first | decide | exact fun z => absurd z.1 (by decide) | exact ⟨fun z => absurd z.1 (by decide), fun z => absurd z.1 (by decide)⟩ | omega) (by first | decide | exact fun z => absurd z.1 (by decide) | exact ⟨fun z => absurd z.1 (by decide), fun z => absurd z.1 (by decide)⟩ | omega)
        unfold PlOK
        rw [G 4 (by decide) (by decide), G 5 (by decide) (by decide), G0]
        refine ⟨fun a a0 a1 => ?_, fun a a0 a1 => ?_⟩
        · show m 354 (158 * k + (10 + 5 * a)) < _
          rw [G _ (by omega) (by omega)]
          exact q1 a a0 a1
        · show m 354 (158 * k + (35 + 4 * a)) < _
          rw [G _ (by omega) (by omega)]
          exact q2 a a0 a1
  have L : ∀ (n : Nat) (k : Int) (m : Mm), 0 ≤ k → k ≤ 158 → (∀ c p : Int, ¬ (c = 354 ∧ 158 * u1 ≤ p ∧ p < 158 * u1 + 158) → m c p = m3 c p) → (∀ j : Int, 0 ≤ j → j < k → m 354 (158 * u1 + j) = m0 346 j) → 159 - k ≤ (n : Int) → wp_X12_image_43 S K n 336 u1 k m := by
    intro n
    induction n with
    | zero => intro k m _ _ _ _ h; exfalso; omega
    | succ n ih =>
      intro k m k0 k1 f hc h
      have e20 : m 336 20 = 346 := by rw [f 336 20 (by first | decide | exact fun z => absurd z.1 (by decide) | exact ⟨fun z => absurd z.1 (by decide), fun z => absurd z.1 (by decide)⟩ | omega), F3 336 20 (by first | decide | exact fun z => absurd z.1 (by decide) | exact ⟨fun z => absurd z.1 (by decide), fun z => absurd z.1 (by decide)⟩ | omega)]; exact hm0.f_336_20
      have e34 : m 336 34 = 354 := by rw [f 336 34 (by first | decide | exact fun z => absurd z.1 (by decide) | exact ⟨fun z => absurd z.1 (by decide), fun z => absurd z.1 (by decide)⟩ | omega), F3 336 34 (by first | decide | exact fun z => absurd z.1 (by decide) | exact ⟨fun z => absurd z.1 (by decide), fun z => absurd z.1 (by decide)⟩ | omega)]; exact hm0.f_336_34
      refine u_X12_image_43 ?_
      refine g_C ?_
      refine g_if (fun w2 => ?_) (fun w2 => ?_)
      · refine g_getr 20 346 rfl hS.k336 e20 (by decide) ?_
        refine g_C ?_
        refine g_ldu hS.k346 hS.l346 (by omega) (by omega) (fun v3 ev3 => ?_)
        refine hk _ m a b (fin m f (fun j j0 j1 => hc j j0 (by omega))) (by rw [ev3, f 346 7 (by first | decide | exact fun z => absurd z.1 (by decide) | exact ⟨fun z => absurd z.1 (by decide), fun z => absurd z.1 (by decide)⟩ | omega), F3 346 7 (by first | decide | exact fun z => absurd z.1 (by decide) | exact ⟨fun z => absurd z.1 (by decide), fun z => absurd z.1 (by decide)⟩ | omega)]) (fun c p q q2 => ?_) (fun j j0 j1 => hc j j0 (by omega)) ?_ ?_ ?_
        · rw [f c p q, F3 c p q2]
        · rw [f 356 _ (by first | decide | exact fun z => absurd z.1 (by decide) | exact ⟨fun z => absurd z.1 (by decide), fun z => absurd z.1 (by decide)⟩ | omega), z356]
        · rw [f 357 _ (by first | decide | exact fun z => absurd z.1 (by decide) | exact ⟨fun z => absurd z.1 (by decide), fun z => absurd z.1 (by decide)⟩ | omega), z357]
        · rw [f 355 _ (by first | decide | exact fun z => absurd z.1 (by decide) | exact ⟨fun z => absurd z.1 (by decide), fun z => absurd z.1 (by decide)⟩ | omega), z355]
      · refine g_getr 34 354 rfl hS.k336 e34 (by decide) ?_
        refine g_C ?_
        refine g_M (by omega) (by omega) ?_
        refine g_A (by omega) (by omega) ?_
        refine g_getr 20 346 rfl hS.k336 e20 (by decide) ?_
        refine g_ldu hS.k346 hS.l346 (by omega) (by omega) (fun x ex => ?_)
        refine g_stR hS.k354 hS.l354 (by omega) (by omega) (fun m4 e4 => ?_)
        have f4 : ∀ c p : Int, ¬ (c = 354 ∧ p = 158 * u1 + k) → m4 c p = m c p := fun c p q => (congrFun (congrFun e4 _) _).trans (up_ne q)
        have y4 : m4 354 (158 * u1 + k) = x := (congrFun (congrFun e4 _) _).trans (up_at _ _ _ _)
        refine g_A (by omega) (by omega) ?_
        refine ih (k + 1) m4 (by omega) (by omega) (fun c p q => (f4 c p (by first | exact fun y => absurd (y.1 ▸ z) (by decide) | exact fun y => absurd (y.1 ▸ q) (by decide) | exact z | exact q | exact z.1 | exact q.1 | exact z.2 | exact q.2 | omega)).trans (f c p q)) (fun j j0 j1 => ?_) (by omega)
        by_cases e : j = k
        · rw [e, y4, ex, f 346 _ (by first | decide | exact fun z => absurd z.1 (by decide) | exact ⟨fun z => absurd z.1 (by decide), fun z => absurd z.1 (by decide)⟩ | omega), F3 346 _ (by first | decide | exact fun z => absurd z.1 (by decide) | exact ⟨fun z => absurd z.1 (by decide), fun z => absurd z.1 (by decide)⟩ | omega)]
        · rw [f4 354 _ (by first | decide | exact fun z => absurd z.1 (by decide) | exact ⟨fun z => absurd z.1 (by decide), fun z => absurd z.1 (by decide)⟩ | omega)]
          exact hc j j0 (by omega)
  exact ⟨159, L 159 0 m3 (by omega) (by omega) (fun _ _ _ => rfl) (fun j j0 j1 => absurd j1 (by omega)) (by omega)⟩
theorem zx_back12 {S : Sh} {m0 : Mm} {K : Int → Mm → Prop} {u1 : Int} (hS : Shp S) (hj : Jc S m0) (h0 : (¬ (0 ≤ u1 ∧ u1 ≤ 3) ∨ m0 357 u1 = 0) → K (-1) m0) (hk : ∀ (r : Int) (M1 : Mm), 0 ≤ u1 → u1 ≤ 3 → ¬ m0 357 u1 = 0 → Jc S M1 → r = m0 354 (158 * u1 + 7) → M1 336 25 = 0 → (∀ c p : Int, ¬ (c = 346 ∧ 0 ≤ p ∧ p < 158) → ¬ (c = 336 ∧ (p = 21 ∨ p = 22 ∨ p = 25)) → M1 c p = m0 c p) → (∀ j : Int, 0 ≤ j → j < 158 → M1 346 j = m0 354 (158 * u1 + j)) → M1 336 22 = m0 356 u1 → M1 336 21 = m0 355 u1 → K r M1) : wp_X12_back S m0 336 u1 K := by
  have hm0 := hj.inv
  refine u_X12_back ?_
  refine g_C ?_
  refine g_C ?_
  refine g_C ?_
  refine z_in (fun a b => ?_) (fun c => g_ifT rfl (g_C (h0 (Or.inl (by omega)))))
  refine g_ifF (by decide) ?_
  refine g_getr 37 357 rfl hS.k336 hm0.f_336_37 (by decide) ?_
  refine g_ldu hS.k357 hS.l357 (by omega) (by omega) (fun fl efl => ?_)
  refine g_if (fun w => ?_) (fun w => g_C (h0 (Or.inr (by omega))))
  refine g_getr 35 355 rfl hS.k336 hm0.f_336_35 (by decide) ?_
  refine g_ldu hS.k355 hS.l355 (by omega) (by omega) (fun v ev => ?_)
  refine g_putR 21 rfl hS.k336 (fun m1 e1 => ?_)
  have f1 : ∀ c p : Int, ¬ (c = 336 ∧ p = 21) → m1 c p = m0 c p := fun c p q => (congrFun (congrFun e1 _) _).trans (up_ne q)
  have y1 : m1 336 21 = v := (congrFun (congrFun e1 _) _).trans (up_at _ _ _ _)
  refine g_getr 36 356 rfl hS.k336 ((f1 336 36 (by first | decide | exact fun z => absurd z.1 (by decide) | exact ⟨fun z => absurd z.1 (by decide), fun z => absurd z.1 (by decide)⟩ | omega)).trans hm0.f_336_36) (by decide) ?_
  refine g_ldu hS.k356 hS.l356 (by omega) (by omega) (fun x ex => ?_)
  rw [f1 356 _ (by first | decide | exact fun z => absurd z.1 (by decide) | exact ⟨fun z => absurd z.1 (by decide), fun z => absurd z.1 (by decide)⟩ | omega)] at ex
  refine g_putR 22 rfl hS.k336 (fun m2 e2 => ?_)
  have f2 : ∀ c p : Int, ¬ (c = 336 ∧ p = 22) → m2 c p = m1 c p := fun c p q => (congrFun (congrFun e2 _) _).trans (up_ne q)
  have y2 : m2 336 22 = x := (congrFun (congrFun e2 _) _).trans (up_at _ _ _ _)
  refine g_C ?_
  refine g_putR 25 rfl hS.k336 (fun m3 e3 => ?_)
  have f3 : ∀ c p : Int, ¬ (c = 336 ∧ p = 25) → m3 c p = m2 c p := fun c p q => (congrFun (congrFun e3 _) _).trans (up_ne q)
  have z25 : m3 336 25 = 0 := (congrFun (congrFun e3 _) _).trans (up_at _ _ _ _)
  have F3 : ∀ c p : Int, ¬ (c = 336 ∧ (p = 21 ∨ p = 22 ∨ p = 25)) → m3 c p = m0 c p := fun c p q => by rw [f3 c p (by first | exact fun y => absurd (y.1 ▸ z) (by decide) | exact fun y => absurd (y.1 ▸ q) (by decide) | exact z | exact q | exact z.1 | exact q.1 | exact z.2 | exact q.2 | omega), f2 c p (by first | exact fun y => absurd (y.1 ▸ z) (by decide) | exact fun y => absurd (y.1 ▸ q) (by decide) | exact z | exact q | exact z.1 | exact q.1 | exact z.2 | exact q.2 | omega), f1 c p (by first | exact fun y => absurd (y.1 ▸ z) (by decide) | exact fun y => absurd (y.1 ▸ q) (by decide) | exact z | exact q | exact z.1 | exact q.1 | exact z.2 | exact q.2 | omega)]
  have z21 : m3 336 21 = m0 355 u1 := by rw [f3 336 21 (by first | decide | exact fun z => absurd z.1 (by decide) | exact ⟨fun z => absurd z.1 (by decide), fun z => absurd z.1 (by decide)⟩ | omega), f2 336 21 (by first | decide | exact fun z => absurd z.1 (by decide) | exact ⟨fun z => absurd z.1 (by decide), fun z => absurd z.1 (by decide)⟩ | omega), y1, ev]
  have z22 : m3 336 22 = m0 356 u1 := by rw [f3 336 22 (by first | decide | exact fun z => absurd z.1 (by decide) | exact ⟨fun z => absurd z.1 (by decide), fun z => absurd z.1 (by decide)⟩ | omega), y2, ex]
  refine g_C ?_
  have fin : ∀ m : Mm, (∀ c p : Int, ¬ (c = 346 ∧ 0 ≤ p ∧ p < 158) → m c p = m3 c p) → (∀ j : Int, 0 ≤ j → j < 158 → m 346 j = m0 354 (158 * u1 + j)) → Jc S m := by
    intro m f hc
    have F : ∀ c p : Int, ¬ (c = 346 ∧ 0 ≤ p ∧ p < 158) → ¬ (c = 336 ∧ (p = 21 ∨ p = 22 ∨ p = 25)) → m c p = m0 c p := fun c p q1 q2 => (f c p q1).trans (F3 c p q2)
    have b21 := hm0.a_355 (i := u1) (by omega) (by omega)
    have b22 := hm0.a_356 (i := u1) (by omega) (by omega)
    have bP4 := hj.bnd 354 (158 * u1.toNat + 4) 0 5 (by decide) (by rw [pT_said.2.2.1]; omega) (by rw [bq_354 _ (by omega) 4 (by decide)]; exact bd_said.2.1) (by decide)
    have bP5 := hj.bnd 354 (158 * u1.toNat + 5) 0 4 (by decide) (by rw [pT_said.2.2.1]; omega) (by rw [bq_354 _ (by omega) 5 (by decide)]; exact bd_said.2.2) (by decide)
    rw [show ((354 : Nat) : Int) = 354 from rfl, show ((158 * u1.toNat + 4 : Nat) : Int) = 158 * u1 + 4 by omega] at bP4
    rw [show ((354 : Nat) : Int) = 354 from rfl, show ((158 * u1.toNat + 5 : Nat) : Int) = 158 * u1 + 5 by omega] at bP5
    refine hj.chg (fun c p hc' hp => ?_) (fun i => F 30 i (by first | decide | exact fun z => absurd z.1 (by decide) | exact ⟨fun z => absurd z.1 (by decide), fun z => absurd z.1 (by decide)⟩ | omega) (by first | decide | exact fun z => absurd z.1 (by decide) | exact ⟨fun z => absurd z.1 (by decide), fun z => absurd z.1 (by decide)⟩ | omega)) (F 55 1 (by first | decide | exact fun z => absurd z.1 (by decide) | exact ⟨fun z => absurd z.1 (by decide), fun z => absurd z.1 (by decide)⟩ | omega) (by first | decide | exact fun z => absurd z.1 (by decide) | exact ⟨fun z => absurd z.1 (by decide), fun z => absurd z.1 (by decide)⟩ | omega)) ?_ ?_
    · by_cases z : (c : Int) = 346 ∧ (p : Int) < 158
      · have z1 : c = 346 := by omega
        subst z1
        refine Or.inr ?_
        have q := hj.1 354 (158 * u1.toNat + p) (by decide) (by rw [pT_said.2.2.1]; omega)
        rw [bq_354 _ (by omega) p (by omega)] at q
        rw [show ((346 : Nat) : Int) = 346 from rfl, hc p (by omega) (by omega)]
        rw [show ((354 : Nat) : Int) = 354 from rfl, show ((158 * u1.toNat + p : Nat) : Int) = 158 * u1 + p by omega] at q
        exact q
      · by_cases z2 : (c : Int) = 336 ∧ ((p : Int) = 21 ∨ (p : Int) = 22 ∨ (p : Int) = 25)
        · refine Or.inr ?_
          rw [f c p (by omega)]
          obtain ⟨z3, z4⟩ := z2
          have z5 : c = 336 := by omega
          rcases z4 with z4 | z4 | z4
          · have z6 : p = 21 := by omega
            rw [z3, z4, z21, z5, z6]
            exact okb_of (l := -1) (u := 5) (by decide +kernel) b21.1 b21.2
          · have z6 : p = 22 := by omega
            rw [z3, z4, z22, z5, z6]
            exact okb_of (l := 0) (u := 2147483647) (by decide +kernel) b22.1 b22.2
          · have z6 : p = 25 := by omega
            rw [z3, z4, z25, z5, z6]
            exact okb_of (l := 0) (u := 20) (by decide +kernel) (by decide) (by decide)
        · exact Or.inl (F c p (by omega) z2)
    · obtain ⟨ga, gb, gc, gd⟩ := hj.2.2.2.1
      unfold Good
      rw [f 336 21 (by first | decide | exact fun z => absurd z.1 (by decide) | exact ⟨fun z => absurd z.1 (by decide), fun z => absurd z.1 (by decide)⟩ | omega), z21, F 336 2 (by first | decide | exact fun z => absurd z.1 (by decide) | exact ⟨fun z => absurd z.1 (by decide), fun z => absurd z.1 (by decide)⟩ | omega) (by first | decide | exact fun z => absurd z.1 (by decide) | exact ⟨fun z => absurd z.1 (by decide), fun z => absurd z.1 (by decide)⟩ | omega)]
      refine ⟨(gb u1 a (by omega)).resolve_left (by omega), fun k k0 k1 => ?_, gc, fun t t0 t1 => ?_⟩
      · rw [F 355 k (by first | decide | exact fun z => absurd z.1 (by decide) | exact ⟨fun z => absurd z.1 (by decide), fun z => absurd z.1 (by decide)⟩ | omega) (by first | decide | exact fun z => absurd z.1 (by decide) | exact ⟨fun z => absurd z.1 (by decide), fun z => absurd z.1 (by decide)⟩ | omega), F 357 k (by first | decide | exact fun z => absurd z.1 (by decide) | exact ⟨fun z => absurd z.1 (by decide), fun z => absurd z.1 (by decide)⟩ | omega) (by first | decide | exact fun z => absurd z.1 (by decide) | exact ⟨fun z => absurd z.1 (by decide), fun z => absurd z.1 (by decide)⟩ | omega)]; exact gb k k0 k1
      · exact rulOK_same (gd t t0 t1) (F 341 _ (by first | decide | exact fun z => absurd z.1 (by decide) | exact ⟨fun z => absurd z.1 (by decide), fun z => absurd z.1 (by decide)⟩ | omega) (by first | decide | exact fun z => absurd z.1 (by decide) | exact ⟨fun z => absurd z.1 (by decide), fun z => absurd z.1 (by decide)⟩ | omega)) (fun p _ _ => F 340 p (by first | decide | exact fun z => absurd z.1 (by decide) | exact ⟨fun z => absurd z.1 (by decide), fun z => absurd z.1 (by decide)⟩ | omega) (by first | decide | exact fun z => absurd z.1 (by decide) | exact ⟨fun z => absurd z.1 (by decide), fun z => absurd z.1 (by decide)⟩ | omega)) (fun p _ _ => F 338 p (by first | decide | exact fun z => absurd z.1 (by decide) | exact ⟨fun z => absurd z.1 (by decide), fun z => absurd z.1 (by decide)⟩ | omega) (by first | decide | exact fun z => absurd z.1 (by decide) | exact ⟨fun z => absurd z.1 (by decide), fun z => absurd z.1 (by decide)⟩ | omega))
    · obtain ⟨p1, p2, p3⟩ := hj.2.2.2.2
      have e4 : m 354 = m0 354 := funext (fun p => F 354 p (by first | decide | exact fun z => absurd z.1 (by decide) | exact ⟨fun z => absurd z.1 (by decide), fun z => absurd z.1 (by decide)⟩ | omega) (by first | decide | exact fun z => absurd z.1 (by decide) | exact ⟨fun z => absurd z.1 (by decide), fun z => absurd z.1 (by decide)⟩ | omega))
      unfold PL3
      rw [f 336 25 (by first | decide | exact fun z => absurd z.1 (by decide) | exact ⟨fun z => absurd z.1 (by decide), fun z => absurd z.1 (by decide)⟩ | omega), z25, e4]
      obtain ⟨q1, q2⟩ := p3 u1 a (by omega)
      have e0 : m 346 0 = m0 354 (158 * u1) := by
        have := hc 0 (by decide) (by decide)
        rw [Int.add_zero] at this
        exact this
      refine ⟨⟨fun i i0 i1 => ?_, fun i i0 i1 => ?_⟩, fun i i0 i1 => absurd i1 (by omega), p3⟩
      · rw [hc 4 (by decide) (by decide)] at i1
        rw [hc _ (by omega) (by omega), e0]
        exact q1 i i0 i1
      · rw [hc 5 (by decide) (by decide)] at i1
        rw [hc _ (by omega) (by omega), e0]
        exact q2 i i0 i1
  have L : ∀ (n : Nat) (k : Int) (m : Mm), 0 ≤ k → k ≤ 158 → (∀ c p : Int, ¬ (c = 346 ∧ 0 ≤ p ∧ p < 158) → m c p = m3 c p) → (∀ j : Int, 0 ≤ j → j < k → m 346 j = m0 354 (158 * u1 + j)) → 159 - k ≤ (n : Int) → wp_X12_back_50 S K n 336 u1 k m := by
    intro n
    induction n with
    | zero => intro k m _ _ _ _ h; exfalso; omega
    | succ n ih =>
      intro k m k0 k1 f hc h
      have e20 : m 336 20 = 346 := by rw [f 336 20 (by first | decide | exact fun z => absurd z.1 (by decide) | exact ⟨fun z => absurd z.1 (by decide), fun z => absurd z.1 (by decide)⟩ | omega), F3 336 20 (by first | decide | exact fun z => absurd z.1 (by decide) | exact ⟨fun z => absurd z.1 (by decide), fun z => absurd z.1 (by decide)⟩ | omega)]; exact hm0.f_336_20
      have e34 : m 336 34 = 354 := by rw [f 336 34 (by first | decide | exact fun z => absurd z.1 (by decide) | exact ⟨fun z => absurd z.1 (by decide), fun z => absurd z.1 (by decide)⟩ | omega), F3 336 34 (by first | decide | exact fun z => absurd z.1 (by decide) | exact ⟨fun z => absurd z.1 (by decide), fun z => absurd z.1 (by decide)⟩ | omega)]; exact hm0.f_336_34
      refine u_X12_back_50 ?_
      refine g_C ?_
      refine g_if (fun w2 => ?_) (fun w2 => ?_)
      · refine g_getr 20 346 rfl hS.k336 e20 (by decide) ?_
        refine g_C ?_
        refine g_ldu hS.k346 hS.l346 (by omega) (by omega) (fun v3 ev3 => ?_)
        refine hk _ m a b (by omega) (fin m f (fun j j0 j1 => hc j j0 (by omega))) (by rw [ev3]; exact hc 7 (by omega) (by first | decide | exact fun z => absurd z.1 (by decide) | exact ⟨fun z => absurd z.1 (by decide), fun z => absurd z.1 (by decide)⟩ | omega)) (by rw [f 336 25 (by first | decide | exact fun z => absurd z.1 (by decide) | exact ⟨fun z => absurd z.1 (by decide), fun z => absurd z.1 (by decide)⟩ | omega), z25]) (fun c p q q2 => ?_) (fun j j0 j1 => hc j j0 (by omega)) ?_ (by rw [f 336 21 (by first | decide | exact fun z => absurd z.1 (by decide) | exact ⟨fun z => absurd z.1 (by decide), fun z => absurd z.1 (by decide)⟩ | omega), z21])
        · rw [f c p q, F3 c p q2]
        · rw [f 336 22 (by first | decide | exact fun z => absurd z.1 (by decide) | exact ⟨fun z => absurd z.1 (by decide), fun z => absurd z.1 (by decide)⟩ | omega), z22]
      · refine g_getr 20 346 rfl hS.k336 e20 (by decide) ?_
        refine g_getr 34 354 rfl hS.k336 e34 (by decide) ?_
        refine g_C ?_
        refine g_M (by omega) (by omega) ?_
        refine g_A (by omega) (by omega) ?_
        refine g_ldu hS.k354 hS.l354 (by omega) (by omega) (fun y ey => ?_)
        refine g_stR hS.k346 hS.l346 (by omega) (by omega) (fun m4 e4 => ?_)
        have f4 : ∀ c p : Int, ¬ (c = 346 ∧ p = k) → m4 c p = m c p := fun c p q => (congrFun (congrFun e4 _) _).trans (up_ne q)
        have y4 : m4 346 k = y := (congrFun (congrFun e4 _) _).trans (up_at _ _ _ _)
        refine g_A (by omega) (by omega) ?_
        refine ih (k + 1) m4 (by omega) (by omega) (fun c p q => (f4 c p (by first | exact fun y => absurd (y.1 ▸ z) (by decide) | exact fun y => absurd (y.1 ▸ q) (by decide) | exact z | exact q | exact z.1 | exact q.1 | exact z.2 | exact q.2 | omega)).trans (f c p q)) (fun j j0 j1 => ?_) (by omega)
        by_cases e : j = k
        · rw [e, y4, ey, f 354 _ (by first | decide | exact fun z => absurd z.1 (by decide) | exact ⟨fun z => absurd z.1 (by decide), fun z => absurd z.1 (by decide)⟩ | omega), F3 354 _ (by first | decide | exact fun z => absurd z.1 (by decide) | exact ⟨fun z => absurd z.1 (by decide), fun z => absurd z.1 (by decide)⟩ | omega)]
        · rw [f4 346 _ (by first | decide | exact fun z => absurd z.1 (by decide) | exact ⟨fun z => absurd z.1 (by decide), fun z => absurd z.1 (by decide)⟩ | omega)]
          exact hc j j0 (by omega)
  exact ⟨159, L 159 0 m3 (by omega) (by omega) (fun _ _ _ => rfl) (fun j j0 j1 => absurd j1 (by omega)) (by omega)⟩
theorem zx_undo12 {S : Sh} {m0 : Mm} {K : Int → Mm → Prop} (hS : Shp S) (hj : JX S m0) (h0 : m0 336 25 = 0 → K (-1) m0) (hk : ∀ (r : Int) (M1 : Mm), JX S M1 → ¬ m0 336 25 = 0 → r = m0 336 25 - 1 → 0 ≤ r → r ≤ 19 → M1 336 25 = r → (∀ c p : Int, ¬ (c = 346 ∧ 0 ≤ p ∧ p < 57) → ¬ (c = 336 ∧ p = 25) → M1 c p = m0 c p) → (∀ j : Int, 0 ≤ j → j < 57 → M1 346 j = m0 347 (57 * r + j)) → K r M1) : wp_X12_undo S m0 336 K := by
  have hm0 := hj.inv
  have b25 := hm0.f_336_25
  refine u_X12_undo ?_
  refine g_getu 25 rfl hS.k336 (fun v ev => ?_)
  refine g_if (fun w => ?_) (fun w => g_C (h0 (by omega)))
  refine g_getu 25 rfl hS.k336 (fun v2 ev2 => ?_)
  refine g_C ?_
  refine g_S (by omega) (by omega) ?_
  obtain ⟨r, hr⟩ : ∃ r : Int, r = v2 - 1 := ⟨_, rfl⟩
  rw [← hr]
  refine g_putR 25 rfl hS.k336 (fun m1 e1 => ?_)
  have f1 : ∀ c p : Int, ¬ (c = 336 ∧ p = 25) → m1 c p = m0 c p := fun c p q => (congrFun (congrFun e1 _) _).trans (up_ne q)
  have y1 : m1 336 25 = r := (congrFun (congrFun e1 _) _).trans (up_at _ _ _ _)
  refine g_C ?_
  have fin : ∀ m : Mm, (∀ c p : Int, ¬ (c = 346 ∧ 0 ≤ p ∧ p < 57) → m c p = m1 c p) → (∀ j : Int, 0 ≤ j → j < 57 → m 346 j = m0 347 (57 * r + j)) → JX S m := by
    intro m f hc
    have F : ∀ c p : Int, ¬ (c = 346 ∧ 0 ≤ p ∧ p < 57) → ¬ (c = 336 ∧ p = 25) → m c p = m0 c p := fun c p q1 q2 => (f c p q1).trans (f1 c p q2)
    have e25 : m 336 25 = r := (f 336 25 (by first | decide | exact fun z => absurd z.1 (by decide) | exact ⟨fun z => absurd z.1 (by decide), fun z => absurd z.1 (by decide)⟩ | omega)).trans y1
    have bH := hj.1.bnd 347 (57 * r.toNat + 4) 0 5 (by decide) (by rw [pT_said.2.1]; omega) (by rw [bq_347 _ (by omega) 4 (by decide)]; exact bd_said.2.1) (by decide)
    have bJ := hj.1.bnd 347 (57 * r.toNat + 5) 0 4 (by decide) (by rw [pT_said.2.1]; omega) (by rw [bq_347 _ (by omega) 5 (by decide)]; exact bd_said.2.2) (by decide)
    rw [show ((347 : Nat) : Int) = 347 from rfl, show ((57 * r.toNat + 4 : Nat) : Int) = 57 * r + 4 by omega] at bH
    rw [show ((347 : Nat) : Int) = 347 from rfl, show ((57 * r.toNat + 5 : Nat) : Int) = 57 * r + 5 by omega] at bJ
    refine ⟨hj.1.chg (fun c p hc' hp => ?_) (fun i => F 30 i (by first | decide | exact fun z => absurd z.1 (by decide) | exact ⟨fun z => absurd z.1 (by decide), fun z => absurd z.1 (by decide)⟩ | omega) (by first | decide | exact fun z => absurd z.1 (by decide) | exact ⟨fun z => absurd z.1 (by decide), fun z => absurd z.1 (by decide)⟩ | omega)) (F 55 1 (by first | decide | exact fun z => absurd z.1 (by decide) | exact ⟨fun z => absurd z.1 (by decide), fun z => absurd z.1 (by decide)⟩ | omega) (by first | decide | exact fun z => absurd z.1 (by decide) | exact ⟨fun z => absurd z.1 (by decide), fun z => absurd z.1 (by decide)⟩ | omega)) ?_ ?_, ?_⟩
    · by_cases z : (c : Int) = 346 ∧ (p : Int) < 57
      · have z1 : c = 346 := by omega
        subst z1
        refine Or.inr ?_
        have q := hj.1.1 347 (57 * r.toNat + p) (by decide) (by rw [pT_said.2.1]; omega)
        rw [bq_347 _ (by omega) p (by omega)] at q
        rw [show ((346 : Nat) : Int) = 346 from rfl, hc p (by omega) (by omega)]
        rw [show ((347 : Nat) : Int) = 347 from rfl, show ((57 * r.toNat + p : Nat) : Int) = 57 * r + p by omega] at q
        exact q
      · by_cases z2 : (c : Int) = 336 ∧ (p : Int) = 25
        · have z3 : c = 336 := by omega
          have z4 : p = 25 := by omega
          subst z3 z4
          refine Or.inr ?_
          rw [show ((336 : Nat) : Int) = 336 from rfl, show ((25 : Nat) : Int) = 25 from rfl, e25]
          exact okb_of (l := 0) (u := 20) (by decide +kernel) (by omega) (by omega)
        · exact Or.inl (F c p (by omega) z2)
    · exact hj.1.2.2.2.1.eq (fun p q => F 336 p (by first | decide | exact fun z => absurd z.1 (by decide) | exact ⟨fun z => absurd z.1 (by decide), fun z => absurd z.1 (by decide)⟩ | omega) (by first | decide | exact fun z => absurd z.1 (by decide) | exact ⟨fun z => absurd z.1 (by decide), fun z => absurd z.1 (by decide)⟩ | omega)) (fun c p q => F c p (by omega) (by omega))
    · obtain ⟨p1, p2, p3⟩ := hj.1.2.2.2.2
      have e7 : m 347 = m0 347 := funext (fun p => F 347 p (by first | decide | exact fun z => absurd z.1 (by decide) | exact ⟨fun z => absurd z.1 (by decide), fun z => absurd z.1 (by decide)⟩ | omega) (by first | decide | exact fun z => absurd z.1 (by decide) | exact ⟨fun z => absurd z.1 (by decide), fun z => absurd z.1 (by decide)⟩ | omega))
      have e4 : m 354 = m0 354 := funext (fun p => F 354 p (by first | decide | exact fun z => absurd z.1 (by decide) | exact ⟨fun z => absurd z.1 (by decide), fun z => absurd z.1 (by decide)⟩ | omega) (by first | decide | exact fun z => absurd z.1 (by decide) | exact ⟨fun z => absurd z.1 (by decide), fun z => absurd z.1 (by decide)⟩ | omega))
      unfold PL3
      rw [e25, e7, e4]
      obtain ⟨q1, q2⟩ := p2 r (by omega) (by omega)
      refine ⟨⟨fun a a0 a1 => ?_, fun a a0 a1 => ?_⟩, fun i i0 i1 => p2 i i0 (by omega), p3⟩
      · rw [hc 4 (by decide) (by decide)] at a1
        rw [hc _ (by omega) (by omega), hc 0 (by decide) (by decide), Int.add_zero]
        exact q1 a a0 a1
      · rw [hc 5 (by decide) (by decide)] at a1
        rw [hc _ (by omega) (by omega), hc 0 (by decide) (by decide), Int.add_zero]
        exact q2 a a0 a1
    · have k6 := hj.2
      have G : ∀ c p : Int, ¬ c = 346 → ¬ (c = 336 ∧ p = 25) → m c p = m0 c p := fun c p a b => F c p (by omega) b
      unfold Xr at k6 ⊢
      rw [G 3 3 (by omega) (by omega), G 336 22 (by omega) (by omega), G 76 3 (by omega) (by omega), G 76 9 (by omega) (by omega), G 101 3 (by omega) (by omega), G 101 9 (by omega) (by omega), G 126 3 (by omega) (by omega), G 126 9 (by omega) (by omega), G 151 3 (by omega) (by omega), G 151 9 (by omega) (by omega), G 356 0 (by omega) (by omega), G 356 1 (by omega) (by omega), G 356 2 (by omega) (by omega), G 356 3 (by omega) (by omega), G 357 0 (by omega) (by omega), G 357 1 (by omega) (by omega), G 357 2 (by omega) (by omega), G 357 3 (by omega) (by omega)]
      exact ⟨k6.1, k6.2.on G⟩
  have L : ∀ (n : Nat) (k : Int) (m : Mm), 0 ≤ k → k ≤ 57 → (∀ c p : Int, ¬ (c = 346 ∧ 0 ≤ p ∧ p < 57) → m c p = m1 c p) → (∀ j : Int, 0 ≤ j → j < k → m 346 j = m0 347 (57 * r + j)) → 58 - k ≤ (n : Int) → wp_X12_undo_21 S K n 336 k m := by
    intro n
    induction n with
    | zero => intro k m _ _ _ _ h; exfalso; omega
    | succ n ih =>
      intro k m k0 k1 f hc h
      have e20 : m 336 20 = 346 := by rw [f 336 20 (by first | decide | exact fun z => absurd z.1 (by decide) | exact ⟨fun z => absurd z.1 (by decide), fun z => absurd z.1 (by decide)⟩ | omega), f1 336 20 (by first | decide | exact fun z => absurd z.1 (by decide) | exact ⟨fun z => absurd z.1 (by decide), fun z => absurd z.1 (by decide)⟩ | omega)]; exact hm0.f_336_20
      have e24 : m 336 24 = 347 := by rw [f 336 24 (by first | decide | exact fun z => absurd z.1 (by decide) | exact ⟨fun z => absurd z.1 (by decide), fun z => absurd z.1 (by decide)⟩ | omega), f1 336 24 (by first | decide | exact fun z => absurd z.1 (by decide) | exact ⟨fun z => absurd z.1 (by decide), fun z => absurd z.1 (by decide)⟩ | omega)]; exact hm0.f_336_24
      have e25 : m 336 25 = r := (f 336 25 (by first | decide | exact fun z => absurd z.1 (by decide) | exact ⟨fun z => absurd z.1 (by decide), fun z => absurd z.1 (by decide)⟩ | omega)).trans y1
      refine u_X12_undo_21 ?_
      refine g_C ?_
      refine g_if (fun w2 => ?_) (fun w2 => ?_)
      · refine g_getu 25 rfl hS.k336 (fun v3 ev3 => ?_)
        have e3 : v3 = r := by rw [ev3]; exact e25
        rw [e3]
        exact hk r m (fin m f (fun j j0 j1 => hc j j0 (by omega))) (by omega) (by omega) (by omega) (by omega) e25 (fun c p q q2 => (f c p q).trans (f1 c p q2)) (fun j j0 j1 => hc j j0 (by omega))
      · refine g_getr 20 346 rfl hS.k336 e20 (by decide) ?_
        refine g_getr 24 347 rfl hS.k336 e24 (by decide) ?_
        refine g_C ?_
        refine g_getu 25 rfl hS.k336 (fun v3 ev3 => ?_)
        refine g_M (by omega) (by omega) ?_
        refine g_A (by omega) (by omega) ?_
        refine g_ldu hS.k347 hS.l347 (by omega) (by omega) (fun x ex => ?_)
        refine g_stR hS.k346 hS.l346 (by omega) (by omega) (fun m2 e2 => ?_)
        have f2 : ∀ c p : Int, ¬ (c = 346 ∧ p = k) → m2 c p = m c p := fun c p q => (congrFun (congrFun e2 _) _).trans (up_ne q)
        have y2 : m2 346 k = x := (congrFun (congrFun e2 _) _).trans (up_at _ _ _ _)
        refine g_A (by omega) (by omega) ?_
        refine ih (k + 1) m2 (by omega) (by omega) (fun c p q => (f2 c p (by first | exact fun y => absurd (y.1 ▸ z) (by decide) | exact fun y => absurd (y.1 ▸ q) (by decide) | exact z | exact q | exact z.1 | exact q.1 | exact z.2 | exact q.2 | omega)).trans (f c p q)) (fun j j0 j1 => ?_) (by omega)
        by_cases e : j = k
        · rw [e, y2, ex, f 347 _ (by first | decide | exact fun z => absurd z.1 (by decide) | exact ⟨fun z => absurd z.1 (by decide), fun z => absurd z.1 (by decide)⟩ | omega), f1 347 _ (by first | decide | exact fun z => absurd z.1 (by decide) | exact ⟨fun z => absurd z.1 (by decide), fun z => absurd z.1 (by decide)⟩ | omega), ev3, e25]
        · rw [f2 346 j (by first | decide | exact fun z => absurd z.1 (by decide) | exact ⟨fun z => absurd z.1 (by decide), fun z => absurd z.1 (by decide)⟩ | omega)]
          exact hc j j0 (by omega)
  exact ⟨58, L 58 0 m1 (by omega) (by omega) (fun _ _ _ => rfl) (fun j j0 j1 => absurd j1 (by omega)) (by omega)⟩
end
section
theorem zx_become {S : Sh} {m0 : Mm} {K : Mm → Prop} {u0 u1 : Int} (hS : Shp S) (hj : Jc S m0) (h0 : isSc u0) (h1 : isSc u1) (hd : u1 + 24 < u0 ∨ u0 + 24 < u1) (hk : ∀ M1 : Mm, Jc S M1 → (∀ c p : Int, ¬ (u0 + 1 ≤ c ∧ c ≤ u0 + 24) → ¬ (c = u0 ∧ (p = 2 ∨ p = 3 ∨ p = 4)) → M1 c p = m0 c p) → (∀ p : Int, 0 ≤ p → p < 8 → M1 (u0 + 1) p = m0 (u1 + 1) p) → (∀ c p : Int, inT c p → M1 (u0 + 1 + c) p = m0 (u1 + 1 + c) p) → (∀ p : Int, 0 ≤ p → p < 2 → M1 (u0 + 13) p = m0 (u1 + 13) p) → (∀ c p : Int, inS c p → M1 (u0 + 13 + c) p = m0 (u1 + 13 + c) p) → M1 u0 4 = m0 u1 4 → (∀ c p : Int, 21 ≤ c → c ≤ 24 → 0 ≤ p → p < 10 → M1 (u0 + c) p = m0 (u1 + c) p) → (∀ c p : Int, spP c p → ¬ (c = u0 ∧ (p = 2 ∨ p = 3)) → M1 c p = m0 c p) → M1 u0 3 = m0 u1 3 → M1 u0 2 = m0 u1 2 → K M1) : wp_X4_become S m0 u0 u1 K := by
  obtain ⟨X, eX⟩ : ∃ X : Mm, X = sf m0 := ⟨_, rfl⟩
  have hm0 : Inv X S m0 := by rw [eX]; exact hj.inv
  have xe : ∀ c p : Int, ¬ c = -1 → X c p = m0 c p := fun c p q => by rw [eX]; exact sf_e m0 q
  obtain ⟨t0, s0, -⟩ := sc_in u0 h0
  obtain ⟨t1, s1, -⟩ := sc_in u1 h1
  have n0 := (sc_no u0 h0).1
  have k0 := (sc_no u1 h1).1
  refine u_X4_become ?_
  refine g_getr 0 (u0 + 1) rfl (hS.kB_4_0 h0) (hm0.fB_4_0 h0) (by omega) ?_
  refine g_getr 0 (u1 + 1) rfl (hS.kB_4_0 h1) (hm0.fB_4_0 h1) (by omega) ?_
  refine ⟨hS.kB_8_0 t0, ?_⟩
  refine zb_told hS hm0 t0 t1 (by omega) (fun m1 hm1 ft d0 d1 d2 d3 d4 d5 d6 d7 q1 q2 q3 q4 q5 q6 q7 q8 q9 q10 q11 => ?_)
  refine g_getr 1 (u0 + 13) rfl (hS.kB_4_0 h0) (hm1.fB_4_1 h0) (by omega) ?_
  refine g_getr 1 (u1 + 13) rfl (hS.kB_4_0 h1) (hm1.fB_4_1 h1) (by omega) ?_
  refine ⟨hS.kB_5_0 s0, ?_⟩
  refine zb_state hS hm1 s0 s1 (by omega) (fun m2 hm2 fs i0 i1 w1 w2 w3 w4 w5 w6 w7 => ?_)
  refine g_get 2 (-1) (5) rfl (hS.kB_4_0 h1) (hm2.fB_4_2 h1) (fun v ev bv cv => ?_)
  refine g_putR 2 rfl (hS.kB_4_0 h0) (fun m3 e3 => ?_)
  have f3 : ∀ c p : Int, ¬ (c = u0 ∧ p = 2) → m3 c p = m2 c p := fun c p q => (congrFun (congrFun e3 _) _).trans (up_ne q)
  have y3 : m3 u0 2 = v := (congrFun (congrFun e3 _) _).trans (up_at _ _ _ _)
  have j2 : Jc S m2 := Jc.of hm2
  obtain ⟨c0', -, -, c3', -⟩ := cf_4_2 u0 h0
  have e3' : m3 = up m2 ((u0.toNat : Nat) : Int) ((2 : Nat) : Int) v := by
    rw [Int.toNat_of_nonneg c0']
    exact e3
  have j3 : Jc S m3 := j2.up1 u0.toNat 2 e3' (okb_of c3' bv cv) (sc_no u0 h0).2.1 (j2.2.2.2.1.eq (fun p q => f3 336 p (fun z => (sc_no u0 h0).2.2.2.2.2.1 z.1)) (fun c p q => f3 c p (fun z => no5 (sc_no u0 h0).2.2.2.2.2.2 q z.1))) (sc_no u0 h0).2.2.2.1
  have hm3 := j3.inv
  refine g_get 3 (0) (2147483647) rfl (hS.kB_4_0 h1) (hm3.fB_4_3 h1) (fun x ex bx cx => ?_)
  refine g_putR 3 rfl (hS.kB_4_0 h0) (fun m4 e4 => ?_)
  have f4 : ∀ c p : Int, ¬ (c = u0 ∧ p = 3) → m4 c p = m3 c p := fun c p q => (congrFun (congrFun e4 _) _).trans (up_ne q)
  have y4 : m4 u0 3 = x := (congrFun (congrFun e4 _) _).trans (up_at _ _ _ _)
  obtain ⟨x0', -, -, x3', -⟩ := cf_4_3 u0 h0
  have e4' : m4 = up m3 ((u0.toNat : Nat) : Int) ((3 : Nat) : Int) x := by
    rw [Int.toNat_of_nonneg x0']
    exact e4
  have j4 : Jc S m4 := j3.up1 u0.toNat 3 e4' (okb_of x3' bx cx) (sc_no u0 h0).2.2.1 (j3.2.2.2.1.eq (fun p q => f4 336 p (fun z => (sc_no u0 h0).2.2.2.2.2.1 z.1)) (fun c p q => f4 c p (fun z => no5 (sc_no u0 h0).2.2.2.2.2.2 q z.1))) (sc_no u0 h0).2.2.2.2.1
  obtain ⟨Y, eY⟩ : ∃ Y : Mm, Y = sf m4 := ⟨_, rfl⟩
  have hm4 : Inv Y S m4 := by rw [eY]; exact j4.inv
  have ye : ∀ c p : Int, ¬ c = -1 → Y c p = m4 c p := fun c p q => by rw [eY]; exact sf_e m4 q
  refine g_get 4 (0) (10) rfl (hS.kB_4_0 h1) (hm4.fB_4_4 h1) (fun t et bt ct => ?_)
  refine g_put 4 rfl (hS.kB_4_0 h0) (hm4.wB_4_4 h0 bt ct) (fun n0 en0 hn0 => ?_)
  have fn0 : ∀ c p : Int, ¬ (c = u0 ∧ p = 4) → n0 c p = m4 c p := fun c p q => (congrFun (congrFun en0 _) _).trans (up_ne q)
  have yn0 : n0 u0 4 = t := (congrFun (congrFun en0 _) _).trans (up_at _ _ _ _)
  refine g_getr 5 (u1 + 21) rfl (hS.kB_4_0 h1) (hn0.fB_4_5 h1) (by omega) ?_
  refine g_C ?_
  refine g_getr 5 (u0 + 21) rfl (hS.kB_4_0 h0) (hn0.fB_4_5 h0) (by omega) ?_
  refine g_C ?_
  refine g_C ?_
  refine g_cpyx (hS.kB_4_21 h1) (hS.kB_4_21 h0) (hS.lB_4_21 h1) (hS.lB_4_21 h0) (by decide) (hn0.cpB_4_21 h1 h0 (by decide)) (fun n1 hn1 fn1 yn1 => ?_)
  refine g_getr 6 (u1 + 22) rfl (hS.kB_4_0 h1) (hn1.fB_4_6 h1) (by omega) ?_
  refine g_C ?_
  refine g_getr 6 (u0 + 22) rfl (hS.kB_4_0 h0) (hn1.fB_4_6 h0) (by omega) ?_
  refine g_C ?_
  refine g_C ?_
  refine g_cpyx (hS.kB_4_22 h1) (hS.kB_4_22 h0) (hS.lB_4_22 h1) (hS.lB_4_22 h0) (by decide) (hn1.cpB_4_22 h1 h0 (by decide)) (fun n2 hn2 fn2 yn2 => ?_)
  refine g_getr 7 (u1 + 23) rfl (hS.kB_4_0 h1) (hn2.fB_4_7 h1) (by omega) ?_
  refine g_C ?_
  refine g_getr 7 (u0 + 23) rfl (hS.kB_4_0 h0) (hn2.fB_4_7 h0) (by omega) ?_
  refine g_C ?_
  refine g_C ?_
  refine g_cpyx (hS.kB_4_23 h1) (hS.kB_4_23 h0) (hS.lB_4_23 h1) (hS.lB_4_23 h0) (by decide) (hn2.cpB_4_23 h1 h0 (by decide)) (fun n3 hn3 fn3 yn3 => ?_)
  refine g_getr 8 (u1 + 24) rfl (hS.kB_4_0 h1) (hn3.fB_4_8 h1) (by omega) ?_
  refine g_C ?_
  refine g_getr 8 (u0 + 24) rfl (hS.kB_4_0 h0) (hn3.fB_4_8 h0) (by omega) ?_
  refine g_C ?_
  refine g_C ?_
  refine g_cpyx (hS.kB_4_24 h1) (hS.kB_4_24 h0) (hS.lB_4_24 h1) (hS.lB_4_24 h0) (by decide) (hn3.cpB_4_24 h1 h0 (by decide)) (fun n4 hn4 fn4 yn4 => ?_)
  have sp : ∀ c p : Int, spP c p → n4 c p = m4 c p := fun c p q => (hn4.g q).trans (ye c p (spP_ne q))
  have sp2 : ∀ c p : Int, spP c p → m2 c p = m0 c p := fun c p q => (hm2.g q).trans (xe c p (spP_ne q))
  -- how the steps leave the rest
  have N : ∀ c p : Int, ¬ (u0 + 21 ≤ c ∧ c ≤ u0 + 24) → ¬ (c = u0 ∧ (p = 2 ∨ p = 3 ∨ p = 4)) → n4 c p = m2 c p := fun c p q q2 => by rw [fn4 c p (fun z => q ⟨by omega, by omega⟩), fn3 c p (fun z => q ⟨by omega, by omega⟩), fn2 c p (fun z => q ⟨by omega, by omega⟩), fn1 c p (fun z => q ⟨by omega, by omega⟩), fn0 c p (fun z => q2 ⟨z.1, Or.inr (Or.inr z.2)⟩), f4 c p (fun z => q2 ⟨z.1, Or.inr (Or.inl z.2)⟩), f3 c p (fun z => q2 ⟨z.1, Or.inl z.2⟩)]
  have N1 : ∀ c p : Int, (u0 + 1 ≤ c ∧ c ≤ u0 + 12) → n4 c p = m1 c p := fun c p q => by rw [N c p (by omega) (by omega), fs c p (by omega)]
  have N2 : ∀ c p : Int, (u1 ≤ c ∧ c ≤ u1 + 24) → m2 c p = m0 c p := fun c p q => by rw [fs c p (by omega), ft c p (by omega)]
  have N3 : ∀ c p : Int, (u1 + 21 ≤ c ∧ c ≤ u1 + 24) → n0 c p = m0 c p := fun c p q => by rw [fn0 c p (by omega), f4 c p (by omega), f3 c p (by omega), N2 c p (by omega)]
  refine hk n4 (Jc.of hn4) (fun c p q q2 => by rw [N c p (by omega) q2, fs c p (by omega), ft c p (by omega)]) (fun p p0 p1 => ?_) (fun c p q => ?_) (fun p p0 p1 => ?_) (fun c p q => ?_) ?_ (fun c p c0 c1 p0 p1 => ?_) (fun c p q q2 => ?_) ?_ ?_
  · rw [N1 _ p (by omega)]
    rcases (show p = 0 ∨ p = 1 ∨ p = 2 ∨ p = 3 ∨ p = 4 ∨ p = 5 ∨ p = 6 ∨ p = 7 by omega) with e | e | e | e | e | e | e | e <;> subst e <;> assumption
  · obtain ⟨p0, q⟩ := q
    rw [N1 _ p (by omega)]
    rcases (show c = 1 ∨ c = 2 ∨ c = 3 ∨ c = 4 ∨ c = 5 ∨ c = 6 ∨ c = 7 ∨ c = 8 ∨ c = 9 ∨ c = 10 ∨ c = 11 by omega) with e | e | e | e | e | e | e | e | e | e | e <;> subst e
    · exact q1 p p0 (by omega)
    · exact q2 p p0 (by omega)
    · exact q3 p p0 (by omega)
    · exact q4 p p0 (by omega)
    · exact q5 p p0 (by omega)
    · exact q6 p p0 (by omega)
    · exact q7 p p0 (by omega)
    · exact q8 p p0 (by omega)
    · exact q9 p p0 (by omega)
    · exact q10 p p0 (by omega)
    · exact q11 p p0 (by omega)
  · rw [N _ p (by omega) (by omega), ← ft (u1 + 13) p (by omega)]
    rcases (show p = 0 ∨ p = 1 by omega) with e | e <;> subst e <;> assumption
  · obtain ⟨p0, q⟩ := q
    rw [N _ p (by omega) (by omega), ← ft (u1 + 13 + c) p (by omega)]
    rcases (show c = 1 ∨ c = 2 ∨ c = 3 ∨ c = 4 ∨ c = 5 ∨ c = 6 ∨ c = 7 by omega) with e | e | e | e | e | e | e <;> subst e
    · exact w1 p p0 (by omega)
    · exact w2 p p0 (by omega)
    · exact w3 p p0 (by omega)
    · exact w4 p p0 (by omega)
    · exact w5 p p0 (by omega)
    · exact w6 p p0 (by omega)
    · exact w7 p p0 (by omega)
  · rw [fn4 _ _ (by omega), fn3 _ _ (by omega), fn2 _ _ (by omega), fn1 _ _ (by omega), yn0, et, f4 _ _ (by omega), f3 _ _ (by omega), N2 _ _ (by omega)]
  · rcases (show c = 21 ∨ c = 22 ∨ c = 23 ∨ c = 24 by omega) with e | e | e | e <;> subst e
    · rw [fn4 _ _ (by omega), fn3 _ _ (by omega), fn2 _ _ (by omega), yn1 p p0 p1, N3 _ _ (by omega)]
    · rw [fn4 _ _ (by omega), fn3 _ _ (by omega), yn2 p p0 p1, fn1 _ _ (by omega), N3 _ _ (by omega)]
    · rw [fn4 _ _ (by omega), yn3 p p0 p1, fn2 _ _ (by omega), fn1 _ _ (by omega), N3 _ _ (by omega)]
    · rw [yn4 p p0 p1, fn3 _ _ (by omega), fn2 _ _ (by omega), fn1 _ _ (by omega), N3 _ _ (by omega)]
  · rw [sp c p q, f4 c p (fun z => q2 ⟨z.1, Or.inr z.2⟩), f3 c p (fun z => q2 ⟨z.1, Or.inl z.2⟩), sp2 c p q]
  · rw [sp u0 3 (sc_sp u0 h0).2.1, y4, ex, f3 u1 3 (fun z => absurd z.2 (by decide)), sp2 u1 3 (sc_sp u1 h1).2.1]
  · rw [sp u0 2 (sc_sp u0 h0).1, f4 u0 2 (fun z => absurd z.2 (by decide)), y3, ev, sp2 u1 2 (sc_sp u1 h1).1]
theorem zx_image11 {S : Sh} {m0 : Mm} {K : Int → Mm → Prop} {u1 : Int} (hS : Shp S) (hj : Jc S m0) (h0 : ¬ (0 ≤ u1 ∧ u1 ≤ 3) → K (-1) m0) (hk : ∀ (r : Int) (M1 : Mm), 0 ≤ u1 → u1 ≤ 3 → Jc S M1 → r = m0 16 0 → (∀ c p : Int, ¬ (76 + 25 * u1 + 1 ≤ c ∧ c ≤ 76 + 25 * u1 + 24) → ¬ (c = 76 + 25 * u1) → M1 c p = m0 c p) → (∀ p : Int, 0 ≤ p → p < 8 → M1 (76 + 25 * u1 + 1) p = m0 (3 + 1) p) → (∀ c p : Int, inT c p → M1 (76 + 25 * u1 + 1 + c) p = m0 (3 + 1 + c) p) → (∀ p : Int, 0 ≤ p → p < 2 → M1 (76 + 25 * u1 + 13) p = m0 (3 + 13) p) → (∀ c p : Int, inS c p → M1 (76 + 25 * u1 + 13 + c) p = m0 (3 + 13 + c) p) → M1 (76 + 25 * u1) 4 = m0 3 4 → (∀ c p : Int, 21 ≤ c → c ≤ 24 → 0 ≤ p → p < 10 → M1 (76 + 25 * u1 + c) p = m0 (3 + c) p) → (∀ c p : Int, spP c p → ¬ c = 76 + 25 * u1 → M1 c p = m0 c p) → M1 (76 + 25 * u1) 3 = m0 3 3 → M1 (76 + 25 * u1) 9 = 1 → M1 (76 + 25 * u1) 2 = m0 3 2 → K r M1) : wp_X11_image S m0 0 u1 K := by
  have hm0 := hj.inv
  refine u_X11_image ?_
  refine g_if (fun w => g_C (h0 (by omega))) (fun w => ?_)
  refine g_C ?_
  refine g_if (fun w2 => ?_) (fun w2 => g_C (h0 (by omega)))
  have a : 0 ≤ u1 := by omega
  have b : u1 ≤ 3 := by omega
  have sc := im_sc a b
  refine g_getr 2 28 rfl hS.k0 hm0.f_0_2 (by decide) ?_
  refine g_ldrB (P := fun c => c = 76 + 25 * u1) (fun c hc => by omega) hS.k28 hS.l28 a (by omega) (hm0.im a b) (fun v ev hv => ?_)
  subst hv
  refine g_getr 1 3 rfl hS.k0 hm0.f_0_1 (by decide) ?_
  refine ⟨hS.kB_4_0 sc, ?_⟩
  refine zx_become hS hj sc (by decide) (by omega) (fun m1 j1 ff t0 t1 s0 s1 y0 y1 f1 x1 xx1 => ?_)
  have hm1 := j1.inv
  refine g_getr 2 28 rfl hS.k0 hm1.f_0_2 (by decide) ?_
  refine g_ldrB (P := fun c => c = 76 + 25 * u1) (fun c hc => by omega) hS.k28 hS.l28 a (by omega) (hm1.im a b) (fun v2 ev2 hv2 => ?_)
  subst hv2
  refine g_C ?_
  refine g_putzR 9 rfl (hS.kB_4_0 sc) (by decide) (fun m2 e2 => ?_)
  have f2 : ∀ c p : Int, ¬ (c = 76 + 25 * u1 ∧ p = 9) → m2 c p = m1 c p := fun c p q => (congrFun (congrFun e2 _) _).trans (up_ne q)
  have y2 : m2 (76 + 25 * u1) 9 = 1 := (congrFun (congrFun e2 _) _).trans (up_at _ _ _ _)
  obtain ⟨d0, d1, d2, d3, d4⟩ := cf_4_9 _ sc
  have e2' : m2 = up m1 (((76 + 25 * u1).toNat : Nat) : Int) ((9 : Nat) : Int) 1 := by
    rw [Int.toNat_of_nonneg d0]
    exact e2
  have j2 : Jc S m2 := j1.up1 (76 + 25 * u1).toNat 9 e2' (okb_of d3 (by decide) (by decide)) (by omega) (j1.2.2.2.1.eq (fun p q => f2 336 p (by omega)) (fun c p q => f2 c p (by omega))) (by omega)
  have hm2 := j2.inv
  refine g_getr 1 3 rfl hS.k0 hm2.f_0_1 (by decide) ?_
  refine g_getr 1 16 rfl hS.k3 hm2.f_3_1 (by decide) ?_
  refine g_getu 0 rfl hS.k16 (fun v3 ev3 => ?_)
  refine hk _ m2 a b j2 (by rw [ev3, f2 16 0 (by omega), ff 16 0 (by omega) (by omega)]) (fun c p q q2 => by rw [f2 c p (by omega), ff c p q (by omega)]) (fun p p0 p1 => by rw [f2 _ p (by omega)]; exact t0 p p0 p1) (fun c p q => by rw [f2 _ p (by omega)]; exact t1 c p q) (fun p p0 p1 => by rw [f2 _ p (by omega)]; exact s0 p p0 p1) (fun c p q => by rw [f2 _ p (by omega)]; exact s1 c p q) (by rw [f2 _ 4 (by omega)]; exact y0) (fun c p c0 c1 p0 p1 => by rw [f2 _ p (by omega)]; exact y1 c p c0 c1 p0 p1) (fun c p q q2 => ?_) ?_ y2 (by rw [f2 _ 2 (by omega), xx1])
  · rw [f2 c p (by omega), f1 c p q (by omega)]
  · rw [f2 _ 3 (by omega), x1]
end
section
/-! the rule language over a tape, with what is written: P the pile of signs that wait (its top first), O what is written, both as the class has them (numbers; words -2 and on; * / % + - -12 .. -16; < <= = >= > -17 .. -21; not and or -22 .. -24; turn, turn if -25, -26; [ -27) -/
def bnS (x : Int) : Int := if x = -24 then 1 else if x = -23 then 2 else if x = -22 then 3 else if -21 ≤ x ∧ x ≤ -17 then 4 else if x = -16 ∨ x = -15 then 5 else if -14 ≤ x ∧ x ≤ -12 then 6 else 4
/-- what is written of a pile, down to what binds less than u, or a bracket -/
def uW (u : Int) : List Int → List Int
  | [] => []
  | x :: P => if x = -27 ∨ bnS x < u then [] else x :: uW u P
/-- what stays -/
def uR (u : Int) : List Int → List Int
  | [] => []
  | x :: P => if x = -27 ∨ bnS x < u then x :: P else uR u P
def nOp : List Int → Nat
  | [] => 0
  | x :: P => (if x = -27 then 1 else 0) + nOp P
def nDp : List Int → Nat
  | [] => 0
  | x :: P => (if x = -27 ∨ x = -22 then 1 else 0) + nDp P
/-- the sign of a byte: * / % + - -/
def arS (x : Int) : Int := if x = 42 then -12 else if x = 47 then -13 else if x = 37 then -14 else if x = 43 then -15 else -16
/-- the sign of a comparison: its byte, and whether = comes behind -/
def cmS (x : Int) (e : Bool) : Int := if x = 61 then -19 else if x = 60 then (if e then -18 else -17) else (if e then -20 else -21)
abbrev Bc : Type := Int → Int → Int → List Int → List Int → Int → Int → List Int → Prop
def bV (b : Int → Int) (n : Int) (A : Bc) (m q c : Int) (P O : List Int) (k f : Int) (E : List Int) : List (Nat × Int) → Prop
  | [] => f = 1 + 8 * q ∧ E = []
  | (j, t) :: js => wIf (Wk b n j q) (wIf (c = 60) (f = 4 + 8 * q ∧ E = []) (A (m + 3) (q + tl j) (c + 1) P (O ++ [t]) k f E)) (bV b n A m q c P O k f E js)
def bws : List (Nat × Int) := [(2, -2), (7, -3), (8, -4), (3, -5), (9, -6), (4, -7), (10, -8), (1, -9), (11, -10), (12, -11)]
def b0 (b : Int → Int) (n : Int) (A : Bc) (q c : Int) (O : List Int) (k f : Int) (E : List Int) : Prop := wIf (Wk b n 6 q) (wIf (k = 12) (f = 5 + 8 * q ∧ E = []) (A 1 (q + 4) c [] O (k + 1) f E)) (f = 1 + 8 * q ∧ E = [])
def bVal (b : Int → Int) (n : Int) (A : Bc) (m q c : Int) (P O : List Int) (k f : Int) (E : List Int) : Prop := wIf (q < n ∧ Dg (b q)) (∃ r : Int, Dr b n q r ∧ wIf (5 < r - q) (f = 2 + 8 * q ∧ E = []) (wIf (c = 60) (f = 4 + 8 * q ∧ E = []) (A (m + 3) r (c + 1) P (O ++ [nv b q r]) k f E))) (bV b n A m q c P O k f E bws)
/-- a sign is piled up: what binds as close is written first -/
def bPile (A : Bc) (m p c s : Int) (P O : List Int) (k f : Int) (E : List Int) : Prop := A m p c (s :: uR (bnS s) P) (O ++ uW (bnS s) P) k f E
def bA0 (b : Int → Int) (n : Int) (A : Bc) (q c : Int) (P O : List Int) (k f : Int) (E : List Int) : Prop := wIf (n ≤ q ∨ b q = 59) (A 9 q c [] (O ++ uW 0 P ++ [-25]) k f E) (wIf (Ar (b q)) (bPile A 1 (q + 1) c (arS (b q)) P O k f E) (wIf (Wk b n 13 q) (A 8 (q + 2) c (uR 0 P) (O ++ uW 0 P) k f E) (f = 1 + 8 * q ∧ E = [])))
def bA1 (b : Int → Int) (n : Int) (A : Bc) (q c : Int) (P O : List Int) (k f : Int) (E : List Int) : Prop := wIf (q < n ∧ Ar (b q)) (bPile A 2 (q + 1) c (arS (b q)) P O k f E) (wIf (q < n ∧ Cm (b q)) (wIf (c = 60) (f = 4 + 8 * q ∧ E = []) (wIf (¬ b q = 61 ∧ q + 1 < n ∧ b (q + 1) = 61) (bPile A 3 (q + 2) (c + 1) (cmS (b q) true) P O k f E) (bPile A 3 (q + 1) (c + 1) (cmS (b q) false) P O k f E))) (f = 1 + 8 * q ∧ E = []))
def bB (b : Int → Int) (n : Int) (A : Bc) (q c : Int) (P O : List Int) (k f : Int) (E : List Int) : Prop := wIf (Wk b n 15 q) (bPile A 8 (q + 3) c (-23) P O k f E) (wIf (Wk b n 16 q) (bPile A 8 (q + 2) c (-24) P O k f E) (f = 1 + 8 * q ∧ E = []))
/-- a bracket closes, or the clause ends -/
def bC (b : Int → Int) (n : Int) (A : Bc) (q c : Int) (P O : List Int) (k f : Int) (E : List Int) (Z : Prop) : Prop := wIf (q < n ∧ b q = 93 ∧ ¬ nOp P = 0) (A 7 (q + 1) c (uR 0 P).tail (O ++ uW 0 P) k f E) (wIf (nOp P = 0 ∧ (n ≤ q ∨ b q = 59)) (A 9 q c [] (O ++ uW 0 P ++ [-26]) k f E) Z)
def bA2 (b : Int → Int) (n : Int) (A : Bc) (q c : Int) (P O : List Int) (k f : Int) (E : List Int) : Prop := bC b n A q c P O k f E (wIf (q < n ∧ Ar (b q)) (bPile A 3 (q + 1) c (arS (b q)) P O k f E) (bB b n A q c P O k f E))
def bA3 (b : Int → Int) (n : Int) (A : Bc) (q c : Int) (P O : List Int) (k f : Int) (E : List Int) : Prop := bC b n A q c P O k f E (bB b n A q c P O k f E)
def bO (b : Int → Int) (n : Int) (A : Bc) (q c : Int) (P O : List Int) (k f : Int) (E : List Int) : Prop := wIf (q < n ∧ b q = 91) (wIf (nDp P = 10) (f = 3 + 8 * q ∧ E = []) (A 8 (q + 1) c (-27 :: P) O k f E)) (wIf (Wk b n 14 q) (wIf (nDp P = 10) (f = 3 + 8 * q ∧ E = []) (A 8 (q + 3) c (-22 :: P) O k f E)) (A 2 q c P O k f E))
def bE (b : Int → Int) (n : Int) (A : Bc) (q c : Int) (O : List Int) (k f : Int) (E : List Int) : Prop := wIf (n ≤ q) (f = 0 ∧ E = O) (wIf (b q = 59) (A 0 (q + 1) c [] O k f E) (f = 1 + 8 * q ∧ E = []))
def bst (b : Int → Int) (n : Int) (A : Bc) (m q c : Int) (P O : List Int) (k f : Int) (E : List Int) : Prop := wIf (m = 0) (b0 b n A q c O k f E) (wIf (m = 1 ∨ m = 2 ∨ m = 3) (bVal b n A m q c P O k f E) (wIf (m = 4) (bA0 b n A q c P O k f E) (wIf (m = 5) (bA1 b n A q c P O k f E) (wIf (m = 6) (bA2 b n A q c P O k f E) (wIf (m = 7) (bA3 b n A q c P O k f E) (wIf (m = 8) (bO b n A q c P O k f E) (bE b n A q c O k f E)))))))
def bcc (b : Int → Int) (n : Int) : Nat → Bc
  | 0 => fun _ _ _ _ _ _ _ _ => False
  | N + 1 => fun m p c P O k f E => ∃ q : Int, Sk b n p q ∧ bst b n (bcc b n N) m q c P O k f E
/-- how the reading of a RULE ends: its FAULT, or 0 and the signs -/
def Bcc (b : Int → Int) (n : Int) : Bc := fun m p c P O k f E => ∃ N : Nat, bcc b n N m p c P O k f E
theorem b_bV {b : Int → Int} {n m q c : Int} {P O : List Int} {k f : Int} {E : List Int} : ∀ l : List (Nat × Int), bV b n (Bcc b n) m q c P O k f E l → ∃ N : Nat, bV b n (bcc b n N) m q c P O k f E l := by
  intro l
  induction l with
  | nil => intro h; exact ⟨0, h⟩
  | cons j js ih =>
    intro h
    exact ex_if (fun e => ex_if (fun e2 => ⟨0, (h.1 e).1 e2⟩) (fun e2 => (h.1 e).2 e2)) (fun e => ih (h.2 e))
theorem b_bB {b : Int → Int} {n q c : Int} {P O : List Int} {k f : Int} {E : List Int} (h : bB b n (Bcc b n) q c P O k f E) : ∃ N : Nat, bB b n (bcc b n N) q c P O k f E := ex_if (fun a => h.1 a) (fun a => ex_if (fun a2 => (h.2 a).1 a2) (fun a2 => ⟨0, (h.2 a).2 a2⟩))
theorem b_step {b : Int → Int} {n m p q c : Int} {P O : List Int} {k f : Int} {E : List Int} (hs : Sk b n p q) (h : bst b n (Bcc b n) m q c P O k f E) : Bcc b n m p c P O k f E := by
  have z : ∃ N : Nat, bst b n (bcc b n N) m q c P O k f E := by
    refine ex_if (fun e => ?_) (fun e0 => ex_if (fun e => ?_) (fun e1 => ex_if (fun e => ?_) (fun e2 => ex_if (fun e => ?_) (fun e3 => ex_if (fun e => ?_) (fun e4 => ex_if (fun e => ?_) (fun e5 => ex_if (fun e => ?_) (fun e6 => ?_)))))))
    · have g := h.1 e
      exact ex_if (fun a => ex_if (fun a2 => ⟨0, (g.1 a).1 a2⟩) (fun a2 => (g.1 a).2 a2)) (fun a => ⟨0, g.2 a⟩)
    · have g := (h.2 e0).1 e
      refine ex_if (fun a => ?_) (fun a => b_bV _ (g.2 a))
      obtain ⟨r, hr, g2⟩ := g.1 a
      obtain ⟨N, hN⟩ : ∃ N : Nat, wIf (5 < r - q) (f = 2 + 8 * q ∧ E = []) (wIf (c = 60) (f = 4 + 8 * q ∧ E = []) (bcc b n N (m + 3) r (c + 1) P (O ++ [nv b q r]) k f E)) := ex_if (fun a2 => ⟨0, g2.1 a2⟩) (fun a2 => ex_if (fun a3 => ⟨0, (g2.2 a2).1 a3⟩) (fun a3 => (g2.2 a2).2 a3))
      exact ⟨N, r, hr, hN⟩
    · have g := ((h.2 e0).2 e1).1 e
      exact ex_if (fun a => g.1 a) (fun a => ex_if (fun a2 => (g.2 a).1 a2) (fun a2 => ex_if (fun a3 => ((g.2 a).2 a2).1 a3) (fun a3 => ⟨0, ((g.2 a).2 a2).2 a3⟩)))
    · have g := (((h.2 e0).2 e1).2 e2).1 e
      exact ex_if (fun a => g.1 a) (fun a => ex_if (fun a2 => ex_if (fun a3 => ⟨0, ((g.2 a).1 a2).1 a3⟩) (fun a3 => ex_if (fun a4 => (((g.2 a).1 a2).2 a3).1 a4) (fun a4 => (((g.2 a).1 a2).2 a3).2 a4))) (fun a2 => ⟨0, (g.2 a).2 a2⟩))
    · have g := ((((h.2 e0).2 e1).2 e2).2 e3).1 e
      exact ex_if (fun a => g.1 a) (fun a => ex_if (fun a2 => (g.2 a).1 a2) (fun a2 => ex_if (fun a3 => ((g.2 a).2 a2).1 a3) (fun a3 => b_bB (((g.2 a).2 a2).2 a3))))
    · have g := (((((h.2 e0).2 e1).2 e2).2 e3).2 e4).1 e
      exact ex_if (fun a => g.1 a) (fun a => ex_if (fun a2 => (g.2 a).1 a2) (fun a2 => b_bB ((g.2 a).2 a2)))
    · have g := ((((((h.2 e0).2 e1).2 e2).2 e3).2 e4).2 e5).1 e
      exact ex_if (fun a => ex_if (fun a2 => ⟨0, (g.1 a).1 a2⟩) (fun a2 => (g.1 a).2 a2)) (fun a => ex_if (fun a2 => ex_if (fun a3 => ⟨0, ((g.2 a).1 a2).1 a3⟩) (fun a3 => ((g.2 a).1 a2).2 a3)) (fun a2 => (g.2 a).2 a2))
    · have g := ((((((h.2 e0).2 e1).2 e2).2 e3).2 e4).2 e5).2 e6
      exact ex_if (fun a => ⟨0, g.1 a⟩) (fun a => ex_if (fun a2 => (g.2 a).1 a2) (fun a2 => ⟨0, (g.2 a).2 a2⟩))
  obtain ⟨N, hN⟩ := z
  exact ⟨N + 1, q, hs, hN⟩
def Btt (A B : Bc) : Prop := ∀ m p c P O k f E g F, A m p c P O k f E → B m p c P O k g F → f = g ∧ E = F
theorem eq_bt {a f g : Int} {E F G : List Int} (h : f = a ∧ E = G) (h' : g = a ∧ F = G) : f = g ∧ E = F := ⟨h.1.trans h'.1.symm, h.2.trans h'.2.symm⟩
theorem bV_det {b : Int → Int} {n m q c : Int} {P O : List Int} {k f g : Int} {E F : List Int} {A B : Bc} (d : Btt A B) : ∀ l : List (Nat × Int), bV b n A m q c P O k f E l → bV b n B m q c P O k g F l → f = g ∧ E = F := by
  intro l
  induction l with
  | nil => intro h h'; exact eq_bt h h'
  | cons j js ih =>
    intro h h'
    exact if_dt h h' (fun h h' => if_dt h h' eq_bt (fun h h' => d _ _ _ _ _ _ _ _ _ _ h h')) ih
theorem bcc_det {b : Int → Int} {n : Int} : ∀ N N' : Nat, Btt (bcc b n N) (bcc b n N') := by
  intro N
  induction N with
  | zero => intro N' m p c P O k f E g F a; exact a.elim
  | succ N ih =>
    intro N'
    cases N' with
    | zero => intro m p c P O k f E g F _ a; exact a.elim
    | succ N' =>
      intro m p c P O k f E g F a a'
      have d := ih N'
      obtain ⟨q, hs, a⟩ := a
      obtain ⟨q', hs', a'⟩ := a'
      have e := hs.uniq hs'
      subst e
      have L : ∀ {m p c P O k}, bcc b n N m p c P O k f E → bcc b n N' m p c P O k g F → f = g ∧ E = F := fun h h' => d _ _ _ _ _ _ _ _ _ _ h h'
      have dB : bB b n (bcc b n N) q c P O k f E → bB b n (bcc b n N') q c P O k g F → f = g ∧ E = F := fun h h' => if_dt h h' L (fun h h' => if_dt h h' L eq_bt)
      refine if_dt a a' (fun h h' => if_dt h h' (fun h h' => if_dt h h' eq_bt L) eq_bt) (fun h h' => if_dt h h' (fun h h' => if_dt h h' (fun h h' => ?_) (bV_det d _)) (fun h h' => if_dt h h' (fun h h' => if_dt h h' L (fun h h' => if_dt h h' L (fun h h' => if_dt h h' L eq_bt))) (fun h h' => if_dt h h' (fun h h' => if_dt h h' L (fun h h' => if_dt h h' (fun h h' => if_dt h h' eq_bt (fun h h' => if_dt h h' L L)) eq_bt)) (fun h h' => if_dt h h' (fun h h' => if_dt h h' L (fun h h' => if_dt h h' L (fun h h' => if_dt h h' L dB))) (fun h h' => if_dt h h' (fun h h' => if_dt h h' L (fun h h' => if_dt h h' L dB)) (fun h h' => if_dt h h' (fun h h' => if_dt h h' (fun h h' => if_dt h h' eq_bt L) (fun h h' => if_dt h h' (fun h h' => if_dt h h' eq_bt L) L)) (fun h h' => if_dt h h' (fun h h' => ⟨h.1.trans h'.1.symm, h.2.trans h'.2.symm⟩) (fun h h' => if_dt h h' L eq_bt))))))))
      obtain ⟨r, hr, h⟩ := h
      obtain ⟨r', hr', h'⟩ := h'
      have e := hr.uniq hr'
      subst e
      exact if_dt h h' eq_bt (fun h h' => if_dt h h' eq_bt L)
theorem Bcc.det {b : Int → Int} {n m p c : Int} {P O : List Int} {k f g : Int} {E F : List Int} (x : Bcc b n m p c P O k f E) (x' : Bcc b n m p c P O k g F) : f = g ∧ E = F := by
  obtain ⟨N, x⟩ := x
  obtain ⟨N', x'⟩ := x'
  exact bcc_det N N' _ _ _ _ _ _ _ _ _ _ x x'
theorem uW_27 (u : Int) (P : List Int) : uW u (-27 :: P) = [] ∧ uR u (-27 :: P) = -27 :: P := ⟨if_pos (Or.inl rfl), if_pos (Or.inl rfl)⟩
theorem nOp_uR (u : Int) : ∀ P : List Int, nOp (uR u P) = nOp P := by
  intro P
  induction P with
  | nil => rfl
  | cons x P ih =>
    show nOp (if x = -27 ∨ bnS x < u then x :: P else uR u P) = (if x = -27 then 1 else 0) + nOp P
    by_cases e : x = -27 ∨ bnS x < u
    · rw [if_pos e]; rfl
    · rw [if_neg e, ih, if_neg (fun z => e (Or.inl z)), Nat.zero_add]
theorem nDp_uR (u : Int) : ∀ P : List Int, nDp (uR u P) ≤ nDp P := by
  intro P
  induction P with
  | nil => exact Nat.le_refl _
  | cons x P ih =>
    show nDp (if x = -27 ∨ bnS x < u then x :: P else uR u P) ≤ (if x = -27 ∨ x = -22 then 1 else 0) + nDp P
    by_cases e : x = -27 ∨ bnS x < u
    · rw [if_pos e]; exact Nat.le_refl _
    · rw [if_neg e]; omega
end
