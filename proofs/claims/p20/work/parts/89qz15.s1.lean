/-! small methods of both sides, to the letter -/
/-- the JUGS that a HAND holds, as bits -/
def hbt (f : Int → Int) (h : Int) : Nat → Int
  | 0 => 0
  | n + 1 => if f n = h then iOr (hbt f h n) (iShl 1 (n : Int)) else hbt f h n
theorem hbt_same {f g : Int → Int} {h : Int} : ∀ n : Nat, (∀ j : Int, 0 ≤ j → j < n → g j = f j) → hbt g h n = hbt f h n := by
  intro n
  induction n with
  | zero => intro _; rfl
  | succ n ih =>
    intro e
    show (if g (n : Int) = h then iOr (hbt g h n) (iShl 1 (n : Int)) else hbt g h n) = (if f (n : Int) = h then iOr (hbt f h n) (iShl 1 (n : Int)) else hbt f h n)
    rw [ih (fun j a c => e j a (by omega)), e (n : Int) (by omega) (by omega)]
theorem or_t : ∀ n : Nat, n < 4 → ∀ v : Nat, v < 2 ^ n → (0 ≤ iOr (v : Int) (iShl 1 (n : Int)) ∧ iOr (v : Int) (iShl 1 (n : Int)) < 2 ^ (n + 1)) := by decide +kernel
theorem or_0 : ∀ v : Nat, v < 16 → iOr (v : Int) 0 = (v : Int) := by decide +kernel
theorem hbt_b {f : Int → Int} {h : Int} : ∀ n : Nat, n ≤ 4 → 0 ≤ hbt f h n ∧ hbt f h n < 2 ^ n := by
  intro n
  induction n with
  | zero => intro _; exact ⟨Int.le_refl 0, by show (0 : Int) < 2 ^ 0; decide⟩
  | succ n ih =>
    intro hn
    have q := ih (by omega)
    show 0 ≤ (if f (n : Int) = h then iOr (hbt f h n) (iShl 1 (n : Int)) else hbt f h n) ∧ (if f (n : Int) = h then iOr (hbt f h n) (iShl 1 (n : Int)) else hbt f h n) < 2 ^ (n + 1)
    by_cases e : f (n : Int) = h
    · rw [if_pos e]
      have z := or_t n (by omega) (hbt f h n).toNat (by
        have c : ((2 ^ n : Nat) : Int) = 2 ^ n := by rw [Int.natCast_pow]; rfl
        omega)
      rw [Int.toNat_of_nonneg q.1] at z
      exact z
    · rw [if_neg e, Int.pow_succ]
      omega
theorem hbt_15 {f : Int → Int} {h : Int} {n : Nat} (hn : n ≤ 4) : 0 ≤ hbt f h n ∧ hbt f h n ≤ 15 := by
  have q := hbt_b (f := f) (h := h) n hn
  rcases (show n = 0 ∨ n = 1 ∨ n = 2 ∨ n = 3 ∨ n = 4 by omega) with e | e | e | e | e <;> subst e
  · exact ⟨q.1, Int.le_trans (Int.le_of_lt q.2) (by decide)⟩
  · exact ⟨q.1, Int.le_trans (Int.le_of_lt q.2) (by decide)⟩
  · exact ⟨q.1, Int.le_trans (Int.le_of_lt q.2) (by decide)⟩
  · exact ⟨q.1, Int.le_trans (Int.le_of_lt q.2) (by decide)⟩
  · exact ⟨q.1, Int.le_of_lt_add_one q.2⟩
/-- JUGS that are not there are held by nobody -/
theorem hbt_ext {f : Int → Int} {h : Int} {n : Nat} : ∀ k : Nat, (∀ j : Int, (n : Int) ≤ j → j < ((n + k : Nat) : Int) → ¬ f j = h) → hbt f h (n + k) = hbt f h n := by
  intro k
  induction k with
  | zero => intro _; rfl
  | succ k ih =>
    intro e
    show (if f ((n + k : Nat) : Int) = h then iOr (hbt f h (n + k)) (iShl 1 ((n + k : Nat) : Int)) else hbt f h (n + k)) = _
    rw [if_neg (e _ (by omega) (by omega))]
    exact ih (fun j a c => e j a (by omega))
theorem zt_heldBits {X : Mm} {S : Sh} {m : Mm} {K : Int → Mm → Prop} {c h : Int} (hS : Shp S) (hm : Inv X S m) (hb : isSt c) (hk : K (hbt (m (c + 5)) h 4) m) : wp_X5_heldBits S m c h K := by
  refine u_X5_heldBits ?_
  refine g_C ?_
  refine g_C ?_
  have L : ∀ (n : Nat) (i : Nat), i ≤ 4 → 5 - (i : Int) ≤ (n : Int) → wp_X5_heldBits_4 S K n c h (hbt (m (c + 5)) h i) (i : Int) m := by
    intro n
    induction n with
    | zero => intro i hi hn; exfalso; omega
    | succ n ih =>
      intro i hi hn
      refine u_X5_heldBits_4 ?_
      refine g_C ?_
      refine g_if (fun w => ?_) (fun w => ?_)
      · have e : i = 4 := by omega
        subst e
        exact hk
      · refine g_getr 6 (c + 5) rfl (hS.kB_5_0 hb) (hm.fB_5_6 hb) (hS.nB_5_5 hb) ?_
        refine g_ldu (hS.kB_5_5 hb) (hS.lB_5_5 hb) (by omega) (by omega) (fun v ev => ?_)
        have nx : ∀ u : Int, u = hbt (m (c + 5)) h (i + 1) → wp_X5_heldBits_25 S (fun a0 a1 a2 a3 M => wp_X5_heldBits_4 S K n a0 a1 a2 a3 M) K c h u (i : Int) m := by
          intro u eu
          rw [eu]
          refine u_X5_heldBits_25 ?_
          refine g_A (by omega) (by omega) ?_
          rw [show (i : Int) + 1 = ((i + 1 : Nat) : Int) by omega]
          exact ih (i + 1) (by omega) (by omega)
        have e1 : hbt (m (c + 5)) h (i + 1) = (if m (c + 5) (i : Int) = h then iOr (hbt (m (c + 5)) h i) (iShl 1 (i : Int)) else hbt (m (c + 5)) h i) := rfl
        refine g_if (fun w2 => ?_) (fun w2 => ?_)
        · exact nx _ (by rw [e1, if_neg (by rw [← ev]; exact w2)])
        · refine g_C ?_
          refine g_Oe (fun a ea => ?_)
          refine g_Oe (fun b eb => ?_)
          refine nx b ?_
          rw [e1, if_pos (by rw [← ev]; omega), eb, ea]
  exact ⟨5, L 5 0 (by decide) (by decide)⟩
theorem zt_held {X : Mm} {S : Sh} {m : Mm} {K : Int → Mm → Prop} {h : Int} (hS : Shp S) (hm : Inv X S m) (hk : K (hbt (fun j => m 346 (36 + 4 * j)) h (m 346 5).toNat) m) : wp_X12_held S m 336 h K := by
  have b5 := hm.f_346_5
  refine u_X12_held ?_
  refine g_C ?_
  refine g_C ?_
  have L : ∀ (n : Nat) (i : Nat), (i : Int) ≤ m 346 5 → 5 - (i : Int) ≤ (n : Int) → wp_X12_held_4 S K n 336 h (hbt (fun j => m 346 (36 + 4 * j)) h i) (i : Int) m := by
    intro n
    induction n with
    | zero => intro i hi hn; exfalso; omega
    | succ n ih =>
      intro i hi hn
      refine u_X12_held_4 ?_
      refine g_getr 20 346 rfl hS.k336 hm.f_336_20 (by decide) ?_
      refine g_C ?_
      refine g_ldu hS.k346 hS.l346 (by omega) (by omega) (fun v ev => ?_)
      refine g_if (fun w => ?_) (fun w => ?_)
      · have e : i = (m 346 5).toNat := by omega
        subst e
        exact hk
      · refine g_C ?_
        refine ⟨hS.k336, ?_⟩
        refine u_X12_jugOf ?_
        refine g_getr 20 346 rfl hS.k336 hm.f_336_20 (by decide) ?_
        refine g_C ?_
        refine g_C ?_
        refine g_M (by omega) (by omega) ?_
        refine g_A (by omega) (by omega) ?_
        refine g_A (by omega) (by omega) ?_
        refine g_ldu hS.k346 hS.l346 (by omega) (by omega) (fun v2 ev2 => ?_)
        rw [show 35 + 4 * (i : Int) + 1 = 36 + 4 * (i : Int) by omega] at ev2
        have bb := hbt_15 (f := fun j => m 346 (36 + 4 * j)) (h := h) (n := i) (by omega)
        have nx : ∀ u : Int, iOr (hbt (fun j => m 346 (36 + 4 * j)) h i) u = hbt (fun j => m 346 (36 + 4 * j)) h (i + 1) → wp_X12_held_32 S (fun a0 a1 a2 a3 M => wp_X12_held_4 S K n a0 a1 a2 a3 M) K 336 h (i : Int) (hbt (fun j => m 346 (36 + 4 * j)) h i) u m := by
          intro u eu
          refine u_X12_held_32 ?_
          refine g_Oe (fun b eb => ?_)
          rw [eb, eu]
          refine g_A (by omega) (by omega) ?_
          rw [show (i : Int) + 1 = ((i + 1 : Nat) : Int) by omega]
          exact ih (i + 1) (by omega) (by omega)
        have e1 : hbt (fun j => m 346 (36 + 4 * j)) h (i + 1) = (if m 346 (36 + 4 * (i : Int)) = h then iOr (hbt (fun j => m 346 (36 + 4 * j)) h i) (iShl 1 (i : Int)) else hbt (fun j => m 346 (36 + 4 * j)) h i) := rfl
        refine g_if (fun w2 => ?_) (fun w2 => ?_)
        · refine g_C ?_
          refine nx 0 ?_
          rw [e1, if_neg (by rw [← ev2]; exact w2)]
          have z := or_0 (hbt (fun j => m 346 (36 + 4 * j)) h i).toNat (by omega)
          rw [Int.toNat_of_nonneg bb.1] at z
          exact z
        · refine g_C ?_
          refine g_Oe (fun a ea => ?_)
          refine nx a ?_
          rw [e1, if_pos (by rw [← ev2]; omega), ea]
  exact ⟨5, L 5 0 (by omega) (by decide)⟩
/-- how many bits there are -/
def bcF (u : Int) : Int :=
  let a := w32 (u - iAnd (iUshr u 1) 1431655765)
  let b := w32 (iAnd a 858993459 + iAnd (iUshr a 2) 858993459)
  let c := iAnd (w32 (b + iUshr b 4)) 252645135
  let d := w32 (c + iUshr c 8)
  iAnd (w32 (d + iUshr d 16)) 63
theorem zt_bitCount {S : Sh} {m : Mm} {K : Int → Mm → Prop} {u : Int} (hk : K (bcF u) m) : wp_J6_bitCount_0f7a4 S m u K := hk
def bcR : Nat → Int → Int → Int
  | 0, n, _ => n
  | k + 1, n, s => if s = 0 then n else bcR k (n + 1) (iAnd s (s - 1))
theorem bc_t : ∀ v : Nat, v < 16 → 0 ≤ bcF (v : Int) ∧ bcF (v : Int) ≤ 4 := by decide +kernel
theorem and_d : ∀ v : Nat, v < 16 → ¬ v = 0 → 0 ≤ iAnd (v : Int) ((v : Int) - 1) ∧ iAnd (v : Int) ((v : Int) - 1) < (v : Int) := by decide +kernel
def dn : Nat → Int → Bool
  | 0, s => s == 0
  | k + 1, s => s == 0 || dn k (iAnd s (s - 1))
theorem dn_t : ∀ v : Nat, v < 16 → dn 4 (v : Int) = true ∧ bcR 4 0 (v : Int) = bcF (v : Int) := by decide +kernel
theorem zt_bits_aux {S : Sh} {m : Mm} {K : Int → Mm → Prop} : ∀ (k : Nat) (n s : Int), 0 ≤ s → s ≤ 15 → 0 ≤ n → n + (k : Int) ≤ 100 → dn k s = true → K (bcR k n s) m → wp_X12_bits_4 S K (k + 1) n s m := by
  intro k
  induction k with
  | zero =>
    intro n s s0 s1 n0 n1 hd hk
    have e : s = 0 := of_decide_eq_true hd
    refine u_X12_bits_4 ?_
    exact g_ifT e hk
  | succ k ih =>
    intro n s s0 s1 n0 n1 hd hk
    refine u_X12_bits_4 ?_
    by_cases e : s = 0
    · refine g_ifT e ?_
      have e2 : bcR (k + 1) n s = n := if_pos e
      rw [e2] at hk
      exact hk
    · refine g_ifF e ?_
      have e2 : bcR (k + 1) n s = bcR k (n + 1) (iAnd s (s - 1)) := if_neg e
      rw [e2] at hk
      have hd2 : dn k (iAnd s (s - 1)) = true := by
        have h : (s == 0 || dn k (iAnd s (s - 1))) = true := hd
        rcases Bool.or_eq_true_iff.mp h with z | z
        · exact absurd (of_decide_eq_true z) e
        · exact z
      have q := and_d s.toNat (by omega) (by omega)
      rw [Int.toNat_of_nonneg s0] at q
      refine g_A (by omega) (by omega) ?_
      refine g_C ?_
      refine g_S (by omega) (by omega) ?_
      refine g_Oe (fun v ev => ?_)
      rw [ev]
      exact ih (n + 1) (iAnd s (s - 1)) q.1 (by omega) (by omega) (by omega) hd2 hk
theorem zt_bits {S : Sh} {m : Mm} {K : Int → Mm → Prop} {u : Int} (h0 : 0 ≤ u) (h1 : u ≤ 15) (hk : K (bcF u) m) : wp_X12_bits S m u K := by
  have q := dn_t u.toNat (by omega)
  rw [Int.toNat_of_nonneg h0] at q
  rw [← q.2] at hk
  refine u_X12_bits ?_
  refine g_C ?_
  exact ⟨5, zt_bits_aux 4 0 u h0 h1 (by decide) (by decide) q.1 hk⟩
/-! small tests of the class -/
theorem zt_jug0 {X : Mm} {S : Sh} {m : Mm} {K : Int → Mm → Prop} {c j : Int} (hS : Shp S) (hm : Inv X S m) (hb : isSt c) (j0 : 0 ≤ j) (j1 : j ≤ 3) (h1 : ¬ m (c + 4) j = -1 → K 1 m) (h0 : m (c + 4) j = -1 → K 0 m) : wp_X5_stands S m c j K := by
  refine u_X5_stands ?_
  refine g_getr 5 (c + 4) rfl (hS.kB_5_0 hb) (hm.fB_5_5 hb) (hS.nB_5_4 hb) ?_
  refine g_ldu (hS.kB_5_4 hb) (hS.lB_5_4 hb) (by omega) (by omega) (fun v ev => ?_)
  refine g_C ?_
  exact g_if (fun w => g_C ⟨by decide, h0 (by omega)⟩) (fun w => g_C ⟨by decide, h1 (by omega)⟩)
theorem zt_atPlace {X : Mm} {S : Sh} {m : Mm} {K : Int → Mm → Prop} {c h : Int} (hS : Shp S) (hm : Inv X S m) (hb : isSt c) (j0 : 0 ≤ h) (j1 : h ≤ 4) (h1 : m (c + 2) h = 0 → K 1 m) (h0 : ¬ m (c + 2) h = 0 → K 0 m) : wp_X5_isAtPlace S m c h K := by
  refine u_X5_isAtPlace ?_
  refine g_getr 3 (c + 2) rfl (hS.kB_5_0 hb) (hm.fB_5_3 hb) (hS.nB_5_2 hb) ?_
  refine g_ldu (hS.kB_5_2 hb) (hS.lB_5_2 hb) (by omega) (by omega) (fun v ev => ?_)
  exact g_if (fun w => g_C ⟨by decide, h0 (by omega)⟩) (fun w => g_C ⟨by decide, h1 (by omega)⟩)
theorem zt_more {X : Mm} {S : Sh} {m : Mm} {K : Int → Mm → Prop} {c h : Int} (hS : Shp S) (hm : Inv X S m) (hb : isSt c) (j0 : 0 ≤ h) (j1 : h ≤ 4) (h1 : m (c + 2) h = 0 → bcF (hbt (m (c + 5)) h 4) < 2 → K 1 m) (h0 : ¬ (m (c + 2) h = 0 ∧ bcF (hbt (m (c + 5)) h 4) < 2) → K 0 m) : wp_X5_canHoldMore S m c h K := by
  refine u_X5_canHoldMore ?_
  refine ⟨hS.kB_5_0 hb, ?_⟩
  refine zt_atPlace hS hm hb j0 j1 (fun w => ?_) (fun w => ?_)
  · refine g_ifF (by decide) ?_
    refine ⟨hS.kB_5_0 hb, ?_⟩
    refine u_X5_howManyHeld ?_
    refine ⟨hS.kB_5_0 hb, ?_⟩
    refine zt_heldBits hS hm hb ?_
    refine zt_bitCount ?_
    refine g_C ?_
    exact g_if (fun w2 => g_C ⟨by decide, h0 (fun z => by omega)⟩) (fun w2 => g_C ⟨by decide, h1 w (by omega)⟩)
  · exact g_ifT rfl (g_C ⟨by decide, h0 (fun z => w z.1)⟩)
theorem zt_canTake {X : Mm} {S : Sh} {m : Mm} {K : Int → Mm → Prop} {c h j : Int} (hS : Shp S) (hm : Inv X S m) (hb : isSt c) (i0 : 0 ≤ h) (i1 : h ≤ 4) (j0 : 0 ≤ j) (j1 : j ≤ 3) (h1 : (¬ m (c + 4) j = -1 ∧ m (c + 4) j = m (c + 1) h ∧ m (c + 2) h = 0 ∧ bcF (hbt (m (c + 5)) h 4) < 2) → K 1 m) (h0 : ¬ (¬ m (c + 4) j = -1 ∧ m (c + 4) j = m (c + 1) h ∧ m (c + 2) h = 0 ∧ bcF (hbt (m (c + 5)) h 4) < 2) → K 0 m) : wp_X5_canTake S m c h j K := by
  refine u_X5_canTake ?_
  refine ⟨hS.kB_5_0 hb, ?_⟩
  refine zt_jug0 hS hm hb j0 j1 (fun w => ?_) (fun w => g_ifT rfl (g_C ⟨by decide, h0 (fun z => z.1 w)⟩))
  refine g_ifF (by decide) ?_
  refine g_getr 5 (c + 4) rfl (hS.kB_5_0 hb) (hm.fB_5_5 hb) (hS.nB_5_4 hb) ?_
  refine g_ldu (hS.kB_5_4 hb) (hS.lB_5_4 hb) (by omega) (by omega) (fun v ev => ?_)
  refine g_getr 2 (c + 1) rfl (hS.kB_5_0 hb) (hm.fB_5_2 hb) (hS.nB_5_1 hb) ?_
  refine g_ldu (hS.kB_5_1 hb) (hS.lB_5_1 hb) (by omega) (by omega) (fun v2 ev2 => ?_)
  refine g_if (fun w2 => g_C ⟨by decide, h0 (fun z => w2 (by rw [ev, ev2]; exact z.2.1))⟩) (fun w2 => ?_)
  refine ⟨hS.kB_5_0 hb, ?_⟩
  exact zt_more hS hm hb i0 i1 (fun z1 z2 => g_ifF (by decide) (g_C ⟨by decide, h1 ⟨w, by omega, z1, z2⟩⟩)) (fun z => g_ifT rfl (g_C ⟨by decide, h0 (fun y => z ⟨y.2.2.1, y.2.2.2⟩)⟩))
theorem zt_canGive {X : Mm} {S : Sh} {m : Mm} {K : Int → Mm → Prop} {c g h : Int} (hS : Shp S) (hm : Inv X S m) (hb : isSt c) (g0 : 0 ≤ g) (g1 : g ≤ 4) (i0 : 0 ≤ h) (i1 : h ≤ 4) (h1 : (m (c + 2) g = 0 ∧ m (c + 1) g = m (c + 1) h ∧ m (c + 2) h = 0 ∧ bcF (hbt (m (c + 5)) h 4) < 2) → K 1 m) (h0 : ¬ (m (c + 2) g = 0 ∧ m (c + 1) g = m (c + 1) h ∧ m (c + 2) h = 0 ∧ bcF (hbt (m (c + 5)) h 4) < 2) → K 0 m) : wp_X5_canGive S m c g h K := by
  refine u_X5_canGive ?_
  refine ⟨hS.kB_5_0 hb, ?_⟩
  refine zt_atPlace hS hm hb g0 g1 (fun w => ?_) (fun w => g_ifT rfl (g_C ⟨by decide, h0 (fun z => w z.1)⟩))
  refine g_ifF (by decide) ?_
  refine g_getr 2 (c + 1) rfl (hS.kB_5_0 hb) (hm.fB_5_2 hb) (hS.nB_5_1 hb) ?_
  refine g_ldu (hS.kB_5_1 hb) (hS.lB_5_1 hb) (by omega) (by omega) (fun v ev => ?_)
  refine g_getr 2 (c + 1) rfl (hS.kB_5_0 hb) (hm.fB_5_2 hb) (hS.nB_5_1 hb) ?_
  refine g_ldu (hS.kB_5_1 hb) (hS.lB_5_1 hb) (by omega) (by omega) (fun v2 ev2 => ?_)
  refine g_if (fun w2 => g_C ⟨by decide, h0 (fun z => w2 (by rw [ev, ev2]; exact z.2.1))⟩) (fun w2 => ?_)
  refine ⟨hS.kB_5_0 hb, ?_⟩
  exact zt_more hS hm hb i0 i1 (fun z1 z2 => g_ifF (by decide) (g_C ⟨by decide, h1 ⟨w, by omega, z1, z2⟩⟩)) (fun z => g_ifT rfl (g_C ⟨by decide, h0 (fun y => z ⟨y.2.2.1, y.2.2.2⟩)⟩))
/-! small tests of the reference -/
theorem zt_jugOf {X : Mm} {S : Sh} {m : Mm} {K : Int → Mm → Prop} {j w : Int} (hS : Shp S) (hm : Inv X S m) (j0 : 0 ≤ j) (j1 : j ≤ 3) (w0 : 0 ≤ w) (w1 : w ≤ 3) (hk : K (m 346 (35 + 4 * j + w)) m) : wp_X12_jugOf S m 336 j w K := by
  refine u_X12_jugOf ?_
  refine g_getr 20 346 rfl hS.k336 hm.f_336_20 (by decide) ?_
  refine g_C ?_
  refine g_C ?_
  refine g_M (by omega) (by omega) ?_
  refine g_A (by omega) (by omega) ?_
  refine g_A (by omega) (by omega) ?_
  refine g_ldu hS.k346 hS.l346 (by omega) (by omega) (fun v ev => ?_)
  rw [ev]
  exact hk
theorem zt_handOf {X : Mm} {S : Sh} {m : Mm} {K : Int → Mm → Prop} {j w : Int} (hS : Shp S) (hm : Inv X S m) (j0 : 0 ≤ j) (j1 : j ≤ 4) (w0 : 0 ≤ w) (w1 : w ≤ 4) (hk : K (m 346 (10 + 5 * j + w)) m) : wp_X12_handOf S m 336 j w K := by
  refine u_X12_handOf ?_
  refine g_getr 20 346 rfl hS.k336 hm.f_336_20 (by decide) ?_
  refine g_C ?_
  refine g_C ?_
  refine g_M (by omega) (by omega) ?_
  refine g_A (by omega) (by omega) ?_
  refine g_A (by omega) (by omega) ?_
  refine g_ldu hS.k346 hS.l346 (by omega) (by omega) (fun v ev => ?_)
  rw [ev]
  exact hk
theorem zt_wantOf {X : Mm} {S : Sh} {m : Mm} {K : Int → Mm → Prop} {j w : Int} (hS : Shp S) (hm : Inv X S m) (j0 : 0 ≤ j) (j1 : j ≤ 5) (w0 : 0 ≤ w) (w1 : w ≤ 3) (hk : K (m 346 (93 + 4 * j + w)) m) : wp_X12_wantOf S m 336 j w K := by
  refine u_X12_wantOf ?_
  refine g_getr 20 346 rfl hS.k336 hm.f_336_20 (by decide) ?_
  refine g_C ?_
  refine g_C ?_
  refine g_M (by omega) (by omega) ?_
  refine g_A (by omega) (by omega) ?_
  refine g_A (by omega) (by omega) ?_
  refine g_ldu hS.k346 hS.l346 (by omega) (by omega) (fun v ev => ?_)
  rw [ev]
  exact hk
/-- a JUG stands, by the reference -/
def StR (m : Mm) (j : Int) : Prop := m 346 (35 + 4 * j + 1) < 0 ∧ m 346 (35 + 4 * j + 3) = 0
theorem zt_stands {X : Mm} {S : Sh} {m : Mm} {K : Int → Mm → Prop} {j : Int} (hS : Shp S) (hm : Inv X S m) (j0 : 0 ≤ j) (j1 : j ≤ 3) (h1 : StR m j → K 1 m) (h0 : ¬ StR m j → K 0 m) : wp_X12_stands S m 336 j K := by
  refine u_X12_stands ?_
  refine g_C ?_
  refine ⟨hS.k336, ?_⟩
  refine zt_jugOf hS hm j0 j1 (by decide) (by decide) ?_
  refine g_if (fun w => g_C ⟨by decide, h0 (fun z => by have := z.1; omega)⟩) (fun w => ?_)
  refine g_C ?_
  refine ⟨hS.k336, ?_⟩
  refine zt_jugOf hS hm j0 j1 (by decide) (by decide) ?_
  exact g_if (fun w2 => g_C ⟨by decide, h0 (fun z => w2 z.2)⟩) (fun w2 => g_C ⟨by decide, h1 ⟨by omega, by omega⟩⟩)
theorem zt_atR {X : Mm} {S : Sh} {m : Mm} {K : Int → Mm → Prop} {h : Int} (hS : Shp S) (hm : Inv X S m) (j0 : 0 ≤ h) (j1 : h ≤ 4) (h1 : m 346 (10 + 5 * h + 1) = 0 → K 1 m) (h0 : ¬ m 346 (10 + 5 * h + 1) = 0 → K 0 m) : wp_X12_isAtPlace S m 336 h K := by
  refine u_X12_isAtPlace ?_
  refine g_C ?_
  refine ⟨hS.k336, ?_⟩
  refine zt_handOf hS hm j0 j1 (by decide) (by decide) ?_
  exact g_if (fun w => g_C ⟨by decide, h0 w⟩) (fun w => g_C ⟨by decide, h1 (by omega)⟩)
/-- as bits, by the reference -/
def hbR (m : Mm) (h : Int) : Int := hbt (fun j => m 346 (36 + 4 * j)) h (m 346 5).toNat
theorem zt_takeR {X : Mm} {S : Sh} {m : Mm} {K : Int → Mm → Prop} {h j : Int} (hS : Shp S) (hm : Inv X S m) (i0 : 0 ≤ h) (i1 : h ≤ 4) (j0 : 0 ≤ j) (j1 : j ≤ 3) (h1 : (m 346 (10 + 5 * h + 1) = 0 ∧ StR m j ∧ m 346 (35 + 4 * j + 0) = m 346 (10 + 5 * h + 0) ∧ bcF (hbR m h) < 2) → K 1 m) (h0 : ¬ (m 346 (10 + 5 * h + 1) = 0 ∧ StR m j ∧ m 346 (35 + 4 * j + 0) = m 346 (10 + 5 * h + 0) ∧ bcF (hbR m h) < 2) → K 0 m) : wp_X12_canTake S m 336 h j K := by
  have b5 := hm.f_346_5
  refine u_X12_canTake ?_
  refine ⟨hS.k336, ?_⟩
  refine zt_atR hS hm i0 i1 (fun w1 => ?_) (fun w1 => g_ifT rfl (g_C ⟨by decide, h0 (fun z => w1 z.1)⟩))
  refine g_ifF (by decide) ?_
  refine ⟨hS.k336, ?_⟩
  refine zt_stands hS hm j0 j1 (fun w2 => ?_) (fun w2 => g_ifT rfl (g_C ⟨by decide, h0 (fun z => w2 z.2.1)⟩))
  refine g_ifF (by decide) ?_
  refine g_C ?_
  refine ⟨hS.k336, ?_⟩
  refine zt_jugOf hS hm j0 j1 (by decide) (by decide) ?_
  refine g_C ?_
  refine ⟨hS.k336, ?_⟩
  refine zt_handOf hS hm i0 i1 (by decide) (by decide) ?_
  refine g_if (fun w3 => g_C ⟨by decide, h0 (fun z => w3 z.2.2.1)⟩) (fun w3 => ?_)
  refine ⟨hS.k336, ?_⟩
  refine zt_held hS hm ?_
  have bb := hbt_15 (f := fun j => m 346 (36 + 4 * j)) (h := h) (n := (m 346 5).toNat) (by omega)
  refine zt_bits bb.1 bb.2 ?_
  refine g_C ?_
  refine g_if (fun w4 => g_C ⟨by decide, h0 (fun z => ?_)⟩) (fun w4 => g_C ⟨by decide, h1 ⟨w1, w2, by omega, ?_⟩⟩)
  · have z2 : bcF (hbt (fun j => m 346 (36 + 4 * j)) h (m 346 5).toNat) < 2 := z.2.2.2
    omega
  · show bcF (hbt (fun j => m 346 (36 + 4 * j)) h (m 346 5).toNat) < 2
    omega
