/-! the HANDS that keep to the TESTS, as bits: WHO -/
theorem or_t5 : ∀ n : Nat, n < 5 → ∀ v : Nat, v < 2 ^ n → (0 ≤ iOr (v : Int) (iShl 1 (n : Int)) ∧ iOr (v : Int) (iShl 1 (n : Int)) < 2 ^ (n + 1)) := by decide +kernel
theorem or_05 : ∀ v : Nat, v < 32 → iOr (v : Int) 0 = (v : Int) := by decide +kernel
theorem and_d5 : ∀ v : Nat, v < 32 → ¬ v = 0 → 0 ≤ iAnd (v : Int) ((v : Int) - 1) ∧ iAnd (v : Int) ((v : Int) - 1) < (v : Int) := by decide +kernel
theorem dn_t5 : ∀ v : Nat, v < 32 → dn 5 (v : Int) = true ∧ bcR 5 0 (v : Int) = bcF (v : Int) := by decide +kernel
theorem zq_bits_aux {S : Sh} {m : Mm} {K : Int → Mm → Prop} : ∀ (k : Nat) (n s : Int), 0 ≤ s → s ≤ 31 → 0 ≤ n → n + (k : Int) ≤ 100 → dn k s = true → K (bcR k n s) m → wp_X12_bits_4 S K (k + 1) n s m := by
  intro k
  induction k with
  | zero =>
    intro n s s0 s1 n0 n1 hd hk
    have e : s = 0 := of_decide_eq_true hd
    refine u_X12_bits_4 ?_
    exact g_ifT e hk
  | succ k ih =>
    intro n s s0 s1 n0 n1 hd hk
    refine u_X12_bits_4 ?_
    by_cases e : s = 0
    · refine g_ifT e ?_
      have e2 : bcR (k + 1) n s = n := if_pos e
      rw [e2] at hk
      exact hk
    · refine g_ifF e ?_
      have e2 : bcR (k + 1) n s = bcR k (n + 1) (iAnd s (s - 1)) := if_neg e
      rw [e2] at hk
      have hd2 : dn k (iAnd s (s - 1)) = true := by
        have h : (s == 0 || dn k (iAnd s (s - 1))) = true := hd
        rcases Bool.or_eq_true_iff.mp h with z | z
        · exact absurd (of_decide_eq_true z) e
        · exact z
      have q := and_d5 s.toNat (by omega) (by omega)
      rw [Int.toNat_of_nonneg s0] at q
      refine g_A (by omega) (by omega) ?_
      refine g_C ?_
      refine g_S (by omega) (by omega) ?_
      refine g_Oe (fun v ev => ?_)
      rw [ev]
      exact ih (n + 1) (iAnd s (s - 1)) q.1 (by omega) (by omega) (by omega) hd2 hk
theorem zq_bits {S : Sh} {m : Mm} {K : Int → Mm → Prop} {u : Int} (h0 : 0 ≤ u) (h1 : u ≤ 31) (hk : K (bcF u) m) : wp_X12_bits S m u K := by
  have q := dn_t5 u.toNat (by omega)
  rw [Int.toNat_of_nonneg h0] at q
  rw [← q.2] at hk
  refine u_X12_bits ?_
  refine g_C ?_
  exact ⟨6, zq_bits_aux 5 0 u h0 h1 (by decide) (by decide) q.1 hk⟩
def btF (u h : Int) : Int := iAnd (iShr u h) 1
theorem zq_isOf {S : Sh} {m : Mm} {K : Int → Mm → Prop} {u h : Int} (h1 : btF u h = 1 → K 1 m) (h0 : ¬ btF u h = 1 → K 0 m) : wp_X12_isOf S m u h K := by
  refine u_X12_isOf ?_
  refine g_Oe (fun v ev => ?_)
  refine g_C ?_
  refine g_Oe (fun v2 ev2 => ?_)
  have e : v2 = btF u h := by rw [ev2, ev]; rfl
  refine g_C ?_
  rw [e]
  exact g_if (fun w => g_C ⟨by decide, h0 w⟩) (fun w => g_C ⟨by decide, h1 (Classical.not_not.mp w)⟩)
/-- the first bit -/
def ntX (u : Int) : Int := iAnd (iXor u (-1)) (u - 1)
def ntF (u : Int) : Int := if 0 < ntX u then (if ntX u ≤ 4 then 1 + iUshr (ntX u) 1 else 1 + 2 + iUshr (iUshr (ntX u) 2) 1) else iAnd (ntX u) 32
theorem nt_t : ∀ v : Nat, v < 32 → ¬ v = 0 → ntX (v : Int) ≤ 16 ∧ (0 ≤ iUshr (ntX (v : Int)) 1 ∧ iUshr (ntX (v : Int)) 1 ≤ 100) ∧ (0 ≤ iUshr (iUshr (ntX (v : Int)) 2) 1 ∧ iUshr (iUshr (ntX (v : Int)) 2) 1 ≤ 100) := by decide +kernel
theorem zq_ntz {S : Sh} {m : Mm} {K : Int → Mm → Prop} {u : Int} (u0 : 0 < u) (u1 : u ≤ 31) (hk : K (ntF u) m) : wp_J6_numberOfTrailingZeros_0f7a4 S m u K := by
  have q := nt_t u.toNat (by omega) (by omega)
  rw [Int.toNat_of_nonneg (by omega)] at q
  unfold ntF at hk
  refine u_J6_numberOfTrailingZeros_0f7a4 ?_
  refine g_C ?_
  refine g_Oe (fun v ev => ?_)
  refine g_C ?_
  refine g_S (by omega) (by omega) ?_
  refine g_Oe (fun x ex => ?_)
  have ex2 : x = ntX u := by rw [ex, ev]; rfl
  rw [← ex2] at hk q
  obtain ⟨q1, q2, q3⟩ := q
  refine g_if (fun w => ?_) (fun w => ?_)
  · rw [if_pos w] at hk
    refine g_C ?_
    refine g_C ?_
    refine g_ifT (by omega) ?_
    refine u_J6_numberOfTrailingZeros_0f7a4_34 ?_
    refine g_C ?_
    refine g_ifT (by omega) ?_
    refine u_J6_numberOfTrailingZeros_0f7a4_49 ?_
    refine g_C ?_
    refine g_ifT (by omega) ?_
    refine u_J6_numberOfTrailingZeros_0f7a4_62 ?_
    refine g_C ?_
    refine g_if (fun w2 => ?_) (fun w2 => ?_)
    · rw [if_pos w2] at hk
      refine u_J6_numberOfTrailingZeros_0f7a4_74 ?_
      refine g_C ?_
      refine g_Oe (fun y ey => ?_)
      rw [ey]
      refine g_A (by omega) (by omega) ?_
      exact hk
    · rw [if_neg w2] at hk
      refine g_A (by decide) (by decide) ?_
      refine g_C ?_
      refine g_Oe (fun y ey => ?_)
      refine u_J6_numberOfTrailingZeros_0f7a4_74 ?_
      refine g_C ?_
      refine g_Oe (fun z ez => ?_)
      rw [ez, ey]
      refine g_A (by omega) (by omega) ?_
      exact hk
  · rw [if_neg w] at hk
    refine g_C ?_
    refine g_Oe (fun y ey => ?_)
    rw [ey]
    exact hk
theorem wh_t0 : ∀ h : Nat, h < 6 → ¬ btF ((0 : Nat) : Int) (h : Int) = 1 := by decide +kernel
theorem wh_t1 : ∀ n : Nat, n < 6 → ∀ v : Nat, v < 2 ^ n → v = 0 ∨ (0 ≤ ntF (v : Int) ∧ ntF (v : Int) < (n : Int) ∧ btF (v : Int) (ntF (v : Int)) = 1) := by decide +kernel
theorem wh_t2 : ∀ v : Nat, v < 32 → ∀ h : Nat, h < 6 → v = 0 ∨ ntF (v : Int) ≤ (h : Int) ∨ ¬ btF (v : Int) (h : Int) = 1 := by decide +kernel
theorem wh_32 : ∀ n : Nat, n < 6 → 2 ^ n ≤ 32 := by decide +kernel
theorem wh_t : ∀ n : Nat, n < 6 → ∀ v : Nat, v < 2 ^ n → (v = 0 → ∀ h : Nat, h < n → ¬ btF (v : Int) (h : Int) = 1) ∧ (¬ v = 0 → 0 ≤ ntF (v : Int) ∧ ntF (v : Int) < (n : Int) ∧ btF (v : Int) (ntF (v : Int)) = 1 ∧ ∀ h : Nat, h < (ntF (v : Int)).toNat → ¬ btF (v : Int) (h : Int) = 1) := by
  intro n hn v hv
  have h32 := wh_32 n hn
  refine ⟨fun e h hh => ?_, fun e => ?_⟩
  · rw [e]
    exact wh_t0 h (by omega)
  · obtain ⟨a, b, c⟩ := (wh_t1 n hn v hv).resolve_left e
    refine ⟨a, b, c, fun h hh => ?_⟩
    rcases wh_t2 v (by omega) h (by omega) with z | z | z
    · exact absurd z e
    · omega
    · exact z
theorem zq_first {X : Mm} {S : Sh} {m : Mm} {K : Int → Mm → Prop} {v : Int} (hS : Shp S) (hm : Inv X S m) (v0 : 0 ≤ v) (v1 : v < 2 ^ (m 346 4).toNat) (hk : K (if v = 0 then -2 else ntF v) m) : ∃ n9 : Nat, wp_X12_who_46 S K n9 336 v 0 m := by
  have b4 := hm.f_346_4
  have T := wh_t (m 346 4).toNat (by omega) v.toNat (by
    have c : ((2 ^ (m 346 4).toNat : Nat) : Int) = 2 ^ (m 346 4).toNat := by rw [Int.natCast_pow]; rfl
    omega)
  rw [Int.toNat_of_nonneg v0] at T
  have L : ∀ (l k : Nat), (k : Int) ≤ m 346 4 → (∀ h : Nat, h < k → ¬ btF v (h : Int) = 1) → 6 - k ≤ l → wp_X12_who_46 S K l 336 v k m := by
    intro l
    induction l with
    | zero => intro k k1 _ hl; exfalso; omega
    | succ l ih =>
      intro k k1 nb hl
      refine u_X12_who_46 ?_
      refine g_getr 20 346 rfl hS.k336 hm.f_336_20 (by decide) ?_
      refine g_C ?_
      refine g_ldu hS.k346 hS.l346 (by decide) (by decide) (fun w ew => ?_)
      refine g_if (fun z => g_C ?_) (fun z => ?_)
      · by_cases e : v = 0
        · rw [if_pos e] at hk
          exact hk
        · obtain ⟨t0, t1, t2, _⟩ := T.2 (by omega)
          have t2' : btF v (((ntF v).toNat : Nat) : Int) = 1 := by rw [Int.toNat_of_nonneg t0]; exact t2
          exact absurd t2' (nb _ (by omega))
      · refine zq_isOf (fun b1 => g_ifF (by decide) ?_) (fun b0 => g_ifT rfl ?_)
        · by_cases e : v = 0
          · exact absurd b1 (T.1 (by omega) k (by omega))
          · obtain ⟨t0, t1, t2, t3⟩ := T.2 (by omega)
            have e2 : ntF v = (k : Int) := by
              by_cases lt : (ntF v).toNat < k
              · have t2' : btF v (((ntF v).toNat : Nat) : Int) = 1 := by rw [Int.toNat_of_nonneg t0]; exact t2
                exact absurd t2' (nb _ lt)
              · by_cases gt : k < (ntF v).toNat
                · exact absurd b1 (t3 k gt)
                · omega
            rw [if_neg e, e2] at hk
            exact hk
        · refine g_A (by omega) (by omega) ?_
          refine ih (k + 1) (by omega) (fun h hh => ?_) (by omega)
          by_cases e : h = k
          · rw [e]; exact b0
          · exact nb h (by omega)
  exact ⟨6, L 6 0 (by omega) (fun h hh => absurd hh (by omega)) (by omega)⟩
def fbT (o : Option (List Cz)) (D : Int → Int) : Nat → Int
  | 0 => 0
  | n + 1 => if fitB o D (n : Int) (D 157).toNat = true then iOr (fbT o D n) (iShl 1 (n : Int)) else fbT o D n
theorem fbT_b {o : Option (List Cz)} {D : Int → Int} : ∀ n : Nat, n ≤ 5 → 0 ≤ fbT o D n ∧ fbT o D n < 2 ^ n := by
  intro n
  induction n with
  | zero => intro _; exact ⟨Int.le_refl 0, by show (0 : Int) < 2 ^ 0; decide⟩
  | succ n ih =>
    intro h
    have a := ih (by omega)
    show 0 ≤ (if fitB o D (n : Int) (D 157).toNat = true then iOr (fbT o D n) (iShl 1 (n : Int)) else fbT o D n) ∧ (if fitB o D (n : Int) (D 157).toNat = true then iOr (fbT o D n) (iShl 1 (n : Int)) else fbT o D n) < 2 ^ (n + 1)
    by_cases q : fitB o D (n : Int) (D 157).toNat = true
    · rw [if_pos q]
      have z := or_t5 n (by omega) (fbT o D n).toNat (by
        have c : ((2 ^ n : Nat) : Int) = 2 ^ n := by rw [Int.natCast_pow]; rfl
        omega)
      rw [Int.toNat_of_nonneg a.1] at z
      exact z
    · rw [if_neg q, Int.pow_succ]
      omega
theorem fbT_31 {o : Option (List Cz)} {D : Int → Int} {n : Nat} (h : n ≤ 5) : 0 ≤ fbT o D n ∧ fbT o D n ≤ 31 := by
  have a := fbT_b (o := o) (D := D) n h
  have p : ∀ k : Nat, k < 6 → (2 : Int) ^ k ≤ 32 := by decide
  have q := p n (by omega)
  exact ⟨a.1, by omega⟩
theorem zq_fitting {X : Mm} {S : Sh} {m : Mm} {K : Int → Mm → Prop} {o : Option (List Cz)} (hS : Shp S) (hm : Inv X S m) (hr : RR m o) (ic : m 336 23 = 0) (hk : ∀ M1 : Mm, Inv X S M1 → (∀ c p : Int, ¬ c = 344 → ¬ c = 345 → ¬ (c = 336 ∧ p = 18) → M1 c p = m c p) → K (fbT o (m 346) (m 346 4).toNat) M1) : wp_X12_fitting S m 336 K := by
  have b4 := hm.f_346_4
  have L : ∀ (l k : Nat) (v : Int) (M : Mm), (k : Int) ≤ m 346 4 → Inv X S M → (∀ c p : Int, ¬ c = 344 → ¬ c = 345 → ¬ (c = 336 ∧ p = 18) → M c p = m c p) → v = fbT o (m 346) k → 6 - k ≤ l → wp_X12_fitting_4 S K l 336 v k M := by
    intro l
    induction l with
    | zero => intro k v M k1 _ _ _ hl; exfalso; omega
    | succ l ih =>
      intro k v M k1 hM F ev hl
      have e46 : M 346 = m 346 := funext (fun p => F 346 p (by omega) (by omega) (by omega))
      have vb := fbT_31 (o := o) (D := m 346) (n := k) (by omega)
      rw [← ev] at vb
      refine u_X12_fitting_4 ?_
      refine g_getr 20 346 rfl hS.k336 hM.f_336_20 (by decide) ?_
      refine g_C ?_
      refine g_ldu hS.k346 hS.l346 (by decide) (by decide) (fun w ew => ?_)
      rw [e46] at ew
      refine g_if (fun z => ?_) (fun z => ?_)
      · have ek : (m 346 4).toNat = k := by omega
        rw [ek, ← ev] at hk
        exact hk M hM F
      have nx : ∀ (v2 t1 : Int) (M' : Mm), Inv X S M' → (∀ c p : Int, ¬ c = 344 → ¬ c = 345 → ¬ (c = 336 ∧ p = 18) → M' c p = m c p) → v2 = iOr v t1 → v2 = fbT o (m 346) (k + 1) → wp_X12_fitting_30 S (fun a0 a1 a2 M => wp_X12_fitting_4 S K l a0 a1 a2 M) K 336 k v t1 M' := by
        intro v2 t1 M' hM' F' e1 e2
        refine u_X12_fitting_30 ?_
        refine g_Oe (fun x ex => ?_)
        rw [ex, ← e1]
        refine g_A (by omega) (by omega) ?_
        exact ih (k + 1) v2 M' (by omega) hM' F' e2 (by omega)
      refine ⟨hS.k336, ?_⟩
      refine zq_fits (o := o) hS hM (hr.keep (fun c p z => F c p (by omega) (by omega) (by omega))) (by rw [F 336 23 (by omega) (by omega) (by omega)]; exact ic) (by omega) (by omega) (fun m1 hm1 f1 => ?_)
      have F1 : ∀ c p : Int, ¬ c = 344 → ¬ c = 345 → ¬ (c = 336 ∧ p = 18) → m1 c p = m c p := fun c p a1 a2 a3 => by rw [f1 c p a1 a2 a3, F c p a1 a2 a3]
      rw [e46]
      by_cases q : fitB o (m 346) (k : Int) (m 346 157).toNat = true
      · rw [if_pos q]
        refine g_ifF (by decide) ?_
        refine g_C ?_
        refine g_Oe (fun x ex => ?_)
        refine nx (iOr v x) x m1 hm1 F1 rfl ?_
        show _ = if fitB o (m 346) (k : Int) (m 346 157).toNat = true then iOr (fbT o (m 346) k) (iShl 1 (k : Int)) else fbT o (m 346) k
        rw [if_pos q, ← ev, ex]
      · rw [if_neg q]
        refine g_ifT rfl ?_
        refine g_C ?_
        have o0 := or_05 v.toNat (by omega)
        rw [Int.toNat_of_nonneg vb.1] at o0
        refine nx v 0 m1 hm1 F1 o0.symm ?_
        show _ = if fitB o (m 346) (k : Int) (m 346 157).toNat = true then iOr (fbT o (m 346) k) (iShl 1 (k : Int)) else fbT o (m 346) k
        rw [if_neg q, ← ev]
  refine u_X12_fitting ?_
  refine g_C ?_
  refine g_C ?_
  exact ⟨6, L 6 0 0 m (by omega) hm (fun _ _ _ _ _ => rfl) rfl (by omega)⟩
theorem zq_byTests {X : Mm} {S : Sh} {m : Mm} {K : Int → Mm → Prop} {o : Option (List Cz)} {D : Int → Int} (hS : Shp S) (hm : Inv X S m) (hr : RC S m o) (db : DB D) (b3 : D 3 ≤ 8) (tl : TL 4 D m) (tt : TT m 3 D) (t10 : 0 ≤ D 157 ∧ D 157 ≤ 10) (ic : m 55 2 = 0) (hb : ∀ h : Int, 0 ≤ h → h ≤ 4 → HB D h) (hk : ∀ M1 : Mm, Inv X S M1 → (∀ c p : Int, ¬ c = 56 → ¬ (c = 55 ∧ 4 ≤ p) → M1 c p = m c p) → K (fbT o D (D 4).toNat) M1) : wp_X9_handsByTests S m 66 K := by
  have b4 := hm.f_4_4
  have t4 : m 4 4 = D 4 := tl.1.2.2.2.2.1
  have L : ∀ (l k : Nat) (v : Int) (M : Mm), (k : Int) ≤ D 4 → Inv X S M → (∀ c p : Int, ¬ c = 56 → ¬ (c = 55 ∧ 4 ≤ p) → M c p = m c p) → v = fbT o D k → 6 - k ≤ l → wp_X9_handsByTests_4 S K l 66 v k M := by
    intro l
    induction l with
    | zero => intro k v M k1 _ _ _ hl; exfalso; omega
    | succ l ih =>
      intro k v M k1 hM F ev hl
      refine u_X9_handsByTests_4 ?_
      refine g_getr 0 3 rfl hS.k66 hM.f_66_0 (by decide) ?_
      refine g_getr 0 4 rfl hS.k3 hM.f_3_0 (by decide) ?_
      refine g_getu 4 rfl hS.k4 (fun w ew => ?_)
      rw [F 4 4 (by omega) (by omega), t4] at ew
      refine g_if (fun z => ?_) (fun z => ?_)
      · have ek : (D 4).toNat = k := by omega
        rw [ek, ← ev] at hk
        exact hk M hM F
      have nx : ∀ (v2 : Int) (M' : Mm), Inv X S M' → (∀ c p : Int, ¬ c = 56 → ¬ (c = 55 ∧ 4 ≤ p) → M' c p = m c p) → v2 = fbT o D (k + 1) → wp_X9_handsByTests_32 S (fun a0 a1 a2 M => wp_X9_handsByTests_4 S K l a0 a1 a2 M) K 66 v2 k M' := by
        intro v2 M' hM' F' e2
        refine u_X9_handsByTests_32 ?_
        refine g_A (by omega) (by omega) ?_
        exact ih (k + 1) v2 M' (by omega) hM' F' e2 (by omega)
      refine ⟨hS.k66, ?_⟩
      refine zq_passes (o := o) (D := D) hS hM (hr.keep (fun c p z => F c p (by omega) (by omega))) db b3 (tl.move db b3 (fun p _ _ => F _ p (by omega) (by omega)) (fun c p q => F _ p (by unfold inT at q; omega) (by unfold inT at q; omega)) (fun p _ => rfl)) ⟨(F 3 4 (by omega) (by omega)).trans tt.1, fun i i0 i1 => ?_⟩ t10 (by rw [F 55 2 (by omega) (by omega)]; exact ic) (hb k (by omega) (by omega)) (by omega) (by omega) (by omega) (fun m1 hm1 f1 => ?_)
      · rw [F _ i (by omega) (by omega), F _ i (by omega) (by omega), F _ i (by omega) (by omega), F _ i (by omega) (by omega)]
        exact tt.2 i i0 i1
      have F1 : ∀ c p : Int, ¬ c = 56 → ¬ (c = 55 ∧ 4 ≤ p) → m1 c p = m c p := fun c p a1 a2 => by rw [f1 c p a1 a2, F c p a1 a2]
      by_cases q : fitB o D (k : Int) (D 157).toNat = true
      · rw [if_pos q]
        refine g_ifF (by decide) ?_
        refine g_C ?_
        refine g_Oe (fun x ex => ?_)
        refine g_Oe (fun y ey => ?_)
        refine nx y m1 hm1 F1 ?_
        show _ = if fitB o D (k : Int) (D 157).toNat = true then iOr (fbT o D k) (iShl 1 (k : Int)) else fbT o D k
        rw [if_pos q, ← ev, ey, ex]
      · rw [if_neg q]
        refine g_ifT rfl ?_
        refine nx v m1 hm1 F1 ?_
        show _ = if fitB o D (k : Int) (D 157).toNat = true then iOr (fbT o D k) (iShl 1 (k : Int)) else fbT o D k
        rw [if_neg q, ← ev]
  refine u_X9_handsByTests ?_
  refine g_C ?_
  refine g_C ?_
  exact ⟨6, L 6 0 0 m (by omega) hm (fun _ _ _ _ => rfl) rfl (by omega)⟩
theorem zz_who {S : Sh} {m0 : Mm} {K : Int → Int → Mm → Prop} {K1 : Int → Mm → Prop} {n w : Int} (hS : Shp S) (hz : RZ S m0 n) (hn : n ≤ 700) (hK : ∀ (r : Int) (M : Mm), wp_X12_who S M 336 w (fun r2 M2 => K r r2 M2) → K1 r M) (hk : ∀ (r : Int) (M1 : Mm), RZ S M1 n → K r r M1) : wp_X11_who S m0 0 w K1 := by
  have hm := hz.inv
  have ct := hz.ct
  obtain ⟨o, rc, rr⟩ := hz.rule
  have i0 := hz.2.2.2.2.2.2.2.2
  obtain ⟨D, eD⟩ : ∃ D : Int → Int, m0 346 = D := ⟨_, rfl⟩
  have dbD : DB D := by rw [← eD]; exact hz.rd.1.1
  have b3D : D 3 ≤ 8 := by rw [← eD]; exact hz.rd.1.2
  have tlD : TL 4 D m0 := by rw [← eD]; exact hz.tl
  have ttD : TT m0 3 D := by rw [← eD]; exact hz.tt
  have t10 : 0 ≤ D 157 ∧ D 157 ≤ 10 := by rw [← eD]; exact hm.f_346_157
  have hbD : ∀ h : Int, 0 ≤ h → h ≤ 4 → HB D h := fun h h0 h4 => by rw [← eD]; exact HB.of hm h0 h4
  have b4 : 0 ≤ D 4 ∧ D 4 ≤ 5 := by rw [← eD]; exact hm.f_346_4
  have no : ∀ r : Int, r = -1 → (m0 346 0 = 0 ∨ ¬ (0 ≤ w ∧ w ≤ 2)) → wp_X12_who S m0 336 w (fun r2 M2 => K r r2 M2) := by
    intro r er q
    rw [er]
    refine u_X12_who ?_
    refine ⟨hS.k336, ?_⟩
    refine zs_isDairy hS hm (fun c1 => g_ifF (by decide) ?_) (fun c1 => g_ifT rfl (g_C (hk _ m0 hz)))
    refine g_C ?_
    refine g_C ?_
    refine g_C ?_
    exact zs_in (fun c2 => absurd c2 (q.resolve_left c1)) (fun c2 => g_ifF (by decide) (g_C (hk _ m0 hz)))
  refine u_X11_who ?_
  refine g_getr 1 3 rfl hS.k0 hm.f_0_1 (by decide) ?_
  refine g_getr 0 4 rfl hS.k3 hm.f_3_0 (by decide) ?_
  refine g_getu 0 rfl hS.k4 (fun v ev => ?_)
  refine g_if (fun q => g_C (hK _ _ (no _ rfl (Or.inl (by omega))))) (fun q => ?_)
  refine g_if (fun q1 => g_C (hK _ _ (no _ rfl (Or.inr (by omega))))) (fun q1 => ?_)
  refine g_C ?_
  refine g_if (fun q2 => ?_) (fun q2 => g_C (hK _ _ (no _ rfl (Or.inr (by omega)))))
  refine g_getr 14 66 rfl hS.k0 hm.f_0_14 (by decide) ?_
  refine ⟨hS.k66, ?_⟩
  refine zq_byTests (o := o) (D := D) hS hm rc dbD b3D tlD ttD t10 i0.1 hbD (fun m1 hm1 f1 => ?_)
  have z1 : RZ S m1 n := hz.keep (hz.1.of hm1) (fun c p q => f1 c p (by unfold KZ at q; omega) (by unfold KZ at q; omega))
  have e46 : m1 346 = D := by rw [← eD]; exact funext (fun p => f1 346 p (by omega) (by omega))
  have rr1 : RR m1 o := rr.keep (fun c p q => f1 c p (by omega) (by omega))
  obtain ⟨v, eu⟩ : ∃ v : Int, v = fbT o D (D 4).toNat := ⟨_, rfl⟩
  have vb := fbT_31 (o := o) (D := D) (n := (D 4).toNat) (by omega)
  have vb2 := fbT_b (o := o) (D := D) (D 4).toNat (by omega)
  rw [← eu] at vb vb2 ⊢
  have go : ∀ r : Int, ((w = 0 → r = bcF v) ∧ (w = 1 → r = if v = 0 then -2 else ntF v) ∧ (w = 2 → r = v)) → wp_X12_who S m1 336 w (fun r2 M2 => K r r2 M2) := by
    intro r hr
    refine u_X12_who ?_
    refine ⟨hS.k336, ?_⟩
    refine zs_isDairy hS z1.inv (fun c1 => g_ifF (by decide) ?_) (fun c1 => absurd c1 (by rw [e46, ← eD]; omega))
    refine g_C ?_
    refine g_C ?_
    refine g_C ?_
    refine zs_in (fun c2 => g_ifT (by decide) ?_) (fun c2 => absurd (by omega) c2)
    refine ⟨hS.k336, ?_⟩
    refine zq_fitting (o := o) hS z1.inv rr1 (by rw [f1 336 23 (by omega) (by omega)]; exact i0.2) (fun m2 hm2 f2 => ?_)
    rw [e46, ← eu]
    have z2 : RZ S m2 n := z1.keep (z1.1.of hm2) (fun c p q => f2 c p (by unfold KZ at q; omega) (by unfold KZ at q; omega) (by unfold KZ at q; omega))
    refine g_C ?_
    refine g_if (fun w1 => ?_) (fun w1 => ?_)
    · refine g_C ?_
      refine zq_first hS hm2 vb.1 (by rw [f2 346 4 (by omega) (by omega) (by omega), e46]; exact vb2.2) ?_
      rw [← hr.2.1 w1]
      exact hk r m2 z2
    · refine g_if (fun w2 => ?_) (fun w2 => ?_)
      · rw [← hr.2.2 (by omega)]
        exact hk r m2 z2
      · refine zq_bits vb.1 vb.2 ?_
        rw [← hr.1 (Classical.not_not.mp w2)]
        exact hk r m2 z2
  refine g_if (fun w0 => ?_) (fun w0 => ?_)
  · refine zt_bitCount ?_
    exact hK _ _ (go _ ⟨fun _ => rfl, fun z => by omega, fun z => by omega⟩)
  · refine g_if (fun w1 => ?_) (fun w1 => ?_)
    · refine g_if (fun w2 => ?_) (fun w2 => g_C ?_)
      · refine zq_ntz (by omega) vb.2 ?_
        exact hK _ _ (go _ ⟨fun z => by omega, fun _ => by rw [if_neg w2], fun z => by omega⟩)
      · exact hK _ _ (go _ ⟨fun z => by omega, fun _ => by rw [if_pos (Classical.not_not.mp w2)], fun z => by omega⟩)
    · exact hK _ _ (go _ ⟨fun z => by omega, fun z => by omega, fun _ => rfl⟩)
