theorem z_X12_fitsTests {X : Mm} {S : Sh} {m0 : Mm} {K : Int → Mm → Prop} {u1 : Int} (hS : Shp S) (hm0 : Inv X S m0) (l_u1 : 0 ≤ u1) (h_u1 : u1 ≤ 4) (hk : ∀ (r : Int) (M1 : Mm), Inv X S M1 → 0 ≤ r → r ≤ 1 → K r M1) : wp_X12_fitsTests S m0 336 u1 K := by
  refine u_X12_fitsTests ?_
  refine g_C ?_
  have L_n_l104 : ∀ (n_l104 : Nat) (u3 : Int) (m4 : Mm), Inv X S m4 → 0 ≤ u3 → u3 ≤ 10 → 11 - u3 ≤ (n_l104 : Int) → wp_X12_fitsTests_2 S K n_l104 336 u1 u3 m4 := by
    intro n_l104
    induction n_l104 with
    | zero => intro u3 m4 hm4 bu3 cu3 zn_l104; exfalso; omega
    | succ n_l104 ih_n_l104 =>
      intro u3 m4 hm4 bu3 cu3 zn_l104
      refine u_X12_fitsTests_2 ?_
      refine g_getr 20 346 rfl hS.k336 hm4.f_336_20 (by decide) ?_
      refine g_C ?_
      refine g_ld (0) (10) hS.k346 hS.l346 (by omega) (by omega) (hm4.f_346_157) (fun v105 ev105 bv105 cv105 => ?_)
      refine g_if (fun w106 => ?_) (fun w106 => ?_)
      · refine g_C ?_
        refine ⟨by omega, ?_⟩
        exact hk 1 m4 hm4 (by omega) (by omega)
      · refine g_C ?_
        refine g_C ?_
        refine g_M (by omega) (by omega) ?_
        refine g_A (by omega) (by omega) ?_
        refine g_C ?_
        refine g_getr 20 346 rfl hS.k336 hm4.f_336_20 (by decide) ?_
        refine g_ld (0) (999) hS.k346 hS.l346 (by omega) (by omega) (fam_346_117_4_0_9 hm4 (a := u3) (by omega) (by omega) (by omega)) (fun v107 ev107 bv107 cv107 => ?_)
        refine g_getr 20 346 rfl hS.k336 hm4.f_336_20 (by decide) ?_
        refine g_C ?_
        refine g_A (by omega) (by omega) ?_
        refine g_ld (0) (20) hS.k346 hS.l346 (by omega) (by omega) (fam_346_118_4_0_9 hm4 (a := u3) (by omega) (by omega) (by omega)) (fun v108 ev108 bv108 cv108 => ?_)
        refine g_getr 20 346 rfl hS.k336 hm4.f_336_20 (by decide) ?_
        refine g_C ?_
        refine g_A (by omega) (by omega) ?_
        refine g_ld (0) (99) hS.k346 hS.l346 (by omega) (by omega) (fam_346_119_4_0_9 hm4 (a := u3) (by omega) (by omega) (by omega)) (fun v109 ev109 bv109 cv109 => ?_)
        refine g_C ?_
        refine ⟨hS.k336, ?_⟩
        refine z_X12_turnedBy hS hm4 (by omega) (by omega) (by omega) (by omega) (by omega) (by omega) (by omega) (by omega) (by omega) (by omega) (by omega) (by omega) (fun v110 m111 hm111 fm111 bv110 cv110 => ?_)
        refine g_getr 20 346 rfl hS.k336 hm111.f_336_20 (by decide) ?_
        refine g_C ?_
        refine g_A (by omega) (by omega) ?_
        refine g_ld (0) (999) hS.k346 hS.l346 (by omega) (by omega) (fam_346_120_4_0_9 hm111 (a := u3) (by omega) (by omega) (by omega)) (fun v112 ev112 bv112 cv112 => ?_)
        refine g_if (fun w113 => ?_) (fun w113 => ?_)
        · refine g_A (by omega) (by omega) ?_
          exact ih_n_l104 (u3 + 1) m111 hm111 (by omega) (by omega) (by omega)
        · refine g_C ?_
          refine ⟨by omega, ?_⟩
          exact hk 0 m111 hm111 (by omega) (by omega)
  exact ⟨11, L_n_l104 11 0 m0 hm0 (by omega) (by omega) (by omega)⟩
theorem z_X12_fitting {X : Mm} {S : Sh} {m0 : Mm} {K : Int → Mm → Prop} (hS : Shp S) (hm0 : Inv X S m0)  (hk : ∀ (r : Int) (M1 : Mm), Inv X S M1 → 0 ≤ r → r ≤ 31 → K r M1) : wp_X12_fitting S m0 336 K := by
  refine u_X12_fitting ?_
  refine g_C ?_
  refine g_C ?_
  have L_n_l53 : ∀ (n_l53 : Nat) (u2 : Int) (u3 : Int) (m4 : Mm), Inv X S m4 → 0 ≤ u2 → u2 ≤ 31 → 0 ≤ u3 → u3 ≤ 5 → 6 - u3 ≤ (n_l53 : Int) → wp_X12_fitting_4 S K n_l53 336 u2 u3 m4 := by
    intro n_l53
    induction n_l53 with
    | zero => intro u2 u3 m4 hm4 bu2 cu2 bu3 cu3 zn_l53; exfalso; omega
    | succ n_l53 ih_n_l53 =>
      intro u2 u3 m4 hm4 bu2 cu2 bu3 cu3 zn_l53
      refine u_X12_fitting_4 ?_
      refine g_getr 20 346 rfl hS.k336 hm4.f_336_20 (by decide) ?_
      refine g_C ?_
      refine g_ld (0) (5) hS.k346 hS.l346 (by omega) (by omega) (hm4.f_346_4) (fun v54 ev54 bv54 cv54 => ?_)
      refine g_if (fun w55 => ?_) (fun w55 => ?_)
      · exact hk u2 m4 hm4 (by omega) (by omega)
      · refine ⟨hS.k336, ?_⟩
        refine z_X12_fitsTests hS hm4 (by omega) (by omega) (fun v56 m57 hm57 bv56 cv56 => ?_)
        refine g_if (fun w58 => ?_) (fun w58 => ?_)
        · refine g_C ?_
          refine u_X12_fitting_30 ?_
          refine g_iOr 5 (by omega) (by omega) (by omega) (by omega) (by decide) (fun v59 bv59 cv59 => ?_)
          refine g_A (by omega) (by omega) ?_
          exact ih_n_l53 v59 (u3 + 1) m57 hm57 (by omega) (by omega) (by omega) (by omega) (by omega)
        · refine g_C ?_
          refine g_iShl 4 (by omega) (by omega) (by decide) (fun v60 bv60 cv60 => ?_)
          refine u_X12_fitting_30 ?_
          refine g_iOr 5 (by omega) (by omega) (by omega) (by omega) (by decide) (fun v61 bv61 cv61 => ?_)
          refine g_A (by omega) (by omega) ?_
          exact ih_n_l53 v61 (u3 + 1) m57 hm57 (by omega) (by omega) (by omega) (by omega) (by omega)
  exact ⟨6, L_n_l53 6 0 0 m0 hm0 (by omega) (by omega) (by omega) (by omega) (by omega)⟩
theorem bd_347 : ∀ u : Nat, u < 20 → ∀ j : Nat, j < 57 → bd 347 (57 * u + j) = bd 346 j := by decide +kernel
theorem bd_347s : ∀ p : Nat, p < 1083 → bd 347 (p + 57) = bd 347 p := by decide +kernel
theorem pT_347 : pT.getD 347 0 = 1140 := by decide +kernel
theorem k_52 {S : Sh} {m : Mm} {K : Mm → Prop} {u : Int} (hS : Shp S) (f24 : m 336 24 = 347) (f20 : m 336 20 = 346) (hu : m 336 25 = u) (u0 : 0 ≤ u) (u1 : u ≤ 19) (hk : ∀ M2 : Mm, M2 336 25 = u + 1 → (∀ c p : Int, ¬ (c = 347 ∧ 57 * u ≤ p ∧ p < 57 * u + 57) → ¬ (c = 336 ∧ p = 25) → M2 c p = m c p) → (∀ j : Int, 0 ≤ j → j < 57 → M2 347 (57 * u + j) = m 346 j) → K M2) : wp_X12_keepsAct_50 S K 336 m := by
  refine u_X12_keepsAct_50 ?_
  refine g_C ?_
  have L : ∀ (n : Nat) (k : Int) (M2 : Mm), 0 ≤ k → k ≤ 57 → (∀ c p : Int, ¬ (c = 347 ∧ 57 * u ≤ p ∧ p < 57 * u + 57) → M2 c p = m c p) → (∀ j : Int, 0 ≤ j → j < k → M2 347 (57 * u + j) = m 346 j) → 58 - k ≤ (n : Int) → wp_X12_keepsAct_52 S K n 336 k M2 := by
    intro n
    induction n with
    | zero => intro k M2 _ _ _ _ h5; exfalso; omega
    | succ n ih =>
      intro k M2 a1 a2 a3 a4 a5
      have e24 : M2 336 24 = 347 := (a3 336 24 (by omega)).trans f24
      have e20 : M2 336 20 = 346 := (a3 336 20 (by omega)).trans f20
      have e25 : M2 336 25 = u := (a3 336 25 (by omega)).trans hu
      refine u_X12_keepsAct_52 ?_
      refine g_C ?_
      refine g_if (fun w => ?_) (fun w => ?_)
      · refine g_getu 25 rfl hS.k336 (fun v ev => ?_)
        refine g_C ?_
        refine g_A (by omega) (by omega) ?_
        refine g_putR 25 rfl hS.k336 (fun M3 e3 => ?_)
        refine hk M3 ?_ (fun c p h1 h2 => ?_) (fun j h1 h2 => ?_)
        · rw [e3, up_at]; omega
        · rw [e3, up_ne (by omega)]; exact a3 c p h1
        · rw [e3, up_ne (by omega)]; exact a4 j h1 (by omega)
      · refine g_getr 24 347 rfl hS.k336 e24 (by decide) ?_
        refine g_C ?_
        refine g_getu 25 rfl hS.k336 (fun v ev => ?_)
        obtain rfl : v = u := by omega
        refine g_M (by omega) (by omega) ?_
        refine g_A (by omega) (by omega) ?_
        refine g_getr 20 346 rfl hS.k336 e20 (by decide) ?_
        refine g_ldu hS.k346 hS.l346 (by omega) (by omega) (fun x ex => ?_)
        refine g_stR hS.k347 hS.l347 (by omega) (by omega) (fun M3 e3 => ?_)
        refine g_A (by omega) (by omega) ?_
        refine ih (k + 1) M3 (by omega) (by omega) (fun c p h1 => ?_) (fun j h1 h2 => ?_) (by omega)
        · rw [e3, up_ne (by omega)]; exact a3 c p h1
        · by_cases z : j = k
          · rw [e3, z, up_at, ex]
            exact a3 346 k (by omega)
          · rw [e3, up_ne (by omega)]; exact a4 j h1 (by omega)
  exact ⟨58, L 58 0 m (by omega) (by omega) (fun _ _ _ => rfl) (fun j h1 h2 => absurd h1 (by omega)) (by omega)⟩
theorem k_inv {X : Mm} {S : Sh} {m0 M2 : Mm} {u s : Int} (hm0 : Inv X S m0) (u0 : 0 ≤ u) (u1 : u ≤ 19) (hu : M2 336 25 = u + 1) (hs : (s = 0 ∧ u = m0 336 25) ∨ (s = 57 ∧ u = 19 ∧ m0 336 25 = 20)) (h1 : ∀ c p : Int, ¬ c = 347 → ¬ (c = 336 ∧ p = 25) → M2 c p = m0 c p) (h2 : ∀ j : Int, 0 ≤ j → j < 57 → M2 347 (57 * u + j) = m0 346 j) (h3 : ∀ p : Int, 0 ≤ p → p < 57 * u → M2 347 p = m0 347 (p + s)) (h4 : ∀ p : Int, 57 * u + 57 ≤ p → p < 1140 → M2 347 p = m0 347 p) : Inv X S M2 := by
  refine ⟨fun c p a1 a2 => ?_, fun c p a1 => ?_, fun i a1 a2 => ?_, ?_, hm0.good, fun hx p hp => ?_, ?_⟩
  · by_cases e : c = 347
    · subst e
      rw [pT_347] at a2
      by_cases z1 : (p : Int) < 57 * u
      · rw [show ((347 : Nat) : Int) = 347 from rfl, h3 p (by omega) z1]
        rcases hs with hs | hs
        · have q := hm0.1 347 p (by decide) (by rw [pT_347]; omega)
          rw [hs.1, Int.add_zero]
          exact q
        · have q := hm0.1 347 (p + 57) (by decide) (by rw [pT_347]; omega)
          rw [bd_347s p (by omega)] at q
          rw [hs.1]
          exact q
      · by_cases z2 : (p : Int) < 57 * u + 57
        · have q := hm0.1 346 (p - 57 * u.toNat) (by decide) (by rw [pT_348.2]; omega)
          rw [← bd_347 u.toNat (by omega) (p - 57 * u.toNat) (by omega)] at q
          have e2 : 57 * u.toNat + (p - 57 * u.toNat) = p := by omega
          rw [e2] at q
          have e3 := h2 ((p - 57 * u.toNat : Nat) : Int) (by omega) (by omega)
          have e4 : 57 * u + ((p - 57 * u.toNat : Nat) : Int) = p := by omega
          rw [e4] at e3
          rw [show ((347 : Nat) : Int) = 347 from rfl, e3]
          exact q
        · rw [show ((347 : Nat) : Int) = 347 from rfl, h4 p (by omega) (by omega)]
          exact hm0.1 347 p (by decide) (by rw [pT_347]; omega)
    · by_cases z : c = 336 ∧ p = 25
      · obtain ⟨z1, z2⟩ := z
        subst z1 z2
        rw [show ((336 : Nat) : Int) = 336 from rfl, show ((25 : Nat) : Int) = 25 from rfl, hu]
        exact okb_of (l := 0) (u := 20) (by decide +kernel) (by omega) (by omega)
      · rw [h1 c p (by omega) (by omega)]
        exact hm0.1 c p a1 a2
  · rw [h1 c p (by omega) (by omega)]
    exact hm0.2.1 c p a1
  · rw [h1 30 i (by decide) (by omega)]; exact hm0.row30 a1 a2
  · rw [h1 55 1 (by decide) (by omega)]; exact hm0.row55
  · rw [h1 348 p (by decide) (by omega)]; exact hm0.flag hx hp
  · have q := hm0.pl
    have g0 := hm0.g (c := 346) (p := 0) (by decide)
    have g4 := hm0.g (c := 346) (p := 4) (by decide)
    have g5 := hm0.g (c := 346) (p := 5) (by decide)
    have b4 := hm0.f_346_4
    have b5 := hm0.f_346_5
    have e6 : M2 346 = m0 346 := funext (fun p => h1 346 p (by decide) (by omega))
    have e8 : M2 348 = m0 348 := funext (fun p => h1 348 p (by decide) (by omega))
    have e4 : M2 354 = m0 354 := funext (fun p => h1 354 p (by decide) (by omega))
    unfold PLi at q ⊢
    rw [e6, e8, e4, hu]
    refine ⟨q.1, q.2.1, fun r r1 r2 => ?_, q.2.2.2⟩
    by_cases z : r = u
    · subst z
      have p0 := h2 0 (by omega) (by omega)
      rw [Int.add_zero] at p0
      have p4 := h2 4 (by omega) (by omega)
      have p5 := h2 5 (by omega) (by omega)
      rw [p0, p4, p5, g0, g4, g5]
      refine ⟨fun a c1 c2 => ?_, fun a c1 c2 => ?_⟩
      · show M2 347 (57 * r + (10 + 5 * a)) < _
        rw [h2 _ (by omega) (by omega)]; exact q.1.1 a c1 c2
      · show M2 347 (57 * r + (35 + 4 * a)) < _
        rw [h2 _ (by omega) (by omega)]; exact q.1.2 a c1 c2
    · have e := h3 (57 * r) (by omega) (by omega)
      have e4' := h3 (57 * r + 4) (by omega) (by omega)
      have e5' := h3 (57 * r + 5) (by omega) (by omega)
      rcases hs with hs | hs
      · have q3 := q.2.2.1 r r1 (by omega)
        rw [hs.1, Int.add_zero] at e e4' e5'
        have b4r := hm0.rdI 347 0 5 (by decide) (57 * r.toNat + 4) (i := 57 * r + 4) (by omega) (by rw [bd_347 r.toNat (by omega) 4 (by decide), pT_347]; exact ⟨by omega, by decide +kernel⟩)
        have b5r := hm0.rdI 347 0 4 (by decide) (57 * r.toNat + 5) (i := 57 * r + 5) (by omega) (by rw [bd_347 r.toNat (by omega) 5 (by decide), pT_347]; exact ⟨by omega, by decide +kernel⟩)
        have c4 : m0 347 (57 * r + 4) ≤ 5 := b4r.2
        have c5 : m0 347 (57 * r + 5) ≤ 4 := b5r.2
        rw [e, e4', e5']
        refine ⟨fun a c1 c2 => ?_, fun a c1 c2 => ?_⟩
        · show M2 347 (57 * r + (10 + 5 * a)) < _
          rw [h3 _ (by omega) (by omega), hs.1, Int.add_zero]; exact q3.1 a c1 c2
        · show M2 347 (57 * r + (35 + 4 * a)) < _
          rw [h3 _ (by omega) (by omega), hs.1, Int.add_zero]; exact q3.2 a c1 c2
      · have q3 := q.2.2.1 (r + 1) (by omega) (by omega)
        have x0 : 57 * r + s = 57 * (r + 1) := by omega
        have x4 : 57 * r + 4 + s = 57 * (r + 1) + 4 := by omega
        have x5 : 57 * r + 5 + s = 57 * (r + 1) + 5 := by omega
        rw [x0] at e
        rw [x4] at e4'
        rw [x5] at e5'
        have b4r := hm0.rdI 347 0 5 (by decide) (57 * (r + 1).toNat + 4) (i := 57 * (r + 1) + 4) (by omega) (by rw [bd_347 (r + 1).toNat (by omega) 4 (by decide), pT_347]; exact ⟨by omega, by decide +kernel⟩)
        have b5r := hm0.rdI 347 0 4 (by decide) (57 * (r + 1).toNat + 5) (i := 57 * (r + 1) + 5) (by omega) (by rw [bd_347 (r + 1).toNat (by omega) 5 (by decide), pT_347]; exact ⟨by omega, by decide +kernel⟩)
        have c4 : m0 347 (57 * (r + 1) + 4) ≤ 5 := b4r.2
        have c5 : m0 347 (57 * (r + 1) + 5) ≤ 4 := b5r.2
        rw [e, e4', e5']
        refine ⟨fun a c1 c2 => ?_, fun a c1 c2 => ?_⟩
        · show M2 347 (57 * r + (10 + 5 * a)) < _
          rw [h3 _ (by omega) (by omega), show 57 * r + (10 + 5 * a) + s = 57 * (r + 1) + (10 + 5 * a) by omega]; exact q3.1 a c1 c2
        · show M2 347 (57 * r + (35 + 4 * a)) < _
          rw [h3 _ (by omega) (by omega), show 57 * r + (35 + 4 * a) + s = 57 * (r + 1) + (35 + 4 * a) by omega]; exact q3.2 a c1 c2
