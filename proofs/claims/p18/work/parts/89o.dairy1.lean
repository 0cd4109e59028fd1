theorem fam_342_57_3_0_7 {X : Mm} {S : Sh} {M : Mm} (h : Inv X S M) {a i : Int} (hi : i = 57 + 3 * a) (h0 : 0 ≤ a) (h1 : a ≤ 7) : 0 ≤ M 342 i ∧ M 342 i ≤ 5 := by
  have q : ∀ n : Nat, n < 8 → 57 + 3 * n < pT.getD 342 0 ∧ 0 ≤ (bd 342 (57 + 3 * n)).1 ∧ (bd 342 (57 + 3 * n)).2 ≤ 5 ∧ (bd 342 (57 + 3 * n)).1 ≤ (bd 342 (57 + 3 * n)).2 := by decide +kernel
  exact h.rdI 342 _ _ (by decide) (57 + 3 * (a - 0).toNat) (by omega) (q _ (by omega))
theorem fam_342_58_3_0_7 {X : Mm} {S : Sh} {M : Mm} (h : Inv X S M) {a i : Int} (hi : i = 58 + 3 * a) (h0 : 0 ≤ a) (h1 : a ≤ 7) : 0 ≤ M 342 i ∧ M 342 i ≤ 5 := by
  have q : ∀ n : Nat, n < 8 → 58 + 3 * n < pT.getD 342 0 ∧ 0 ≤ (bd 342 (58 + 3 * n)).1 ∧ (bd 342 (58 + 3 * n)).2 ≤ 5 ∧ (bd 342 (58 + 3 * n)).1 ≤ (bd 342 (58 + 3 * n)).2 := by decide +kernel
  exact h.rdI 342 _ _ (by decide) (58 + 3 * (a - 0).toNat) (by omega) (q _ (by omega))
theorem z_X12_isRoadTold {X : Mm} {S : Sh} {m0 : Mm} {K : Int → Mm → Prop} {u1 u2 : Int} (hS : Shp S) (hm0 : Inv X S m0) (l_u1 : (-2147483648) ≤ u1) (h_u1 : u1 ≤ 2147483647) (l_u2 : (-2147483648) ≤ u2) (h_u2 : u2 ≤ 2147483647) (hk : ∀ (r : Int), 0 ≤ r → r ≤ 1 → K r m0) : wp_X12_isRoadTold S m0 336 u1 u2 K := by
  refine u_X12_isRoadTold ?_
  refine g_C ?_
  have L_n_l132 : ∀ (n_l132 : Nat) (u4 : Int), 0 ≤ u4 → u4 ≤ 8 → 9 - u4 ≤ (n_l132 : Int) → wp_X12_isRoadTold_2 S K n_l132 336 u1 u2 u4 m0 := by
    intro n_l132
    induction n_l132 with
    | zero => intro u4 bu4 cu4 zn_l132; exfalso; omega
    | succ n_l132 ih_n_l132 =>
      intro u4 bu4 cu4 zn_l132
      refine u_X12_isRoadTold_2 ?_
      refine g_getr 7 342 rfl hS.k336 hm0.f_336_7 (by decide) ?_
      refine g_C ?_
      refine g_ld (0) (8) hS.k342 hS.l342 (by omega) (by omega) (hm0.f_342_3) (fun v133 ev133 bv133 cv133 => ?_)
      refine g_if (fun w134 => ?_) (fun w134 => ?_)
      · refine g_C ?_
        refine ⟨by omega, ?_⟩
        exact hk 0 (by omega) (by omega)
      · refine g_C ?_
        refine g_C ?_
        refine g_M (by omega) (by omega) ?_
        refine g_A (by omega) (by omega) ?_
        refine g_getr 7 342 rfl hS.k336 hm0.f_336_7 (by decide) ?_
        refine g_ld (0) (5) hS.k342 hS.l342 (by omega) (by omega) (fam_342_57_3_0_7 hm0 (a := u4) (by omega) (by omega) (by omega)) (fun v135 ev135 bv135 cv135 => ?_)
        refine g_if (fun w136 => ?_) (fun w136 => ?_)
        · refine u_X12_isRoadTold_44 ?_
          refine g_getr 7 342 rfl hS.k336 hm0.f_336_7 (by decide) ?_
          refine g_ld (0) (5) hS.k342 hS.l342 (by omega) (by omega) (fam_342_57_3_0_7 hm0 (a := u4) (by omega) (by omega) (by omega)) (fun v137 ev137 bv137 cv137 => ?_)
          have qv137 : v137 = v135 := ev137.trans ev135.symm
          refine g_if (fun w138 => ?_) (fun w138 => ?_)
          · refine u_X12_isRoadTold_70 ?_
            refine g_A (by omega) (by omega) ?_
            exact ih_n_l132 (u4 + 1) (by omega) (by omega) (by omega)
          · refine g_getr 7 342 rfl hS.k336 hm0.f_336_7 (by decide) ?_
            refine g_C ?_
            refine g_A (by omega) (by omega) ?_
            refine g_ld (0) (5) hS.k342 hS.l342 (by omega) (by omega) (fam_342_58_3_0_7 hm0 (a := u4) (by omega) (by omega) (by omega)) (fun v139 ev139 bv139 cv139 => ?_)
            refine g_if (fun w140 => ?_) (fun w140 => ?_)
            · refine u_X12_isRoadTold_70 ?_
              refine g_A (by omega) (by omega) ?_
              exact ih_n_l132 (u4 + 1) (by omega) (by omega) (by omega)
            · refine g_C ?_
              refine ⟨by omega, ?_⟩
              exact hk 1 (by omega) (by omega)
        · refine g_getr 7 342 rfl hS.k336 hm0.f_336_7 (by decide) ?_
          refine g_C ?_
          refine g_A (by omega) (by omega) ?_
          refine g_ld (0) (5) hS.k342 hS.l342 (by omega) (by omega) (fam_342_58_3_0_7 hm0 (a := u4) (by omega) (by omega) (by omega)) (fun v141 ev141 bv141 cv141 => ?_)
          refine g_if (fun w142 => ?_) (fun w142 => ?_)
          · refine g_C ?_
            refine ⟨by omega, ?_⟩
            exact hk 1 (by omega) (by omega)
          · refine u_X12_isRoadTold_44 ?_
            refine g_getr 7 342 rfl hS.k336 hm0.f_336_7 (by decide) ?_
            refine g_ld (0) (5) hS.k342 hS.l342 (by omega) (by omega) (fam_342_57_3_0_7 hm0 (a := u4) (by omega) (by omega) (by omega)) (fun v143 ev143 bv143 cv143 => ?_)
            have qv143 : v143 = v135 := ev143.trans ev135.symm
            refine g_if (fun w144 => ?_) (fun w144 => ?_)
            · refine u_X12_isRoadTold_70 ?_
              refine g_A (by omega) (by omega) ?_
              exact ih_n_l132 (u4 + 1) (by omega) (by omega) (by omega)
            · refine g_getr 7 342 rfl hS.k336 hm0.f_336_7 (by decide) ?_
              refine g_C ?_
              refine g_A (by omega) (by omega) ?_
              refine g_ld (0) (5) hS.k342 hS.l342 (by omega) (by omega) (fam_342_58_3_0_7 hm0 (a := u4) (by omega) (by omega) (by omega)) (fun v145 ev145 bv145 cv145 => ?_)
              have qv145 : v145 = v141 := ev145.trans ev141.symm
              refine g_if (fun w146 => ?_) (fun w146 => ?_)
              · refine u_X12_isRoadTold_70 ?_
                refine g_A (by omega) (by omega) ?_
                exact ih_n_l132 (u4 + 1) (by omega) (by omega) (by omega)
              · refine g_C ?_
                refine ⟨by omega, ?_⟩
                exact hk 1 (by omega) (by omega)
  exact ⟨9, L_n_l132 9 0 (by omega) (by omega) (by omega)⟩
theorem rq_57 : ∀ a : Nat, a < 8 → bd 342 (57 + 3 * a) = (0, 5) ∧ bd 342 (57 + 3 * a + 1) = (0, 5) ∧ bd 342 (57 + 3 * a + 2) = (0, 5) := by decide +kernel
theorem rq_hp : ∀ a : Nat, a < 5 → 10 + 5 * a < pT.getD 342 0 ∧ bd 342 (10 + 5 * a) = (0, 5) := by decide +kernel
theorem rq_jp : ∀ a : Nat, a < 4 → 35 + 4 * a < pT.getD 342 0 ∧ bd 342 (35 + 4 * a) = (0, 5) := by decide +kernel
theorem zd_isDairyHere {X : Mm} {S : Sh} {m0 : Mm} {K : Int → Mm → Prop} {u1 : Int} (hS : Shp S) (hm0 : Inv X S m0) (h1 : 0 ≤ u1) (h1' : u1 ≤ 400) (hp : PR m0) (hf : ∀ M1 : Mm, Inv X S M1 → ¬ M1 336 9 = 0 → K 0 M1) (hk : ∀ M1 : Mm, Inv X S M1 → PR M1 → (∀ p : Int, (p = 11 ∨ p = 14) → M1 336 p = m0 336 p) → m0 336 8 ≤ M1 336 8 → K 1 M1) : wp_X12_isDairyHere S m0 336 u1 K := by
  have c0 := hm0.f_342_0
  have c4 := hm0.f_342_4
  have c5 := hm0.f_342_5
  refine u_X12_isDairyHere ?_
  refine g_getr 7 342 rfl hS.k336 hm0.f_336_7 (by decide) ?_
  refine g_C ?_
  refine g_ldu hS.k342 hS.l342 (by omega) (by omega) (fun v0 ev0 => ?_)
  refine g_if (fun w => ?_) (fun w => ?_)
  · refine ⟨hS.k336, ?_⟩
    refine z_X12_passWord hS hm0 (fun m1 hm1 f1 y1 _ => ?_)
    refine g_C ?_
    refine g_C ?_
    refine ⟨hS.k336, ?_⟩
    refine z_X12_numberHere hS hm1 (by decide) (by decide) (by decide) (by decide) (fun r2 m2 hm2 f2 b2 c2 y2 y3 y4 y5 => ?_)
    refine g_if (fun w2 => ?_) (fun w2 => g_C ⟨by decide, hf m2 hm2 (y4.resolve_left (by omega))⟩)
    obtain ⟨z1, z2⟩ := y5.resolve_left w2
    refine g_getu 10 rfl hS.k336 (fun v ev => ?_)
    refine g_C ?_
    refine g_C ?_
    refine g_C ?_
    refine ⟨hS.k336, ?_⟩
    refine zd_cell hS hm2 (by decide) (by decide) (by decide) (by decide) (by decide) (by decide) (fun v lv uv => okb_of (l := 0) (u := 9) (by decide +kernel) lv uv) (fun m8 hm8 n8 => g_ifT rfl (g_C ⟨by decide, hf m8 hm8 n8⟩)) (fun m3 hm3 f3 lo3 hi3 y33 => ?_)
    refine g_ifF (by decide) ?_
    refine g_C ?_
    refine g_C ?_
    refine g_C ?_
    refine ⟨hS.k336, ?_⟩
    refine zd_cell hS hm3 (by decide) (by decide) (by decide) (by decide) (by decide) (by decide) (fun v lv uv => okb_of (l := 0) (u := 99) (by decide +kernel) (by omega) (by omega)) (fun m8 hm8 n8 => g_ifF (by decide) (g_C ⟨by decide, hf m8 hm8 n8⟩)) (fun m4 hm4 f4 lo4 hi4 y44 => ?_)
    refine g_ifT (by decide) ?_
    refine g_getr 7 342 rfl hS.k336 hm4.f_336_7 (by decide) ?_
    refine g_C ?_
    refine g_st hS.k342 hS.l342 (by omega) (by omega) (hm4.w342 (by omega) (okb_of (l := 0) (u := 6) (by decide +kernel) (by omega) (by omega))) (fun m5 e5 hm5 => ?_)
    have f5 : ∀ c p : Int, ¬ (c = 342 ∧ p = 0) → m5 c p = m4 c p := fun c p q => (congrFun (congrFun e5 _) _).trans (up_ne q)
    have F : ∀ c p : Int, ¬ (c = 336 ∧ 8 ≤ p ∧ p ≤ 10) ∧ ¬ (c = 342 ∧ (p = 0 ∨ p = 1 ∨ p = 2)) → m5 c p = m0 c p := fun c p q => by rw [f5 c p (by omega), f4 c p (by omega), f3 c p (by omega), f2 c p (by omega), f1 c p (by omega)]
    refine g_C ⟨by decide, hk m5 hm5 ?_ (fun p q => F 336 p (by omega)) (by rw [f5 336 8 (by omega)]; omega)⟩
    unfold PR at hp ⊢
    rw [F 342 4 (by omega), F 342 5 (by omega)]
    refine ⟨fun a a0 a1 => ?_, fun a a0 a1 => ?_⟩
    · have q := hp.1 a a0 a1
      obtain ⟨q1, q2⟩ := rq_hp a.toNat (by omega)
      have q3 := hm0.rd 342 (10 + 5 * a.toNat) 0 5 (by decide) q1 q2 (by decide)
      rw [show ((342 : Nat) : Int) = 342 from rfl, show ((10 + 5 * a.toNat : Nat) : Int) = 10 + 5 * a by omega] at q3
      exfalso; omega
    · have q := hp.2 a a0 a1
      obtain ⟨q1, q2⟩ := rq_jp a.toNat (by omega)
      have q3 := hm0.rd 342 (35 + 4 * a.toNat) 0 5 (by decide) q1 q2 (by decide)
      rw [show ((342 : Nat) : Int) = 342 from rfl, show ((35 + 4 * a.toNat : Nat) : Int) = 35 + 4 * a by omega] at q3
      exfalso; omega
  · refine g_C ?_
    refine ⟨hS.k336, ?_⟩
    refine z_X12_fails hS hm0 (by decide) (by decide) (by omega) (by omega) (fun r9 m9 hm9 f9 b9 c9 y9 => ?_)
    obtain rfl : r9 = 0 := by omega
    exact ⟨by decide, hf m9 hm9 y9⟩
theorem zd_isRoadHere {X : Mm} {S : Sh} {m0 : Mm} {K : Int → Mm → Prop} {u1 : Int} (hS : Shp S) (hm0 : Inv X S m0) (h1 : 0 ≤ u1) (h1' : u1 ≤ 400) (hp : PR m0) (hf : ∀ M1 : Mm, Inv X S M1 → ¬ M1 336 9 = 0 → K 0 M1) (hk : ∀ M1 : Mm, Inv X S M1 → PR M1 → (∀ p : Int, (p = 11 ∨ p = 14) → M1 336 p = m0 336 p) → m0 336 8 ≤ M1 336 8 → K 1 M1) : wp_X12_isRoadHere S m0 336 u1 K := by
  have c0 := hm0.f_342_0
  have c4 := hm0.f_342_4
  have c5 := hm0.f_342_5
  have cc := hm0.f_342_3
  have bad : ∀ (m : Mm) (a : Int), Inv X S m → 0 ≤ a → a ≤ 400 → wp_X12_isRoadHere_122 S K 336 a m := by
    intro m a hm a0 a1
    refine u_X12_isRoadHere_122 ?_
    refine g_C ?_
    refine ⟨hS.k336, ?_⟩
    refine z_X12_fails hS hm (by decide) (by decide) (by omega) (by omega) (fun r9 m9 hm9 f9 b9 c9 y9 => ?_)
    obtain rfl : r9 = 0 := by omega
    exact ⟨by decide, hf m9 hm9 y9⟩
  refine u_X12_isRoadHere ?_
  refine g_getr 7 342 rfl hS.k336 hm0.f_336_7 (by decide) ?_
  refine g_C ?_
  refine g_ldu hS.k342 hS.l342 (by omega) (by omega) (fun v0 ev0 => ?_)
  refine g_C ?_
  refine g_if (fun w => ?_) (fun w => ?_)
  · refine ⟨hS.k336, ?_⟩
    refine z_X12_passWord hS hm0 (fun m1 hm1 f1 y1 _ => ?_)
    refine g_C ?_
    refine g_C ?_
    refine g_getr 7 342 rfl hS.k336 hm1.f_336_7 (by decide) ?_
    refine g_C ?_
    refine g_ldu hS.k342 hS.l342 (by omega) (by omega) (fun n en => ?_)
    rw [f1 342 _ (by omega)] at en
    refine g_M (by omega) (by omega) ?_
    refine g_A (by omega) (by omega) ?_
    refine g_C ?_
    refine g_getr 7 342 rfl hS.k336 hm1.f_336_7 (by decide) ?_
    refine g_C ?_
    refine g_ldu hS.k342 hS.l342 (by omega) (by omega) (fun pp epp => ?_)
    rw [f1 342 _ (by omega)] at epp
    refine g_C ?_
    refine g_S (by omega) (by omega) ?_
    refine ⟨hS.k336, ?_⟩
    have rq := rq_57 n.toNat (by omega)
    refine zd_cell hS hm1 (by omega) (by omega) (by omega) (by omega) (by omega) (by omega) (fun v lv uv => okb_of (l := 0) (u := 5) (by rw [show (57 + 3 * n).toNat = 57 + 3 * n.toNat by omega]; exact rq.1) (by omega) (by omega)) (fun m8 hm8 n8 => g_ifF (by decide) (g_C ⟨by decide, hf m8 hm8 n8⟩)) (fun m2 hm2 f2 lo2 hi2 y2 => ?_)
    refine g_ifT (by decide) ?_
    refine ⟨hS.k336, ?_⟩
    refine z_X12_see hS hm2 (fun r3 m3 hm3 f3 b3 c3 y3 _ _ => ?_)
    have b83 := hm3.f_336_8
    refine g_getu 8 rfl hS.k336 (fun at' eat => ?_)
    refine g_C ?_
    refine g_A (by omega) (by omega) ?_
    refine g_C ?_
    refine g_getr 7 342 rfl hS.k336 hm3.f_336_7 (by decide) ?_
    refine g_C ?_
    refine g_ldu hS.k342 hS.l342 (by omega) (by omega) (fun p2 ep2 => ?_)
    rw [f3 342 _ (by omega), f2 342 _ (by omega), f1 342 _ (by omega)] at ep2
    refine g_C ?_
    refine g_S (by omega) (by omega) ?_
    refine ⟨hS.k336, ?_⟩
    refine zd_cell hS hm3 (by omega) (by omega) (by omega) (by omega) (by omega) (by omega) (fun v lv uv => okb_of (l := 0) (u := 5) (by rw [show (57 + 3 * n + 1).toNat = 57 + 3 * n.toNat + 1 by omega]; exact rq.2.1) (by omega) (by omega)) (fun m8 hm8 n8 => g_ifF (by decide) (g_C ⟨by decide, hf m8 hm8 n8⟩)) (fun m4 hm4 f4 lo4 hi4 y4 => ?_)
    refine g_ifT (by decide) ?_
    refine g_getr 7 342 rfl hS.k336 hm4.f_336_7 (by decide) ?_
    refine g_ldu hS.k342 hS.l342 (by omega) (by omega) (fun a1 ea1 => ?_)
    refine g_getr 7 342 rfl hS.k336 hm4.f_336_7 (by decide) ?_
    refine g_C ?_
    refine g_A (by omega) (by omega) ?_
    refine g_ldu hS.k342 hS.l342 (by omega) (by omega) (fun a2 ea2 => ?_)
    refine g_if (fun w2 => bad m4 at' hm4 (by omega) (by omega)) (fun w2 => ?_)
    have d1 : 0 ≤ m4 342 (57 + 3 * n) ∧ m4 342 (57 + 3 * n) ≤ 5 := by
      rw [f4 342 _ (by omega), f3 342 _ (by omega)]
      omega
    refine g_getr 7 342 rfl hS.k336 hm4.f_336_7 (by decide) ?_
    refine g_ldu hS.k342 hS.l342 (by omega) (by omega) (fun a3 ea3 => ?_)
    refine g_getr 7 342 rfl hS.k336 hm4.f_336_7 (by decide) ?_
    refine g_C ?_
    refine g_A (by omega) (by omega) ?_
    refine g_ldu hS.k342 hS.l342 (by omega) (by omega) (fun a4 ea4 => ?_)
    refine ⟨hS.k336, ?_⟩
    refine z_X12_isRoadTold hS hm4 (by omega) (by omega) (by omega) (by omega) (fun r5 b5 c5' => ?_)
    refine g_if (fun w3 => ?_) (fun w3 => bad m4 at' hm4 (by omega) (by omega))
    refine g_C ?_
    refine g_A (by omega) (by omega) ?_
    refine g_C ?_
    refine g_C ?_
    refine ⟨hS.k336, ?_⟩
    refine zd_cell hS hm4 (by omega) (by omega) (by omega) (by omega) (by omega) (by omega) (fun v lv uv => okb_of (l := 0) (u := 5) (by rw [show (57 + 3 * n + 2).toNat = 57 + 3 * n.toNat + 2 by omega]; exact rq.2.2) (by omega) (by omega)) (fun m8 hm8 n8 => g_ifF (by decide) (g_C ⟨by decide, hf m8 hm8 n8⟩)) (fun m5 hm5 f5 lo5 hi5 y5 => ?_)
    refine g_ifT (by decide) ?_
    refine g_getr 7 342 rfl hS.k336 hm5.f_336_7 (by decide) ?_
    refine g_C ?_
    refine g_ldu hS.k342 hS.l342 (by omega) (by omega) (fun q1 eq1 => ?_)
    rw [f5 342 _ (by omega), f4 342 _ (by omega), f3 342 _ (by omega), f2 342 _ (by omega), f1 342 _ (by omega)] at eq1
    refine g_C ?_
    refine g_A (by omega) (by omega) ?_
    refine g_st hS.k342 hS.l342 (by omega) (by omega) (hm5.w342 (by omega) (okb_of (l := 0) (u := 8) (by decide +kernel) (by omega) (by omega))) (fun m6 e6 hm6 => ?_)
    have f6 : ∀ c p : Int, ¬ (c = 342 ∧ p = 3) → m6 c p = m5 c p := fun c p q => (congrFun (congrFun e6 _) _).trans (up_ne q)
    have F : ∀ c p : Int, ¬ (c = 336 ∧ 8 ≤ p ∧ p ≤ 10) ∧ ¬ (c = 342 ∧ (p = 3 ∨ 57 ≤ p)) → m6 c p = m0 c p := fun c p q => by rw [f6 c p (by omega), f5 c p (by omega), f4 c p (by omega), f3 c p (by omega), f2 c p (by omega), f1 c p (by omega)]
    refine g_C ⟨by decide, hk m6 hm6 (hp.oth (by omega) (by omega) (fun p q => F 342 p (by omega))) (fun p q => F 336 p (by omega)) (by rw [f6 336 8 (by omega)]; omega)⟩
  · refine g_C ?_
    refine ⟨hS.k336, ?_⟩
    refine z_X12_fails hS hm0 (by decide) (by decide) (by omega) (by omega) (fun r9 m9 hm9 f9 b9 c9 y9 => ?_)
    obtain rfl : r9 = 0 := by omega
    exact ⟨by decide, hf m9 hm9 y9⟩
theorem zd_dairyLineHere {X : Mm} {S : Sh} {m0 : Mm} {K : Int → Mm → Prop} {u1 : Int} (hS : Shp S) (hm0 : Inv X S m0) (h1 : 0 ≤ u1) (h1' : u1 ≤ 400) (hp : PR m0) (hf : ∀ M1 : Mm, Inv X S M1 → ¬ M1 336 9 = 0 → K 0 M1) (hk : ∀ M1 : Mm, Inv X S M1 → PR M1 → (∀ p : Int, (p = 11 ∨ p = 14) → M1 336 p = m0 336 p) → m0 336 8 ≤ M1 336 8 → K 1 M1) : wp_X12_dairyLineHere S m0 336 u1 K := by
  refine u_X12_dairyLineHere ?_
  refine g_C ?_
  refine ⟨hS.k336, ?_⟩
  refine z_X12_isWord hS hm0 (by decide) (by decide) (fun r1 m1 hm1 f1 b1 c1 y1 _ _ => ?_)
  have p1 : PR m1 := hp.same (fun p => f1 342 p (by omega))
  have t1 : ∀ p : Int, (p = 11 ∨ p = 14) → m1 336 p = m0 336 p := fun p q => f1 336 p (by omega)
  refine g_if (fun w => ?_) (fun w => ?_)
  · refine g_getr 7 342 rfl hS.k336 hm1.f_336_7 (by decide) ?_
    refine g_C ?_
    refine g_ldu hS.k342 hS.l342 (by omega) (by omega) (fun v ev => ?_)
    refine g_if (fun w2 => ?_) (fun w2 => ?_)
    · refine g_C ?_
      refine ⟨hS.k336, ?_⟩
      refine z_X12_isWord hS hm1 (by decide) (by decide) (fun r2 m2 hm2 f2 b2 c2 y2 _ _ => ?_)
      have p2 : PR m2 := p1.same (fun p => f2 342 p (by omega))
      have t2 : ∀ p : Int, (p = 11 ∨ p = 14) → m2 336 p = m0 336 p := fun p q => (f2 336 p (by omega)).trans (t1 p q)
      refine g_if (fun w => ?_) (fun w => ?_)
      · refine g_C ?_
        refine ⟨hS.k336, ?_⟩
        refine z_X12_isWord hS hm2 (by decide) (by decide) (fun r3 m3 hm3 f3 b3 c3 y3 _ _ => ?_)
        have p3 : PR m3 := p2.same (fun p => f3 342 p (by omega))
        have t3 : ∀ p : Int, (p = 11 ∨ p = 14) → m3 336 p = m0 336 p := fun p q => (f3 336 p (by omega)).trans (t2 p q)
        refine g_if (fun w => ?_) (fun w => ?_)
        · refine g_C ?_
          refine ⟨hS.k336, ?_⟩
          refine z_X12_isWord hS hm3 (by decide) (by decide) (fun r4 m4 hm4 f4 b4 c4 y4 _ _ => ?_)
          have p4 : PR m4 := p3.same (fun p => f4 342 p (by omega))
          have t4 : ∀ p : Int, (p = 11 ∨ p = 14) → m4 336 p = m0 336 p := fun p q => (f4 336 p (by omega)).trans (t3 p q)
          refine g_if (fun w => ?_) (fun w => ?_)
          · refine g_C ?_
            refine ⟨hS.k336, ?_⟩
            refine z_X12_isWord hS hm4 (by decide) (by decide) (fun r5 m5 hm5 f5 b5 c5 y5 _ _ => ?_)
            have p5 : PR m5 := p4.same (fun p => f5 342 p (by omega))
            have t5 : ∀ p : Int, (p = 11 ∨ p = 14) → m5 336 p = m0 336 p := fun p q => (f5 336 p (by omega)).trans (t4 p q)
            refine g_if (fun w => ?_) (fun w => ?_)
            · exact ⟨hS.k336, zd_isWantHere hS hm5 h1 h1' p5 (fun m9 hm9 n9 => ⟨by decide, hf m9 hm9 n9⟩) (fun m9 hm9 p9 t9 y9 => ⟨by decide, hk m9 hm9 p9 (fun p q => (t9 p q).trans (t5 p q)) (by omega)⟩)⟩
            · exact ⟨hS.k336, zd_isHeatHere hS hm5 h1 h1' p5 (fun m9 hm9 n9 => ⟨by decide, hf m9 hm9 n9⟩) (fun m9 hm9 p9 t9 y9 => ⟨by decide, hk m9 hm9 p9 (fun p q => (t9 p q).trans (t5 p q)) (by omega)⟩)⟩
          · exact ⟨hS.k336, zd_isJugHere hS hm4 h1 h1' p4 (fun m9 hm9 n9 => ⟨by decide, hf m9 hm9 n9⟩) (fun m9 hm9 p9 t9 y9 => ⟨by decide, hk m9 hm9 p9 (fun p q => (t9 p q).trans (t4 p q)) (by omega)⟩)⟩
        · exact ⟨hS.k336, zd_isHandHere hS hm3 h1 h1' p3 (fun m9 hm9 n9 => ⟨by decide, hf m9 hm9 n9⟩) (fun m9 hm9 p9 t9 y9 => ⟨by decide, hk m9 hm9 p9 (fun p q => (t9 p q).trans (t3 p q)) (by omega)⟩)⟩
      · exact ⟨hS.k336, zd_isRoadHere hS hm2 h1 h1' p2 (fun m9 hm9 n9 => ⟨by decide, hf m9 hm9 n9⟩) (fun m9 hm9 p9 t9 y9 => ⟨by decide, hk m9 hm9 p9 (fun p q => (t9 p q).trans (t2 p q)) (by omega)⟩)⟩
    · refine g_C ?_
      refine ⟨hS.k336, ?_⟩
      refine z_X12_fails hS hm1 (by decide) (by decide) (by omega) (by omega) (fun r9 m9 hm9 f9 b9 c9 y9 => ?_)
      obtain rfl : r9 = 0 := by omega
      exact ⟨by decide, hf m9 hm9 y9⟩
  · exact ⟨hS.k336, zd_isDairyHere hS hm1 h1 h1' p1 (fun m9 hm9 n9 => ⟨by decide, hf m9 hm9 n9⟩) (fun m9 hm9 p9 t9 y9 => ⟨by decide, hk m9 hm9 p9 (fun p q => (t9 p q).trans (t1 p q)) (by omega)⟩)⟩
theorem zq_clauseD {X : Mm} {S : Sh} {m0 : Mm} {K : Int → Mm → Prop} (hS : Shp S) (hm0 : Inv X S m0) (hp : PR m0) (ht : m0 336 11 = 6) (hl : m0 336 14 ≤ 40) (hf : ∀ M1 : Mm, Inv X S M1 → ¬ M1 336 9 = 0 → K 0 M1) (hk : ∀ M1 : Mm, Inv X S M1 → PR M1 → M1 336 11 = 6 → M1 336 14 ≤ 40 → m0 336 8 ≤ M1 336 8 → K 1 M1) : wp_X12_clauseHere S m0 336 K := by
  refine u_X12_clauseHere ?_
  refine ⟨hS.k336, ?_⟩
  refine z_X12_see hS hm0 (fun r1 m1 hm1 f1 b1 c1 y1 _ _ => ?_)
  have p1 : PR m1 := hp.same (fun p => f1 342 p (by omega))
  have t1 : m1 336 11 = 6 := (f1 336 11 (by omega)).trans ht
  have b8 := hm1.f_336_8
  refine g_getu 8 rfl hS.k336 (fun v ev => ?_)
  refine g_getu 11 rfl hS.k336 (fun t et => ?_)
  refine g_C ?_
  refine g_ifF (by omega) ?_
  refine g_C ?_
  refine u_X12_clauseHere_24 ?_
  refine g_ifF (by decide) ?_
  refine ⟨hS.k336, ?_⟩
  refine z_X12_isDairyWord hS hm1 (fun r2 m2 hm2 f2 b2 c2 y2 => ?_)
  have p2 : PR m2 := p1.same (fun p => f2 342 p (by omega))
  have t2 : m2 336 11 = 6 := (f2 336 11 (by omega)).trans t1
  have b14 := hm2.f_336_14
  refine g_if (fun w => ?_) (fun w => ?_)
  · refine u_X12_clauseHere_56 ?_
    refine g_getu 14 rfl hS.k336 (fun l el => ?_)
    refine g_ifF (by decide) ?_
    refine g_C ?_
    refine u_X12_clauseHere_71 ?_
    refine g_if (fun w2 => ?_) (fun w2 => ?_)
    · refine g_getu 14 rfl hS.k336 (fun l2 el2 => ?_)
      refine g_C ?_
      have l14 : m2 336 14 ≤ 40 := by rw [f2 336 14 (by omega), f1 336 14 (by omega)]; exact hl
      refine g_A (by omega) (by omega) ?_
      refine g_put 14 rfl hS.k336 (hm2.w_336_14 (by omega) (by omega)) (fun m3 e3 hm3 => ?_)
      have f3 : ∀ c p : Int, ¬ (c = 336 ∧ p = 14) → m3 c p = m2 c p := fun c p q => (congrFun (congrFun e3 _) _).trans (up_ne q)
      have x3 : m3 336 14 = l2 + 1 := (congrFun (congrFun e3 _) _).trans (up_at _ _ _ _)
      have e8 : m3 336 8 = m2 336 8 := f3 336 8 (by omega)
      refine g_ifF (by decide) ?_
      refine ⟨hS.k336, ?_⟩
      exact zd_dairyLineHere hS hm3 (by omega) (by omega) (p2.same (fun p => f3 342 p (by omega))) (fun m9 hm9 n9 => ⟨by decide, hf m9 hm9 n9⟩) (fun m9 hm9 p9 t9 y9 => ⟨by decide, hk m9 hm9 p9 (by rw [t9 11 (by decide), f3 336 11 (by omega)]; exact t2) (by rw [t9 14 (by decide)]; omega) (by omega)⟩)
    · refine g_C ?_
      refine ⟨hS.k336, ?_⟩
      refine z_X12_fails hS hm2 (by decide) (by decide) (by omega) (by omega) (fun r3 m3 hm3 f3 b3 c3 y6 => ?_)
      obtain rfl : r3 = 0 := by omega
      exact ⟨by decide, hf m3 hm3 y6⟩
  · refine u_X12_clauseHere_49 ?_
    refine g_C ?_
    refine ⟨hS.k336, ?_⟩
    refine z_X12_fails hS hm2 (by decide) (by decide) (by omega) (by omega) (fun r3 m3 hm3 f3 b3 c3 y6 => ?_)
    obtain rfl : r3 = 0 := by omega
    exact ⟨by decide, hf m3 hm3 y6⟩
