theorem zc_isWantHere {X : Mm} {S : Sh} {m0 : Mm} {K : Int → Mm → Prop} {b : Int → Int} {n k u1 : Int} {T : Int → Dd → Prop} {D : Dd} (hS : Shp S) (hm0 : Inv X S m0) (ht : TR X b n) (rd : Rd D m0) (h9 : m0 336 9 = 0) (hq : m0 336 8 = u1) (h1 : 0 ≤ u1) (h1' : u1 ≤ n) (wk : Wk b n 5 u1) (hp : PR m0) (d0 : 2 ≤ D 0) (hF : dFull D 5 → T (5 + 8 * u1) dz) (hL : ¬ dFull D 5 → Ld b n T 1 5 0 (u1 + tl 5) k D) (hf : ∀ M1 : Mm, Inv X S M1 → ¬ M1 336 9 = 0 → T (M1 336 9) dz → K 0 M1) (hk : ∀ (M1 : Mm) (D' : Dd), Inv X S M1 → PR M1 → Rd D' M1 → 2 ≤ D' 0 → (∀ p : Int, (p = 11 ∨ p = 14) → M1 336 p = m0 336 p) → u1 ≤ M1 336 8 → M1 336 8 ≤ n → M1 336 9 = 0 → Ld b n T 2 0 0 (M1 336 8) k D' → K 1 M1) : wp_X12_isWantHere S m0 336 u1 K := by
  have nb := ht.2.1
  have c0 := hm0.f_342_0
  have c4 := hm0.f_342_4
  have c5 := hm0.f_342_5
  have cc := hm0.f_342_6
  have r0 := rd 0 (by decide) (by decide)
  have rc := rd 6 (by decide) (by decide)
  refine u_X12_isWantHere ?_
  refine g_getr 7 342 rfl hS.k336 hm0.f_336_7 (by decide) ?_
  refine g_C ?_
  refine g_ldu hS.k342 hS.l342 (by omega) (by omega) (fun v0 ev0 => ?_)
  refine g_C ?_
  refine g_if (fun w => ?_) (fun w => ?_)
  · have l0 := hL (fun z => w (by have z2 : D 6 = 6 := z; omega))
    refine ⟨hS.k336, ?_⟩
    refine zx_passWord 5 hS hm0 ht hq h1 (by decide) wk (fun m1 hm1 f1 x1 le1 => ?_)
    have tk := tl_r 5 (by decide)
    have r1 : Rd D m1 := rd.same (fun p => f1 342 p (by omega))
    have y1 : m1 336 9 = 0 := (f1 336 9 (by omega)).trans h9
    rw [← x1] at l0
    refine g_C ?_
    refine g_C ?_
    refine g_getr 7 342 rfl hS.k336 hm1.f_336_7 (by decide) ?_
    refine g_C ?_
    refine g_ldu hS.k342 hS.l342 (by omega) (by omega) (fun n0 en => ?_)
    rw [f1 342 _ (by omega)] at en
    have dn : D 6 = n0 := by omega
    refine g_M (by omega) (by omega) ?_
    refine g_A (by omega) (by omega) ?_
    refine g_C ?_
    refine g_getr 7 342 rfl hS.k336 hm1.f_336_7 (by decide) ?_
    refine g_C ?_
    refine g_ldu hS.k342 hS.l342 (by omega) (by omega) (fun pp epp => ?_)
    rw [f1 342 _ (by omega)] at epp
    refine g_C ?_
    refine g_S (by omega) (by omega) ?_
    refine ⟨hS.k336, ?_⟩
    refine zc_cell 5 0 hS hm1 ht r1 y1 (by omega) l0 (lo := 0) (hi := pp - 1) (by show 93 + 4 * D 6 + ((0 : Nat) : Int) = _; omega) (by omega) (by omega) rfl (by show D 0 - 1 = _; omega) (fun v lv uv => okb_of (l := 0) (u := 5) (by rw [show (93 + 4 * n0).toNat = 93 + 4 * n0.toNat by omega]; exact rq_93 _ (by omega)) (by omega) (by omega)) (fun m8 hm8 n8 t8 => g_ifT rfl (g_C ⟨by decide, hf m8 hm8 n8 t8⟩)) (fun q2 v2 m2 hm2 f2 lo_2 hi_2 q0_2 qn_2 sk2 xv2 r2 y2 n2' p2 ln2 le2 _ => ?_)
    refine g_ifF (by decide) ?_
    obtain ⟨D2, eD2⟩ : ∃ z : Dd, z = ud D (93 + 4 * n0) v2 := ⟨_, rfl⟩
    have gD2 : ∀ p : Int, ¬ p = 93 + 4 * n0 → D2 p = D p := fun p z => by rw [eD2]; exact ud_ne z
    have xD2 : D2 (93 + 4 * n0) = v2 := by rw [eD2]; exact ud_at _ _ _
    rw [← eD2] at r2 ln2 le2
    have dn2 : D2 6 = n0 := (gD2 6 (by omega)).trans dn
    have d02 : D2 0 = D 0 := (gD2 0 (by omega))
    have l2 := ln2 (fun z => absurd z.1 (by decide)) (by decide)
    refine g_C ?_
    refine g_A (by omega) (by omega) ?_
    refine g_C ?_
    refine g_C ?_
    refine ⟨hS.k336, ?_⟩
    refine zc_cell 5 1 hS hm2 ht r2 y2 (by omega) l2 (lo := 0) (hi := 99) (by show 93 + 4 * D2 6 + ((1 : Nat) : Int) = _; omega) (by omega) (by omega) rfl rfl (fun v lv uv => okb_of (l := 0) (u := 99) (by rw [show (93 + 4 * n0 + 1).toNat = 94 + 4 * n0.toNat by omega]; exact rq_94 _ (by omega)) (by omega) (by omega)) (fun m8 hm8 n8 t8 => g_ifT rfl (g_C ⟨by decide, hf m8 hm8 n8 t8⟩)) (fun q3 v3 m3 hm3 f3 lo_3 hi_3 q0_3 qn_3 sk3 xv3 r3 y3 n3' p3 ln3 le3 _ => ?_)
    refine g_ifF (by decide) ?_
    obtain ⟨D3, eD3⟩ : ∃ z : Dd, z = ud D2 (93 + 4 * n0 + 1) v3 := ⟨_, rfl⟩
    have gD3 : ∀ p : Int, ¬ p = 93 + 4 * n0 + 1 → D3 p = D2 p := fun p z => by rw [eD3]; exact ud_ne z
    have xD3 : D3 (93 + 4 * n0 + 1) = v3 := by rw [eD3]; exact ud_at _ _ _
    rw [← eD3] at r3 ln3 le3
    have dn3 : D3 6 = n0 := (gD3 6 (by omega)).trans dn2
    have d03 : D3 0 = D 0 := (gD3 0 (by omega)).trans d02
    have l3 := ln3 (fun z => absurd z.1 (by decide)) (by decide)
    refine g_C ?_
    refine g_A (by omega) (by omega) ?_
    refine g_getr 7 342 rfl hS.k336 hm3.f_336_7 (by decide) ?_
    refine g_C ?_
    refine g_A (by omega) (by omega) ?_
    refine g_ldu hS.k342 hS.l342 (by omega) (by omega) (fun lo2 elo2 => ?_)
    have elo2' : D3 (93 + 4 * n0 + 1) = lo2 := ((r3 _ (by omega) (by omega)).symm.trans elo2.symm)
    refine g_C ?_
    refine ⟨hS.k336, ?_⟩
    refine zc_cell 5 2 hS hm3 ht r3 y3 (by omega) l3 (lo := lo2) (hi := 99) (by show 93 + 4 * D3 6 + ((2 : Nat) : Int) = _; omega) (by omega) (by omega) (by show D3 (93 + 4 * D3 6 + 1) = _; rw [dn3]; exact elo2') rfl (fun v lv uv => okb_of (l := 0) (u := 99) (by rw [show (93 + 4 * n0 + 2).toNat = 95 + 4 * n0.toNat by omega]; exact rq_95 _ (by omega)) (by omega) (by omega)) (fun m8 hm8 n8 t8 => g_ifT rfl (g_C ⟨by decide, hf m8 hm8 n8 t8⟩)) (fun q4 v4 m4 hm4 f4 lo_4 hi_4 q0_4 qn_4 sk4 xv4 r4 y4 n4' p4 ln4 le4 _ => ?_)
    refine g_ifF (by decide) ?_
    obtain ⟨D4, eD4⟩ : ∃ z : Dd, z = ud D3 (93 + 4 * n0 + 2) v4 := ⟨_, rfl⟩
    have gD4 : ∀ p : Int, ¬ p = 93 + 4 * n0 + 2 → D4 p = D3 p := fun p z => by rw [eD4]; exact ud_ne z
    have xD4 : D4 (93 + 4 * n0 + 2) = v4 := by rw [eD4]; exact ud_at _ _ _
    rw [← eD4] at r4 ln4 le4
    have dn4 : D4 6 = n0 := (gD4 6 (by omega)).trans dn3
    have d04 : D4 0 = D 0 := (gD4 0 (by omega)).trans d03
    have l4 := ln4 (fun z => absurd z.1 (by decide)) (by decide)
    refine g_C ?_
    refine g_A (by omega) (by omega) ?_
    refine g_C ?_
    refine g_C ?_
    refine ⟨hS.k336, ?_⟩
    refine zc_cell 5 3 hS hm4 ht r4 y4 (by omega) l4 (lo := 1) (hi := 50) (by show 93 + 4 * D4 6 + ((3 : Nat) : Int) = _; omega) (by omega) (by omega) rfl rfl (fun v lv uv => okb_of (l := 0) (u := 50) (by rw [show (93 + 4 * n0 + 3).toNat = 96 + 4 * n0.toNat by omega]; exact rq_96 _ (by omega)) (by omega) (by omega)) (fun m8 hm8 n8 t8 => g_ifF (by decide) (g_C ⟨by decide, hf m8 hm8 n8 t8⟩)) (fun q5 v5 m5 hm5 f5 lo_5 hi_5 q0_5 qn_5 sk5 xv5 r5 y5 n5' p5 ln5 le5 _ => ?_)
    refine g_ifT (by decide) ?_
    obtain ⟨D5, eD5⟩ : ∃ z : Dd, z = ud D4 (93 + 4 * n0 + 3) v5 := ⟨_, rfl⟩
    have gD5 : ∀ p : Int, ¬ p = 93 + 4 * n0 + 3 → D5 p = D4 p := fun p z => by rw [eD5]; exact ud_ne z
    have xD5 : D5 (93 + 4 * n0 + 3) = v5 := by rw [eD5]; exact ud_at _ _ _
    rw [← eD5] at r5 ln5 le5
    have dn5 : D5 6 = n0 := (gD5 6 (by omega)).trans dn4
    have d05 : D5 0 = D 0 := (gD5 0 (by omega)).trans d04
    have l5 := le5 (fun z => absurd z.1 (by decide)) rfl
    refine g_getr 7 342 rfl hS.k336 hm5.f_336_7 (by decide) ?_
    refine g_C ?_
    refine g_getr 7 342 rfl hS.k336 hm5.f_336_7 (by decide) ?_
    refine g_C ?_
    refine g_ldu hS.k342 hS.l342 (by omega) (by omega) (fun q0 eq0 => ?_)
    rw [f5 342 _ (by omega), f4 342 _ (by omega), f3 342 _ (by omega), f2 342 _ (by omega), f1 342 _ (by omega)] at eq0
    have eqn : q0 = n0 := by omega
    subst eqn
    refine g_A (by omega) (by omega) ?_
    refine g_C ?_
    refine g_st hS.k342 hS.l342 (by omega) (by omega) (hm5.w342 (by omega) (okb_of (l := -2147483648) (u := 2147483647) (by rw [show (51 + q0).toNat = 51 + 1 * q0.toNat by omega]; exact rq_51 _ (by omega)) (by omega) (by omega))) (fun m6 e6 hm6 => ?_)
    have f6 : ∀ c p : Int, ¬ (c = 342 ∧ p = 51 + q0) → m6 c p = m5 c p := fun c p q => (congrFun (congrFun e6 _) _).trans (up_ne q)
    have x6 : m6 342 (51 + q0) = (-1) := (congrFun (congrFun e6 _) _).trans (up_at _ _ _ _)
    have r6 : Rd (ud D5 (51 + q0) (-1)) m6 := r5.up (fun p z => f6 342 p (fun y => z y.2)) x6
    refine g_getr 7 342 rfl hS.k336 hm6.f_336_7 (by decide) ?_
    refine g_C ?_
    refine g_ldu hS.k342 hS.l342 (by omega) (by omega) (fun q1 eq1 => ?_)
    rw [f6 342 _ (by omega), f5 342 _ (by omega), f4 342 _ (by omega), f3 342 _ (by omega), f2 342 _ (by omega), f1 342 _ (by omega)] at eq1
    have eqn1 : q1 = q0 := by omega
    refine g_C ?_
    refine g_A (by omega) (by omega) ?_
    refine g_st hS.k342 hS.l342 (by omega) (by omega) (hm6.w342 (by omega) (okb_of (l := 0) (u := 6) (by decide +kernel) (by omega) (by omega))) (fun m7 e7 hm7 => ?_)
    have f7 : ∀ c p : Int, ¬ (c = 342 ∧ p = 6) → m7 c p = m6 c p := fun c p q => (congrFun (congrFun e7 _) _).trans (up_ne q)
    have x7 : m7 342 (6) = q1 + 1 := (congrFun (congrFun e7 _) _).trans (up_at _ _ _ _)
    have r7 : Rd (ud (ud D5 (51 + q0) (-1)) (6) (q0 + 1)) m7 := r6.up (fun p z => f7 342 p (fun y => z y.2)) (by rw [x7]; omega)
    have F : ∀ c p : Int, ¬ (c = 336 ∧ 8 ≤ p ∧ p ≤ 10) ∧ ¬ (c = 342 ∧ p = 93 + 4 * q0) ∧ ¬ (c = 342 ∧ p = 93 + 4 * q0 + 1) ∧ ¬ (c = 342 ∧ p = 93 + 4 * q0 + 2) ∧ ¬ (c = 342 ∧ p = 93 + 4 * q0 + 3) ∧ ¬ (c = 342 ∧ p = 51 + q0) ∧ ¬ (c = 342 ∧ p = 6) → m7 c p = m0 c p := fun c p q => by rw [f7 c p (by omega), f6 c p (by omega), f5 c p (by omega), f4 c p (by omega), f3 c p (by omega), f2 c p (by omega), f1 c p (by omega)]
    have eF : dFin D5 5 = (ud (ud D5 (51 + q0) (-1)) (6) (q0 + 1)) := by
      show ud (ud D5 (51 + D5 6) (-1)) 6 (D5 6 + 1) = _
      rw [dn5]
    rw [eF] at l5
    have e8 : m7 336 8 = m5 336 8 := by rw [f7 336 8 (by omega), f6 336 8 (by omega)]
    rw [← e8] at l5
    have z0 : (ud (ud D5 (51 + q0) (-1)) (6) (q0 + 1)) 0 = D 0 := ((ud_ne (by omega)).trans ((ud_ne (by omega)).trans (d05)))
    refine g_C ⟨by decide, hk m7 (ud (ud D5 (51 + q0) (-1)) (6) (q0 + 1)) hm7 ?_ r7 (by omega) (fun p q => F 336 p (by omega)) (by omega) (by omega) (by rw [f7 336 9 (by omega), f6 336 9 (by omega)]; exact y5) l5⟩
    exact hp.oth (by omega) (by omega) (fun p q => F 342 p (by omega))
  · refine g_C ?_
    refine ⟨hS.k336, ?_⟩
    refine zx_fails hS hm0 h9 (by decide) (by decide) (by omega) (by omega) (fun m9 hm9 f9 y9 => ?_)
    refine ⟨by decide, hf m9 hm9 (by omega) ?_⟩
    rw [y9, show 1 + 8 * u1 + 4 = 5 + 8 * u1 by omega]
    exact hF (by show D 6 = 6; omega)
