theorem zc_isHeatHere {X : Mm} {S : Sh} {m0 : Mm} {K : Int → Mm → Prop} {b : Int → Int} {n k u1 : Int} {T : Int → Dd → Prop} {D : Dd} (hS : Shp S) (hm0 : Inv X S m0) (ht : TR X b n) (rd : Rd D m0) (h9 : m0 336 9 = 0) (hq : m0 336 8 = u1) (h1 : 0 ≤ u1) (h1' : u1 ≤ n) (wk : Wk b n 4 u1) (hp : PR m0) (d0 : 2 ≤ D 0) (hF : dFull D 4 → T (5 + 8 * u1) dz) (hL : ¬ dFull D 4 → Ld b n T 1 4 0 (u1 + tl 4) k D) (hf : ∀ M1 : Mm, Inv X S M1 → ¬ M1 336 9 = 0 → T (M1 336 9) dz → K 0 M1) (hk : ∀ (M1 : Mm) (D' : Dd), Inv X S M1 → PR M1 → Rd D' M1 → 2 ≤ D' 0 → (∀ p : Int, (p = 11 ∨ p = 14) → M1 336 p = m0 336 p) → u1 ≤ M1 336 8 → M1 336 8 ≤ n → M1 336 9 = 0 → Ld b n T 2 0 0 (M1 336 8) k D' → K 1 M1) : wp_X12_isHeatHere S m0 336 u1 K := by
  have nb := ht.2.1
  have c0 := hm0.f_342_0
  have c4 := hm0.f_342_4
  have c5 := hm0.f_342_5
  have cc := hm0.f_342_9
  have r0 := rd 0 (by decide) (by decide)
  have rc := rd 9 (by decide) (by decide)
  refine u_X12_isHeatHere ?_
  refine g_getr 7 342 rfl hS.k336 hm0.f_336_7 (by decide) ?_
  refine g_C ?_
  refine g_ldu hS.k342 hS.l342 (by omega) (by omega) (fun v0 ev0 => ?_)
  refine g_C ?_
  refine g_if (fun w => ?_) (fun w => ?_)
  · have l0 := hL (fun z => w (by have z2 : D 9 = 4 := z; omega))
    refine ⟨hS.k336, ?_⟩
    refine zx_passWord 4 hS hm0 ht hq h1 (by decide) wk (fun m1 hm1 f1 x1 le1 => ?_)
    have tk := tl_r 4 (by decide)
    have r1 : Rd D m1 := rd.same (fun p => f1 342 p (by omega))
    have y1 : m1 336 9 = 0 := (f1 336 9 (by omega)).trans h9
    rw [← x1] at l0
    refine g_C ?_
    refine g_C ?_
    refine g_getr 7 342 rfl hS.k336 hm1.f_336_7 (by decide) ?_
    refine g_C ?_
    refine g_ldu hS.k342 hS.l342 (by omega) (by omega) (fun n0 en => ?_)
    rw [f1 342 _ (by omega)] at en
    have dn : D 9 = n0 := by omega
    refine g_M (by omega) (by omega) ?_
    refine g_A (by omega) (by omega) ?_
    refine g_C ?_
    refine g_C ?_
    refine ⟨hS.k336, ?_⟩
    refine zc_cell 4 0 hS hm1 ht r1 y1 (by omega) l0 (lo := 0) (hi := 99) (by show 81 + 3 * D 9 + ((0 : Nat) : Int) = _; omega) (by omega) (by omega) rfl rfl (fun v lv uv => okb_of (l := 0) (u := 99) (by rw [show (81 + 3 * n0).toNat = 81 + 3 * n0.toNat by omega]; exact rq_81 _ (by omega)) (by omega) (by omega)) (fun m8 hm8 n8 t8 => g_ifT rfl (g_C ⟨by decide, hf m8 hm8 n8 t8⟩)) (fun q2 v2 m2 hm2 f2 lo_2 hi_2 q0_2 qn_2 sk2 xv2 r2 y2 n2' p2 ln2 le2 _ => ?_)
    refine g_ifF (by decide) ?_
    obtain ⟨D2, eD2⟩ : ∃ z : Dd, z = ud D (81 + 3 * n0) v2 := ⟨_, rfl⟩
    have gD2 : ∀ p : Int, ¬ p = 81 + 3 * n0 → D2 p = D p := fun p z => by rw [eD2]; exact ud_ne z
    have xD2 : D2 (81 + 3 * n0) = v2 := by rw [eD2]; exact ud_at _ _ _
    rw [← eD2] at r2 ln2 le2
    have dn2 : D2 9 = n0 := (gD2 9 (by omega)).trans dn
    have d02 : D2 0 = D 0 := (gD2 0 (by omega))
    have l2 := ln2 (fun z => absurd z.1 (by decide)) (by decide)
    refine g_C ?_
    refine g_A (by omega) (by omega) ?_
    refine g_getr 7 342 rfl hS.k336 hm2.f_336_7 (by decide) ?_
    refine g_ldu hS.k342 hS.l342 (by omega) (by omega) (fun lo1 elo1 => ?_)
    have elo1' : D2 (81 + 3 * n0) = lo1 := ((r2 _ (by omega) (by omega)).symm.trans elo1.symm)
    refine g_C ?_
    refine ⟨hS.k336, ?_⟩
    refine zc_cell 4 1 hS hm2 ht r2 y2 (by omega) l2 (lo := lo1) (hi := 99) (by show 81 + 3 * D2 9 + ((1 : Nat) : Int) = _; omega) (by omega) (by omega) (by show D2 (81 + 3 * D2 9) = _; rw [dn2]; exact elo1') rfl (fun v lv uv => okb_of (l := 0) (u := 99) (by rw [show (81 + 3 * n0 + 1).toNat = 82 + 3 * n0.toNat by omega]; exact rq_82 _ (by omega)) (by omega) (by omega)) (fun m8 hm8 n8 t8 => g_ifT rfl (g_C ⟨by decide, hf m8 hm8 n8 t8⟩)) (fun q3 v3 m3 hm3 f3 lo_3 hi_3 q0_3 qn_3 sk3 xv3 r3 y3 n3' p3 ln3 le3 _ => ?_)
    refine g_ifF (by decide) ?_
    obtain ⟨D3, eD3⟩ : ∃ z : Dd, z = ud D2 (81 + 3 * n0 + 1) v3 := ⟨_, rfl⟩
    have gD3 : ∀ p : Int, ¬ p = 81 + 3 * n0 + 1 → D3 p = D2 p := fun p z => by rw [eD3]; exact ud_ne z
    have xD3 : D3 (81 + 3 * n0 + 1) = v3 := by rw [eD3]; exact ud_at _ _ _
    rw [← eD3] at r3 ln3 le3
    have dn3 : D3 9 = n0 := (gD3 9 (by omega)).trans dn2
    have d03 : D3 0 = D 0 := (gD3 0 (by omega)).trans d02
    have l3 := ln3 (fun z => absurd z.1 (by decide)) (by decide)
    refine g_C ?_
    refine g_A (by omega) (by omega) ?_
    refine g_C ?_
    refine g_C ?_
    refine ⟨hS.k336, ?_⟩
    refine zc_cell 4 2 hS hm3 ht r3 y3 (by omega) l3 (lo := 1) (hi := 5) (by show 81 + 3 * D3 9 + ((2 : Nat) : Int) = _; omega) (by omega) (by omega) rfl rfl (fun v lv uv => okb_of (l := 0) (u := 5) (by rw [show (81 + 3 * n0 + 2).toNat = 83 + 3 * n0.toNat by omega]; exact rq_83 _ (by omega)) (by omega) (by omega)) (fun m8 hm8 n8 t8 => g_ifF (by decide) (g_C ⟨by decide, hf m8 hm8 n8 t8⟩)) (fun q4 v4 m4 hm4 f4 lo_4 hi_4 q0_4 qn_4 sk4 xv4 r4 y4 n4' p4 ln4 le4 _ => ?_)
    refine g_ifT (by decide) ?_
    obtain ⟨D4, eD4⟩ : ∃ z : Dd, z = ud D3 (81 + 3 * n0 + 2) v4 := ⟨_, rfl⟩
    have gD4 : ∀ p : Int, ¬ p = 81 + 3 * n0 + 2 → D4 p = D3 p := fun p z => by rw [eD4]; exact ud_ne z
    have xD4 : D4 (81 + 3 * n0 + 2) = v4 := by rw [eD4]; exact ud_at _ _ _
    rw [← eD4] at r4 ln4 le4
    have dn4 : D4 9 = n0 := (gD4 9 (by omega)).trans dn3
    have d04 : D4 0 = D 0 := (gD4 0 (by omega)).trans d03
    have l4 := le4 (fun z => absurd z.1 (by decide)) rfl
    refine g_getr 7 342 rfl hS.k336 hm4.f_336_7 (by decide) ?_
    refine g_C ?_
    refine g_ldu hS.k342 hS.l342 (by omega) (by omega) (fun q1 eq1 => ?_)
    rw [f4 342 _ (by omega), f3 342 _ (by omega), f2 342 _ (by omega), f1 342 _ (by omega)] at eq1
    have eqn1 : q1 = n0 := by omega
    refine g_C ?_
    refine g_A (by omega) (by omega) ?_
    refine g_st hS.k342 hS.l342 (by omega) (by omega) (hm4.w342 (by omega) (okb_of (l := 0) (u := 4) (by decide +kernel) (by omega) (by omega))) (fun m5 e5 hm5 => ?_)
    have f5 : ∀ c p : Int, ¬ (c = 342 ∧ p = 9) → m5 c p = m4 c p := fun c p q => (congrFun (congrFun e5 _) _).trans (up_ne q)
    have x5 : m5 342 (9) = q1 + 1 := (congrFun (congrFun e5 _) _).trans (up_at _ _ _ _)
    have r5 : Rd (ud D4 (9) (n0 + 1)) m5 := r4.up (fun p z => f5 342 p (fun y => z y.2)) (by rw [x5]; omega)
    have F : ∀ c p : Int, ¬ (c = 336 ∧ 8 ≤ p ∧ p ≤ 10) ∧ ¬ (c = 342 ∧ p = 81 + 3 * n0) ∧ ¬ (c = 342 ∧ p = 81 + 3 * n0 + 1) ∧ ¬ (c = 342 ∧ p = 81 + 3 * n0 + 2) ∧ ¬ (c = 342 ∧ p = 9) → m5 c p = m0 c p := fun c p q => by rw [f5 c p (by omega), f4 c p (by omega), f3 c p (by omega), f2 c p (by omega), f1 c p (by omega)]
    have eF : dFin D4 4 = (ud D4 (9) (n0 + 1)) := by
      show ud D4 9 (D4 9 + 1) = _
      rw [dn4]
    rw [eF] at l4
    have e8 : m5 336 8 = m4 336 8 := by rw [f5 336 8 (by omega)]
    rw [← e8] at l4
    have z0 : (ud D4 (9) (n0 + 1)) 0 = D 0 := ((ud_ne (by omega)).trans (d04))
    refine g_C ⟨by decide, hk m5 (ud D4 (9) (n0 + 1)) hm5 ?_ r5 (by omega) (fun p q => F 336 p (by omega)) (by omega) (by omega) (by rw [f5 336 9 (by omega)]; exact y4) l4⟩
    exact hp.oth (by omega) (by omega) (fun p q => F 342 p (by omega))
  · refine g_C ?_
    refine ⟨hS.k336, ?_⟩
    refine zx_fails hS hm0 h9 (by decide) (by decide) (by omega) (by omega) (fun m9 hm9 f9 y9 => ?_)
    refine ⟨by decide, hf m9 hm9 (by omega) ?_⟩
    rw [y9, show 1 + 8 * u1 + 4 = 5 + 8 * u1 by omega]
    exact hF (by show D 9 = 4; omega)
