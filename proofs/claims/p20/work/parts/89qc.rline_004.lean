theorem zc_isHandHere {X : Mm} {S : Sh} {m0 : Mm} {K : Int → Mm → Prop} {b : Int → Int} {n k u1 : Int} {T : Int → Dd → Prop} {D : Dd} (hS : Shp S) (hm0 : Inv X S m0) (ht : TR X b n) (rd : Rd D m0) (h9 : m0 336 9 = 0) (hq : m0 336 8 = u1) (h1 : 0 ≤ u1) (h1' : u1 ≤ n) (wk : Wk b n 2 u1) (hp : PR m0) (d0 : 2 ≤ D 0) (hF : dFull D 2 → T (5 + 8 * u1) dz) (hL : ¬ dFull D 2 → Ld b n T 1 2 0 (u1 + tl 2) k D) (hf : ∀ M1 : Mm, Inv X S M1 → ¬ M1 336 9 = 0 → T (M1 336 9) dz → K 0 M1) (hk : ∀ (M1 : Mm) (D' : Dd), Inv X S M1 → PR M1 → Rd D' M1 → 2 ≤ D' 0 → (∀ p : Int, (p = 11 ∨ p = 14) → M1 336 p = m0 336 p) → u1 ≤ M1 336 8 → M1 336 8 ≤ n → M1 336 9 = 0 → Ld b n T 2 0 0 (M1 336 8) k D' → K 1 M1) : wp_X12_isHandHere S m0 336 u1 K := by
  have nb := ht.2.1
  have c0 := hm0.f_342_0
  have c4 := hm0.f_342_4
  have c5 := hm0.f_342_5
  have cc := hm0.f_342_4
  have r0 := rd 0 (by decide) (by decide)
  have rc := rd 4 (by decide) (by decide)
  refine u_X12_isHandHere ?_
  refine g_getr 7 342 rfl hS.k336 hm0.f_336_7 (by decide) ?_
  refine g_C ?_
  refine g_ldu hS.k342 hS.l342 (by omega) (by omega) (fun v0 ev0 => ?_)
  refine g_C ?_
  refine g_if (fun w => ?_) (fun w => ?_)
  · have l0 := hL (fun z => w (by have z2 : D 4 = 5 := z; omega))
    refine ⟨hS.k336, ?_⟩
    refine zx_passWord 2 hS hm0 ht hq h1 (by decide) wk (fun m1 hm1 f1 x1 le1 => ?_)
    have tk := tl_r 2 (by decide)
    have r1 : Rd D m1 := rd.same (fun p => f1 342 p (by omega))
    have y1 : m1 336 9 = 0 := (f1 336 9 (by omega)).trans h9
    rw [← x1] at l0
    refine g_C ?_
    refine g_C ?_
    refine g_getr 7 342 rfl hS.k336 hm1.f_336_7 (by decide) ?_
    refine g_C ?_
    refine g_ldu hS.k342 hS.l342 (by omega) (by omega) (fun n0 en => ?_)
    rw [f1 342 _ (by omega)] at en
    have dn : D 4 = n0 := by omega
    refine g_M (by omega) (by omega) ?_
    refine g_A (by omega) (by omega) ?_
    refine g_C ?_
    refine g_getr 7 342 rfl hS.k336 hm1.f_336_7 (by decide) ?_
    refine g_C ?_
    refine g_ldu hS.k342 hS.l342 (by omega) (by omega) (fun pp epp => ?_)
    rw [f1 342 _ (by omega)] at epp
    refine g_C ?_
    refine g_S (by omega) (by omega) ?_
    refine ⟨hS.k336, ?_⟩
    refine zc_cell 2 0 hS hm1 ht r1 y1 (by omega) l0 (lo := 0) (hi := pp - 1) (by show 10 + 5 * D 4 = _; omega) (by omega) (by omega) rfl (by show D 0 - 1 = _; omega) (fun v lv uv => okb_of (l := 0) (u := 5) (by rw [show (10 + 5 * n0).toNat = 10 + 5 * n0.toNat by omega]; exact rq_10 _ (by omega)) (by omega) (by omega)) (fun m8 hm8 n8 t8 => g_ifT rfl (g_C ⟨by decide, hf m8 hm8 n8 t8⟩)) (fun q2 v2 m2 hm2 f2 lo_2 hi_2 q0_2 qn_2 sk2 xv2 r2 y2 n2' p2 ln2 le2 _ => ?_)
    refine g_ifF (by decide) ?_
    obtain ⟨D2, eD2⟩ : ∃ z : Dd, z = ud D (10 + 5 * n0) v2 := ⟨_, rfl⟩
    have gD2 : ∀ p : Int, ¬ p = 10 + 5 * n0 → D2 p = D p := fun p z => by rw [eD2]; exact ud_ne z
    have xD2 : D2 (10 + 5 * n0) = v2 := by rw [eD2]; exact ud_at _ _ _
    rw [← eD2] at r2 ln2 le2
    have dn2 : D2 4 = n0 := (gD2 4 (by omega)).trans dn
    have d02 : D2 0 = D 0 := (gD2 0 (by omega))
    have l2 := ln2 (fun z => absurd z.1 (by decide)) (by decide)
    refine g_C ?_
    refine g_A (by omega) (by omega) ?_
    refine g_C ?_
    refine g_C ?_
    refine ⟨hS.k336, ?_⟩
    refine zc_cell 2 1 hS hm2 ht r2 y2 (by omega) l2 (lo := 0) (hi := 20) (by show 10 + 5 * D2 4 + 3 = _; omega) (by omega) (by omega) rfl rfl (fun v lv uv => okb_of (l := 0) (u := 20) (by rw [show (10 + 5 * n0 + 3).toNat = 13 + 5 * n0.toNat by omega]; exact rq_13 _ (by omega)) (by omega) (by omega)) (fun m8 hm8 n8 t8 => g_ifT rfl (g_C ⟨by decide, hf m8 hm8 n8 t8⟩)) (fun q3 v3 m3 hm3 f3 lo_3 hi_3 q0_3 qn_3 sk3 xv3 r3 y3 n3' p3 ln3 le3 _ => ?_)
    refine g_ifF (by decide) ?_
    obtain ⟨D3, eD3⟩ : ∃ z : Dd, z = ud D2 (10 + 5 * n0 + 3) v3 := ⟨_, rfl⟩
    have gD3 : ∀ p : Int, ¬ p = 10 + 5 * n0 + 3 → D3 p = D2 p := fun p z => by rw [eD3]; exact ud_ne z
    have xD3 : D3 (10 + 5 * n0 + 3) = v3 := by rw [eD3]; exact ud_at _ _ _
    rw [← eD3] at r3 ln3 le3
    have dn3 : D3 4 = n0 := (gD3 4 (by omega)).trans dn2
    have d03 : D3 0 = D 0 := (gD3 0 (by omega)).trans d02
    have l3 := ln3 (fun z => absurd z.1 (by decide)) (by decide)
    refine g_C ?_
    refine g_A (by omega) (by omega) ?_
    refine g_C ?_
    refine g_C ?_
    refine ⟨hS.k336, ?_⟩
    refine zc_cell 2 2 hS hm3 ht r3 y3 (by omega) l3 (lo := 0) (hi := 5) (by show 10 + 5 * D3 4 + 4 = _; omega) (by omega) (by omega) rfl rfl (fun v lv uv => okb_of (l := 0) (u := 5) (by rw [show (10 + 5 * n0 + 4).toNat = 14 + 5 * n0.toNat by omega]; exact rq_14 _ (by omega)) (by omega) (by omega)) (fun m8 hm8 n8 t8 => g_ifF (by decide) (g_C ⟨by decide, hf m8 hm8 n8 t8⟩)) (fun q4 v4 m4 hm4 f4 lo_4 hi_4 q0_4 qn_4 sk4 xv4 r4 y4 n4' p4 ln4 le4 _ => ?_)
    refine g_ifT (by decide) ?_
    obtain ⟨D4, eD4⟩ : ∃ z : Dd, z = ud D3 (10 + 5 * n0 + 4) v4 := ⟨_, rfl⟩
    have gD4 : ∀ p : Int, ¬ p = 10 + 5 * n0 + 4 → D4 p = D3 p := fun p z => by rw [eD4]; exact ud_ne z
    have xD4 : D4 (10 + 5 * n0 + 4) = v4 := by rw [eD4]; exact ud_at _ _ _
    rw [← eD4] at r4 ln4 le4
    have dn4 : D4 4 = n0 := (gD4 4 (by omega)).trans dn3
    have d04 : D4 0 = D 0 := (gD4 0 (by omega)).trans d03
    have l4 := le4 (fun z => absurd z.1 (by decide)) rfl
    refine g_getr 7 342 rfl hS.k336 hm4.f_336_7 (by decide) ?_
    refine g_C ?_
    refine g_A (by omega) (by omega) ?_
    refine g_C ?_
    refine g_st hS.k342 hS.l342 (by omega) (by omega) (hm4.w342 (by omega) (okb_of (l := 0) (u := 5) (by rw [show (10 + 5 * n0 + 1).toNat = 11 + 5 * n0.toNat by omega]; exact rq_11 _ (by omega)) (by omega) (by omega))) (fun m5 e5 hm5 => ?_)
    have f5 : ∀ c p : Int, ¬ (c = 342 ∧ p = 10 + 5 * n0 + 1) → m5 c p = m4 c p := fun c p q => (congrFun (congrFun e5 _) _).trans (up_ne q)
    have x5 : m5 342 (10 + 5 * n0 + 1) = 0 := (congrFun (congrFun e5 _) _).trans (up_at _ _ _ _)
    have r5 : Rd (ud D4 (10 + 5 * n0 + 1) 0) m5 := r4.up (fun p z => f5 342 p (fun y => z y.2)) x5
    refine g_getr 7 342 rfl hS.k336 hm5.f_336_7 (by decide) ?_
    refine g_C ?_
    refine g_A (by omega) (by omega) ?_
    refine g_C ?_
    refine g_st hS.k342 hS.l342 (by omega) (by omega) (hm5.w342 (by omega) (okb_of (l := 0) (u := 99) (by rw [show (10 + 5 * n0 + 2).toNat = 12 + 5 * n0.toNat by omega]; exact rq_12 _ (by omega)) (by omega) (by omega))) (fun m6 e6 hm6 => ?_)
    have f6 : ∀ c p : Int, ¬ (c = 342 ∧ p = 10 + 5 * n0 + 2) → m6 c p = m5 c p := fun c p q => (congrFun (congrFun e6 _) _).trans (up_ne q)
    have x6 : m6 342 (10 + 5 * n0 + 2) = 0 := (congrFun (congrFun e6 _) _).trans (up_at _ _ _ _)
    have r6 : Rd (ud (ud D4 (10 + 5 * n0 + 1) 0) (10 + 5 * n0 + 2) 0) m6 := r5.up (fun p z => f6 342 p (fun y => z y.2)) x6
    refine g_getr 7 342 rfl hS.k336 hm6.f_336_7 (by decide) ?_
    refine g_C ?_
    refine g_ldu hS.k342 hS.l342 (by omega) (by omega) (fun q1 eq1 => ?_)
    rw [f6 342 _ (by omega), f5 342 _ (by omega), f4 342 _ (by omega), f3 342 _ (by omega), f2 342 _ (by omega), f1 342 _ (by omega)] at eq1
    have eqn1 : q1 = n0 := by omega
    refine g_C ?_
    refine g_A (by omega) (by omega) ?_
    refine g_st hS.k342 hS.l342 (by omega) (by omega) (hm6.w342 (by omega) (okb_of (l := 0) (u := 5) (by decide +kernel) (by omega) (by omega))) (fun m7 e7 hm7 => ?_)
    have f7 : ∀ c p : Int, ¬ (c = 342 ∧ p = 4) → m7 c p = m6 c p := fun c p q => (congrFun (congrFun e7 _) _).trans (up_ne q)
    have x7 : m7 342 (4) = q1 + 1 := (congrFun (congrFun e7 _) _).trans (up_at _ _ _ _)
    have r7 : Rd (ud (ud (ud D4 (10 + 5 * n0 + 1) 0) (10 + 5 * n0 + 2) 0) (4) (n0 + 1)) m7 := r6.up (fun p z => f7 342 p (fun y => z y.2)) (by rw [x7]; omega)
    have F : ∀ c p : Int, ¬ (c = 336 ∧ 8 ≤ p ∧ p ≤ 10) ∧ ¬ (c = 342 ∧ p = 10 + 5 * n0) ∧ ¬ (c = 342 ∧ p = 10 + 5 * n0 + 3) ∧ ¬ (c = 342 ∧ p = 10 + 5 * n0 + 4) ∧ ¬ (c = 342 ∧ p = 10 + 5 * n0 + 1) ∧ ¬ (c = 342 ∧ p = 10 + 5 * n0 + 2) ∧ ¬ (c = 342 ∧ p = 4) → m7 c p = m0 c p := fun c p q => by rw [f7 c p (by omega), f6 c p (by omega), f5 c p (by omega), f4 c p (by omega), f3 c p (by omega), f2 c p (by omega), f1 c p (by omega)]
    have eF : dFin D4 2 = (ud (ud (ud D4 (10 + 5 * n0 + 1) 0) (10 + 5 * n0 + 2) 0) (4) (n0 + 1)) := by
      show ud (ud (ud D4 (10 + 5 * D4 4 + 1) 0) (10 + 5 * D4 4 + 2) 0) 4 (D4 4 + 1) = _
      rw [dn4]
    rw [eF] at l4
    have e8 : m7 336 8 = m4 336 8 := by rw [f7 336 8 (by omega), f6 336 8 (by omega), f5 336 8 (by omega)]
    rw [← e8] at l4
    have z0 : (ud (ud (ud D4 (10 + 5 * n0 + 1) 0) (10 + 5 * n0 + 2) 0) (4) (n0 + 1)) 0 = D 0 := ((ud_ne (by omega)).trans ((ud_ne (by omega)).trans ((ud_ne (by omega)).trans (d04))))
    refine g_C ⟨by decide, hk m7 (ud (ud (ud D4 (10 + 5 * n0 + 1) 0) (10 + 5 * n0 + 2) 0) (4) (n0 + 1)) hm7 ?_ r7 (by omega) (fun p q => F 336 p (by omega)) (by omega) (by omega) (by rw [f7 336 9 (by omega), f6 336 9 (by omega), f5 336 9 (by omega)]; exact y4) l4⟩
    refine hp.hand (n := n0) en (by omega) (fun p q1 q2 => F 342 p (by omega)) (by omega) ?_
    rw [f7 342 _ (by omega), f6 342 _ (by omega), f5 342 _ (by omega), f4 342 _ (by omega), f3 342 _ (by omega)]
    omega
  · refine g_C ?_
    refine ⟨hS.k336, ?_⟩
    refine zx_fails hS hm0 h9 (by decide) (by decide) (by omega) (by omega) (fun m9 hm9 f9 y9 => ?_)
    refine ⟨by decide, hf m9 hm9 (by omega) ?_⟩
    rw [y9, show 1 + 8 * u1 + 4 = 5 + 8 * u1 by omega]
    exact hF (by show D 4 = 5; omega)
