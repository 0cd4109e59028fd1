theorem Ts.pushop {X m m1 : Mm} {k b e s k1 e1 : Int} (h : Ts X m k b e) (h0 : 0 ≤ m 336 16) (f : ∀ c p : Int, ¬ (c = 336 ∧ (p = 13 ∨ p = 16 ∨ p = 8)) ∧ ¬ (c = 343 ∧ p = m 336 16) → m1 c p = m c p) (o : m1 336 16 = m 336 16 + 1) (x : m1 343 (m 336 16) = s) (hs : s = 11 ∨ s = 12 ∨ s = 13 ∨ s = 91) (h8 : m 336 8 ≤ m1 336 8) (hl : m 339 (m 336 11) + m 336 16 + 1 + k1 ≤ m1 336 8) (he : e = e1 + (if s = 12 ∨ s = 13 then 1 else 0)) (he1 : 0 ≤ e1) : Ts X m1 k1 b e1 ∧ Adv m m1 := by
  obtain ⟨g, hq, he0, hn, hl0, ho⟩ := h
  have A : Adv m m1 := ⟨fun c p q => f c p (by omega), f 336 11 (by omega), fun j _ => f 338 j (by omega), by rw [f 339 _ (by omega)]; omega, h8, by rw [f 336 12 (by omega)]; omega, f 336 14 (by omega)⟩
  have el : m1 339 (m1 336 11) = m 339 (m 336 11) := by rw [f 336 11 (by omega), f 339 _ (by omega)]
  have en : nb m1 = nb m + (if s = 12 ∨ s = 13 then 1 else 0) := by
    unfold nb
    rw [o, nbf_top h0, x, nbf_same (f := m1 343) (g := m 343) _ (fun j j0 j1 => f 343 j (by omega))]
  have e12 : m1 336 12 = m 336 12 := f 336 12 (by omega)
  refine ⟨⟨g.adv A, ?_, ?_, ?_, by omega, fun j j0 j1 => ?_⟩, A⟩
  · rw [show nb m1 + e1 = nb m + e by rw [en, he]; omega]
    exact hq.same (fun p => f 338 p (by omega)) (fun p => f 339 p (by omega)) (f 336 11 (by omega))
  · refine ⟨he1, ?_⟩
    revert he
    split <;> omega
  · rw [show nb m1 + e1 = nb m + e by rw [en, he]; omega]
    omega
  · by_cases ej : j = m 336 16
    · rw [ej, x]
      exact hs
    · rw [f 343 j (by omega)]
      exact ho j j0 (by omega)
theorem zo_fact {X : Mm} {S : Sh} {m0 : Mm} {K : Int → Mm → Prop} {b : Int} (hS : Shp S) (hm0 : Inv X S m0) (ht : Ts X m0 0 b 0) (hf : ∀ M1 : Mm, Inv X S M1 → ¬ M1 336 9 = 0 → K 0 M1) (hk : ∀ M1 : Mm, Inv X S M1 → Ts X M1 0 b 1 → Adv m0 M1 → m0 336 8 + 1 ≤ M1 336 8 → K 1 M1) : wp_X12_fact S m0 336 K := by
  refine u_X12_fact ?_
  refine g_C ?_
  have L : ∀ (n : Nat) (more : Int) (m : Mm), Inv X S m → Ts X m 0 b 0 → Adv m0 m → 0 ≤ more → more ≤ 1 → 2 * (401 - m 336 8) + more + 1 ≤ (n : Int) → wp_X12_fact_2 S K n 336 more m := by
    intro n
    induction n with
    | zero =>
      intro more m hm _ _ _ _ h
      have b8 := hm.f_336_8
      exfalso; omega
    | succ n ih =>
      intro more m hm t A r0 r1 h
      have b8 := hm.f_336_8
      have b16 := hm.f_336_16
      have a8 : m0 336 8 ≤ m 336 8 := A.2.2.2.2.1
      refine u_X12_fact_2 ?_
      refine g_if (fun w => ?_) (fun w => ?_)
      · refine ⟨hS.k336, ?_⟩
        obtain ⟨g, hq, he, hn, hl, ho⟩ := id t
        have ii : Ina X m (m 336 16) b (nb m) := ⟨g, by omega, by rw [show nb m + 0 = nb m by omega] at hq; exact hq, nbf_nn _ _, by omega, by omega⟩
        refine zp_compare hS hm ii (fun m1 hm1 n1 => ⟨by decide, hf m1 hm1 n1⟩) (fun m1 hm1 o1 => ⟨by decide, ?_⟩)
        obtain ⟨A1, q1, l1, p1, d1⟩ := o1
        obtain ⟨A1a, A1b, A1c⟩ := A1
        have e43 : m1 343 = m 343 := funext A1c
        have en : nb m1 = nb m := by unfold nb; rw [e43, A1b]
        refine hk m1 hm1 ⟨g.adv A1a, by rw [en]; exact q1, by omega, by omega, by omega, fun j j0 j1 => ?_⟩ (A.trans A1a) (by omega)
        rw [e43]
        exact ho j j0 (by omega)
      · refine g_C ?_
        refine ⟨hS.k336, ?_⟩
        refine z_X12_see hS hm (fun r1 m1 hm1 f1 b1 c1 y1 ns1 _ => ?_)
        obtain ⟨t1, A1⟩ := t.fr (m1 := m1) (fun c p q => f1 c p (by omega)) y1 (by rw [f1 336 12 (by omega)]; omega)
        refine g_C ?_
        refine ⟨hS.k336, ?_⟩
        refine z_X12_isWord hS hm1 (by decide) (by decide) (fun r2 m2 hm2 f2 b2 c2 y2 lt2 z2 => ?_)
        obtain ⟨t2, A2⟩ := t1.fr (m1 := m2) (fun c p q => f2 c p (by omega)) y2 (by rw [f2 336 12 (by omega)]; omega)
        have b82 := hm2.f_336_8
        have b12 := hm2.f_336_1
        have b162 := hm2.f_336_16
        have hl2 := t2.2.2.2.2.1
        have bl2 := t2.2.1.1
        refine g_if (fun w2 => ?_) (fun w2 => ?_)
        · refine g_C ?_
          refine g_if (fun w3 => ?_) (fun w3 => ?_)
          · refine u_X12_fact_72 ?_
            exact ih 0 m2 hm2 t2 ((A.trans A1).trans A2) (by decide) (by decide) (by omega)
          · have n1 := ns1.resolve_left (by omega)
            have e2 := z2.resolve_left (fun z => z n1)
            have n1a := n1.1
            have e1 : m2 336 1 = m1 336 1 := f2 336 1 (by omega)
            refine g_C ?_
            refine ⟨hS.k336, ?_⟩
            refine zo_opens hS hm2 (by omega) (fun m3 hm3 n3 => ?_) (fun m3 hm3 f3 o3 x3 => ?_)
            · exact g_ifF (by decide) (g_C ⟨by decide, hf m3 hm3 n3⟩)
            · have e3 : m3 336 8 = m2 336 8 := f3 336 8 (by omega)
              refine g_ifT (by decide) ?_
              refine g_getu 8 rfl hS.k336 (fun v ev => ?_)
              refine g_C ?_
              refine g_A (by omega) (by omega) ?_
              refine g_put 8 rfl hS.k336 (hm3.w_336_8 (by omega) (by omega)) (fun m4 e4 hm4 => ?_)
              have f4 : ∀ c p : Int, ¬ (c = 336 ∧ p = 8) → m4 c p = m3 c p := fun c p q => (congrFun (congrFun e4 _) _).trans (up_ne q)
              have x4 : m4 336 8 = v + 1 := (congrFun (congrFun e4 _) _).trans (up_at _ _ _ _)
              obtain ⟨t4, A4⟩ := t2.pushop (m1 := m4) (k1 := 0) (e1 := 0) (s := 91) b162.1 (fun c p q => (f4 c p (by omega)).trans (f3 c p (by omega))) (by rw [f4 336 16 (by omega)]; exact o3) (by rw [f4 343 _ (by omega)]; exact x3) (by decide) (by omega) (by omega) (by decide) (by decide)
              refine g_C ?_
              refine u_X12_fact_72 ?_
              exact ih 1 m4 hm4 t4 (((A.trans A1).trans A2).trans A4) (by decide) (by decide) (by omega)
        · have lt := lt2.resolve_left w2
          have lt1 := lt.1
          refine g_C ?_
          refine ⟨hS.k336, ?_⟩
          refine zo_opens hS hm2 (by omega) (fun m3 hm3 n3 => ?_) (fun m3 hm3 f3 o3 x3 => ?_)
          · exact g_ifF (by decide) (g_C ⟨by decide, hf m3 hm3 n3⟩)
          · have e3 : m3 336 8 = m2 336 8 := f3 336 8 (by omega)
            have lt3 : LtC m3 := lt.same e3 (f3 336 1 (by omega)) (fun p => f3 337 p (by omega))
            refine g_ifT (by decide) ?_
            refine ⟨hS.k336, ?_⟩
            refine z_X12_passWord hS hm3 (fun m4 hm4 f4 y9 y10 => ?_)
            have z10 : m3 336 8 + 1 ≤ m4 336 8 := y10.resolve_left (fun z => z lt3)
            obtain ⟨t4, A4⟩ := t2.pushop (m1 := m4) (k1 := 0) (e1 := 0) (s := 11) b162.1 (fun c p q => (f4 c p (by omega)).trans (f3 c p (by omega))) (by rw [f4 336 16 (by omega)]; exact o3) (by rw [f4 343 _ (by omega)]; exact x3) (by decide) (by omega) (by omega) (by decide) (by decide)
            refine g_C ?_
            refine u_X12_fact_72 ?_
            exact ih 1 m4 hm4 t4 (((A.trans A1).trans A2).trans A4) (by decide) (by decide) (by omega)
  have b8 := hm0.f_336_8
  exact ⟨804, L 804 1 m0 hm0 ht (Adv.rfl' m0) (by decide) (by decide) (by omega)⟩
theorem zo_closes {X : Mm} {S : Sh} {m0 : Mm} {K : Mm → Prop} {b : Int} (hS : Shp S) (hm0 : Inv X S m0) (ht : Ts X m0 0 b 1) (hk : ∀ M1 : Mm, Inv X S M1 → Ts X M1 0 b 1 → Adv m0 M1 → K M1) : wp_X12_closes S m0 336 K := by
  refine u_X12_closes ?_
  refine g_C ?_
  refine ⟨hS.k336, ?_⟩
  refine zo_settles hS hm0 ht (by decide) (by decide) (fun m1 hm1 t1 A1 _ _ _ _ _ => ?_)
  have L : ∀ (n : Nat) (m : Mm), Inv X S m → Ts X m 0 b 1 → Adv m0 m → 401 - m 336 8 ≤ (n : Int) → wp_X12_closes_5 S K n 336 m := by
    intro n
    induction n with
    | zero =>
      intro m hm _ _ h
      have b8 := hm.f_336_8
      exfalso; omega
    | succ n ih =>
      intro m hm t A h
      refine u_X12_closes_5 ?_
      refine ⟨hS.k336, ?_⟩
      refine z_X12_see hS hm (fun r2 m2 hm2 f2 b2 c2 y2 ns2 _ => ?_)
      obtain ⟨t2, A2⟩ := t.fr (m1 := m2) (fun c p q => f2 c p (by omega)) y2 (by rw [f2 336 12 (by omega)]; omega)
      refine g_C ?_
      refine g_if (fun w => hk m2 hm2 t2 (A.trans A2)) (fun w => ?_)
      refine ⟨hS.k336, ?_⟩
      refine zo_isInside hS hm2 (fun j j0 j1 j2 => ?_) (fun hn => g_ifT rfl (hk m2 hm2 t2 (A.trans A2)))
      refine g_ifF (by decide) ?_
      refine g_C ?_
      refine ⟨hS.k336, ?_⟩
      have n2 := (ns2.resolve_left (by omega)).1
      have b12 := hm2.f_336_1
      refine zo_settles hS hm2 t2 (by decide) (by decide) (fun m3 hm3 t3 A3 e8 e43 l16 br ex => ?_)
      have j3 := br j j0 j1 j2
      have top : m3 343 (m3 336 16 - 1) = 91 := (ex.resolve_left (by omega)).resolve_left (by decide)
      have b16 := hm3.f_336_16
      refine g_getu 16 rfl hS.k336 (fun v ev => ?_)
      refine g_C ?_
      refine g_S (by omega) (by omega) ?_
      refine g_put 16 rfl hS.k336 (hm3.w_336_16 (by omega) (by omega)) (fun m4 e4 hm4 => ?_)
      have f4 : ∀ c p : Int, ¬ (c = 336 ∧ p = 16) → m4 c p = m3 c p := fun c p q => (congrFun (congrFun e4 _) _).trans (up_ne q)
      have x4 : m4 336 16 = v - 1 := (congrFun (congrFun e4 _) _).trans (up_at _ _ _ _)
      refine g_getu 13 rfl hS.k336 (fun v5 ev5 => ?_)
      refine g_C ?_
      refine g_Sw (fun dd bdd cdd => ?_)
      refine g_put 13 rfl hS.k336 (hm4.w_336_13 bdd cdd) (fun m5 e5 hm5 => ?_)
      have f5 : ∀ c p : Int, ¬ (c = 336 ∧ p = 13) → m5 c p = m4 c p := fun c p q => (congrFun (congrFun e5 _) _).trans (up_ne q)
      refine g_getu 8 rfl hS.k336 (fun v6 ev6 => ?_)
      rw [f5 336 8 (by omega), f4 336 8 (by omega)] at ev6
      have b83 := hm3.f_336_8
      refine g_C ?_
      refine g_A (by omega) (by omega) ?_
      refine g_put 8 rfl hS.k336 (hm5.w_336_8 (by omega) (by omega)) (fun m6 e6 hm6 => ?_)
      have f6 : ∀ c p : Int, ¬ (c = 336 ∧ p = 8) → m6 c p = m5 c p := fun c p q => (congrFun (congrFun e6 _) _).trans (up_ne q)
      have x6 : m6 336 8 = v6 + 1 := (congrFun (congrFun e6 _) _).trans (up_at _ _ _ _)
      have F6 : ∀ c p : Int, ¬ (c = 336 ∧ (p = 16 ∨ p = 13 ∨ p = 8)) → m6 c p = m3 c p := fun c p q => by rw [f6 c p (by omega), f5 c p (by omega), f4 c p (by omega)]
      have o6 : m6 336 16 = m3 336 16 - 1 := by rw [f6 336 16 (by omega), f5 336 16 (by omega)]; omega
      have A6 : Adv m3 m6 := Adv.of (fun c p q => F6 c p (by omega)) (by omega) (by rw [F6 336 12 (by omega)]; omega)
      have t6 : Ts X m6 0 b 1 := by
        obtain ⟨g, hq, he, hn, hl, ho⟩ := t3
        have e43' : m6 343 = m3 343 := funext (fun p => F6 343 p (by omega))
        have en : nb m6 = nb m3 := by
          unfold nb
          rw [o6, e43', show m3 336 16 = m3 336 16 - 1 + 1 by omega, nbf_top (by omega), show m3 336 16 - 1 + 1 - 1 = m3 336 16 - 1 by omega, top, if_neg (by decide)]
          omega
        have el : m6 339 (m6 336 11) = m3 339 (m3 336 11) := by rw [F6 336 11 (by omega), F6 339 _ (by omega)]
        have e12 : m6 336 12 = m3 336 12 := F6 336 12 (by omega)
        refine ⟨g.adv A6, ?_, he, by omega, by omega, fun i i0 i1 => ?_⟩
        · rw [en]
          exact hq.same (fun p => F6 338 p (by omega)) (fun p => F6 339 p (by omega)) (F6 336 11 (by omega))
        · rw [e43']
          exact ho i i0 (by omega)
      refine g_C ?_
      refine ⟨hS.k336, ?_⟩
      refine zo_settles hS hm6 t6 (by decide) (by decide) (fun m7 hm7 t7 A7 e87 _ _ _ _ => ?_)
      exact ih m7 hm7 t7 ((((A.trans A2).trans A3).trans A6).trans A7) (by omega)
  have b8 := hm1.f_336_8
  exact ⟨401, L 401 m1 hm1 t1 A1 (by omega)⟩
theorem zo_tested {X : Mm} {S : Sh} {m0 : Mm} {K : Int → Mm → Prop} (hS : Shp S) (hm0 : Inv X S m0) (g0 : GX X m0) (hl0 : m0 339 (m0 336 11) ≤ m0 336 8) (hf : ∀ M1 : Mm, Inv X S M1 → ¬ M1 336 9 = 0 → K 0 M1) (hk : ∀ M1 : Mm, Inv X S M1 → Adv m0 M1 → Qs M1 (m0 339 (m0 336 11)) 1 → M1 339 (M1 336 11) ≤ M1 336 8 → K 1 M1) : wp_X12_tested S m0 336 K := by
  have bl := hm0.a_339 (i := m0 336 11) (by have := g0.1; have := g0.2; omega) (by have := g0.1; have := g0.2; omega)
  refine u_X12_tested ?_
  refine g_C ?_
  refine g_put 16 rfl hS.k336 (hm0.w_336_16 (by omega) (by omega)) (fun m1 e1 hm1 => ?_)
  refine g_C ?_
  refine g_put 13 rfl hS.k336 (hm1.w_336_13 (by omega) (by omega)) (fun m2 e2 hm2 => ?_)
  have f1 : ∀ c p : Int, ¬ (c = 336 ∧ p = 16) → m1 c p = m0 c p := fun c p q => (congrFun (congrFun e1 _) _).trans (up_ne q)
  have x1 : m1 336 16 = 0 := (congrFun (congrFun e1 _) _).trans (up_at _ _ _ _)
  have f2 : ∀ c p : Int, ¬ (c = 336 ∧ p = 13) → m2 c p = m1 c p := fun c p q => (congrFun (congrFun e2 _) _).trans (up_ne q)
  have x2 : m2 336 16 = 0 := (f2 336 16 (by omega)).trans x1
  have F2 : ∀ c p : Int, ¬ (c = 336 ∧ (p = 16 ∨ p = 13)) → m2 c p = m0 c p := fun c p q => (f2 c p (by omega)).trans (f1 c p (by omega))
  have A2 : Adv m0 m2 := Adv.of (fun c p q => F2 c p (by omega)) (by rw [F2 336 8 (by omega)]; omega) (by rw [F2 336 12 (by omega)]; omega)
  have t2 : Ts X m2 0 (m0 339 (m0 336 11)) 0 := by
    have en : nb m2 = 0 := by unfold nb; rw [x2]; rfl
    have el : m2 339 (m2 336 11) = m0 339 (m0 336 11) := by rw [F2 336 11 (by omega), F2 339 _ (by omega)]
    have e8 : m2 336 8 = m0 336 8 := F2 336 8 (by omega)
    have b12 := hm2.f_336_12
    refine ⟨g0.adv A2, ⟨⟨by omega, by omega⟩, ?_⟩, by decide, by omega, by omega, fun j j0 j1 => absurd j1 (by omega)⟩
    rw [el, en, show (m0 339 (m0 336 11) - m0 339 (m0 336 11)).toNat = 0 by omega]
    rfl
  refine g_C ?_
  have L : ∀ (n : Nat) (more : Int) (m : Mm), Inv X S m → 0 ≤ more → more ≤ 1 → Ts X m 0 (m0 339 (m0 336 11)) (1 - more) → Adv m0 m → 2 * (401 - m 336 8) + more + 1 ≤ (n : Int) → wp_X12_tested_12 S K n 336 more m := by
    intro n
    induction n with
    | zero =>
      intro more m hm _ _ _ _ h
      have b8 := hm.f_336_8
      exfalso; omega
    | succ n ih =>
      intro more m hm r0 r1 t A h
      refine u_X12_tested_12 ?_
      refine g_if (fun w => ?_) (fun w => ?_)
      · rw [w] at t
        have t' : Ts X m 0 (m0 339 (m0 336 11)) 1 := t
        refine ⟨hS.k336, ?_⟩
        refine zo_isInside hS hm (fun j j0 j1 j2 => ?_) (fun hn => ?_)
        · refine g_ifF (by decide) ?_
          refine ⟨hS.k336, ?_⟩
          refine z_X12_see hS hm (fun r2 m2 hm2 f2 b2 c2 y2 ns2 _ => ?_)
          have b8 := hm2.f_336_8
          refine g_C ?_
          refine g_getu 8 rfl hS.k336 (fun v ev => ?_)
          refine ⟨hS.k336, ?_⟩
          refine z_X12_fails hS hm2 (by decide) (by decide) (by omega) (by omega) (fun r3 m3 hm3 f3 b3 c3 y6 => ?_)
          obtain rfl : r3 = 0 := by omega
          exact ⟨by decide, hf m3 hm3 y6⟩
        · refine g_ifT rfl ?_
          refine g_C ?_
          refine ⟨hS.k336, ?_⟩
          refine zo_settles hS hm t' (by decide) (by decide) (fun m3 hm3 t3 A3 e8 e43 l16 br ex => ?_)
          have b16 := hm3.f_336_16
          have z16 : m3 336 16 = 0 := by
            rcases ex with z | z | z
            · exact z
            · exact absurd rfl z
            · by_cases q : m3 336 16 = 0
              · exact q
              · rw [e43] at z
                exact absurd z (hn _ (by omega) (by omega))
          obtain ⟨g3, q3, d3, n3, l3, o3⟩ := t3
          have en : nb m3 = 0 := by unfold nb; rw [z16]; rfl
          rw [en] at q3
          exact g_C ⟨by decide, hk m3 hm3 (A.trans A3) q3 (by omega)⟩
      · have w1 : more = 1 := by omega
        rw [w1] at t
        have t' : Ts X m 0 (m0 339 (m0 336 11)) 0 := t
        refine ⟨hS.k336, ?_⟩
        refine zo_fact hS hm t' (fun m1 hm1 n1 => g_ifF (by decide) (g_C ⟨by decide, hf m1 hm1 n1⟩)) (fun m1 hm1 t1 A1 p1 => ?_)
        refine g_ifT (by decide) ?_
        refine ⟨hS.k336, ?_⟩
        refine zo_closes hS hm1 t1 (fun m2 hm2 t2 A2 => ?_)
        have a82 : m1 336 8 ≤ m2 336 8 := A2.2.2.2.2.1
        have go : ∀ (s : Int) (m' : Mm), s = 12 ∨ s = 13 → Inv X S m' → Ts X m' 0 (m0 339 (m0 336 11)) 1 → Adv m0 m' → m1 336 8 ≤ m' 336 8 → LtC m' → wp_X12_tested_76 S (fun a0 a1 M => wp_X12_tested_12 S K n a0 a1 M) K 336 1 s m' := by
          intro s m' hs hm' t'' A' p' lt
          refine u_X12_tested_76 ?_
          refine ⟨hS.k336, ?_⟩
          refine z_X12_passWord hS hm' (fun m4 hm4 f4 y9 y10 => ?_)
          have z10 : m' 336 8 + 1 ≤ m4 336 8 := y10.resolve_left (fun z => z lt)
          obtain ⟨t4, A4⟩ := t''.fr (m1 := m4) (fun c p q => f4 c p (by omega)) y9 (by rw [f4 336 12 (by omega)]; omega)
          have t4' : Ts X m4 1 (m0 339 (m0 336 11)) 1 := by
            refine t4.slack ?_
            have l0 := t''.2.2.2.2.1
            rw [f4 336 11 (by omega), f4 339 _ (by omega), f4 336 16 (by omega)]
            omega
          refine zl_strength ?_
          have sc := strn_c s
          refine ⟨hS.k336, ?_⟩
          refine zo_settles hS hm4 t4' (by decide) (by omega) (fun m5 hm5 t5 A5 e8 e43 l16 br ex => ?_)
          have b16 := hm5.f_336_16
          have b85 := hm5.f_336_8
          have l5 := t5.2.2.2.2.1
          have bl5 := t5.2.1.1
          refine g_getr 15 343 rfl hS.k336 hm5.f_336_15 (by decide) ?_
          refine g_getu 16 rfl hS.k336 (fun v ev => ?_)
          refine g_st hS.k343 hS.l343 (by omega) (by omega) (hm5.wa_343 (by omega) (by omega)) (fun m6 e6 hm6 => ?_)
          have f6 : ∀ c p : Int, ¬ (c = 343 ∧ p = v) → m6 c p = m5 c p := fun c p q => (congrFun (congrFun e6 _) _).trans (up_ne q)
          have x6 : m6 343 v = s := (congrFun (congrFun e6 _) _).trans (up_at _ _ _ _)
          refine g_getu 16 rfl hS.k336 (fun v7 ev7 => ?_)
          rw [f6 336 16 (by omega)] at ev7
          refine g_C ?_
          refine g_A (by omega) (by omega) ?_
          refine g_put 16 rfl hS.k336 (hm6.w_336_16 (by omega) (by omega)) (fun m7 e7 hm7 => ?_)
          have f7 : ∀ c p : Int, ¬ (c = 336 ∧ p = 16) → m7 c p = m6 c p := fun c p q => (congrFun (congrFun e7 _) _).trans (up_ne q)
          have x7 : m7 336 16 = v7 + 1 := (congrFun (congrFun e7 _) _).trans (up_at _ _ _ _)
          obtain ⟨t7, A7⟩ := t5.pushop (m1 := m7) (k1 := 0) (e1 := 0) (s := s) b16.1 (fun c p q => (f7 c p (by omega)).trans (f6 c p (by omega))) (by omega) (by rw [f7 343 _ (by omega), ← ev]; exact x6) (by omega) (by rw [f7 336 8 (by omega), f6 336 8 (by omega)]; omega) (by rw [f7 336 8 (by omega), f6 336 8 (by omega)]; omega) (by rw [if_pos hs]; rfl) (by decide)
          have e87 : m7 336 8 = m5 336 8 := by rw [f7 336 8 (by omega), f6 336 8 (by omega)]
          exact ih 1 m7 hm7 (by decide) (by decide) t7 (((A'.trans A4).trans A5).trans A7) (by omega)
        have yes : ∀ m' : Mm, Inv X S m' → Ts X m' 0 (m0 339 (m0 336 11)) 1 → Adv m0 m' → m1 336 8 ≤ m' 336 8 → LtC m' → wp_X12_tested_49 S (fun a0 a1 M => wp_X12_tested_12 S K n a0 a1 M) K 336 m' := by
          intro m' hm' t'' A' p' lt
          refine u_X12_tested_49 ?_
          refine g_C ?_
          refine u_X12_tested_54 ?_
          refine g_ifF (by decide) ?_
          refine g_C ?_
          refine ⟨hS.k336, ?_⟩
          refine z_X12_isWord hS hm' (by decide) (by decide) (fun r5 m5 hm5 f5 b5 c5 y5 lt5 z5 => ?_)
          obtain ⟨t5, A5⟩ := t''.fr (m1 := m5) (fun c p q => f5 c p (by omega)) y5 (by rw [f5 336 12 (by omega)]; omega)
          have e5 := z5.resolve_left (fun z => z lt.ns)
          have l5 : LtC m5 := lt.same e5 (f5 336 1 (by omega)) (fun p => f5 337 p (by omega))
          exact g_if (fun w => g_C (go 13 m5 (by decide) hm5 t5 (A'.trans A5) (by omega) l5)) (fun w => g_C (go 12 m5 (by decide) hm5 t5 (A'.trans A5) (by omega) l5))
        refine g_C ?_
        refine ⟨hS.k336, ?_⟩
        refine z_X12_isWord hS hm2 (by decide) (by decide) (fun r3 m3 hm3 f3 b3 c3 y3 lt3 z3 => ?_)
        obtain ⟨t3, A3⟩ := t2.fr (m1 := m3) (fun c p q => f3 c p (by omega)) y3 (by rw [f3 336 12 (by omega)]; omega)
        refine g_if (fun w3 => ?_) (fun w3 => ?_)
        · exact yes m3 hm3 t3 (((A.trans A1).trans A2).trans A3) (by omega) (lt3.resolve_left w3)
        · refine g_C ?_
          refine ⟨hS.k336, ?_⟩
          refine z_X12_isWord hS hm3 (by decide) (by decide) (fun r4 m4 hm4 f4 b4 c4 y4 lt4 z4 => ?_)
          obtain ⟨t4, A4⟩ := t3.fr (m1 := m4) (fun c p q => f4 c p (by omega)) y4 (by rw [f4 336 12 (by omega)]; omega)
          refine g_if (fun w4 => ?_) (fun w4 => ?_)
          · refine g_C ?_
            refine u_X12_tested_54 ?_
            refine g_ifT rfl ?_
            exact ih 0 m4 hm4 (by decide) (by decide) t4 ((((A.trans A1).trans A2).trans A3).trans A4) (by omega)
          · exact yes m4 hm4 t4 ((((A.trans A1).trans A2).trans A3).trans A4) (by omega) (lt4.resolve_left w4)
  have b8 := hm2.f_336_8
  exact ⟨804, L 804 1 m2 hm2 (by decide) (by decide) t2 A2 (by omega)⟩
