theorem zg_readsAll {X : Mm} {S : Sh} {m0 : Mm} {K : Int → Mm → Prop} (P : Mm → Prop) (hS : Shp S) (hm0 : Inv X S m0) (ht : 0 ≤ m0 336 11 ∧ m0 336 11 ≤ 6) (hP : ∀ m m1 : Mm, P m → (∀ c p : Int, ¬ (c = 336 ∧ (p = 1 ∨ p = 8 ∨ p = 9)) → m1 c p = m c p) → m 336 8 ≤ m1 336 8 → P m1) (hi : ∀ m1 : Mm, (∀ c p : Int, ¬ (c = 339 ∧ p = m0 336 11) ∧ ¬ (c = 336 ∧ (p = 14 ∨ p = 8 ∨ p = 9 ∨ p = 12)) → m1 c p = m0 c p) → m1 339 (m0 336 11) = 0 → m1 336 14 = 0 → m1 336 8 = 0 → P m1) (hc : ∀ (m : Mm) (K' : Int → Mm → Prop), Inv X S m → P m → (∀ M1 : Mm, Inv X S M1 → ¬ M1 336 9 = 0 → K' 0 M1) → (∀ M1 : Mm, Inv X S M1 → P M1 → m 336 8 ≤ M1 336 8 → K' 1 M1) → wp_X12_clauseHere S m 336 K') (hf : ∀ M1 : Mm, Inv X S M1 → K 0 (up M1 336 1 0)) (hk : ∀ M1 : Mm, Inv X S M1 → P M1 → K 1 (up M1 336 1 0)) : wp_X12_readsAll S m0 336 K := by
  have fin : ∀ m : Mm, Inv X S m → (m 336 9 = 0 → P m) → wp_X12_readsAll_88 S K 336 m := by
    intro m hm hp
    refine u_X12_readsAll_88 ?_
    refine g_C ?_
    refine g_putR 1 rfl hS.k336 (fun m1 e1 => ?_)
    refine g_getu 9 rfl hS.k336 (fun v ev => ?_)
    rw [e1] at ev
    have ev' : v = m 336 9 := ev.trans (up_ne (by omega))
    rw [e1]
    exact g_if (fun w => g_C ⟨by decide, hf m hm⟩) (fun w => g_C ⟨by decide, hk m hm (hp (by omega))⟩)
  have L : ∀ (n : Nat) (u : Int) (m : Mm), Inv X S m → ((u = 0 ∧ ¬ m 336 9 = 0 ∧ 1 ≤ n) ∨ (u = 1 ∧ P m ∧ 402 - m 336 8 ≤ (n : Int))) → wp_X12_readsAll_35 S K n 336 u m := by
    intro n
    induction n with
    | zero =>
      intro u m hm h
      have b8 := hm.f_336_8
      exfalso
      rcases h with h | h
      · exact absurd h.2.2 (by decide)
      · have := h.2.2; omega
    | succ n ih =>
      intro u m hm h
      refine u_X12_readsAll_35 ?_
      rcases h with ⟨h1, h2, h3⟩ | ⟨h1, h2, h3⟩
      · refine g_ifT h1 ?_
        refine u_X12_readsAll_66 ?_
        refine g_ifT h1 ?_
        exact fin m hm (fun z => absurd z h2)
      · refine g_ifF (by omega) ?_
        refine ⟨hS.k336, ?_⟩
        refine z_X12_see hS hm (fun r1 m1 hm1 f1 b1 c1 y1 ns1 _ => ?_)
        have p1 : P m1 := hP m m1 h2 (fun c p q => f1 c p (by omega)) y1
        have b8 := hm1.f_336_8
        have b1' := hm1.f_336_1
        refine g_C ?_
        refine g_if (fun w => ?_) (fun w => ?_)
        · refine u_X12_readsAll_66 ?_
          refine g_ifF (by omega) ?_
          refine ⟨hS.k336, ?_⟩
          refine z_X12_see hS hm1 (fun r2 m2 hm2 f2 b2 c2 y2 ns2 _ => ?_)
          have p2 : P m2 := hP m1 m2 p1 (fun c p q => f2 c p (by omega)) y2
          have b82 := hm2.f_336_8
          refine g_C ?_
          refine g_if (fun w2 => fin m2 hm2 (fun _ => p2)) (fun w2 => ?_)
          refine g_C ?_
          refine g_getu 8 rfl hS.k336 (fun v ev => ?_)
          refine ⟨hS.k336, ?_⟩
          refine z_X12_fails hS hm2 (by decide) (by decide) (by omega) (by omega) (fun r3 m3 hm3 f3 b3 c3 y6 => ?_)
          exact fin m3 hm3 (fun z => absurd z y6)
        · have n1 := (ns1.resolve_left (by omega)).1
          refine g_getu 8 rfl hS.k336 (fun v ev => ?_)
          refine g_C ?_
          refine g_A (by omega) (by omega) ?_
          refine g_put 8 rfl hS.k336 (hm1.w_336_8 (by omega) (by omega)) (fun m2 e2 hm2 => ?_)
          have f2 : ∀ c p : Int, ¬ (c = 336 ∧ p = 8) → m2 c p = m1 c p := fun c p q => (congrFun (congrFun e2 _) _).trans (up_ne q)
          have x2 : m2 336 8 = v + 1 := (congrFun (congrFun e2 _) _).trans (up_at _ _ _ _)
          have p2 : P m2 := hP m1 m2 p1 (fun c p q => f2 c p (by omega)) (by omega)
          refine ⟨hS.k336, ?_⟩
          refine hc m2 _ hm2 p2 (fun m3 hm3 n3 => ?_) (fun m3 hm3 p3 y3 => ?_)
          · exact ih 0 m3 hm3 (Or.inl ⟨rfl, n3, by omega⟩)
          · exact ih 1 m3 hm3 (Or.inr ⟨rfl, p3, by omega⟩)
  refine u_X12_readsAll ?_
  refine g_getr 4 339 rfl hS.k336 hm0.f_336_4 (by decide) ?_
  refine g_getu 11 rfl hS.k336 (fun t et => ?_)
  refine g_C ?_
  refine g_st hS.k339 hS.l339 (by omega) (by omega) (hm0.wa_339 (by omega) (by omega) (by omega) (by omega)) (fun m1 e1 hm1 => ?_)
  refine g_C ?_
  refine g_put 14 rfl hS.k336 (hm1.w_336_14 (by omega) (by omega)) (fun m2 e2 hm2 => ?_)
  refine g_C ?_
  refine g_put 8 rfl hS.k336 (hm2.w_336_8 (by omega) (by omega)) (fun m3 e3 hm3 => ?_)
  refine g_C ?_
  refine g_put 9 rfl hS.k336 (hm3.w_336_9 (by omega) (by omega)) (fun m4 e4 hm4 => ?_)
  refine g_C ?_
  refine g_put 12 rfl hS.k336 (hm4.w_336_12 (by omega) (by omega)) (fun m5 e5 hm5 => ?_)
  have f1 : ∀ c p : Int, ¬ (c = 339 ∧ p = t) → m1 c p = m0 c p := fun c p q => (congrFun (congrFun e1 _) _).trans (up_ne q)
  have x1 : m1 339 t = 0 := (congrFun (congrFun e1 _) _).trans (up_at _ _ _ _)
  have f2 : ∀ c p : Int, ¬ (c = 336 ∧ p = 14) → m2 c p = m1 c p := fun c p q => (congrFun (congrFun e2 _) _).trans (up_ne q)
  have x2 : m2 336 14 = 0 := (congrFun (congrFun e2 _) _).trans (up_at _ _ _ _)
  have f3 : ∀ c p : Int, ¬ (c = 336 ∧ p = 8) → m3 c p = m2 c p := fun c p q => (congrFun (congrFun e3 _) _).trans (up_ne q)
  have x3 : m3 336 8 = 0 := (congrFun (congrFun e3 _) _).trans (up_at _ _ _ _)
  have f4 : ∀ c p : Int, ¬ (c = 336 ∧ p = 9) → m4 c p = m3 c p := fun c p q => (congrFun (congrFun e4 _) _).trans (up_ne q)
  have f5 : ∀ c p : Int, ¬ (c = 336 ∧ p = 12) → m5 c p = m4 c p := fun c p q => (congrFun (congrFun e5 _) _).trans (up_ne q)
  have F : ∀ c p : Int, ¬ (c = 336 ∧ (p = 14 ∨ p = 8 ∨ p = 9 ∨ p = 12)) → m5 c p = m1 c p := fun c p q => by rw [f5 c p (by omega), f4 c p (by omega), f3 c p (by omega), f2 c p (by omega)]
  refine ⟨hS.k336, ?_⟩
  have b85 := hm5.f_336_8
  refine hc m5 _ hm5 (hi m5 (fun c p q => ?_) ?_ ?_ ?_) (fun m6 hm6 n6 => ?_) (fun m6 hm6 p6 y6 => ?_)
  · rw [F c p (by omega), f1 c p (by omega)]
  · rw [F 339 _ (by omega), ← et, x1]
  · rw [f5 336 14 (by omega), f4 336 14 (by omega), f3 336 14 (by omega), x2]
  · rw [f5 336 8 (by omega), f4 336 8 (by omega), x3]
  · exact ⟨402, L 402 0 m6 hm6 (Or.inl ⟨rfl, n6, by decide⟩)⟩
  · have b86 := hm6.f_336_8
    exact ⟨402, L 402 1 m6 hm6 (Or.inr ⟨rfl, p6, by omega⟩)⟩
theorem bq_342 : ∀ p : Nat, p < 117 → bd 342 p = bd 346 p := by decide +kernel
theorem bq_0 : ∀ p : Nat, p < 158 → 117 ≤ p → (bd 346 p).1 ≤ 0 ∧ 0 ≤ (bd 346 p).2 := by decide +kernel
theorem bq_342z : ∀ p : Nat, p < 10 → (bd 342 p).1 ≤ 0 ∧ 0 ≤ (bd 342 p).2 := by decide +kernel
theorem zk_dairy12 {S : Sh} {m0 : Mm} {K : Int → Mm → Prop} (hS : Shp S) (hj : Jc S m0) (hk : ∀ (r : Int) (M1 : Mm), Jc S M1 → (∀ c p : Int, spP c p → ¬ c = 346 → ¬ (c = 336 ∧ p = 1) → M1 c p = m0 c p) → M1 336 1 = 0 → K r M1) : wp_X12_dairy S m0 336 K := by
  obtain ⟨X, eX⟩ : ∃ X : Mm, X = sf m0 := ⟨_, rfl⟩
  have hm0 : Inv X S m0 := by rw [eX]; exact hj.inv
  have xe : ∀ c p : Int, ¬ c = -1 → X c p = m0 c p := fun c p h => by rw [eX]; exact sf_e m0 h
  refine u_X12_dairy ?_
  refine g_C ?_
  refine g_put 11 rfl hS.k336 (hm0.w_336_11 (by decide) (by decide)) (fun m1 e1 hm1 => ?_)
  have x1 : m1 336 11 = 6 := (congrFun (congrFun e1 _) _).trans (up_at _ _ _ _)
  refine g_C ?_
  -- behind a good reading
  have good : ∀ m9 : Mm, Inv X S m9 → PR m9 → ∃ n : Nat, wp_X12_dairy_44 S K n 336 0 (up m9 336 1 0) := by
    intro m9 hm9 hp9
    obtain ⟨m, em⟩ : ∃ m : Mm, m = up m9 336 1 0 := ⟨_, rfl⟩
    have fm : ∀ c p : Int, ¬ (c = 336 ∧ p = 1) → m c p = m9 c p := fun c p q => by rw [em]; exact up_ne q
    have x1m : m 336 1 = 0 := by rw [em]; exact up_at _ _ _ _
    have j : Jc S m := by rw [em]; exact (Jc.of hm9).len12 (by decide) (by decide)
    have hm := j.inv
    have hp : PR m := hp9.same (fun p => fm 342 p (by omega))
    rw [← em]
    have c4 := hm.f_342_4
    have c5 := hm.f_342_5
    have last : ∀ m' : Mm, (∀ c p : Int, ¬ (c = 346 ∧ 0 ≤ p ∧ p < 158) → m' c p = m c p) → (∀ i : Int, 0 ≤ i → i < 158 → m' 346 i = if i < 117 then m 342 i else 0) → ∀ m'' : Mm, (∀ c p : Int, ¬ (c = 336 ∧ p = 25) → m'' c p = m' c p) → m'' 336 25 = 0 → Jc S m'' ∧ (∀ c p : Int, ¬ c = 346 → ¬ (c = 336 ∧ p = 25) → m'' c p = m c p) := by
      intro m' f hc m'' f2 x2
      have F : ∀ c p : Int, ¬ (c = 346 ∧ 0 ≤ p ∧ p < 158) → ¬ (c = 336 ∧ p = 25) → m'' c p = m c p := fun c p q1 q2 => (f2 c p q2).trans (f c p q1)
      have hc2 : ∀ i : Int, 0 ≤ i → i < 117 → m'' 346 i = m 342 i := fun i i0 i1 => by rw [f2 346 i (by omega), hc i i0 (by omega), if_pos i1]
      refine ⟨j.chg (fun c p hc' hp' => ?_) (fun i => F 30 i (by omega) (by omega)) (F 55 1 (by omega) (by omega)) ?_ ?_, ?_⟩
      · by_cases z : (c : Int) = 346 ∧ (p : Int) < 158
        · have z1 : c = 346 := by omega
          subst z1
          refine Or.inr ?_
          rw [show ((346 : Nat) : Int) = 346 from rfl]
          by_cases z2 : (p : Int) < 117
          · rw [hc2 p (by omega) z2, ← bq_342 p (by omega)]
            exact j.1 342 p (by decide) (by rw [pT_said.2.2.2]; omega)
          · rw [f2 346 p (by omega), hc p (by omega) (by omega), if_neg z2]
            exact Or.inr (bq_0 p (by omega) (by omega))
        · by_cases z2 : (c : Int) = 336 ∧ (p : Int) = 25
          · have z3 : c = 336 := by omega
            have z4 : p = 25 := by omega
            subst z3 z4
            refine Or.inr ?_
            rw [show ((336 : Nat) : Int) = 336 from rfl, show ((25 : Nat) : Int) = 25 from rfl, x2]
            exact okb_of (l := 0) (u := 20) (by decide +kernel) (by decide) (by decide)
          · exact Or.inl (F c p (by omega) z2)
      · exact j.2.2.2.1.eq (fun p q => F 336 p (by omega) (by omega)) (fun c p q => F c p (by omega) (by omega))
      · obtain ⟨p1, p2, p3⟩ := j.2.2.2.2
        have e4 : m'' 354 = m 354 := funext (fun p => F 354 p (by omega) (by omega))
        unfold PL3
        rw [x2, e4]
        refine ⟨⟨fun a a0 a1 => ?_, fun a a0 a1 => ?_⟩, fun i i0 i1 => absurd i1 (by omega), p3⟩
        · rw [hc2 4 (by decide) (by decide)] at a1
          rw [hc2 _ (by omega) (by omega), hc2 0 (by decide) (by decide)]
          exact hp.1 a a0 a1
        · rw [hc2 5 (by decide) (by decide)] at a1
          rw [hc2 _ (by omega) (by omega), hc2 0 (by decide) (by decide)]
          exact hp.2 a a0 a1
      · exact fun c p a b => F c p (by omega) b
    have L : ∀ (n : Nat) (k : Int) (m' : Mm), 0 ≤ k → k ≤ 158 → (∀ c p : Int, ¬ (c = 346 ∧ 0 ≤ p ∧ p < 158) → m' c p = m c p) → (∀ i : Int, 0 ≤ i → i < k → m' 346 i = if i < 117 then m 342 i else 0) → 159 - k ≤ (n : Int) → wp_X12_dairy_44 S K n 336 k m' := by
      intro n
      induction n with
      | zero => intro k m' _ _ _ _ h; exfalso; omega
      | succ n ih =>
        intro k m' k0 k1 f hc h
        have e20 : m' 336 20 = 346 := (f 336 20 (by omega)).trans hm.f_336_20
        have e7 : m' 336 7 = 342 := (f 336 7 (by omega)).trans hm.f_336_7
        refine u_X12_dairy_44 ?_
        refine g_C ?_
        refine g_if (fun w => ?_) (fun w => ?_)
        · refine g_C ?_
          refine g_putR 25 rfl hS.k336 (fun m2 e2 => ?_)
          have f2 : ∀ c p : Int, ¬ (c = 336 ∧ p = 25) → m2 c p = m' c p := fun c p q => (congrFun (congrFun e2 _) _).trans (up_ne q)
          have x2 : m2 336 25 = 0 := (congrFun (congrFun e2 _) _).trans (up_at _ _ _ _)
          refine g_getr 20 346 rfl hS.k336 ((f2 336 20 (by omega)).trans e20) (by decide) ?_
          refine g_C ?_
          refine g_ldu hS.k346 hS.l346 (by omega) (by omega) (fun v ev => ?_)
          obtain ⟨jl, fl⟩ := last m' f (fun i i0 i1 => hc i i0 (by omega)) m2 f2 x2
          refine hk _ m2 jl (fun c p hs q1 q2 => ?_) ((fl 336 1 (by omega) (by omega)).trans x1m)
          rw [fl c p q1 (fun z => absurd hs (by rw [z.1, z.2]; decide)), fm c p q2, hm9.g hs, xe c p (spP_ne hs)]
        · have nx : ∀ x : Int, (x = if k < 117 then m 342 k else 0) → wp_X12_dairy_72 S (fun a0 a1 M => wp_X12_dairy_44 S K n a0 a1 M) K 336 k 346 k x m' := by
            intro x hx
            refine u_X12_dairy_72 ?_
            refine g_stR hS.k346 hS.l346 (by omega) (by omega) (fun m2 e2 => ?_)
            have f2 : ∀ c p : Int, ¬ (c = 346 ∧ p = k) → m2 c p = m' c p := fun c p q => (congrFun (congrFun e2 _) _).trans (up_ne q)
            have x2 : m2 346 k = x := (congrFun (congrFun e2 _) _).trans (up_at _ _ _ _)
            refine g_A (by omega) (by omega) ?_
            refine ih (k + 1) m2 (by omega) (by omega) (fun c p q => (f2 c p (by omega)).trans (f c p q)) (fun i i0 i1 => ?_) (by omega)
            by_cases e : i = k
            · rw [e, x2, hx]
            · rw [f2 346 i (by omega)]
              exact hc i i0 (by omega)
          refine g_getr 20 346 rfl hS.k336 e20 (by decide) ?_
          refine g_C ?_
          refine g_if (fun w2 => g_C (nx 0 (by rw [if_neg (by omega)]))) (fun w2 => ?_)
          refine g_getr 7 342 rfl hS.k336 e7 (by decide) ?_
          refine g_ldu hS.k342 hS.l342 (by omega) (by omega) (fun x ex => ?_)
          exact nx x (by rw [if_pos (by omega), ex, f 342 _ (by omega)])
    exact ⟨159, L 159 0 m (by omega) (by omega) (fun _ _ _ => rfl) (fun i i0 i1 => absurd i1 (by omega)) (by omega)⟩
  have L : ∀ (n : Nat) (k : Int) (m : Mm), Inv X S m → m 336 11 = 6 → 0 ≤ k → k ≤ 10 → (∀ i : Int, 0 ≤ i → i < k → m 342 i = 0) → 11 - k ≤ (n : Int) → wp_X12_dairy_8 S K n 336 k m := by
    intro n
    induction n with
    | zero => intro k m _ _ _ _ _ h; exfalso; omega
    | succ n ih =>
      intro k m hm t k0 k1 hz h
      refine u_X12_dairy_8 ?_
      refine g_C ?_
      refine g_if (fun w => ?_) (fun w => ?_)
      · refine ⟨hS.k336, ?_⟩
        refine zg_readsAll (fun m => PR m ∧ m 336 11 = 6 ∧ m 336 14 ≤ 40) hS hm (by omega) (fun m m1 p f h8 => ⟨p.1.same (fun q => f 342 q (by omega)), (f 336 11 (by omega)).trans p.2.1, by rw [f 336 14 (by omega)]; exact p.2.2⟩) (fun m3 f3 z39 z14 z8 => ?_) (fun m K' hm p hf hk => zq_clauseD hS hm p.1 p.2.1 p.2.2 hf (fun M1 h1 h2 h3 h4 h5 => hk M1 h1 ⟨h2, h3, h4⟩ h5)) (fun m3 hm3 => ?_) (fun m3 hm3 r3 => ?_)
        · refine ⟨?_, (f3 336 11 (by omega)).trans t, by omega⟩
          have p4 : m3 342 4 = 0 := (f3 342 4 (by omega)).trans (hz 4 (by decide) (by omega))
          have p5 : m3 342 5 = 0 := (f3 342 5 (by omega)).trans (hz 5 (by decide) (by omega))
          exact ⟨fun a a0 a1 => absurd a1 (by omega), fun a a0 a1 => absurd a1 (by omega)⟩
        · refine g_ifF (by decide) ?_
          refine g_C ?_
          have j3 : Jc S (up m3 336 1 0) := (Jc.of hm3).len12 (by decide) (by decide)
          refine g_get 9 (0) (4000) rfl hS.k336 j3.inv.f_336_9 (fun v4 ev4 bv4 cv4 => ?_)
          refine g_S (by omega) (by omega) ?_
          exact hk _ _ j3 (fun c p hs q1 q2 => (up_ne q2).trans ((hm3.g hs).trans (xe c p (spP_ne hs)))) (up_at _ _ _ _)
        · refine g_ifT (by decide) ?_
          refine g_C ?_
          exact good m3 hm3 r3.1
      · refine g_getr 7 342 rfl hS.k336 hm.f_336_7 (by decide) ?_
        refine g_C ?_
        refine g_st hS.k342 hS.l342 (by omega) (by omega) (hm.w342 (by omega) (Or.inr (bq_342z k.toNat (by omega)))) (fun m2 e2 hm2 => ?_)
        have f2 : ∀ c p : Int, ¬ (c = 342 ∧ p = k) → m2 c p = m c p := fun c p q => (congrFun (congrFun e2 _) _).trans (up_ne q)
        have x2 : m2 342 k = 0 := (congrFun (congrFun e2 _) _).trans (up_at _ _ _ _)
        refine g_A (by omega) (by omega) ?_
        refine ih (k + 1) m2 hm2 ((f2 336 11 (by omega)).trans t) (by omega) (by omega) (fun i i0 i1 => ?_) (by omega)
        by_cases e : i = k
        · rw [e, x2]
        · rw [f2 342 i (by omega)]
          exact hz i i0 (by omega)
  exact ⟨11, L 11 0 m1 hm1 x1 (by omega) (by omega) (fun i i0 i1 => absurd i1 (by omega)) (by omega)⟩
theorem JX.tape2 {S S1 : Sh} {m0 m2 : Mm} (h : JX S m0) (j : Jc S1 m2) (F : ∀ c p : Int, spP c p → ¬ c = 346 → ¬ (c = 1 ∧ p = 1) → ¬ (c = 336 ∧ (p = 1 ∨ p = 2)) → ¬ (c = 0 ∧ p = 7) → m2 c p = m0 c p) (e1 : m2 1 1 = m2 336 1) (e2 : m2 0 7 = m2 336 2) : JX S1 m2 := by
  obtain ⟨jc, xr, ⟨⟨a1, a2, a3⟩, a4, a5⟩⟩ := h
  refine ⟨j, ?_, ?_⟩
  · unfold Xr at xr ⊢
    rw [F 3 3 (by decide) (by omega) (by omega) (by omega) (by omega), F 336 22 (by decide) (by omega) (by omega) (by omega) (by omega), F 76 3 (by decide) (by omega) (by omega) (by omega) (by omega), F 356 0 (by decide) (by omega) (by omega) (by omega) (by omega), F 76 9 (by decide) (by omega) (by omega) (by omega) (by omega), F 357 0 (by decide) (by omega) (by omega) (by omega) (by omega), F 101 3 (by decide) (by omega) (by omega) (by omega) (by omega), F 356 1 (by decide) (by omega) (by omega) (by omega) (by omega), F 101 9 (by decide) (by omega) (by omega) (by omega) (by omega), F 357 1 (by decide) (by omega) (by omega) (by omega) (by omega), F 126 3 (by decide) (by omega) (by omega) (by omega) (by omega), F 356 2 (by decide) (by omega) (by omega) (by omega) (by omega), F 126 9 (by decide) (by omega) (by omega) (by omega) (by omega), F 357 2 (by decide) (by omega) (by omega) (by omega) (by omega), F 151 3 (by decide) (by omega) (by omega) (by omega) (by omega), F 356 3 (by decide) (by omega) (by omega) (by omega) (by omega), F 151 9 (by decide) (by omega) (by omega) (by omega) (by omega), F 357 3 (by decide) (by omega) (by omega) (by omega) (by omega)]
    exact xr
  · unfold Ya
    rw [F 3 2 (by decide) (by omega) (by omega) (by omega) (by omega), F 336 21 (by decide) (by omega) (by omega) (by omega) (by omega), F 76 2 (by decide) (by omega) (by omega) (by omega) (by omega), F 355 0 (by decide) (by omega) (by omega) (by omega) (by omega), F 357 0 (by decide) (by omega) (by omega) (by omega) (by omega), F 101 2 (by decide) (by omega) (by omega) (by omega) (by omega), F 355 1 (by decide) (by omega) (by omega) (by omega) (by omega), F 357 1 (by decide) (by omega) (by omega) (by omega) (by omega), F 126 2 (by decide) (by omega) (by omega) (by omega) (by omega), F 355 2 (by decide) (by omega) (by omega) (by omega) (by omega), F 357 2 (by decide) (by omega) (by omega) (by omega) (by omega), F 151 2 (by decide) (by omega) (by omega) (by omega) (by omega), F 355 3 (by decide) (by omega) (by omega) (by omega) (by omega), F 357 3 (by decide) (by omega) (by omega) (by omega) (by omega)]
    refine ⟨⟨e1, fun p p0 p1 => ?_, e2⟩, a4, a5⟩
    rw [F 2 p (by omega) (by omega) (by omega) (by omega) (by omega), F 337 p (by omega) (by omega) (by omega) (by omega) (by omega)]
    exact a2 p p0 p1
theorem zk_dairy11 {S : Sh} {m0 : Mm} {K : Int → Mm → Prop} (hS : Shp S) (hj : Jc S m0) (hk : ∀ (r : Int) (M1 : Mm), Jc S M1 → (∀ c p : Int, spP c p → ¬ (c = 1 ∧ p = 1) → M1 c p = m0 c p) → M1 1 1 = 0 → K r M1) : wp_X11_dairy S m0 0 K := by
  have hm0 := hj.inv
  refine u_X11_dairy ?_
  refine g_getr 8 31 rfl hS.k0 hm0.f_0_8 (by decide) ?_
  refine ⟨hS.k31, ?_⟩
  refine z_X0_read hS hm0 (fun v1 m2 hm2 bv1 cv1 => ?_)
  refine g_getr 0 1 rfl hS.k0 hm2.f_0_0 (by decide) ?_
  refine g_C ?_
  refine g_putR 1 rfl hS.k1 (fun m3 em3 => ?_)
  have j3 : Jc S m3 := by rw [em3]; exact (Jc.of hm2).len11 (by decide) (by decide)
  have hm3 := j3.inv
  have f3 : ∀ c p : Int, spP c p → ¬ (c = 1 ∧ p = 1) → m3 c p = m0 c p := fun c p hs q => by rw [em3, up_ne q, hm2.g hs, sf_e m0 (spP_ne hs)]
  have x3 : m3 1 1 = 0 := by rw [em3]; exact up_at _ _ _ _
  have fin : ∀ (r : Int) (m : Mm), Inv (sf m3) S m → K r m := fun r m h => hk r m (Jc.of h) (fun c p hs q => by rw [h.g hs, sf_e m3 (spP_ne hs), f3 c p hs q]) (by rw [h.g (c := 1) (p := 1) (by decide), sf_e m3 (by decide), x3])
  refine g_if (fun w4 => ?_) (fun w4 => ?_)
  · refine g_getr 1 3 rfl hS.k0 hm3.f_0_1 (by decide) ?_
    refine g_getr 0 4 rfl hS.k3 hm3.f_3_0 (by decide) ?_
    refine g_getr 8 31 rfl hS.k0 hm3.f_0_8 (by decide) ?_
    refine g_getr 1 32 rfl hS.k31 hm3.f_31_1 (by decide) ?_
    refine ⟨hS.k4, ?_⟩
    refine z_X8_become hS hm3 (by decide) (by decide) (fun m5 hm5 => ?_)
    refine g_getr 1 3 rfl hS.k0 hm5.f_0_1 (by decide) ?_
    refine g_getr 1 16 rfl hS.k3 hm5.f_3_1 (by decide) ?_
    refine g_getr 8 31 rfl hS.k0 hm5.f_0_8 (by decide) ?_
    refine g_getr 2 44 rfl hS.k31 hm5.f_31_2 (by decide) ?_
    refine ⟨hS.k16, ?_⟩
    refine z_X5_become hS hm5 (by decide) (by decide) (fun m6 hm6 => ?_)
    refine g_getr 1 3 rfl hS.k0 hm6.f_0_1 (by decide) ?_
    refine g_C ?_
    refine g_put 4 rfl hS.k3 (hm6.w_3_4 (by omega) (by omega)) (fun m7 em7 hm7 => ?_)
    refine g_C ?_
    refine g_put 5 rfl hS.k0 (hm7.w_0_5 (by omega) (by omega)) (fun m8 em8 hm8 => ?_)
    refine g_getr 1 3 rfl hS.k0 hm8.f_0_1 (by decide) ?_
    refine g_getr 0 4 rfl hS.k3 hm8.f_3_0 (by decide) ?_
    refine g_get 5 (0) (4) rfl hS.k4 hm8.f_4_5 (fun v9 ev9 bv9 cv9 => ?_)
    exact fin v9 m8 hm8
  · refine g_C ?_
    refine g_getr 0 1 rfl hS.k0 hm3.f_0_0 (by decide) ?_
    refine g_get 4 (0) (4000) rfl hS.k1 hm3.f_1_4 (fun v10 ev10 bv10 cv10 => ?_)
    refine g_S (by omega) (by omega) ?_
    exact fin ((-2) - v10) m3 hm3
/-- dairy of the class, then of the reference: what is held of both stays -/
theorem zj_dairy {S : Sh} {m0 : Mm} {K : Int → Int → Mm → Prop} {K1 : Int → Mm → Prop} (hS : Shp S) (hj : JX S m0) (hK : ∀ (r : Int) (M : Mm), wp_X12_dairy S M 336 (fun r2 M2 => K r r2 M2) → K1 r M) (hk : ∀ (r r2 : Int) (M1 : Mm), JX S M1 → K r r2 M1) : wp_X11_dairy S m0 0 K1 := by
  refine zk_dairy11 hS hj.1 (fun r m1 j1 f1 x1 => ?_)
  refine hK _ _ ?_
  refine zk_dairy12 hS j1 (fun r2 m2 j2 f2 x2 => ?_)
  refine hk r r2 m2 (hj.tape2 j2 (fun c p hs q0 q1 q2 q3 => by rw [f2 c p hs q0 (fun z => q2 ⟨z.1, Or.inl z.2⟩), f1 c p hs q1]) ?_ ?_)
  · rw [f2 1 1 (by decide) (by omega) (by omega), x1, x2]
  · rw [f2 0 7 (by decide) (by omega) (by omega), f1 0 7 (by decide) (by omega), f2 336 2 (by decide) (by omega) (by omega), f1 336 2 (by decide) (by omega)]
    exact hj.2.2.1.2.2
