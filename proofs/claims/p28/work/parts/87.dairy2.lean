theorem bq_342 : ∀ p : Nat, p < 117 → bd 342 p = bd 346 p := by decide +kernel
theorem bq_0 : ∀ p : Nat, p < 158 → 117 ≤ p → (bd 346 p).1 ≤ 0 ∧ 0 ≤ (bd 346 p).2 := by decide +kernel
theorem bq_342z : ∀ p : Nat, p < 10 → (bd 342 p).1 ≤ 0 ∧ 0 ≤ (bd 342 p).2 := by decide +kernel
theorem zj_dairy12 {S : Sh} {m0 : Mm} {K : Int → Mm → Prop} (hS : Shp S) (hj : JX S m0) (hk : ∀ (r : Int) (M1 : Mm), JX S M1 → K r M1) : wp_X12_dairy S m0 336 K := by
  obtain ⟨X, eX⟩ : ∃ X : Mm, X = sf m0 := ⟨_, rfl⟩
  have hm0 : Inv X S m0 := by rw [eX]; exact hj.inv
  have fin : ∀ (r : Int) (M1 : Mm), Inv X S M1 → K r M1 := fun r M1 h => hk r M1 (hj.of (by rw [← eX]; exact h))
  refine u_X12_dairy ?_
  refine g_C ?_
  refine g_put 11 rfl hS.k336 (hm0.w_336_11 (by decide) (by decide)) (fun m1 e1 hm1 => ?_)
  have x1 : m1 336 11 = 6 := (congrFun (congrFun e1 _) _).trans (up_at _ _ _ _)
  refine g_C ?_
  -- behind a good reading
  have good : ∀ m : Mm, Inv X S m → PR m → ∃ n : Nat, wp_X12_dairy_44 S K n 336 0 m := by
    intro m hm hp
    have j := hj.of (M1 := m) (by rw [← eX]; exact hm)
    have c4 := hm.f_342_4
    have c5 := hm.f_342_5
    have last : ∀ m' : Mm, (∀ c p : Int, ¬ (c = 346 ∧ 0 ≤ p ∧ p < 158) → m' c p = m c p) → (∀ i : Int, 0 ≤ i → i < 158 → m' 346 i = if i < 117 then m 342 i else 0) → ∀ m'' : Mm, (∀ c p : Int, ¬ (c = 336 ∧ p = 25) → m'' c p = m' c p) → m'' 336 25 = 0 → JX S m'' := by
      intro m' f hc m'' f2 x2
      have F : ∀ c p : Int, ¬ (c = 346 ∧ 0 ≤ p ∧ p < 158) → ¬ (c = 336 ∧ p = 25) → m'' c p = m c p := fun c p q1 q2 => (f2 c p q2).trans (f c p q1)
      have hc2 : ∀ i : Int, 0 ≤ i → i < 117 → m'' 346 i = m 342 i := fun i i0 i1 => by rw [f2 346 i (by omega), hc i i0 (by omega), if_pos i1]
      refine ⟨j.1.chg (fun c p hc' hp' => ?_) (fun i => F 30 i (by omega) (by omega)) (F 55 1 (by omega) (by omega)) ?_ ?_, ?_⟩
      · by_cases z : (c : Int) = 346 ∧ (p : Int) < 158
        · have z1 : c = 346 := by omega
          subst z1
          refine Or.inr ?_
          rw [show ((346 : Nat) : Int) = 346 from rfl]
          by_cases z2 : (p : Int) < 117
          · rw [hc2 p (by omega) z2, ← bq_342 p (by omega)]
            exact j.1.1 342 p (by decide) (by rw [pT_said.2.2.2]; omega)
          · rw [f2 346 p (by omega), hc p (by omega) (by omega), if_neg z2]
            exact Or.inr (bq_0 p (by omega) (by omega))
        · by_cases z2 : (c : Int) = 336 ∧ (p : Int) = 25
          · have z3 : c = 336 := by omega
            have z4 : p = 25 := by omega
            subst z3 z4
            refine Or.inr ?_
            rw [show ((336 : Nat) : Int) = 336 from rfl, show ((25 : Nat) : Int) = 25 from rfl, x2]
            exact okb_of (l := 0) (u := 20) (by decide +kernel) (by decide) (by decide)
          · exact Or.inl (F c p (by omega) z2)
      · exact j.1.2.2.2.1.eq (fun p q => F 336 p (by omega) (by omega)) (fun c p q => F c p (by omega) (by omega))
      · obtain ⟨p1, p2, p3⟩ := j.1.2.2.2.2
        have e4 : m'' 354 = m 354 := funext (fun p => F 354 p (by omega) (by omega))
        unfold PL3
        rw [x2, e4]
        refine ⟨⟨fun a a0 a1 => ?_, fun a a0 a1 => ?_⟩, fun i i0 i1 => absurd i1 (by omega), p3⟩
        · rw [hc2 4 (by decide) (by decide)] at a1
          rw [hc2 _ (by omega) (by omega), hc2 0 (by decide) (by decide)]
          exact hp.1 a a0 a1
        · rw [hc2 5 (by decide) (by decide)] at a1
          rw [hc2 _ (by omega) (by omega), hc2 0 (by decide) (by decide)]
          exact hp.2 a a0 a1
      · have k6 := j.2
        have G : ∀ c p : Int, ¬ c = 346 → ¬ (c = 336 ∧ p = 25) → m'' c p = m c p := fun c p a b => F c p (by omega) b
        unfold Xr at k6 ⊢
        rw [G 3 3 (by omega) (by omega), G 336 22 (by omega) (by omega), G 76 3 (by omega) (by omega), G 76 9 (by omega) (by omega), G 101 3 (by omega) (by omega), G 101 9 (by omega) (by omega), G 126 3 (by omega) (by omega), G 126 9 (by omega) (by omega), G 151 3 (by omega) (by omega), G 151 9 (by omega) (by omega), G 356 0 (by omega) (by omega), G 356 1 (by omega) (by omega), G 356 2 (by omega) (by omega), G 356 3 (by omega) (by omega), G 357 0 (by omega) (by omega), G 357 1 (by omega) (by omega), G 357 2 (by omega) (by omega), G 357 3 (by omega) (by omega)]
        exact k6
    have L : ∀ (n : Nat) (k : Int) (m' : Mm), 0 ≤ k → k ≤ 158 → (∀ c p : Int, ¬ (c = 346 ∧ 0 ≤ p ∧ p < 158) → m' c p = m c p) → (∀ i : Int, 0 ≤ i → i < k → m' 346 i = if i < 117 then m 342 i else 0) → 159 - k ≤ (n : Int) → wp_X12_dairy_44 S K n 336 k m' := by
      intro n
      induction n with
      | zero => intro k m' _ _ _ _ h; exfalso; omega
      | succ n ih =>
        intro k m' k0 k1 f hc h
        have e20 : m' 336 20 = 346 := (f 336 20 (by omega)).trans hm.f_336_20
        have e7 : m' 336 7 = 342 := (f 336 7 (by omega)).trans hm.f_336_7
        refine u_X12_dairy_44 ?_
        refine g_C ?_
        refine g_if (fun w => ?_) (fun w => ?_)
        · refine g_C ?_
          refine g_putR 25 rfl hS.k336 (fun m2 e2 => ?_)
          have f2 : ∀ c p : Int, ¬ (c = 336 ∧ p = 25) → m2 c p = m' c p := fun c p q => (congrFun (congrFun e2 _) _).trans (up_ne q)
          have x2 : m2 336 25 = 0 := (congrFun (congrFun e2 _) _).trans (up_at _ _ _ _)
          refine g_getr 20 346 rfl hS.k336 ((f2 336 20 (by omega)).trans e20) (by decide) ?_
          refine g_C ?_
          refine g_ldu hS.k346 hS.l346 (by omega) (by omega) (fun v ev => ?_)
          exact hk _ m2 (last m' f (fun i i0 i1 => hc i i0 (by omega)) m2 f2 x2)
        · have nx : ∀ x : Int, (x = if k < 117 then m 342 k else 0) → wp_X12_dairy_72 S (fun a0 a1 M => wp_X12_dairy_44 S K n a0 a1 M) K 336 k 346 k x m' := by
            intro x hx
            refine u_X12_dairy_72 ?_
            refine g_stR hS.k346 hS.l346 (by omega) (by omega) (fun m2 e2 => ?_)
            have f2 : ∀ c p : Int, ¬ (c = 346 ∧ p = k) → m2 c p = m' c p := fun c p q => (congrFun (congrFun e2 _) _).trans (up_ne q)
            have x2 : m2 346 k = x := (congrFun (congrFun e2 _) _).trans (up_at _ _ _ _)
            refine g_A (by omega) (by omega) ?_
            refine ih (k + 1) m2 (by omega) (by omega) (fun c p q => (f2 c p (by omega)).trans (f c p q)) (fun i i0 i1 => ?_) (by omega)
            by_cases e : i = k
            · rw [e, x2, hx]
            · rw [f2 346 i (by omega)]
              exact hc i i0 (by omega)
          refine g_getr 20 346 rfl hS.k336 e20 (by decide) ?_
          refine g_C ?_
          refine g_if (fun w2 => g_C (nx 0 (by rw [if_neg (by omega)]))) (fun w2 => ?_)
          refine g_getr 7 342 rfl hS.k336 e7 (by decide) ?_
          refine g_ldu hS.k342 hS.l342 (by omega) (by omega) (fun x ex => ?_)
          exact nx x (by rw [if_pos (by omega), ex, f 342 _ (by omega)])
    exact ⟨159, L 159 0 m (by omega) (by omega) (fun _ _ _ => rfl) (fun i i0 i1 => absurd i1 (by omega)) (by omega)⟩
  have L : ∀ (n : Nat) (k : Int) (m : Mm), Inv X S m → m 336 11 = 6 → 0 ≤ k → k ≤ 10 → (∀ i : Int, 0 ≤ i → i < k → m 342 i = 0) → 11 - k ≤ (n : Int) → wp_X12_dairy_8 S K n 336 k m := by
    intro n
    induction n with
    | zero => intro k m _ _ _ _ _ h; exfalso; omega
    | succ n ih =>
      intro k m hm t k0 k1 hz h
      refine u_X12_dairy_8 ?_
      refine g_C ?_
      refine g_if (fun w => ?_) (fun w => ?_)
      · refine ⟨hS.k336, ?_⟩
        refine zg_readsAll (fun m => PR m ∧ m 336 11 = 6 ∧ m 336 14 ≤ 40) hS hm (by omega) (fun m m1 p f h8 => ⟨p.1.same (fun q => f 342 q (by omega)), (f 336 11 (by omega)).trans p.2.1, by rw [f 336 14 (by omega)]; exact p.2.2⟩) (fun m3 f3 z39 z14 z8 => ?_) (fun m K' hm p hf hk => zq_clauseD hS hm p.1 p.2.1 p.2.2 hf (fun M1 h1 h2 h3 h4 h5 => hk M1 h1 ⟨h2, h3, h4⟩ h5)) (fun m3 hm3 => ?_) (fun m3 hm3 r3 => ?_)
        · refine ⟨?_, (f3 336 11 (by omega)).trans t, by omega⟩
          have p4 : m3 342 4 = 0 := (f3 342 4 (by omega)).trans (hz 4 (by decide) (by omega))
          have p5 : m3 342 5 = 0 := (f3 342 5 (by omega)).trans (hz 5 (by decide) (by omega))
          exact ⟨fun a a0 a1 => absurd a1 (by omega), fun a a0 a1 => absurd a1 (by omega)⟩
        · refine g_ifF (by decide) ?_
          refine g_C ?_
          refine g_get 9 (0) (4000) rfl hS.k336 hm3.f_336_9 (fun v4 ev4 bv4 cv4 => ?_)
          refine g_S (by omega) (by omega) ?_
          exact fin _ m3 hm3
        · refine g_ifT (by decide) ?_
          refine g_C ?_
          exact good m3 hm3 r3.1
      · refine g_getr 7 342 rfl hS.k336 hm.f_336_7 (by decide) ?_
        refine g_C ?_
        refine g_st hS.k342 hS.l342 (by omega) (by omega) (hm.w342 (by omega) (Or.inr (bq_342z k.toNat (by omega)))) (fun m2 e2 hm2 => ?_)
        have f2 : ∀ c p : Int, ¬ (c = 342 ∧ p = k) → m2 c p = m c p := fun c p q => (congrFun (congrFun e2 _) _).trans (up_ne q)
        have x2 : m2 342 k = 0 := (congrFun (congrFun e2 _) _).trans (up_at _ _ _ _)
        refine g_A (by omega) (by omega) ?_
        refine ih (k + 1) m2 hm2 ((f2 336 11 (by omega)).trans t) (by omega) (by omega) (fun i i0 i1 => ?_) (by omega)
        by_cases e : i = k
        · rw [e, x2]
        · rw [f2 342 i (by omega)]
          exact hz i i0 (by omega)
  exact ⟨11, L 11 0 m1 hm1 x1 (by omega) (by omega) (fun i i0 i1 => absurd i1 (by omega)) (by omega)⟩
