theorem zy_dairy12 {S : Sh} {m0 : Mm} {K : Int → Mm → Prop} {tb : Int → Int} {tn : Int} {D : Dd} (hS : Shp S) (hj : Jc S m0) (hR : TR m0 tb tn) (hD0 : ∀ p : Int, 0 ≤ p → p < 10 → D p = 0) (hD1 : ∀ p : Int, 10 ≤ p → p < 117 → D p = m0 342 p) (hf : ∀ (f : Int) (M1 : Mm), Jc S M1 → (∀ c p : Int, spP c p → ¬ c = 346 → ¬ (c = 336 ∧ p = 1) → M1 c p = m0 c p) → M1 336 1 = 0 → ¬ f = 0 → DA tb tn 0 0 0 0 0 D f dz → K (-2 - f) M1) (hk : ∀ (E : Dd) (M1 : Mm), Jc S M1 → (∀ c p : Int, spP c p → ¬ c = 346 → ¬ (c = 336 ∧ p = 1) → M1 c p = m0 c p) → M1 336 1 = 0 → DA tb tn 0 0 0 0 0 D 0 E → (∀ p : Int, 0 ≤ p → p < 117 → M1 346 p = E p) → (∀ p : Int, 117 ≤ p → p < 158 → M1 346 p = 0) → K (E 5) M1) : wp_X12_dairy S m0 336 K := by
  obtain ⟨X, eX⟩ : ∃ X : Mm, X = sf m0 := ⟨_, rfl⟩
  have hm0 : Inv X S m0 := by rw [eX]; exact hj.inv
  have xe : ∀ c p : Int, ¬ c = -1 → X c p = m0 c p := fun c p h => by rw [eX]; exact sf_e m0 h
  have hRX : TR X tb tn := ⟨(xe 336 1 (by decide)).trans hR.1, hR.2.1, fun p p0 p1 => ⟨(xe 337 p (by decide)).trans (hR.2.2 p p0 p1).1, (hR.2.2 p p0 p1).2⟩⟩
  refine u_X12_dairy ?_
  refine g_C ?_
  refine g_put 11 rfl hS.k336 (hm0.w_336_11 (by decide) (by decide)) (fun m1 e1 hm1 => ?_)
  have f1 : ∀ c p : Int, ¬ (c = 336 ∧ p = 11) → m1 c p = m0 c p := fun c p q => (congrFun (congrFun e1 _) _).trans (up_ne q)
  have x1 : m1 336 11 = 6 := (congrFun (congrFun e1 _) _).trans (up_at _ _ _ _)
  refine g_C ?_
  -- behind a good reading
  have good : ∀ (m9 : Mm) (E : Dd), Inv X S m9 → PR m9 → Rd E m9 → DA tb tn 0 0 0 0 0 D 0 E → ∃ n : Nat, wp_X12_dairy_44 S K n 336 0 (up m9 336 1 0) := by
    intro m9 E hm9 hp9 rd9 da9
    obtain ⟨m, em⟩ : ∃ m : Mm, m = up m9 336 1 0 := ⟨_, rfl⟩
    have fm : ∀ c p : Int, ¬ (c = 336 ∧ p = 1) → m c p = m9 c p := fun c p q => by rw [em]; exact up_ne q
    have x1m : m 336 1 = 0 := by rw [em]; exact up_at _ _ _ _
    have j : Jc S m := by rw [em]; exact (Jc.of hm9).len12 (by decide) (by decide)
    have hm := j.inv
    have hp : PR m := hp9.same (fun p => fm 342 p (by omega))
    rw [← em]
    have c4 := hm.f_342_4
    have c5 := hm.f_342_5
    have last : ∀ m' : Mm, (∀ c p : Int, ¬ (c = 346 ∧ 0 ≤ p ∧ p < 158) → m' c p = m c p) → (∀ i : Int, 0 ≤ i → i < 158 → m' 346 i = if i < 117 then m 342 i else 0) → ∀ m'' : Mm, (∀ c p : Int, ¬ (c = 336 ∧ p = 25) → m'' c p = m' c p) → m'' 336 25 = 0 → Jc S m'' ∧ (∀ c p : Int, ¬ c = 346 → ¬ (c = 336 ∧ p = 25) → m'' c p = m c p) := by
      intro m' f hc m'' f2 x2
      have F : ∀ c p : Int, ¬ (c = 346 ∧ 0 ≤ p ∧ p < 158) → ¬ (c = 336 ∧ p = 25) → m'' c p = m c p := fun c p q1 q2 => (f2 c p q2).trans (f c p q1)
      have hc2 : ∀ i : Int, 0 ≤ i → i < 117 → m'' 346 i = m 342 i := fun i i0 i1 => by rw [f2 346 i (by omega), hc i i0 (by omega), if_pos i1]
      refine ⟨j.chg (fun c p hc' hp' => ?_) (fun i => F 30 i (by omega) (by omega)) (F 55 1 (by omega) (by omega)) ?_ ?_, ?_⟩
      · by_cases z : (c : Int) = 346 ∧ (p : Int) < 158
        · have z1 : c = 346 := by omega
          subst z1
          refine Or.inr ?_
          rw [show ((346 : Nat) : Int) = 346 from rfl]
          by_cases z2 : (p : Int) < 117
          · rw [hc2 p (by omega) z2, ← bq_342 p (by omega)]
            exact j.1 342 p (by decide) (by rw [pT_said.2.2.2]; omega)
          · rw [f2 346 p (by omega), hc p (by omega) (by omega), if_neg z2]
            exact Or.inr (bq_0 p (by omega) (by omega))
        · by_cases z2 : (c : Int) = 336 ∧ (p : Int) = 25
          · have z3 : c = 336 := by omega
            have z4 : p = 25 := by omega
            subst z3 z4
            refine Or.inr ?_
            rw [show ((336 : Nat) : Int) = 336 from rfl, show ((25 : Nat) : Int) = 25 from rfl, x2]
            exact okb_of (l := 0) (u := 20) (by decide +kernel) (by decide) (by decide)
          · exact Or.inl (F c p (by omega) z2)
      · exact j.2.2.2.1.eq (fun p q => F 336 p (by omega) (by omega)) (fun c p q => F c p (by omega) (by omega))
      · obtain ⟨p1, p2, p3⟩ := j.2.2.2.2
        have e4 : m'' 354 = m 354 := funext (fun p => F 354 p (by omega) (by omega))
        unfold PL3
        rw [x2, e4]
        refine ⟨⟨fun a a0 a1 => ?_, fun a a0 a1 => ?_⟩, fun i i0 i1 => absurd i1 (by omega), p3⟩
        · rw [hc2 4 (by decide) (by decide)] at a1
          rw [hc2 _ (by omega) (by omega), hc2 0 (by decide) (by decide)]
          exact hp.1 a a0 a1
        · rw [hc2 5 (by decide) (by decide)] at a1
          rw [hc2 _ (by omega) (by omega), hc2 0 (by decide) (by decide)]
          exact hp.2 a a0 a1
      · exact fun c p a b => F c p (by omega) b
    have L : ∀ (n : Nat) (k : Int) (m' : Mm), 0 ≤ k → k ≤ 158 → (∀ c p : Int, ¬ (c = 346 ∧ 0 ≤ p ∧ p < 158) → m' c p = m c p) → (∀ i : Int, 0 ≤ i → i < k → m' 346 i = if i < 117 then m 342 i else 0) → 159 - k ≤ (n : Int) → wp_X12_dairy_44 S K n 336 k m' := by
      intro n
      induction n with
      | zero => intro k m' _ _ _ _ h; exfalso; omega
      | succ n ih =>
        intro k m' k0 k1 f hc h
        have e20 : m' 336 20 = 346 := (f 336 20 (by omega)).trans hm.f_336_20
        have e7 : m' 336 7 = 342 := (f 336 7 (by omega)).trans hm.f_336_7
        refine u_X12_dairy_44 ?_
        refine g_C ?_
        refine g_if (fun w => ?_) (fun w => ?_)
        · refine g_C ?_
          refine g_putR 25 rfl hS.k336 (fun m2 e2 => ?_)
          have f2 : ∀ c p : Int, ¬ (c = 336 ∧ p = 25) → m2 c p = m' c p := fun c p q => (congrFun (congrFun e2 _) _).trans (up_ne q)
          have x2 : m2 336 25 = 0 := (congrFun (congrFun e2 _) _).trans (up_at _ _ _ _)
          refine g_getr 20 346 rfl hS.k336 ((f2 336 20 (by omega)).trans e20) (by decide) ?_
          refine g_C ?_
          refine g_ldu hS.k346 hS.l346 (by omega) (by omega) (fun v ev => ?_)
          obtain ⟨jl, fl⟩ := last m' f (fun i i0 i1 => hc i i0 (by omega)) m2 f2 x2
          have sE : ∀ p : Int, 0 ≤ p → p < 117 → m2 346 p = E p := fun p p0 p1 => by rw [f2 346 p (by omega), hc p p0 (by omega), if_pos p1, fm 342 p (by omega)]; exact rd9 p p0 p1
          have s0 : ∀ p : Int, 117 ≤ p → p < 158 → m2 346 p = 0 := fun p p0 p1 => by rw [f2 346 p (by omega), hc p (by omega) (by omega), if_neg (by omega)]
          have ev' : v = E 5 := ev.trans (sE 5 (by decide) (by decide))
          rw [ev']
          refine hk E m2 jl (fun c p hs q1 q2 => ?_) ((fl 336 1 (by omega) (by omega)).trans x1m) da9 sE s0
          rw [fl c p q1 (fun z => absurd hs (by rw [z.1, z.2]; decide)), fm c p q2, hm9.g hs, xe c p (spP_ne hs)]
        · have nx : ∀ x : Int, (x = if k < 117 then m 342 k else 0) → wp_X12_dairy_72 S (fun a0 a1 M => wp_X12_dairy_44 S K n a0 a1 M) K 336 k 346 k x m' := by
            intro x hx
            refine u_X12_dairy_72 ?_
            refine g_stR hS.k346 hS.l346 (by omega) (by omega) (fun m2 e2 => ?_)
            have f2 : ∀ c p : Int, ¬ (c = 346 ∧ p = k) → m2 c p = m' c p := fun c p q => (congrFun (congrFun e2 _) _).trans (up_ne q)
            have x2 : m2 346 k = x := (congrFun (congrFun e2 _) _).trans (up_at _ _ _ _)
            refine g_A (by omega) (by omega) ?_
            refine ih (k + 1) m2 (by omega) (by omega) (fun c p q => (f2 c p (by omega)).trans (f c p q)) (fun i i0 i1 => ?_) (by omega)
            by_cases e : i = k
            · rw [e, x2, hx]
            · rw [f2 346 i (by omega)]
              exact hc i i0 (by omega)
          refine g_getr 20 346 rfl hS.k336 e20 (by decide) ?_
          refine g_C ?_
          refine g_if (fun w2 => g_C (nx 0 (by rw [if_neg (by omega)]))) (fun w2 => ?_)
          refine g_getr 7 342 rfl hS.k336 e7 (by decide) ?_
          refine g_ldu hS.k342 hS.l342 (by omega) (by omega) (fun x ex => ?_)
          exact nx x (by rw [if_pos (by omega), ex, f 342 _ (by omega)])
    exact ⟨159, L 159 0 m (by omega) (by omega) (fun _ _ _ => rfl) (fun i i0 i1 => absurd i1 (by omega)) (by omega)⟩
  have L : ∀ (n : Nat) (k : Int) (m : Mm), Inv X S m → m 336 11 = 6 → 0 ≤ k → k ≤ 10 → (∀ i : Int, 0 ≤ i → i < k → m 342 i = 0) → (∀ i : Int, 10 ≤ i → m 342 i = m0 342 i) → 11 - k ≤ (n : Int) → wp_X12_dairy_8 S K n 336 k m := by
    intro n
    induction n with
    | zero => intro k m _ _ _ _ _ _ h; exfalso; omega
    | succ n ih =>
      intro k m hm t k0 k1 hz ho h
      refine u_X12_dairy_8 ?_
      refine g_C ?_
      refine g_if (fun w => ?_) (fun w => ?_)
      · refine ⟨hS.k336, ?_⟩
        have p4 : m 342 4 = 0 := hz 4 (by decide) (by omega)
        have p5 : m 342 5 = 0 := hz 5 (by decide) (by omega)
        refine zc_readsAll (T := fun f E => DA tb tn 0 0 0 0 0 D f E) hS hm hRX t (fun p p0 p1 => ?_) ⟨fun a a0 a1 => absurd a1 (by omega), fun a a0 a1 => absurd a1 (by omega)⟩ (hD0 0 (by decide) (by decide)) (fun f E h => h) (fun m3 hm3 n3 t3 => ?_) (fun m3 E hm3 p3 r3 t3 => ?_)
        · by_cases e : p < 10
          · rw [hz p p0 (by omega), hD0 p p0 e]
          · rw [ho p (by omega), hD1 p (by omega) p1]
        · have b9 := hm3.f_336_9
          refine g_ifF (by decide) ?_
          refine g_C ?_
          have j3 : Jc S (up m3 336 1 0) := (Jc.of hm3).len12 (by decide) (by decide)
          refine g_getu 9 rfl hS.k336 (fun v4 ev4 => ?_)
          have e9 : v4 = m3 336 9 := ev4.trans (up_ne (by omega))
          refine g_S (by omega) (by omega) ?_
          rw [e9]
          exact hf _ _ j3 (fun c p hs q1 q2 => (up_ne q2).trans ((hm3.g hs).trans (xe c p (spP_ne hs)))) (up_at _ _ _ _) n3 t3
        · refine g_ifT (by decide) ?_
          refine g_C ?_
          exact good m3 E hm3 p3 r3 t3
      · refine g_getr 7 342 rfl hS.k336 hm.f_336_7 (by decide) ?_
        refine g_C ?_
        refine g_st hS.k342 hS.l342 (by omega) (by omega) (hm.w342 (by omega) (Or.inr (bq_342z k.toNat (by omega)))) (fun m2 e2 hm2 => ?_)
        have f2 : ∀ c p : Int, ¬ (c = 342 ∧ p = k) → m2 c p = m c p := fun c p q => (congrFun (congrFun e2 _) _).trans (up_ne q)
        have x2 : m2 342 k = 0 := (congrFun (congrFun e2 _) _).trans (up_at _ _ _ _)
        refine g_A (by omega) (by omega) ?_
        refine ih (k + 1) m2 hm2 ((f2 336 11 (by omega)).trans t) (by omega) (by omega) (fun i i0 i1 => ?_) (fun i i0 => (f2 342 i (by omega)).trans (ho i i0)) (by omega)
        by_cases e : i = k
        · rw [e, x2]
        · rw [f2 342 i (by omega)]
          exact hz i i0 (by omega)
  exact ⟨11, L 11 0 m1 hm1 x1 (by omega) (by omega) (fun i i0 i1 => absurd i1 (by omega)) (fun i i0 => f1 342 i (by omega)) (by omega)⟩
theorem zy_dairy11 {S : Sh} {m0 : Mm} {K : Int → Mm → Prop} {tb : Int → Int} {tn : Int} {D : Dd} (hS : Shp S) (hj : Jc S m0) (hC : TC m0 tb tn) (hD0 : ∀ p : Int, 0 ≤ p → p < 10 → D p = 0) (hf : ∀ (f : Int) (M1 : Mm), Jc S M1 → (∀ c p : Int, spP c p → ¬ (c = 1 ∧ p = 1) → M1 c p = m0 c p) → (∀ c p : Int, 336 ≤ c → M1 c p = m0 c p) → M1 1 1 = 0 → ¬ f = 0 → DA tb tn 0 0 0 0 0 D f dz → K (-2 - f) M1) (hk : ∀ (E : Dd) (M1 : Mm), Jc S M1 → (∀ c p : Int, spP c p → ¬ (c = 1 ∧ p = 1) → M1 c p = m0 c p) → (∀ c p : Int, 336 ≤ c → M1 c p = m0 c p) → M1 1 1 = 0 → DA tb tn 0 0 0 0 0 D 0 E → TL 4 E M1 → K (E 5) M1) : wp_X11_dairy S m0 0 K := by
  obtain ⟨X, eX⟩ : ∃ X : Mm, X = sf m0 := ⟨_, rfl⟩
  have hm0 : Inv X S m0 := by rw [eX]; exact hj.inv
  have xe : ∀ c p : Int, ¬ c = -1 → X c p = m0 c p := fun c p h => by rw [eX]; exact sf_e m0 h
  have hCX : TC X tb tn := ⟨(xe 1 1 (by decide)).trans hC.1, hC.2.1, fun p p0 p1 => ⟨(xe 2 p (by decide)).trans (hC.2.2 p p0 p1).1, (hC.2.2 p p0 p1).2⟩⟩
  refine u_X11_dairy ?_
  refine g_getr 8 31 rfl hS.k0 hm0.f_0_8 (by decide) ?_
  refine ⟨hS.k31, ?_⟩
  have three : ∀ m2 : Mm, Inv X S m2 → ∀ m3 : Mm, m3 = up m2 1 1 0 → Jc S m3 ∧ (∀ c p : Int, spP c p → ¬ (c = 1 ∧ p = 1) → m3 c p = m0 c p) ∧ m3 1 1 = 0 := by
    intro m2 hm2 m3 em3
    refine ⟨by rw [em3]; exact (Jc.of hm2).len11 (by decide) (by decide), fun c p hs q => by rw [em3, up_ne q, hm2.g hs, xe c p (spP_ne hs)], by rw [em3]; exact up_at _ _ _ _⟩
  refine zn_read (T := fun f E => DA tb tn 0 0 0 0 0 D f E) hS hm0 hCX hD0 (fun f E h => h) (fun m2 hm2 f2 n2 t2 => ?_) (fun m2 E hm2 f2 lc t2 => ?_)
  · refine g_getr 0 1 rfl hS.k0 hm2.f_0_0 (by decide) ?_
    refine g_C ?_
    refine g_putR 1 rfl hS.k1 (fun m3 em3 => ?_)
    obtain ⟨j3, f3, x3⟩ := three m2 hm2 m3 em3
    have hm3 := j3.inv
    have e4 : m3 1 4 = m2 1 4 := by rw [em3]; exact up_ne (by omega)
    refine g_ifF (by decide) ?_
    refine g_C ?_
    refine g_getr 0 1 rfl hS.k0 hm3.f_0_0 (by decide) ?_
    refine g_get 4 (0) (4000) rfl hS.k1 hm3.f_1_4 (fun v ev bv cv => ?_)
    refine g_S (by omega) (by omega) ?_
    rw [ev, e4]
    exact hf _ m3 j3 f3 (fun c p z => by rw [em3, up_ne (by omega)]; exact f2 c p z) x3 n2 t2
  · refine g_getr 0 1 rfl hS.k0 hm2.f_0_0 (by decide) ?_
    refine g_C ?_
    refine g_putR 1 rfl hS.k1 (fun m3 em3 => ?_)
    obtain ⟨j3, f3, x3⟩ := three m2 hm2 m3 em3
    have hm3 := j3.inv
    have e5 : m3 32 5 = E 5 := by rw [em3, up_ne (by omega)]; exact lc.1.2.2.2.2.2.1
    have F3 : ∀ c p : Int, 336 ≤ c → m3 c p = m0 c p := fun c p z => by rw [em3, up_ne (by omega)]; exact f2 c p z
    refine g_ifT (by decide) ?_
    refine g_getr 1 3 rfl hS.k0 hm3.f_0_1 (by decide) ?_
    refine g_getr 0 4 rfl hS.k3 hm3.f_3_0 (by decide) ?_
    refine g_getr 8 31 rfl hS.k0 hm3.f_0_8 (by decide) ?_
    refine g_getr 1 32 rfl hS.k31 hm3.f_31_1 (by decide) ?_
    refine ⟨hS.k4, ?_⟩
    refine zb_told hS hm3 (by decide) (by decide) (by decide) (fun m5 hm5 f5 c0 c1 c2 c3 c4 y5 c6 c7 w1 _ w3 w4 w5 w6 w7 w8 w9 w10 w11 => ?_)
    refine g_getr 1 3 rfl hS.k0 hm5.f_0_1 (by decide) ?_
    refine g_getr 1 16 rfl hS.k3 hm5.f_3_1 (by decide) ?_
    refine g_getr 8 31 rfl hS.k0 hm5.f_0_8 (by decide) ?_
    refine g_getr 2 44 rfl hS.k31 hm5.f_31_2 (by decide) ?_
    refine ⟨hS.k16, ?_⟩
    refine zb_state hS hm5 (by decide) (by decide) (by decide) (fun m6 hm6 f6 _ _ _ _ _ _ _ _ _ => ?_)
    refine g_getr 1 3 rfl hS.k0 hm6.f_0_1 (by decide) ?_
    refine g_C ?_
    refine g_put 4 rfl hS.k3 (hm6.w_3_4 (by omega) (by omega)) (fun m7 em7 hm7 => ?_)
    refine g_C ?_
    refine g_put 5 rfl hS.k0 (hm7.w_0_5 (by omega) (by omega)) (fun m8 em8 hm8 => ?_)
    refine g_getr 1 3 rfl hS.k0 hm8.f_0_1 (by decide) ?_
    refine g_getr 0 4 rfl hS.k3 hm8.f_3_0 (by decide) ?_
    refine g_getu 5 rfl hS.k4 (fun v ev => ?_)
    have f8 : ∀ c p : Int, ¬ (c = 3 ∧ p = 4) → ¬ (c = 0 ∧ p = 5) → m8 c p = m6 c p := fun c p a1 a2 => by rw [em8, up_ne a2, em7, up_ne a1]
    have ev' : v = E 5 := by rw [ev, f8 4 5 (by omega) (by omega), f6 4 5 (by omega), y5, e5]
    rw [ev']
    refine hk E m8 (Jc.of hm8) (fun c p hs q => by rw [hm8.g hs, sf_e m3 (spP_ne hs), f3 c p hs q]) (fun c p z => by rw [f8 c p (by omega) (by omega), f6 c p (by omega), f5 c p (by omega), F3 c p z]) (by rw [hm8.g (c := 1) (p := 1) (by decide), sf_e m3 (by decide), x3]) t2 ?_
    have g8 : ∀ c p : Int, 4 ≤ c → c ≤ 15 → m8 c p = m5 c p := fun c p a1 a2 => by rw [f8 c p (by omega) (by omega), f6 c p (by omega)]
    have g3 : ∀ c p : Int, 32 ≤ c → m3 c p = m2 c p := fun c p a1 => by rw [em3]; exact up_ne (by omega)
    refine lc.told hm2 (fun i i0 i1 => ?_) (fun p p0 p1 => ?_) (fun p p0 p1 => ⟨?_, ?_⟩) (fun p p0 p1 => ⟨?_, ?_, ?_⟩) (fun p p0 p1 => ⟨?_, ?_, ?_, ?_⟩)
    · rw [g8 4 i (by decide) (by decide), ← g3 32 i (by decide)]
      rcases (show i = 0 ∨ i = 1 ∨ i = 2 ∨ i = 3 ∨ i = 4 ∨ i = 5 ∨ i = 6 ∨ i = 7 by omega) with e | e | e | e | e | e | e | e <;> subst e <;> assumption
    · rw [g8 5 p (by decide) (by decide), ← g3 33 p (by decide)]; exact w1 p p0 p1
    · rw [g8 7 p (by decide) (by decide), ← g3 35 p (by decide)]; exact w3 p p0 p1
    · rw [g8 8 p (by decide) (by decide), ← g3 36 p (by decide)]; exact w4 p p0 p1
    · rw [g8 9 p (by decide) (by decide), ← g3 37 p (by decide)]; exact w5 p p0 p1
    · rw [g8 10 p (by decide) (by decide), ← g3 38 p (by decide)]; exact w6 p p0 p1
    · rw [g8 11 p (by decide) (by decide), ← g3 39 p (by decide)]; exact w7 p p0 p1
    · rw [g8 12 p (by decide) (by decide), ← g3 40 p (by decide)]; exact w8 p p0 p1
    · rw [g8 13 p (by decide) (by decide), ← g3 41 p (by decide)]; exact w9 p p0 p1
    · rw [g8 14 p (by decide) (by decide), ← g3 42 p (by decide)]; exact w10 p p0 p1
    · rw [g8 15 p (by decide) (by decide), ← g3 43 p (by decide)]; exact w11 p p0 p1
/-- dairy of the class, then of the reference: the same answer -/
theorem zy_dairy {S : Sh} {m0 : Mm} {K : Int → Int → Mm → Prop} {K1 : Int → Mm → Prop} (hS : Shp S) (hj : JX S m0) (hK : ∀ (r : Int) (M : Mm), wp_X12_dairy S M 336 (fun r2 M2 => K r r2 M2) → K1 r M) (hk : ∀ (r : Int) (M1 : Mm), JX S M1 → K r r M1) : wp_X11_dairy S m0 0 K1 := by
  have hm0 := hj.inv
  obtain ⟨jc, xr, ⟨⟨a1, a2, a3⟩, a4, a5⟩⟩ := id hj
  have b1 := hm0.f_1_1
  have hC : TC m0 (fun p => m0 2 p) (m0 1 1) := ⟨rfl, b1, fun p p0 p1 => ⟨rfl, hm0.a_2 p0 (by omega)⟩⟩
  have hR : ∀ M : Mm, M 336 1 = m0 336 1 → (∀ p : Int, M 337 p = m0 337 p) → TR M (fun p => m0 2 p) (m0 1 1) := fun M e f => ⟨e.trans a1.symm, b1, fun p p0 p1 => ⟨(f p).trans (a2 p p0 (by omega)).symm, hm0.a_2 p0 (by omega)⟩⟩
  obtain ⟨D, eD⟩ : ∃ D : Dd, D = fun p => if p < 10 then 0 else m0 342 p := ⟨_, rfl⟩
  have d0 : ∀ p : Int, 0 ≤ p → p < 10 → D p = 0 := fun p _ p1 => by rw [eD]; exact if_pos p1
  have d1 : ∀ p : Int, 10 ≤ p → p < 117 → D p = m0 342 p := fun p p0 _ => by rw [eD]; exact if_neg (by omega)
  have fin : ∀ (m1 m2 : Mm), Jc S m2 → (∀ c p : Int, spP c p → ¬ (c = 1 ∧ p = 1) → m1 c p = m0 c p) → m1 1 1 = 0 → (∀ c p : Int, spP c p → ¬ c = 346 → ¬ (c = 336 ∧ p = 1) → m2 c p = m1 c p) → m2 336 1 = 0 → JX S m2 := by
    intro m1 m2 j2 f1 x1 f2 x2
    refine hj.tape2 j2 (fun c p hs q0 q1 q2 q3 => by rw [f2 c p hs q0 (fun z => q2 ⟨z.1, Or.inl z.2⟩), f1 c p hs q1]) ?_ ?_
    · rw [f2 1 1 (by decide) (by omega) (by omega), x1, x2]
    · rw [f2 0 7 (by decide) (by omega) (by omega), f1 0 7 (by decide) (by omega), f2 336 2 (by decide) (by omega) (by omega), f1 336 2 (by decide) (by omega)]
      exact a3
  refine zy_dairy11 hS jc hC d0 (fun f m1 j1 f1 g1 x1 nf da => ?_) (fun E m1 j1 f1 g1 x1 da _ => ?_)
  · refine hK _ _ ?_
    refine zy_dairy12 hS j1 (hR m1 (g1 336 1 (by decide)) (fun p => g1 337 p (by decide))) d0 (fun p p0 p1 => by rw [g1 342 p (by decide)]; exact d1 p p0 p1) (fun f' m2 j2 f2 x2 _ da2 => ?_) (fun E m2 _ _ _ da2 _ _ => absurd (da.det da2).1 nf)
    rw [← (da.det da2).1]
    exact hk _ m2 (fin m1 m2 j2 f1 x1 f2 x2)
  · refine hK _ _ ?_
    refine zy_dairy12 hS j1 (hR m1 (g1 336 1 (by decide)) (fun p => g1 337 p (by decide))) d0 (fun p p0 p1 => by rw [g1 342 p (by decide)]; exact d1 p p0 p1) (fun f' m2 _ _ _ nf da2 => absurd (da2.det da).1 nf) (fun E' m2 j2 f2 x2 da2 _ _ => ?_)
    rw [← (da.det da2).2]
    exact hk _ m2 (fin m1 m2 j2 f1 x1 f2 x2)
