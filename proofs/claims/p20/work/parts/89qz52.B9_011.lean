theorem zu_dairy12 {S : Sh} {m0 : Mm} {K : Int → Mm → Prop} {tb : Int → Int} {tn : Int} {D : Dd} (hS : Shp S) (hj : Jc S m0) (hR : TR m0 tb tn) (hD0 : ∀ p : Int, 0 ≤ p → p < 10 → D p = 0) (hD1 : ∀ p : Int, 10 ≤ p → p < 117 → D p = m0 342 p) (hf : ∀ (f : Int) (M1 : Mm), Jc S M1 → (∀ c p : Int, ¬ fr2_W c p → M1 c p = m0 c p) → (∀ c p : Int, lw3 m0 c p → M1 c p = m0 c p) → M1 336 1 = 0 → ¬ f = 0 → DA tb tn 0 0 0 0 0 D f dz → K (-2 - f) M1) (hk : ∀ (E : Dd) (M1 : Mm), Jc S M1 → (∀ c p : Int, ¬ fr2_W c p → ¬ c = 346 → ¬ (c = 336 ∧ p = 25) → M1 c p = m0 c p) → (∀ c p : Int, lw3 m0 c p → M1 c p = m0 c p) → M1 336 25 = 0 → M1 336 1 = 0 → DA tb tn 0 0 0 0 0 D 0 E → (∀ p : Int, 0 ≤ p → p < 117 → M1 346 p = E p) → (∀ p : Int, 117 ≤ p → p < 158 → M1 346 p = 0) → K (E 5) M1) : wp_X12_dairy S m0 336 K := by
  obtain ⟨X, eX⟩ : ∃ X : Mm, X = sf m0 := ⟨_, rfl⟩
  have hm0 : Inv X S m0 := by rw [eX]; exact hj.inv
  have xe : ∀ c p : Int, ¬ c = -1 → X c p = m0 c p := fun c p h => by rw [eX]; exact sf_e m0 h
  have hRX : TR X tb tn := ⟨(xe 336 1 (by decide)).trans hR.1, hR.2.1, fun p p0 p1 => ⟨(xe 337 p (by decide)).trans (hR.2.2 p p0 p1).1, (hR.2.2 p p0 p1).2⟩⟩
  refine u_X12_dairy ?_
  refine g_C ?_
  refine g_put 11 rfl hS.k336 (hm0.w_336_11 (by decide) (by decide)) (fun m1 e1 hm1 => ?_)
  have f1 : ∀ c p : Int, ¬ (c = 336 ∧ p = 11) → m1 c p = m0 c p := fun c p q => (congrFun (congrFun e1 _) _).trans (up_ne q)
  have x1 : m1 336 11 = 6 := (congrFun (congrFun e1 _) _).trans (up_at _ _ _ _)
  refine g_C ?_
  -- behind a good reading
  have good : ∀ (m9 : Mm) (E : Dd), Inv X S m9 → (∀ c p : Int, ¬ fr2_W c p → up m9 336 1 0 c p = m0 c p) → PR m9 → Rd E m9 → DA tb tn 0 0 0 0 0 D 0 E → ∃ n : Nat, wp_X12_dairy_44 S K n 336 0 (up m9 336 1 0) := by
    intro m9 E hm9 fr9 hp9 rd9 da9
    obtain ⟨m, em⟩ : ∃ m : Mm, m = up m9 336 1 0 := ⟨_, rfl⟩
    have fm : ∀ c p : Int, ¬ (c = 336 ∧ p = 1) → m c p = m9 c p := fun c p q => by rw [em]; exact up_ne q
    have x1m : m 336 1 = 0 := by rw [em]; exact up_at _ _ _ _
    have j : Jc S m := by rw [em]; exact (Jc.of hm9).len12 (by decide) (by decide)
    have hm := j.inv
    have hp : PR m := hp9.same (fun p => fm 342 p (by omega))
    rw [← em] at fr9 ⊢
    have c4 := hm.f_342_4
    have c5 := hm.f_342_5
    have last : ∀ m' : Mm, (∀ c p : Int, ¬ (c = 346 ∧ 0 ≤ p ∧ p < 158) → m' c p = m c p) → (∀ i : Int, 0 ≤ i → i < 158 → m' 346 i = if i < 117 then m 342 i else 0) → ∀ m'' : Mm, (∀ c p : Int, ¬ (c = 336 ∧ p = 25) → m'' c p = m' c p) → m'' 336 25 = 0 → Jc S m'' ∧ (∀ c p : Int, ¬ c = 346 → ¬ (c = 336 ∧ p = 25) → m'' c p = m c p) := by
      intro m' f hc m'' f2 x2
      have F : ∀ c p : Int, ¬ (c = 346 ∧ 0 ≤ p ∧ p < 158) → ¬ (c = 336 ∧ p = 25) → m'' c p = m c p := fun c p q1 q2 => (f2 c p q2).trans (f c p q1)
      have hc2 : ∀ i : Int, 0 ≤ i → i < 117 → m'' 346 i = m 342 i := fun i i0 i1 => by rw [f2 346 i (by omega), hc i i0 (by omega), if_pos i1]
      refine ⟨j.chg (fun c p hc' hp' => ?_) (fun i => F 30 i (by omega) (by omega)) (F 55 1 (by omega) (by omega)) ?_ ?_, ?_⟩
      · by_cases z : (c : Int) = 346 ∧ (p : Int) < 158
        · have z1 : c = 346 := by omega
          subst z1
          refine Or.inr ?_
          rw [show ((346 : Nat) : Int) = 346 from rfl]
          by_cases z2 : (p : Int) < 117
          · rw [hc2 p (by omega) z2, ← bq_342 p (by omega)]
            exact j.1 342 p (by decide) (by rw [pT_said.2.2.2]; omega)
          · rw [f2 346 p (by omega), hc p (by omega) (by omega), if_neg z2]
            exact Or.inr (bq_0 p (by omega) (by omega))
        · by_cases z2 : (c : Int) = 336 ∧ (p : Int) = 25
          · have z3 : c = 336 := by omega
            have z4 : p = 25 := by omega
            subst z3 z4
            refine Or.inr ?_
            rw [show ((336 : Nat) : Int) = 336 from rfl, show ((25 : Nat) : Int) = 25 from rfl, x2]
            exact okb_of (l := 0) (u := 20) (by decide +kernel) (by decide) (by decide)
          · exact Or.inl (F c p (by omega) z2)
      · exact j.2.2.2.1.eq (fun p q => F 336 p (by omega) (by omega)) (fun c p q => F c p (by omega) (by omega))
      · obtain ⟨p1, p2, p3⟩ := j.2.2.2.2
        have e4 : m'' 354 = m 354 := funext (fun p => F 354 p (by omega) (by omega))
        unfold PL3
        rw [x2, e4]
        refine ⟨⟨fun a a0 a1 => ?_, fun a a0 a1 => ?_⟩, fun i i0 i1 => absurd i1 (by omega), p3⟩
        · rw [hc2 4 (by decide) (by decide)] at a1
          rw [hc2 _ (by omega) (by omega), hc2 0 (by decide) (by decide)]
          exact hp.1 a a0 a1
        · rw [hc2 5 (by decide) (by decide)] at a1
          rw [hc2 _ (by omega) (by omega), hc2 0 (by decide) (by decide)]
          exact hp.2 a a0 a1
      · exact fun c p a b => F c p (by omega) b
    have L : ∀ (n : Nat) (k : Int) (m' : Mm), 0 ≤ k → k ≤ 158 → (∀ c p : Int, ¬ (c = 346 ∧ 0 ≤ p ∧ p < 158) → m' c p = m c p) → (∀ i : Int, 0 ≤ i → i < k → m' 346 i = if i < 117 then m 342 i else 0) → 159 - k ≤ (n : Int) → wp_X12_dairy_44 S K n 336 k m' := by
      intro n
      induction n with
      | zero => intro k m' _ _ _ _ h; exfalso; omega
      | succ n ih =>
        intro k m' k0 k1 f hc h
        have e20 : m' 336 20 = 346 := (f 336 20 (by omega)).trans hm.f_336_20
        have e7 : m' 336 7 = 342 := (f 336 7 (by omega)).trans hm.f_336_7
        refine u_X12_dairy_44 ?_
        refine g_C ?_
        refine g_if (fun w => ?_) (fun w => ?_)
        · refine g_C ?_
          refine g_putR 25 rfl hS.k336 (fun m2 e2 => ?_)
          have f2 : ∀ c p : Int, ¬ (c = 336 ∧ p = 25) → m2 c p = m' c p := fun c p q => (congrFun (congrFun e2 _) _).trans (up_ne q)
          have x2 : m2 336 25 = 0 := (congrFun (congrFun e2 _) _).trans (up_at _ _ _ _)
          refine g_getr 20 346 rfl hS.k336 ((f2 336 20 (by omega)).trans e20) (by decide) ?_
          refine g_C ?_
          refine g_ldu hS.k346 hS.l346 (by omega) (by omega) (fun v ev => ?_)
          obtain ⟨jl, fl⟩ := last m' f (fun i i0 i1 => hc i i0 (by omega)) m2 f2 x2
          have sE : ∀ p : Int, 0 ≤ p → p < 117 → m2 346 p = E p := fun p p0 p1 => by rw [f2 346 p (by omega), hc p p0 (by omega), if_pos p1, fm 342 p (by omega)]; exact rd9 p p0 p1
          have s0 : ∀ p : Int, 117 ≤ p → p < 158 → m2 346 p = 0 := fun p p0 p1 => by rw [f2 346 p (by omega), hc p (by omega) (by omega), if_neg (by omega)]
          have ev' : v = E 5 := ev.trans (sE 5 (by decide) (by decide))
          rw [ev']
          refine hk E m2 jl (fun c p hs q1 q2 => by rw [fl c p q1 q2, fr9 c p hs]) (fun c p hs => ?_) x2 ((fl 336 1 (by omega) (by omega)).trans x1m) da9 sE s0
          unfold lw3 at hs
          have hs2 : X 336 2 = m0 336 2 := xe 336 2 (by decide)
          rw [fl c p (by omega) (by omega), fm c p (by omega), hm9.2.1 c p (Or.inr (by omega)), xe c p (by omega)]
        · have nx : ∀ x : Int, (x = if k < 117 then m 342 k else 0) → wp_X12_dairy_72 S (fun a0 a1 M => wp_X12_dairy_44 S K n a0 a1 M) K 336 k 346 k x m' := by
            intro x hx
            refine u_X12_dairy_72 ?_
            refine g_stR hS.k346 hS.l346 (by omega) (by omega) (fun m2 e2 => ?_)
            have f2 : ∀ c p : Int, ¬ (c = 346 ∧ p = k) → m2 c p = m' c p := fun c p q => (congrFun (congrFun e2 _) _).trans (up_ne q)
            have x2 : m2 346 k = x := (congrFun (congrFun e2 _) _).trans (up_at _ _ _ _)
            refine g_A (by omega) (by omega) ?_
            refine ih (k + 1) m2 (by omega) (by omega) (fun c p q => (f2 c p (by omega)).trans (f c p q)) (fun i i0 i1 => ?_) (by omega)
            by_cases e : i = k
            · rw [e, x2, hx]
            · rw [f2 346 i (by omega)]
              exact hc i i0 (by omega)
          refine g_getr 20 346 rfl hS.k336 e20 (by decide) ?_
          refine g_C ?_
          refine g_if (fun w2 => g_C (nx 0 (by rw [if_neg (by omega)]))) (fun w2 => ?_)
          refine g_getr 7 342 rfl hS.k336 e7 (by decide) ?_
          refine g_ldu hS.k342 hS.l342 (by omega) (by omega) (fun x ex => ?_)
          exact nx x (by rw [if_pos (by omega), ex, f 342 _ (by omega)])
    exact ⟨159, L 159 0 m (by omega) (by omega) (fun _ _ _ => rfl) (fun i i0 i1 => absurd i1 (by omega)) (by omega)⟩
  have L : ∀ (n : Nat) (k : Int) (m : Mm), Inv X S m → (∀ c p : Int, ¬ fr2_W c p → m c p = m0 c p) → m 336 11 = 6 → 0 ≤ k → k ≤ 10 → (∀ i : Int, 0 ≤ i → i < k → m 342 i = 0) → (∀ i : Int, 10 ≤ i → m 342 i = m0 342 i) → 11 - k ≤ (n : Int) → wp_X12_dairy_8 S K n 336 k m := by
    intro n
    induction n with
    | zero => intro k m _ _ _ _ _ _ _ h; exfalso; omega
    | succ n ih =>
      intro k m hm fm0 t k0 k1 hz ho h
      refine u_X12_dairy_8 ?_
      refine g_C ?_
      refine g_if (fun w => ?_) (fun w => ?_)
      · refine ⟨hS.k336, ?_⟩
        have p4 : m 342 4 = 0 := hz 4 (by decide) (by omega)
        have p5 : m 342 5 = 0 := hz 5 (by decide) (by omega)
        refine fz_readsAll (G := m) hm (fun _ _ _ => rfl) ?_
        refine zc_readsAll (T := fun f E => DA tb tn 0 0 0 0 0 D f E) hS hm hRX t (fun p p0 p1 => ?_) ⟨fun a a0 a1 => absurd a1 (by omega), fun a a0 a1 => absurd a1 (by omega)⟩ (hD0 0 (by decide) (by decide)) (fun f E h => h) (fun m3 hm3 n3 t3 fr => ?_) (fun m3 E hm3 p3 r3 t3 fr => ?_)
        · by_cases e : p < 10
          · rw [hz p p0 (by omega), hD0 p p0 e]
          · rw [ho p (by omega), hD1 p (by omega) p1]
        · have b9 := hm3.f_336_9
          refine g_ifF (by decide) ?_
          refine g_C ?_
          have j3 : Jc S (up m3 336 1 0) := (Jc.of hm3).len12 (by decide) (by decide)
          refine g_getu 9 rfl hS.k336 (fun v4 ev4 => ?_)
          have e9 : v4 = m3 336 9 := ev4.trans (up_ne (by omega))
          refine g_S (by omega) (by omega) ?_
          rw [e9]
          refine hf _ _ j3 (fun c p hs => (fr c p hs).trans (fm0 c p hs)) (fun c p hs => ?_) (up_at _ _ _ _) n3 t3
          unfold lw3 at hs
          have hs2 : X 336 2 = m0 336 2 := xe 336 2 (by decide)
          rw [up_ne (by omega), hm3.2.1 c p (Or.inr (by omega)), xe c p (by omega)]
        · refine g_ifT (by decide) ?_
          refine g_C ?_
          exact good m3 E hm3 (fun c p hs => (fr c p hs).trans (fm0 c p hs)) p3 r3 t3
      · refine g_getr 7 342 rfl hS.k336 hm.f_336_7 (by decide) ?_
        refine g_C ?_
        refine g_st hS.k342 hS.l342 (by omega) (by omega) (hm.w342 (by omega) (Or.inr (bq_342z k.toNat (by omega)))) (fun m2 e2 hm2 => ?_)
        have f2 : ∀ c p : Int, ¬ (c = 342 ∧ p = k) → m2 c p = m c p := fun c p q => (congrFun (congrFun e2 _) _).trans (up_ne q)
        have x2 : m2 342 k = 0 := (congrFun (congrFun e2 _) _).trans (up_at _ _ _ _)
        refine g_A (by omega) (by omega) ?_
        refine ih (k + 1) m2 hm2 (fun c p q => (f2 c p (fun z => q (by unfold fr2_W; omega))).trans (fm0 c p q)) ((f2 336 11 (by omega)).trans t) (by omega) (by omega) (fun i i0 i1 => ?_) (fun i i0 => (f2 342 i (by omega)).trans (ho i i0)) (by omega)
        by_cases e : i = k
        · rw [e, x2]
        · rw [f2 342 i (by omega)]
          exact hz i i0 (by omega)
  exact ⟨11, L 11 0 m1 hm1 (fun c p q => f1 c p (fun z => q (by unfold fr2_W; omega))) x1 (by omega) (by omega) (fun i i0 i1 => absurd i1 (by omega)) (fun i i0 => f1 342 i (by omega)) (by omega)⟩
