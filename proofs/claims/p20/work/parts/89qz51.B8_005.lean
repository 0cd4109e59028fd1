theorem zw_rule12 {S : Sh} {m0 : Mm} {K : Int → Mm → Prop} {tb : Int → Int} {tn : Int} (hS : Shp S) (hj : Jc S m0) (hR : TR m0 tb tn) (h6 : m0 336 2 = 6 → K (-1) m0) (hf : ∀ (f : Int) (M1 : Mm), Jc S M1 → (∀ c p : Int, ¬ fr2_W c p → M1 c p = m0 c p) → (∀ c p : Int, (c = 338 ∧ p < 400 * m0 336 2) ∨ (c = 340 ∧ p < 48 * m0 336 2) ∨ (c = 341 ∧ p < m0 336 2) → M1 c p = m0 c p) → M1 336 1 = 0 → ¬ m0 336 2 = 6 → Bcc tb tn 0 0 0 [] [] 0 f [] → ¬ f = 0 → K (-2 - f) M1) (hk : ∀ (M1 : Mm) (Cs : List Cz), Jc S M1 → (∀ c p : Int, ¬ fr2_W c p → ¬ (c = 336 ∧ p = 2) → M1 c p = m0 c p) → (∀ c p : Int, (c = 338 ∧ p < 400 * m0 336 2) ∨ (c = 340 ∧ p < 48 * m0 336 2) ∨ (c = 341 ∧ p < m0 336 2) → M1 c p = m0 c p) → M1 336 1 = 0 → M1 336 2 = m0 336 2 + 1 → ¬ m0 336 2 = 6 → Bcc tb tn 0 0 0 [] [] 0 0 (codC Cs) → RwR M1 (m0 336 2) Cs → Tys Cs → K (m0 336 2) M1) : wp_X12_rule S m0 336 K := by
  have hm0 := hj.inv
  obtain ⟨X, eX⟩ : ∃ X : Mm, X = sf m0 := ⟨_, rfl⟩
  have xe : ∀ c p : Int, ¬ c = -1 → X c p = m0 c p := fun c p h => by rw [eX]; exact sf_e m0 h
  have x2 : X 336 2 = m0 336 2 := xe 336 2 (by decide)
  have hRX : TR X tb tn := ⟨(xe 336 1 (by decide)).trans hR.1, hR.2.1, fun p p0 p1 => ⟨(xe 337 p (by decide)).trans (hR.2.2 p p0 p1).1, (hR.2.2 p p0 p1).2⟩⟩
  rw [← eX] at hm0
  have b2 := hm0.f_336_2
  refine u_X12_rule ?_
  refine g_getu 2 rfl hS.k336 (fun v ev => ?_)
  refine g_C ?_
  refine g_if (fun w => ?_) (fun w => g_C (h6 (by omega)))
  refine g_getu 2 rfl hS.k336 (fun v2 ev2 => ?_)
  refine g_put 11 rfl hS.k336 (hm0.w_336_11 (by omega) (by omega)) (fun m1 e1 hm1 => ?_)
  have f1 : ∀ c p : Int, ¬ (c = 336 ∧ p = 11) → m1 c p = m0 c p := fun c p q => (congrFun (congrFun e1 _) _).trans (up_ne q)
  have y1 : m1 336 11 = v2 := (congrFun (congrFun e1 _) _).trans (up_at _ _ _ _)
  refine g_getr 6 341 rfl hS.k336 hm1.f_336_6 (by decide) ?_
  refine g_getu 11 rfl hS.k336 (fun v3 ev3 => ?_)
  refine g_C ?_
  have hw2 : Inv X S (up m1 341 v3 0) := hm1.wA (0, 12) (by decide) (by decide +kernel) (Or.inr ⟨by decide, by decide⟩) (by omega) (by decide) (by decide)
  refine g_st hS.k341 hS.l341 (by omega) (by omega) hw2 (fun m2 e2 hm2 => ?_)
  have f2 : ∀ c p : Int, ¬ (c = 341 ∧ p = v3) → m2 c p = m1 c p := fun c p q => (congrFun (congrFun e2 _) _).trans (up_ne q)
  have y2 : m2 341 v3 = 0 := (congrFun (congrFun e2 _) _).trans (up_at _ _ _ _)
  have t2 : m2 336 11 = X 336 2 := by rw [f2 336 11 (by omega)]; omega
  refine ⟨hS.k336, ?_⟩
  refine fz_readsAll (G := m2) hm2 (fun _ _ _ => rfl) ?_
  have G2 : ∀ c p : Int, ¬ fr2_W c p → m2 c p = m0 c p := fun c p q => by unfold fr2_W at q; rw [f2 c p (by omega), f1 c p (by omega)]
  refine zv_readsAll (T := fun f E => Bcc tb tn 0 0 0 [] [] 0 f E) hS hm2 hRX ⟨t2, by omega, by omega⟩ (by rw [← y2]; congr 1; omega) (fun f E h => h) (fun m3 hm3 a3 n3 fr => ?_) (fun m3 Cs hm3 r3 a3 rq3 tb3 cn3 n3 fr => ?_)
  · have b9 := hm3.f_336_9
    refine g_ifF (by decide) ?_
    refine g_C ?_
    refine g_getu 9 rfl hS.k336 (fun v4 ev4 => ?_)
    have e9 : v4 = m3 336 9 := ev4.trans (up_ne (by omega))
    refine g_S (by omega) (by omega) ?_
    rw [e9]
    exact hf _ _ ((Jc.of hm3).len12 (by decide) (by decide)) (fun c p hs => (fr c p hs).trans (G2 c p hs)) (fun c p hs => (up_ne (by omega)).trans ((hm3.2.1 c p (Or.inr (by omega))).trans (xe c p (by omega)))) (up_at _ _ _ _) (by omega) a3 n3
  · refine g_ifT (by decide) ?_
    obtain ⟨m9, e9⟩ : ∃ m9 : Mm, m9 = up m3 336 1 0 := ⟨_, rfl⟩
    rw [← e9] at fr
    have f9 : ∀ c p : Int, ¬ (c = 336 ∧ p = 1) → m9 c p = m3 c p := fun c p q => by rw [e9]; exact up_ne q
    have j9 : Jc S m9 := by rw [e9]; exact (Jc.of hm3).len12 (by decide) (by decide)
    have z9 : m9 336 1 = 0 := by rw [e9]; exact up_at _ _ _ _
    rw [← e9]
    refine g_getu 2 rfl hS.k336 (fun v4 ev4 => ?_)
    have g4 := hm3.g (c := 336) (p := 2) (by decide)
    rw [f9 336 2 (by omega)] at ev4
    refine g_C ?_
    refine g_A (by omega) (by omega) ?_
    refine g_putR 2 rfl hS.k336 (fun m4 e4 => ?_)
    have f4 : ∀ c p : Int, ¬ (c = 336 ∧ p = 2) → m4 c p = m9 c p := fun c p q => (congrFun (congrFun e4 _) _).trans (up_ne q)
    have y4 : m4 336 2 = v4 + 1 := (congrFun (congrFun e4 _) _).trans (up_at _ _ _ _)
    have j4 : Jc S m4 := by
      obtain ⟨k1, k2, k3, k4, k5⟩ := j9
      obtain ⟨rg, rl, rc, rd, re⟩ := id r3
      have bl := hm3.a_339 (i := X 336 2) (by omega) (by omega)
      refine ⟨fun c p hc hp => ?_, fun i i0 i1 => ?_, ?_, ?_, ?_⟩
      · by_cases e : (c : Int) = 336 ∧ (p : Int) = 2
        · have e1 : c = 336 := by omega
          have e2 : p = 2 := by omega
          subst e1 e2
          rw [show ((336 : Nat) : Int) = 336 from rfl, show ((2 : Nat) : Int) = 2 from rfl, y4]
          exact okb_of (l := 0) (u := 6) (by decide +kernel) (by omega) (by omega)
        · rw [f4 c p e]
          exact k1 c p hc hp
      · rw [f4 30 i (by omega)]; exact k2 i i0 i1
      · rw [f4 55 1 (by omega)]; exact k3
      · obtain ⟨ga, gb, gc, gd⟩ := k4
        have n9 : m9 336 2 = m3 336 2 := f9 336 2 (by omega)
        unfold Good
        rw [f4 336 21 (by omega), y4]
        refine ⟨by omega, fun k k0 k1 => by rw [f4 355 k (by omega), f4 357 k (by omega)]; have := gb k k0 k1; omega, by omega, fun t t0 t1 => ?_⟩
        by_cases et : t = X 336 2
        · unfold rulOK
          rw [et, f4 341 _ (by omega), f9 341 _ (by omega)]
          refine ⟨by omega, fun c c0 c1 => ?_⟩
          rw [f4 340 _ (by omega), f4 340 _ (by omega), f4 340 _ (by omega), f4 340 _ (by omega), f9 340 _ (by omega), f9 340 _ (by omega), f9 340 _ (by omega), f9 340 _ (by omega)]
          obtain ⟨q1, q2⟩ := (re c c0 c1).ok (by omega)
          have hs : ∀ p : Int, 400 * X 336 2 ≤ p → p < 400 * X 336 2 + 400 → m4 338 p = m3 338 p := fun p _ _ => (f4 338 p (by omega)).trans (f9 338 p (by omega))
          refine ⟨pfr_same q1 hs, ?_⟩
          rcases q2 with q2 | q2
          · exact Or.inl q2
          · exact Or.inr (pfr_same q2 hs)
        · exact rulOK_same (gd t t0 (by omega)) (f4 341 _ (by omega)) (fun p _ _ => f4 340 p (by omega)) (fun p _ _ => f4 338 p (by omega))
      · unfold PL3 at k5 ⊢
        have e6 : m4 346 = m9 346 := funext (fun p => f4 346 p (by omega))
        have e7 : m4 347 = m9 347 := funext (fun p => f4 347 p (by omega))
        have e8 : m4 354 = m9 354 := funext (fun p => f4 354 p (by omega))
        rw [e6, e7, e8, f4 336 25 (by omega)]
        exact k5
    refine g_getu 2 rfl hS.k336 (fun v5 ev5 => ?_)
    refine g_C ?_
    refine g_S (by omega) (by omega) ?_
    rw [show v5 - 1 = m0 336 2 by omega]
    have G : ∀ c p : Int, ¬ (c = 336 ∧ (p = 1 ∨ p = 2)) → m4 c p = m3 c p := fun c p q => (f4 c p (by omega)).trans (f9 c p (by omega))
    obtain ⟨⟨rg, _⟩, rl0, rc, rd, re⟩ := id r3
    have bl := hm3.a_339 (i := X 336 2) (by omega) (by omega)
    have lenR := rq3.len (by rw [rg]; exact bl.1)
    rw [rg] at lenR
    have hR4 : RwR m4 (m0 336 2) Cs := by
      rw [← x2]
      refine ⟨?_, Tbl.same _ _ _ (fun p _ => G 340 p (by omega)) tb3, by rw [G 341 _ (by omega)]; exact cn3, by omega, ?_⟩
      · have z := Hs_rl (f := fun i => m3 338 (400 * m3 336 11 + i)) (m3 339 (m3 336 11)).toNat
        have rq := rq3
        unfold RQ at rq
        rw [rq, rg] at z
        exact Hs.same _ _ (fun j _ _ => G 338 _ (by omega)) z
      · omega
    have tyC : Tys Cs := by
      have : ∀ (l : List Cz) (i a : Int), Tbl m3 (X 336 2) i a l → Tys l := by
        intro l
        induction l with
        | nil => intro i a _ c hc; cases hc
        | cons d l ih =>
          intro i a h c hc
          rcases List.mem_cons.mp hc with e | e
          · rw [e]
            refine ⟨h.1.1, fun z => ?_⟩
            rcases h.1.2.2.2 with y | y
            · exact y.2.1
            · rw [z] at y; cases y.1
          · exact ih _ _ h.2 c e
      exact this Cs _ _ tb3
    exact hk m4 Cs j4 (fun c p hs hn => by rw [f4 c p hn, fr c p hs, G2 c p hs]) (fun c p hs => by rw [G c p (by omega), hm3.2.1 c p (Or.inr (by omega)), xe c p (by omega)]) (by rw [f4 336 1 (by omega)]; exact z9) (by omega) (by omega) a3 hR4 tyC
