theorem zw_rule11 {S : Sh} {m0 : Mm} {K : Int → Sh → Mm → Prop} {tb : Int → Int} {tn : Int} (hS : Shp S) (hj : Jc S m0) (hR : TC m0 tb tn) (h6 : m0 0 7 = 6 → K (-1) S m0) (hf : ∀ (f : Int) (M1 : Mm), Jc S M1 → (∀ c p : Int, ¬ fr1_W c p → ¬ (c = 1 ∧ p = 1) → M1 c p = m0 c p) → M1 1 1 = 0 → ¬ m0 0 7 = 6 → Bcc tb tn 0 0 0 [] [] 0 f [] → ¬ f = 0 → K (-2 - f) S M1) (hk : ∀ (S1 : Sh) (M1 : Mm) (E : List Int) (v : Int), Shp S1 → Jc S1 M1 → (∀ c p : Int, ¬ fr1_W c p → ¬ (c = 1 ∧ p = 1) → ¬ (c = 0 ∧ p = 7) → ¬ (c = 30 ∧ p = m0 0 7) → ¬ c = v → M1 c p = m0 c p) → M1 1 1 = 0 → M1 0 7 = m0 0 7 + 1 → ¬ m0 0 7 = 6 → Bcc tb tn 0 0 0 [] [] 0 0 E → M1 30 (m0 0 7) = v → rowv S1 v → rlen S1 v = (E.length : Int) → Hs (M1 v) 0 E → (∀ u : Int, rowv S u → ¬ u = v ∧ rowv S1 u ∧ rlen S1 u = rlen S u) → K (m0 0 7) S1 M1) : wp_X11_rule S m0 0 K := by
  have hm0 := hj.inv
  have hs0 := hS.1
  unfold wp_X11_rule
  refine ⟨by omega, ?_⟩
  refine g_get 7 (0) (6) rfl hS.k0 hm0.f_0_7 (fun v ev bv cv => ?_)
  refine g_C ?_
  refine g_if (fun w => ?_) (fun w => g_C (h6 (by omega)))
  refine g_getr 9 52 rfl hS.k0 hm0.f_0_9 (by decide) ?_
  refine ⟨hS.k52, ?_⟩
  have xe : ∀ c p : Int, ¬ c = -1 → sf m0 c p = m0 c p := fun c p h => sf_e m0 h
  have hRX : TC (sf m0) tb tn := ⟨(xe 1 1 (by decide)).trans hR.1, hR.2.1, fun p p0 p1 => ⟨(xe 2 p (by decide)).trans (hR.2.2 p p0 p1).1, (hR.2.2 p p0 p1).2⟩⟩
  have two : ∀ m1 : Mm, Inv (sf m0) S m1 → Jc S (up m1 1 1 0) := by
    intro m1 hm1
    refine (Jc.of hm1).put (fun c p e1 e2 => ?_) (by decide)
    have e1 : c = 1 := by omega
    have e2 : p = 1 := by omega
    subst e1 e2
    exact okb_of (l := 0) (u := 400) (by decide +kernel) (by decide) (by decide)
  refine fz_X3_read hm0 (fun _ _ _ => rfl) ?_
  refine zf_read hS hm0 hRX (fun m1 hm1 a1 n1 fr => ?_) (fun m1 E hm1 a1 rE y1 fr => ?_)
  rotate_left
  · refine g_getr 0 1 rfl hS.k0 hm1.f_0_0 (by decide) ?_
    refine g_C ?_
    refine g_putR 1 rfl hS.k1 (fun m2 e2 => ?_)
    have f2 : ∀ c p : Int, ¬ (c = 1 ∧ p = 1) → m2 c p = m1 c p := fun c p q => (congrFun (congrFun e2 _) _).trans (up_ne q)
    have z2 : m2 1 1 = 0 := (congrFun (congrFun e2 _) _).trans (up_at _ _ _ _)
    have j2 : Jc S m2 := by rw [e2]; exact two m1 hm1
    have hm2 := j2.inv
    refine g_ifT (by decide) ?_
    have y2 : m2 52 2 ≤ 399 := by
      rw [f2 52 2 (by omega)]
      exact y1
    have e7 : m2 0 7 = m0 0 7 := by rw [f2 0 7 (by omega), hm1.g (by decide), xe 0 7 (by decide)]
    refine g_getr 6 30 rfl hS.k0 hm2.f_0_6 (by decide) ?_
    refine g_get 7 (0) (6) rfl hS.k0 hm2.f_0_7 (fun k ek bk ck => ?_)
    refine g_getr 9 52 rfl hS.k0 hm2.f_0_9 (by decide) ?_
    refine ⟨hS.k52, ?_⟩
    unfold wp_X3_copyOfCode
    refine ⟨by omega, ?_⟩
    refine g_getr 1 53 rfl hS.k52 hm2.f_52_1 (by decide) ?_
    refine g_get 2 (0) (400) rfl hS.k52 hm2.f_52_2 (fun l el bl cl => ?_)
    unfold wp_J7_copyOf_59c91
    refine g_len 400 hS.k53 hS.l53 (by decide) ?_
    refine ⟨by omega, bl, cl, by omega, ?_⟩
    have hS3 : Shp (newS S 14 l.toNat) := hS.new 14 l.toNat
    unfold wNewA
    refine g_C ?_
    refine g_C ?_
    refine g_len 400 hS3.k53 hS3.l53 (by decide) ?_
    refine g_min (fun q q1 q2 q3 => ?_)
    have kn : isK (newS S 14 l.toNat) (S.1 : Int) 14 := by
      refine ⟨by omega, by show (S.1 : Int).toNat < S.1 + 1; omega, ?_⟩
      show (if (S.1 : Int) = (S.1 : Int) then 14 else S.2.1 (S.1 : Int)) = 14
      rw [if_pos rfl]
    have ln : (newS S 14 l.toNat).2.2 (S.1 : Int) = l.toNat := by
      show (if (S.1 : Int) = (S.1 : Int) then l.toNat else S.2.2 (S.1 : Int)) = l.toNat
      rw [if_pos rfl]
    refine ⟨hS3.k53, kn, ⟨by decide, by decide, by omega, by rw [hS3.l53]; omega, by rw [ln]; omega⟩, ?_⟩
    obtain ⟨m3, e3⟩ : ∃ m3 : Mm, m3 = cpM (newM S m2 fun _ => if 17 ≤ 14 then -1 else 0) 53 0 (S.1 : Int) 0 q := ⟨_, rfl⟩
    rw [← e3]
    have f3 : ∀ c p : Int, ¬ c = (S.1 : Int) → m3 c p = m2 c p := by
      intro c p hc
      rw [e3]
      unfold cpM newM
      rw [if_neg (fun z => hc z.1), if_neg hc]
    have x3 : ∀ p : Int, 0 ≤ p → p < l → m3 (S.1 : Int) p = m2 53 p := by
      intro p p0 p1
      rw [e3]
      unfold cpM
      rw [if_pos ⟨rfl, p0, by omega⟩]
      unfold newM
      rw [if_neg (by omega), show 0 + (p - 0) = p by omega]
    have l30 : (newS S 14 l.toNat).2.2 30 = 6 := hS3.l 30 (by decide) (by decide +kernel)
    refine ⟨hS3.k30, Or.inr kn, ⟨by omega, by rw [l30]; omega⟩, ?_⟩
    obtain ⟨m4, e4⟩ : ∃ m4 : Mm, m4 = up m3 30 k (S.1 : Int) := ⟨_, rfl⟩
    rw [← e4]
    have f4 : ∀ c p : Int, ¬ (c = 30 ∧ p = k) → m4 c p = m3 c p := fun c p q => (congrFun (congrFun e4 _) _).trans (up_ne q)
    have y4 : m4 30 k = (S.1 : Int) := (congrFun (congrFun e4 _) _).trans (up_at _ _ _ _)
    have z7 : m4 0 7 = m2 0 7 := by rw [f4 0 7 (by omega), f3 0 7 (by omega)]
    refine g_getu 7 rfl hS3.k0 (fun k2 ek2 => ?_)
    refine g_C ?_
    refine g_A (by omega) (by omega) ?_
    refine g_putR 7 rfl hS3.k0 (fun m5 e5 => ?_)
    have f5 : ∀ c p : Int, ¬ (c = 0 ∧ p = 7) → m5 c p = m4 c p := fun c p q => (congrFun (congrFun e5 _) _).trans (up_ne q)
    have y5 : m5 0 7 = k2 + 1 := (congrFun (congrFun e5 _) _).trans (up_at _ _ _ _)
    have F : ∀ c p : Int, c < 358 → ¬ (c = 30 ∧ p = k) → ¬ (c = 0 ∧ p = 7) → m5 c p = m2 c p := fun c p a1 a2 a3 => by rw [f5 c p a3, f4 c p a2, f3 c p (by omega)]
    have j5 : Jc (newS S 14 l.toNat) m5 := by
      obtain ⟨k1, k2', k3, k4, k5⟩ := j2
      refine ⟨fun c p hc hp => ?_, fun i i0 i1 => ?_, ?_, ?_, ?_⟩
      · by_cases z : (c : Int) = 30 ∧ (p : Int) = k
        · have z1 : c = 30 := by omega
          rw [z1, bd_u (b := (1, 0)) (by decide +kernel)]
          exact Or.inl (by decide)
        · by_cases z2 : (c : Int) = 0 ∧ (p : Int) = 7
          · have z3 : c = 0 := by omega
            have z4 : p = 7 := by omega
            subst z3 z4
            rw [show ((0 : Nat) : Int) = 0 from rfl, show ((7 : Nat) : Int) = 7 from rfl, y5]
            exact okb_of (l := 0) (u := 6) (by decide +kernel) (by omega) (by omega)
          · rw [F c p (by omega) z z2]
            exact k1 c p hc hp
      · by_cases z : i = k
        · rw [z, f5 30 k (by omega), y4]
          exact Or.inr ⟨kn, by rw [ln]; omega, by omega⟩
        · rw [F 30 i (by omega) (by omega) (by omega)]
          exact (k2' i i0 i1).new 14 l.toNat
      · rw [F 55 1 (by omega) (by omega) (by omega)]
        exact k3.new 14 l.toNat
      · exact k4.same (F 336 21 (by omega) (by omega) (by omega)) (F 336 2 (by omega) (by omega) (by omega)) (fun c p q => F c p (by omega) (by omega) (by omega)) (fun p _ => F 341 p (by omega) (by omega) (by omega)) (fun p _ => F 340 p (by omega) (by omega) (by omega)) (fun p _ => F 338 p (by omega) (by omega) (by omega))
      · unfold PL3 at k5 ⊢
        have e6 : m5 346 = m2 346 := funext (fun p => F 346 p (by omega) (by omega) (by omega))
        have e7 : m5 347 = m2 347 := funext (fun p => F 347 p (by omega) (by omega) (by omega))
        have e8 : m5 354 = m2 354 := funext (fun p => F 354 p (by omega) (by omega) (by omega))
        rw [e6, e7, e8, F 336 25 (by omega) (by omega) (by omega)]
        exact k5
    refine g_getu 7 rfl hS3.k0 (fun k3 ek3 => ?_)
    refine g_C ?_
    refine g_S (by omega) (by omega) ?_
    rw [show k3 - 1 = m0 0 7 by omega]
    have kv : rowv (newS S 14 l.toNat) (S.1 : Int) := Or.inr ⟨kn, by rw [ln]; omega, by omega⟩
    have e52 : m2 52 2 = m1 52 2 := f2 52 2 (by omega)
    have lE : (E.length : Int) = l := by
      have z := congrArg List.length rE
      rw [rl_len] at z
      omega
    have rv : rlen (newS S 14 l.toNat) (S.1 : Int) = (E.length : Int) := by
      rw [rlen, if_neg (by omega), ln]
      omega
    have hE : Hs (m5 (S.1 : Int)) 0 E := by
      have z := Hs_rl (f := m1 53) (m1 52 2).toNat
      rw [rE] at z
      refine Hs.same _ _ (fun j j0 j1 => ?_) z
      rw [f5 _ _ (by omega), f4 _ _ (by omega), x3 j j0 (by omega), f2 53 j (by omega)]
    exact hk _ m5 E (S.1 : Int) hS3 j5 (fun c p hs n1 n2 n3 n4 => by rw [f5 c p n2, f4 c p (by omega), f3 c p n4, f2 c p n1, fr c p hs]) (by rw [F 1 1 (by omega) (by omega) (by omega)]; exact z2) (by omega) (by omega) a1 (by rw [f5 30 _ (by omega), show m0 0 7 = k by omega]; exact y4) kv rv hE (fun u hu => ⟨by rcases hu with z | ⟨⟨z1, z2, _⟩, _, _⟩ <;> omega, hu.new 14 l.toNat, rlen.new hu 14 l.toNat⟩)
  · have b4 := hm1.f_1_4
    refine g_getr 0 1 rfl hS.k0 hm1.f_0_0 (by decide) ?_
    refine g_C ?_
    refine g_putR 1 rfl hS.k1 (fun m2 e2 => ?_)
    have f2 : ∀ c p : Int, ¬ (c = 1 ∧ p = 1) → m2 c p = m1 c p := fun c p q => (congrFun (congrFun e2 _) _).trans (up_ne q)
    have z2 : m2 1 1 = 0 := (congrFun (congrFun e2 _) _).trans (up_at _ _ _ _)
    have j2 : Jc S m2 := by rw [e2]; exact two m1 hm1
    have hm2 := j2.inv
    refine g_ifF (by decide) ?_
    refine g_C ?_
    refine g_getr 0 1 rfl hS.k0 hm2.f_0_0 (by decide) ?_
    refine g_getu 4 rfl hS.k1 (fun v4 ev4 => ?_)
    rw [f2 1 4 (by omega)] at ev4
    refine g_S (by omega) (by omega) ?_
    rw [ev4]
    exact hf _ m2 j2 (fun c p hs n => by rw [f2 c p n, fr c p hs]) z2 (by omega) a1 n1
