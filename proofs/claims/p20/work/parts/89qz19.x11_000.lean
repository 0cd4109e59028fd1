theorem zx_become {S : Sh} {m0 : Mm} {K : Mm → Prop} {u0 u1 : Int} (hS : Shp S) (hj : Jc S m0) (h0 : isSc u0) (h1 : isSc u1) (hd : u1 + 24 < u0 ∨ u0 + 24 < u1) (hk : ∀ M1 : Mm, Jc S M1 → (∀ c p : Int, ¬ (u0 + 1 ≤ c ∧ c ≤ u0 + 24) → ¬ (c = u0 ∧ (p = 2 ∨ p = 3 ∨ p = 4)) → M1 c p = m0 c p) → (∀ p : Int, 0 ≤ p → p < 8 → M1 (u0 + 1) p = m0 (u1 + 1) p) → (∀ c p : Int, inT c p → M1 (u0 + 1 + c) p = m0 (u1 + 1 + c) p) → (∀ p : Int, 0 ≤ p → p < 2 → M1 (u0 + 13) p = m0 (u1 + 13) p) → (∀ c p : Int, inS c p → M1 (u0 + 13 + c) p = m0 (u1 + 13 + c) p) → M1 u0 4 = m0 u1 4 → (∀ c p : Int, 21 ≤ c → c ≤ 24 → 0 ≤ p → p < 10 → M1 (u0 + c) p = m0 (u1 + c) p) → (∀ c p : Int, spP c p → ¬ (c = u0 ∧ (p = 2 ∨ p = 3)) → M1 c p = m0 c p) → M1 u0 3 = m0 u1 3 → M1 u0 2 = m0 u1 2 → K M1) : wp_X4_become S m0 u0 u1 K := by
  obtain ⟨X, eX⟩ : ∃ X : Mm, X = sf m0 := ⟨_, rfl⟩
  have hm0 : Inv X S m0 := by rw [eX]; exact hj.inv
  have xe : ∀ c p : Int, ¬ c = -1 → X c p = m0 c p := fun c p q => by rw [eX]; exact sf_e m0 q
  obtain ⟨t0, s0, -⟩ := sc_in u0 h0
  obtain ⟨t1, s1, -⟩ := sc_in u1 h1
  obtain ⟨n0, n2, n3, n4', n5, n6, n7⟩ := sc_no u0 h0
  obtain ⟨k0, -⟩ := sc_no u1 h1
  obtain ⟨a2, a3, -⟩ := sc_sp u0 h0
  obtain ⟨b2, b3, -⟩ := sc_sp u1 h1
  refine u_X4_become ?_
  refine g_getr 0 (u0 + 1) rfl (hS.kB_4_0 h0) (hm0.fB_4_0 h0) (by omega) ?_
  refine g_getr 0 (u1 + 1) rfl (hS.kB_4_0 h1) (hm0.fB_4_0 h1) (by omega) ?_
  refine ⟨hS.kB_8_0 t0, ?_⟩
  refine zb_told hS hm0 t0 t1 (by omega) (fun m1 hm1 ft d0 d1 d2 d3 d4 d5 d6 d7 q1 q2 q3 q4 q5 q6 q7 q8 q9 q10 q11 => ?_)
  refine g_getr 1 (u0 + 13) rfl (hS.kB_4_0 h0) (hm1.fB_4_1 h0) (by omega) ?_
  refine g_getr 1 (u1 + 13) rfl (hS.kB_4_0 h1) (hm1.fB_4_1 h1) (by omega) ?_
  refine ⟨hS.kB_5_0 s0, ?_⟩
  refine zb_state hS hm1 s0 s1 (by omega) (fun m2 hm2 fs i0 i1 w1 w2 w3 w4 w5 w6 w7 => ?_)
  refine g_get 2 (-1) (5) rfl (hS.kB_4_0 h1) (hm2.fB_4_2 h1) (fun v ev bv cv => ?_)
  refine g_putR 2 rfl (hS.kB_4_0 h0) (fun m3 e3 => ?_)
  have f3 : ∀ c p : Int, ¬ (c = u0 ∧ p = 2) → m3 c p = m2 c p := fun c p q => (congrFun (congrFun e3 _) _).trans (up_ne q)
  have y3 : m3 u0 2 = v := (congrFun (congrFun e3 _) _).trans (up_at _ _ _ _)
  have j2 : Jc S m2 := Jc.of hm2
  obtain ⟨c0', -, -, c3', -⟩ := cf_4_2 u0 h0
  have e3' : m3 = up m2 ((u0.toNat : Nat) : Int) ((2 : Nat) : Int) v := by
    rw [Int.toNat_of_nonneg c0']
    exact e3
  have j3 : Jc S m3 := j2.up1 u0.toNat 2 e3' (okb_of c3' bv cv) n2 (j2.2.2.2.1.eq (fun p q => f3 336 p (fun z => n6 z.1)) (fun c p q => f3 c p (fun z => no5 n7 q z.1))) n4'
  have hm3 := j3.inv
  refine g_get 3 (0) (2147483647) rfl (hS.kB_4_0 h1) (hm3.fB_4_3 h1) (fun x ex bx cx => ?_)
  refine g_putR 3 rfl (hS.kB_4_0 h0) (fun m4 e4 => ?_)
  have f4 : ∀ c p : Int, ¬ (c = u0 ∧ p = 3) → m4 c p = m3 c p := fun c p q => (congrFun (congrFun e4 _) _).trans (up_ne q)
  have y4 : m4 u0 3 = x := (congrFun (congrFun e4 _) _).trans (up_at _ _ _ _)
  obtain ⟨x0', -, -, x3', -⟩ := cf_4_3 u0 h0
  have e4' : m4 = up m3 ((u0.toNat : Nat) : Int) ((3 : Nat) : Int) x := by
    rw [Int.toNat_of_nonneg x0']
    exact e4
  have j4 : Jc S m4 := j3.up1 u0.toNat 3 e4' (okb_of x3' bx cx) n3 (j3.2.2.2.1.eq (fun p q => f4 336 p (fun z => n6 z.1)) (fun c p q => f4 c p (fun z => no5 n7 q z.1))) n5
  obtain ⟨Y, eY⟩ : ∃ Y : Mm, Y = sf m4 := ⟨_, rfl⟩
  have hm4 : Inv Y S m4 := by rw [eY]; exact j4.inv
  have ye : ∀ c p : Int, ¬ c = -1 → Y c p = m4 c p := fun c p q => by rw [eY]; exact sf_e m4 q
  refine g_get 4 (0) (10) rfl (hS.kB_4_0 h1) (hm4.fB_4_4 h1) (fun t et bt ct => ?_)
  refine g_put 4 rfl (hS.kB_4_0 h0) (hm4.wB_4_4 h0 bt ct) (fun n0 en0 hn0 => ?_)
  have fn0 : ∀ c p : Int, ¬ (c = u0 ∧ p = 4) → n0 c p = m4 c p := fun c p q => (congrFun (congrFun en0 _) _).trans (up_ne q)
  have yn0 : n0 u0 4 = t := (congrFun (congrFun en0 _) _).trans (up_at _ _ _ _)
  refine g_getr 5 (u1 + 21) rfl (hS.kB_4_0 h1) (hn0.fB_4_5 h1) (by omega) ?_
  refine g_C ?_
  refine g_getr 5 (u0 + 21) rfl (hS.kB_4_0 h0) (hn0.fB_4_5 h0) (by omega) ?_
  refine g_C ?_
  refine g_C ?_
  refine g_cpyx (hS.kB_4_21 h1) (hS.kB_4_21 h0) (hS.lB_4_21 h1) (hS.lB_4_21 h0) (by decide) (hn0.cpB_4_21 h1 h0 (by decide)) (fun n1 hn1 fn1 yn1 => ?_)
  refine g_getr 6 (u1 + 22) rfl (hS.kB_4_0 h1) (hn1.fB_4_6 h1) (by omega) ?_
  refine g_C ?_
  refine g_getr 6 (u0 + 22) rfl (hS.kB_4_0 h0) (hn1.fB_4_6 h0) (by omega) ?_
  refine g_C ?_
  refine g_C ?_
  refine g_cpyx (hS.kB_4_22 h1) (hS.kB_4_22 h0) (hS.lB_4_22 h1) (hS.lB_4_22 h0) (by decide) (hn1.cpB_4_22 h1 h0 (by decide)) (fun n2 hn2 fn2 yn2 => ?_)
  refine g_getr 7 (u1 + 23) rfl (hS.kB_4_0 h1) (hn2.fB_4_7 h1) (by omega) ?_
  refine g_C ?_
  refine g_getr 7 (u0 + 23) rfl (hS.kB_4_0 h0) (hn2.fB_4_7 h0) (by omega) ?_
  refine g_C ?_
  refine g_C ?_
  refine g_cpyx (hS.kB_4_23 h1) (hS.kB_4_23 h0) (hS.lB_4_23 h1) (hS.lB_4_23 h0) (by decide) (hn2.cpB_4_23 h1 h0 (by decide)) (fun n3 hn3 fn3 yn3 => ?_)
  refine g_getr 8 (u1 + 24) rfl (hS.kB_4_0 h1) (hn3.fB_4_8 h1) (by omega) ?_
  refine g_C ?_
  refine g_getr 8 (u0 + 24) rfl (hS.kB_4_0 h0) (hn3.fB_4_8 h0) (by omega) ?_
  refine g_C ?_
  refine g_C ?_
  refine g_cpyx (hS.kB_4_24 h1) (hS.kB_4_24 h0) (hS.lB_4_24 h1) (hS.lB_4_24 h0) (by decide) (hn3.cpB_4_24 h1 h0 (by decide)) (fun n4 hn4 fn4 yn4 => ?_)
  have sp : ∀ c p : Int, spP c p → n4 c p = m4 c p := fun c p q => (hn4.g q).trans (ye c p (spP_ne q))
  have sp2 : ∀ c p : Int, spP c p → m2 c p = m0 c p := fun c p q => (hm2.g q).trans (xe c p (spP_ne q))
  -- how the steps leave the rest
  have N : ∀ c p : Int, ¬ (u0 + 21 ≤ c ∧ c ≤ u0 + 24) → ¬ (c = u0 ∧ (p = 2 ∨ p = 3 ∨ p = 4)) → n4 c p = m2 c p := fun c p q q2 => by rw [fn4 c p (by omega), fn3 c p (by omega), fn2 c p (by omega), fn1 c p (by omega), fn0 c p (by omega), f4 c p (by omega), f3 c p (by omega)]
  have N1 : ∀ c p : Int, (u0 + 1 ≤ c ∧ c ≤ u0 + 12) → n4 c p = m1 c p := fun c p q => by rw [N c p (by omega) (by omega), fs c p (by omega)]
  have N2 : ∀ c p : Int, (u1 ≤ c ∧ c ≤ u1 + 24) → m2 c p = m0 c p := fun c p q => by rw [fs c p (by omega), ft c p (by omega)]
  have N3 : ∀ c p : Int, (u1 + 21 ≤ c ∧ c ≤ u1 + 24) → n0 c p = m0 c p := fun c p q => by rw [fn0 c p (by omega), f4 c p (by omega), f3 c p (by omega), N2 c p (by omega)]
  refine hk n4 (Jc.of hn4) (fun c p q q2 => by rw [N c p (by omega) q2, fs c p (by omega), ft c p (by omega)]) (fun p p0 p1 => ?_) (fun c p q => ?_) (fun p p0 p1 => ?_) (fun c p q => ?_) ?_ (fun c p c0 c1 p0 p1 => ?_) (fun c p q q2 => ?_) ?_ ?_
  · rw [N1 _ p (by omega)]
    rcases (show p = 0 ∨ p = 1 ∨ p = 2 ∨ p = 3 ∨ p = 4 ∨ p = 5 ∨ p = 6 ∨ p = 7 by omega) with e | e | e | e | e | e | e | e <;> subst e <;> assumption
  · obtain ⟨p0, q⟩ := q
    rw [N1 _ p (by omega)]
    rcases (show c = 1 ∨ c = 2 ∨ c = 3 ∨ c = 4 ∨ c = 5 ∨ c = 6 ∨ c = 7 ∨ c = 8 ∨ c = 9 ∨ c = 10 ∨ c = 11 by omega) with e | e | e | e | e | e | e | e | e | e | e <;> subst e
    · exact q1 p p0 (by omega)
    · exact q2 p p0 (by omega)
    · exact q3 p p0 (by omega)
    · exact q4 p p0 (by omega)
    · exact q5 p p0 (by omega)
    · exact q6 p p0 (by omega)
    · exact q7 p p0 (by omega)
    · exact q8 p p0 (by omega)
    · exact q9 p p0 (by omega)
    · exact q10 p p0 (by omega)
    · exact q11 p p0 (by omega)
  · rw [N _ p (by omega) (by omega), ← ft (u1 + 13) p (by omega)]
    rcases (show p = 0 ∨ p = 1 by omega) with e | e <;> subst e <;> assumption
  · obtain ⟨p0, q⟩ := q
    rw [N _ p (by omega) (by omega), ← ft (u1 + 13 + c) p (by omega)]
    rcases (show c = 1 ∨ c = 2 ∨ c = 3 ∨ c = 4 ∨ c = 5 ∨ c = 6 ∨ c = 7 by omega) with e | e | e | e | e | e | e <;> subst e
    · exact w1 p p0 (by omega)
    · exact w2 p p0 (by omega)
    · exact w3 p p0 (by omega)
    · exact w4 p p0 (by omega)
    · exact w5 p p0 (by omega)
    · exact w6 p p0 (by omega)
    · exact w7 p p0 (by omega)
  · rw [fn4 _ _ (by omega), fn3 _ _ (by omega), fn2 _ _ (by omega), fn1 _ _ (by omega), yn0, et, f4 _ _ (by omega), f3 _ _ (by omega), N2 _ _ (by omega)]
  · rcases (show c = 21 ∨ c = 22 ∨ c = 23 ∨ c = 24 by omega) with e | e | e | e <;> subst e
    · rw [fn4 _ _ (by omega), fn3 _ _ (by omega), fn2 _ _ (by omega), yn1 p p0 p1, N3 _ _ (by omega)]
    · rw [fn4 _ _ (by omega), fn3 _ _ (by omega), yn2 p p0 p1, fn1 _ _ (by omega), N3 _ _ (by omega)]
    · rw [fn4 _ _ (by omega), yn3 p p0 p1, fn2 _ _ (by omega), fn1 _ _ (by omega), N3 _ _ (by omega)]
    · rw [yn4 p p0 p1, fn3 _ _ (by omega), fn2 _ _ (by omega), fn1 _ _ (by omega), N3 _ _ (by omega)]
  · rw [sp c p q, f4 c p (fun z => q2 ⟨z.1, Or.inr z.2⟩), f3 c p (fun z => q2 ⟨z.1, Or.inl z.2⟩), sp2 c p q]
  · rw [sp u0 3 a3, y4, ex, f3 u1 3 (fun z => absurd z.2 (by decide)), sp2 u1 3 b3]
  · rw [sp u0 2 a2, f4 u0 2 (fun z => absurd z.2 (by decide)), y3, ev, sp2 u1 2 b2]
