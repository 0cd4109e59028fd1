section
theorem zx_become {S : Sh} {m0 : Mm} {K : Mm → Prop} {u0 u1 : Int} (hS : Shp S) (hj : Jc S m0) (h0 : isSc u0) (h1 : isSc u1) (hd : u1 + 24 < u0 ∨ u0 + 24 < u1) (hk : ∀ M1 : Mm, Jc S M1 → (∀ c p : Int, ¬ (u0 + 1 ≤ c ∧ c ≤ u0 + 24) → ¬ (c = u0 ∧ (p = 2 ∨ p = 3 ∨ p = 4)) → M1 c p = m0 c p) → (∀ p : Int, 0 ≤ p → p < 8 → M1 (u0 + 1) p = m0 (u1 + 1) p) → (∀ c p : Int, inT c p → M1 (u0 + 1 + c) p = m0 (u1 + 1 + c) p) → (∀ p : Int, 0 ≤ p → p < 2 → M1 (u0 + 13) p = m0 (u1 + 13) p) → (∀ c p : Int, inS c p → M1 (u0 + 13 + c) p = m0 (u1 + 13 + c) p) → M1 u0 4 = m0 u1 4 → (∀ c p : Int, 21 ≤ c → c ≤ 24 → 0 ≤ p → p < 10 → M1 (u0 + c) p = m0 (u1 + c) p) → (∀ c p : Int, spP c p → ¬ (c = u0 ∧ (p = 2 ∨ p = 3)) → M1 c p = m0 c p) → M1 u0 3 = m0 u1 3 → M1 u0 2 = m0 u1 2 → K M1) : wp_X4_become S m0 u0 u1 K := by
  obtain ⟨X, eX⟩ : ∃ X : Mm, X = sf m0 := ⟨_, rfl⟩
  have hm0 : Inv X S m0 := by rw [eX]; exact hj.inv
  have xe : ∀ c p : Int, ¬ c = -1 → X c p = m0 c p := fun c p q => by rw [eX]; exact sf_e m0 q
  obtain ⟨t0, s0, -⟩ := sc_in u0 h0
  obtain ⟨t1, s1, -⟩ := sc_in u1 h1
  have n0 := (sc_no u0 h0).1
  have k0 := (sc_no u1 h1).1
  refine u_X4_become ?_
  refine g_getr 0 (u0 + 1) rfl (hS.kB_4_0 h0) (hm0.fB_4_0 h0) (by omega) ?_
  refine g_getr 0 (u1 + 1) rfl (hS.kB_4_0 h1) (hm0.fB_4_0 h1) (by omega) ?_
  refine ⟨hS.kB_8_0 t0, ?_⟩
  refine zb_told hS hm0 t0 t1 (by omega) (fun m1 hm1 ft d0 d1 d2 d3 d4 d5 d6 d7 q1 q2 q3 q4 q5 q6 q7 q8 q9 q10 q11 => ?_)
  refine g_getr 1 (u0 + 13) rfl (hS.kB_4_0 h0) (hm1.fB_4_1 h0) (by omega) ?_
  refine g_getr 1 (u1 + 13) rfl (hS.kB_4_0 h1) (hm1.fB_4_1 h1) (by omega) ?_
  refine ⟨hS.kB_5_0 s0, ?_⟩
  refine zb_state hS hm1 s0 s1 (by omega) (fun m2 hm2 fs i0 i1 w1 w2 w3 w4 w5 w6 w7 => ?_)
  refine g_get 2 (-1) (5) rfl (hS.kB_4_0 h1) (hm2.fB_4_2 h1) (fun v ev bv cv => ?_)
  refine g_putR 2 rfl (hS.kB_4_0 h0) (fun m3 e3 => ?_)
  have f3 : ∀ c p : Int, ¬ (c = u0 ∧ p = 2) → m3 c p = m2 c p := fun c p q => (congrFun (congrFun e3 _) _).trans (up_ne q)
  have y3 : m3 u0 2 = v := (congrFun (congrFun e3 _) _).trans (up_at _ _ _ _)
  have j2 : Jc S m2 := Jc.of hm2
  obtain ⟨c0', -, -, c3', -⟩ := cf_4_2 u0 h0
  have e3' : m3 = up m2 ((u0.toNat : Nat) : Int) ((2 : Nat) : Int) v := by
    rw [Int.toNat_of_nonneg c0']
    exact e3
  have j3 : Jc S m3 := j2.up1 u0.toNat 2 e3' (okb_of c3' bv cv) (sc_no u0 h0).2.1 (j2.2.2.2.1.eq (fun p q => f3 336 p (fun z => (sc_no u0 h0).2.2.2.2.2.1 z.1)) (fun c p q => f3 c p (fun z => no5 (sc_no u0 h0).2.2.2.2.2.2 q z.1))) (sc_no u0 h0).2.2.2.1
  have hm3 := j3.inv
  refine g_get 3 (0) (2147483647) rfl (hS.kB_4_0 h1) (hm3.fB_4_3 h1) (fun x ex bx cx => ?_)
  refine g_putR 3 rfl (hS.kB_4_0 h0) (fun m4 e4 => ?_)
  have f4 : ∀ c p : Int, ¬ (c = u0 ∧ p = 3) → m4 c p = m3 c p := fun c p q => (congrFun (congrFun e4 _) _).trans (up_ne q)
  have y4 : m4 u0 3 = x := (congrFun (congrFun e4 _) _).trans (up_at _ _ _ _)
  obtain ⟨x0', -, -, x3', -⟩ := cf_4_3 u0 h0
  have e4' : m4 = up m3 ((u0.toNat : Nat) : Int) ((3 : Nat) : Int) x := by
    rw [Int.toNat_of_nonneg x0']
    exact e4
  have j4 : Jc S m4 := j3.up1 u0.toNat 3 e4' (okb_of x3' bx cx) (sc_no u0 h0).2.2.1 (j3.2.2.2.1.eq (fun p q => f4 336 p (fun z => (sc_no u0 h0).2.2.2.2.2.1 z.1)) (fun c p q => f4 c p (fun z => no5 (sc_no u0 h0).2.2.2.2.2.2 q z.1))) (sc_no u0 h0).2.2.2.2.1
  obtain ⟨Y, eY⟩ : ∃ Y : Mm, Y = sf m4 := ⟨_, rfl⟩
  have hm4 : Inv Y S m4 := by rw [eY]; exact j4.inv
  have ye : ∀ c p : Int, ¬ c = -1 → Y c p = m4 c p := fun c p q => by rw [eY]; exact sf_e m4 q
  refine g_get 4 (0) (10) rfl (hS.kB_4_0 h1) (hm4.fB_4_4 h1) (fun t et bt ct => ?_)
  refine g_put 4 rfl (hS.kB_4_0 h0) (hm4.wB_4_4 h0 bt ct) (fun n0 en0 hn0 => ?_)
  have fn0 : ∀ c p : Int, ¬ (c = u0 ∧ p = 4) → n0 c p = m4 c p := fun c p q => (congrFun (congrFun en0 _) _).trans (up_ne q)
  have yn0 : n0 u0 4 = t := (congrFun (congrFun en0 _) _).trans (up_at _ _ _ _)
  refine g_getr 5 (u1 + 21) rfl (hS.kB_4_0 h1) (hn0.fB_4_5 h1) (by omega) ?_
  refine g_C ?_
  refine g_getr 5 (u0 + 21) rfl (hS.kB_4_0 h0) (hn0.fB_4_5 h0) (by omega) ?_
  refine g_C ?_
  refine g_C ?_
  refine g_cpyx (hS.kB_4_21 h1) (hS.kB_4_21 h0) (hS.lB_4_21 h1) (hS.lB_4_21 h0) (by decide) (hn0.cpB_4_21 h1 h0 (by decide)) (fun n1 hn1 fn1 yn1 => ?_)
  refine g_getr 6 (u1 + 22) rfl (hS.kB_4_0 h1) (hn1.fB_4_6 h1) (by omega) ?_
  refine g_C ?_
  refine g_getr 6 (u0 + 22) rfl (hS.kB_4_0 h0) (hn1.fB_4_6 h0) (by omega) ?_
  refine g_C ?_
  refine g_C ?_
  refine g_cpyx (hS.kB_4_22 h1) (hS.kB_4_22 h0) (hS.lB_4_22 h1) (hS.lB_4_22 h0) (by decide) (hn1.cpB_4_22 h1 h0 (by decide)) (fun n2 hn2 fn2 yn2 => ?_)
  refine g_getr 7 (u1 + 23) rfl (hS.kB_4_0 h1) (hn2.fB_4_7 h1) (by omega) ?_
  refine g_C ?_
  refine g_getr 7 (u0 + 23) rfl (hS.kB_4_0 h0) (hn2.fB_4_7 h0) (by omega) ?_
  refine g_C ?_
  refine g_C ?_
  refine g_cpyx (hS.kB_4_23 h1) (hS.kB_4_23 h0) (hS.lB_4_23 h1) (hS.lB_4_23 h0) (by decide) (hn2.cpB_4_23 h1 h0 (by decide)) (fun n3 hn3 fn3 yn3 => ?_)
  refine g_getr 8 (u1 + 24) rfl (hS.kB_4_0 h1) (hn3.fB_4_8 h1) (by omega) ?_
  refine g_C ?_
  refine g_getr 8 (u0 + 24) rfl (hS.kB_4_0 h0) (hn3.fB_4_8 h0) (by omega) ?_
  refine g_C ?_
  refine g_C ?_
  refine g_cpyx (hS.kB_4_24 h1) (hS.kB_4_24 h0) (hS.lB_4_24 h1) (hS.lB_4_24 h0) (by decide) (hn3.cpB_4_24 h1 h0 (by decide)) (fun n4 hn4 fn4 yn4 => ?_)
  have sp : ∀ c p : Int, spP c p → n4 c p = m4 c p := fun c p q => (hn4.g q).trans (ye c p (spP_ne q))
  have sp2 : ∀ c p : Int, spP c p → m2 c p = m0 c p := fun c p q => (hm2.g q).trans (xe c p (spP_ne q))
  -- how the steps leave the rest
  have N : ∀ c p : Int, ¬ (u0 + 21 ≤ c ∧ c ≤ u0 + 24) → ¬ (c = u0 ∧ (p = 2 ∨ p = 3 ∨ p = 4)) → n4 c p = m2 c p := fun c p q q2 => by rw [fn4 c p (fun z => q ⟨by omega, by omega⟩), fn3 c p (fun z => q ⟨by omega, by omega⟩), fn2 c p (fun z => q ⟨by omega, by omega⟩), fn1 c p (fun z => q ⟨by omega, by omega⟩), fn0 c p (fun z => q2 ⟨z.1, Or.inr (Or.inr z.2)⟩), f4 c p (fun z => q2 ⟨z.1, Or.inr (Or.inl z.2)⟩), f3 c p (fun z => q2 ⟨z.1, Or.inl z.2⟩)]
  have N1 : ∀ c p : Int, (u0 + 1 ≤ c ∧ c ≤ u0 + 12) → n4 c p = m1 c p := fun c p q => by rw [N c p (by omega) (by omega), fs c p (by omega)]
  have N2 : ∀ c p : Int, (u1 ≤ c ∧ c ≤ u1 + 24) → m2 c p = m0 c p := fun c p q => by rw [fs c p (by omega), ft c p (by omega)]
  have N3 : ∀ c p : Int, (u1 + 21 ≤ c ∧ c ≤ u1 + 24) → n0 c p = m0 c p := fun c p q => by rw [fn0 c p (by omega), f4 c p (by omega), f3 c p (by omega), N2 c p (by omega)]
  refine hk n4 (Jc.of hn4) (fun c p q q2 => by rw [N c p (by omega) q2, fs c p (by omega), ft c p (by omega)]) (fun p p0 p1 => ?_) (fun c p q => ?_) (fun p p0 p1 => ?_) (fun c p q => ?_) ?_ (fun c p c0 c1 p0 p1 => ?_) (fun c p q q2 => ?_) ?_ ?_
  · rw [N1 _ p (by omega)]
    rcases (show p = 0 ∨ p = 1 ∨ p = 2 ∨ p = 3 ∨ p = 4 ∨ p = 5 ∨ p = 6 ∨ p = 7 by omega) with e | e | e | e | e | e | e | e <;> subst e <;> assumption
  · obtain ⟨p0, q⟩ := q
    rw [N1 _ p (by omega)]
    rcases (show c = 1 ∨ c = 2 ∨ c = 3 ∨ c = 4 ∨ c = 5 ∨ c = 6 ∨ c = 7 ∨ c = 8 ∨ c = 9 ∨ c = 10 ∨ c = 11 by omega) with e | e | e | e | e | e | e | e | e | e | e <;> subst e
    · exact q1 p p0 (by omega)
    · exact q2 p p0 (by omega)
    · exact q3 p p0 (by omega)
    · exact q4 p p0 (by omega)
    · exact q5 p p0 (by omega)
    · exact q6 p p0 (by omega)
    · exact q7 p p0 (by omega)
    · exact q8 p p0 (by omega)
    · exact q9 p p0 (by omega)
    · exact q10 p p0 (by omega)
    · exact q11 p p0 (by omega)
  · rw [N _ p (by omega) (by omega), ← ft (u1 + 13) p (by omega)]
    rcases (show p = 0 ∨ p = 1 by omega) with e | e <;> subst e <;> assumption
  · obtain ⟨p0, q⟩ := q
    rw [N _ p (by omega) (by omega), ← ft (u1 + 13 + c) p (by omega)]
    rcases (show c = 1 ∨ c = 2 ∨ c = 3 ∨ c = 4 ∨ c = 5 ∨ c = 6 ∨ c = 7 by omega) with e | e | e | e | e | e | e <;> subst e
    · exact w1 p p0 (by omega)
    · exact w2 p p0 (by omega)
    · exact w3 p p0 (by omega)
    · exact w4 p p0 (by omega)
    · exact w5 p p0 (by omega)
    · exact w6 p p0 (by omega)
    · exact w7 p p0 (by omega)
  · rw [fn4 _ _ (by omega), fn3 _ _ (by omega), fn2 _ _ (by omega), fn1 _ _ (by omega), yn0, et, f4 _ _ (by omega), f3 _ _ (by omega), N2 _ _ (by omega)]
  · rcases (show c = 21 ∨ c = 22 ∨ c = 23 ∨ c = 24 by omega) with e | e | e | e <;> subst e
    · rw [fn4 _ _ (by omega), fn3 _ _ (by omega), fn2 _ _ (by omega), yn1 p p0 p1, N3 _ _ (by omega)]
    · rw [fn4 _ _ (by omega), fn3 _ _ (by omega), yn2 p p0 p1, fn1 _ _ (by omega), N3 _ _ (by omega)]
    · rw [fn4 _ _ (by omega), yn3 p p0 p1, fn2 _ _ (by omega), fn1 _ _ (by omega), N3 _ _ (by omega)]
    · rw [yn4 p p0 p1, fn3 _ _ (by omega), fn2 _ _ (by omega), fn1 _ _ (by omega), N3 _ _ (by omega)]
  · rw [sp c p q, f4 c p (fun z => q2 ⟨z.1, Or.inr z.2⟩), f3 c p (fun z => q2 ⟨z.1, Or.inl z.2⟩), sp2 c p q]
  · rw [sp u0 3 (sc_sp u0 h0).2.1, y4, ex, f3 u1 3 (fun z => absurd z.2 (by decide)), sp2 u1 3 (sc_sp u1 h1).2.1]
  · rw [sp u0 2 (sc_sp u0 h0).1, f4 u0 2 (fun z => absurd z.2 (by decide)), y3, ev, sp2 u1 2 (sc_sp u1 h1).1]
theorem zx_image11 {S : Sh} {m0 : Mm} {K : Int → Mm → Prop} {u1 : Int} (hS : Shp S) (hj : Jc S m0) (h0 : ¬ (0 ≤ u1 ∧ u1 ≤ 3) → K (-1) m0) (hk : ∀ (r : Int) (M1 : Mm), 0 ≤ u1 → u1 ≤ 3 → Jc S M1 → r = m0 16 0 → (∀ c p : Int, ¬ (76 + 25 * u1 + 1 ≤ c ∧ c ≤ 76 + 25 * u1 + 24) → ¬ (c = 76 + 25 * u1) → M1 c p = m0 c p) → (∀ p : Int, 0 ≤ p → p < 8 → M1 (76 + 25 * u1 + 1) p = m0 (3 + 1) p) → (∀ c p : Int, inT c p → M1 (76 + 25 * u1 + 1 + c) p = m0 (3 + 1 + c) p) → (∀ p : Int, 0 ≤ p → p < 2 → M1 (76 + 25 * u1 + 13) p = m0 (3 + 13) p) → (∀ c p : Int, inS c p → M1 (76 + 25 * u1 + 13 + c) p = m0 (3 + 13 + c) p) → M1 (76 + 25 * u1) 4 = m0 3 4 → (∀ c p : Int, 21 ≤ c → c ≤ 24 → 0 ≤ p → p < 10 → M1 (76 + 25 * u1 + c) p = m0 (3 + c) p) → (∀ c p : Int, spP c p → ¬ c = 76 + 25 * u1 → M1 c p = m0 c p) → M1 (76 + 25 * u1) 3 = m0 3 3 → M1 (76 + 25 * u1) 9 = 1 → M1 (76 + 25 * u1) 2 = m0 3 2 → K r M1) : wp_X11_image S m0 0 u1 K := by
  have hm0 := hj.inv
  refine u_X11_image ?_
  refine g_if (fun w => g_C (h0 (by omega))) (fun w => ?_)
  refine g_C ?_
  refine g_if (fun w2 => ?_) (fun w2 => g_C (h0 (by omega)))
  have a : 0 ≤ u1 := by omega
  have b : u1 ≤ 3 := by omega
  have sc := im_sc a b
  refine g_getr 2 28 rfl hS.k0 hm0.f_0_2 (by decide) ?_
  refine g_ldrB (P := fun c => c = 76 + 25 * u1) (fun c hc => by omega) hS.k28 hS.l28 a (by omega) (hm0.im a b) (fun v ev hv => ?_)
  subst hv
  refine g_getr 1 3 rfl hS.k0 hm0.f_0_1 (by decide) ?_
  refine ⟨hS.kB_4_0 sc, ?_⟩
  refine zx_become hS hj sc (by decide) (by omega) (fun m1 j1 ff t0 t1 s0 s1 y0 y1 f1 x1 xx1 => ?_)
  have hm1 := j1.inv
  refine g_getr 2 28 rfl hS.k0 hm1.f_0_2 (by decide) ?_
  refine g_ldrB (P := fun c => c = 76 + 25 * u1) (fun c hc => by omega) hS.k28 hS.l28 a (by omega) (hm1.im a b) (fun v2 ev2 hv2 => ?_)
  subst hv2
  refine g_C ?_
  refine g_putzR 9 rfl (hS.kB_4_0 sc) (by decide) (fun m2 e2 => ?_)
  have f2 : ∀ c p : Int, ¬ (c = 76 + 25 * u1 ∧ p = 9) → m2 c p = m1 c p := fun c p q => (congrFun (congrFun e2 _) _).trans (up_ne q)
  have y2 : m2 (76 + 25 * u1) 9 = 1 := (congrFun (congrFun e2 _) _).trans (up_at _ _ _ _)
  obtain ⟨d0, d1, d2, d3, d4⟩ := cf_4_9 _ sc
  have e2' : m2 = up m1 (((76 + 25 * u1).toNat : Nat) : Int) ((9 : Nat) : Int) 1 := by
    rw [Int.toNat_of_nonneg d0]
    exact e2
  have j2 : Jc S m2 := j1.up1 (76 + 25 * u1).toNat 9 e2' (okb_of d3 (by decide) (by decide)) (by omega) (j1.2.2.2.1.eq (fun p q => f2 336 p (by omega)) (fun c p q => f2 c p (by omega))) (by omega)
  have hm2 := j2.inv
  refine g_getr 1 3 rfl hS.k0 hm2.f_0_1 (by decide) ?_
  refine g_getr 1 16 rfl hS.k3 hm2.f_3_1 (by decide) ?_
  refine g_getu 0 rfl hS.k16 (fun v3 ev3 => ?_)
  refine hk _ m2 a b j2 (by rw [ev3, f2 16 0 (by omega), ff 16 0 (by omega) (by omega)]) (fun c p q q2 => by rw [f2 c p (by omega), ff c p q (by omega)]) (fun p p0 p1 => by rw [f2 _ p (by omega)]; exact t0 p p0 p1) (fun c p q => by rw [f2 _ p (by omega)]; exact t1 c p q) (fun p p0 p1 => by rw [f2 _ p (by omega)]; exact s0 p p0 p1) (fun c p q => by rw [f2 _ p (by omega)]; exact s1 c p q) (by rw [f2 _ 4 (by omega)]; exact y0) (fun c p c0 c1 p0 p1 => by rw [f2 _ p (by omega)]; exact y1 c p c0 c1 p0 p1) (fun c p q q2 => ?_) ?_ y2 (by rw [f2 _ 2 (by omega), xx1])
  · rw [f2 c p (by omega), f1 c p q (by omega)]
  · rw [f2 _ 3 (by omega), x1]
end
section
/-! the rule language over a tape, with what is written: P the pile of signs that wait (its top first), O what is written, both as the class has them (numbers; words -2 and on; * / % + - -12 .. -16; < <= = >= > -17 .. -21; not and or -22 .. -24; turn, turn if -25, -26; [ -27) -/
def bnS (x : Int) : Int := if x = -24 then 1 else if x = -23 then 2 else if x = -22 then 3 else if -21 ≤ x ∧ x ≤ -17 then 4 else if x = -16 ∨ x = -15 then 5 else if -14 ≤ x ∧ x ≤ -12 then 6 else 4
/-- what is written of a pile, down to what binds less than u, or a bracket -/
def uW (u : Int) : List Int → List Int
  | [] => []
  | x :: P => if x = -27 ∨ bnS x < u then [] else x :: uW u P
/-- what stays -/
def uR (u : Int) : List Int → List Int
  | [] => []
  | x :: P => if x = -27 ∨ bnS x < u then x :: P else uR u P
def nOp : List Int → Nat
  | [] => 0
  | x :: P => (if x = -27 then 1 else 0) + nOp P
def nDp : List Int → Nat
  | [] => 0
  | x :: P => (if x = -27 ∨ x = -22 then 1 else 0) + nDp P
/-- the sign of a byte: * / % + - -/
def arS (x : Int) : Int := if x = 42 then -12 else if x = 47 then -13 else if x = 37 then -14 else if x = 43 then -15 else -16
/-- the sign of a comparison: its byte, and whether = comes behind -/
def cmS (x : Int) (e : Bool) : Int := if x = 61 then -19 else if x = 60 then (if e then -18 else -17) else (if e then -20 else -21)
abbrev Bc : Type := Int → Int → Int → List Int → List Int → Int → Int → List Int → Prop
def bV (b : Int → Int) (n : Int) (A : Bc) (m q c : Int) (P O : List Int) (k f : Int) (E : List Int) : List (Nat × Int) → Prop
  | [] => f = 1 + 8 * q ∧ E = []
  | (j, t) :: js => wIf (Wk b n j q) (wIf (c = 60) (f = 4 + 8 * q ∧ E = []) (A (m + 3) (q + tl j) (c + 1) P (O ++ [t]) k f E)) (bV b n A m q c P O k f E js)
def bws : List (Nat × Int) := [(2, -2), (7, -3), (8, -4), (3, -5), (9, -6), (4, -7), (10, -8), (1, -9), (11, -10), (12, -11)]
def b0 (b : Int → Int) (n : Int) (A : Bc) (q c : Int) (O : List Int) (k f : Int) (E : List Int) : Prop := wIf (Wk b n 6 q) (wIf (k = 12) (f = 5 + 8 * q ∧ E = []) (A 1 (q + 4) c [] O (k + 1) f E)) (f = 1 + 8 * q ∧ E = [])
def bVal (b : Int → Int) (n : Int) (A : Bc) (m q c : Int) (P O : List Int) (k f : Int) (E : List Int) : Prop := wIf (q < n ∧ Dg (b q)) (∃ r : Int, Dr b n q r ∧ wIf (5 < r - q) (f = 2 + 8 * q ∧ E = []) (wIf (c = 60) (f = 4 + 8 * q ∧ E = []) (A (m + 3) r (c + 1) P (O ++ [nv b q r]) k f E))) (bV b n A m q c P O k f E bws)
/-- a sign is piled up: what binds as close is written first -/
def bPile (A : Bc) (m p c s : Int) (P O : List Int) (k f : Int) (E : List Int) : Prop := A m p c (s :: uR (bnS s) P) (O ++ uW (bnS s) P) k f E
def bA0 (b : Int → Int) (n : Int) (A : Bc) (q c : Int) (P O : List Int) (k f : Int) (E : List Int) : Prop := wIf (n ≤ q ∨ b q = 59) (A 9 q c [] (O ++ uW 0 P ++ [-25]) k f E) (wIf (Ar (b q)) (bPile A 1 (q + 1) c (arS (b q)) P O k f E) (wIf (Wk b n 13 q) (A 8 (q + 2) c (uR 0 P) (O ++ uW 0 P) k f E) (f = 1 + 8 * q ∧ E = [])))
def bA1 (b : Int → Int) (n : Int) (A : Bc) (q c : Int) (P O : List Int) (k f : Int) (E : List Int) : Prop := wIf (q < n ∧ Ar (b q)) (bPile A 2 (q + 1) c (arS (b q)) P O k f E) (wIf (q < n ∧ Cm (b q)) (wIf (c = 60) (f = 4 + 8 * q ∧ E = []) (wIf (¬ b q = 61 ∧ q + 1 < n ∧ b (q + 1) = 61) (bPile A 3 (q + 2) (c + 1) (cmS (b q) true) P O k f E) (bPile A 3 (q + 1) (c + 1) (cmS (b q) false) P O k f E))) (f = 1 + 8 * q ∧ E = []))
def bB (b : Int → Int) (n : Int) (A : Bc) (q c : Int) (P O : List Int) (k f : Int) (E : List Int) : Prop := wIf (Wk b n 15 q) (bPile A 8 (q + 3) c (-23) P O k f E) (wIf (Wk b n 16 q) (bPile A 8 (q + 2) c (-24) P O k f E) (f = 1 + 8 * q ∧ E = []))
/-- a bracket closes, or the clause ends -/
def bC (b : Int → Int) (n : Int) (A : Bc) (q c : Int) (P O : List Int) (k f : Int) (E : List Int) (Z : Prop) : Prop := wIf (q < n ∧ b q = 93 ∧ ¬ nOp P = 0) (A 7 (q + 1) c (uR 0 P).tail (O ++ uW 0 P) k f E) (wIf (nOp P = 0 ∧ (n ≤ q ∨ b q = 59)) (A 9 q c [] (O ++ uW 0 P ++ [-26]) k f E) Z)
def bA2 (b : Int → Int) (n : Int) (A : Bc) (q c : Int) (P O : List Int) (k f : Int) (E : List Int) : Prop := bC b n A q c P O k f E (wIf (q < n ∧ Ar (b q)) (bPile A 3 (q + 1) c (arS (b q)) P O k f E) (bB b n A q c P O k f E))
def bA3 (b : Int → Int) (n : Int) (A : Bc) (q c : Int) (P O : List Int) (k f : Int) (E : List Int) : Prop := bC b n A q c P O k f E (bB b n A q c P O k f E)
def bO (b : Int → Int) (n : Int) (A : Bc) (q c : Int) (P O : List Int) (k f : Int) (E : List Int) : Prop := wIf (q < n ∧ b q = 91) (wIf (nDp P = 10) (f = 3 + 8 * q ∧ E = []) (A 8 (q + 1) c (-27 :: P) O k f E)) (wIf (Wk b n 14 q) (wIf (nDp P = 10) (f = 3 + 8 * q ∧ E = []) (A 8 (q + 3) c (-22 :: P) O k f E)) (A 2 q c P O k f E))
def bE (b : Int → Int) (n : Int) (A : Bc) (q c : Int) (O : List Int) (k f : Int) (E : List Int) : Prop := wIf (n ≤ q) (f = 0 ∧ E = O) (wIf (b q = 59) (A 0 (q + 1) c [] O k f E) (f = 1 + 8 * q ∧ E = []))
def bst (b : Int → Int) (n : Int) (A : Bc) (m q c : Int) (P O : List Int) (k f : Int) (E : List Int) : Prop := wIf (m = 0) (b0 b n A q c O k f E) (wIf (m = 1 ∨ m = 2 ∨ m = 3) (bVal b n A m q c P O k f E) (wIf (m = 4) (bA0 b n A q c P O k f E) (wIf (m = 5) (bA1 b n A q c P O k f E) (wIf (m = 6) (bA2 b n A q c P O k f E) (wIf (m = 7) (bA3 b n A q c P O k f E) (wIf (m = 8) (bO b n A q c P O k f E) (bE b n A q c O k f E)))))))
def bcc (b : Int → Int) (n : Int) : Nat → Bc
  | 0 => fun _ _ _ _ _ _ _ _ => False
  | N + 1 => fun m p c P O k f E => ∃ q : Int, Sk b n p q ∧ bst b n (bcc b n N) m q c P O k f E
/-- how the reading of a RULE ends: its FAULT, or 0 and the signs -/
def Bcc (b : Int → Int) (n : Int) : Bc := fun m p c P O k f E => ∃ N : Nat, bcc b n N m p c P O k f E
theorem b_bV {b : Int → Int} {n m q c : Int} {P O : List Int} {k f : Int} {E : List Int} : ∀ l : List (Nat × Int), bV b n (Bcc b n) m q c P O k f E l → ∃ N : Nat, bV b n (bcc b n N) m q c P O k f E l := by
  intro l
  induction l with
  | nil => intro h; exact ⟨0, h⟩
  | cons j js ih =>
    intro h
    exact ex_if (fun e => ex_if (fun e2 => ⟨0, (h.1 e).1 e2⟩) (fun e2 => (h.1 e).2 e2)) (fun e => ih (h.2 e))
theorem b_bB {b : Int → Int} {n q c : Int} {P O : List Int} {k f : Int} {E : List Int} (h : bB b n (Bcc b n) q c P O k f E) : ∃ N : Nat, bB b n (bcc b n N) q c P O k f E := ex_if (fun a => h.1 a) (fun a => ex_if (fun a2 => (h.2 a).1 a2) (fun a2 => ⟨0, (h.2 a).2 a2⟩))
theorem b_step {b : Int → Int} {n m p q c : Int} {P O : List Int} {k f : Int} {E : List Int} (hs : Sk b n p q) (h : bst b n (Bcc b n) m q c P O k f E) : Bcc b n m p c P O k f E := by
  have z : ∃ N : Nat, bst b n (bcc b n N) m q c P O k f E := by
    refine ex_if (fun e => ?_) (fun e0 => ex_if (fun e => ?_) (fun e1 => ex_if (fun e => ?_) (fun e2 => ex_if (fun e => ?_) (fun e3 => ex_if (fun e => ?_) (fun e4 => ex_if (fun e => ?_) (fun e5 => ex_if (fun e => ?_) (fun e6 => ?_)))))))
    · have g := h.1 e
      exact ex_if (fun a => ex_if (fun a2 => ⟨0, (g.1 a).1 a2⟩) (fun a2 => (g.1 a).2 a2)) (fun a => ⟨0, g.2 a⟩)
    · have g := (h.2 e0).1 e
      refine ex_if (fun a => ?_) (fun a => b_bV _ (g.2 a))
      obtain ⟨r, hr, g2⟩ := g.1 a
      obtain ⟨N, hN⟩ : ∃ N : Nat, wIf (5 < r - q) (f = 2 + 8 * q ∧ E = []) (wIf (c = 60) (f = 4 + 8 * q ∧ E = []) (bcc b n N (m + 3) r (c + 1) P (O ++ [nv b q r]) k f E)) := ex_if (fun a2 => ⟨0, g2.1 a2⟩) (fun a2 => ex_if (fun a3 => ⟨0, (g2.2 a2).1 a3⟩) (fun a3 => (g2.2 a2).2 a3))
      exact ⟨N, r, hr, hN⟩
    · have g := ((h.2 e0).2 e1).1 e
      exact ex_if (fun a => g.1 a) (fun a => ex_if (fun a2 => (g.2 a).1 a2) (fun a2 => ex_if (fun a3 => ((g.2 a).2 a2).1 a3) (fun a3 => ⟨0, ((g.2 a).2 a2).2 a3⟩)))
    · have g := (((h.2 e0).2 e1).2 e2).1 e
      exact ex_if (fun a => g.1 a) (fun a => ex_if (fun a2 => ex_if (fun a3 => ⟨0, ((g.2 a).1 a2).1 a3⟩) (fun a3 => ex_if (fun a4 => (((g.2 a).1 a2).2 a3).1 a4) (fun a4 => (((g.2 a).1 a2).2 a3).2 a4))) (fun a2 => ⟨0, (g.2 a).2 a2⟩))
    · have g := ((((h.2 e0).2 e1).2 e2).2 e3).1 e
      exact ex_if (fun a => g.1 a) (fun a => ex_if (fun a2 => (g.2 a).1 a2) (fun a2 => ex_if (fun a3 => ((g.2 a).2 a2).1 a3) (fun a3 => b_bB (((g.2 a).2 a2).2 a3))))
    · have g := (((((h.2 e0).2 e1).2 e2).2 e3).2 e4).1 e
      exact ex_if (fun a => g.1 a) (fun a => ex_if (fun a2 => (g.2 a).1 a2) (fun a2 => b_bB ((g.2 a).2 a2)))
    · have g := ((((((h.2 e0).2 e1).2 e2).2 e3).2 e4).2 e5).1 e
      exact ex_if (fun a => ex_if (fun a2 => ⟨0, (g.1 a).1 a2⟩) (fun a2 => (g.1 a).2 a2)) (fun a => ex_if (fun a2 => ex_if (fun a3 => ⟨0, ((g.2 a).1 a2).1 a3⟩) (fun a3 => ((g.2 a).1 a2).2 a3)) (fun a2 => (g.2 a).2 a2))
    · have g := ((((((h.2 e0).2 e1).2 e2).2 e3).2 e4).2 e5).2 e6
      exact ex_if (fun a => ⟨0, g.1 a⟩) (fun a => ex_if (fun a2 => (g.2 a).1 a2) (fun a2 => ⟨0, (g.2 a).2 a2⟩))
  obtain ⟨N, hN⟩ := z
  exact ⟨N + 1, q, hs, hN⟩
def Btt (A B : Bc) : Prop := ∀ m p c P O k f E g F, A m p c P O k f E → B m p c P O k g F → f = g ∧ E = F
theorem eq_bt {a f g : Int} {E F G : List Int} (h : f = a ∧ E = G) (h' : g = a ∧ F = G) : f = g ∧ E = F := ⟨h.1.trans h'.1.symm, h.2.trans h'.2.symm⟩
theorem bV_det {b : Int → Int} {n m q c : Int} {P O : List Int} {k f g : Int} {E F : List Int} {A B : Bc} (d : Btt A B) : ∀ l : List (Nat × Int), bV b n A m q c P O k f E l → bV b n B m q c P O k g F l → f = g ∧ E = F := by
  intro l
  induction l with
  | nil => intro h h'; exact eq_bt h h'
  | cons j js ih =>
    intro h h'
    exact if_dt h h' (fun h h' => if_dt h h' eq_bt (fun h h' => d _ _ _ _ _ _ _ _ _ _ h h')) ih
theorem bcc_det {b : Int → Int} {n : Int} : ∀ N N' : Nat, Btt (bcc b n N) (bcc b n N') := by
  intro N
  induction N with
  | zero => intro N' m p c P O k f E g F a; exact a.elim
  | succ N ih =>
    intro N'
    cases N' with
    | zero => intro m p c P O k f E g F _ a; exact a.elim
    | succ N' =>
      intro m p c P O k f E g F a a'
      have d := ih N'
      obtain ⟨q, hs, a⟩ := a
      obtain ⟨q', hs', a'⟩ := a'
      have e := hs.uniq hs'
      subst e
      have L : ∀ {m p c P O k}, bcc b n N m p c P O k f E → bcc b n N' m p c P O k g F → f = g ∧ E = F := fun h h' => d _ _ _ _ _ _ _ _ _ _ h h'
      have dB : bB b n (bcc b n N) q c P O k f E → bB b n (bcc b n N') q c P O k g F → f = g ∧ E = F := fun h h' => if_dt h h' L (fun h h' => if_dt h h' L eq_bt)
      refine if_dt a a' (fun h h' => if_dt h h' (fun h h' => if_dt h h' eq_bt L) eq_bt) (fun h h' => if_dt h h' (fun h h' => if_dt h h' (fun h h' => ?_) (bV_det d _)) (fun h h' => if_dt h h' (fun h h' => if_dt h h' L (fun h h' => if_dt h h' L (fun h h' => if_dt h h' L eq_bt))) (fun h h' => if_dt h h' (fun h h' => if_dt h h' L (fun h h' => if_dt h h' (fun h h' => if_dt h h' eq_bt (fun h h' => if_dt h h' L L)) eq_bt)) (fun h h' => if_dt h h' (fun h h' => if_dt h h' L (fun h h' => if_dt h h' L (fun h h' => if_dt h h' L dB))) (fun h h' => if_dt h h' (fun h h' => if_dt h h' L (fun h h' => if_dt h h' L dB)) (fun h h' => if_dt h h' (fun h h' => if_dt h h' (fun h h' => if_dt h h' eq_bt L) (fun h h' => if_dt h h' (fun h h' => if_dt h h' eq_bt L) L)) (fun h h' => if_dt h h' (fun h h' => ⟨h.1.trans h'.1.symm, h.2.trans h'.2.symm⟩) (fun h h' => if_dt h h' L eq_bt))))))))
      obtain ⟨r, hr, h⟩ := h
      obtain ⟨r', hr', h'⟩ := h'
      have e := hr.uniq hr'
      subst e
      exact if_dt h h' eq_bt (fun h h' => if_dt h h' eq_bt L)
theorem Bcc.det {b : Int → Int} {n m p c : Int} {P O : List Int} {k f g : Int} {E F : List Int} (x : Bcc b n m p c P O k f E) (x' : Bcc b n m p c P O k g F) : f = g ∧ E = F := by
  obtain ⟨N, x⟩ := x
  obtain ⟨N', x'⟩ := x'
  exact bcc_det N N' _ _ _ _ _ _ _ _ _ _ x x'
theorem uW_27 (u : Int) (P : List Int) : uW u (-27 :: P) = [] ∧ uR u (-27 :: P) = -27 :: P := ⟨if_pos (Or.inl rfl), if_pos (Or.inl rfl)⟩
theorem nOp_uR (u : Int) : ∀ P : List Int, nOp (uR u P) = nOp P := by
  intro P
  induction P with
  | nil => rfl
  | cons x P ih =>
    show nOp (if x = -27 ∨ bnS x < u then x :: P else uR u P) = (if x = -27 then 1 else 0) + nOp P
    by_cases e : x = -27 ∨ bnS x < u
    · rw [if_pos e]; rfl
    · rw [if_neg e, ih, if_neg (fun z => e (Or.inl z)), Nat.zero_add]
theorem nDp_uR (u : Int) : ∀ P : List Int, nDp (uR u P) ≤ nDp P := by
  intro P
  induction P with
  | nil => exact Nat.le_refl _
  | cons x P ih =>
    show nDp (if x = -27 ∨ bnS x < u then x :: P else uR u P) ≤ (if x = -27 ∨ x = -22 then 1 else 0) + nDp P
    by_cases e : x = -27 ∨ bnS x < u
    · rw [if_pos e]; exact Nat.le_refl _
    · rw [if_neg e]; omega
end
section
/-! the class's pile and code, as lists -/
def pl (f : Int → Int) : Nat → List Int
  | 0 => []
  | n + 1 => f (n : Int) :: pl f n
def rl (f : Int → Int) : Nat → List Int
  | 0 => []
  | n + 1 => rl f n ++ [f (n : Int)]
theorem pl_same {f g : Int → Int} : ∀ n : Nat, (∀ j : Int, 0 ≤ j → j < n → f j = g j) → pl f n = pl g n := by
  intro n
  induction n with
  | zero => intro _; rfl
  | succ n ih =>
    intro h
    show f (n : Int) :: pl f n = g (n : Int) :: pl g n
    rw [h (n : Int) (by omega) (by omega), ih (fun j j0 j1 => h j j0 (by omega))]
theorem rl_same {f g : Int → Int} : ∀ n : Nat, (∀ j : Int, 0 ≤ j → j < n → f j = g j) → rl f n = rl g n := by
  intro n
  induction n with
  | zero => intro _; rfl
  | succ n ih =>
    intro h
    show rl f n ++ [f (n : Int)] = rl g n ++ [g (n : Int)]
    rw [h (n : Int) (by omega) (by omega), ih (fun j j0 j1 => h j j0 (by omega))]
theorem bnS_bnd (x : Int) : bnd x = bnS x := rfl
/-- pile P, code O, how deep, how many brackets wait -/
def CQ (M : Mm) (P O : List Int) : Prop := pl (M 54) (M 52 5).toNat = P ∧ rl (M 53) (M 52 2).toNat = O ∧ M 52 6 = (nDp P : Int) ∧ ∀ x : Int, x ∈ P → (-24 ≤ x ∧ x ≤ -12) ∨ x = -27
theorem CQ.same {m m1 : Mm} {P O : List Int} (h : CQ m P O) (f : ∀ c p : Int, (c = 52 ∧ (p = 2 ∨ p = 5 ∨ p = 6)) ∨ c = 53 ∨ c = 54 → m1 c p = m c p) : CQ m1 P O := by
  obtain ⟨h1, h2, h3, h4⟩ := h
  have e4 : m1 54 = m 54 := funext (fun p => f 54 p (by first | decide | exact fun z => absurd z.1 (by decide) | exact ⟨fun z => absurd z.1 (by decide), fun z => absurd z.1 (by decide)⟩ | omega))
  have e3 : m1 53 = m 53 := funext (fun p => f 53 p (by first | decide | exact fun z => absurd z.1 (by decide) | exact ⟨fun z => absurd z.1 (by decide), fun z => absurd z.1 (by decide)⟩ | omega))
  unfold CQ
  rw [f 52 5 (by first | decide | exact fun z => absurd z.1 (by decide) | exact ⟨fun z => absurd z.1 (by decide), fun z => absurd z.1 (by decide)⟩ | omega), f 52 2 (by first | decide | exact fun z => absurd z.1 (by decide) | exact ⟨fun z => absurd z.1 (by decide), fun z => absurd z.1 (by decide)⟩ | omega), f 52 6 (by first | decide | exact fun z => absurd z.1 (by decide) | exact ⟨fun z => absurd z.1 (by decide), fun z => absurd z.1 (by decide)⟩ | omega), e4, e3]
  exact ⟨h1, h2, h3, h4⟩
theorem zf_write {X : Mm} {S : Sh} {m0 : Mm} {K : Mm → Prop} {u1 : Int} (hS : Shp S) (hm0 : Inv X S m0) (hp : m0 52 2 ≤ 399) (hk : ∀ M1 : Mm, Inv X S M1 → (∀ c p : Int, ¬ (c = 52 ∧ p = 2) → ¬ (c = 53 ∧ p = m0 52 2) → M1 c p = m0 c p) → M1 52 2 = m0 52 2 + 1 → M1 53 (m0 52 2) = u1 → K M1) : wp_X3_write S m0 52 u1 K := by
  have b2 := hm0.f_52_2
  refine u_X3_write ?_
  refine g_getu 2 rfl hS.k52 (fun v1 ev1 => ?_)
  refine g_C ?_
  refine g_ifF (by first | decide | omega) ?_
  refine g_getr 1 53 rfl hS.k52 hm0.f_52_1 (by decide) ?_
  refine g_getu 2 rfl hS.k52 (fun v5 ev5 => ?_)
  refine g_st hS.k53 hS.l53 (by omega) (by omega) (hm0.wa_53 (by omega) (by omega)) (fun m6 e6 hm6 => ?_)
  have f6 : ∀ c p : Int, ¬ (c = 53 ∧ p = v5) → m6 c p = m0 c p := fun c p q => (congrFun (congrFun e6 _) _).trans (up_ne q)
  have x6 : m6 53 v5 = u1 := (congrFun (congrFun e6 _) _).trans (up_at _ _ _ _)
  refine g_getu 2 rfl hS.k52 (fun v7 ev7 => ?_)
  rw [f6 52 2 (by first | decide | exact fun z => absurd z.1 (by decide) | exact ⟨fun z => absurd z.1 (by decide), fun z => absurd z.1 (by decide)⟩ | omega)] at ev7
  refine g_C ?_
  refine g_A (by omega) (by omega) ?_
  refine g_put 2 rfl hS.k52 (hm6.w_52_2 (by omega) (by omega)) (fun m8 e8 hm8 => ?_)
  have f8 : ∀ c p : Int, ¬ (c = 52 ∧ p = 2) → m8 c p = m6 c p := fun c p q => (congrFun (congrFun e8 _) _).trans (up_ne q)
  have x8 : m8 52 2 = v7 + 1 := (congrFun (congrFun e8 _) _).trans (up_at _ _ _ _)
  refine hk m8 hm8 (fun c p q1 q2 => (f8 c p q1).trans (f6 c p (by first | exact fun y => absurd (y.1 ▸ z) (by decide) | exact fun y => absurd (y.1 ▸ q) (by decide) | exact z | exact q | exact z.1 | exact q.1 | exact z.2 | exact q.2 | omega))) (by omega) ?_
  rw [f8 53 _ (by first | decide | exact fun z => absurd z.1 (by decide) | exact ⟨fun z => absurd z.1 (by decide), fun z => absurd z.1 (by decide)⟩ | omega), ← ev5]
  exact x6
theorem CQ.write {m m1 : Mm} {P O : List Int} {s : Int} (h : CQ m P O) (h0 : 0 ≤ m 52 2) (f : ∀ c p : Int, ¬ (c = 52 ∧ p = 2) → ¬ (c = 53 ∧ p = m 52 2) → m1 c p = m c p) (h2 : m1 52 2 = m 52 2 + 1) (hs : m1 53 (m 52 2) = s) : CQ m1 P (O ++ [s]) := by
  obtain ⟨p1, p2, p3, p4⟩ := h
  have e4 : m1 54 = m 54 := funext (fun p => f 54 p (by first | decide | exact fun z => absurd z.1 (by decide) | exact ⟨fun z => absurd z.1 (by decide), fun z => absurd z.1 (by decide)⟩ | omega) (by first | decide | exact fun z => absurd z.1 (by decide) | exact ⟨fun z => absurd z.1 (by decide), fun z => absurd z.1 (by decide)⟩ | omega))
  refine ⟨by rw [f 52 5 (by first | decide | exact fun z => absurd z.1 (by decide) | exact ⟨fun z => absurd z.1 (by decide), fun z => absurd z.1 (by decide)⟩ | omega) (by first | decide | exact fun z => absurd z.1 (by decide) | exact ⟨fun z => absurd z.1 (by decide), fun z => absurd z.1 (by decide)⟩ | omega), e4]; exact p1, ?_, by rw [f 52 6 (by first | decide | exact fun z => absurd z.1 (by decide) | exact ⟨fun z => absurd z.1 (by decide), fun z => absurd z.1 (by decide)⟩ | omega) (by first | decide | exact fun z => absurd z.1 (by decide) | exact ⟨fun z => absurd z.1 (by decide), fun z => absurd z.1 (by decide)⟩ | omega)]; exact p3, p4⟩
  rw [h2, show (m 52 2 + 1).toNat = (m 52 2).toNat + 1 by omega]
  show rl (m1 53) (m 52 2).toNat ++ [m1 53 (((m 52 2).toNat : Nat) : Int)] = O ++ [s]
  rw [Int.toNat_of_nonneg h0, hs, rl_same (g := m 53) _ (fun j j0 j1 => f 53 j (by first | decide | exact fun z => absurd z.1 (by decide) | exact ⟨fun z => absurd z.1 (by decide), fun z => absurd z.1 (by decide)⟩ | omega) (by first | decide | exact fun z => absurd z.1 (by decide) | exact ⟨fun z => absurd z.1 (by decide), fun z => absurd z.1 (by decide)⟩ | omega)), p2]
theorem CQ.push {m m1 : Mm} {P O : List Int} {s : Int} (h : CQ m P O) (h0 : 0 ≤ m 52 5) (f : ∀ c p : Int, ¬ (c = 52 ∧ p = 5) ∧ ¬ (c = 54 ∧ p = m 52 5) → m1 c p = m c p) (h5 : m1 52 5 = m 52 5 + 1) (hs : m1 54 (m 52 5) = s) (hv : (-24 ≤ s ∧ s ≤ -12) ∨ s = -27) (hd : ¬ (s = -27 ∨ s = -22)) : CQ m1 (s :: P) O := by
  obtain ⟨p1, p2, p3, p4⟩ := h
  have e3 : m1 53 = m 53 := funext (fun p => f 53 p (by first | decide | exact fun z => absurd z.1 (by decide) | exact ⟨fun z => absurd z.1 (by decide), fun z => absurd z.1 (by decide)⟩ | omega))
  refine ⟨?_, by rw [f 52 2 (by first | decide | exact fun z => absurd z.1 (by decide) | exact ⟨fun z => absurd z.1 (by decide), fun z => absurd z.1 (by decide)⟩ | omega), e3]; exact p2, ?_, fun x hx => ?_⟩
  · rw [h5, show (m 52 5 + 1).toNat = (m 52 5).toNat + 1 by omega]
    show m1 54 (((m 52 5).toNat : Nat) : Int) :: pl (m1 54) (m 52 5).toNat = s :: P
    rw [Int.toNat_of_nonneg h0, hs, pl_same (g := m 54) _ (fun j j0 j1 => f 54 j (by first | decide | exact fun z => absurd z.1 (by decide) | exact ⟨fun z => absurd z.1 (by decide), fun z => absurd z.1 (by decide)⟩ | omega)), p1]
  · rw [f 52 6 (by first | decide | exact fun z => absurd z.1 (by decide) | exact ⟨fun z => absurd z.1 (by decide), fun z => absurd z.1 (by decide)⟩ | omega), p3]
    show (nDp P : Int) = (((if s = -27 ∨ s = -22 then 1 else 0) + nDp P : Nat) : Int)
    rw [if_neg hd, Nat.zero_add]
  · rcases List.mem_cons.mp hx with e | e
    · rw [e]; exact hv
    · exact p4 x e
theorem zf_unpile {X : Mm} {S : Sh} {m0 : Mm} {K : Mm → Prop} {u : Int} {P O : List Int} (hS : Shp S) (hm0 : Inv X S m0) (hc : CQ m0 P O) (hr : m0 52 2 + m0 52 5 ≤ 399) (hl : nDp P ≤ 10) (hk : ∀ M1 : Mm, Inv X S M1 → (∀ c p : Int, ¬ (c = 52 ∧ (p = 2 ∨ p = 5 ∨ p = 6)) ∧ ¬ c = 53 → M1 c p = m0 c p) → CQ M1 (uR u P) (O ++ uW u P) → M1 52 2 + M1 52 5 = m0 52 2 + m0 52 5 → K M1) : wp_X3_unpile S m0 52 u K := by
  have b50 := hm0.f_52_5
  have L : ∀ (k : Nat) (t : Int) (m : Mm) (Q W : List Int), Inv X S m → (∀ c p : Int, ¬ (c = 52 ∧ (p = 2 ∨ p = 5 ∨ p = 6)) ∧ ¬ c = 53 → m c p = m0 c p) → CQ m Q W → uR u Q = uR u P → W ++ uW u Q = O ++ uW u P → nDp Q ≤ 10 → m 52 2 + m 52 5 = m0 52 2 + m0 52 5 → t = m 52 5 - 1 → t + 2 ≤ (k : Int) → wp_X3_unpile_7 S K k 52 u t m := by
    intro k
    induction k with
    | zero =>
      intro t m Q W hm _ _ _ _ _ _ h1 h2
      have b5 := hm.f_52_5
      exfalso; omega
    | succ k ih =>
      intro t m Q W hm F c1 c2 c3 c4 c5 et h
      have b5 := hm.f_52_5
      have b2 := hm.f_52_2
      obtain ⟨p1, p2, p3, p4⟩ := id c1
      have done : uR u Q = Q → uW u Q = [] → K m := by
        intro h1 h2
        refine hk m hm F ?_ c5
        rw [← c2, ← c3, h1, h2, List.append_nil]
        exact c1
      refine u_X3_unpile_7 ?_
      refine g_if (fun w => ?_) (fun w => ?_)
      · have z : (m 52 5).toNat = 0 := by omega
        rw [z] at p1
        rw [← p1] at done
        exact done rfl rfl
      · have es : (m 52 5).toNat = t.toNat + 1 := by omega
        have ct : ((t.toNat : Nat) : Int) = t := by omega
        rw [es] at p1
        have q1 : m 54 t :: pl (m 54) t.toNat = Q := by
          rw [← p1]
          show _ = m 54 ((t.toNat : Nat) : Int) :: pl (m 54) t.toNat
          rw [ct]
        have pe := p4 (m 54 t) (by rw [← q1]; exact List.mem_cons_self ..)
        refine g_getr 4 54 rfl hS.k52 hm.f_52_4 (by decide) ?_
        refine g_ldu hS.k54 hS.l54 (by omega) (by omega) (fun x ex => ?_)
        refine g_C ?_
        refine g_if (fun w2 => ?_) (fun w2 => ?_)
        · have e27 : m 54 t = -27 := by omega
          rw [e27] at q1
          rw [← q1] at done
          exact done (uW_27 u _).2 (uW_27 u _).1
        · refine g_getr 4 54 rfl hS.k52 hm.f_52_4 (by decide) ?_
          refine g_ldu hS.k54 hS.l54 (by omega) (by omega) (fun y ey => ?_)
          refine zl_bnd ?_
          rw [ey, bnS_bnd]
          refine g_if (fun w3 => ?_) (fun w3 => ?_)
          · have nc : ¬ (m 54 t = -27 ∨ bnS (m 54 t) < u) := by omega
            refine g_getr 4 54 rfl hS.k52 hm.f_52_4 (by decide) ?_
            refine g_ldu hS.k54 hS.l54 (by omega) (by omega) (fun y2 ey2 => ?_)
            refine ⟨hS.k52, ?_⟩
            refine zf_write hS hm (by omega) (fun m1 hm1 f1 y1 z1 => ?_)
            have cq1 := c1.write b2.1 f1 y1 z1
            have e5 : m1 52 5 = m 52 5 := f1 52 5 (by first | decide | exact fun z => absurd z.1 (by decide) | exact ⟨fun z => absurd z.1 (by decide), fun z => absurd z.1 (by decide)⟩ | omega) (by first | decide | exact fun z => absurd z.1 (by decide) | exact ⟨fun z => absurd z.1 (by decide), fun z => absurd z.1 (by decide)⟩ | omega)
            have e6 : m1 52 6 = m 52 6 := f1 52 6 (by first | decide | exact fun z => absurd z.1 (by decide) | exact ⟨fun z => absurd z.1 (by decide), fun z => absurd z.1 (by decide)⟩ | omega) (by first | decide | exact fun z => absurd z.1 (by decide) | exact ⟨fun z => absurd z.1 (by decide), fun z => absurd z.1 (by decide)⟩ | omega)
            refine ⟨hS.k52, ?_⟩
            refine ze_dropTop hS hm1 (by omega) (by omega) (by omega) (fun m2 hm2 f2 y2' y3 => ?_)
            have f54 : m2 54 = m 54 := funext (fun p => (f2 54 p (by first | decide | exact fun z => absurd z.1 (by decide) | exact ⟨fun z => absurd z.1 (by decide), fun z => absurd z.1 (by decide)⟩ | omega)).trans (f1 54 p (by first | decide | exact fun z => absurd z.1 (by decide) | exact ⟨fun z => absurd z.1 (by decide), fun z => absurd z.1 (by decide)⟩ | omega) (by first | decide | exact fun z => absurd z.1 (by decide) | exact ⟨fun z => absurd z.1 (by decide), fun z => absurd z.1 (by decide)⟩ | omega)))
            rw [f1 54 _ (by first | decide | exact fun z => absurd z.1 (by decide) | exact ⟨fun z => absurd z.1 (by decide), fun z => absurd z.1 (by decide)⟩ | omega) (by first | decide | exact fun z => absurd z.1 (by decide) | exact ⟨fun z => absurd z.1 (by decide), fun z => absurd z.1 (by decide)⟩ | omega), e5, ← et] at y3
            have e25 : m2 52 5 = t := by omega
            have cq2 : CQ m2 (pl (m 54) t.toNat) (W ++ [y2]) := by
              obtain ⟨a1, a2, a3, a4⟩ := cq1
              have e53 : m2 53 = m1 53 := funext (fun p => f2 53 p (by first | decide | exact fun z => absurd z.1 (by decide) | exact ⟨fun z => absurd z.1 (by decide), fun z => absurd z.1 (by decide)⟩ | omega))
              refine ⟨by rw [e25, f54], by rw [f2 52 2 (by first | decide | exact fun z => absurd z.1 (by decide) | exact ⟨fun z => absurd z.1 (by decide), fun z => absurd z.1 (by decide)⟩ | omega), e53]; exact a2, ?_, fun x hx => p4 x (by rw [← q1]; exact List.mem_cons_of_mem _ hx)⟩
              have nd : nDp Q = (if m 54 t = -27 ∨ m 54 t = -22 then 1 else 0) + nDp (pl (m 54) t.toNat) := by rw [← q1]; rfl
              rcases y3 with ⟨z1', z2'⟩ | ⟨z1', z2'⟩
              · rw [if_pos z1'] at nd; omega
              · rw [if_neg z1'] at nd; omega
            refine g_A (by omega) (by omega) ?_
            refine ih (t + -1) m2 (pl (m 54) t.toNat) (W ++ [y2]) hm2 (fun c p q => ((f2 c p (by first | exact fun y => absurd (y.1 ▸ z) (by decide) | exact fun y => absurd (y.1 ▸ q) (by decide) | exact z | exact q | exact z.1 | exact q.1 | exact z.2 | exact q.2 | omega)).trans (f1 c p (by first | exact fun y => absurd (y.1 ▸ z) (by decide) | exact fun y => absurd (y.1 ▸ q) (by decide) | exact z | exact q | exact z.1 | exact q.1 | exact z.2 | exact q.2 | omega) (by omega))).trans (F c p q)) cq2 ?_ ?_ ?_ (by rw [f2 52 2 (by first | decide | exact fun z => absurd z.1 (by decide) | exact ⟨fun z => absurd z.1 (by decide), fun z => absurd z.1 (by decide)⟩ | omega)]; omega) (by omega) (by omega)
            · rw [← c2, ← q1]
              exact (if_neg nc).symm
            · rw [← c3, ← q1, List.append_assoc]
              show W ++ ([y2] ++ uW u (pl (m 54) t.toNat)) = W ++ (if m 54 t = -27 ∨ bnS (m 54 t) < u then [] else m 54 t :: uW u (pl (m 54) t.toNat))
              rw [if_neg nc, ey2]
              rfl
            · have nd : nDp Q = (if m 54 t = -27 ∨ m 54 t = -22 then 1 else 0) + nDp (pl (m 54) t.toNat) := by rw [← q1]; rfl
              omega
          · have yc : m 54 t = -27 ∨ bnS (m 54 t) < u := Or.inr (by omega)
            rw [← q1] at done
            exact done (if_pos yc) (if_pos yc)
  refine u_X3_unpile ?_
  refine g_getu 5 rfl hS.k52 (fun v ev => ?_)
  refine g_C ?_
  refine g_S (by omega) (by omega) ?_
  exact ⟨402, L 402 (v - 1) m0 P O hm0 (fun _ _ _ => rfl) hc rfl rfl hl rfl (by omega) (by omega)⟩
theorem zf_pile {X : Mm} {S : Sh} {m0 : Mm} {K : Mm → Prop} {s : Int} {P O : List Int} (hS : Shp S) (hm0 : Inv X S m0) (hc : CQ m0 P O) (hr : m0 52 2 + m0 52 5 ≤ 399) (hl : nDp P ≤ 10) (hs : -24 ≤ s ∧ s ≤ -12) (hn : ¬ s = -22) (hk : ∀ M1 : Mm, Inv X S M1 → (∀ c p : Int, ¬ (c = 52 ∧ (p = 2 ∨ p = 5 ∨ p = 6)) ∧ ¬ c = 53 ∧ ¬ c = 54 → M1 c p = m0 c p) → CQ M1 (s :: uR (bnS s) P) (O ++ uW (bnS s) P) → M1 52 2 + M1 52 5 = m0 52 2 + m0 52 5 + 1 → K M1) : wp_X3_pileUp S m0 52 s K := by
  refine u_X3_pileUp ?_
  refine zl_bnd ?_
  rw [bnS_bnd]
  refine ⟨hS.k52, ?_⟩
  refine zf_unpile hS hm0 hc hr hl (fun m1 hm1 f1 c1 y1 => ?_)
  have b2 := hm1.f_52_2
  have b5 := hm1.f_52_5
  refine ⟨hS.k52, ?_⟩
  refine ze_push hS hm1 (by omega) (fun m2 hm2 f2 y2 z2 => ?_)
  refine hk m2 hm2 (fun c p q => (f2 c p (by first | exact fun y => absurd (y.1 ▸ z) (by decide) | exact fun y => absurd (y.1 ▸ q) (by decide) | exact z | exact q | exact z.1 | exact q.1 | exact z.2 | exact q.2 | omega)).trans (f1 c p (by first | exact fun y => absurd (y.1 ▸ z) (by decide) | exact fun y => absurd (y.1 ▸ q) (by decide) | exact z | exact q | exact z.1 | exact q.1 | exact z.2 | exact q.2 | omega))) (c1.push b5.1 f2 y2 z2 (Or.inl hs) (by omega)) ?_
  rw [f2 52 2 (by first | decide | exact fun z => absurd z.1 (by decide) | exact ⟨fun z => absurd z.1 (by decide), fun z => absurd z.1 (by decide)⟩ | omega)]
  omega
end
