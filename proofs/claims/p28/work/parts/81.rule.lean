theorem zq_clauseR {X : Mm} {S : Sh} {m0 : Mm} {K : Int → Mm → Prop} (hS : Shp S) (hm0 : Inv X S m0) (hr : Rl X m0 0) (hf : ∀ M1 : Mm, Inv X S M1 → ¬ M1 336 9 = 0 → K 0 M1) (hk : ∀ M1 : Mm, Inv X S M1 → Rl X M1 0 → m0 336 8 ≤ M1 336 8 → K 1 M1) : wp_X12_clauseHere S m0 336 K := by
  refine u_X12_clauseHere ?_
  refine ⟨hS.k336, ?_⟩
  refine z_X12_see hS hm0 (fun r1 m1 hm1 f1 b1 c1 y1 _ _ => ?_)
  have r1' : Rl X m1 0 := hr.fr (fun c p q => f1 c p (by omega)) y1
  have b8 := hm1.f_336_8
  obtain ⟨t1, t2, t3⟩ := id r1'.1
  refine g_getu 8 rfl hS.k336 (fun v ev => ?_)
  refine g_getu 11 rfl hS.k336 (fun t et => ?_)
  refine g_C ?_
  refine g_ifT (by omega) ?_
  refine g_C ?_
  refine u_X12_clauseHere_24 ?_
  refine g_ifT rfl ?_
  refine g_C ?_
  refine ⟨hS.k336, ?_⟩
  refine z_X12_isWord hS hm1 (by decide) (by decide) (fun r2 m2 hm2 f2 b2 c2 y2 _ _ => ?_)
  have r2' : Rl X m2 0 := r1'.fr (fun c p q => f2 c p (by omega)) y2
  refine g_if (fun w => ?_) (fun w => ?_)
  · refine u_X12_clauseHere_56 ?_
    refine g_getu 14 rfl hS.k336 (fun l el => ?_)
    refine g_ifT rfl ?_
    refine g_C ?_
    refine u_X12_clauseHere_71 ?_
    obtain ⟨g, ra, rb, rc, re⟩ := id r2'
    refine g_if (fun w2 => ?_) (fun w2 => ?_)
    · refine g_getu 14 rfl hS.k336 (fun l2 el2 => ?_)
      refine g_C ?_
      refine g_A (by omega) (by omega) ?_
      refine g_put 14 rfl hS.k336 (hm2.w_336_14 (by omega) (by omega)) (fun m3 e3 hm3 => ?_)
      have f3 : ∀ c p : Int, ¬ (c = 336 ∧ p = 14) → m3 c p = m2 c p := fun c p q => (congrFun (congrFun e3 _) _).trans (up_ne q)
      have x3 : m3 336 14 = l2 + 1 := (congrFun (congrFun e3 _) _).trans (up_at _ _ _ _)
      have e8 : m3 336 8 = m2 336 8 := f3 336 8 (by omega)
      have r3 : Rl X m3 1 := by
        refine ⟨⟨(f3 336 11 (by omega)).trans g.1, g.2⟩, ?_, ?_, ?_, fun i i0 i1 => ?_⟩
        · rw [f3 339 _ (by omega)]; omega
        · rw [f3 341 _ (by omega)]; omega
        · rw [f3 341 _ (by omega)]; omega
        · rw [f3 341 _ (by omega)] at i1
          exact (re i i0 i1).same (f3 340 _ (by omega)) (f3 340 _ (by omega)) (f3 340 _ (by omega)) (f3 340 _ (by omega)) (fun j _ => f3 338 j (by omega)) (by rw [f3 339 _ (by omega)]; omega)
      refine g_ifT rfl ?_
      refine ⟨hS.k336, ?_⟩
      exact zq_isTurnHere hS hm3 r3 (fun m4 hm4 n4 => ⟨by decide, hf m4 hm4 n4⟩) (fun m4 hm4 r4 p4 => ⟨by decide, hk m4 hm4 r4 (by omega)⟩)
    · refine g_C ?_
      refine ⟨hS.k336, ?_⟩
      refine z_X12_fails hS hm2 (by decide) (by decide) (by omega) (by omega) (fun r3 m3 hm3 f3 b3 c3 y6 => ?_)
      obtain rfl : r3 = 0 := by omega
      exact ⟨by decide, hf m3 hm3 y6⟩
  · refine u_X12_clauseHere_49 ?_
    refine g_C ?_
    refine ⟨hS.k336, ?_⟩
    refine z_X12_fails hS hm2 (by decide) (by decide) (by omega) (by omega) (fun r3 m3 hm3 f3 b3 c3 y6 => ?_)
    obtain rfl : r3 = 0 := by omega
    exact ⟨by decide, hf m3 hm3 y6⟩
theorem zg_readsAll {X : Mm} {S : Sh} {m0 : Mm} {K : Int → Mm → Prop} (P : Mm → Prop) (hS : Shp S) (hm0 : Inv X S m0) (ht : 0 ≤ m0 336 11 ∧ m0 336 11 ≤ 6) (hP : ∀ m m1 : Mm, P m → (∀ c p : Int, ¬ (c = 336 ∧ (p = 1 ∨ p = 8 ∨ p = 9)) → m1 c p = m c p) → m 336 8 ≤ m1 336 8 → P m1) (hi : ∀ m1 : Mm, (∀ c p : Int, ¬ (c = 339 ∧ p = m0 336 11) ∧ ¬ (c = 336 ∧ (p = 14 ∨ p = 8 ∨ p = 9 ∨ p = 12)) → m1 c p = m0 c p) → m1 339 (m0 336 11) = 0 → m1 336 14 = 0 → m1 336 8 = 0 → P m1) (hc : ∀ (m : Mm) (K' : Int → Mm → Prop), Inv X S m → P m → (∀ M1 : Mm, Inv X S M1 → ¬ M1 336 9 = 0 → K' 0 M1) → (∀ M1 : Mm, Inv X S M1 → P M1 → m 336 8 ≤ M1 336 8 → K' 1 M1) → wp_X12_clauseHere S m 336 K') (hf : ∀ M1 : Mm, Inv X S M1 → K 0 M1) (hk : ∀ M1 : Mm, Inv X S M1 → P M1 → K 1 M1) : wp_X12_readsAll S m0 336 K := by
  have fin : ∀ m : Mm, Inv X S m → (m 336 9 = 0 → P m) → wp_X12_readsAll_88 S K 336 m := by
    intro m hm hp
    refine u_X12_readsAll_88 ?_
    refine g_C ?_
    refine g_put 1 rfl hS.k336 (hm.w_336_1 (by omega) (by omega)) (fun m1 e1 hm1 => ?_)
    have f1 : ∀ c p : Int, ¬ (c = 336 ∧ p = 1) → m1 c p = m c p := fun c p q => (congrFun (congrFun e1 _) _).trans (up_ne q)
    refine g_getu 9 rfl hS.k336 (fun v ev => ?_)
    rw [f1 336 9 (by omega)] at ev
    exact g_if (fun w => g_C ⟨by decide, hf m1 hm1⟩) (fun w => g_C ⟨by decide, hk m1 hm1 (hP m m1 (hp (by omega)) (fun c p q => f1 c p (by omega)) (by rw [f1 336 8 (by omega)]; omega))⟩)
  have L : ∀ (n : Nat) (u : Int) (m : Mm), Inv X S m → ((u = 0 ∧ ¬ m 336 9 = 0 ∧ 1 ≤ n) ∨ (u = 1 ∧ P m ∧ 402 - m 336 8 ≤ (n : Int))) → wp_X12_readsAll_35 S K n 336 u m := by
    intro n
    induction n with
    | zero =>
      intro u m hm h
      have b8 := hm.f_336_8
      exfalso
      rcases h with h | h
      · exact absurd h.2.2 (by decide)
      · have := h.2.2; omega
    | succ n ih =>
      intro u m hm h
      refine u_X12_readsAll_35 ?_
      rcases h with ⟨h1, h2, h3⟩ | ⟨h1, h2, h3⟩
      · refine g_ifT h1 ?_
        refine u_X12_readsAll_66 ?_
        refine g_ifT h1 ?_
        exact fin m hm (fun z => absurd z h2)
      · refine g_ifF (by omega) ?_
        refine ⟨hS.k336, ?_⟩
        refine z_X12_see hS hm (fun r1 m1 hm1 f1 b1 c1 y1 ns1 _ => ?_)
        have p1 : P m1 := hP m m1 h2 (fun c p q => f1 c p (by omega)) y1
        have b8 := hm1.f_336_8
        have b1' := hm1.f_336_1
        refine g_C ?_
        refine g_if (fun w => ?_) (fun w => ?_)
        · refine u_X12_readsAll_66 ?_
          refine g_ifF (by omega) ?_
          refine ⟨hS.k336, ?_⟩
          refine z_X12_see hS hm1 (fun r2 m2 hm2 f2 b2 c2 y2 ns2 _ => ?_)
          have p2 : P m2 := hP m1 m2 p1 (fun c p q => f2 c p (by omega)) y2
          have b82 := hm2.f_336_8
          refine g_C ?_
          refine g_if (fun w2 => fin m2 hm2 (fun _ => p2)) (fun w2 => ?_)
          refine g_C ?_
          refine g_getu 8 rfl hS.k336 (fun v ev => ?_)
          refine ⟨hS.k336, ?_⟩
          refine z_X12_fails hS hm2 (by decide) (by decide) (by omega) (by omega) (fun r3 m3 hm3 f3 b3 c3 y6 => ?_)
          exact fin m3 hm3 (fun z => absurd z y6)
        · have n1 := (ns1.resolve_left (by omega)).1
          refine g_getu 8 rfl hS.k336 (fun v ev => ?_)
          refine g_C ?_
          refine g_A (by omega) (by omega) ?_
          refine g_put 8 rfl hS.k336 (hm1.w_336_8 (by omega) (by omega)) (fun m2 e2 hm2 => ?_)
          have f2 : ∀ c p : Int, ¬ (c = 336 ∧ p = 8) → m2 c p = m1 c p := fun c p q => (congrFun (congrFun e2 _) _).trans (up_ne q)
          have x2 : m2 336 8 = v + 1 := (congrFun (congrFun e2 _) _).trans (up_at _ _ _ _)
          have p2 : P m2 := hP m1 m2 p1 (fun c p q => f2 c p (by omega)) (by omega)
          refine ⟨hS.k336, ?_⟩
          refine hc m2 _ hm2 p2 (fun m3 hm3 n3 => ?_) (fun m3 hm3 p3 y3 => ?_)
          · exact ih 0 m3 hm3 (Or.inl ⟨rfl, n3, by omega⟩)
          · exact ih 1 m3 hm3 (Or.inr ⟨rfl, p3, by omega⟩)
  refine u_X12_readsAll ?_
  refine g_getr 4 339 rfl hS.k336 hm0.f_336_4 (by decide) ?_
  refine g_getu 11 rfl hS.k336 (fun t et => ?_)
  refine g_C ?_
  refine g_st hS.k339 hS.l339 (by omega) (by omega) (hm0.wa_339 (by omega) (by omega) (by omega) (by omega)) (fun m1 e1 hm1 => ?_)
  refine g_C ?_
  refine g_put 14 rfl hS.k336 (hm1.w_336_14 (by omega) (by omega)) (fun m2 e2 hm2 => ?_)
  refine g_C ?_
  refine g_put 8 rfl hS.k336 (hm2.w_336_8 (by omega) (by omega)) (fun m3 e3 hm3 => ?_)
  refine g_C ?_
  refine g_put 9 rfl hS.k336 (hm3.w_336_9 (by omega) (by omega)) (fun m4 e4 hm4 => ?_)
  refine g_C ?_
  refine g_put 12 rfl hS.k336 (hm4.w_336_12 (by omega) (by omega)) (fun m5 e5 hm5 => ?_)
  have f1 : ∀ c p : Int, ¬ (c = 339 ∧ p = t) → m1 c p = m0 c p := fun c p q => (congrFun (congrFun e1 _) _).trans (up_ne q)
  have x1 : m1 339 t = 0 := (congrFun (congrFun e1 _) _).trans (up_at _ _ _ _)
  have f2 : ∀ c p : Int, ¬ (c = 336 ∧ p = 14) → m2 c p = m1 c p := fun c p q => (congrFun (congrFun e2 _) _).trans (up_ne q)
  have x2 : m2 336 14 = 0 := (congrFun (congrFun e2 _) _).trans (up_at _ _ _ _)
  have f3 : ∀ c p : Int, ¬ (c = 336 ∧ p = 8) → m3 c p = m2 c p := fun c p q => (congrFun (congrFun e3 _) _).trans (up_ne q)
  have x3 : m3 336 8 = 0 := (congrFun (congrFun e3 _) _).trans (up_at _ _ _ _)
  have f4 : ∀ c p : Int, ¬ (c = 336 ∧ p = 9) → m4 c p = m3 c p := fun c p q => (congrFun (congrFun e4 _) _).trans (up_ne q)
  have f5 : ∀ c p : Int, ¬ (c = 336 ∧ p = 12) → m5 c p = m4 c p := fun c p q => (congrFun (congrFun e5 _) _).trans (up_ne q)
  have F : ∀ c p : Int, ¬ (c = 336 ∧ (p = 14 ∨ p = 8 ∨ p = 9 ∨ p = 12)) → m5 c p = m1 c p := fun c p q => by rw [f5 c p (by omega), f4 c p (by omega), f3 c p (by omega), f2 c p (by omega)]
  refine ⟨hS.k336, ?_⟩
  have b85 := hm5.f_336_8
  refine hc m5 _ hm5 (hi m5 (fun c p q => ?_) ?_ ?_ ?_) (fun m6 hm6 n6 => ?_) (fun m6 hm6 p6 y6 => ?_)
  · rw [F c p (by omega), f1 c p (by omega)]
  · rw [F 339 _ (by omega), ← et, x1]
  · rw [f5 336 14 (by omega), f4 336 14 (by omega), f3 336 14 (by omega), x2]
  · rw [f5 336 8 (by omega), f4 336 8 (by omega), x3]
  · exact ⟨402, L 402 0 m6 hm6 (Or.inl ⟨rfl, n6, by decide⟩)⟩
  · have b86 := hm6.f_336_8
    exact ⟨402, L 402 1 m6 hm6 (Or.inr ⟨rfl, p6, by omega⟩)⟩
theorem pfx_same {X Y : Mm} {t : Int} : ∀ (n : Nat) (i d : Int), (∀ j : Int, i ≤ j → j < i + n → Y 338 (400 * t + j) = X 338 (400 * t + j)) → pfx X t n i d → pfx Y t n i d := by
  intro n
  induction n with
  | zero => intro i d _ h; exact h
  | succ n ih =>
    intro i d hs h
    have e := hs i (by omega) (by omega)
    have k := fun d' => ih (i + 1) d' (fun j a b => hs j (by omega) (by omega))
    unfold pfx at h ⊢
    rw [e]
    rcases h with h | h | h | h
    · exact Or.inl ⟨h.1, h.2.1, k _ h.2.2⟩
    · exact Or.inr (Or.inl ⟨h.1, h.2.1, h.2.2.1, h.2.2.2.1, k _ h.2.2.2.2⟩)
    · exact Or.inr (Or.inr (Or.inl ⟨h.1, h.2.1, k _ h.2.2⟩))
    · exact Or.inr (Or.inr (Or.inr ⟨h.1, h.2.1, h.2.2.1, h.2.2.2.1, k _ h.2.2.2.2⟩))
theorem pfr_same {X Y : Mm} {t a b : Int} (h : pfr X t a b) (hs : ∀ p : Int, 400 * t ≤ p → p < 400 * t + 400 → Y 338 p = X 338 p) : pfr Y t a b := ⟨h.1, h.2.1, h.2.2.1, pfx_same _ _ _ (fun j j0 j1 => hs _ (by have := h.1; omega) (by have := h.1; have := h.2.1; have := h.2.2.1; omega)) h.2.2.2⟩
theorem rulOK_same {X Y : Mm} {t : Int} (h : rulOK X t) (h1 : Y 341 t = X 341 t) (h2 : ∀ p : Int, 48 * t ≤ p → p < 48 * t + 48 → Y 340 p = X 340 p) (h3 : ∀ p : Int, 400 * t ≤ p → p < 400 * t + 400 → Y 338 p = X 338 p) : rulOK Y t := by
  obtain ⟨a, b⟩ := h
  unfold rulOK
  rw [h1]
  refine ⟨a, fun c c0 c1 => ?_⟩
  obtain ⟨q1, q2⟩ := b c c0 c1
  rw [h2 (48 * t + 4 * c) (by omega) (by omega), h2 (48 * t + 4 * c + 1) (by omega) (by omega), h2 (48 * t + 4 * c + 2) (by omega) (by omega), h2 (48 * t + 4 * c + 3) (by omega) (by omega)]
  refine ⟨pfr_same q1 h3, ?_⟩
  rcases q2 with q2 | q2
  · exact Or.inl q2
  · exact Or.inr (pfr_same q2 h3)
theorem Good.same {X Y : Mm} (h : Good X) (h1 : Y 336 21 = X 336 21) (h2 : Y 336 2 = X 336 2) (h3 : ∀ c k : Int, (c = 355 ∨ c = 357) → Y c k = X c k) (h4 : ∀ p : Int, p < X 336 2 → Y 341 p = X 341 p) (h5 : ∀ p : Int, p < 48 * X 336 2 → Y 340 p = X 340 p) (h6 : ∀ p : Int, p < 400 * X 336 2 → Y 338 p = X 338 p) : Good Y := by
  obtain ⟨a, b, c, d⟩ := h
  unfold Good
  rw [h1, h2]
  refine ⟨a, fun k k0 k1 => by rw [h3 355 k (by omega), h3 357 k (by omega)]; exact b k k0 k1, c, fun t t0 t1 => ?_⟩
  exact rulOK_same (d t t0 t1) (h4 t t1) (fun p _ p1 => h5 p (by omega)) (fun p _ p1 => h6 p (by omega))
/-- places that are: said, what was said, images -/
def PL3 (M : Mm) : Prop := PlOK (M 346) (M 346 0) (M 346 4) (M 346 5) ∧ (∀ r : Int, 0 ≤ r → r < M 336 25 → PlOK (fun p => M 347 (57 * r + p)) (M 347 (57 * r)) (M 347 (57 * r + 4)) (M 347 (57 * r + 5))) ∧ (∀ k : Int, 0 ≤ k → k < 4 → PlOK (fun p => M 354 (158 * k + p)) (M 354 (158 * k)) (M 354 (158 * k + 4)) (M 354 (158 * k + 5)))
def Jc (S : Sh) (M : Mm) : Prop := (∀ c p : Nat, c < 358 → p < pT.getD c 0 → okb (bd c p) (M c p)) ∧ (∀ i : Int, 0 ≤ i → i < 6 → rowv S (M 30 i)) ∧ rowv S (M 55 1) ∧ Good M ∧ PL3 M
/-- the seeds of both sides are alike -/
def Xr (M : Mm) : Prop := M 3 3 = M 336 22 ∧ (M 76 3 = M 356 0 ∧ M 76 9 = M 357 0) ∧ (M 101 3 = M 356 1 ∧ M 101 9 = M 357 1) ∧ (M 126 3 = M 356 2 ∧ M 126 9 = M 357 2) ∧ (M 151 3 = M 356 3 ∧ M 151 9 = M 357 3)
def JX (S : Sh) (M : Mm) : Prop := Jc S M ∧ Xr M
abbrev sf (M : Mm) : Mm := up M (-1) 0 0
theorem sf_e (M : Mm) {c p : Int} (h : ¬ c = -1) : sf M c p = M c p := up_ne (fun z => h z.1)
theorem Jc.inv {S : Sh} {M : Mm} (h : Jc S M) : Inv (sf M) S M := by
  obtain ⟨h1, h2, h3, h4, h5⟩ := h
  refine ⟨h1, fun c p hs => (sf_e M (by omega)).symm, h2, h3, h4.same (sf_e M (by decide)) (sf_e M (by decide)) (fun c k q => sf_e M (by omega)) (fun p _ => sf_e M (by decide)) (fun p _ => sf_e M (by decide)) (fun p _ => sf_e M (by decide)), fun hx => ?_, ?_⟩
  · have z : sf M (-1) 0 = 0 := up_at _ _ _ _
    rw [z] at hx
    exact absurd hx (by decide)
  · unfold PLi
    rw [sf_e M (c := 346) (p := 0) (by decide), sf_e M (c := 346) (p := 4) (by decide), sf_e M (c := 346) (p := 5) (by decide)]
    refine ⟨h5.1, fun hx => ?_, h5.2⟩
    have z : sf M (-1) 0 = 0 := up_at _ _ _ _
    rw [z] at hx
    exact absurd hx (by decide)
theorem Jc.of {X : Mm} {S : Sh} {M : Mm} (h : Inv X S M) : Jc S M := by
  refine ⟨h.1, h.2.2.1, h.row55, ?_, ?_⟩
  · exact h.good.same (h.g (by decide)) (h.g (by decide)) (fun c k q => h.g (by omega)) (fun p q => h.2.1 _ _ (Or.inr (Or.inr (Or.inr ⟨rfl, q⟩)))) (fun p q => h.2.1 _ _ (Or.inr (Or.inr (Or.inl ⟨rfl, q⟩)))) (fun p q => h.2.1 _ _ (Or.inr (Or.inl ⟨rfl, q⟩)))
  · have q := h.pl
    unfold PLi at q
    rw [← h.g (c := 346) (p := 0) (by decide), ← h.g (c := 346) (p := 4) (by decide), ← h.g (c := 346) (p := 5) (by decide)] at q
    exact ⟨q.1, q.2.2⟩
theorem Xr.same {M M1 : Mm} (h : Xr M) (hs : ∀ c p : Int, spP c p → M1 c p = M c p) : Xr M1 := by
  unfold Xr at h ⊢
  rw [hs 3 3 (by decide), hs 336 22 (by decide), hs 76 3 (by decide), hs 356 0 (by decide), hs 76 9 (by decide), hs 357 0 (by decide), hs 101 3 (by decide), hs 356 1 (by decide), hs 101 9 (by decide), hs 357 1 (by decide), hs 126 3 (by decide), hs 356 2 (by decide), hs 126 9 (by decide), hs 357 2 (by decide), hs 151 3 (by decide), hs 356 3 (by decide), hs 151 9 (by decide), hs 357 3 (by decide)]
  exact h
theorem JX.inv {S : Sh} {M : Mm} (h : JX S M) : Inv (sf M) S M := h.1.inv
theorem JX.of {S : Sh} {M M1 : Mm} (h : JX S M) (h1 : Inv (sf M) S M1) : JX S M1 := ⟨Jc.of h1, h.2.same (fun c p q => (h1.g q).trans (sf_e M (by omega)))⟩
theorem zj_rule12 {S : Sh} {m0 : Mm} {K : Int → Mm → Prop} (hS : Shp S) (hj : JX S m0) (hk : ∀ (r : Int) (M1 : Mm), JX S M1 → K r M1) : wp_X12_rule S m0 336 K := by
  have hm0 := hj.inv
  obtain ⟨X, eX⟩ : ∃ X : Mm, X = sf m0 := ⟨_, rfl⟩
  have x2 : X 336 2 = m0 336 2 := by rw [eX]; exact sf_e m0 (by decide)
  have fin : ∀ (r : Int) (M1 : Mm), Inv X S M1 → K r M1 := fun r M1 h => hk r M1 (hj.of (by rw [← eX]; exact h))
  rw [← eX] at hm0
  have b2 := hm0.f_336_2
  refine u_X12_rule ?_
  refine g_getu 2 rfl hS.k336 (fun v ev => ?_)
  refine g_C ?_
  refine g_if (fun w => ?_) (fun w => g_C (fin _ m0 hm0))
  refine g_getu 2 rfl hS.k336 (fun v2 ev2 => ?_)
  refine g_put 11 rfl hS.k336 (hm0.w_336_11 (by omega) (by omega)) (fun m1 e1 hm1 => ?_)
  have f1 : ∀ c p : Int, ¬ (c = 336 ∧ p = 11) → m1 c p = m0 c p := fun c p q => (congrFun (congrFun e1 _) _).trans (up_ne q)
  have y1 : m1 336 11 = v2 := (congrFun (congrFun e1 _) _).trans (up_at _ _ _ _)
  refine g_getr 6 341 rfl hS.k336 hm1.f_336_6 (by decide) ?_
  refine g_getu 11 rfl hS.k336 (fun v3 ev3 => ?_)
  refine g_C ?_
  have hw2 : Inv X S (up m1 341 v3 0) := hm1.wA (0, 12) (by decide) (by decide +kernel) (Or.inr ⟨by decide, by decide⟩) (by omega) (by decide) (by decide)
  refine g_st hS.k341 hS.l341 (by omega) (by omega) hw2 (fun m2 e2 hm2 => ?_)
  have f2 : ∀ c p : Int, ¬ (c = 341 ∧ p = v3) → m2 c p = m1 c p := fun c p q => (congrFun (congrFun e2 _) _).trans (up_ne q)
  have y2 : m2 341 v3 = 0 := (congrFun (congrFun e2 _) _).trans (up_at _ _ _ _)
  have t2 : m2 336 11 = X 336 2 := by rw [f2 336 11 (by omega)]; omega
  refine ⟨hS.k336, ?_⟩
  refine zg_readsAll (fun m => Rl X m 0) hS hm2 (by omega) (fun m m1 p f h8 => p.fr (fun c p q => f c p (by omega)) h8) (fun m3 f3 z39 z14 z8 => ?_) (fun m K' hm p hf hk => zq_clauseR hS hm p hf hk) (fun m3 hm3 => ?_) (fun m3 hm3 r3 => ?_)
  · rw [t2] at z39
    have e41 : m3 341 (X 336 2) = 0 := by rw [f3 341 _ (by omega), ← y2]; congr 1; omega
    refine ⟨⟨(f3 336 11 (by omega)).trans t2, by omega, by omega⟩, by omega, by omega, by omega, fun c c0 c1 => absurd c1 (by omega)⟩
  · refine g_ifF (by decide) ?_
    refine g_C ?_
    refine g_get 9 (0) (4000) rfl hS.k336 hm3.f_336_9 (fun v4 ev4 bv4 cv4 => ?_)
    refine g_S (by omega) (by omega) ?_
    exact fin _ m3 hm3
  · refine g_ifT (by decide) ?_
    refine g_getu 2 rfl hS.k336 (fun v4 ev4 => ?_)
    have g4 := hm3.g (c := 336) (p := 2) (by decide)
    refine g_C ?_
    refine g_A (by omega) (by omega) ?_
    refine g_putR 2 rfl hS.k336 (fun m4 e4 => ?_)
    have f4 : ∀ c p : Int, ¬ (c = 336 ∧ p = 2) → m4 c p = m3 c p := fun c p q => (congrFun (congrFun e4 _) _).trans (up_ne q)
    have y4 : m4 336 2 = v4 + 1 := (congrFun (congrFun e4 _) _).trans (up_at _ _ _ _)
    have j3 := hj.of (M1 := m3) (by rw [← eX]; exact hm3)
    have j4 : JX S m4 := by
      obtain ⟨⟨k1, k2, k3, k4, k5⟩, k6⟩ := j3
      obtain ⟨rg, rl, rc, rd, re⟩ := r3
      have bl := hm3.a_339 (i := X 336 2) (by omega) (by omega)
      refine ⟨⟨fun c p hc hp => ?_, fun i i0 i1 => ?_, ?_, ?_, ?_⟩, ?_⟩
      · by_cases e : (c : Int) = 336 ∧ (p : Int) = 2
        · have e1 : c = 336 := by omega
          have e2 : p = 2 := by omega
          subst e1 e2
          rw [show ((336 : Nat) : Int) = 336 from rfl, show ((2 : Nat) : Int) = 2 from rfl, y4]
          exact okb_of (l := 0) (u := 6) (by decide +kernel) (by omega) (by omega)
        · rw [f4 c p e]
          exact k1 c p hc hp
      · rw [f4 30 i (by omega)]; exact k2 i i0 i1
      · rw [f4 55 1 (by omega)]; exact k3
      · obtain ⟨ga, gb, gc, gd⟩ := k4
        unfold Good
        rw [f4 336 21 (by omega), y4]
        refine ⟨by omega, fun k k0 k1 => by rw [f4 355 k (by omega), f4 357 k (by omega)]; have := gb k k0 k1; omega, by omega, fun t t0 t1 => ?_⟩
        by_cases et : t = X 336 2
        · unfold rulOK
          rw [et, f4 341 _ (by omega)]
          refine ⟨by omega, fun c c0 c1 => ?_⟩
          rw [f4 340 _ (by omega), f4 340 _ (by omega), f4 340 _ (by omega), f4 340 _ (by omega)]
          obtain ⟨q1, q2⟩ := (re c c0 c1).ok (by omega)
          have hs : ∀ p : Int, 400 * X 336 2 ≤ p → p < 400 * X 336 2 + 400 → m4 338 p = m3 338 p := fun p _ _ => f4 338 p (by omega)
          refine ⟨pfr_same q1 hs, ?_⟩
          rcases q2 with q2 | q2
          · exact Or.inl q2
          · exact Or.inr (pfr_same q2 hs)
        · exact rulOK_same (gd t t0 (by omega)) (f4 341 _ (by omega)) (fun p _ _ => f4 340 p (by omega)) (fun p _ _ => f4 338 p (by omega))
      · unfold PL3 at k5 ⊢
        have e6 : m4 346 = m3 346 := funext (fun p => f4 346 p (by omega))
        have e7 : m4 347 = m3 347 := funext (fun p => f4 347 p (by omega))
        have e8 : m4 354 = m3 354 := funext (fun p => f4 354 p (by omega))
        rw [e6, e7, e8, f4 336 25 (by omega)]
        exact k5
      · unfold Xr at k6 ⊢
        rw [f4 3 3 (by omega), f4 336 22 (by omega), f4 76 3 (by omega), f4 76 9 (by omega), f4 101 3 (by omega), f4 101 9 (by omega), f4 126 3 (by omega), f4 126 9 (by omega), f4 151 3 (by omega), f4 151 9 (by omega), f4 356 0 (by omega), f4 356 1 (by omega), f4 356 2 (by omega), f4 356 3 (by omega), f4 357 0 (by omega), f4 357 1 (by omega), f4 357 2 (by omega), f4 357 3 (by omega)]
        exact k6
    refine g_getu 2 rfl hS.k336 (fun v5 ev5 => ?_)
    refine g_C ?_
    refine g_S (by omega) (by omega) ?_
    exact hk _ m4 j4
