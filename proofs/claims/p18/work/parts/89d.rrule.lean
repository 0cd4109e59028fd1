theorem pfx_same {X Y : Mm} {t : Int} : ∀ (n : Nat) (i d : Int), (∀ j : Int, i ≤ j → j < i + n → Y 338 (400 * t + j) = X 338 (400 * t + j)) → pfx X t n i d → pfx Y t n i d := by
  intro n
  induction n with
  | zero => intro i d _ h; exact h
  | succ n ih =>
    intro i d hs h
    have e := hs i (by omega) (by omega)
    have k := fun d' => ih (i + 1) d' (fun j a b => hs j (by omega) (by omega))
    unfold pfx at h ⊢
    rw [e]
    rcases h with h | h | h | h
    · exact Or.inl ⟨h.1, h.2.1, k _ h.2.2⟩
    · exact Or.inr (Or.inl ⟨h.1, h.2.1, h.2.2.1, h.2.2.2.1, k _ h.2.2.2.2⟩)
    · exact Or.inr (Or.inr (Or.inl ⟨h.1, h.2.1, k _ h.2.2⟩))
    · exact Or.inr (Or.inr (Or.inr ⟨h.1, h.2.1, h.2.2.1, h.2.2.2.1, k _ h.2.2.2.2⟩))
theorem pfr_same {X Y : Mm} {t a b : Int} (h : pfr X t a b) (hs : ∀ p : Int, 400 * t ≤ p → p < 400 * t + 400 → Y 338 p = X 338 p) : pfr Y t a b := ⟨h.1, h.2.1, h.2.2.1, pfx_same _ _ _ (fun j j0 j1 => hs _ (by have := h.1; omega) (by have := h.1; have := h.2.1; have := h.2.2.1; omega)) h.2.2.2⟩
theorem rulOK_same {X Y : Mm} {t : Int} (h : rulOK X t) (h1 : Y 341 t = X 341 t) (h2 : ∀ p : Int, 48 * t ≤ p → p < 48 * t + 48 → Y 340 p = X 340 p) (h3 : ∀ p : Int, 400 * t ≤ p → p < 400 * t + 400 → Y 338 p = X 338 p) : rulOK Y t := by
  obtain ⟨a, b⟩ := h
  unfold rulOK
  rw [h1]
  refine ⟨a, fun c c0 c1 => ?_⟩
  obtain ⟨q1, q2⟩ := b c c0 c1
  rw [h2 (48 * t + 4 * c) (by omega) (by omega), h2 (48 * t + 4 * c + 1) (by omega) (by omega), h2 (48 * t + 4 * c + 2) (by omega) (by omega), h2 (48 * t + 4 * c + 3) (by omega) (by omega)]
  refine ⟨pfr_same q1 h3, ?_⟩
  rcases q2 with q2 | q2
  · exact Or.inl q2
  · exact Or.inr (pfr_same q2 h3)
theorem Good.same {X Y : Mm} (h : Good X) (h1 : Y 336 21 = X 336 21) (h2 : Y 336 2 = X 336 2) (h3 : ∀ c k : Int, (c = 355 ∨ c = 357) → Y c k = X c k) (h4 : ∀ p : Int, p < X 336 2 → Y 341 p = X 341 p) (h5 : ∀ p : Int, p < 48 * X 336 2 → Y 340 p = X 340 p) (h6 : ∀ p : Int, p < 400 * X 336 2 → Y 338 p = X 338 p) : Good Y := by
  obtain ⟨a, b, c, d⟩ := h
  unfold Good
  rw [h1, h2]
  refine ⟨a, fun k k0 k1 => by rw [h3 355 k (by omega), h3 357 k (by omega)]; exact b k k0 k1, c, fun t t0 t1 => ?_⟩
  exact rulOK_same (d t t0 t1) (h4 t t1) (fun p _ p1 => h5 p (by omega)) (fun p _ p1 => h6 p (by omega))
/-- places that are: said, what was said, images -/
def PL3 (M : Mm) : Prop := PlOK (M 346) (M 346 0) (M 346 4) (M 346 5) ∧ (∀ r : Int, 0 ≤ r → r < M 336 25 → PlOK (fun p => M 347 (57 * r + p)) (M 347 (57 * r)) (M 347 (57 * r + 4)) (M 347 (57 * r + 5))) ∧ (∀ k : Int, 0 ≤ k → k < 4 → PlOK (fun p => M 354 (158 * k + p)) (M 354 (158 * k)) (M 354 (158 * k + 4)) (M 354 (158 * k + 5)))
def Jc (S : Sh) (M : Mm) : Prop := (∀ c p : Nat, c < 358 → p < pT.getD c 0 → okb (bd c p) (M c p)) ∧ (∀ i : Int, 0 ≤ i → i < 6 → rowv S (M 30 i)) ∧ rowv S (M 55 1) ∧ Good M ∧ PL3 M
/-- the seeds of both sides are alike -/
def Xr (M : Mm) : Prop := M 3 3 = M 336 22 ∧ (M 76 3 = M 356 0 ∧ M 76 9 = M 357 0) ∧ (M 101 3 = M 356 1 ∧ M 101 9 = M 357 1) ∧ (M 126 3 = M 356 2 ∧ M 126 9 = M 357 2) ∧ (M 151 3 = M 356 3 ∧ M 151 9 = M 357 3)
abbrev sf (M : Mm) : Mm := up M (-1) 0 0
theorem sf_e (M : Mm) {c p : Int} (h : ¬ c = -1) : sf M c p = M c p := up_ne (fun z => h z.1)
theorem Jc.inv {S : Sh} {M : Mm} (h : Jc S M) : Inv (sf M) S M := by
  obtain ⟨h1, h2, h3, h4, h5⟩ := h
  refine ⟨h1, fun c p hs => (sf_e M (by omega)).symm, h2, h3, h4.same (sf_e M (by decide)) (sf_e M (by decide)) (fun c k q => sf_e M (by omega)) (fun p _ => sf_e M (by decide)) (fun p _ => sf_e M (by decide)) (fun p _ => sf_e M (by decide)), fun hx => ?_, ?_⟩
  · have z : sf M (-1) 0 = 0 := up_at _ _ _ _
    rw [z] at hx
    exact absurd hx (by decide)
  · unfold PLi
    rw [sf_e M (c := 346) (p := 0) (by decide), sf_e M (c := 346) (p := 4) (by decide), sf_e M (c := 346) (p := 5) (by decide)]
    refine ⟨h5.1, fun hx => ?_, h5.2⟩
    have z : sf M (-1) 0 = 0 := up_at _ _ _ _
    rw [z] at hx
    exact absurd hx (by decide)
theorem Jc.of {X : Mm} {S : Sh} {M : Mm} (h : Inv X S M) : Jc S M := by
  refine ⟨h.1, h.2.2.1, h.row55, ?_, ?_⟩
  · exact h.good.same (h.g (by decide)) (h.g (by decide)) (fun c k q => h.g (by omega)) (fun p q => h.2.1 _ _ (Or.inr (Or.inr (Or.inr ⟨rfl, q⟩)))) (fun p q => h.2.1 _ _ (Or.inr (Or.inr (Or.inl ⟨rfl, q⟩)))) (fun p q => h.2.1 _ _ (Or.inr (Or.inl ⟨rfl, q⟩)))
  · have q := h.pl
    unfold PLi at q
    rw [← h.g (c := 346) (p := 0) (by decide), ← h.g (c := 346) (p := 4) (by decide), ← h.g (c := 346) (p := 5) (by decide)] at q
    exact ⟨q.1, q.2.2⟩
theorem Xr.same {M M1 : Mm} (h : Xr M) (hs : ∀ c p : Int, spP c p → M1 c p = M c p) : Xr M1 := by
  unfold Xr at h ⊢
  rw [hs 3 3 (by decide), hs 336 22 (by decide), hs 76 3 (by decide), hs 356 0 (by decide), hs 76 9 (by decide), hs 357 0 (by decide), hs 101 3 (by decide), hs 356 1 (by decide), hs 101 9 (by decide), hs 357 1 (by decide), hs 126 3 (by decide), hs 356 2 (by decide), hs 126 9 (by decide), hs 357 2 (by decide), hs 151 3 (by decide), hs 356 3 (by decide), hs 151 9 (by decide), hs 357 3 (by decide)]
  exact h
/-- the tapes, the numbers of rules, the forces of both sides are alike -/
def Ya (M : Mm) : Prop := (M 1 1 = M 336 1 ∧ (∀ p : Int, 0 ≤ p → p < 400 → M 2 p = M 337 p) ∧ M 0 7 = M 336 2) ∧ M 3 2 = M 336 21 ∧ (M 357 0 = 0 ∨ M 76 2 = M 355 0) ∧ (M 357 1 = 0 ∨ M 101 2 = M 355 1) ∧ (M 357 2 = 0 ∨ M 126 2 = M 355 2) ∧ (M 357 3 = 0 ∨ M 151 2 = M 355 3)
theorem Ya.same {M M1 : Mm} (h : Ya M) (hs : ∀ c p : Int, spP c p → M1 c p = M c p) : Ya M1 := by
  obtain ⟨⟨a1, a2, a3⟩, a4, a5⟩ := h
  unfold Ya
  rw [hs 1 1 (by decide), hs 336 1 (by decide), hs 0 7 (by decide), hs 336 2 (by decide), hs 3 2 (by decide), hs 336 21 (by decide), hs 76 2 (by decide), hs 355 0 (by decide), hs 357 0 (by decide), hs 101 2 (by decide), hs 355 1 (by decide), hs 357 1 (by decide), hs 126 2 (by decide), hs 355 2 (by decide), hs 357 2 (by decide), hs 151 2 (by decide), hs 355 3 (by decide), hs 357 3 (by decide)]
  exact ⟨⟨a1, fun p p0 p1 => by rw [hs 2 p (by omega), hs 337 p (by omega)]; exact a2 p p0 p1, a3⟩, a4, a5⟩
def JX (S : Sh) (M : Mm) : Prop := Jc S M ∧ Xr M ∧ Ya M
theorem JX.inv {S : Sh} {M : Mm} (h : JX S M) : Inv (sf M) S M := h.1.inv
theorem JX.of {S : Sh} {M M1 : Mm} (h : JX S M) (h1 : Inv (sf M) S M1) : JX S M1 := ⟨Jc.of h1, h.2.1.same (fun c p q => (h1.g q).trans (sf_e M (by omega))), h.2.2.same (fun c p q => (h1.g q).trans (sf_e M (by omega)))⟩
theorem Jc.put {S : Sh} {M : Mm} {c p v : Int} (h : Jc S M) (hb : ∀ c' p' : Nat, (c' : Int) = c → (p' : Int) = p → okb (bd c' p') v) (hn : ¬ c = 30 ∧ ¬ (c = 55 ∧ p = 1) ∧ ¬ (c = 336 ∧ (p = 21 ∨ p = 2 ∨ p = 25)) ∧ ¬ c = 355 ∧ ¬ c = 357 ∧ ¬ c = 341 ∧ ¬ c = 340 ∧ ¬ c = 338 ∧ ¬ c = 346 ∧ ¬ c = 347 ∧ ¬ c = 354) : Jc S (up M c p v) := by
  have F : ∀ c' p' : Int, ¬ (c' = c ∧ p' = p) → up M c p v c' p' = M c' p' := fun c' p' q => up_ne q
  obtain ⟨k1, k2, k3, k4, k5⟩ := h
  refine ⟨fun c' p' hc hp => ?_, fun i i0 i1 => ?_, ?_, ?_, ?_⟩
  · by_cases e : (c' : Int) = c ∧ (p' : Int) = p
    · rw [e.1, e.2, up_at]
      exact hb c' p' e.1 e.2
    · rw [F _ _ e]
      exact k1 c' p' hc hp
  · rw [F 30 i (by omega)]; exact k2 i i0 i1
  · rw [F 55 1 (by omega)]; exact k3
  · exact k4.same (F 336 21 (by omega)) (F 336 2 (by omega)) (fun c' k q => F c' k (by omega)) (fun p' _ => F 341 p' (by omega)) (fun p' _ => F 340 p' (by omega)) (fun p' _ => F 338 p' (by omega))
  · unfold PL3 at k5 ⊢
    have e6 : up M c p v 346 = M 346 := funext (fun p' => F 346 p' (by omega))
    have e7 : up M c p v 347 = M 347 := funext (fun p' => F 347 p' (by omega))
    have e8 : up M c p v 354 = M 354 := funext (fun p' => F 354 p' (by omega))
    rw [e6, e7, e8, F 336 25 (by omega)]
    exact k5
theorem Jc.len12 {S : Sh} {M : Mm} {v : Int} (h : Jc S M) (h0 : 0 ≤ v) (h1 : v ≤ 400) : Jc S (up M 336 1 v) := by
  refine h.put (fun c p e1 e2 => ?_) (by decide)
  have e1 : c = 336 := by omega
  have e2 : p = 1 := by omega
  subst e1 e2
  exact okb_of (l := 0) (u := 400) (by decide +kernel) h0 h1
theorem zk_rule12 {S : Sh} {m0 : Mm} {K : Int → Mm → Prop} {tb : Int → Int} {tn : Int} (hS : Shp S) (hj : Jc S m0) (hR : TR m0 tb tn) (h6 : m0 336 2 = 6 → K (-1) m0) (hf : ∀ (f : Int) (M1 : Mm), Jc S M1 → (∀ c p : Int, spP c p → ¬ (c = 336 ∧ p = 1) → M1 c p = m0 c p) → M1 336 1 = 0 → ¬ m0 336 2 = 6 → Acc tb tn 0 0 0 [] 0 f → ¬ f = 0 → K (-2 - f) M1) (hk : ∀ M1 : Mm, Jc S M1 → (∀ c p : Int, spP c p → ¬ (c = 336 ∧ (p = 1 ∨ p = 2)) → M1 c p = m0 c p) → M1 336 1 = 0 → M1 336 2 = m0 336 2 + 1 → ¬ m0 336 2 = 6 → Acc tb tn 0 0 0 [] 0 0 → K (m0 336 2) M1) : wp_X12_rule S m0 336 K := by
  have hm0 := hj.inv
  obtain ⟨X, eX⟩ : ∃ X : Mm, X = sf m0 := ⟨_, rfl⟩
  have xe : ∀ c p : Int, ¬ c = -1 → X c p = m0 c p := fun c p h => by rw [eX]; exact sf_e m0 h
  have x2 : X 336 2 = m0 336 2 := xe 336 2 (by decide)
  have hRX : TR X tb tn := ⟨(xe 336 1 (by decide)).trans hR.1, hR.2.1, fun p p0 p1 => ⟨(xe 337 p (by decide)).trans (hR.2.2 p p0 p1).1, (hR.2.2 p p0 p1).2⟩⟩
  rw [← eX] at hm0
  have b2 := hm0.f_336_2
  refine u_X12_rule ?_
  refine g_getu 2 rfl hS.k336 (fun v ev => ?_)
  refine g_C ?_
  refine g_if (fun w => ?_) (fun w => g_C (h6 (by omega)))
  refine g_getu 2 rfl hS.k336 (fun v2 ev2 => ?_)
  refine g_put 11 rfl hS.k336 (hm0.w_336_11 (by omega) (by omega)) (fun m1 e1 hm1 => ?_)
  have f1 : ∀ c p : Int, ¬ (c = 336 ∧ p = 11) → m1 c p = m0 c p := fun c p q => (congrFun (congrFun e1 _) _).trans (up_ne q)
  have y1 : m1 336 11 = v2 := (congrFun (congrFun e1 _) _).trans (up_at _ _ _ _)
  refine g_getr 6 341 rfl hS.k336 hm1.f_336_6 (by decide) ?_
  refine g_getu 11 rfl hS.k336 (fun v3 ev3 => ?_)
  refine g_C ?_
  have hw2 : Inv X S (up m1 341 v3 0) := hm1.wA (0, 12) (by decide) (by decide +kernel) (Or.inr ⟨by decide, by decide⟩) (by omega) (by decide) (by decide)
  refine g_st hS.k341 hS.l341 (by omega) (by omega) hw2 (fun m2 e2 hm2 => ?_)
  have f2 : ∀ c p : Int, ¬ (c = 341 ∧ p = v3) → m2 c p = m1 c p := fun c p q => (congrFun (congrFun e2 _) _).trans (up_ne q)
  have y2 : m2 341 v3 = 0 := (congrFun (congrFun e2 _) _).trans (up_at _ _ _ _)
  have t2 : m2 336 11 = X 336 2 := by rw [f2 336 11 (by omega)]; omega
  refine ⟨hS.k336, ?_⟩
  refine zs_readsAll (T := fun f => Acc tb tn 0 0 0 [] 0 f) hS hm2 hRX ⟨t2, by omega, by omega⟩ (by rw [← y2]; congr 1; omega) (fun f h => h) (fun m3 hm3 a3 n3 => ?_) (fun m3 hm3 r3 a3 n3 => ?_)
  · have b9 := hm3.f_336_9
    refine g_ifF (by decide) ?_
    refine g_C ?_
    refine g_getu 9 rfl hS.k336 (fun v4 ev4 => ?_)
    have e9 : v4 = m3 336 9 := ev4.trans (up_ne (by omega))
    refine g_S (by omega) (by omega) ?_
    rw [e9]
    exact hf _ _ ((Jc.of hm3).len12 (by decide) (by decide)) (fun c p hs hn => (up_ne hn).trans ((hm3.g hs).trans (xe c p (by omega)))) (up_at _ _ _ _) (by omega) a3 n3
  · refine g_ifT (by decide) ?_
    obtain ⟨m9, e9⟩ : ∃ m9 : Mm, m9 = up m3 336 1 0 := ⟨_, rfl⟩
    have f9 : ∀ c p : Int, ¬ (c = 336 ∧ p = 1) → m9 c p = m3 c p := fun c p q => by rw [e9]; exact up_ne q
    have j9 : Jc S m9 := by rw [e9]; exact (Jc.of hm3).len12 (by decide) (by decide)
    have z9 : m9 336 1 = 0 := by rw [e9]; exact up_at _ _ _ _
    rw [← e9]
    refine g_getu 2 rfl hS.k336 (fun v4 ev4 => ?_)
    have g4 := hm3.g (c := 336) (p := 2) (by decide)
    rw [f9 336 2 (by omega)] at ev4
    refine g_C ?_
    refine g_A (by omega) (by omega) ?_
    refine g_putR 2 rfl hS.k336 (fun m4 e4 => ?_)
    have f4 : ∀ c p : Int, ¬ (c = 336 ∧ p = 2) → m4 c p = m9 c p := fun c p q => (congrFun (congrFun e4 _) _).trans (up_ne q)
    have y4 : m4 336 2 = v4 + 1 := (congrFun (congrFun e4 _) _).trans (up_at _ _ _ _)
    have j4 : Jc S m4 := by
      obtain ⟨k1, k2, k3, k4, k5⟩ := j9
      obtain ⟨rg, rl, rc, rd, re⟩ := r3
      have bl := hm3.a_339 (i := X 336 2) (by omega) (by omega)
      refine ⟨fun c p hc hp => ?_, fun i i0 i1 => ?_, ?_, ?_, ?_⟩
      · by_cases e : (c : Int) = 336 ∧ (p : Int) = 2
        · have e1 : c = 336 := by omega
          have e2 : p = 2 := by omega
          subst e1 e2
          rw [show ((336 : Nat) : Int) = 336 from rfl, show ((2 : Nat) : Int) = 2 from rfl, y4]
          exact okb_of (l := 0) (u := 6) (by decide +kernel) (by omega) (by omega)
        · rw [f4 c p e]
          exact k1 c p hc hp
      · rw [f4 30 i (by omega)]; exact k2 i i0 i1
      · rw [f4 55 1 (by omega)]; exact k3
      · obtain ⟨ga, gb, gc, gd⟩ := k4
        have n9 : m9 336 2 = m3 336 2 := f9 336 2 (by omega)
        unfold Good
        rw [f4 336 21 (by omega), y4]
        refine ⟨by omega, fun k k0 k1 => by rw [f4 355 k (by omega), f4 357 k (by omega)]; have := gb k k0 k1; omega, by omega, fun t t0 t1 => ?_⟩
        by_cases et : t = X 336 2
        · unfold rulOK
          rw [et, f4 341 _ (by omega), f9 341 _ (by omega)]
          refine ⟨by omega, fun c c0 c1 => ?_⟩
          rw [f4 340 _ (by omega), f4 340 _ (by omega), f4 340 _ (by omega), f4 340 _ (by omega), f9 340 _ (by omega), f9 340 _ (by omega), f9 340 _ (by omega), f9 340 _ (by omega)]
          obtain ⟨q1, q2⟩ := (re c c0 c1).ok (by omega)
          have hs : ∀ p : Int, 400 * X 336 2 ≤ p → p < 400 * X 336 2 + 400 → m4 338 p = m3 338 p := fun p _ _ => (f4 338 p (by omega)).trans (f9 338 p (by omega))
          refine ⟨pfr_same q1 hs, ?_⟩
          rcases q2 with q2 | q2
          · exact Or.inl q2
          · exact Or.inr (pfr_same q2 hs)
        · exact rulOK_same (gd t t0 (by omega)) (f4 341 _ (by omega)) (fun p _ _ => f4 340 p (by omega)) (fun p _ _ => f4 338 p (by omega))
      · unfold PL3 at k5 ⊢
        have e6 : m4 346 = m9 346 := funext (fun p => f4 346 p (by omega))
        have e7 : m4 347 = m9 347 := funext (fun p => f4 347 p (by omega))
        have e8 : m4 354 = m9 354 := funext (fun p => f4 354 p (by omega))
        rw [e6, e7, e8, f4 336 25 (by omega)]
        exact k5
    refine g_getu 2 rfl hS.k336 (fun v5 ev5 => ?_)
    refine g_C ?_
    refine g_S (by omega) (by omega) ?_
    rw [show v5 - 1 = m0 336 2 by omega]
    exact hk m4 j4 (fun c p hs hn => by rw [f4 c p (by omega), f9 c p (by omega), hm3.g hs, xe c p (by omega)]) (by rw [f4 336 1 (by omega)]; exact z9) (by omega) (by omega) a3
