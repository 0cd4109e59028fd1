theorem pfx_same {X Y : Mm} {t : Int} : ∀ (n : Nat) (i d : Int), (∀ j : Int, i ≤ j → j < i + n → Y 338 (400 * t + j) = X 338 (400 * t + j)) → pfx X t n i d → pfx Y t n i d := by
  intro n
  induction n with
  | zero => intro i d _ h; exact h
  | succ n ih =>
    intro i d hs h
    have e := hs i (by omega) (by omega)
    have k := fun d' => ih (i + 1) d' (fun j a b => hs j (by omega) (by omega))
    unfold pfx at h ⊢
    rw [e]
    rcases h with h | h | h | h
    · exact Or.inl ⟨h.1, h.2.1, k _ h.2.2⟩
    · exact Or.inr (Or.inl ⟨h.1, h.2.1, h.2.2.1, h.2.2.2.1, k _ h.2.2.2.2⟩)
    · exact Or.inr (Or.inr (Or.inl ⟨h.1, h.2.1, k _ h.2.2⟩))
    · exact Or.inr (Or.inr (Or.inr ⟨h.1, h.2.1, h.2.2.1, h.2.2.2.1, k _ h.2.2.2.2⟩))
theorem pfr_same {X Y : Mm} {t a b : Int} (h : pfr X t a b) (hs : ∀ p : Int, 400 * t ≤ p → p < 400 * t + 400 → Y 338 p = X 338 p) : pfr Y t a b := ⟨h.1, h.2.1, h.2.2.1, pfx_same _ _ _ (fun j j0 j1 => hs _ (by have := h.1; omega) (by have := h.1; have := h.2.1; have := h.2.2.1; omega)) h.2.2.2⟩
theorem rulOK_same {X Y : Mm} {t : Int} (h : rulOK X t) (h1 : Y 341 t = X 341 t) (h2 : ∀ p : Int, 48 * t ≤ p → p < 48 * t + 48 → Y 340 p = X 340 p) (h3 : ∀ p : Int, 400 * t ≤ p → p < 400 * t + 400 → Y 338 p = X 338 p) : rulOK Y t := by
  obtain ⟨a, b⟩ := h
  unfold rulOK
  rw [h1]
  refine ⟨a, fun c c0 c1 => ?_⟩
  obtain ⟨q1, q2⟩ := b c c0 c1
  rw [h2 (48 * t + 4 * c) (by omega) (by omega), h2 (48 * t + 4 * c + 1) (by omega) (by omega), h2 (48 * t + 4 * c + 2) (by omega) (by omega), h2 (48 * t + 4 * c + 3) (by omega) (by omega)]
  refine ⟨pfr_same q1 h3, ?_⟩
  rcases q2 with q2 | q2
  · exact Or.inl q2
  · exact Or.inr (pfr_same q2 h3)
theorem Good.same {X Y : Mm} (h : Good X) (h1 : Y 336 21 = X 336 21) (h2 : Y 336 2 = X 336 2) (h3 : ∀ c k : Int, (c = 355 ∨ c = 357) → Y c k = X c k) (h4 : ∀ p : Int, p < X 336 2 → Y 341 p = X 341 p) (h5 : ∀ p : Int, p < 48 * X 336 2 → Y 340 p = X 340 p) (h6 : ∀ p : Int, p < 400 * X 336 2 → Y 338 p = X 338 p) : Good Y := by
  obtain ⟨a, b, c, d⟩ := h
  unfold Good
  rw [h1, h2]
  refine ⟨a, fun k k0 k1 => by rw [h3 355 k (by omega), h3 357 k (by omega)]; exact b k k0 k1, c, fun t t0 t1 => ?_⟩
  exact rulOK_same (d t t0 t1) (h4 t t1) (fun p _ p1 => h5 p (by omega)) (fun p _ p1 => h6 p (by omega))
/-- places that are: said, what was said, images -/
def PL3 (M : Mm) : Prop := PlOK (M 346) (M 346 0) (M 346 4) (M 346 5) ∧ (∀ r : Int, 0 ≤ r → r < M 336 25 → PlOK (fun p => M 347 (57 * r + p)) (M 347 (57 * r)) (M 347 (57 * r + 4)) (M 347 (57 * r + 5))) ∧ (∀ k : Int, 0 ≤ k → k < 4 → PlOK (fun p => M 354 (158 * k + p)) (M 354 (158 * k)) (M 354 (158 * k + 4)) (M 354 (158 * k + 5)))
def Jc (S : Sh) (M : Mm) : Prop := (∀ c p : Nat, c < 358 → p < pT.getD c 0 → okb (bd c p) (M c p)) ∧ (∀ i : Int, 0 ≤ i → i < 6 → rowv S (M 30 i)) ∧ rowv S (M 55 1) ∧ Good M ∧ PL3 M
/-- the seeds of both sides are alike -/
def Xr (M : Mm) : Prop := M 3 3 = M 336 22 ∧ (M 76 3 = M 356 0 ∧ M 76 9 = M 357 0) ∧ (M 101 3 = M 356 1 ∧ M 101 9 = M 357 1) ∧ (M 126 3 = M 356 2 ∧ M 126 9 = M 357 2) ∧ (M 151 3 = M 356 3 ∧ M 151 9 = M 357 3)
abbrev sf (M : Mm) : Mm := up M (-1) 0 0
theorem sf_e (M : Mm) {c p : Int} (h : ¬ c = -1) : sf M c p = M c p := up_ne (fun z => h z.1)
theorem Jc.inv {S : Sh} {M : Mm} (h : Jc S M) : Inv (sf M) S M := by
  obtain ⟨h1, h2, h3, h4, h5⟩ := h
  refine ⟨h1, fun c p hs => (sf_e M (by omega)).symm, h2, h3, h4.same (sf_e M (by decide)) (sf_e M (by decide)) (fun c k q => sf_e M (by omega)) (fun p _ => sf_e M (by decide)) (fun p _ => sf_e M (by decide)) (fun p _ => sf_e M (by decide)), fun hx => ?_, ?_⟩
  · have z : sf M (-1) 0 = 0 := up_at _ _ _ _
    rw [z] at hx
    exact absurd hx (by decide)
  · unfold PLi
    rw [sf_e M (c := 346) (p := 0) (by decide), sf_e M (c := 346) (p := 4) (by decide), sf_e M (c := 346) (p := 5) (by decide)]
    refine ⟨h5.1, fun hx => ?_, h5.2⟩
    have z : sf M (-1) 0 = 0 := up_at _ _ _ _
    rw [z] at hx
    exact absurd hx (by decide)
theorem Jc.of {X : Mm} {S : Sh} {M : Mm} (h : Inv X S M) : Jc S M := by
  refine ⟨h.1, h.2.2.1, h.row55, ?_, ?_⟩
  · exact h.good.same (h.g (by decide)) (h.g (by decide)) (fun c k q => h.g (by omega)) (fun p q => h.2.1 _ _ (Or.inr (Or.inr (Or.inr ⟨rfl, q⟩)))) (fun p q => h.2.1 _ _ (Or.inr (Or.inr (Or.inl ⟨rfl, q⟩)))) (fun p q => h.2.1 _ _ (Or.inr (Or.inl ⟨rfl, q⟩)))
  · have q := h.pl
    unfold PLi at q
    rw [← h.g (c := 346) (p := 0) (by decide), ← h.g (c := 346) (p := 4) (by decide), ← h.g (c := 346) (p := 5) (by decide)] at q
    exact ⟨q.1, q.2.2⟩
theorem Xr.same {M M1 : Mm} (h : Xr M) (hs : ∀ c p : Int, spP c p → M1 c p = M c p) : Xr M1 := by
  unfold Xr at h ⊢
  rw [hs 3 3 (by decide), hs 336 22 (by decide), hs 76 3 (by decide), hs 356 0 (by decide), hs 76 9 (by decide), hs 357 0 (by decide), hs 101 3 (by decide), hs 356 1 (by decide), hs 101 9 (by decide), hs 357 1 (by decide), hs 126 3 (by decide), hs 356 2 (by decide), hs 126 9 (by decide), hs 357 2 (by decide), hs 151 3 (by decide), hs 356 3 (by decide), hs 151 9 (by decide), hs 357 3 (by decide)]
  exact h
/-- the tapes, the numbers of rules, the forces of both sides are alike -/
def Ya (M : Mm) : Prop := (M 1 1 = M 336 1 ∧ (∀ p : Int, 0 ≤ p → p < 400 → M 2 p = M 337 p) ∧ M 0 7 = M 336 2) ∧ M 3 2 = M 336 21 ∧ (M 357 0 = 0 ∨ M 76 2 = M 355 0) ∧ (M 357 1 = 0 ∨ M 101 2 = M 355 1) ∧ (M 357 2 = 0 ∨ M 126 2 = M 355 2) ∧ (M 357 3 = 0 ∨ M 151 2 = M 355 3)
theorem Ya.same {M M1 : Mm} (h : Ya M) (hs : ∀ c p : Int, spP c p → M1 c p = M c p) : Ya M1 := by
  obtain ⟨⟨a1, a2, a3⟩, a4, a5⟩ := h
  unfold Ya
  rw [hs 1 1 (by decide), hs 336 1 (by decide), hs 0 7 (by decide), hs 336 2 (by decide), hs 3 2 (by decide), hs 336 21 (by decide), hs 76 2 (by decide), hs 355 0 (by decide), hs 357 0 (by decide), hs 101 2 (by decide), hs 355 1 (by decide), hs 357 1 (by decide), hs 126 2 (by decide), hs 355 2 (by decide), hs 357 2 (by decide), hs 151 2 (by decide), hs 355 3 (by decide), hs 357 3 (by decide)]
  exact ⟨⟨a1, fun p p0 p1 => by rw [hs 2 p (by omega), hs 337 p (by omega)]; exact a2 p p0 p1, a3⟩, a4, a5⟩
def JX (S : Sh) (M : Mm) : Prop := Jc S M ∧ Xr M ∧ Ya M
theorem JX.inv {S : Sh} {M : Mm} (h : JX S M) : Inv (sf M) S M := h.1.inv
theorem JX.of {S : Sh} {M M1 : Mm} (h : JX S M) (h1 : Inv (sf M) S M1) : JX S M1 := ⟨Jc.of h1, h.2.1.same (fun c p q => (h1.g q).trans (sf_e M (by omega))), h.2.2.same (fun c p q => (h1.g q).trans (sf_e M (by omega)))⟩
theorem Jc.put {S : Sh} {M : Mm} {c p v : Int} (h : Jc S M) (hb : ∀ c' p' : Nat, (c' : Int) = c → (p' : Int) = p → okb (bd c' p') v) (hn : ¬ c = 30 ∧ ¬ (c = 55 ∧ p = 1) ∧ ¬ (c = 336 ∧ (p = 21 ∨ p = 2 ∨ p = 25)) ∧ ¬ c = 355 ∧ ¬ c = 357 ∧ ¬ c = 341 ∧ ¬ c = 340 ∧ ¬ c = 338 ∧ ¬ c = 346 ∧ ¬ c = 347 ∧ ¬ c = 354) : Jc S (up M c p v) := by
  have F : ∀ c' p' : Int, ¬ (c' = c ∧ p' = p) → up M c p v c' p' = M c' p' := fun c' p' q => up_ne q
  obtain ⟨k1, k2, k3, k4, k5⟩ := h
  refine ⟨fun c' p' hc hp => ?_, fun i i0 i1 => ?_, ?_, ?_, ?_⟩
  · by_cases e : (c' : Int) = c ∧ (p' : Int) = p
    · rw [e.1, e.2, up_at]
      exact hb c' p' e.1 e.2
    · rw [F _ _ e]
      exact k1 c' p' hc hp
  · rw [F 30 i (by omega)]; exact k2 i i0 i1
  · rw [F 55 1 (by omega)]; exact k3
  · exact k4.same (F 336 21 (by omega)) (F 336 2 (by omega)) (fun c' k q => F c' k (by omega)) (fun p' _ => F 341 p' (by omega)) (fun p' _ => F 340 p' (by omega)) (fun p' _ => F 338 p' (by omega))
  · unfold PL3 at k5 ⊢
    have e6 : up M c p v 346 = M 346 := funext (fun p' => F 346 p' (by omega))
    have e7 : up M c p v 347 = M 347 := funext (fun p' => F 347 p' (by omega))
    have e8 : up M c p v 354 = M 354 := funext (fun p' => F 354 p' (by omega))
    rw [e6, e7, e8, F 336 25 (by omega)]
    exact k5
theorem Jc.len12 {S : Sh} {M : Mm} {v : Int} (h : Jc S M) (h0 : 0 ≤ v) (h1 : v ≤ 400) : Jc S (up M 336 1 v) := by
  refine h.put (fun c p e1 e2 => ?_) (by decide)
  have e1 : c = 336 := by omega
  have e2 : p = 1 := by omega
  subst e1 e2
  exact okb_of (l := 0) (u := 400) (by decide +kernel) h0 h1
