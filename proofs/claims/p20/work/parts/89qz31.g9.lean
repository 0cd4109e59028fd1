/-! at most 60 VALUES are written, and something -/
def Pz (P : List Int) : Prop := ∀ x : Int, x ∈ P → x < -11
theorem Pz.rR {u : Int} : ∀ P : List Int, Pz P → Pz (uR u P) := by
  intro P
  induction P with
  | nil => intro h; exact h
  | cons x P ih =>
    intro h
    by_cases e : x = -27 ∨ bnS x < u
    · rw [(uW_low e).2]; exact h
    · rw [(uW_top e).2]; exact ih (fun y hy => h y (List.mem_cons_of_mem _ hy))
theorem Pz.nW {u : Int} : ∀ P : List Int, Pz P → nvs (uW u P) = 0 := by
  intro P
  induction P with
  | nil => intro _; rfl
  | cons x P ih =>
    intro h
    by_cases e : x = -27 ∨ bnS x < u
    · rw [(uW_low e).1]; rfl
    · rw [(uW_top e).1]
      show (if -11 ≤ x then 1 else 0) + nvs (uW u P) = 0
      have := h x (List.mem_cons_self ..)
      rw [if_neg (by omega), ih (fun y hy => h y (List.mem_cons_of_mem _ hy))]
theorem Pz.cons {x : Int} {P : List Int} (h : x < -11) (hp : Pz P) : Pz (x :: P) := by
  intro y hy
  rcases List.mem_cons.mp hy with e | e
  · rw [e]; exact h
  · exact hp y e
theorem arS_r (x : Int) : -16 ≤ arS x ∧ arS x ≤ -12 := by
  unfold arS
  repeat' split
  all_goals decide
theorem cmS_r (x : Int) (e : Bool) : -21 ≤ cmS x e ∧ cmS x e ≤ -17 := by
  unfold cmS
  cases e <;> repeat' split
  all_goals decide
theorem nvs_one {O : List Int} {v : Int} : (nvs (O ++ [v]) : Int) ≤ nvs O + 1 := by
  rw [nvs_app]
  show ((nvs O + ((if -11 ≤ v then 1 else 0) + 0) : Nat) : Int) ≤ _
  split <;> omega
theorem nvs_tok {O : List Int} {v : Int} (h : v < -11) : nvs (O ++ [v]) = nvs O := by
  rw [nvs_app]
  show nvs O + ((if -11 ≤ v then 1 else 0) + 0) = _
  rw [if_neg (by omega)]
  rfl
def Bok (E : List Int) : Prop := nvs E ≤ 60 ∧ ¬ E = []
theorem bcc_ok {b : Int → Int} {n : Int} : ∀ (N : Nat) (m p c : Int) (P O : List Int) (k f : Int) (E : List Int), bcc b n N m p c P O k f E → f = 0 → (nvs O : Int) ≤ c → c ≤ 60 → Pz P → (¬ (0 ≤ m ∧ m ≤ 8) → ¬ O = []) → Bok E := by
  intro N
  induction N with
  | zero => intro m p c P O k f E h; exact h.elim
  | succ N ih =>
    intro m p c P O k f E h hf hc h60 hP hO
    obtain ⟨q, _, h⟩ := h
    have val : ∀ (v r : Int), ¬ c = 60 → (0 ≤ m + 3 ∧ m + 3 ≤ 8) → bcc b n N (m + 3) r (c + 1) P (O ++ [v]) k f E → Bok E := by
      intro v r h6 h9 z
      have := nvs_one (O := O) (v := v)
      exact ih _ _ _ _ _ _ _ _ z hf (by omega) (by omega) hP (fun y => absurd h9 y)
    have pil : ∀ (m' p' c' s : Int), s < -11 → (0 ≤ m' ∧ m' ≤ 8) → c ≤ c' → c' ≤ 60 → bPile (bcc b n N) m' p' c' s P O k f E → Bok E := by
      intro m' p' c' s hs h9 hc' h6 z
      have e := Pz.nW (u := bnS s) P hP
      exact ih _ _ _ _ _ _ _ _ z hf (by rw [nvs_app, e]; omega) h6 (Pz.cons hs (Pz.rR P hP)) (fun y => absurd h9 y)
    have bad : ∀ a : Int, (1 ≤ a ∧ a ≤ 5) → (f = a + 8 * q ∧ E = []) → Bok E := fun a ha z => by
      exfalso
      have := z.1
      omega
    have e0 := Pz.nW (u := 0) P hP
    have fin : ∀ t : Int, t < -11 → bcc b n N 9 q c [] (O ++ uW 0 P ++ [t]) k f E → Bok E := by
      intro t ht z
      exact ih _ _ _ _ _ _ _ _ z hf (by rw [nvs_tok ht, nvs_app, e0]; omega) h60 (fun x hx => absurd hx List.not_mem_nil) (fun _ y => by
        have := congrArg List.length y
        rw [List.length_append] at this
        exact absurd this (Nat.succ_ne_zero _))
    have bBk : bB b n (bcc b n N) q c P O k f E → Bok E := by
      intro g
      by_cases a : Wk b n 15 q
      · exact pil 8 _ c (-23) (by decide) (by decide) (by omega) h60 (g.1 a)
      · by_cases a2 : Wk b n 16 q
        · exact pil 8 _ c (-24) (by decide) (by decide) (by omega) h60 ((g.2 a).1 a2)
        · exact bad 1 (by decide) ((g.2 a).2 a2)
    have bCk : ∀ Z : Prop, (Z → Bok E) → bC b n (bcc b n N) q c P O k f E Z → Bok E := by
      intro Z hZ g
      by_cases a : q < n ∧ b q = 93 ∧ ¬ nOp P = 0
      · refine ih _ _ _ _ _ _ _ _ (g.1 a) hf (by rw [nvs_app, e0]; omega) h60 (fun x hx => Pz.rR (u := 0) P hP x (List.mem_of_mem_tail hx)) (fun y => absurd (by decide) y)
      · by_cases a2 : nOp P = 0 ∧ (n ≤ q ∨ b q = 59)
        · exact fin (-26) (by decide) ((g.2 a).1 a2)
        · exact hZ ((g.2 a).2 a2)
    by_cases m0 : m = 0
    · have g := h.1 m0
      by_cases a : Wk b n 6 q
      · by_cases a2 : k = 12
        · exact bad 5 (by decide) ((g.1 a).1 a2)
        · exact ih _ _ _ _ _ _ _ _ ((g.1 a).2 a2) hf hc h60 (fun x hx => absurd hx List.not_mem_nil) (fun y => absurd (by decide) y)
      · exact bad 1 (by decide) (g.2 a)
    have h1 := h.2 m0
    by_cases m1 : m = 1 ∨ m = 2 ∨ m = 3
    · have g := h1.1 m1
      by_cases a : q < n ∧ Dg (b q)
      · obtain ⟨r, _, g2⟩ := g.1 a
        by_cases a2 : 5 < r - q
        · exact bad 2 (by decide) (g2.1 a2)
        · by_cases a3 : c = 60
          · exact bad 4 (by decide) ((g2.2 a2).1 a3)
          · exact val _ _ a3 (by omega) ((g2.2 a2).2 a3)
      · have g2 := g.2 a
        have : ∀ l : List (Nat × Int), bV b n (bcc b n N) m q c P O k f E l → Bok E := by
          intro l
          induction l with
          | nil => intro z; exact bad 1 (by decide) z
          | cons j js ihl =>
            intro z
            by_cases w : Wk b n j.1 q
            · by_cases a3 : c = 60
              · exact bad 4 (by decide) ((z.1 w).1 a3)
              · exact val _ _ a3 (by omega) ((z.1 w).2 a3)
            · exact ihl (z.2 w)
        exact this _ g2
    have h2 := h1.2 m1
    by_cases m4 : m = 4
    · have g := h2.1 m4
      by_cases a : n ≤ q ∨ b q = 59
      · exact fin (-25) (by decide) (g.1 a)
      · by_cases a2 : Ar (b q)
        · have := arS_r (b q)
          exact pil 1 _ c _ (by omega) (by decide) (by omega) h60 ((g.2 a).1 a2)
        · by_cases a3 : Wk b n 13 q
          · exact ih _ _ _ _ _ _ _ _ (((g.2 a).2 a2).1 a3) hf (by rw [nvs_app, e0]; omega) h60 (Pz.rR P hP) (fun y => absurd (by decide) y)
          · exact bad 1 (by decide) (((g.2 a).2 a2).2 a3)
    have h3 := h2.2 m4
    by_cases m5 : m = 5
    · have g := h3.1 m5
      by_cases a : q < n ∧ Ar (b q)
      · have := arS_r (b q)
        exact pil 2 _ c _ (by omega) (by decide) (by omega) h60 (g.1 a)
      · by_cases a2 : q < n ∧ Cm (b q)
        · by_cases a3 : c = 60
          · exact bad 4 (by decide) (((g.2 a).1 a2).1 a3)
          · have g2 := ((g.2 a).1 a2).2 a3
            by_cases a4 : ¬ b q = 61 ∧ q + 1 < n ∧ b (q + 1) = 61
            · have := cmS_r (b q) true
              exact pil 3 _ (c + 1) _ (by omega) (by decide) (by omega) (by omega) (g2.1 a4)
            · have := cmS_r (b q) false
              exact pil 3 _ (c + 1) _ (by omega) (by decide) (by omega) (by omega) (g2.2 a4)
        · exact bad 1 (by decide) ((g.2 a).2 a2)
    have h4 := h3.2 m5
    by_cases m6 : m = 6
    · refine bCk _ (fun g => ?_) (h4.1 m6)
      by_cases a : q < n ∧ Ar (b q)
      · have := arS_r (b q)
        exact pil 3 _ c _ (by omega) (by decide) (by omega) h60 (g.1 a)
      · exact bBk (g.2 a)
    have h5 := h4.2 m6
    by_cases m7 : m = 7
    · exact bCk _ bBk (h5.1 m7)
    have h6 := h5.2 m7
    by_cases m8 : m = 8
    · have g := h6.1 m8
      by_cases a : q < n ∧ b q = 91
      · by_cases a2 : nDp P = 10
        · exact bad 3 (by decide) ((g.1 a).1 a2)
        · exact ih _ _ _ _ _ _ _ _ ((g.1 a).2 a2) hf hc h60 (Pz.cons (by decide) hP) (fun y => absurd (by decide) y)
      · have g2 := g.2 a
        by_cases a1 : Wk b n 14 q
        · by_cases a2 : nDp P = 10
          · exact bad 3 (by decide) ((g2.1 a1).1 a2)
          · exact ih _ _ _ _ _ _ _ _ ((g2.1 a1).2 a2) hf hc h60 (Pz.cons (by decide) hP) (fun y => absurd (by decide) y)
        · exact ih _ _ _ _ _ _ _ _ (g2.2 a1) hf hc h60 hP (fun y => absurd (by decide) y)
    have g := h6.2 m8
    by_cases a : n ≤ q
    · have z := g.1 a
      have ho := hO (by omega)
      have z2 := z.2
      subst z2
      exact ⟨by omega, ho⟩
    · have g2 := g.2 a
      by_cases a2 : b q = 59
      · exact ih _ _ _ _ _ _ _ _ (g2.1 a2) hf hc h60 (fun x hx => absurd hx List.not_mem_nil) (fun y => absurd (by decide) y)
      · exact bad 1 (by decide) (g2.2 a2)
theorem Bcc.ok {b : Int → Int} {n : Int} {E : List Int} (h : Bcc b n 0 0 0 [] [] 0 0 E) : Bok E := by
  obtain ⟨N, h⟩ := h
  exact bcc_ok N _ _ _ _ _ _ _ _ h rfl (by decide) (by decide) (fun x hx => absurd hx List.not_mem_nil) (fun y => absurd (by decide) y)
theorem Hs.snoc {f : Int → Int} : ∀ (L : List Int) (i x : Int), Hs f i L → f (i + (L.length : Int)) = x → Hs f i (L ++ [x]) := by
  intro L
  induction L with
  | nil =>
    intro i x _ h
    have h2 : f (i + ((0 : Nat) : Int)) = x := h
    rw [show i + ((0 : Nat) : Int) = i by omega] at h2
    exact ⟨h2, trivial⟩
  | cons y L ih =>
    intro i x h h2
    refine ⟨h.1, ih (i + 1) x h.2 ?_⟩
    rw [List.length_cons] at h2
    rw [show i + 1 + (L.length : Int) = i + ((L.length + 1 : Nat) : Int) by omega]
    exact h2
theorem Hs_rl {f : Int → Int} : ∀ n : Nat, Hs f 0 (rl f n) := by
  intro n
  induction n with
  | zero => exact trivial
  | succ n ih =>
    refine Hs.snoc _ _ _ ih ?_
    rw [rl_len]
    congr 1
    omega
theorem Hs.same {f g : Int → Int} : ∀ (L : List Int) (i : Int), (∀ j : Int, i ≤ j → j < i + (L.length : Int) → g j = f j) → Hs f i L → Hs g i L := by
  intro L
  induction L with
  | nil => intro i _ _; exact trivial
  | cons x L ih =>
    intro i h z
    rw [List.length_cons] at h
    exact ⟨(h i (by omega) (by omega)).trans z.1, ih (i + 1) (fun j a c => h j (by omega) (by omega)) z.2⟩
