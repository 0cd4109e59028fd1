/-! the WAYS of a DAIRY as told: PLACES, HOURS of ROADS, HOURS of WAYS -/
def Wok (P : Int) (f g : Int → Int) : Prop := P ≤ 6 ∧ (∀ a : Int, 0 ≤ a → a < P → g (6 * a + a) = 0) ∧ (∀ a b : Int, 0 ≤ a → a < P → 0 ≤ b → b < P → 0 ≤ g (6 * a + b) ∧ g (6 * a + b) ≤ 1000) ∧ (∀ a b c : Int, 0 ≤ a → a < P → 0 ≤ b → b < P → 0 ≤ c → c < P → 0 < f (6 * a + b) → g (6 * a + c) ≤ f (6 * a + b) + g (6 * b + c)) ∧ (∀ a c : Int, 0 ≤ a → a < P → 0 ≤ c → c < P → ¬ a = c → g (6 * a + c) < 1000 → ∃ b : Int, 0 ≤ b ∧ b < P ∧ 0 < f (6 * a + b) ∧ f (6 * a + b) + g (6 * b + c) ≤ g (6 * a + c))
theorem Wok.move {P P' : Int} {f f' g g' : Int → Int} (h : Wok P f g) (e0 : P' = P) (e1 : ∀ p : Int, 0 ≤ p → p < 36 → f' p = f p) (e2 : ∀ p : Int, 0 ≤ p → p < 36 → g' p = g p) : Wok P' f' g' := by
  subst e0
  obtain ⟨p6, h0, h1, h2, h3⟩ := h
  have F : ∀ a b : Int, 0 ≤ a → a < P' → 0 ≤ b → b < P' → f' (6 * a + b) = f (6 * a + b) := fun a b a0 a1 b0 b1 => e1 _ (by omega) (by omega)
  have G : ∀ a b : Int, 0 ≤ a → a < P' → 0 ≤ b → b < P' → g' (6 * a + b) = g (6 * a + b) := fun a b a0 a1 b0 b1 => e2 _ (by omega) (by omega)
  refine ⟨p6, fun a a0 a1 => ?_, fun a b a0 a1 b0 b1 => ?_, fun a b c a0 a1 b0 b1 c0 c1 q => ?_, fun a c a0 a1 c0 c1 n q => ?_⟩
  · rw [G a a a0 a1 a0 a1]; exact h0 a a0 a1
  · rw [G a b a0 a1 b0 b1]; exact h1 a b a0 a1 b0 b1
  · rw [F a b a0 a1 b0 b1] at q ⊢
    rw [G a c a0 a1 c0 c1, G b c b0 b1 c0 c1]
    exact h2 a b c a0 a1 b0 b1 c0 c1 q
  · rw [G a c a0 a1 c0 c1] at q ⊢
    obtain ⟨b, b0, b1, r1, r2⟩ := h3 a c a0 a1 c0 c1 n q
    refine ⟨b, b0, b1, ?_, ?_⟩
    · rw [F a b a0 a1 b0 b1]; exact r1
    · rw [F a b a0 a1 b0 b1, G b c b0 b1 c0 c1]; exact r2
theorem Wok.none {P : Int} {f g : Int → Int} (h : P ≤ 0) : Wok P f g := ⟨by omega, fun a a0 a1 => by omega, fun a b a0 a1 => by omega, fun a b c a0 a1 => by omega, fun a c a0 a1 => by omega⟩
/-- behind k rounds -/
def FWk (P : Int) (f : Int → Int) (G : Int → Int → Int) (k : Int) : Prop := (∀ a : Int, 0 ≤ a → a < P → G a a = 0) ∧ (∀ a b : Int, 0 ≤ a → a < P → 0 ≤ b → b < P → 0 ≤ G a b ∧ G a b ≤ 1000) ∧ (∀ a b : Int, 0 ≤ a → a < P → 0 ≤ b → b < P → 0 < f (6 * a + b) → G a b ≤ f (6 * a + b)) ∧ (∀ a c j : Int, 0 ≤ a → a < P → 0 ≤ c → c < P → 0 ≤ j → j < P → j < k → G a c ≤ G a j + G j c) ∧ (∀ a c : Int, 0 ≤ a → a < P → 0 ≤ c → c < P → ¬ a = c → G a c < 1000 → ∃ b : Int, 0 ≤ b ∧ b < P ∧ 0 < f (6 * a + b) ∧ f (6 * a + b) + G b c ≤ G a c)
theorem FWk.step {P k : Int} {f : Int → Int} {G H : Int → Int → Int} (h : FWk P f G k) (k0 : 0 ≤ k) (k1 : k < P) (e : ∀ a c : Int, 0 ≤ a → a < P → 0 ≤ c → c < P → H a c = min (G a c) (G a k + G k c)) : FWk P f H (k + 1) := by
  obtain ⟨h0, h1, h2, h3, h4⟩ := h
  have gk := h0 k k0 k1
  refine ⟨fun a a0 a1 => ?_, fun a b a0 a1 b0 b1 => ?_, fun a b a0 a1 b0 b1 q => ?_, fun a c j a0 a1 c0 c1 j0 j1 jk => ?_, fun a c a0 a1 c0 c1 n q => ?_⟩
  · have e1 := e a a a0 a1 a0 a1
    have z := h0 a a0 a1
    have z1 := (h1 a k a0 a1 k0 k1).1
    have z2 := (h1 k a k0 k1 a0 a1).1
    omega
  · have e1 := e a b a0 a1 b0 b1
    have z := h1 a b a0 a1 b0 b1
    have z1 := (h1 a k a0 a1 k0 k1).1
    have z2 := (h1 k b k0 k1 b0 b1).1
    omega
  · have e1 := e a b a0 a1 b0 b1
    have z := h2 a b a0 a1 b0 b1 q
    omega
  · have e1 := e a c a0 a1 c0 c1
    have e2 := e a j a0 a1 j0 j1
    have e3 := e j c j0 j1 c0 c1
    by_cases z : j = k
    · subst z
      omega
    · have t1 := h3 a c j a0 a1 c0 c1 j0 j1 (by omega)
      have t2 := h3 k c j k0 k1 c0 c1 j0 j1 (by omega)
      have t3 := h3 a k j a0 a1 k0 k1 j0 j1 (by omega)
      have n1 := (h1 k j k0 k1 j0 j1).1
      have n2 := (h1 j k j0 j1 k0 k1).1
      omega
  · have e1 := e a c a0 a1 c0 c1
    by_cases z : G a c ≤ G a k + G k c
    · obtain ⟨b, b0, b1, r1, r2⟩ := h4 a c a0 a1 c0 c1 n (by omega)
      have e2 := e b c b0 b1 c0 c1
      exact ⟨b, b0, b1, r1, by omega⟩
    · by_cases z2 : a = k
      · subst z2
        omega
      · have n1 := (h1 k c k0 k1 c0 c1).1
        obtain ⟨b, b0, b1, r1, r2⟩ := h4 a k a0 a1 k0 k1 z2 (by omega)
        have e2 := e b c b0 b1 c0 c1
        exact ⟨b, b0, b1, r1, by omega⟩
theorem FWk.ok {P : Int} {f g : Int → Int} (h : FWk P f (fun a b => g (6 * a + b)) P) (p6 : P ≤ 6) : Wok P f g := by
  obtain ⟨h0, h1, h2, h3, h4⟩ := h
  refine ⟨p6, h0, h1, fun a b c a0 a1 b0 b1 c0 c1 q => ?_, h4⟩
  have z : g (6 * a + c) ≤ g (6 * a + b) + g (6 * b + c) := h3 a c b a0 a1 c0 c1 b0 b1 b1
  have z2 : g (6 * a + b) ≤ f (6 * a + b) := h2 a b a0 a1 b0 b1 q
  omega
theorem zm_measureWays {X : Mm} {S : Sh} {m0 : Mm} {K : Mm → Prop} (hS : Shp S) (hm0 : Inv X S m0) (hk : ∀ (M1 : Mm), Inv X S M1 → (∀ c p : Int, ¬ c = 34 → M1 c p = m0 c p) → Wok (M1 32 0) (M1 33) (M1 34) → K M1) : wp_X8_measureWays S m0 32 K := by
  obtain ⟨P, eP⟩ : ∃ P : Int, P = m0 32 0 := ⟨_, rfl⟩
  have bP := hm0.f_32_0
  rw [← eP] at bP
  obtain ⟨f, ef⟩ : ∃ f : Int → Int, f = m0 33 := ⟨_, rfl⟩
  have fb : ∀ a b : Int, 0 ≤ a → a < P → 0 ≤ b → b < P → 0 ≤ f (6 * a + b) ∧ f (6 * a + b) ≤ 5 := fun a b a0 a1 b0 b1 => by
    rw [ef]
    exact hm0.a_33 (by omega) (by omega)
  have ix : ∀ a b : Int, a * 6 + b = 6 * a + b := fun a b => by omega
  -- round by round
  have L91 : ∀ (G : Int → Int → Int) (k a : Int) (g1 : Int → Int → Mm → Prop) (g2 : Int → Int → Int → Mm → Prop), 0 ≤ k → k < P → 0 ≤ a → a < P → (∀ x y : Int, 0 ≤ x → x < P → 0 ≤ y → y < P → 0 ≤ G x y ∧ G x y ≤ 1000) → G k k = 0 → (∀ M' : Mm, Inv X S M' → (∀ c p : Int, ¬ c = 34 → M' c p = m0 c p) → (∀ x y : Int, 0 ≤ x → x < P → 0 ≤ y → y < P → M' 34 (6 * x + y) = if x < a + 1 then min (G x y) (G x k + G k y) else G x y) → g2 32 k (a + 1) M') → ∀ (l c : Nat) (M : Mm), (c : Int) ≤ P → Inv X S M → (∀ c p : Int, ¬ c = 34 → M c p = m0 c p) → (∀ x y : Int, 0 ≤ x → x < P → 0 ≤ y → y < P → M 34 (6 * x + y) = if x < a ∨ (x = a ∧ y < (c : Int)) then min (G x y) (G x k + G k y) else G x y) → 7 - c ≤ l → wp_X8_measureWays_91 S g1 g2 K l 32 k a c M := by
    intro G k a g1 g2 k0 k1 a0 a1 gb gk hg l
    induction l with
    | zero => intro c M c1 _ _ _ hl; exfalso; omega
    | succ l ih =>
      intro c M c1 hM F T hl
      refine u_X8_measureWays_91 ?_
      refine g_getu 0 rfl hS.k32 (fun v ev => ?_)
      rw [F 32 0 (by first | decide | exact fun z => absurd z.1 (by decide) | exact ⟨fun z => absurd z.1 (by decide), fun z => absurd z.1 (by decide)⟩ | omega), ← eP] at ev
      refine g_if (fun q => ?_) (fun q => ?_)
      · refine g_A (by omega) (by omega) ?_
        refine hg M hM F (fun x y x0 x1 y0 y1 => ?_)
        rw [T x y x0 x1 y0 y1]
        by_cases z : x < a + 1
        · rw [if_pos z, if_pos (by omega)]
        · rw [if_neg z, if_neg (by omega)]
      have c0 : (0 : Int) ≤ (c : Int) := by omega
      have c2 : (c : Int) < P := by omega
      have t1 := T a k a0 a1 k0 k1
      have t2 := T k c k0 k1 c0 c2
      have t3 := T a c a0 a1 c0 c2
      have b1 := gb a k a0 a1 k0 k1
      have b2 := gb k c k0 k1 c0 c2
      have b3 := gb a c a0 a1 c0 c2
      have s1 : M 34 (6 * a + k) = G a k := by
        rw [t1]
        split
        · omega
        · rfl
      have s2 : M 34 (6 * k + c) = G k c := by
        rw [t2]
        split
        · omega
        · rfl
      have s3 : M 34 (6 * a + c) = G a c := by
        rw [t3, if_neg (by omega)]
      refine g_getr 9 34 rfl hS.k32 hM.f_32_9 (by decide) ?_
      refine u_X8_pair ?_
      refine g_C ?_
      refine g_M (by omega) (by omega) ?_
      refine g_A (by omega) (by omega) ?_
      rw [ix a k]
      refine g_ldu hS.k34 hS.l34 (by omega) (by omega) (fun v1 e1 => ?_)
      rw [s1] at e1
      refine g_getr 9 34 rfl hS.k32 hM.f_32_9 (by decide) ?_
      refine u_X8_pair ?_
      refine g_C ?_
      refine g_M (by omega) (by omega) ?_
      refine g_A (by omega) (by omega) ?_
      rw [ix k c]
      refine g_ldu hS.k34 hS.l34 (by omega) (by omega) (fun v2 e2 => ?_)
      rw [s2] at e2
      refine g_A (by omega) (by omega) ?_
      refine g_getr 9 34 rfl hS.k32 hM.f_32_9 (by decide) ?_
      refine u_X8_pair ?_
      refine g_C ?_
      refine g_M (by omega) (by omega) ?_
      refine g_A (by omega) (by omega) ?_
      refine g_getr 9 34 rfl hS.k32 hM.f_32_9 (by decide) ?_
      refine u_X8_pair ?_
      refine g_C ?_
      refine g_M (by omega) (by omega) ?_
      refine g_A (by omega) (by omega) ?_
      rw [ix a c]
      refine g_ldu hS.k34 hS.l34 (by omega) (by omega) (fun v3 e3 => ?_)
      rw [s3] at e3
      refine g_Oe (fun v4 e4 => ?_)
      refine g_st hS.k34 hS.l34 (by omega) (by omega) (hM.wa_34 (by omega) (by omega) (by omega) (by omega)) (fun m2 em hm2 => ?_)
      have f2 : ∀ c' p : Int, ¬ (c' = 34 ∧ p = 6 * a + (c : Int)) → m2 c' p = M c' p := fun c p q => (congrFun (congrFun em _) _).trans (up_ne q)
      have y2 : m2 34 (6 * a + (c : Int)) = v4 := (congrFun (congrFun em _) _).trans (up_at _ _ _ _)
      refine g_A (by omega) (by omega) ?_
      refine ih (c + 1) m2 (by omega) hm2 (fun c' p q => by rw [f2 c' p (by omega), F c' p q]) (fun x y x0 x1 y0 y1 => ?_) (by omega)
      by_cases z : x = a ∧ y = (c : Int)
      · obtain ⟨z1, z2⟩ := z
        rw [z1, z2, y2, if_pos (by omega), e4, e3, e1, e2]
      · rw [f2 34 _ (by first | decide | exact fun z => absurd z.1 (by decide) | exact ⟨fun z => absurd z.1 (by decide), fun z => absurd z.1 (by decide)⟩ | omega), T x y x0 x1 y0 y1]
        by_cases w : x < a ∨ (x = a ∧ y < (c : Int))
        · rw [if_pos w, if_pos (by omega)]
        · rw [if_neg w, if_neg (by omega)]
  have L81 : ∀ (G : Int → Int → Int) (k : Int) (g1 : Int → Int → Mm → Prop), 0 ≤ k → k < P → (∀ x y : Int, 0 ≤ x → x < P → 0 ≤ y → y < P → 0 ≤ G x y ∧ G x y ≤ 1000) → G k k = 0 → (∀ M' : Mm, Inv X S M' → (∀ c p : Int, ¬ c = 34 → M' c p = m0 c p) → (∀ x y : Int, 0 ≤ x → x < P → 0 ≤ y → y < P → M' 34 (6 * x + y) = min (G x y) (G x k + G k y)) → g1 32 (k + 1) M') → ∀ (l a : Nat) (M : Mm), (a : Int) ≤ P → Inv X S M → (∀ c p : Int, ¬ c = 34 → M c p = m0 c p) → (∀ x y : Int, 0 ≤ x → x < P → 0 ≤ y → y < P → M 34 (6 * x + y) = if x < (a : Int) then min (G x y) (G x k + G k y) else G x y) → 7 - a ≤ l → wp_X8_measureWays_81 S g1 K l 32 k a M := by
    intro G k g1 k0 k1 gb gk hg l
    induction l with
    | zero => intro a M a1 _ _ _ hl; exfalso; omega
    | succ l ih =>
      intro a M a1 hM F T hl
      refine u_X8_measureWays_81 ?_
      refine g_getu 0 rfl hS.k32 (fun v ev => ?_)
      rw [F 32 0 (by first | decide | exact fun z => absurd z.1 (by decide) | exact ⟨fun z => absurd z.1 (by decide), fun z => absurd z.1 (by decide)⟩ | omega), ← eP] at ev
      refine g_if (fun q => ?_) (fun q => ?_)
      · refine g_A (by omega) (by omega) ?_
        refine hg M hM F (fun x y x0 x1 y0 y1 => ?_)
        rw [T x y x0 x1 y0 y1, if_pos (by omega)]
      · refine g_C ?_
        refine ⟨7, L91 G k a g1 _ k0 k1 (by omega) (by omega) gb gk (fun M' hM' F' T' => ih (a + 1) M' (by omega) hM' F' T' (by omega)) 7 0 M (by omega) hM F (fun x y x0 x1 y0 y1 => ?_) (by omega)⟩
        rw [T x y x0 x1 y0 y1]
        by_cases z : x < (a : Int)
        · rw [if_pos z, if_pos (Or.inl z)]
        · rw [if_neg z, if_neg (by omega)]
  have L71 : ∀ (l k : Nat) (M : Mm), (k : Int) ≤ P → Inv X S M → (∀ c p : Int, ¬ c = 34 → M c p = m0 c p) → FWk P f (fun a b => M 34 (6 * a + b)) k → 7 - k ≤ l → wp_X8_measureWays_71 S K l 32 k M := by
    intro l
    induction l with
    | zero => intro k M k1 _ _ _ hl; exfalso; omega
    | succ l ih =>
      intro k M k1 hM F T hl
      refine u_X8_measureWays_71 ?_
      refine g_getu 0 rfl hS.k32 (fun v ev => ?_)
      rw [F 32 0 (by first | decide | exact fun z => absurd z.1 (by decide) | exact ⟨fun z => absurd z.1 (by decide), fun z => absurd z.1 (by decide)⟩ | omega), ← eP] at ev
      refine g_if (fun q => ?_) (fun q => ?_)
      · have ek : (k : Int) = P := by omega
        rw [ek] at T
        refine hk M hM F ?_
        rw [F 32 0 (by first | decide | exact fun z => absurd z.1 (by decide) | exact ⟨fun z => absurd z.1 (by decide), fun z => absurd z.1 (by decide)⟩ | omega), ← eP, show M 33 = f from (funext (fun p => F 33 p (by first | decide | exact fun z => absurd z.1 (by decide) | exact ⟨fun z => absurd z.1 (by decide), fun z => absurd z.1 (by decide)⟩ | omega))).trans ef.symm]
        exact T.ok bP.2
      · refine g_C ?_
        refine ⟨7, L81 (fun a b => M 34 (6 * a + b)) k _ (by omega) (by omega) T.2.1 (T.1 k (by omega) (by omega)) (fun M' hM' F' T' => ?_) 7 0 M (by omega) hM F (fun x y x0 x1 y0 y1 => ?_) (by omega)⟩
        · exact ih (k + 1) M' (by omega) hM' F' (T.step (by omega) (by omega) T') (by omega)
        · rw [if_neg (by omega)]
  -- the first lay-out
  have L12 : ∀ (a : Int) (g1 : Int → Int → Mm → Prop), 0 ≤ a → a < P → (∀ M' : Mm, Inv X S M' → (∀ c p : Int, ¬ c = 34 → M' c p = m0 c p) → (∀ x y : Int, 0 ≤ x → x < a + 1 → 0 ≤ y → y < P → M' 34 (6 * x + y) = if x = y then 0 else if 0 < f (6 * x + y) then f (6 * x + y) else 1000) → g1 32 (a + 1) M') → ∀ (l c : Nat) (M : Mm), (c : Int) ≤ P → Inv X S M → (∀ c p : Int, ¬ c = 34 → M c p = m0 c p) → (∀ x y : Int, 0 ≤ x → 0 ≤ y → y < P → (x < a ∨ (x = a ∧ y < (c : Int))) → M 34 (6 * x + y) = if x = y then 0 else if 0 < f (6 * x + y) then f (6 * x + y) else 1000) → 7 - c ≤ l → wp_X8_measureWays_12 S g1 K l 32 a c M := by
    intro a g1 a0 a1 hg l
    induction l with
    | zero => intro c M c1 _ _ _ hl; exfalso; omega
    | succ l ih =>
      intro c M c1 hM F T hl
      refine u_X8_measureWays_12 ?_
      refine g_getu 0 rfl hS.k32 (fun v ev => ?_)
      rw [F 32 0 (by first | decide | exact fun z => absurd z.1 (by decide) | exact ⟨fun z => absurd z.1 (by decide), fun z => absurd z.1 (by decide)⟩ | omega), ← eP] at ev
      refine g_if (fun q => ?_) (fun q => ?_)
      · refine g_A (by omega) (by omega) ?_
        exact hg M hM F (fun x y x0 x1 y0 y1 => T x y x0 y0 y1 (by omega))
      have c0 : (0 : Int) ≤ (c : Int) := by omega
      have c2 : (c : Int) < P := by omega
      have fc := fb a c a0 a1 c0 c2
      have nx : ∀ r : Int, r = (if a = (c : Int) then 0 else if 0 < f (6 * a + c) then f (6 * a + c) else 1000) → wp_X8_measureWays_56 S g1 (fun a0 a1 a2 M => wp_X8_measureWays_12 S g1 K l a0 a1 a2 M) K 32 a c 34 (a * 6 + c) r M := by
        intro r er
        have rb : 0 ≤ r ∧ r ≤ 1000 := by
          rw [er]
          split
          · decide
          · split
            · omega
            · decide
        refine u_X8_measureWays_56 ?_
        rw [ix a c]
        refine g_st hS.k34 hS.l34 (by omega) (by omega) (hM.wa_34 (by omega) (by omega) (by omega) (by omega)) (fun m2 em hm2 => ?_)
        have f2 : ∀ c' p : Int, ¬ (c' = 34 ∧ p = 6 * a + (c : Int)) → m2 c' p = M c' p := fun c p q => (congrFun (congrFun em _) _).trans (up_ne q)
        have y2 : m2 34 (6 * a + (c : Int)) = r := (congrFun (congrFun em _) _).trans (up_at _ _ _ _)
        refine g_A (by omega) (by omega) ?_
        refine ih (c + 1) m2 (by omega) hm2 (fun c' p q => by rw [f2 c' p (by omega), F c' p q]) (fun x y x0 y0 y1 w => ?_) (by omega)
        by_cases z : x = a ∧ y = (c : Int)
        · obtain ⟨z1, z2⟩ := z
          rw [z1, z2, y2, er]
        · rw [f2 34 _ (by first | decide | exact fun z => absurd z.1 (by decide) | exact ⟨fun z => absurd z.1 (by decide), fun z => absurd z.1 (by decide)⟩ | omega)]
          exact T x y x0 y0 y1 (by omega)
      refine ⟨hS.k32, ?_⟩
      refine u_X8_roadHours ?_
      refine g_getr 8 33 rfl hS.k32 hM.f_32_8 (by decide) ?_
      refine u_X8_pair ?_
      refine g_C ?_
      refine g_M (by omega) (by omega) ?_
      refine g_A (by omega) (by omega) ?_
      rw [ix a c]
      refine g_ldu hS.k33 hS.l33 (by omega) (by omega) (fun v1 e1 => ?_)
      rw [F 33 _ (by first | decide | exact fun z => absurd z.1 (by decide) | exact ⟨fun z => absurd z.1 (by decide), fun z => absurd z.1 (by decide)⟩ | omega), ← ef] at e1
      refine g_getr 9 34 rfl hS.k32 hM.f_32_9 (by decide) ?_
      refine u_X8_pair ?_
      refine g_C ?_
      refine g_M (by omega) (by omega) ?_
      refine g_A (by omega) (by omega) ?_
      refine g_if (fun w => ?_) (fun w => ?_)
      · refine g_if (fun w2 => ?_) (fun w2 => ?_)
        · refine g_C ?_
          exact nx 1000 (by rw [if_neg w, if_neg (by omega)])
        · exact nx v1 (by rw [if_neg w, if_pos (by omega), e1])
      · refine g_C ?_
        exact nx 0 (by rw [if_pos (Classical.not_not.mp w)])
  have L2 : ∀ (l a : Nat) (M : Mm), (a : Int) ≤ P → Inv X S M → (∀ c p : Int, ¬ c = 34 → M c p = m0 c p) → (∀ x y : Int, 0 ≤ x → x < (a : Int) → 0 ≤ y → y < P → M 34 (6 * x + y) = if x = y then 0 else if 0 < f (6 * x + y) then f (6 * x + y) else 1000) → 7 - a ≤ l → wp_X8_measureWays_2 S K l 32 a M := by
    intro l
    induction l with
    | zero => intro a M a1 _ _ _ hl; exfalso; omega
    | succ l ih =>
      intro a M a1 hM F T hl
      refine u_X8_measureWays_2 ?_
      refine g_getu 0 rfl hS.k32 (fun v ev => ?_)
      rw [F 32 0 (by first | decide | exact fun z => absurd z.1 (by decide) | exact ⟨fun z => absurd z.1 (by decide), fun z => absurd z.1 (by decide)⟩ | omega), ← eP] at ev
      refine g_if (fun q => ?_) (fun q => ?_)
      · refine g_C ?_
        have T' : ∀ x y : Int, 0 ≤ x → x < P → 0 ≤ y → y < P → M 34 (6 * x + y) = if x = y then 0 else if 0 < f (6 * x + y) then f (6 * x + y) else 1000 := fun x y x0 x1 y0 y1 => T x y x0 (by omega) y0 y1
        refine ⟨7, L71 7 0 M (by omega) hM F ⟨fun x x0 x1 => ?_, fun x y x0 x1 y0 y1 => ?_, fun x y x0 x1 y0 y1 w => ?_, fun x y j _ _ _ _ j0 _ j1 => by omega, fun x y x0 x1 y0 y1 n w => ?_⟩ (by omega)⟩
        · show M 34 (6 * x + x) = 0
          rw [T' x x x0 x1 x0 x1, if_pos rfl]
        · show 0 ≤ M 34 (6 * x + y) ∧ M 34 (6 * x + y) ≤ 1000
          have fc := fb x y x0 x1 y0 y1
          rw [T' x y x0 x1 y0 y1]
          split
          · decide
          · split
            · omega
            · decide
        · show M 34 (6 * x + y) ≤ f (6 * x + y)
          rw [T' x y x0 x1 y0 y1]
          by_cases z : x = y
          · rw [if_pos z]; omega
          · rw [if_neg z, if_pos w]; omega
        · have w' : M 34 (6 * x + y) < 1000 := w
          have t := T' x y x0 x1 y0 y1
          rw [if_neg n] at t
          by_cases z : 0 < f (6 * x + y)
          · rw [if_pos z] at t
            refine ⟨y, y0, y1, z, ?_⟩
            show f (6 * x + y) + M 34 (6 * y + y) ≤ M 34 (6 * x + y)
            rw [T' y y y0 y1 y0 y1, if_pos rfl]
            omega
          · rw [if_neg z] at t
            omega
      · refine g_C ?_
        exact ⟨7, L12 a _ (by omega) (by omega) (fun M' hM' F' T' => ih (a + 1) M' (by omega) hM' F' T' (by omega)) 7 0 M (by omega) hM F (fun x y x0 y0 y1 w => T x y x0 (by omega) y0 y1) (by omega)⟩
  refine u_X8_measureWays ?_
  refine g_C ?_
  exact ⟨7, L2 7 0 m0 (by omega) hm0 (fun _ _ _ => rfl) (fun x y x0 x1 _ _ => absurd x1 (by omega)) (by omega)⟩
