/-! WAYS: their HOURS, PLACE by PLACE -/
def ctL (h : Int → Int) (v : Int) : Int := (if h 0 < v then 1 else 0) + (if h 1 < v then 1 else 0) + (if h 2 < v then 1 else 0) + (if h 3 < v then 1 else 0) + (if h 4 < v then 1 else 0) + (if h 5 < v then 1 else 0)
theorem ifL {x v w : Int} (h : w ≤ v) : (if x < w then (1 : Int) else 0) ≤ if x < v then 1 else 0 := by
  by_cases q : x < w
  · rw [if_pos q, if_pos (by omega)]; exact Int.le_refl 1
  · rw [if_neg q]; split <;> decide
theorem ifS {x v : Int} (h : x < v) : (if x < x then (1 : Int) else 0) + 1 ≤ if x < v then 1 else 0 := by
  rw [if_pos h, if_neg (by omega)]; decide
theorem if01 {x v : Int} : 0 ≤ (if x < v then (1 : Int) else 0) ∧ (if x < v then (1 : Int) else 0) ≤ 1 := by split <;> decide
theorem ctL_step {h : Int → Int} {b v : Int} (b0 : 0 ≤ b) (b5 : b ≤ 5) (hv : h b < v) : ctL h (h b) + 1 ≤ ctL h v := by
  have m0 := ifL (x := h 0) (w := h b) (v := v) (by omega)
  have m1 := ifL (x := h 1) (w := h b) (v := v) (by omega)
  have m2 := ifL (x := h 2) (w := h b) (v := v) (by omega)
  have m3 := ifL (x := h 3) (w := h b) (v := v) (by omega)
  have m4 := ifL (x := h 4) (w := h b) (v := v) (by omega)
  have m5 := ifL (x := h 5) (w := h b) (v := v) (by omega)
  have s := ifS hv
  unfold ctL
  rcases (show b = 0 ∨ b = 1 ∨ b = 2 ∨ b = 3 ∨ b = 4 ∨ b = 5 by omega) with e | e | e | e | e | e <;> subst e <;> omega
theorem ctL_0 {h : Int → Int} {v : Int} : 0 ≤ ctL h v := by
  have m0 := if01 (x := h 0) (v := v)
  have m1 := if01 (x := h 1) (v := v)
  have m2 := if01 (x := h 2) (v := v)
  have m3 := if01 (x := h 3) (v := v)
  have m4 := if01 (x := h 4) (v := v)
  have m5 := if01 (x := h 5) (v := v)
  unfold ctL
  omega
theorem ctL_5 {h : Int → Int} {a : Int} (a0 : 0 ≤ a) (a5 : a ≤ 5) : ctL h (h a) ≤ 5 := by
  have z : (if h a < h a then (1 : Int) else 0) = 0 := if_neg (by omega)
  have m0 := if01 (x := h 0) (v := h a)
  have m1 := if01 (x := h 1) (v := h a)
  have m2 := if01 (x := h 2) (v := h a)
  have m3 := if01 (x := h 3) (v := h a)
  have m4 := if01 (x := h 4) (v := h a)
  have m5 := if01 (x := h 5) (v := h a)
  unfold ctL
  rcases (show a = 0 ∨ a = 1 ∨ a = 2 ∨ a = 3 ∨ a = 4 ∨ a = 5 by omega) with e | e | e | e | e | e <;> subst e <;> omega
/-- how many PLACES are nearer -/
abbrev nrF (g : Int → Int) (c a : Int) : Int := ctL (fun x => g (6 * x + c)) (g (6 * a + c))
theorem Wok.nxt {P : Int} {f g : Int → Int} (w : Wok P f g) {a c : Int} (a0 : 0 ≤ a) (a1 : a < P) (c0 : 0 ≤ c) (c1 : c < P) (n : ¬ a = c) (h : g (6 * a + c) < 1000) : ∃ b : Int, 0 ≤ b ∧ b < P ∧ 0 < f (6 * a + b) ∧ f (6 * a + b) + g (6 * b + c) = g (6 * a + c) ∧ nrF g c b + 1 ≤ nrF g c a := by
  obtain ⟨p6, h0, h1, h2, h3⟩ := w
  obtain ⟨b, b0, b1, r1, r2⟩ := h3 a c a0 a1 c0 c1 n h
  have r3 := h2 a b c a0 a1 b0 b1 c0 c1 r1
  exact ⟨b, b0, b1, r1, by omega, ctL_step (h := fun x => g (6 * x + c)) (b := b) b0 (by omega) (by show g (6 * b + c) < g (6 * a + c); omega)⟩
theorem Wok.far {P : Int} {f g : Int → Int} (w : Wok P f g) (fb : ∀ p : Int, 0 ≤ p → p < 36 → f p ≤ 5) {c : Int} (c0 : 0 ≤ c) (c1 : c < P) : ∀ (n : Nat) (a : Int), 0 ≤ a → a < P → nrF g c a ≤ (n : Int) → g (6 * a + c) < 1000 → g (6 * a + c) ≤ 5 * (n : Int) := by
  have p6 := w.1
  intro n
  induction n with
  | zero =>
    intro a a0 a1 hn h
    by_cases e : a = c
    · rw [e, w.2.1 c c0 c1]; decide
    · obtain ⟨b, b0, b1, r1, r2, r3⟩ := w.nxt a0 a1 c0 c1 e h
      have z : 0 ≤ nrF g c b := ctL_0
      have z2 : nrF g c a ≤ 0 := hn
      omega
  | succ n ih =>
    intro a a0 a1 hn h
    by_cases e : a = c
    · rw [e, w.2.1 c c0 c1]; omega
    · obtain ⟨b, b0, b1, r1, r2, r3⟩ := w.nxt a0 a1 c0 c1 e h
      have q := ih b b0 b1 (by omega) (by omega)
      have q2 := fb (6 * a + b) (by omega) (by omega)
      omega
theorem Wok.d25 {P : Int} {f g : Int → Int} (w : Wok P f g) (fb : ∀ p : Int, 0 ≤ p → p < 36 → f p ≤ 5) {a c : Int} (a0 : 0 ≤ a) (a1 : a < P) (c0 : 0 ≤ c) (c1 : c < P) (h : g (6 * a + c) < 1000) : g (6 * a + c) ≤ 25 := by
  have p6 := w.1
  exact w.far fb c0 c1 5 a a0 a1 (ctL_5 (h := fun x => g (6 * x + c)) a0 (by omega)) h
def smF (h : Int → Int) : Nat → Int
  | 0 => 0
  | n + 1 => smF h n + h (n : Int)
theorem smF_le {h k : Int → Int} : ∀ n : Nat, (∀ p : Int, 0 ≤ p → p < (n : Int) → k p ≤ h p) → smF k n ≤ smF h n := by
  intro n
  induction n with
  | zero => intro _; exact Int.le_refl 0
  | succ n ih =>
    intro e
    have a := ih (fun p p0 p1 => e p p0 (by omega))
    have b := e (n : Int) (by omega) (by omega)
    show smF k n + k (n : Int) ≤ smF h n + h (n : Int)
    omega
theorem smF_lt {h k : Int → Int} {a : Int} : ∀ n : Nat, (∀ p : Int, 0 ≤ p → p < (n : Int) → k p ≤ h p) → 0 ≤ a → a < (n : Int) → k a < h a → smF k n < smF h n := by
  intro n
  induction n with
  | zero => intro _ a0 a1 _; omega
  | succ n ih =>
    intro e a0 a1 l
    have b := e (n : Int) (by omega) (by omega)
    show smF k n + k (n : Int) < smF h n + h (n : Int)
    by_cases z : a = (n : Int)
    · have q := smF_le (h := h) (k := k) n (fun p p0 p1 => e p p0 (by omega))
      rw [z] at l
      omega
    · have q := ih (fun p p0 p1 => e p p0 (by omega)) a0 (by omega) l
      omega
theorem smF_0 {h : Int → Int} : ∀ n : Nat, (∀ p : Int, 0 ≤ p → p < (n : Int) → 0 ≤ h p ∧ h p ≤ 99) → 0 ≤ smF h n ∧ smF h n ≤ 99 * (n : Int) := by
  intro n
  induction n with
  | zero => intro _; exact ⟨Int.le_refl 0, Int.le_refl 0⟩
  | succ n ih =>
    intro e
    have a := ih (fun p p0 p1 => e p p0 (by omega))
    have b := e (n : Int) (by omega) (by omega)
    show 0 ≤ smF h n + h (n : Int) ∧ smF h n + h (n : Int) ≤ 99 * ((n + 1 : Nat) : Int)
    omega
theorem fhs_at {P to : Int} {f g h : Int → Int} (w : Wok P f g) (fb : ∀ p : Int, 0 ≤ p → p < 36 → f p ≤ 5) (t0 : 0 ≤ to) (t1 : to < P) (hb : ∀ p : Int, 0 ≤ p → p < P → 0 ≤ h p ∧ h p ≤ 99 ∧ (h p = 99 ∨ g (6 * p + to) ≤ h p)) (ht : h to = 0) (fx : ∀ x y : Int, 0 ≤ x → x < P → 0 ≤ y → y < P → f (6 * x + y) = 0 ∨ h x ≤ h y + f (6 * x + y)) (p : Int) (p0 : 0 ≤ p) (p1 : p < P) : h p = if g (6 * p + to) < 1000 then g (6 * p + to) else 99 := by
  have up : ∀ (n : Nat) (a : Int), 0 ≤ a → a < P → g (6 * a + to) ≤ (n : Int) → g (6 * a + to) < 1000 → h a ≤ g (6 * a + to) := by
    intro n
    induction n with
    | zero =>
      intro a a0 a1 hn hl
      have b := w.2.2.1 a to a0 a1 t0 t1
      by_cases e : a = to
      · rw [e] at b ⊢; omega
      · obtain ⟨b, b0, b1, r1, r2, r3⟩ := w.nxt a0 a1 t0 t1 e hl
        have q := w.2.2.1 b to b0 b1 t0 t1
        omega
    | succ n ih =>
      intro a a0 a1 hn hl
      have b := w.2.2.1 a to a0 a1 t0 t1
      by_cases e : a = to
      · rw [e] at b ⊢; omega
      · obtain ⟨b, b0, b1, r1, r2, r3⟩ := w.nxt a0 a1 t0 t1 e hl
        have q := ih b b0 b1 (by omega) (by omega)
        have q2 := fx a b a0 a1 b0 b1
        omega
  have b := hb p p0 p1
  by_cases q : g (6 * p + to) < 1000
  · have u := up 1000 p p0 p1 (by omega) q
    have d := w.d25 fb p0 p1 t0 t1 q
    rw [if_pos q]
    omega
  · rw [if_neg q]
    omega
theorem zq_fillsHours {X : Mm} {S : Sh} {m : Mm} {K : Mm → Prop} {P to : Int} {f g : Int → Int} (hS : Shp S) (hm : Inv X S m) (r : RO (m 346) f) (eP : m 346 0 = P) (w : Wok P f g) (fb : ∀ p : Int, 0 ≤ p → p < 36 → f p ≤ 5) (t0 : 0 ≤ to) (t1 : to < P) (hk : ∀ M1 : Mm, Inv X S M1 → (∀ c p : Int, ¬ c = 349 → M1 c p = m c p) → (∀ p : Int, 0 ≤ p → p < P → M1 349 p = if g (6 * p + to) < 1000 then g (6 * p + to) else 99) → K M1) : wp_X12_fillsHours S m 336 to K := by
  have p6 := w.1
  obtain ⟨N, eN⟩ : ∃ N : Nat, N = P.toNat := ⟨_, rfl⟩
  obtain ⟨I, eI⟩ : ∃ I : Mm → Prop, I = fun M => (∀ p : Int, 0 ≤ p → p < P → 0 ≤ M 349 p ∧ M 349 p ≤ 99 ∧ (M 349 p = 99 ∨ g (6 * p + to) ≤ M 349 p)) ∧ M 349 to = 0 := ⟨_, rfl⟩
  have L58 : ∀ (M0 : Mm) (a : Int) (g1 : Int → Int → Mm → Prop) (g2 : Int → Int → Int → Mm → Prop), 0 ≤ a → a < P → (∀ (t : Int) (M' : Mm), Inv X S M' → (∀ c p : Int, ¬ c = 349 → M' c p = m c p) → I M' → ((t = 0 ∧ (∀ p : Int, 0 ≤ p → p < P → M' 349 p = M0 349 p) ∧ ∀ x y : Int, 0 ≤ x → x < P → 0 ≤ y → y < P → x < a + 1 → f (6 * x + y) = 0 ∨ M0 349 x ≤ M0 349 y + f (6 * x + y)) ∨ (¬ t = 0 ∧ smF (M' 349) N < smF (M0 349) N)) → g2 336 t (a + 1) M') → ∀ (l b : Nat) (t : Int) (M : Mm), (b : Int) ≤ P → Inv X S M → (∀ c p : Int, ¬ c = 349 → M c p = m c p) → I M → ((t = 0 ∧ (∀ p : Int, 0 ≤ p → p < P → M 349 p = M0 349 p) ∧ ∀ x y : Int, 0 ≤ x → x < P → 0 ≤ y → y < P → (x < a ∨ (x = a ∧ y < (b : Int))) → f (6 * x + y) = 0 ∨ M0 349 x ≤ M0 349 y + f (6 * x + y)) ∨ (¬ t = 0 ∧ smF (M 349) N < smF (M0 349) N)) → 7 - b ≤ l → wp_X12_fillsHours_58 S g1 g2 K l 336 t a b M := by
    intro M0 a g1 g2 a0 a1 hg l
    induction l with
    | zero => intro b t M b1 _ _ _ _ hl; exfalso; omega
    | succ l ih =>
      intro b t M b1 hM F hI Q hl
      have e46 : M 346 = m 346 := funext (fun p => F 346 p (by omega))
      refine u_X12_fillsHours_58 ?_
      refine g_getr 20 346 rfl hS.k336 hM.f_336_20 (by decide) ?_
      refine g_C ?_
      refine g_ldu hS.k346 hS.l346 (by decide) (by decide) (fun v ev => ?_)
      rw [e46, eP] at ev
      refine g_if (fun q => ?_) (fun q => ?_)
      · refine g_A (by omega) (by omega) ?_
        refine hg t M hM F hI ?_
        rcases Q with ⟨z1, z2, z3⟩ | z
        · exact Or.inl ⟨z1, z2, fun x y x0 x1 y0 y1 xa => z3 x y x0 x1 y0 y1 (by omega)⟩
        · exact Or.inr z
      have b0 : (0 : Int) ≤ (b : Int) := by omega
      have b2 : (b : Int) < P := by omega
      have nx : ∀ (t' : Int) (M' : Mm), Inv X S M' → (∀ c p : Int, ¬ c = 349 → M' c p = m c p) → I M' → ((t' = 0 ∧ (∀ p : Int, 0 ≤ p → p < P → M' 349 p = M0 349 p) ∧ ∀ x y : Int, 0 ≤ x → x < P → 0 ≤ y → y < P → (x < a ∨ (x = a ∧ y < (b : Int) + 1)) → f (6 * x + y) = 0 ∨ M0 349 x ≤ M0 349 y + f (6 * x + y)) ∨ (¬ t' = 0 ∧ smF (M' 349) N < smF (M0 349) N)) → wp_X12_fillsHours_123 S g1 g2 (fun a0 a1 a2 a3 M => wp_X12_fillsHours_58 S g1 g2 K l a0 a1 a2 a3 M) K 336 t' a b M' := by
        intro t' M' hM' F' hI' Q'
        refine u_X12_fillsHours_123 ?_
        refine g_A (by omega) (by omega) ?_
        exact ih (b + 1) t' M' (by omega) hM' F' hI' Q' (by omega)
      have same : (f (6 * a + b) = 0 ∨ M 349 a ≤ M 349 b + f (6 * a + b)) → wp_X12_fillsHours_123 S g1 g2 (fun a0 a1 a2 a3 M => wp_X12_fillsHours_58 S g1 g2 K l a0 a1 a2 a3 M) K 336 t a b M := by
        intro ok
        refine nx t M hM F hI ?_
        rcases Q with ⟨z1, z2, z3⟩ | z
        · refine Or.inl ⟨z1, z2, fun x y x0 x1 y0 y1 xa => ?_⟩
          by_cases e : x = a ∧ y = (b : Int)
          · obtain ⟨ea, eb⟩ := e
            rw [ea, eb, ← z2 a a0 a1, ← z2 b b0 b2]
            exact ok
          · exact z3 x y x0 x1 y0 y1 (by omega)
        · exact Or.inr z
      have ia := hI
      have ib := hI
      rw [eI] at ia ib
      have ja := ia.1 a a0 a1
      have jb := ib.1 b b0 b2
      refine ⟨hS.k336, ?_⟩
      refine zs_roadR hS hM (by rw [e46]; exact r) a0 (by omega) b0 (by omega) (fun fpos => ?_)
      have f5 := fb (6 * a + b) (by omega) (by omega)
      refine g_if (fun z => same (Or.inl z)) (fun z => ?_)
      refine g_getr 27 349 rfl hS.k336 hM.f_336_27 (by decide) ?_
      refine g_ldu hS.k349 hS.l349 b0 (by omega) (fun v1 e1 => ?_)
      refine g_A (by omega) (by omega) ?_
      refine g_getr 27 349 rfl hS.k336 hM.f_336_27 (by decide) ?_
      refine g_ldu hS.k349 hS.l349 a0 (by omega) (fun v2 e2 => ?_)
      refine g_if (fun z2 => ?_) (fun z2 => same (Or.inr (by omega)))
      refine g_getr 27 349 rfl hS.k336 hM.f_336_27 (by decide) ?_
      refine g_getr 27 349 rfl hS.k336 hM.f_336_27 (by decide) ?_
      refine g_ldu hS.k349 hS.l349 b0 (by omega) (fun v3 e3 => ?_)
      refine g_A (by omega) (by omega) ?_
      refine g_st hS.k349 hS.l349 a0 (by omega) (hM.wa_349 a0 (by omega) (by omega) (by omega)) (fun m2 em hm2 => ?_)
      have f2 : ∀ c p : Int, ¬ (c = 349 ∧ p = a) → m2 c p = M c p := fun c p q => (congrFun (congrFun em _) _).trans (up_ne q)
      have y2 : m2 349 a = v3 + f (6 * a + b) := (congrFun (congrFun em _) _).trans (up_at _ _ _ _)
      refine g_C ?_
      have an : ¬ a = to := fun e => by
        have q1 := ia.2
        rw [← e] at q1
        omega
      have tri := w.2.2.2.1 a b to a0 a1 b0 b2 t0 t1 (by omega)
      refine nx 1 m2 hm2 (fun c p q => by rw [f2 c p (by omega), F c p q]) ?_ (Or.inr ⟨by decide, ?_⟩)
      · rw [eI]
        refine ⟨fun p p0 p1 => ?_, ?_⟩
        · by_cases e : p = a
          · rw [e, y2]
            omega
          · rw [f2 349 p (by omega)]
            exact ia.1 p p0 p1
        · rw [f2 349 to (by omega)]
          exact ia.2
      · have s1 : smF (m2 349) N < smF (M 349) N := by
          refine smF_lt (a := a) N (fun p p0 p1 => ?_) a0 (by omega) (by omega)
          by_cases e : p = a
          · rw [e, y2]; omega
          · rw [f2 349 p (by omega)]; exact Int.le_refl _
        rcases Q with ⟨z1, z2, z3⟩ | ⟨z1, z2⟩
        · have s2 : smF (M 349) N ≤ smF (M0 349) N := smF_le N (fun p p0 p1 => by rw [z2 p p0 (by omega)]; exact Int.le_refl _)
          omega
        · omega
  have L45 : ∀ (M0 : Mm) (g1 : Int → Int → Mm → Prop), (∀ (t : Int) (M' : Mm), Inv X S M' → (∀ c p : Int, ¬ c = 349 → M' c p = m c p) → I M' → ((t = 0 ∧ (∀ p : Int, 0 ≤ p → p < P → M' 349 p = M0 349 p) ∧ ∀ x y : Int, 0 ≤ x → x < P → 0 ≤ y → y < P → f (6 * x + y) = 0 ∨ M0 349 x ≤ M0 349 y + f (6 * x + y)) ∨ (¬ t = 0 ∧ smF (M' 349) N < smF (M0 349) N)) → g1 336 t M') → ∀ (l a : Nat) (t : Int) (M : Mm), (a : Int) ≤ P → Inv X S M → (∀ c p : Int, ¬ c = 349 → M c p = m c p) → I M → ((t = 0 ∧ (∀ p : Int, 0 ≤ p → p < P → M 349 p = M0 349 p) ∧ ∀ x y : Int, 0 ≤ x → x < P → 0 ≤ y → y < P → x < (a : Int) → f (6 * x + y) = 0 ∨ M0 349 x ≤ M0 349 y + f (6 * x + y)) ∨ (¬ t = 0 ∧ smF (M 349) N < smF (M0 349) N)) → 7 - a ≤ l → wp_X12_fillsHours_45 S g1 K l 336 t a M := by
    intro M0 g1 hg l
    induction l with
    | zero => intro a t M a1 _ _ _ _ hl; exfalso; omega
    | succ l ih =>
      intro a t M a1 hM F hI Q hl
      have e46 : M 346 = m 346 := funext (fun p => F 346 p (by omega))
      refine u_X12_fillsHours_45 ?_
      refine g_getr 20 346 rfl hS.k336 hM.f_336_20 (by decide) ?_
      refine g_C ?_
      refine g_ldu hS.k346 hS.l346 (by decide) (by decide) (fun v ev => ?_)
      rw [e46, eP] at ev
      refine g_if (fun q => ?_) (fun q => ?_)
      · refine hg t M hM F hI ?_
        rcases Q with ⟨z1, z2, z3⟩ | z
        · exact Or.inl ⟨z1, z2, fun x y x0 x1 y0 y1 => z3 x y x0 x1 y0 y1 (by omega)⟩
        · exact Or.inr z
      · refine g_C ?_
        refine ⟨7, L58 M0 a g1 _ (by omega) (by omega) (fun t' M' hM' F' hI' Q' => ih (a + 1) t' M' (by omega) hM' F' hI' Q' (by omega)) 7 0 t M (by omega) hM F hI ?_ (by omega)⟩
        rcases Q with ⟨z1, z2, z3⟩ | z
        · exact Or.inl ⟨z1, z2, fun x y x0 x1 y0 y1 xa => z3 x y x0 x1 y0 y1 (by omega)⟩
        · exact Or.inr z
  have L37 : ∀ (l : Nat) (t : Int) (M : Mm), Inv X S M → (∀ c p : Int, ¬ c = 349 → M c p = m c p) → I M → (t = 0 → 1 ≤ l ∧ ∀ x y : Int, 0 ≤ x → x < P → 0 ≤ y → y < P → f (6 * x + y) = 0 ∨ M 349 x ≤ M 349 y + f (6 * x + y)) → (¬ t = 0 → smF (M 349) N + 2 ≤ (l : Int)) → wp_X12_fillsHours_37 S K l 336 t M := by
    intro l
    induction l with
    | zero =>
      intro t M hM F hI q0 q1
      exfalso
      by_cases z : t = 0
      · have := (q0 z).1; omega
      · have := q1 z
        rw [eI] at hI
        have s := smF_0 (h := M 349) N (fun p p0 p1 => ⟨(hI.1 p p0 (by omega)).1, (hI.1 p p0 (by omega)).2.1⟩)
        omega
    | succ l ih =>
      intro t M hM F hI q0 q1
      refine u_X12_fillsHours_37 ?_
      refine g_if (fun z => ?_) (fun z => ?_)
      · have hI' := hI
        rw [eI] at hI'
        exact hk M hM F (fun p p0 p1 => fhs_at w fb t0 t1 hI'.1 hI'.2 (q0 z).2 p p0 p1)
      · have s1 := q1 z
        have s0 : 0 ≤ smF (M 349) N := by
          have hI' := hI
          rw [eI] at hI'
          exact (smF_0 (h := M 349) N (fun p p0 p1 => ⟨(hI'.1 p p0 (by omega)).1, (hI'.1 p p0 (by omega)).2.1⟩)).1
        refine g_C ?_
        refine g_C ?_
        refine ⟨7, L45 M _ (fun t' M' hM' F' hI' Q' => ?_) 7 0 0 M (by omega) hM F hI (Or.inl ⟨rfl, fun _ _ _ => rfl, fun x y x0 x1 y0 y1 xa => absurd xa (by omega)⟩) (by omega)⟩
        refine ih t' M' hM' F' hI' (fun z2 => ?_) (fun z2 => ?_)
        · rcases Q' with ⟨_, y2, y3⟩ | ⟨y1, _⟩
          · refine ⟨by omega, fun x y x0 x1 y0 y1 => ?_⟩
            rw [y2 x x0 x1, y2 y y0 y1]
            exact y3 x y x0 x1 y0 y1
          · exact absurd z2 y1
        · rcases Q' with ⟨y1, _⟩ | ⟨_, y2⟩
          · exact absurd y1 z2
          · omega
  have L2 : ∀ (l k : Nat) (M : Mm), (k : Int) ≤ P → Inv X S M → (∀ c p : Int, ¬ c = 349 → M c p = m c p) → (∀ p : Int, 0 ≤ p → p < (k : Int) → M 349 p = if p = to then 0 else 99) → 7 - k ≤ l → wp_X12_fillsHours_2 S K l 336 to k M := by
    intro l
    induction l with
    | zero => intro k M k1 _ _ _ hl; exfalso; omega
    | succ l ih =>
      intro k M k1 hM F T hl
      refine u_X12_fillsHours_2 ?_
      refine g_getr 20 346 rfl hS.k336 hM.f_336_20 (by decide) ?_
      refine g_C ?_
      refine g_ldu hS.k346 hS.l346 (by decide) (by decide) (fun v ev => ?_)
      rw [F 346 0 (by omega), eP] at ev
      refine g_if (fun q => ?_) (fun q => ?_)
      · refine g_C ?_
        have hI : I M := by
          rw [eI]
          refine ⟨fun p p0 p1 => ?_, ?_⟩
          · rw [T p p0 (by omega)]
            by_cases e : p = to
            · rw [if_pos e, e, w.2.1 to t0 t1]
              exact ⟨by decide, by decide, Or.inr (by decide)⟩
            · rw [if_neg e]
              exact ⟨by decide, by decide, Or.inl rfl⟩
          · rw [T to t0 (by omega), if_pos rfl]
        refine ⟨700, L37 700 1 M hM F hI (fun z => absurd z (by decide)) (fun _ => ?_)⟩
        have hI' := hI
        rw [eI] at hI'
        have s := smF_0 (h := M 349) N (fun p p0 p1 => ⟨(hI'.1 p p0 (by omega)).1, (hI'.1 p p0 (by omega)).2.1⟩)
        omega
      have nx : ∀ x : Int, x = (if (k : Int) = to then 0 else 99) → wp_X12_fillsHours_28 S (fun a0 a1 a2 M => wp_X12_fillsHours_2 S K l a0 a1 a2 M) K 336 to k 349 k x M := by
        intro x ex
        have xb : 0 ≤ x ∧ x ≤ 99 := by
          rw [ex]
          split <;> decide
        refine u_X12_fillsHours_28 ?_
        refine g_st hS.k349 hS.l349 (by omega) (by omega) (hM.wa_349 (by omega) (by omega) (by omega) (by omega)) (fun m2 em hm2 => ?_)
        have f2 : ∀ c p : Int, ¬ (c = 349 ∧ p = (k : Int)) → m2 c p = M c p := fun c p q => (congrFun (congrFun em _) _).trans (up_ne q)
        have y2 : m2 349 k = x := (congrFun (congrFun em _) _).trans (up_at _ _ _ _)
        refine g_A (by omega) (by omega) ?_
        refine ih (k + 1) m2 (by omega) hm2 (fun c p q => by rw [f2 c p (by omega), F c p q]) (fun p p0 p1 => ?_) (by omega)
        by_cases e : p = (k : Int)
        · rw [e, y2, ex]
        · rw [f2 349 p (by omega)]
          exact T p p0 (by omega)
      refine g_getr 27 349 rfl hS.k336 hM.f_336_27 (by decide) ?_
      refine g_if (fun z => ?_) (fun z => ?_)
      · refine g_C ?_
        exact nx 99 (by rw [if_neg z])
      · refine g_C ?_
        exact nx 0 (by rw [if_pos (Classical.not_not.mp z)])
  refine u_X12_fillsHours ?_
  refine g_C ?_
  exact ⟨7, L2 7 0 m (by omega) hm (fun _ _ _ => rfl) (fun p p0 p1 => absurd p1 (by omega)) (by omega)⟩
/-- the next PLACE of a WAY -/
def npF (f g : Int → Int) (a c : Int) : Nat → Int → Int
  | 0, _ => -1
  | n + 1, b => if 0 < f (6 * a + b) ∧ f (6 * a + b) + g (6 * b + c) = g (6 * a + c) then b else npF f g a c n (b + 1)
theorem npF_at {f g : Int → Int} {a c x : Int} (hx : 0 < f (6 * a + x) ∧ f (6 * a + x) + g (6 * x + c) = g (6 * a + c)) : ∀ (n : Nat) (b : Int), b ≤ x → x < b + (n : Int) → b ≤ npF f g a c n b ∧ npF f g a c n b < b + (n : Int) ∧ 0 < f (6 * a + npF f g a c n b) ∧ f (6 * a + npF f g a c n b) + g (6 * npF f g a c n b + c) = g (6 * a + c) := by
  intro n
  induction n with
  | zero => intro b b0 b1; omega
  | succ n ih =>
    intro b b0 b1
    by_cases q : 0 < f (6 * a + b) ∧ f (6 * a + b) + g (6 * b + c) = g (6 * a + c)
    · have e : npF f g a c (n + 1) b = b := if_pos q
      rw [e]
      exact ⟨Int.le_refl b, by omega, q.1, q.2⟩
    · have e : npF f g a c (n + 1) b = npF f g a c n (b + 1) := if_neg q
      have nb : ¬ b = x := fun z => q (by rw [z]; exact hx)
      obtain ⟨i1, i2, i3, i4⟩ := ih (b + 1) (by omega) (by omega)
      rw [e]
      exact ⟨by omega, by omega, i3, i4⟩
theorem zq_road11 {X : Mm} {S : Sh} {m : Mm} {K : Int → Mm → Prop} {a b : Int} (hS : Shp S) (hm : Inv X S m) (a0 : 0 ≤ a) (a1 : a ≤ 5) (b0 : 0 ≤ b) (b1 : b ≤ 5) (hk : K (m 5 (6 * a + b)) m) : wp_X8_roadHours S m 4 a b K := by
  refine u_X8_roadHours ?_
  refine g_getr 8 5 rfl hS.k4 hm.f_4_8 (by decide) ?_
  refine u_X8_pair ?_
  refine g_C ?_
  refine g_M (by omega) (by omega) ?_
  refine g_A (by omega) (by omega) ?_
  rw [show a * 6 + b = 6 * a + b by omega]
  refine g_ldu hS.k5 hS.l5 (by omega) (by omega) (fun v ev => ?_)
  rw [ev]
  exact hk
theorem zq_way11 {X : Mm} {S : Sh} {m : Mm} {K : Int → Mm → Prop} {a b : Int} (hS : Shp S) (hm : Inv X S m) (a0 : 0 ≤ a) (a1 : a ≤ 5) (b0 : 0 ≤ b) (b1 : b ≤ 5) (hk : K (m 6 (6 * a + b)) m) : wp_X8_wayHours S m 4 a b K := by
  refine u_X8_wayHours ?_
  refine g_getr 9 6 rfl hS.k4 hm.f_4_9 (by decide) ?_
  refine u_X8_pair ?_
  refine g_C ?_
  refine g_M (by omega) (by omega) ?_
  refine g_A (by omega) (by omega) ?_
  rw [show a * 6 + b = 6 * a + b by omega]
  refine g_ldu hS.k6 hS.l6 (by omega) (by omega) (fun v ev => ?_)
  rw [ev]
  exact hk
theorem zq_has11 {X : Mm} {S : Sh} {m : Mm} {K : Int → Mm → Prop} {a b : Int} (hS : Shp S) (hm : Inv X S m) (a0 : 0 ≤ a) (a1 : a ≤ 5) (b0 : 0 ≤ b) (b1 : b ≤ 5) (h1 : m 6 (6 * a + b) < 1000 → K 1 m) (h0 : ¬ m 6 (6 * a + b) < 1000 → K 0 m) : wp_X8_hasWay S m 4 a b K := by
  refine u_X8_hasWay ?_
  refine g_getr 9 6 rfl hS.k4 hm.f_4_9 (by decide) ?_
  refine u_X8_pair ?_
  refine g_C ?_
  refine g_M (by omega) (by omega) ?_
  refine g_A (by omega) (by omega) ?_
  rw [show a * 6 + b = 6 * a + b by omega]
  refine g_ldu hS.k6 hS.l6 (by omega) (by omega) (fun v ev => ?_)
  refine g_C ?_
  exact g_if (fun q => g_C ⟨by decide, h0 (by omega)⟩) (fun q => g_C ⟨by decide, h1 (by omega)⟩)
theorem zq_next11 {X : Mm} {S : Sh} {m : Mm} {K : Int → Mm → Prop} {P a c : Int} (hS : Shp S) (hm : Inv X S m) (eP : m 4 0 = P) (p6 : P ≤ 6) (a0 : 0 ≤ a) (a1 : a ≤ 5) (c0 : 0 ≤ c) (c1 : c ≤ 5) (hk : K (npF (m 5) (m 6) a c P.toNat 0) m) : wp_X8_nextPlace S m 4 a c K := by
  have L : ∀ (l k : Nat) (b : Int), b = P - (k : Int) → 0 ≤ b → k + 1 ≤ l → K (npF (m 5) (m 6) a c k b) m → wp_X8_nextPlace_2 S K l 4 a c b m := by
    intro l
    induction l with
    | zero => intro k b _ _ hl _; exfalso; omega
    | succ l ih =>
      intro k b eb b0 hl hq
      refine u_X8_nextPlace_2 ?_
      refine g_getu 0 rfl hS.k4 (fun v ev => ?_)
      rw [eP] at ev
      refine g_if (fun q => ?_) (fun q => ?_)
      · have ek : k = 0 := by omega
        subst ek
        exact g_C hq
      obtain ⟨k', ek⟩ : ∃ k' : Nat, k = k' + 1 := ⟨k - 1, by omega⟩
      subst ek
      have fb := hm.a_5 (i := 6 * a + b) (by omega) (by omega)
      have g1 := hm.a_6 (i := 6 * b + c) (by omega) (by omega)
      have no : ¬ (0 < m 5 (6 * a + b) ∧ m 5 (6 * a + b) + m 6 (6 * b + c) = m 6 (6 * a + c)) → wp_X8_nextPlace_43 S (fun a0 a1 a2 a3 M => wp_X8_nextPlace_2 S K l a0 a1 a2 a3 M) K 4 a c b m := by
        intro n
        have e : npF (m 5) (m 6) a c (k' + 1) b = npF (m 5) (m 6) a c k' (b + 1) := if_neg n
        rw [e] at hq
        refine u_X8_nextPlace_43 ?_
        refine g_A (by omega) (by omega) ?_
        exact ih k' (b + 1) (by omega) (by omega) (by omega) hq
      refine ⟨hS.k4, ?_⟩
      refine zq_road11 hS hm a0 a1 b0 (by omega) ?_
      refine g_if (fun z => no (fun y => by omega)) (fun z => ?_)
      refine ⟨hS.k4, ?_⟩
      refine zq_way11 hS hm b0 (by omega) c0 c1 ?_
      refine g_A (by omega) (by omega) ?_
      refine ⟨hS.k4, ?_⟩
      refine zq_way11 hS hm a0 a1 c0 c1 ?_
      refine g_if (fun z2 => no (fun y => z2 y.2)) (fun z2 => ?_)
      have e : npF (m 5) (m 6) a c (k' + 1) b = b := if_pos ⟨by omega, Classical.not_not.mp z2⟩
      rw [e] at hq
      exact hq
  refine u_X8_nextPlace ?_
  refine g_C ?_
  by_cases z : 0 ≤ P
  · exact ⟨P.toNat + 1, L (P.toNat + 1) P.toNat 0 (by omega) (by decide) (by omega) hk⟩
  · have b := hm.f_4_0
    omega
theorem zq_next12 {X : Mm} {S : Sh} {m : Mm} {K : Int → Mm → Prop} {P a c : Int} {f g : Int → Int} (hS : Shp S) (hm : Inv X S m) (r : RO (m 346) f) (eP : m 346 0 = P) (w : Wok P f g) (fb : ∀ p : Int, 0 ≤ p → p < 36 → f p ≤ 5) (a0 : 0 ≤ a) (a1 : a < P) (c0 : 0 ≤ c) (c1 : c < P) (hw : g (6 * a + c) < 1000) (T : ∀ p : Int, 0 ≤ p → p < P → m 349 p = if g (6 * p + c) < 1000 then g (6 * p + c) else 99) (hk : K (npF f g a c P.toNat 0) m) : wp_X12_nextPlace S m 336 a K := by
  have p6 := w.1
  have ta := T a a0 a1
  rw [if_pos hw] at ta
  have d25 := w.d25 fb a0 a1 c0 c1 hw
  have L : ∀ (l k : Nat) (b : Int), b = P - (k : Int) → 0 ≤ b → k + 1 ≤ l → K (npF f g a c k b) m → wp_X12_nextPlace_2 S K l 336 a b m := by
    intro l
    induction l with
    | zero => intro k b _ _ hl _; exfalso; omega
    | succ l ih =>
      intro k b eb b0 hl hq
      refine u_X12_nextPlace_2 ?_
      refine g_getr 20 346 rfl hS.k336 hm.f_336_20 (by decide) ?_
      refine g_C ?_
      refine g_ldu hS.k346 hS.l346 (by decide) (by decide) (fun v ev => ?_)
      rw [eP] at ev
      refine g_if (fun q => ?_) (fun q => ?_)
      · have ek : k = 0 := by omega
        subst ek
        exact g_C hq
      obtain ⟨k', ek⟩ : ∃ k' : Nat, k = k' + 1 := ⟨k - 1, by omega⟩
      subst ek
      have b1 : b < P := by omega
      have f5 := fb (6 * a + b) (by omega) (by omega)
      have gb := w.2.2.1 b c b0 b1 c0 c1
      have tb := T b b0 b1
      have no : ¬ (0 < f (6 * a + b) ∧ f (6 * a + b) + g (6 * b + c) = g (6 * a + c)) → wp_X12_nextPlace_45 S (fun a0 a1 a2 M => wp_X12_nextPlace_2 S K l a0 a1 a2 M) K 336 a b m := by
        intro n
        have e : npF f g a c (k' + 1) b = npF f g a c k' (b + 1) := if_neg n
        rw [e] at hq
        refine u_X12_nextPlace_45 ?_
        refine g_A (by omega) (by omega) ?_
        exact ih k' (b + 1) (by omega) (by omega) (by omega) hq
      refine ⟨hS.k336, ?_⟩
      refine zs_roadR hS hm r a0 (by omega) b0 (by omega) (fun f0 => ?_)
      refine g_if (fun z => no (fun y => by omega)) (fun z => ?_)
      refine g_getr 27 349 rfl hS.k336 hm.f_336_27 (by decide) ?_
      refine g_ldu hS.k349 hS.l349 b0 (by omega) (fun v1 e1 => ?_)
      rw [tb] at e1
      have v1b : 0 ≤ v1 ∧ v1 ≤ 1000 := by
        rw [e1]
        split
        · omega
        · decide
      refine ⟨hS.k336, ?_⟩
      refine zs_roadR hS hm r a0 (by omega) b0 (by omega) (fun f0' => ?_)
      refine g_A (by omega) (by omega) ?_
      refine g_getr 27 349 rfl hS.k336 hm.f_336_27 (by decide) ?_
      refine g_ldu hS.k349 hS.l349 a0 (by omega) (fun v2 e2 => ?_)
      rw [ta] at e2
      have v12 : v1 + f (6 * a + b) = v2 ↔ f (6 * a + b) + g (6 * b + c) = g (6 * a + c) := by
        by_cases y : g (6 * b + c) < 1000
        · rw [if_pos y] at e1
          omega
        · rw [if_neg y] at e1
          omega
      refine g_if (fun z2 => no (fun y => z2 (v12.2 y.2))) (fun z2 => ?_)
      have e : npF f g a c (k' + 1) b = b := if_pos ⟨by omega, v12.1 (Classical.not_not.mp z2)⟩
      rw [e] at hq
      exact hq
  refine u_X12_nextPlace ?_
  refine g_C ?_
  exact ⟨P.toNat + 1, L (P.toNat + 1) P.toNat 0 (by omega) (by decide) (by omega) hk⟩
