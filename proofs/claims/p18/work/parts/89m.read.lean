theorem z_X12_fails {X : Mm} {S : Sh} {m0 : Mm} {K : Int → Mm → Prop} {u1 u2 : Int} (hS : Shp S) (hm0 : Inv X S m0) (l_u1 : 0 ≤ u1) (h_u1 : u1 ≤ 4) (l_u2 : 0 ≤ u2) (h_u2 : u2 ≤ 400) (hk : ∀ (r : Int) (M1 : Mm), Inv X S M1 → (∀ c p : Int, ¬ (c = 336 ∧ 9 ≤ p ∧ p ≤ 9) → M1 c p = m0 c p) → 0 ≤ r → r ≤ 0 → (¬ M1 336 9 = 0) → K r M1) : wp_X12_fails S m0 336 u1 u2 K := by
  have Fm0 : ∀ c p : Int, ¬ (c = 336 ∧ 9 ≤ p ∧ p ≤ 9) → m0 c p = m0 c p := fun c p _ => rfl
  refine u_X12_fails ?_
  refine g_get 9 (0) (4000) rfl hS.k336 hm0.f_336_9 (fun v1 ev1 bv1 cv1 => ?_)
  have qv1 : v1 = (m0 336 9) := ev1.trans (Eq.refl (m0 336 9)).symm
  refine g_if (fun w2 => ?_) (fun w2 => ?_)
  · refine g_C ?_
    refine ⟨by omega, ?_⟩
    have zb3 := hm0.f_336_9
    exact hk 0 m0 hm0 Fm0 (by omega) (by omega) (by omega)
  · refine g_C ?_
    refine g_C ?_
    refine g_M (by omega) (by omega) ?_
    refine g_A (by omega) (by omega) ?_
    refine g_A (by omega) (by omega) ?_
    refine g_put 9 rfl hS.k336 (hm0.w_336_9 (by omega) (by omega)) (fun m5 em5 hm5 => ?_)
    have Fm5 : ∀ c p : Int, ¬ (c = 336 ∧ 9 ≤ p ∧ p ≤ 9) → m5 c p = m0 c p := fun c p h => (congrFun (congrFun em5 _) _).trans ((up_ne (by omega)).trans (Fm0 c p h))
    refine g_C ?_
    refine ⟨by omega, ?_⟩
    have zb6 := hm5.f_336_9
    have q7 : m5 336 9 = ((1 + (8 * u2)) + u1) := (Eq.refl (m5 336 9)).trans ((congrFun (congrFun em5 _) _).trans (up_ate (by omega)))
    exact hk 0 m5 hm5 Fm5 (by omega) (by omega) (by omega)
/-- a letter stands at next -/
def LtC (M : Mm) : Prop := M 336 8 < M 336 1 ∧ 97 ≤ M 337 (M 336 8) ∧ M 337 (M 336 8) ≤ 122
/-- no blank stands at next -/
def NSp (M : Mm) : Prop := M 336 8 < M 336 1 ∧ ¬ M 337 (M 336 8) = 32
theorem LtC.ns {M : Mm} (h : LtC M) : NSp M := ⟨h.1, by have := h.2.1; omega⟩
theorem LtC.same {M M1 : Mm} (h : LtC M) (h1 : M1 336 8 = M 336 8) (h2 : M1 336 1 = M 336 1) (h3 : ∀ p : Int, M1 337 p = M 337 p) : LtC M1 := by
  unfold LtC at h ⊢
  rw [h1, h2, h3]
  exact h
theorem z_X12_see {X : Mm} {S : Sh} {m0 : Mm} {K : Int → Mm → Prop} (hS : Shp S) (hm0 : Inv X S m0)  (hk : ∀ (r : Int) (M1 : Mm), Inv X S M1 → (∀ c p : Int, ¬ (c = 336 ∧ 8 ≤ p ∧ p ≤ 8) → M1 c p = m0 c p) → (-1) ≤ r → r ≤ 255 → (m0 336 8 ≤ M1 336 8) → (r = -1 ∨ NSp M1) → (¬ NSp m0 ∨ M1 336 8 = m0 336 8) → K r M1) : wp_X12_see S m0 336 K := by
  have L : ∀ (n : Nat) (m : Mm), Inv X S m → (∀ c p : Int, ¬ (c = 336 ∧ 8 ≤ p ∧ p ≤ 8) → m c p = m0 c p) → m0 336 8 ≤ m 336 8 → (¬ NSp m0 ∨ m 336 8 = m0 336 8) → 401 - m 336 8 ≤ (n : Int) → wp_X12_see_0 S K n 336 m := by
    intro n
    induction n with
    | zero =>
      intro m hm _ _ _ h
      have b8 := hm.f_336_8
      exfalso; omega
    | succ n ih =>
      intro m hm F a b h
      have b8 := hm.f_336_8
      have b1 := hm.f_336_1
      have fin : (m 336 1 ≤ m 336 8 ∨ ¬ m 337 (m 336 8) = 32) → wp_X12_see_38 S K 336 m := by
        intro hn
        refine u_X12_see_38 ?_
        refine g_get 8 (0) (400) rfl hS.k336 hm.f_336_8 (fun v ev bv cv => ?_)
        refine g_get 1 (0) (400) rfl hS.k336 hm.f_336_1 (fun t et bt ct => ?_)
        refine g_if (fun w => ?_) (fun w => ?_)
        · refine g_C ?_
          exact hk (-1) m hm F (by decide) (by decide) a (Or.inl rfl) b
        · refine g_getr 0 337 rfl hS.k336 hm.f_336_0 (by decide) ?_
          refine g_get 8 (0) (400) rfl hS.k336 hm.f_336_8 (fun v2 ev2 bv2 cv2 => ?_)
          refine g_ld (-128) (127) hS.k337 hS.l337 (by omega) (by omega) (hm.a_337 (by omega) (by omega)) (fun x ex bx cx => ?_)
          refine g_C ?_
          refine g_iAndR (by omega) (by omega) (fun y dy y1 y2 => ?_)
          exact hk y m hm F (by omega) (by omega) a (Or.inr ⟨by omega, by omega⟩) b
      refine u_X12_see_0 ?_
      refine g_get 8 (0) (400) rfl hS.k336 hm.f_336_8 (fun v ev bv cv => ?_)
      refine g_get 1 (0) (400) rfl hS.k336 hm.f_336_1 (fun t et bt ct => ?_)
      refine g_if (fun w => fin (by omega)) (fun w => ?_)
      refine g_getr 0 337 rfl hS.k336 hm.f_336_0 (by decide) ?_
      refine g_get 8 (0) (400) rfl hS.k336 hm.f_336_8 (fun v2 ev2 bv2 cv2 => ?_)
      refine g_ld (-128) (127) hS.k337 hS.l337 (by omega) (by omega) (hm.a_337 (by omega) (by omega)) (fun x ex bx cx => ?_)
      refine g_C ?_
      rw [ev2] at ex
      refine g_if (fun w2 => fin (by omega)) (fun w2 => ?_)
      refine g_get 8 (0) (400) rfl hS.k336 hm.f_336_8 (fun v3 ev3 bv3 cv3 => ?_)
      refine g_C ?_
      refine g_A (by omega) (by omega) ?_
      refine g_put 8 rfl hS.k336 (hm.w_336_8 (by omega) (by omega)) (fun m2 e2 hm2 => ?_)
      have x2 : m2 336 8 = v3 + 1 := (congrFun (congrFun e2 _) _).trans (up_at _ _ _ _)
      refine ih m2 hm2 (fun c p h => (congrFun (congrFun e2 _) _).trans ((up_ne (by omega)).trans (F c p h))) (by omega) (Or.inl (fun q => ?_)) (by omega)
      rcases b with b | b
      · exact b q
      · have q2 := q.2
        rw [← b, ← F 337 (m 336 8) (by omega)] at q2
        omega
  have b8 := hm0.f_336_8
  exact ⟨401, L 401 m0 hm0 (fun _ _ _ => rfl) (by omega) (Or.inr rfl) (by omega)⟩
theorem zo_isLetter {X : Mm} {S : Sh} {m : Mm} {K : Int → Mm → Prop} {i : Int} (hS : Shp S) (hm : Inv X S m) (h0 : 0 ≤ i) (k1 : i < m 336 1 → 97 ≤ m 337 i → m 337 i ≤ 122 → K 1 m) (k0 : ¬ (i < m 336 1 ∧ 97 ≤ m 337 i ∧ m 337 i ≤ 122) → K 0 m) : wp_X12_isLetter S m 336 i K := by
  refine u_X12_isLetter ?_
  refine g_get 1 (0) (400) rfl hS.k336 hm.f_336_1 (fun t et bt ct => ?_)
  refine g_if (fun w => ?_) (fun w => ?_)
  · exact g_C ⟨by decide, k0 (by omega)⟩
  · refine g_getr 0 337 rfl hS.k336 hm.f_336_0 (by decide) ?_
    refine g_ldu hS.k337 hS.l337 (by omega) (by omega) (fun x ex => ?_)
    refine g_C ?_
    refine g_if (fun w2 => ?_) (fun w2 => ?_)
    · exact g_C ⟨by decide, k0 (by omega)⟩
    · refine g_getr 0 337 rfl hS.k336 hm.f_336_0 (by decide) ?_
      refine g_ldu hS.k337 hS.l337 (by omega) (by omega) (fun y ey => ?_)
      refine g_C ?_
      refine g_if (fun w3 => ?_) (fun w3 => ?_)
      · exact g_C ⟨by decide, k0 (by omega)⟩
      · exact g_C ⟨by decide, k1 (by omega) (by omega) (by omega)⟩
theorem zo_isDigit {X : Mm} {S : Sh} {m : Mm} {K : Int → Mm → Prop} {i : Int} (hS : Shp S) (hm : Inv X S m) (h0 : 0 ≤ i) (k1 : K 1 m) (k0 : K 0 m) : wp_X12_isDigit S m 336 i K := by
  refine u_X12_isDigit ?_
  refine g_get 1 (0) (400) rfl hS.k336 hm.f_336_1 (fun t et bt ct => ?_)
  refine g_if (fun w => ?_) (fun w => ?_)
  · exact g_C ⟨by decide, k0⟩
  · refine g_getr 0 337 rfl hS.k336 hm.f_336_0 (by decide) ?_
    refine g_ldu hS.k337 hS.l337 (by omega) (by omega) (fun x ex => ?_)
    refine g_C ?_
    refine g_if (fun w2 => ?_) (fun w2 => ?_)
    · exact g_C ⟨by decide, k0⟩
    · refine g_getr 0 337 rfl hS.k336 hm.f_336_0 (by decide) ?_
      refine g_ldu hS.k337 hS.l337 (by omega) (by omega) (fun y ey => ?_)
      refine g_C ?_
      refine g_if (fun w3 => ?_) (fun w3 => ?_)
      · exact g_C ⟨by decide, k0⟩
      · exact g_C ⟨by decide, k1⟩
theorem z_X12_isWord {X : Mm} {S : Sh} {m0 : Mm} {K : Int → Mm → Prop} {u1 : Int} (hS : Shp S) (hm0 : Inv X S m0) (l_u1 : 0 ≤ u1) (h_u1 : u1 ≤ 1152921504606846976) (hk : ∀ (r : Int) (M1 : Mm), Inv X S M1 → (∀ c p : Int, ¬ (c = 336 ∧ 8 ≤ p ∧ p ≤ 8) → M1 c p = m0 c p) → 0 ≤ r → r ≤ 1 → (m0 336 8 ≤ M1 336 8) → (r = 0 ∨ LtC M1) → (¬ NSp m0 ∨ M1 336 8 = m0 336 8) → K r M1) : wp_X12_isWord S m0 336 u1 K := by
  refine u_X12_isWord ?_
  refine ⟨hS.k336, ?_⟩
  refine z_X12_see hS hm0 (fun r m hm F br cr y0 y1 y2 => ?_)
  refine g_C ?_
  refine g_C ?_
  have b8 := hm.f_336_8
  have b1 := hm.f_336_1
  have L : ∀ (n : Nat) (v i : Int), 0 ≤ i → m 336 8 + i ≤ 400 → (i = 0 ∨ LtC m) → 401 - i ≤ (n : Int) → wp_X12_isWord_10 S K n 336 u1 v i m := by
    intro n
    induction n with
    | zero => intro v i _ _ _ h; exfalso; omega
    | succ n ih =>
      intro v i i0 i1 i2 h
      refine u_X12_isWord_10 ?_
      refine g_get 8 (0) (400) rfl hS.k336 hm.f_336_8 (fun a ea ba ca => ?_)
      refine g_A (by omega) (by omega) ?_
      refine ⟨hS.k336, ?_⟩
      refine zo_isLetter hS hm (by omega) (fun c1 c2 c3 => ?_) (fun c1 => ?_)
      · have lt : LtC m := by
          rcases i2 with z | z
          · rw [z, Int.add_zero, ea] at c1 c2 c3
            exact ⟨c1, c2, c3⟩
          · exact z
        have nx : ∀ x : Int, wp_X12_isWord_50 S (fun a0 a1 a2 a3 M => wp_X12_isWord_10 S K n a0 a1 a2 a3 M) K 336 u1 x i m := by
          intro x
          refine u_X12_isWord_50 ?_
          refine g_A (by omega) (by omega) ?_
          exact ih x (i + 1) (by omega) (by omega) (Or.inr lt) (by omega)
        refine g_ifF (by decide) ?_
        refine g_C ?_
        refine g_if (fun w => nx v) (fun w => ?_)
        refine g_C ?_
        refine g_Oe (fun x _ => ?_)
        refine g_getr 0 337 rfl hS.k336 hm.f_336_0 (by decide) ?_
        refine g_get 8 (0) (400) rfl hS.k336 hm.f_336_8 (fun a2 ea2 ba2 ca2 => ?_)
        refine g_A (by omega) (by omega) ?_
        refine g_ldu hS.k337 hS.l337 (by omega) (by omega) (fun y ey => ?_)
        refine g_C ?_
        refine g_Oe (fun z _ => ?_)
        exact nx z
      · have no : K 0 m := hk 0 m hm F (by decide) (by decide) y0 (Or.inl rfl) y2
        refine g_ifT rfl ?_
        refine g_if (fun w => g_C ⟨by decide, no⟩) (fun w => ?_)
        refine g_C ?_
        refine g_if (fun w2 => g_C ⟨by decide, no⟩) (fun w2 => ?_)
        refine g_cmp (fun q => g_ifT (by decide) (g_C ⟨by decide, no⟩)) (fun q => g_ifF (by decide) (g_C ⟨by decide, ?_⟩)) (fun q => g_ifT (by decide) (g_C ⟨by decide, no⟩))
        exact hk 1 m hm F (by decide) (by decide) y0 (Or.inr (i2.resolve_left (by omega))) y2
  exact ⟨401, L 401 0 0 (by omega) (by omega) (Or.inl rfl) (by omega)⟩
theorem z_X12_passWord {X : Mm} {S : Sh} {m0 : Mm} {K : Mm → Prop} (hS : Shp S) (hm0 : Inv X S m0)  (hk : ∀ (M1 : Mm), Inv X S M1 → (∀ c p : Int, ¬ (c = 336 ∧ 8 ≤ p ∧ p ≤ 8) → M1 c p = m0 c p) → (m0 336 8 ≤ M1 336 8) → (¬ LtC m0 ∨ m0 336 8 + 1 ≤ M1 336 8) → K M1) : wp_X12_passWord S m0 336 K := by
  have L : ∀ (n : Nat) (m : Mm), Inv X S m → (∀ c p : Int, ¬ (c = 336 ∧ 8 ≤ p ∧ p ≤ 8) → m c p = m0 c p) → (m 336 8 = m0 336 8 ∨ m0 336 8 + 1 ≤ m 336 8) → 401 - m 336 8 ≤ (n : Int) → wp_X12_passWord_0 S K n 336 m := by
    intro n
    induction n with
    | zero =>
      intro m hm _ _ h
      have b8 := hm.f_336_8
      exfalso; omega
    | succ n ih =>
      intro m hm F a h
      have b8 := hm.f_336_8
      have b1 := hm.f_336_1
      refine u_X12_passWord_0 ?_
      refine g_get 8 (0) (400) rfl hS.k336 hm.f_336_8 (fun v ev bv cv => ?_)
      refine ⟨hS.k336, ?_⟩
      refine zo_isLetter hS hm (by omega) (fun c1 c2 c3 => ?_) (fun c1 => ?_)
      · refine g_ifF (by decide) ?_
        refine g_get 8 (0) (400) rfl hS.k336 hm.f_336_8 (fun v2 ev2 bv2 cv2 => ?_)
        refine g_C ?_
        refine g_A (by omega) (by omega) ?_
        refine g_put 8 rfl hS.k336 (hm.w_336_8 (by omega) (by omega)) (fun m2 e2 hm2 => ?_)
        have x2 : m2 336 8 = v2 + 1 := (congrFun (congrFun e2 _) _).trans (up_at _ _ _ _)
        exact ih m2 hm2 (fun c p h => (congrFun (congrFun e2 _) _).trans ((up_ne (by omega)).trans (F c p h))) (by omega) (by omega)
      · refine g_ifT rfl ?_
        refine hk m hm F (by omega) ?_
        rcases a with a | a
        · refine Or.inl (fun q => c1 ?_)
          have q2 := LtC.same q a (F 336 1 (by omega)) (fun p => F 337 p (by omega))
          rw [ev]
          exact q2
        · exact Or.inr a
  have b8 := hm0.f_336_8
  exact ⟨401, L 401 m0 hm0 (fun _ _ _ => rfl) (Or.inl rfl) (by omega)⟩

theorem z_X12_wordHere {X : Mm} {S : Sh} {m0 : Mm} {K : Int → Mm → Prop} (hS : Shp S) (hm0 : Inv X S m0)  (hk : ∀ (r : Int) (M1 : Mm), Inv X S M1 → (∀ c p : Int, ¬ (c = 336 ∧ 8 ≤ p ∧ p ≤ 8) → M1 c p = m0 c p) → (-1) ≤ r → r ≤ 9 → (m0 336 8 ≤ M1 336 8) → (r = -1 ∨ LtC M1) → K r M1) : wp_X12_wordHere S m0 336 K := by
  refine u_X12_wordHere ?_
  have F0 : ∀ c p : Int, ¬ (c = 336 ∧ 8 ≤ p ∧ p ≤ 8) → m0 c p = m0 c p := fun _ _ _ => rfl
  refine g_C ?_
  refine ⟨hS.k336, ?_⟩
  refine z_X12_isWord hS hm0 (by decide) (by decide) (fun r1 m1 hm1 f1 b1 c1 p1 q1 s1 => ?_)
  have F1 : ∀ c p : Int, ¬ (c = 336 ∧ 8 ≤ p ∧ p ≤ 8) → m1 c p = m0 c p := fun c p h => (f1 c p h).trans (F0 c p h)
  refine g_if (fun w => ?_) (fun w => g_C (hk 0 m1 hm1 F1 (by decide) (by decide) (by omega) (Or.inr (q1.resolve_left w))))
  refine g_C ?_
  refine ⟨hS.k336, ?_⟩
  refine z_X12_isWord hS hm1 (by decide) (by decide) (fun r2 m2 hm2 f2 b2 c2 p2 q2 s2 => ?_)
  have F2 : ∀ c p : Int, ¬ (c = 336 ∧ 8 ≤ p ∧ p ≤ 8) → m2 c p = m0 c p := fun c p h => (f2 c p h).trans (F1 c p h)
  refine g_if (fun w => ?_) (fun w => g_C (hk 1 m2 hm2 F2 (by decide) (by decide) (by omega) (Or.inr (q2.resolve_left w))))
  refine g_C ?_
  refine ⟨hS.k336, ?_⟩
  refine z_X12_isWord hS hm2 (by decide) (by decide) (fun r3 m3 hm3 f3 b3 c3 p3 q3 s3 => ?_)
  have F3 : ∀ c p : Int, ¬ (c = 336 ∧ 8 ≤ p ∧ p ≤ 8) → m3 c p = m0 c p := fun c p h => (f3 c p h).trans (F2 c p h)
  refine g_if (fun w => ?_) (fun w => g_C (hk 2 m3 hm3 F3 (by decide) (by decide) (by omega) (Or.inr (q3.resolve_left w))))
  refine g_C ?_
  refine ⟨hS.k336, ?_⟩
  refine z_X12_isWord hS hm3 (by decide) (by decide) (fun r4 m4 hm4 f4 b4 c4 p4 q4 s4 => ?_)
  have F4 : ∀ c p : Int, ¬ (c = 336 ∧ 8 ≤ p ∧ p ≤ 8) → m4 c p = m0 c p := fun c p h => (f4 c p h).trans (F3 c p h)
  refine g_if (fun w => ?_) (fun w => g_C (hk 3 m4 hm4 F4 (by decide) (by decide) (by omega) (Or.inr (q4.resolve_left w))))
  refine g_C ?_
  refine ⟨hS.k336, ?_⟩
  refine z_X12_isWord hS hm4 (by decide) (by decide) (fun r5 m5 hm5 f5 b5 c5 p5 q5 s5 => ?_)
  have F5 : ∀ c p : Int, ¬ (c = 336 ∧ 8 ≤ p ∧ p ≤ 8) → m5 c p = m0 c p := fun c p h => (f5 c p h).trans (F4 c p h)
  refine g_if (fun w => ?_) (fun w => g_C (hk 4 m5 hm5 F5 (by decide) (by decide) (by omega) (Or.inr (q5.resolve_left w))))
  refine g_C ?_
  refine ⟨hS.k336, ?_⟩
  refine z_X12_isWord hS hm5 (by decide) (by decide) (fun r6 m6 hm6 f6 b6 c6 p6 q6 s6 => ?_)
  have F6 : ∀ c p : Int, ¬ (c = 336 ∧ 8 ≤ p ∧ p ≤ 8) → m6 c p = m0 c p := fun c p h => (f6 c p h).trans (F5 c p h)
  refine g_if (fun w => ?_) (fun w => g_C (hk 5 m6 hm6 F6 (by decide) (by decide) (by omega) (Or.inr (q6.resolve_left w))))
  refine g_C ?_
  refine ⟨hS.k336, ?_⟩
  refine z_X12_isWord hS hm6 (by decide) (by decide) (fun r7 m7 hm7 f7 b7 c7 p7 q7 s7 => ?_)
  have F7 : ∀ c p : Int, ¬ (c = 336 ∧ 8 ≤ p ∧ p ≤ 8) → m7 c p = m0 c p := fun c p h => (f7 c p h).trans (F6 c p h)
  refine g_if (fun w => ?_) (fun w => g_C (hk 6 m7 hm7 F7 (by decide) (by decide) (by omega) (Or.inr (q7.resolve_left w))))
  refine g_C ?_
  refine ⟨hS.k336, ?_⟩
  refine z_X12_isWord hS hm7 (by decide) (by decide) (fun r8 m8 hm8 f8 b8 c8 p8 q8 s8 => ?_)
  have F8 : ∀ c p : Int, ¬ (c = 336 ∧ 8 ≤ p ∧ p ≤ 8) → m8 c p = m0 c p := fun c p h => (f8 c p h).trans (F7 c p h)
  refine g_if (fun w => ?_) (fun w => g_C (hk 7 m8 hm8 F8 (by decide) (by decide) (by omega) (Or.inr (q8.resolve_left w))))
  refine g_C ?_
  refine ⟨hS.k336, ?_⟩
  refine z_X12_isWord hS hm8 (by decide) (by decide) (fun r9 m9 hm9 f9 b9 c9 p9 q9 s9 => ?_)
  have F9 : ∀ c p : Int, ¬ (c = 336 ∧ 8 ≤ p ∧ p ≤ 8) → m9 c p = m0 c p := fun c p h => (f9 c p h).trans (F8 c p h)
  refine g_if (fun w => ?_) (fun w => g_C (hk 8 m9 hm9 F9 (by decide) (by decide) (by omega) (Or.inr (q9.resolve_left w))))
  refine g_C ?_
  refine ⟨hS.k336, ?_⟩
  refine z_X12_isWord hS hm9 (by decide) (by decide) (fun r10 m10 hm10 f10 b10 c10 p10 q10 s10 => ?_)
  have F10 : ∀ c p : Int, ¬ (c = 336 ∧ 8 ≤ p ∧ p ≤ 8) → m10 c p = m0 c p := fun c p h => (f10 c p h).trans (F9 c p h)
  refine g_if (fun w => g_C (hk (-1) m10 hm10 F10 (by decide) (by decide) (by omega) (Or.inl rfl))) (fun w => g_C (hk 9 m10 hm10 F10 (by decide) (by decide) (by omega) (Or.inr (q10.resolve_left w))))
theorem z_X12_isDairyWord {X : Mm} {S : Sh} {m0 : Mm} {K : Int → Mm → Prop} (hS : Shp S) (hm0 : Inv X S m0)  (hk : ∀ (r : Int) (M1 : Mm), Inv X S M1 → (∀ c p : Int, ¬ (c = 336 ∧ 8 ≤ p ∧ p ≤ 8) → M1 c p = m0 c p) → 0 ≤ r → r ≤ 1 → (m0 336 8 ≤ M1 336 8) → K r M1) : wp_X12_isDairyWord S m0 336 K := by
  have Fm0 : ∀ c p : Int, ¬ (c = 336 ∧ 8 ≤ p ∧ p ≤ 8) → m0 c p = m0 c p := fun c p _ => rfl
  refine u_X12_isDairyWord ?_
  refine g_C ?_
  refine ⟨hS.k336, ?_⟩
  refine z_X12_isWord hS hm0 (by omega) (by omega) (fun v1 m2 hm2 fm2 bv1 cv1 yv1_0 yv1_1 yv1_2 => ?_)
  have zb3 := hm2.f_336_8
  have zb4 := hm2.f_336_1
  have Fm2 : ∀ c p : Int, ¬ (c = 336 ∧ 8 ≤ p ∧ p ≤ 8) → m2 c p = m0 c p := fun c p h => (fm2 c p (by omega)).trans (Fm0 c p h)
  refine g_if (fun w5 => ?_) (fun w5 => ?_)
  · refine u_X12_isDairyWord_60 ?_
    refine g_C ?_
    refine ⟨by omega, ?_⟩
    have zb6 := hm2.f_336_8
    have zb8 := hm2.f_336_1
    have q9 : m2 336 1 = (m0 336 1) := (Eq.refl (m2 336 1)).trans ((fm2 _ _ (by omega)).trans (Eq.refl (m0 336 1)).symm)
    exact hk 1 m2 hm2 Fm2 (by omega) (by omega) (by omega)
  · refine g_C ?_
    refine ⟨hS.k336, ?_⟩
    refine z_X12_isWord hS hm2 (by omega) (by omega) (fun v10 m11 hm11 fm11 bv10 cv10 yv10_0 yv10_1 yv10_2 => ?_)
    have zb12 := hm11.f_336_8
    have zb13 := hm11.f_336_1
    have Fm11 : ∀ c p : Int, ¬ (c = 336 ∧ 8 ≤ p ∧ p ≤ 8) → m11 c p = m0 c p := fun c p h => (fm11 c p (by omega)).trans (Fm2 c p h)
    refine g_if (fun w14 => ?_) (fun w14 => ?_)
    · refine u_X12_isDairyWord_60 ?_
      refine g_C ?_
      refine ⟨by omega, ?_⟩
      have zb15 := hm11.f_336_8
      have zb17 := hm11.f_336_1
      have q18 : m11 336 1 = (m0 336 1) := (Eq.refl (m11 336 1)).trans ((fm11 _ _ (by omega)).trans ((fm2 _ _ (by omega)).trans (Eq.refl (m0 336 1)).symm))
      exact hk 1 m11 hm11 Fm11 (by omega) (by omega) (by omega)
    · refine g_C ?_
      refine ⟨hS.k336, ?_⟩
      refine z_X12_isWord hS hm11 (by omega) (by omega) (fun v19 m20 hm20 fm20 bv19 cv19 yv19_0 yv19_1 yv19_2 => ?_)
      have zb21 := hm20.f_336_8
      have zb22 := hm20.f_336_1
      have Fm20 : ∀ c p : Int, ¬ (c = 336 ∧ 8 ≤ p ∧ p ≤ 8) → m20 c p = m0 c p := fun c p h => (fm20 c p (by omega)).trans (Fm11 c p h)
      refine g_if (fun w23 => ?_) (fun w23 => ?_)
      · refine u_X12_isDairyWord_60 ?_
        refine g_C ?_
        refine ⟨by omega, ?_⟩
        have zb24 := hm20.f_336_8
        have zb26 := hm20.f_336_1
        have q27 : m20 336 1 = (m0 336 1) := (Eq.refl (m20 336 1)).trans ((fm20 _ _ (by omega)).trans ((fm11 _ _ (by omega)).trans ((fm2 _ _ (by omega)).trans (Eq.refl (m0 336 1)).symm)))
        exact hk 1 m20 hm20 Fm20 (by omega) (by omega) (by omega)
      · refine g_C ?_
        refine ⟨hS.k336, ?_⟩
        refine z_X12_isWord hS hm20 (by omega) (by omega) (fun v28 m29 hm29 fm29 bv28 cv28 yv28_0 yv28_1 yv28_2 => ?_)
        have zb30 := hm29.f_336_8
        have zb31 := hm29.f_336_1
        have Fm29 : ∀ c p : Int, ¬ (c = 336 ∧ 8 ≤ p ∧ p ≤ 8) → m29 c p = m0 c p := fun c p h => (fm29 c p (by omega)).trans (Fm20 c p h)
        refine g_if (fun w32 => ?_) (fun w32 => ?_)
        · refine u_X12_isDairyWord_60 ?_
          refine g_C ?_
          refine ⟨by omega, ?_⟩
          have zb33 := hm29.f_336_8
          have zb35 := hm29.f_336_1
          have q36 : m29 336 1 = (m0 336 1) := (Eq.refl (m29 336 1)).trans ((fm29 _ _ (by omega)).trans ((fm20 _ _ (by omega)).trans ((fm11 _ _ (by omega)).trans ((fm2 _ _ (by omega)).trans (Eq.refl (m0 336 1)).symm))))
          exact hk 1 m29 hm29 Fm29 (by omega) (by omega) (by omega)
        · refine g_C ?_
          refine ⟨hS.k336, ?_⟩
          refine z_X12_isWord hS hm29 (by omega) (by omega) (fun v37 m38 hm38 fm38 bv37 cv37 yv37_0 yv37_1 yv37_2 => ?_)
          have zb39 := hm38.f_336_8
          have zb40 := hm38.f_336_1
          have Fm38 : ∀ c p : Int, ¬ (c = 336 ∧ 8 ≤ p ∧ p ≤ 8) → m38 c p = m0 c p := fun c p h => (fm38 c p (by omega)).trans (Fm29 c p h)
          refine g_if (fun w41 => ?_) (fun w41 => ?_)
          · refine u_X12_isDairyWord_60 ?_
            refine g_C ?_
            refine ⟨by omega, ?_⟩
            have zb42 := hm38.f_336_8
            have zb44 := hm38.f_336_1
            have q45 : m38 336 1 = (m0 336 1) := (Eq.refl (m38 336 1)).trans ((fm38 _ _ (by omega)).trans ((fm29 _ _ (by omega)).trans ((fm20 _ _ (by omega)).trans ((fm11 _ _ (by omega)).trans ((fm2 _ _ (by omega)).trans (Eq.refl (m0 336 1)).symm)))))
            exact hk 1 m38 hm38 Fm38 (by omega) (by omega) (by omega)
          · refine g_C ?_
            refine ⟨hS.k336, ?_⟩
            refine z_X12_isWord hS hm38 (by omega) (by omega) (fun v46 m47 hm47 fm47 bv46 cv46 yv46_0 yv46_1 yv46_2 => ?_)
            have zb48 := hm47.f_336_8
            have zb49 := hm47.f_336_1
            have Fm47 : ∀ c p : Int, ¬ (c = 336 ∧ 8 ≤ p ∧ p ≤ 8) → m47 c p = m0 c p := fun c p h => (fm47 c p (by omega)).trans (Fm38 c p h)
            refine g_if (fun w50 => ?_) (fun w50 => ?_)
            · refine g_C ?_
              refine ⟨by omega, ?_⟩
              have zb51 := hm47.f_336_8
              have zb53 := hm47.f_336_1
              have q54 : m47 336 1 = (m0 336 1) := (Eq.refl (m47 336 1)).trans ((fm47 _ _ (by omega)).trans ((fm38 _ _ (by omega)).trans ((fm29 _ _ (by omega)).trans ((fm20 _ _ (by omega)).trans ((fm11 _ _ (by omega)).trans ((fm2 _ _ (by omega)).trans (Eq.refl (m0 336 1)).symm))))))
              exact hk 0 m47 hm47 Fm47 (by omega) (by omega) (by omega)
            · refine u_X12_isDairyWord_60 ?_
              refine g_C ?_
              refine ⟨by omega, ?_⟩
              have zb55 := hm47.f_336_8
              have zb57 := hm47.f_336_1
              have q58 : m47 336 1 = (m0 336 1) := (Eq.refl (m47 336 1)).trans ((fm47 _ _ (by omega)).trans ((fm38 _ _ (by omega)).trans ((fm29 _ _ (by omega)).trans ((fm20 _ _ (by omega)).trans ((fm11 _ _ (by omega)).trans ((fm2 _ _ (by omega)).trans (Eq.refl (m0 336 1)).symm))))))
              exact hk 1 m47 hm47 Fm47 (by omega) (by omega) (by omega)
theorem z_X12_makes {X : Mm} {S : Sh} {m0 : Mm} {K : Int → Mm → Prop} {u1 : Int} (hS : Shp S) (hm0 : Inv X S m0) (l_u1 : 0 ≤ u1) (h_u1 : u1 ≤ 400) (hk : ∀ (r : Int) (M1 : Mm), Inv X S M1 → (∀ c p : Int, ¬ (c = 336 ∧ 9 ≤ p ∧ p ≤ 9) ∧ ¬ (c = 336 ∧ 12 ≤ p ∧ p ≤ 12) → M1 c p = m0 c p) → 0 ≤ r → r ≤ 1 → (¬ r = 0 ∨ ¬ M1 336 9 = 0) → (r = 0 ∨ M1 336 12 = m0 336 12 + 1) → (r = 0 ∨ M1 336 12 ≤ 60) → K r M1) : wp_X12_makes S m0 336 u1 K := by
  have Fm0 : ∀ c p : Int, ¬ (c = 336 ∧ 9 ≤ p ∧ p ≤ 9) ∧ ¬ (c = 336 ∧ 12 ≤ p ∧ p ≤ 12) → m0 c p = m0 c p := fun c p _ => rfl
  refine u_X12_makes ?_
  refine g_get 12 (0) (60) rfl hS.k336 hm0.f_336_12 (fun v1 ev1 bv1 cv1 => ?_)
  have qv1 : v1 = (m0 336 12) := ev1.trans (Eq.refl (m0 336 12)).symm
  refine g_C ?_
  refine g_if (fun w2 => ?_) (fun w2 => ?_)
  · refine g_get 12 (0) (60) rfl hS.k336 hm0.f_336_12 (fun v3 ev3 bv3 cv3 => ?_)
    have qv3 : v3 = (m0 336 12) := ev3.trans (Eq.refl (m0 336 12)).symm
    refine g_C ?_
    refine g_A (by omega) (by omega) ?_
    refine g_put 12 rfl hS.k336 (hm0.w_336_12 (by omega) (by omega)) (fun m4 em4 hm4 => ?_)
    have Fm4 : ∀ c p : Int, ¬ (c = 336 ∧ 9 ≤ p ∧ p ≤ 9) ∧ ¬ (c = 336 ∧ 12 ≤ p ∧ p ≤ 12) → m4 c p = m0 c p := fun c p h => (congrFun (congrFun em4 _) _).trans ((up_ne (by omega)).trans (Fm0 c p h))
    refine g_C ?_
    refine ⟨by omega, ?_⟩
    have zb5 := hm4.f_336_9
    have q6 : m4 336 9 = (m0 336 9) := (Eq.refl (m4 336 9)).trans ((congrFun (congrFun em4 _) _).trans ((up_ne (by omega)).trans (Eq.refl (m0 336 9)).symm))
    have zb7 := hm4.f_336_12
    have q8 : m4 336 12 = (v3 + 1) := (Eq.refl (m4 336 12)).trans ((congrFun (congrFun em4 _) _).trans (up_ate (by omega)))
    exact hk 1 m4 hm4 Fm4 (by omega) (by omega) (by omega) (by omega) (by omega)
  · refine g_C ?_
    refine ⟨hS.k336, ?_⟩
    refine z_X12_fails hS hm0 (by omega) (by omega) (by omega) (by omega) (fun v9 m10 hm10 fm10 bv9 cv9 yv9_0 => ?_)
    have zb11 := hm10.f_336_9
    have zb12 := hm10.f_336_12
    have Fm10 : ∀ c p : Int, ¬ (c = 336 ∧ 9 ≤ p ∧ p ≤ 9) ∧ ¬ (c = 336 ∧ 12 ≤ p ∧ p ≤ 12) → m10 c p = m0 c p := fun c p h => (fm10 c p (by omega)).trans (Fm0 c p h)
    refine ⟨by omega, ?_⟩
    have zb13 := hm10.f_336_9
    have zb15 := hm10.f_336_12
    have q16 : m10 336 12 = (m0 336 12) := (Eq.refl (m10 336 12)).trans ((fm10 _ _ (by omega)).trans (Eq.refl (m0 336 12)).symm)
    exact hk v9 m10 hm10 Fm10 (by omega) (by omega) (by omega) (by omega) (by omega)
theorem z_X12_numberHere {X : Mm} {S : Sh} {m0 : Mm} {K : Int → Mm → Prop} {u1 u2 : Int} (hS : Shp S) (hm0 : Inv X S m0) (l_u1 : 0 ≤ u1) (h_u1 : u1 ≤ 99) (l_u2 : (-1) ≤ u2) (h_u2 : u2 ≤ 99999) (hk : ∀ (r : Int) (M1 : Mm), Inv X S M1 → (∀ c p : Int, ¬ (c = 336 ∧ 8 ≤ p ∧ p ≤ 10) → M1 c p = m0 c p) → 0 ≤ r → r ≤ 1 → (m0 336 8 ≤ M1 336 8) → (r = 0 ∨ m0 336 8 + 1 ≤ M1 336 8) → (¬ r = 0 ∨ ¬ M1 336 9 = 0) → (r = 0 ∨ (u1 ≤ M1 336 10 ∧ M1 336 10 ≤ u2)) → K r M1) : wp_X12_numberHere S m0 336 u1 u2 K := by
  have Fm0 : ∀ c p : Int, ¬ (c = 336 ∧ 8 ≤ p ∧ p ≤ 10) → m0 c p = m0 c p := fun c p _ => rfl
  refine u_X12_numberHere ?_
  refine ⟨hS.k336, ?_⟩
  refine z_X12_see hS hm0 (fun v1 m2 hm2 fm2 bv1 cv1 yv1_0 yv1_1 yv1_2 => ?_)
  have zb3 := hm2.f_336_8
  have zb4 := hm2.f_336_1
  have zb5 := hm2.f_336_10
  have zb6 := hm2.f_336_9
  have Fm2 : ∀ c p : Int, ¬ (c = 336 ∧ 8 ≤ p ∧ p ≤ 10) → m2 c p = m0 c p := fun c p h => (fm2 c p (by omega)).trans (Fm0 c p h)
  refine g_get 8 (0) (400) rfl hS.k336 hm2.f_336_8 (fun v7 ev7 bv7 cv7 => ?_)
  have qv7 : v7 = (m2 336 8) := ev7.trans (Eq.refl (m2 336 8)).symm
  refine ⟨hS.k336, ?_⟩
  refine u_X12_isDigit ?_
  refine g_get 1 (0) (400) rfl hS.k336 hm2.f_336_1 (fun v8 ev8 bv8 cv8 => ?_)
  have qv8 : v8 = (m0 336 1) := ev8.trans ((fm2 _ _ (by omega)).trans (Eq.refl (m0 336 1)).symm)
  refine g_if (fun w9 => ?_) (fun w9 => ?_)
  · refine g_C ?_
    refine ⟨by omega, ?_⟩
    refine g_ifF (by omega) ?_
    refine g_C ?_
    refine g_get 8 (0) (400) rfl hS.k336 hm2.f_336_8 (fun v10 ev10 bv10 cv10 => ?_)
    have qv10 : v10 = (m2 336 8) := ev10.trans (Eq.refl (m2 336 8)).symm
    refine ⟨hS.k336, ?_⟩
    refine z_X12_fails hS hm2 (by omega) (by omega) (by omega) (by omega) (fun v11 m12 hm12 fm12 bv11 cv11 yv11_0 => ?_)
    have zb13 := hm12.f_336_8
    have zb14 := hm12.f_336_1
    have zb15 := hm12.f_336_10
    have zb16 := hm12.f_336_9
    have Fm12 : ∀ c p : Int, ¬ (c = 336 ∧ 8 ≤ p ∧ p ≤ 10) → m12 c p = m0 c p := fun c p h => (fm12 c p (by omega)).trans (Fm2 c p h)
    refine ⟨by omega, ?_⟩
    have zb17 := hm12.f_336_8
    have q18 : m12 336 8 = (m2 336 8) := (Eq.refl (m12 336 8)).trans ((fm12 _ _ (by omega)).trans (Eq.refl (m2 336 8)).symm)
    have zb19 := hm12.f_336_1
    have q20 : m12 336 1 = (m0 336 1) := (Eq.refl (m12 336 1)).trans ((fm12 _ _ (by omega)).trans ((fm2 _ _ (by omega)).trans (Eq.refl (m0 336 1)).symm))
    have zb21 := hm12.f_336_10
    have q22 : m12 336 10 = (m0 336 10) := (Eq.refl (m12 336 10)).trans ((fm12 _ _ (by omega)).trans ((fm2 _ _ (by omega)).trans (Eq.refl (m0 336 10)).symm))
    have zb23 := hm12.f_336_9
    exact hk v11 m12 hm12 Fm12 (by omega) (by omega) (by first | omega | grind) (by first | omega | grind) (by first | omega | grind) (by first | omega | grind)
  · refine g_getr 0 337 rfl hS.k336 hm2.f_336_0 (by decide) ?_
    refine g_ld (-128) (127) hS.k337 hS.l337 (by omega) (by omega) (hm2.a_337 (by omega) (by omega)) (fun v25 ev25 bv25 cv25 => ?_)
    refine g_C ?_
    refine g_if (fun w26 => ?_) (fun w26 => ?_)
    · refine g_C ?_
      refine ⟨by omega, ?_⟩
      refine g_ifF (by omega) ?_
      refine g_C ?_
      refine g_get 8 (0) (400) rfl hS.k336 hm2.f_336_8 (fun v27 ev27 bv27 cv27 => ?_)
      have qv27 : v27 = (m2 336 8) := ev27.trans (Eq.refl (m2 336 8)).symm
      refine ⟨hS.k336, ?_⟩
      refine z_X12_fails hS hm2 (by omega) (by omega) (by omega) (by omega) (fun v28 m29 hm29 fm29 bv28 cv28 yv28_0 => ?_)
      have zb30 := hm29.f_336_8
      have zb31 := hm29.f_336_1
      have zb32 := hm29.f_336_10
      have zb33 := hm29.f_336_9
      have Fm29 : ∀ c p : Int, ¬ (c = 336 ∧ 8 ≤ p ∧ p ≤ 10) → m29 c p = m0 c p := fun c p h => (fm29 c p (by omega)).trans (Fm2 c p h)
      refine ⟨by omega, ?_⟩
      have zb34 := hm29.f_336_8
      have q35 : m29 336 8 = (m2 336 8) := (Eq.refl (m29 336 8)).trans ((fm29 _ _ (by omega)).trans (Eq.refl (m2 336 8)).symm)
      have zb36 := hm29.f_336_1
      have q37 : m29 336 1 = (m0 336 1) := (Eq.refl (m29 336 1)).trans ((fm29 _ _ (by omega)).trans ((fm2 _ _ (by omega)).trans (Eq.refl (m0 336 1)).symm))
      have zb38 := hm29.f_336_10
      have q39 : m29 336 10 = (m0 336 10) := (Eq.refl (m29 336 10)).trans ((fm29 _ _ (by omega)).trans ((fm2 _ _ (by omega)).trans (Eq.refl (m0 336 10)).symm))
      have zb40 := hm29.f_336_9
      exact hk v28 m29 hm29 Fm29 (by omega) (by omega) (by first | omega | grind) (by first | omega | grind) (by first | omega | grind) (by first | omega | grind)
    · refine g_getr 0 337 rfl hS.k336 hm2.f_336_0 (by decide) ?_
      refine g_ld (-128) (127) hS.k337 hS.l337 (by omega) (by omega) (hm2.a_337 (by omega) (by omega)) (fun v42 ev42 bv42 cv42 => ?_)
      have qv42 : v42 = v25 := ev42.trans ev25.symm
      refine g_C ?_
      refine g_if (fun w43 => ?_) (fun w43 => ?_)
      · refine g_C ?_
        refine ⟨by omega, ?_⟩
        refine g_ifF (by omega) ?_
        refine g_C ?_
        refine g_get 8 (0) (400) rfl hS.k336 hm2.f_336_8 (fun v44 ev44 bv44 cv44 => ?_)
        have qv44 : v44 = (m2 336 8) := ev44.trans (Eq.refl (m2 336 8)).symm
        refine ⟨hS.k336, ?_⟩
        refine z_X12_fails hS hm2 (by omega) (by omega) (by omega) (by omega) (fun v45 m46 hm46 fm46 bv45 cv45 yv45_0 => ?_)
        have zb47 := hm46.f_336_8
        have zb48 := hm46.f_336_1
        have zb49 := hm46.f_336_10
        have zb50 := hm46.f_336_9
        have Fm46 : ∀ c p : Int, ¬ (c = 336 ∧ 8 ≤ p ∧ p ≤ 10) → m46 c p = m0 c p := fun c p h => (fm46 c p (by omega)).trans (Fm2 c p h)
        refine ⟨by omega, ?_⟩
        have zb51 := hm46.f_336_8
        have q52 : m46 336 8 = (m2 336 8) := (Eq.refl (m46 336 8)).trans ((fm46 _ _ (by omega)).trans (Eq.refl (m2 336 8)).symm)
        have zb53 := hm46.f_336_1
        have q54 : m46 336 1 = (m0 336 1) := (Eq.refl (m46 336 1)).trans ((fm46 _ _ (by omega)).trans ((fm2 _ _ (by omega)).trans (Eq.refl (m0 336 1)).symm))
        have zb55 := hm46.f_336_10
        have q56 : m46 336 10 = (m0 336 10) := (Eq.refl (m46 336 10)).trans ((fm46 _ _ (by omega)).trans ((fm2 _ _ (by omega)).trans (Eq.refl (m0 336 10)).symm))
        have zb57 := hm46.f_336_9
        exact hk v45 m46 hm46 Fm46 (by omega) (by omega) (by first | omega | grind) (by first | omega | grind) (by first | omega | grind) (by first | omega | grind)
      · refine g_C ?_
        refine ⟨by omega, ?_⟩
        refine g_ifT (by omega) ?_
        refine g_get 8 (0) (400) rfl hS.k336 hm2.f_336_8 (fun v59 ev59 bv59 cv59 => ?_)
        have qv59 : v59 = (m2 336 8) := ev59.trans (Eq.refl (m2 336 8)).symm
        refine g_C ?_
        have L_n_l120 : ∀ (n_l120 : Nat) (u64 : Int) (m65 : Mm), Inv X S m65 → (∀ c p : Int, ¬ (c = 336 ∧ 8 ≤ p ∧ p ≤ 10) → m65 c p = m0 c p) → 0 ≤ u64 → u64 ≤ 99999 → ((m65 336 8 = v59 ∧ u64 = 0) ∨ (m65 336 8 = v59 + 1 ∧ u64 ≤ 9) ∨ (m65 336 8 = v59 + 2 ∧ u64 ≤ 99) ∨ (m65 336 8 = v59 + 3 ∧ u64 ≤ 999) ∨ (m65 336 8 = v59 + 4 ∧ u64 ≤ 9999) ∨ (v59 + 5 ≤ m65 336 8)) → (m0 336 8 ≤ v59) → (v59 ≤ m65 336 8) → (v59 + 1 ≤ m65 336 8 ∨ (m65 336 8 < m65 336 1 ∧ 48 ≤ m65 337 (m65 336 8) ∧ m65 337 (m65 336 8) ≤ 57)) → 401 - m65 336 8 ≤ (n_l120 : Int) → wp_X12_numberHere_34 S K n_l120 336 u1 u2 v59 u64 m65 := by
          intro n_l120
          induction n_l120 with
          | zero => intro u64 m65 hm65 Fm65 bu64 cu64 xn_l120_0 xn_l120_1 xn_l120_2 xn_l120_3 zn_l120; exfalso; have zz336_8 := hm65.f_336_8; have zz336_1 := hm65.f_336_1; have zz336_10 := hm65.f_336_10; have zz336_9 := hm65.f_336_9; omega
          | succ n_l120 ih_n_l120 =>
            intro u64 m65 hm65 Fm65 bu64 cu64 xn_l120_0 xn_l120_1 xn_l120_2 xn_l120_3 zn_l120
            refine u_X12_numberHere_34 ?_
            refine g_get 8 (0) (400) rfl hS.k336 hm65.f_336_8 (fun v121 ev121 bv121 cv121 => ?_)
            refine ⟨hS.k336, ?_⟩
            refine u_X12_isDigit ?_
            refine g_get 1 (0) (400) rfl hS.k336 hm65.f_336_1 (fun v122 ev122 bv122 cv122 => ?_)
            have qv122 : v122 = (m0 336 1) := ev122.trans ((Fm65 _ _ (by omega)).trans (Eq.refl (m0 336 1)).symm)
            refine g_if (fun w123 => ?_) (fun w123 => ?_)
            · refine g_C ?_
              refine ⟨by omega, ?_⟩
              refine g_ifT (by omega) ?_
              refine g_put 10 rfl hS.k336 (hm65.w_336_10 (by omega) (by omega)) (fun m124 em124 hm124 => ?_)
              have Fm124 : ∀ c p : Int, ¬ (c = 336 ∧ 8 ≤ p ∧ p ≤ 10) → m124 c p = m0 c p := fun c p h => (congrFun (congrFun em124 _) _).trans ((up_ne (by omega)).trans (Fm65 c p h))
              refine g_get 8 (0) (400) rfl hS.k336 hm124.f_336_8 (fun v125 ev125 bv125 cv125 => ?_)
              have qv125 : v125 = v121 := ev125.trans ((congrFun (congrFun em124 _) _).trans ((up_ne (by omega)).trans ev121.symm))
              refine g_S (by omega) (by omega) ?_
              refine g_C ?_
              refine g_if (fun w126 => ?_) (fun w126 => ?_)
              · refine u_X12_numberHere_117 ?_
                refine g_C ?_
                refine ⟨hS.k336, ?_⟩
                refine z_X12_fails hS hm124 (by omega) (by omega) (by omega) (by omega) (fun v127 m128 hm128 fm128 bv127 cv127 yv127_0 => ?_)
                have zb129 := hm128.f_336_8
                have zb130 := hm128.f_336_1
                have zb131 := hm128.f_336_10
                have zb132 := hm128.f_336_9
                have Fm128 : ∀ c p : Int, ¬ (c = 336 ∧ 8 ≤ p ∧ p ≤ 10) → m128 c p = m0 c p := fun c p h => (fm128 c p (by omega)).trans (Fm124 c p h)
                refine g_ifT (by omega) ?_
                refine g_C ?_
                refine ⟨by omega, ?_⟩
                have zb133 := hm128.f_336_8
                have q134 : m128 336 8 = v121 := (Eq.refl (m128 336 8)).trans ((fm128 _ _ (by omega)).trans ((congrFun (congrFun em124 _) _).trans ((up_ne (by omega)).trans ev121.symm)))
                have zb135 := hm128.f_336_1
                have q136 : m128 336 1 = (m0 336 1) := (Eq.refl (m128 336 1)).trans ((fm128 _ _ (by omega)).trans ((congrFun (congrFun em124 _) _).trans ((up_ne (by omega)).trans ((Fm65 _ _ (by omega)).trans (Eq.refl (m0 336 1)).symm))))
                have zb137 := hm128.f_336_10
                have q138 : m128 336 10 = u64 := (Eq.refl (m128 336 10)).trans ((fm128 _ _ (by omega)).trans ((congrFun (congrFun em124 _) _).trans (up_ate (by omega))))
                have zb139 := hm128.f_336_9
                exact hk 0 m128 hm128 Fm128 (by omega) (by omega) (by first | omega | grind) (by first | omega | grind) (by first | omega | grind) (by first | omega | grind)
              · refine g_C ?_
                refine g_C ?_
                refine g_C ?_
                refine z_in (fun aw141 bw141 => ?_) (fun cw141 => ?_)
                · refine g_ifT (by omega) ?_
                  refine u_X12_numberHere_126 ?_
                  refine g_C ?_
                  refine ⟨by omega, ?_⟩
                  have zb142 := hm124.f_336_8
                  have q143 : m124 336 8 = v121 := (Eq.refl (m124 336 8)).trans ((congrFun (congrFun em124 _) _).trans ((up_ne (by omega)).trans ev121.symm))
                  have zb144 := hm124.f_336_1
                  have q145 : m124 336 1 = (m0 336 1) := (Eq.refl (m124 336 1)).trans ((congrFun (congrFun em124 _) _).trans ((up_ne (by omega)).trans ((Fm65 _ _ (by omega)).trans (Eq.refl (m0 336 1)).symm)))
                  have zb146 := hm124.f_336_10
                  have q147 : m124 336 10 = u64 := (Eq.refl (m124 336 10)).trans ((congrFun (congrFun em124 _) _).trans (up_ate (by omega)))
                  have zb148 := hm124.f_336_9
                  exact hk 1 m124 hm124 Fm124 (by omega) (by omega) (by first | omega | grind) (by first | omega | grind) (by first | omega | grind) (by first | omega | grind)
                · refine g_ifF (by omega) ?_
                  refine u_X12_numberHere_117 ?_
                  refine g_C ?_
                  refine ⟨hS.k336, ?_⟩
                  refine z_X12_fails hS hm124 (by omega) (by omega) (by omega) (by omega) (fun v149 m150 hm150 fm150 bv149 cv149 yv149_0 => ?_)
                  have zb151 := hm150.f_336_8
                  have zb152 := hm150.f_336_1
                  have zb153 := hm150.f_336_10
                  have zb154 := hm150.f_336_9
                  have Fm150 : ∀ c p : Int, ¬ (c = 336 ∧ 8 ≤ p ∧ p ≤ 10) → m150 c p = m0 c p := fun c p h => (fm150 c p (by omega)).trans (Fm124 c p h)
                  refine g_ifT (by omega) ?_
                  refine g_C ?_
                  refine ⟨by omega, ?_⟩
                  have zb155 := hm150.f_336_8
                  have q156 : m150 336 8 = v121 := (Eq.refl (m150 336 8)).trans ((fm150 _ _ (by omega)).trans ((congrFun (congrFun em124 _) _).trans ((up_ne (by omega)).trans ev121.symm)))
                  have zb157 := hm150.f_336_1
                  have q158 : m150 336 1 = (m0 336 1) := (Eq.refl (m150 336 1)).trans ((fm150 _ _ (by omega)).trans ((congrFun (congrFun em124 _) _).trans ((up_ne (by omega)).trans ((Fm65 _ _ (by omega)).trans (Eq.refl (m0 336 1)).symm))))
                  have zb159 := hm150.f_336_10
                  have q160 : m150 336 10 = u64 := (Eq.refl (m150 336 10)).trans ((fm150 _ _ (by omega)).trans ((congrFun (congrFun em124 _) _).trans (up_ate (by omega))))
                  have zb161 := hm150.f_336_9
                  exact hk 0 m150 hm150 Fm150 (by omega) (by omega) (by first | omega | grind) (by first | omega | grind) (by first | omega | grind) (by first | omega | grind)
            · refine g_getr 0 337 rfl hS.k336 hm65.f_336_0 (by decide) ?_
              refine g_ld (-128) (127) hS.k337 hS.l337 (by omega) (by omega) (hm65.a_337 (by omega) (by omega)) (fun v163 ev163 bv163 cv163 => ?_)
              refine g_C ?_
              refine g_if (fun w164 => ?_) (fun w164 => ?_)
              · refine g_C ?_
                refine ⟨by omega, ?_⟩
                refine g_ifT (by omega) ?_
                refine g_put 10 rfl hS.k336 (hm65.w_336_10 (by omega) (by omega)) (fun m165 em165 hm165 => ?_)
                have Fm165 : ∀ c p : Int, ¬ (c = 336 ∧ 8 ≤ p ∧ p ≤ 10) → m165 c p = m0 c p := fun c p h => (congrFun (congrFun em165 _) _).trans ((up_ne (by omega)).trans (Fm65 c p h))
                refine g_get 8 (0) (400) rfl hS.k336 hm165.f_336_8 (fun v166 ev166 bv166 cv166 => ?_)
                have qv166 : v166 = v121 := ev166.trans ((congrFun (congrFun em165 _) _).trans ((up_ne (by omega)).trans ev121.symm))
                refine g_S (by omega) (by omega) ?_
                refine g_C ?_
                refine g_if (fun w167 => ?_) (fun w167 => ?_)
                · refine u_X12_numberHere_117 ?_
                  refine g_C ?_
                  refine ⟨hS.k336, ?_⟩
                  refine z_X12_fails hS hm165 (by omega) (by omega) (by omega) (by omega) (fun v168 m169 hm169 fm169 bv168 cv168 yv168_0 => ?_)
                  have zb170 := hm169.f_336_8
                  have zb171 := hm169.f_336_1
                  have zb172 := hm169.f_336_10
                  have zb173 := hm169.f_336_9
                  have Fm169 : ∀ c p : Int, ¬ (c = 336 ∧ 8 ≤ p ∧ p ≤ 10) → m169 c p = m0 c p := fun c p h => (fm169 c p (by omega)).trans (Fm165 c p h)
                  refine g_ifT (by omega) ?_
                  refine g_C ?_
                  refine ⟨by omega, ?_⟩
                  have zb174 := hm169.f_336_8
                  have q175 : m169 336 8 = v121 := (Eq.refl (m169 336 8)).trans ((fm169 _ _ (by omega)).trans ((congrFun (congrFun em165 _) _).trans ((up_ne (by omega)).trans ev121.symm)))
                  have zb176 := hm169.f_336_1
                  have q177 : m169 336 1 = (m0 336 1) := (Eq.refl (m169 336 1)).trans ((fm169 _ _ (by omega)).trans ((congrFun (congrFun em165 _) _).trans ((up_ne (by omega)).trans ((Fm65 _ _ (by omega)).trans (Eq.refl (m0 336 1)).symm))))
                  have zb178 := hm169.f_336_10
                  have q179 : m169 336 10 = u64 := (Eq.refl (m169 336 10)).trans ((fm169 _ _ (by omega)).trans ((congrFun (congrFun em165 _) _).trans (up_ate (by omega))))
                  have zb180 := hm169.f_336_9
                  exact hk 0 m169 hm169 Fm169 (by omega) (by omega) (by first | omega | grind) (by first | omega | grind) (by first | omega | grind) (by first | omega | grind)
                · refine g_C ?_
                  refine g_C ?_
                  refine g_C ?_
                  refine z_in (fun aw182 bw182 => ?_) (fun cw182 => ?_)
                  · refine g_ifT (by omega) ?_
                    refine u_X12_numberHere_126 ?_
                    refine g_C ?_
                    refine ⟨by omega, ?_⟩
                    have zb183 := hm165.f_336_8
                    have q184 : m165 336 8 = v121 := (Eq.refl (m165 336 8)).trans ((congrFun (congrFun em165 _) _).trans ((up_ne (by omega)).trans ev121.symm))
                    have zb185 := hm165.f_336_1
                    have q186 : m165 336 1 = (m0 336 1) := (Eq.refl (m165 336 1)).trans ((congrFun (congrFun em165 _) _).trans ((up_ne (by omega)).trans ((Fm65 _ _ (by omega)).trans (Eq.refl (m0 336 1)).symm)))
                    have zb187 := hm165.f_336_10
                    have q188 : m165 336 10 = u64 := (Eq.refl (m165 336 10)).trans ((congrFun (congrFun em165 _) _).trans (up_ate (by omega)))
                    have zb189 := hm165.f_336_9
                    exact hk 1 m165 hm165 Fm165 (by omega) (by omega) (by first | omega | grind) (by first | omega | grind) (by first | omega | grind) (by first | omega | grind)
                  · refine g_ifF (by omega) ?_
                    refine u_X12_numberHere_117 ?_
                    refine g_C ?_
                    refine ⟨hS.k336, ?_⟩
                    refine z_X12_fails hS hm165 (by omega) (by omega) (by omega) (by omega) (fun v190 m191 hm191 fm191 bv190 cv190 yv190_0 => ?_)
                    have zb192 := hm191.f_336_8
                    have zb193 := hm191.f_336_1
                    have zb194 := hm191.f_336_10
                    have zb195 := hm191.f_336_9
                    have Fm191 : ∀ c p : Int, ¬ (c = 336 ∧ 8 ≤ p ∧ p ≤ 10) → m191 c p = m0 c p := fun c p h => (fm191 c p (by omega)).trans (Fm165 c p h)
                    refine g_ifT (by omega) ?_
                    refine g_C ?_
                    refine ⟨by omega, ?_⟩
                    have zb196 := hm191.f_336_8
                    have q197 : m191 336 8 = v121 := (Eq.refl (m191 336 8)).trans ((fm191 _ _ (by omega)).trans ((congrFun (congrFun em165 _) _).trans ((up_ne (by omega)).trans ev121.symm)))
                    have zb198 := hm191.f_336_1
                    have q199 : m191 336 1 = (m0 336 1) := (Eq.refl (m191 336 1)).trans ((fm191 _ _ (by omega)).trans ((congrFun (congrFun em165 _) _).trans ((up_ne (by omega)).trans ((Fm65 _ _ (by omega)).trans (Eq.refl (m0 336 1)).symm))))
                    have zb200 := hm191.f_336_10
                    have q201 : m191 336 10 = u64 := (Eq.refl (m191 336 10)).trans ((fm191 _ _ (by omega)).trans ((congrFun (congrFun em165 _) _).trans (up_ate (by omega))))
                    have zb202 := hm191.f_336_9
                    exact hk 0 m191 hm191 Fm191 (by omega) (by omega) (by first | omega | grind) (by first | omega | grind) (by first | omega | grind) (by first | omega | grind)
              · refine g_getr 0 337 rfl hS.k336 hm65.f_336_0 (by decide) ?_
                refine g_ld (-128) (127) hS.k337 hS.l337 (by omega) (by omega) (hm65.a_337 (by omega) (by omega)) (fun v204 ev204 bv204 cv204 => ?_)
                have qv204 : v204 = v163 := ev204.trans ev163.symm
                refine g_C ?_
                refine g_if (fun w205 => ?_) (fun w205 => ?_)
                · refine g_C ?_
                  refine ⟨by omega, ?_⟩
                  refine g_ifT (by omega) ?_
                  refine g_put 10 rfl hS.k336 (hm65.w_336_10 (by omega) (by omega)) (fun m206 em206 hm206 => ?_)
                  have Fm206 : ∀ c p : Int, ¬ (c = 336 ∧ 8 ≤ p ∧ p ≤ 10) → m206 c p = m0 c p := fun c p h => (congrFun (congrFun em206 _) _).trans ((up_ne (by omega)).trans (Fm65 c p h))
                  refine g_get 8 (0) (400) rfl hS.k336 hm206.f_336_8 (fun v207 ev207 bv207 cv207 => ?_)
                  have qv207 : v207 = v121 := ev207.trans ((congrFun (congrFun em206 _) _).trans ((up_ne (by omega)).trans ev121.symm))
                  refine g_S (by omega) (by omega) ?_
                  refine g_C ?_
                  refine g_if (fun w208 => ?_) (fun w208 => ?_)
                  · refine u_X12_numberHere_117 ?_
                    refine g_C ?_
                    refine ⟨hS.k336, ?_⟩
                    refine z_X12_fails hS hm206 (by omega) (by omega) (by omega) (by omega) (fun v209 m210 hm210 fm210 bv209 cv209 yv209_0 => ?_)
                    have zb211 := hm210.f_336_8
                    have zb212 := hm210.f_336_1
                    have zb213 := hm210.f_336_10
                    have zb214 := hm210.f_336_9
                    have Fm210 : ∀ c p : Int, ¬ (c = 336 ∧ 8 ≤ p ∧ p ≤ 10) → m210 c p = m0 c p := fun c p h => (fm210 c p (by omega)).trans (Fm206 c p h)
                    refine g_ifT (by omega) ?_
                    refine g_C ?_
                    refine ⟨by omega, ?_⟩
                    have zb215 := hm210.f_336_8
                    have q216 : m210 336 8 = v121 := (Eq.refl (m210 336 8)).trans ((fm210 _ _ (by omega)).trans ((congrFun (congrFun em206 _) _).trans ((up_ne (by omega)).trans ev121.symm)))
                    have zb217 := hm210.f_336_1
                    have q218 : m210 336 1 = (m0 336 1) := (Eq.refl (m210 336 1)).trans ((fm210 _ _ (by omega)).trans ((congrFun (congrFun em206 _) _).trans ((up_ne (by omega)).trans ((Fm65 _ _ (by omega)).trans (Eq.refl (m0 336 1)).symm))))
                    have zb219 := hm210.f_336_10
                    have q220 : m210 336 10 = u64 := (Eq.refl (m210 336 10)).trans ((fm210 _ _ (by omega)).trans ((congrFun (congrFun em206 _) _).trans (up_ate (by omega))))
                    have zb221 := hm210.f_336_9
                    exact hk 0 m210 hm210 Fm210 (by omega) (by omega) (by first | omega | grind) (by first | omega | grind) (by first | omega | grind) (by first | omega | grind)
                  · refine g_C ?_
                    refine g_C ?_
                    refine g_C ?_
                    refine z_in (fun aw223 bw223 => ?_) (fun cw223 => ?_)
                    · refine g_ifT (by omega) ?_
                      refine u_X12_numberHere_126 ?_
                      refine g_C ?_
                      refine ⟨by omega, ?_⟩
                      have zb224 := hm206.f_336_8
                      have q225 : m206 336 8 = v121 := (Eq.refl (m206 336 8)).trans ((congrFun (congrFun em206 _) _).trans ((up_ne (by omega)).trans ev121.symm))
                      have zb226 := hm206.f_336_1
                      have q227 : m206 336 1 = (m0 336 1) := (Eq.refl (m206 336 1)).trans ((congrFun (congrFun em206 _) _).trans ((up_ne (by omega)).trans ((Fm65 _ _ (by omega)).trans (Eq.refl (m0 336 1)).symm)))
                      have zb228 := hm206.f_336_10
                      have q229 : m206 336 10 = u64 := (Eq.refl (m206 336 10)).trans ((congrFun (congrFun em206 _) _).trans (up_ate (by omega)))
                      have zb230 := hm206.f_336_9
                      exact hk 1 m206 hm206 Fm206 (by omega) (by omega) (by first | omega | grind) (by first | omega | grind) (by first | omega | grind) (by first | omega | grind)
                    · refine g_ifF (by omega) ?_
                      refine u_X12_numberHere_117 ?_
                      refine g_C ?_
                      refine ⟨hS.k336, ?_⟩
                      refine z_X12_fails hS hm206 (by omega) (by omega) (by omega) (by omega) (fun v231 m232 hm232 fm232 bv231 cv231 yv231_0 => ?_)
                      have zb233 := hm232.f_336_8
                      have zb234 := hm232.f_336_1
                      have zb235 := hm232.f_336_10
                      have zb236 := hm232.f_336_9
                      have Fm232 : ∀ c p : Int, ¬ (c = 336 ∧ 8 ≤ p ∧ p ≤ 10) → m232 c p = m0 c p := fun c p h => (fm232 c p (by omega)).trans (Fm206 c p h)
                      refine g_ifT (by omega) ?_
                      refine g_C ?_
                      refine ⟨by omega, ?_⟩
                      have zb237 := hm232.f_336_8
                      have q238 : m232 336 8 = v121 := (Eq.refl (m232 336 8)).trans ((fm232 _ _ (by omega)).trans ((congrFun (congrFun em206 _) _).trans ((up_ne (by omega)).trans ev121.symm)))
                      have zb239 := hm232.f_336_1
                      have q240 : m232 336 1 = (m0 336 1) := (Eq.refl (m232 336 1)).trans ((fm232 _ _ (by omega)).trans ((congrFun (congrFun em206 _) _).trans ((up_ne (by omega)).trans ((Fm65 _ _ (by omega)).trans (Eq.refl (m0 336 1)).symm))))
                      have zb241 := hm232.f_336_10
                      have q242 : m232 336 10 = u64 := (Eq.refl (m232 336 10)).trans ((fm232 _ _ (by omega)).trans ((congrFun (congrFun em206 _) _).trans (up_ate (by omega))))
                      have zb243 := hm232.f_336_9
                      exact hk 0 m232 hm232 Fm232 (by omega) (by omega) (by first | omega | grind) (by first | omega | grind) (by first | omega | grind) (by first | omega | grind)
                · refine g_C ?_
                  refine ⟨by omega, ?_⟩
                  refine g_ifF (by omega) ?_
                  refine g_get 8 (0) (400) rfl hS.k336 hm65.f_336_8 (fun v245 ev245 bv245 cv245 => ?_)
                  have qv245 : v245 = v121 := ev245.trans ev121.symm
                  refine g_S (by omega) (by omega) ?_
                  refine g_C ?_
                  refine g_if (fun w246 => ?_) (fun w246 => ?_)
                  · refine u_X12_numberHere_75 ?_
                    refine g_get 8 (0) (400) rfl hS.k336 hm65.f_336_8 (fun v247 ev247 bv247 cv247 => ?_)
                    have qv247 : v247 = v121 := ev247.trans ev121.symm
                    refine g_C ?_
                    refine g_A (by omega) (by omega) ?_
                    refine g_put 8 rfl hS.k336 (hm65.w_336_8 (by omega) (by omega)) (fun m248 em248 hm248 => ?_)
                    have Fm248 : ∀ c p : Int, ¬ (c = 336 ∧ 8 ≤ p ∧ p ≤ 10) → m248 c p = m0 c p := fun c p h => (congrFun (congrFun em248 _) _).trans ((up_ne (by omega)).trans (Fm65 c p h))
                    have zb249 := hm248.f_336_8
                    have q250 : m248 336 8 = (v247 + 1) := (Eq.refl (m248 336 8)).trans ((congrFun (congrFun em248 _) _).trans (up_ate (by omega)))
                    have zb251 := hm248.f_336_1
                    have q252 : m248 336 1 = (m0 336 1) := (Eq.refl (m248 336 1)).trans ((congrFun (congrFun em248 _) _).trans ((up_ne (by omega)).trans ((Fm65 _ _ (by omega)).trans (Eq.refl (m0 336 1)).symm)))
                    have zb253 := hm248.f_336_10
                    have zb254 := hm248.f_336_9
                    exact ih_n_l120 u64 m248 hm248 Fm248 (by omega) (by omega) (by first | omega | grind) (by first | omega | grind) (by first | omega | grind) (by first | omega | grind) (by omega)
                  · refine g_C ?_
                    refine g_M (by omega) (by omega) ?_
                    refine g_getr 0 337 rfl hS.k336 hm65.f_336_0 (by decide) ?_
                    refine g_get 8 (0) (400) rfl hS.k336 hm65.f_336_8 (fun v255 ev255 bv255 cv255 => ?_)
                    have qv255 : v255 = v121 := ev255.trans ev121.symm
                    refine g_ld (-128) (127) hS.k337 hS.l337 (by omega) (by omega) (hm65.a_337 (by omega) (by omega)) (fun v256 ev256 bv256 cv256 => ?_)
                    have qv256 : v256 = v163 := ev256.trans ((congrArg (m65 337) (show v255 = v121 by omega)).trans ev163.symm)
                    refine g_A (by omega) (by omega) ?_
                    refine g_C ?_
                    refine g_S (by omega) (by omega) ?_
                    refine u_X12_numberHere_75 ?_
                    refine g_get 8 (0) (400) rfl hS.k336 hm65.f_336_8 (fun v257 ev257 bv257 cv257 => ?_)
                    have qv257 : v257 = v121 := ev257.trans ev121.symm
                    refine g_C ?_
                    refine g_A (by omega) (by omega) ?_
                    refine g_put 8 rfl hS.k336 (hm65.w_336_8 (by omega) (by omega)) (fun m258 em258 hm258 => ?_)
                    have Fm258 : ∀ c p : Int, ¬ (c = 336 ∧ 8 ≤ p ∧ p ≤ 10) → m258 c p = m0 c p := fun c p h => (congrFun (congrFun em258 _) _).trans ((up_ne (by omega)).trans (Fm65 c p h))
                    have zb259 := hm258.f_336_8
                    have q260 : m258 336 8 = (v257 + 1) := (Eq.refl (m258 336 8)).trans ((congrFun (congrFun em258 _) _).trans (up_ate (by omega)))
                    have zb261 := hm258.f_336_1
                    have q262 : m258 336 1 = (m0 336 1) := (Eq.refl (m258 336 1)).trans ((congrFun (congrFun em258 _) _).trans ((up_ne (by omega)).trans ((Fm65 _ _ (by omega)).trans (Eq.refl (m0 336 1)).symm)))
                    have zb263 := hm258.f_336_10
                    have zb264 := hm258.f_336_9
                    exact ih_n_l120 (((10 * u64) + v256) - 48) m258 hm258 Fm258 (by omega) (by omega) (by first | omega | grind) (by first | omega | grind) (by first | omega | grind) (by first | omega | grind) (by omega)
        have zb265 := hm2.f_336_8
        have zb267 := hm2.f_336_1
        have q268 : m2 336 1 = (m0 336 1) := (Eq.refl (m2 336 1)).trans ((fm2 _ _ (by omega)).trans (Eq.refl (m0 336 1)).symm)
        have zb269 := hm2.f_336_10
        have q270 : m2 336 10 = (m0 336 10) := (Eq.refl (m2 336 10)).trans ((fm2 _ _ (by omega)).trans (Eq.refl (m0 336 10)).symm)
        have zb271 := hm2.f_336_9
        have q272 : m2 336 9 = (m0 336 9) := (Eq.refl (m2 336 9)).trans ((fm2 _ _ (by omega)).trans (Eq.refl (m0 336 9)).symm)
        exact ⟨401, L_n_l120 401 0 m2 hm2 Fm2 (by omega) (by omega) (by first | omega | grind) (by first | omega | grind) (by first | omega | grind) (by first | omega | grind) (by omega)⟩
theorem z_X12_takesWord {X : Mm} {S : Sh} {m0 : Mm} {K : Int → Mm → Prop} {u1 : Int} (hS : Shp S) (hm0 : Inv X S m0) (l_u1 : 0 ≤ u1) (h_u1 : u1 ≤ 1152921504606846976) (hk : ∀ (r : Int) (M1 : Mm), Inv X S M1 → (∀ c p : Int, ¬ (c = 336 ∧ 8 ≤ p ∧ p ≤ 8) → M1 c p = m0 c p) → 0 ≤ r → r ≤ 1 → (m0 336 8 ≤ M1 336 8) → (r = 0 ∨ m0 336 8 + 1 ≤ M1 336 8) → K r M1) : wp_X12_takesWord S m0 336 u1 K := by
  have Fm0 : ∀ c p : Int, ¬ (c = 336 ∧ 8 ≤ p ∧ p ≤ 8) → m0 c p = m0 c p := fun c p _ => rfl
  refine u_X12_takesWord ?_
  refine ⟨hS.k336, ?_⟩
  refine z_X12_isWord hS hm0 (by omega) (by omega) (fun v1 m2 hm2 fm2 bv1 cv1 yv1_0 yv1_1 yv1_2 => ?_)
  have zb3 := hm2.f_336_8
  have zb4 := hm2.f_336_1
  have Fm2 : ∀ c p : Int, ¬ (c = 336 ∧ 8 ≤ p ∧ p ≤ 8) → m2 c p = m0 c p := fun c p h => (fm2 c p (by omega)).trans (Fm0 c p h)
  refine g_if (fun w5 => ?_) (fun w5 => ?_)
  · refine ⟨hS.k336, ?_⟩
    refine z_X12_passWord hS hm2 (fun m6 hm6 fm6 ym6_0 ym6_1 => ?_)
    have zb7 := hm6.f_336_8
    have zb8 := hm6.f_336_1
    have Fm6 : ∀ c p : Int, ¬ (c = 336 ∧ 8 ≤ p ∧ p ≤ 8) → m6 c p = m0 c p := fun c p h => (fm6 c p (by omega)).trans (Fm2 c p h)
    refine g_C ?_
    refine ⟨by omega, ?_⟩
    have zb9 := hm6.f_336_8
    have zb11 := hm6.f_336_1
    have q12 : m6 336 1 = (m0 336 1) := (Eq.refl (m6 336 1)).trans ((fm6 _ _ (by omega)).trans ((fm2 _ _ (by omega)).trans (Eq.refl (m0 336 1)).symm))
    exact hk 1 m6 hm6 Fm6 (by omega) (by omega) (by first | omega | grind) (by first | omega | grind)
  · refine g_C ?_
    refine ⟨by omega, ?_⟩
    have zb13 := hm2.f_336_8
    have zb15 := hm2.f_336_1
    have q16 : m2 336 1 = (m0 336 1) := (Eq.refl (m2 336 1)).trans ((fm2 _ _ (by omega)).trans (Eq.refl (m0 336 1)).symm)
    exact hk 0 m2 hm2 Fm2 (by omega) (by omega) (by first | omega | grind) (by first | omega | grind)
