/-! the class's tape, to the letter -/
def TC (X : Mm) (b : Int → Int) (n : Int) : Prop := X 1 1 = n ∧ (0 ≤ n ∧ n ≤ 400) ∧ ∀ p : Int, 0 ≤ p → p < n → X 2 p = b p ∧ -128 ≤ b p ∧ b p ≤ 127
theorem tw_r : ∀ k : Nat, k < 17 → ∀ i : Nat, i < 6 → 0 ≤ tw k i ∧ tw k i ≤ 122 := by decide +kernel
theorem tl_r : ∀ k : Nat, k < 17 → 2 ≤ tl k ∧ tl k ≤ 6 := by decide +kernel
theorem ze_look {X : Mm} {S : Sh} {m0 : Mm} {K : Int → Mm → Prop} {b : Int → Int} {n : Int} (hS : Shp S) (hm0 : Inv X S m0) (ht : TC X b n) (hp : m0 1 2 ≤ n) (hk : ∀ (r q : Int) (M1 : Mm), Inv X S M1 → (∀ c p : Int, ¬ (c = 1 ∧ 2 ≤ p ∧ p ≤ 3) → M1 c p = m0 c p) → Sk b n (m0 1 2) q → M1 1 2 = q → M1 1 3 = q → q ≤ n → ((q < n ∧ r = u8 (b q)) ∨ (n ≤ q ∧ r = -1)) → K r M1) : wp_X7_look S m0 1 K := by
  obtain ⟨t1, t2, t3⟩ := ht
  have L : ∀ (k : Nat) (m : Mm), Inv X S m → (∀ c p : Int, ¬ (c = 1 ∧ 2 ≤ p ∧ p ≤ 3) → m c p = m0 c p) → m0 1 2 ≤ m 1 2 → (∀ j : Int, m0 1 2 ≤ j → j < m 1 2 → j < n ∧ b j = 32) → m 1 2 ≤ n → 401 - m 1 2 ≤ (k : Int) → wp_X7_look_0 S K k 1 m := by
    intro k
    induction k with
    | zero => intro m hm _ _ _ _ h; exfalso; omega
    | succ k ih =>
      intro m hm F a1 a2 a3 h
      have b2 := hm.f_1_2
      have g1 : m 1 1 = n := (hm.g (by decide)).trans t1
      have gb : ∀ p : Int, 0 ≤ p → p < n → m 2 p = b p := fun p p0 p1 => (hm.g (c := 2) (p := p) (by omega)).trans (t3 p p0 p1).1
      have fin : (n ≤ m 1 2 ∨ ¬ b (m 1 2) = 32) → wp_X7_look_38 S K 1 m := by
        intro hn
        refine u_X7_look_38 ?_
        refine g_getu 2 rfl hS.k1 (fun v ev => ?_)
        refine g_put 3 rfl hS.k1 (hm.w_1_3 (by omega) (by omega)) (fun m1 e1 hm1 => ?_)
        have f1 : ∀ c p : Int, ¬ (c = 1 ∧ p = 3) → m1 c p = m c p := fun c p q => (congrFun (congrFun e1 _) _).trans (up_ne q)
        have x1 : m1 1 3 = v := (congrFun (congrFun e1 _) _).trans (up_at _ _ _ _)
        have F1 : ∀ c p : Int, ¬ (c = 1 ∧ 2 ≤ p ∧ p ≤ 3) → m1 c p = m0 c p := fun c p q => (f1 c p (by omega)).trans (F c p q)
        have e2 : m1 1 2 = m 1 2 := f1 1 2 (by omega)
        have sk : Sk b n (m0 1 2) (m 1 2) := ⟨a1, a2, hn⟩
        refine g_getu 2 rfl hS.k1 (fun v2 ev2 => ?_)
        refine g_getu 1 rfl hS.k1 (fun v3 ev3 => ?_)
        rw [f1 1 1 (by omega), g1] at ev3
        refine g_if (fun w => ?_) (fun w => ?_)
        · exact g_C (hk (-1) (m 1 2) m1 hm1 F1 sk e2 (by omega) a3 (Or.inr ⟨by omega, rfl⟩))
        · refine g_getr 0 2 rfl hS.k1 hm1.f_1_0 (by decide) ?_
          refine g_getu 2 rfl hS.k1 (fun v4 ev4 => ?_)
          refine g_ldu hS.k2 hS.l2 (by omega) (by omega) (fun x ex => ?_)
          refine g_C ?_
          refine g_Oe (fun y ey => ?_)
          rw [f1 2 _ (by omega), ev4, e2, gb _ (by omega) (by omega)] at ex
          have tb := t3 (m 1 2) (by omega) (by omega)
          rw [ex, iAnd_u8 tb.2.1 tb.2.2] at ey
          exact hk y (m 1 2) m1 hm1 F1 sk e2 (by omega) a3 (Or.inl ⟨by omega, ey⟩)
      refine u_X7_look_0 ?_
      refine g_getu 2 rfl hS.k1 (fun v ev => ?_)
      refine g_getu 1 rfl hS.k1 (fun v2 ev2 => ?_)
      rw [g1] at ev2
      refine g_if (fun w => fin (by omega)) (fun w => ?_)
      refine g_getr 0 2 rfl hS.k1 hm.f_1_0 (by decide) ?_
      refine g_getu 2 rfl hS.k1 (fun v3 ev3 => ?_)
      refine g_ldu hS.k2 hS.l2 (by omega) (by omega) (fun x ex => ?_)
      rw [ev3, gb _ (by omega) (by omega)] at ex
      refine g_C ?_
      refine g_if (fun w2 => fin (Or.inr (by omega))) (fun w2 => ?_)
      refine g_getu 2 rfl hS.k1 (fun v4 ev4 => ?_)
      refine g_C ?_
      refine g_A (by omega) (by omega) ?_
      refine g_put 2 rfl hS.k1 (hm.w_1_2 (by omega) (by omega)) (fun m1 e1 hm1 => ?_)
      have f1 : ∀ c p : Int, ¬ (c = 1 ∧ p = 2) → m1 c p = m c p := fun c p q => (congrFun (congrFun e1 _) _).trans (up_ne q)
      have x1 : m1 1 2 = v4 + 1 := (congrFun (congrFun e1 _) _).trans (up_at _ _ _ _)
      refine ih m1 hm1 (fun c p q => (f1 c p (by omega)).trans (F c p q)) (by omega) (fun j j0 j1 => ?_) (by omega) (by omega)
      by_cases e : j = m 1 2
      · rw [e]; exact ⟨by omega, by omega⟩
      · exact a2 j j0 (by omega)
  have b2 := hm0.f_1_2
  exact ⟨401, L 401 m0 hm0 (fun _ _ _ => rfl) (by omega) (fun j j0 j1 => absurd j1 (by omega)) hp (by omega)⟩
theorem ze_byteAt {X : Mm} {S : Sh} {m : Mm} {K : Int → Mm → Prop} {b : Int → Int} {n i : Int} (hS : Shp S) (hm : Inv X S m) (ht : TC X b n) (hk : ∀ r : Int, ((0 ≤ i ∧ i < n ∧ r = u8 (b i)) ∨ (¬ (0 ≤ i ∧ i < n) ∧ r = -1)) → K r m) : wp_X7_byteAt S m 1 i K := by
  obtain ⟨t1, t2, t3⟩ := ht
  have g1 : m 1 1 = n := (hm.g (by decide)).trans t1
  refine u_X7_byteAt ?_
  refine g_if (fun w => g_C (hk _ (Or.inr ⟨by omega, rfl⟩))) (fun w => ?_)
  refine g_getu 1 rfl hS.k1 (fun v ev => ?_)
  rw [g1] at ev
  refine g_if (fun w2 => g_C (hk _ (Or.inr ⟨by omega, rfl⟩))) (fun w2 => ?_)
  refine g_C ?_
  refine g_ifF (by omega) ?_
  refine g_getr 0 2 rfl hS.k1 hm.f_1_0 (by decide) ?_
  refine g_ldu hS.k2 hS.l2 (by omega) (by omega) (fun x ex => ?_)
  refine g_C ?_
  refine g_Oe (fun y ey => ?_)
  have tb := t3 i (by omega) (by omega)
  rw [ex, (hm.g (c := 2) (p := i) (by omega)).trans tb.1, iAnd_u8 tb.2.1 tb.2.2] at ey
  exact hk y (Or.inl ⟨by omega, by omega, ey⟩)
theorem ze_takesSign {X : Mm} {S : Sh} {m0 : Mm} {K : Int → Mm → Prop} {b : Int → Int} {n v : Int} (hS : Shp S) (hm0 : Inv X S m0) (ht : TC X b n) (hp : m0 1 2 ≤ n) (v0 : 0 ≤ v) (v1 : v ≤ 127) (h1 : ∀ (q : Int) (M1 : Mm), Inv X S M1 → (∀ c p : Int, ¬ (c = 1 ∧ 2 ≤ p ∧ p ≤ 3) → M1 c p = m0 c p) → Sk b n (m0 1 2) q → M1 1 2 = q + 1 → M1 1 3 = q → q < n → b q = v → K 1 M1) (h0 : ∀ (q : Int) (M1 : Mm), Inv X S M1 → (∀ c p : Int, ¬ (c = 1 ∧ 2 ≤ p ∧ p ≤ 3) → M1 c p = m0 c p) → Sk b n (m0 1 2) q → M1 1 2 = q → M1 1 3 = q → q ≤ n → ¬ (q < n ∧ b q = v) → K 0 M1) : wp_X7_takesSign S m0 1 v K := by
  have t2 := ht.2.1
  have b2 := hm0.f_1_2
  refine u_X7_takesSign ?_
  refine ⟨hS.k1, ?_⟩
  refine ze_look hS hm0 ht hp (fun r q m1 hm1 f1 sk x1 x2 hq hr => ?_)
  have b21 := hm1.f_1_2
  refine g_if (fun w => ?_) (fun w => ?_)
  · have hq2 : q < n ∧ b q = v := by
      rcases hr with ⟨z1, z2⟩ | ⟨z1, z2⟩
      · have tb := ht.2.2 q (by omega) z1
        exact ⟨z1, (u8_eq tb.2.1 tb.2.2 v0 v1).mp (by omega)⟩
      · exfalso; omega
    refine g_getu 2 rfl hS.k1 (fun a ea => ?_)
    refine g_C ?_
    refine g_A (by omega) (by omega) ?_
    refine g_put 2 rfl hS.k1 (hm1.w_1_2 (by omega) (by omega)) (fun m2 e2 hm2 => ?_)
    have f2 : ∀ c p : Int, ¬ (c = 1 ∧ p = 2) → m2 c p = m1 c p := fun c p q => (congrFun (congrFun e2 _) _).trans (up_ne q)
    have y2 : m2 1 2 = a + 1 := (congrFun (congrFun e2 _) _).trans (up_at _ _ _ _)
    exact g_C ⟨by decide, h1 q m2 hm2 (fun c p z => (f2 c p (by omega)).trans (f1 c p z)) sk (by omega) ((f2 1 3 (by omega)).trans x2) hq2.1 hq2.2⟩
  · refine g_C ⟨by decide, h0 q m1 hm1 f1 sk x1 x2 hq (fun z => w ?_)⟩
    rcases hr with ⟨z1, z2⟩ | ⟨z1, z2⟩
    · have tb := ht.2.2 q (by omega) z1
      rw [z2]
      exact (u8_eq tb.2.1 tb.2.2 v0 v1).mpr z.2
    · exfalso; omega
theorem ze_takesWord {X : Mm} {S : Sh} {m0 : Mm} {K : Int → Mm → Prop} {b : Int → Int} {n u : Int} (k : Nat) (hS : Shp S) (hm0 : Inv X S m0) (ht : TC X b n) (hp : m0 1 2 ≤ n) (hk : k < 17) (hu : u = -3 - (k : Int)) (h1 : ∀ (q : Int) (M1 : Mm), Inv X S M1 → (∀ c p : Int, ¬ (c = 1 ∧ 2 ≤ p ∧ p ≤ 3) → M1 c p = m0 c p) → Sk b n (m0 1 2) q → M1 1 2 = q + tl k → M1 1 3 = q → q + tl k ≤ n → Wk b n k q → K 1 M1) (h0 : ∀ (q : Int) (M1 : Mm), Inv X S M1 → (∀ c p : Int, ¬ (c = 1 ∧ 2 ≤ p ∧ p ≤ 3) → M1 c p = m0 c p) → Sk b n (m0 1 2) q → M1 1 2 = q → M1 1 3 = q → q ≤ n → ¬ Wk b n k q → K 0 M1) : wp_X7_takesWord S m0 1 u K := by
  have t2 := ht.2.1
  have b2 := hm0.f_1_2
  have tlr := tl_r k hk
  refine u_X7_takesWord ?_
  refine ⟨hS.k1, ?_⟩
  refine ze_look hS hm0 ht hp (fun r q m1 hm1 f1 sk x1 x2 hq hr => ?_)
  have b21 := hm1.f_1_2
  refine ⟨k, hk, hu, ?_⟩
  refine g_C ?_
  have L : ∀ (j : Nat) (i : Int), 0 ≤ i → i ≤ tl k → (∀ i' : Int, 0 ≤ i' → i' < i → q + i' < n ∧ b (q + i') = tw k i'.toNat) → tl k + 1 - i ≤ (j : Int) → wp_X7_takesWord_12 S K j 1 u (tl k) i m1 := by
    intro j
    induction j with
    | zero => intro i _ _ _ h; exfalso; omega
    | succ j ih =>
      intro i i0 i1 hi h
      refine u_X7_takesWord_12 ?_
      refine g_if (fun w => ?_) (fun w => ?_)
      · have hall : ∀ i' : Int, 0 ≤ i' → i' < tl k → q + i' < n ∧ b (q + i') = tw k i'.toNat := fun i' a c => hi i' a (by omega)
        have hle := hall (tl k - 1) (by omega) (by omega)
        refine g_getu 2 rfl hS.k1 (fun a ea => ?_)
        refine g_A (by omega) (by omega) ?_
        refine ⟨hS.k1, ?_⟩
        refine ze_byteAt hS hm1 ht (fun r2 hr2 => ?_)
        have ok : ¬ (q + tl k < n ∧ 97 ≤ b (q + tl k) ∧ b (q + tl k) ≤ 122) → wp_X7_takesWord_68 S K 1 (tl k) m1 := by
          intro hb
          refine u_X7_takesWord_68 ?_
          refine g_getu 2 rfl hS.k1 (fun a2 ea2 => ?_)
          refine g_A (by omega) (by omega) ?_
          refine g_put 2 rfl hS.k1 (hm1.w_1_2 (by omega) (by omega)) (fun m2 e2 hm2 => ?_)
          have f2 : ∀ c p : Int, ¬ (c = 1 ∧ p = 2) → m2 c p = m1 c p := fun c p q => (congrFun (congrFun e2 _) _).trans (up_ne q)
          have y2 : m2 1 2 = a2 + tl k := (congrFun (congrFun e2 _) _).trans (up_at _ _ _ _)
          exact g_C ⟨by decide, h1 q m2 hm2 (fun c p z => (f2 c p (by omega)).trans (f1 c p z)) sk (by omega) ((f2 1 3 (by omega)).trans x2) (by omega) ⟨hall, hb⟩⟩
        have eq : a + tl k = q + tl k := by omega
        rw [eq] at hr2
        have lr : (97 ≤ r2 ∧ r2 ≤ 122) ↔ (q + tl k < n ∧ 97 ≤ b (q + tl k) ∧ b (q + tl k) ≤ 122) := by
          rcases hr2 with ⟨z0, z1, z2⟩ | ⟨z1, z2⟩
          · have tb := ht.2.2 (q + tl k) z0 z1
            rw [z2]
            unfold u8
            split <;> omega
          · omega
        refine g_C ?_
        refine g_if (fun w2 => ok (fun z => by have := lr.mpr z; omega)) (fun w2 => ?_)
        refine g_C ?_
        refine g_if (fun w3 => ok (fun z => by have := lr.mpr z; omega)) (fun w3 => ?_)
        exact g_C ⟨by decide, h0 q m1 hm1 f1 sk x1 x2 hq (fun z => z.2 (lr.mp (by omega)))⟩
      · refine g_getu 2 rfl hS.k1 (fun a ea => ?_)
        refine g_A (by omega) (by omega) ?_
        refine ⟨hS.k1, ?_⟩
        refine ze_byteAt hS hm1 ht (fun r2 hr2 => ?_)
        have eq : a + i = q + i := by omega
        rw [eq] at hr2
        have twr := tw_r k hk i.toNat (by omega)
        refine ⟨k, hk, hu, i0, by unfold tl at w; omega, ?_⟩
        refine g_if (fun w2 => ?_) (fun w2 => ?_)
        · have w3 : r2 = tw k i.toNat := w2
          have hb : q + i < n ∧ b (q + i) = tw k i.toNat := by
            rcases hr2 with ⟨z0, z1, z2⟩ | ⟨z1, z2⟩
            · have tb := ht.2.2 (q + i) z0 z1
              exact ⟨z1, (u8_eq tb.2.1 tb.2.2 (by omega) (by omega)).mp (by omega)⟩
            · exfalso; omega
          refine g_A (by omega) (by omega) ?_
          refine ih (i + 1) (by omega) (by omega) (fun i' a1 a2 => ?_) (by omega)
          by_cases e : i' = i
          · rw [e]; exact hb
          · exact hi i' a1 (by omega)
        · refine g_C ⟨by decide, h0 q m1 hm1 f1 sk x1 x2 hq (fun z => w2 ?_)⟩
          have zi := z.1 i i0 (by omega)
          show r2 = tw k i.toNat
          rcases hr2 with ⟨z0, z1, z2⟩ | ⟨z1, z2⟩
          · have tb := ht.2.2 (q + i) z0 z1
            rw [z2]
            exact (u8_eq tb.2.1 tb.2.2 (by omega) (by omega)).mpr zi.2
          · exfalso; omega
  exact ⟨(tl k + 1).toNat, L (tl k + 1).toNat 0 (by omega) (by omega) (fun i' a c => absurd c (by omega)) (by omega)⟩
theorem ze_refuse {X : Mm} {S : Sh} {m0 : Mm} {K : Int → Mm → Prop} {u : Int} (hS : Shp S) (hm0 : Inv X S m0) (u0 : 0 ≤ u) (u1 : u ≤ 4) (hk : ∀ M1 : Mm, Inv X S M1 → (∀ c p : Int, ¬ (c = 1 ∧ p = 4) → M1 c p = m0 c p) → ((¬ m0 1 4 = 0 ∧ M1 1 4 = m0 1 4) ∨ (m0 1 4 = 0 ∧ M1 1 4 = 1 + 8 * m0 1 3 + u)) → K 0 M1) : wp_X7_refuse S m0 1 u K := by
  have b3 := hm0.f_1_3
  refine u_X7_refuse ?_
  refine g_getu 4 rfl hS.k1 (fun v ev => ?_)
  refine g_if (fun w => g_C ⟨by decide, hk m0 hm0 (fun _ _ _ => rfl) (Or.inl ⟨by omega, rfl⟩)⟩) (fun w => ?_)
  refine g_C ?_
  refine g_C ?_
  refine g_getu 3 rfl hS.k1 (fun a ea => ?_)
  refine g_M (by omega) (by omega) ?_
  refine g_A (by omega) (by omega) ?_
  refine g_A (by omega) (by omega) ?_
  refine g_put 4 rfl hS.k1 (hm0.w_1_4 (by omega) (by omega)) (fun m1 e1 hm1 => ?_)
  have f1 : ∀ c p : Int, ¬ (c = 1 ∧ p = 4) → m1 c p = m0 c p := fun c p q => (congrFun (congrFun e1 _) _).trans (up_ne q)
  have y1 : m1 1 4 = 1 + 8 * a + u := (congrFun (congrFun e1 _) _).trans (up_at _ _ _ _)
  exact g_C ⟨by decide, hk m1 hm1 f1 (Or.inr ⟨by omega, by omega⟩)⟩
theorem zl_dig {S : Sh} {m : Mm} {K : Int → Mm → Prop} {x : Int} (h1 : 48 ≤ x → x ≤ 57 → K 1 m) (h0 : ¬ (48 ≤ x ∧ x ≤ 57) → K 0 m) : wp_X7_isDigit S m x K := by
  refine u_X7_isDigit ?_
  refine g_C ?_
  refine g_if (fun w => g_C ⟨by decide, h0 (by omega)⟩) (fun w => ?_)
  refine g_C ?_
  exact g_if (fun w2 => g_C ⟨by decide, h0 (by omega)⟩) (fun w2 => g_C ⟨by decide, h1 (by omega) (by omega)⟩)
theorem ze_isAtDigit {X : Mm} {S : Sh} {m0 : Mm} {K : Int → Mm → Prop} {b : Int → Int} {n : Int} (hS : Shp S) (hm0 : Inv X S m0) (ht : TC X b n) (hp : m0 1 2 ≤ n) (h1 : ∀ (q : Int) (M1 : Mm), Inv X S M1 → (∀ c p : Int, ¬ (c = 1 ∧ 2 ≤ p ∧ p ≤ 3) → M1 c p = m0 c p) → Sk b n (m0 1 2) q → M1 1 2 = q → M1 1 3 = q → q < n → Dg (b q) → K 1 M1) (h0 : ∀ (q : Int) (M1 : Mm), Inv X S M1 → (∀ c p : Int, ¬ (c = 1 ∧ 2 ≤ p ∧ p ≤ 3) → M1 c p = m0 c p) → Sk b n (m0 1 2) q → M1 1 2 = q → M1 1 3 = q → q ≤ n → ¬ (q < n ∧ Dg (b q)) → K 0 M1) : wp_X7_isAtDigit S m0 1 K := by
  have b2 := hm0.f_1_2
  refine u_X7_isAtDigit ?_
  refine ⟨hS.k1, ?_⟩
  refine ze_look hS hm0 ht hp (fun r q m1 hm1 f1 sk x1 x2 hq hr => ?_)
  have dr : (48 ≤ r ∧ r ≤ 57) ↔ (q < n ∧ Dg (b q)) := by
    unfold Dg
    rcases hr with ⟨z1, z2⟩ | ⟨z1, z2⟩
    · have tb := ht.2.2 q (by have := sk.1; omega) z1
      rw [z2]
      unfold u8
      split <;> omega
    · omega
  refine zl_dig (fun a c => ⟨by decide, ?_⟩) (fun a => ⟨by decide, h0 q m1 hm1 f1 sk x1 x2 hq (fun z => a (dr.mpr z))⟩)
  have z := dr.mp ⟨a, c⟩
  exact h1 q m1 hm1 f1 sk x1 x2 z.1 z.2
theorem ze_continues {X : Mm} {S : Sh} {m0 : Mm} {K : Int → Mm → Prop} {b : Int → Int} {n : Int} (hS : Shp S) (hm0 : Inv X S m0) (ht : TC X b n) (hp : m0 1 2 ≤ n) (h1 : ∀ M1 : Mm, Inv X S M1 → (∀ c p : Int, ¬ (c = 1 ∧ p = 2) → M1 c p = m0 c p) → M1 1 2 = m0 1 2 + 1 → m0 1 2 < n → b (m0 1 2) = 61 → K 1 M1) (h0 : ¬ (m0 1 2 < n ∧ b (m0 1 2) = 61) → K 0 m0) : wp_X7_continuesWith S m0 1 61 K := by
  have t2 := ht.2.1
  have b2 := hm0.f_1_2
  refine u_X7_continuesWith ?_
  refine g_getu 2 rfl hS.k1 (fun a ea => ?_)
  refine ⟨hS.k1, ?_⟩
  refine ze_byteAt hS hm0 ht (fun r hr => ?_)
  rw [ea] at hr
  have e : r = 61 ↔ (m0 1 2 < n ∧ b (m0 1 2) = 61) := by
    rcases hr with ⟨z0, z1, z2⟩ | ⟨z1, z2⟩
    · have tb := ht.2.2 (m0 1 2) z0 z1
      rw [z2, u8_eq tb.2.1 tb.2.2 (by decide) (by decide)]
      exact ⟨fun z => ⟨z1, z⟩, fun z => z.2⟩
    · omega
  refine g_if (fun w => ?_) (fun w => g_C ⟨by decide, h0 (fun z => w (e.mpr z))⟩)
  have z := e.mp w
  refine g_getu 2 rfl hS.k1 (fun a2 ea2 => ?_)
  refine g_C ?_
  refine g_A (by omega) (by omega) ?_
  refine g_put 2 rfl hS.k1 (hm0.w_1_2 (by omega) (by omega)) (fun m2 e2 hm2 => ?_)
  have f2 : ∀ c p : Int, ¬ (c = 1 ∧ p = 2) → m2 c p = m0 c p := fun c p q => (congrFun (congrFun e2 _) _).trans (up_ne q)
  have y2 : m2 1 2 = a2 + 1 := (congrFun (congrFun e2 _) _).trans (up_at _ _ _ _)
  exact g_C ⟨by decide, h1 m2 hm2 f2 (by omega) z.1 z.2⟩
