theorem CP.push {m m1 : Mm} {st : List Bool} {s : Int} (h : CP m st) (h0 : 0 ≤ m 52 5) (f : ∀ c p : Int, ¬ (c = 52 ∧ p = 5) ∧ ¬ (c = 54 ∧ p = m 52 5) → m1 c p = m c p) (h5 : m1 52 5 = m 52 5 + 1) (hs : m1 54 (m 52 5) = s) : stk (m1 54) (m1 52 5).toNat = (if s = -27 then true :: st else if s = -22 then false :: st else st) ∧ (((s = -23 ∨ s = -24) → ¬ hNt (m 54) (m 52 5).toNat) → okp (m1 54) (m1 52 5).toNat) ∧ (((-24 ≤ s ∧ s ≤ -12) ∨ s = -27) → ∀ j : Int, 0 ≤ j → j < m1 52 5 → (-24 ≤ m1 54 j ∧ m1 54 j ≤ -12) ∨ m1 54 j = -27) := by
  obtain ⟨p1, p2, p3, p4⟩ := h
  have en : (m1 52 5).toNat = (m 52 5).toNat + 1 := by omega
  have ct : (((m 52 5).toNat : Nat) : Int) = m 52 5 := by omega
  obtain ⟨q1, q2, q3⟩ := stk_same (f := m1 54) (g := m 54) (m 52 5).toNat (fun j j0 j1 => f 54 j (by omega))
  refine ⟨?_, fun hh => ?_, fun hh j j0 j1 => ?_⟩
  · rw [en]
    show (if m1 54 (((m 52 5).toNat : Nat) : Int) = -27 then true :: stk (m1 54) (m 52 5).toNat else if m1 54 (((m 52 5).toNat : Nat) : Int) = -22 then false :: stk (m1 54) (m 52 5).toNat else stk (m1 54) (m 52 5).toNat) = _
    rw [ct, hs, q1, p1]
  · rw [en]
    refine ⟨by rw [q3]; exact p3, fun z => ?_⟩
    rw [ct, hs] at z
    rw [q2]
    exact hh z
  · by_cases e : j = m 52 5
    · rw [e, hs]; exact hh
    · rw [f 54 j (by omega)]
      exact p4 j j0 (by omega)
theorem ze_pileA {X : Mm} {S : Sh} {m0 : Mm} {K : Mm → Prop} {s : Int} {st : List Bool} (hS : Shp S) (hm0 : Inv X S m0) (hc : CP m0 st) (hl : st.length ≤ 10) (hs : -21 ≤ s ∧ s ≤ -12) (hp : m0 52 5 ≤ 399) (hk : ∀ M1 : Mm, Inv X S M1 → (∀ c p : Int, ¬ (c = 52 ∧ (p = 2 ∨ p = 5 ∨ p = 6)) ∧ ¬ c = 53 ∧ ¬ c = 54 → M1 c p = m0 c p) → CP M1 st → M1 52 2 + M1 52 5 ≤ m0 52 2 + m0 52 5 + 1 → K M1) : wp_X3_pileUp S m0 52 s K := by
  have bc := bnd_c (x := s) (by omega)
  refine u_X3_pileUp ?_
  refine zl_bnd ?_
  refine ⟨hS.k52, ?_⟩
  refine ze_unpile hS hm0 hc hl (fun m1 s' hm1 f1 c1 ph pl ln h4 _ _ => ?_)
  have e := h4 (by omega)
  subst e
  have b5 := hm1.f_52_5
  refine ⟨hS.k52, ?_⟩
  refine ze_push hS hm1 (by omega) (fun m2 hm2 f2 y5 ys => ?_)
  obtain ⟨r1, r2, r3⟩ := c1.push b5.1 f2 y5 ys
  rw [if_neg (by omega), if_neg (by omega)] at r1
  refine hk m2 hm2 (fun c p z => (f2 c p (by omega)).trans (f1 c p (by omega))) ⟨r1, (f2 52 6 (by omega)).trans c1.2.1, r2 (fun z => by omega), r3 (by omega)⟩ ?_
  rw [f2 52 2 (by omega)]
  omega
theorem ze_pileB {X : Mm} {S : Sh} {m0 : Mm} {K : Mm → Prop} {s : Int} {st : List Bool} (hS : Shp S) (hm0 : Inv X S m0) (hc : CP m0 st) (hl : st.length ≤ 10) (hs : s = -23 ∨ s = -24) (hp : m0 52 5 ≤ 399) (hk : ∀ M1 : Mm, Inv X S M1 → (∀ c p : Int, ¬ (c = 52 ∧ (p = 2 ∨ p = 5 ∨ p = 6)) ∧ ¬ c = 53 ∧ ¬ c = 54 → M1 c p = m0 c p) → CP M1 (dropN st) → M1 52 2 + M1 52 5 ≤ m0 52 2 + m0 52 5 + 1 → K M1) : wp_X3_pileUp S m0 52 s K := by
  have bc := bnd_c (x := s) (by omega)
  refine u_X3_pileUp ?_
  refine zl_bnd ?_
  refine ⟨hS.k52, ?_⟩
  refine ze_unpile hS hm0 hc hl (fun m1 s' hm1 f1 c1 ph pl ln _ h2 _ => ?_)
  obtain ⟨e, nh⟩ := h2 (by omega)
  subst e
  have b5 := hm1.f_52_5
  refine ⟨hS.k52, ?_⟩
  refine ze_push hS hm1 (by omega) (fun m2 hm2 f2 y5 ys => ?_)
  obtain ⟨r1, r2, r3⟩ := c1.push b5.1 f2 y5 ys
  rw [if_neg (by omega), if_neg (by omega)] at r1
  refine hk m2 hm2 (fun c p z => (f2 c p (by omega)).trans (f1 c p (by omega))) ⟨r1, (f2 52 6 (by omega)).trans c1.2.1, r2 (fun _ => nh), r3 (by omega)⟩ ?_
  rw [f2 52 2 (by omega)]
  omega
theorem ze_takeArithmetic {X : Mm} {S : Sh} {m0 : Mm} {K : Int → Mm → Prop} {b : Int → Int} {n : Int} (hS : Shp S) (hm0 : Inv X S m0) (ht : TC X b n) (hp : m0 1 2 ≤ n) (h1 : ∀ (q v : Int) (M1 : Mm), Inv X S M1 → (∀ c p : Int, ¬ (c = 1 ∧ 2 ≤ p ∧ p ≤ 3) → M1 c p = m0 c p) → Sk b n (m0 1 2) q → M1 1 2 = q + 1 → M1 1 3 = q → q < n → Ar (b q) → -16 ≤ v → v ≤ -12 → K v M1) (h0 : ∀ (q : Int) (M1 : Mm), Inv X S M1 → (∀ c p : Int, ¬ (c = 1 ∧ 2 ≤ p ∧ p ≤ 3) → M1 c p = m0 c p) → Sk b n (m0 1 2) q → M1 1 2 = q → M1 1 3 = q → q ≤ n → ¬ (q < n ∧ Ar (b q)) → K 0 M1) : wp_X3_takeArithmetic S m0 52 K := by
  refine u_X3_takeArithmetic ?_
  refine g_getr 0 1 rfl hS.k52 hm0.f_52_0 (by decide) ?_
  refine g_C ?_
  refine ⟨hS.k1, ?_⟩
  refine ze_takesSign hS hm0 ht hp (by decide) (by decide) (fun q m1 hm1 f1 sk x1 x2 l1 bq => g_ifF (by decide) (g_C (h1 q (-12) m1 hm1 f1 sk x1 x2 l1 (Or.inl bq) (by decide) (by decide)))) (fun q m1 hm1 f1 sk x1 x2 l1 nq1 => ?_)
  refine g_ifT rfl ?_
  refine g_getr 0 1 rfl hS.k52 hm1.f_52_0 (by decide) ?_
  refine g_C ?_
  refine ⟨hS.k1, ?_⟩
  refine ze_takesSign hS hm1 ht (by omega) (by decide) (by decide) (fun q' m2 hm2 f2 sk2 y1 y2 l2 bq => ?_) (fun q' m2 hm2 f2 sk2 y1 y2 l2 nq2 => ?_)
  · rw [x1] at sk2
    obtain rfl := sk2.uniq sk.idem
    exact g_ifF (by decide) (g_C (h1 q' (-13) m2 hm2 (fun c p z => (f2 c p z).trans (f1 c p z)) sk y1 y2 l2 (Or.inr (Or.inl bq)) (by decide) (by decide)))
  rw [x1] at sk2
  obtain rfl := sk2.uniq sk.idem
  refine g_ifT rfl ?_
  refine g_getr 0 1 rfl hS.k52 hm2.f_52_0 (by decide) ?_
  refine g_C ?_
  refine ⟨hS.k1, ?_⟩
  refine ze_takesSign hS hm2 ht (by omega) (by decide) (by decide) (fun q m3 hm3 f3 sk3 z1 z2 l3 bq => ?_) (fun q m3 hm3 f3 sk3 z1 z2 l3 nq3 => ?_)
  · rw [y1] at sk3
    obtain rfl := sk3.uniq sk.idem
    exact g_ifF (by decide) (g_C (h1 q (-14) m3 hm3 (fun c p z => ((f3 c p z).trans (f2 c p z)).trans (f1 c p z)) sk z1 z2 l3 (Or.inr (Or.inr (Or.inl bq))) (by decide) (by decide)))
  rw [y1] at sk3
  obtain rfl := sk3.uniq sk.idem
  refine g_ifT rfl ?_
  refine g_getr 0 1 rfl hS.k52 hm3.f_52_0 (by decide) ?_
  refine g_C ?_
  refine ⟨hS.k1, ?_⟩
  refine ze_takesSign hS hm3 ht (by omega) (by decide) (by decide) (fun q' m4 hm4 f4 sk4 a1 a2 l4 bq => ?_) (fun q' m4 hm4 f4 sk4 a1 a2 l4 nq4 => ?_)
  · rw [z1] at sk4
    obtain rfl := sk4.uniq sk.idem
    exact g_ifF (by decide) (g_C (h1 q' (-15) m4 hm4 (fun c p z => (((f4 c p z).trans (f3 c p z)).trans (f2 c p z)).trans (f1 c p z)) sk a1 a2 l4 (Or.inr (Or.inr (Or.inr (Or.inl bq)))) (by decide) (by decide)))
  rw [z1] at sk4
  obtain rfl := sk4.uniq sk.idem
  refine g_ifT rfl ?_
  refine g_getr 0 1 rfl hS.k52 hm4.f_52_0 (by decide) ?_
  refine g_C ?_
  refine ⟨hS.k1, ?_⟩
  refine ze_takesSign hS hm4 ht (by omega) (by decide) (by decide) (fun q m5 hm5 f5 sk5 b1 b2 l5 bq => ?_) (fun q m5 hm5 f5 sk5 b1 b2 l5 nq5 => ?_)
  · rw [a1] at sk5
    obtain rfl := sk5.uniq sk.idem
    exact g_ifF (by decide) (g_C (h1 q (-16) m5 hm5 (fun c p z => ((((f5 c p z).trans (f4 c p z)).trans (f3 c p z)).trans (f2 c p z)).trans (f1 c p z)) sk b1 b2 l5 (Or.inr (Or.inr (Or.inr (Or.inr bq)))) (by decide) (by decide)))
  rw [a1] at sk5
  obtain rfl := sk5.uniq sk.idem
  refine g_ifT rfl (g_C (h0 q m5 hm5 (fun c p z => ((((f5 c p z).trans (f4 c p z)).trans (f3 c p z)).trans (f2 c p z)).trans (f1 c p z)) sk b1 b2 l5 (fun z => ?_)))
  obtain ⟨w1, w2⟩ := z
  rcases w2 with w2 | w2 | w2 | w2 | w2
  · exact nq1 ⟨w1, w2⟩
  · exact nq2 ⟨w1, w2⟩
  · exact nq3 ⟨w1, w2⟩
  · exact nq4 ⟨w1, w2⟩
  · exact nq5 ⟨w1, w2⟩
theorem ze_takeComparison {X : Mm} {S : Sh} {m0 : Mm} {K : Int → Mm → Prop} {b : Int → Int} {n : Int} (hS : Shp S) (hm0 : Inv X S m0) (ht : TC X b n) (hp : m0 1 2 ≤ n) (h1 : ∀ (q v : Int) (M1 : Mm), Inv X S M1 → (∀ c p : Int, ¬ (c = 1 ∧ 2 ≤ p ∧ p ≤ 3) → M1 c p = m0 c p) → Sk b n (m0 1 2) q → q < n → Cm (b q) → M1 1 3 = q → ((¬ b q = 61 ∧ q + 1 < n ∧ b (q + 1) = 61 ∧ M1 1 2 = q + 2) ∨ (¬ (¬ b q = 61 ∧ q + 1 < n ∧ b (q + 1) = 61) ∧ M1 1 2 = q + 1)) → -21 ≤ v → v ≤ -17 → K v M1) (h0 : ∀ (q : Int) (M1 : Mm), Inv X S M1 → (∀ c p : Int, ¬ (c = 1 ∧ 2 ≤ p ∧ p ≤ 3) → M1 c p = m0 c p) → Sk b n (m0 1 2) q → M1 1 2 = q → M1 1 3 = q → q ≤ n → ¬ (q < n ∧ Cm (b q)) → K 0 M1) : wp_X3_takeComparison S m0 52 K := by
  refine u_X3_takeComparison ?_
  refine g_getr 0 1 rfl hS.k52 hm0.f_52_0 (by decide) ?_
  refine g_C ?_
  refine ⟨hS.k1, ?_⟩
  refine ze_takesSign hS hm0 ht hp (by decide) (by decide) (fun q m1 hm1 f1 sk x1 x2 l1 bq => g_ifF (by decide) (g_C (h1 q (-19) m1 hm1 f1 sk l1 (Or.inr (Or.inl bq)) x2 (Or.inr ⟨by omega, x1⟩) (by decide) (by decide)))) (fun q m1 hm1 f1 sk x1 x2 l1 nq1 => ?_)
  refine g_ifT rfl ?_
  refine g_getr 0 1 rfl hS.k52 hm1.f_52_0 (by decide) ?_
  refine g_C ?_
  refine ⟨hS.k1, ?_⟩
  refine ze_takesSign hS hm1 ht (by omega) (by decide) (by decide) (fun q' m2 hm2 f2 sk2 y1 y2 l2 bq => ?_) (fun q' m2 hm2 f2 sk2 y1 y2 l2 nq2 => ?_)
  · rw [x1] at sk2
    obtain rfl := sk2.uniq sk.idem
    refine g_ifF (by decide) ?_
    refine g_getr 0 1 rfl hS.k52 hm2.f_52_0 (by decide) ?_
    refine g_C ?_
    refine ⟨hS.k1, ?_⟩
    refine ze_continues hS hm2 ht (by omega) (fun m3 hm3 f3 z1 z2 z3 => ?_) (fun z => ?_)
    · rw [y1] at z2 z3
      exact g_ifF (by decide) (g_C (h1 q' (-18) m3 hm3 (fun c p z => ((f3 c p (by omega)).trans (f2 c p z)).trans (f1 c p z)) sk l2 (Or.inl bq) ((f3 1 3 (by omega)).trans y2) (Or.inl ⟨by omega, z2, z3, by omega⟩) (by decide) (by decide)))
    · rw [y1] at z
      exact g_ifT rfl (g_C (h1 q' (-17) m2 hm2 (fun c p z => (f2 c p z).trans (f1 c p z)) sk l2 (Or.inl bq) y2 (Or.inr ⟨fun w => z w.2, y1⟩) (by decide) (by decide)))
  rw [x1] at sk2
  obtain rfl := sk2.uniq sk.idem
  refine g_ifT rfl ?_
  refine g_getr 0 1 rfl hS.k52 hm2.f_52_0 (by decide) ?_
  refine g_C ?_
  refine ⟨hS.k1, ?_⟩
  refine ze_takesSign hS hm2 ht (by omega) (by decide) (by decide) (fun q m3 hm3 f3 sk3 z1 z2 l3 bq => ?_) (fun q m3 hm3 f3 sk3 z1 z2 l3 nq3 => ?_)
  · rw [y1] at sk3
    obtain rfl := sk3.uniq sk.idem
    refine g_ifF (by decide) ?_
    refine g_getr 0 1 rfl hS.k52 hm3.f_52_0 (by decide) ?_
    refine g_C ?_
    refine ⟨hS.k1, ?_⟩
    refine ze_continues hS hm3 ht (by omega) (fun m4 hm4 f4 a1 a2 a3 => ?_) (fun z => ?_)
    · rw [z1] at a2 a3
      exact g_ifF (by decide) (g_C (h1 q (-20) m4 hm4 (fun c p z => (((f4 c p (by omega)).trans (f3 c p z)).trans (f2 c p z)).trans (f1 c p z)) sk l3 (Or.inr (Or.inr bq)) ((f4 1 3 (by omega)).trans z2) (Or.inl ⟨by omega, a2, a3, by omega⟩) (by decide) (by decide)))
    · rw [z1] at z
      exact g_ifT rfl (g_C (h1 q (-21) m3 hm3 (fun c p z => ((f3 c p z).trans (f2 c p z)).trans (f1 c p z)) sk l3 (Or.inr (Or.inr bq)) z2 (Or.inr ⟨fun w => z w.2, z1⟩) (by decide) (by decide)))
  rw [y1] at sk3
  obtain rfl := sk3.uniq sk.idem
  refine g_ifT rfl (g_C (h0 q m3 hm3 (fun c p z => ((f3 c p z).trans (f2 c p z)).trans (f1 c p z)) sk z1 z2 l3 (fun z => ?_)))
  obtain ⟨w1, w2⟩ := z
  rcases w2 with w2 | w2 | w2
  · exact nq2 ⟨w1, w2⟩
  · exact nq1 ⟨w1, w2⟩
  · exact nq3 ⟨w1, w2⟩
