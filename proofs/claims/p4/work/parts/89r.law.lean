theorem z_X12_hand {X : Mm} {S : Sh} {m0 : Mm} {K : Int → Mm → Prop} {u1 u2 : Int} (hS : Shp S) (hm0 : Inv X S m0) (l_u1 : (-2147483648) ≤ u1) (h_u1 : u1 ≤ 2147483647) (l_u2 : (-2147483648) ≤ u2) (h_u2 : u2 ≤ 2147483647) (hk : ∀ (r : Int), K r m0) : wp_X12_hand S m0 336 u1 u2 K := by
  refine u_X12_hand ?_
  refine ⟨hS.k336, ?_⟩
  refine u_X12_isHand ?_
  refine g_if (fun w1 => ?_) (fun w1 => ?_)
  · refine g_C ?_
    refine ⟨by omega, ?_⟩
    refine g_ifT (by omega) ?_
    refine g_C ?_
    exact hk (-1)
  · refine g_getr 20 346 rfl hS.k336 hm0.f_336_20 (by decide) ?_
    refine g_C ?_
    refine g_ld (0) (5) hS.k346 hS.l346 (by omega) (by omega) (hm0.f_346_4) (fun v2 ev2 bv2 cv2 => ?_)
    refine g_if (fun w3 => ?_) (fun w3 => ?_)
    · refine g_C ?_
      refine ⟨by omega, ?_⟩
      refine g_ifT (by omega) ?_
      refine g_C ?_
      exact hk (-1)
    · refine g_C ?_
      refine ⟨by omega, ?_⟩
      refine g_ifF (by omega) ?_
      refine g_C ?_
      refine g_C ?_
      refine g_C ?_
      refine z_in (fun aw4 bw4 => ?_) (fun cw4 => ?_)
      · refine g_ifT (by omega) ?_
        refine g_C ?_
        refine g_if (fun w5 => ?_) (fun w5 => ?_)
        · refine g_C ?_
          refine g_if (fun w6 => ?_) (fun w6 => ?_)
          · refine g_C ?_
            refine g_S (by omega) (by omega) ?_
            refine ⟨hS.k336, ?_⟩
            refine u_X12_handOf ?_
            refine g_getr 20 346 rfl hS.k336 hm0.f_336_20 (by decide) ?_
            refine g_C ?_
            refine g_C ?_
            refine g_M (by omega) (by omega) ?_
            refine g_A (by omega) (by omega) ?_
            refine g_A (by omega) (by omega) ?_
            refine g_ldu hS.k346 hS.l346 (by omega) (by omega) (fun v7 ev7 => ?_)
            exact hk v7
          · refine ⟨hS.k336, ?_⟩
            refine z_X12_held hS hm0 (by omega) (by omega) (fun v8 bv8 cv8 => ?_)
            exact hk v8
        · refine ⟨hS.k336, ?_⟩
          refine u_X12_handOf ?_
          refine g_getr 20 346 rfl hS.k336 hm0.f_336_20 (by decide) ?_
          refine g_C ?_
          refine g_C ?_
          refine g_M (by omega) (by omega) ?_
          refine g_A (by omega) (by omega) ?_
          refine g_A (by omega) (by omega) ?_
          refine g_ldu hS.k346 hS.l346 (by omega) (by omega) (fun v9 ev9 => ?_)
          exact hk v9
      · refine g_ifF (by omega) ?_
        refine g_C ?_
        exact hk (-1)
theorem z_X12_hour {X : Mm} {S : Sh} {m0 : Mm} {K : Int → Mm → Prop} (hS : Shp S) (hm0 : Inv X S m0)  (hk : ∀ (r : Int) (M1 : Mm), Inv X S M1 → (-2147483648) ≤ r → r ≤ 2147483647 → K r M1) : wp_X12_hour S m0 336 K := by
  refine u_X12_hour ?_
  refine ⟨hS.k336, ?_⟩
  refine u_X12_isDairy ?_
  refine g_getr 20 346 rfl hS.k336 hm0.f_336_20 (by decide) ?_
  refine g_C ?_
  refine g_ld (0) (6) hS.k346 hS.l346 (by omega) (by omega) (hm0.f_346_0) (fun v1 ev1 bv1 cv1 => ?_)
  refine g_if (fun w2 => ?_) (fun w2 => ?_)
  · refine g_C ?_
    refine ⟨by omega, ?_⟩
    refine g_ifT (by omega) ?_
    refine g_C ?_
    exact hk (-1) m0 hm0 (by omega) (by omega)
  · refine g_C ?_
    refine ⟨by omega, ?_⟩
    refine g_ifF (by omega) ?_
    refine g_getr 20 346 rfl hS.k336 hm0.f_336_20 (by decide) ?_
    refine g_C ?_
    refine g_ld (-2147483648) (2147483647) hS.k346 hS.l346 (by omega) (by omega) (hm0.f_346_7) (fun v3 ev3 bv3 cv3 => ?_)
    refine g_C ?_
    refine g_if (fun w4 => ?_) (fun w4 => ?_)
    · refine ⟨hS.k336, ?_⟩
      refine z_X12_keepsAct hS hm0 (fun m5 hm5 => ?_)
      refine ⟨hS.k336, ?_⟩
      refine z_X12_passes hS hm5 (fun v6 m7 hm7 bv6 cv6 => ?_)
      exact hk v6 m7 hm7 (by omega) (by omega)
    · refine g_C ?_
      exact hk (-1) m0 hm0 (by omega) (by omega)
theorem z_X12_want {X : Mm} {S : Sh} {m0 : Mm} {K : Int → Mm → Prop} {u1 u2 : Int} (hS : Shp S) (hm0 : Inv X S m0) (l_u1 : (-2147483648) ≤ u1) (h_u1 : u1 ≤ 2147483647) (l_u2 : (-2147483648) ≤ u2) (h_u2 : u2 ≤ 2147483647) (hk : ∀ (r : Int), K r m0) : wp_X12_want S m0 336 u1 u2 K := by
  refine u_X12_want ?_
  refine ⟨hS.k336, ?_⟩
  refine u_X12_isWant ?_
  refine g_if (fun w1 => ?_) (fun w1 => ?_)
  · refine g_C ?_
    refine ⟨by omega, ?_⟩
    refine g_ifT (by omega) ?_
    refine g_C ?_
    exact hk (-2)
  · refine g_getr 20 346 rfl hS.k336 hm0.f_336_20 (by decide) ?_
    refine g_C ?_
    refine g_ld (0) (6) hS.k346 hS.l346 (by omega) (by omega) (hm0.f_346_6) (fun v2 ev2 bv2 cv2 => ?_)
    refine g_if (fun w3 => ?_) (fun w3 => ?_)
    · refine g_C ?_
      refine ⟨by omega, ?_⟩
      refine g_ifT (by omega) ?_
      refine g_C ?_
      exact hk (-2)
    · refine g_C ?_
      refine ⟨by omega, ?_⟩
      refine g_ifF (by omega) ?_
      refine g_C ?_
      refine g_C ?_
      refine g_C ?_
      refine z_in (fun aw4 bw4 => ?_) (fun cw4 => ?_)
      · refine g_ifT (by omega) ?_
        refine g_C ?_
        refine g_if (fun w5 => ?_) (fun w5 => ?_)
        · refine g_C ?_
          refine g_if (fun w6 => ?_) (fun w6 => ?_)
          · refine ⟨hS.k336, ?_⟩
            refine z_X12_firstFor hS hm0 (by omega) (by omega) (fun v7 bv7 cv7 => ?_)
            refine g_if (fun w8 => ?_) (fun w8 => ?_)
            · refine g_C ?_
              exact hk 0
            · refine g_C ?_
              exact hk 1
          · refine g_getr 20 346 rfl hS.k336 hm0.f_336_20 (by decide) ?_
            refine g_C ?_
            refine g_A (by omega) (by omega) ?_
            refine g_ld (-2147483648) (2147483647) hS.k346 hS.l346 (by omega) (by omega) (fam_346_51_1_0_5 hm0 (a := u1) (by omega) (by omega) (by omega)) (fun v9 ev9 bv9 cv9 => ?_)
            exact hk v9
        · refine ⟨hS.k336, ?_⟩
          refine u_X12_wantOf ?_
          refine g_getr 20 346 rfl hS.k336 hm0.f_336_20 (by decide) ?_
          refine g_C ?_
          refine g_C ?_
          refine g_M (by omega) (by omega) ?_
          refine g_A (by omega) (by omega) ?_
          refine g_A (by omega) (by omega) ?_
          refine g_ldu hS.k346 hS.l346 (by omega) (by omega) (fun v10 ev10 => ?_)
          exact hk v10
      · refine g_ifF (by omega) ?_
        refine g_C ?_
        exact hk (-2)
theorem g_sc {L : Nat} {xs : Nat → Int32} {i : Int} {K : Int → Prop} (h0 : 0 ≤ i) (h1 : i < L) (h : ∀ v : Int, v = (xs i.toNat).toInt → -2147483648 ≤ v → v ≤ 2147483647 → K v) : wSc L xs i K := ⟨⟨h0, h1⟩, h _ rfl (k32_r _).1 (k32_r _).2⟩
theorem Xr.k {M : Mm} (h : Xr M) {k : Int} (h0 : 0 ≤ k) (h1 : k ≤ 3) : M (76 + 25 * k) 3 = M 356 k ∧ M (76 + 25 * k) 9 = M 357 k := by
  obtain ⟨-, a0, a1, a2, a3⟩ := h
  rcases (show k = 0 ∨ k = 1 ∨ k = 2 ∨ k = 3 by omega) with e | e | e | e <;> subst e
  · exact a0
  · exact a1
  · exact a2
  · exact a3
theorem Xr.mk {M : Mm} (h : M 3 3 = M 336 22) (hk : ∀ k : Int, 0 ≤ k → k ≤ 3 → M (76 + 25 * k) 3 = M 356 k ∧ M (76 + 25 * k) 9 = M 357 k) : Xr M := ⟨h, hk 0 (by decide) (by decide), hk 1 (by decide) (by decide), hk 2 (by decide) (by decide), hk 3 (by decide) (by decide)⟩
theorem Ya.k {M : Mm} (h : Ya M) {k : Int} (h0 : 0 ≤ k) (h1 : k ≤ 3) : M 357 k = 0 ∨ M (76 + 25 * k) 2 = M 355 k := by
  obtain ⟨-, -, a0, a1, a2, a3⟩ := h
  rcases (show k = 0 ∨ k = 1 ∨ k = 2 ∨ k = 3 by omega) with e | e | e | e <;> subst e
  · exact a0
  · exact a1
  · exact a2
  · exact a3
theorem Ya.mk {M : Mm} (h : M 1 1 = M 336 1 ∧ (∀ p : Int, 0 ≤ p → p < 400 → M 2 p = M 337 p) ∧ M 0 7 = M 336 2) (h2 : M 3 2 = M 336 21) (hk : ∀ k : Int, 0 ≤ k → k ≤ 3 → M 357 k = 0 ∨ M (76 + 25 * k) 2 = M 355 k) : Ya M := ⟨h, h2, hk 0 (by decide) (by decide), hk 1 (by decide) (by decide), hk 2 (by decide) (by decide), hk 3 (by decide) (by decide)⟩
/-- what of Ya no image and no going back touches -/
theorem Ya.up {M M1 : Mm} (h : Ya M) (hs : ∀ c p : Int, (c = 1 ∨ c = 2 ∨ c = 0 ∨ c = 337 ∨ (c = 336 ∧ (p = 1 ∨ p = 2))) → spP c p → M1 c p = M c p) : M1 1 1 = M1 336 1 ∧ (∀ p : Int, 0 ≤ p → p < 400 → M1 2 p = M1 337 p) ∧ M1 0 7 = M1 336 2 := by
  obtain ⟨⟨a1, a2, a3⟩, -⟩ := h
  rw [hs 1 1 (by decide) (by decide), hs 336 1 (by decide) (by decide), hs 0 7 (by decide) (by decide), hs 336 2 (by decide) (by decide)]
  exact ⟨a1, fun p p0 p1 => by rw [hs 2 p (by omega) (by omega), hs 337 p (by omega) (by omega)]; exact a2 p p0 p1, a3⟩
theorem Ya.out {M M1 : Mm} (h : Ya M) (hs : ∀ c p : Int, ¬ (c = 3 ∧ p = 3) → ¬ (c = 336 ∧ p = 22) → M1 c p = M c p) : Ya M1 := by
  obtain ⟨⟨a1, a2, a3⟩, a4, a5⟩ := h
  unfold Ya
  rw [hs 1 1 (by omega) (by omega), hs 336 1 (by omega) (by omega), hs 0 7 (by omega) (by omega), hs 336 2 (by omega) (by omega), hs 3 2 (by omega) (by omega), hs 336 21 (by omega) (by omega), hs 76 2 (by omega) (by omega), hs 101 2 (by omega) (by omega), hs 126 2 (by omega) (by omega), hs 151 2 (by omega) (by omega), hs 355 0 (by omega) (by omega), hs 355 1 (by omega) (by omega), hs 355 2 (by omega) (by omega), hs 355 3 (by omega) (by omega), hs 357 0 (by omega) (by omega), hs 357 1 (by omega) (by omega), hs 357 2 (by omega) (by omega), hs 357 3 (by omega) (by omega)]
  exact ⟨⟨a1, fun p p0 p1 => by rw [hs 2 p (by omega) (by omega), hs 337 p (by omega) (by omega)]; exact a2 p p0 p1, a3⟩, a4, a5⟩
theorem lc_0 {L : Nat} {xs : Nat → Int32} {S : Sh} {M : Mm} {i : Int} {K : Sh → Mm → Prop} (hS : Shp S) (hj : JX S M) (h0 : 0 ≤ i) (h1 : i + 6 ≤ L) (hL : L ≤ 3072) (hk : ∀ (S1 : Sh) (M1 : Mm), Shp S1 → JX S1 M1 → K S1 M1) : wp_Lc_0 L xs 0 336 S M i K := by
  unfold wp_Lc_0
  refine g_C ?_
  refine g_A (by omega) (by omega) ?_
  refine g_sc (by omega) (by omega) (fun a1 ea1 ba1 ca1 => ?_)
  refine g_C ?_
  refine g_A (by omega) (by omega) ?_
  refine g_sc (by omega) (by omega) (fun a2 ea2 ba2 ca2 => ?_)
  refine g_C ?_
  refine g_A (by omega) (by omega) ?_
  refine g_sc (by omega) (by omega) (fun a3 ea3 ba3 ca3 => ?_)
  refine g_C ?_
  refine g_A (by omega) (by omega) ?_
  refine g_sc (by omega) (by omega) (fun a4 ea4 ba4 ca4 => ?_)
  refine g_C ?_
  refine g_A (by omega) (by omega) ?_
  refine g_sc (by omega) (by omega) (fun a5 ea5 ba5 ca5 => ?_)
  refine ⟨hS.k0, ?_⟩
  refine zj_feed (K := fun r r2 M2 => K S M2) hS hj (fun r M1 h => ?_) (fun r M1 j1 => hk S M1 hS j1)
  refine g_C ?_
  refine g_A (by omega) (by omega) ?_
  refine g_sc (by omega) (by omega) (fun d1 ed1 bd1 cd1 => ?_)
  refine g_C ?_
  refine g_A (by omega) (by omega) ?_
  refine g_sc (by omega) (by omega) (fun d2 ed2 bd2 cd2 => ?_)
  refine g_C ?_
  refine g_A (by omega) (by omega) ?_
  refine g_sc (by omega) (by omega) (fun d3 ed3 bd3 cd3 => ?_)
  refine g_C ?_
  refine g_A (by omega) (by omega) ?_
  refine g_sc (by omega) (by omega) (fun d4 ed4 bd4 cd4 => ?_)
  refine g_C ?_
  refine g_A (by omega) (by omega) ?_
  refine g_sc (by omega) (by omega) (fun d5 ed5 bd5 cd5 => ?_)
  obtain rfl : d1 = a1 := by omega
  obtain rfl : d2 = a2 := by omega
  obtain rfl : d3 = a3 := by omega
  obtain rfl : d4 = a4 := by omega
  obtain rfl : d5 = a5 := by omega
  exact ⟨hS.k336, h⟩
theorem lc_1 {L : Nat} {xs : Nat → Int32} {S : Sh} {M : Mm} {i : Int} {K : Sh → Mm → Prop} (hS : Shp S) (hj : JX S M) (h0 : 0 ≤ i) (h1 : i + 6 ≤ L) (hL : L ≤ 3072) (hk : ∀ (S1 : Sh) (M1 : Mm), Shp S1 → JX S1 M1 → K S1 M1) : wp_Lc_1 L xs 0 336 S M i K := by
  unfold wp_Lc_1
  refine g_C ?_
  refine g_A (by omega) (by omega) ?_
  refine g_sc (by omega) (by omega) (fun a1 ea1 ba1 ca1 => ?_)
  refine ⟨hS.k0, ?_⟩
  refine zj_end (K := fun r r2 M2 => K S M2) hS hj (fun r M1 h => ?_) (fun r M1 j1 => hk S M1 hS j1)
  refine g_C ?_
  refine g_A (by omega) (by omega) ?_
  refine g_sc (by omega) (by omega) (fun d1 ed1 bd1 cd1 => ?_)
  obtain rfl : d1 = a1 := by omega
  exact ⟨hS.k336, h⟩
theorem lc_2 {L : Nat} {xs : Nat → Int32} {S : Sh} {M : Mm} {i : Int} {K : Sh → Mm → Prop} (hS : Shp S) (hj : JX S M) (h0 : 0 ≤ i) (h1 : i + 6 ≤ L) (hL : L ≤ 3072) (hk : ∀ (S1 : Sh) (M1 : Mm), Shp S1 → JX S1 M1 → K S1 M1) : wp_Lc_2 L xs 0 336 S M i K := by
  unfold wp_Lc_2
  refine ⟨hS.k0, ?_⟩
  refine zy_dairy (K := fun r r2 M2 => r = r2 ∧ K S M2) hS hj (fun r M1 h => ?_) (fun r M1 j1 => ⟨rfl, hk S M1 hS j1⟩)
  exact ⟨hS.k336, h⟩
theorem lc_3 {L : Nat} {xs : Nat → Int32} {S : Sh} {M : Mm} {i : Int} {K : Sh → Mm → Prop} (hS : Shp S) (hj : JX S M) (h0 : 0 ≤ i) (h1 : i + 6 ≤ L) (hL : L ≤ 3072) (hk : ∀ (S1 : Sh) (M1 : Mm), Shp S1 → JX S1 M1 → K S1 M1) : wp_Lc_3 L xs 0 336 S M i K := by
  unfold wp_Lc_3
  refine ⟨hS.k0, ?_⟩
  exact zj_rule (K := fun r r2 S2 M2 => K S2 M2) hS hj (fun r S1 M1 hS1 h => ⟨hS1.k336, h⟩) (fun r S1 M1 hS1 j1 => hk S1 M1 hS1 j1)
theorem lc_4 {L : Nat} {xs : Nat → Int32} {S : Sh} {M : Mm} {i : Int} {K : Sh → Mm → Prop} (hS : Shp S) (hj : JX S M) (h0 : 0 ≤ i) (h1 : i + 6 ≤ L) (hL : L ≤ 3072) (hk : ∀ (S1 : Sh) (M1 : Mm), Shp S1 → JX S1 M1 → K S1 M1) : wp_Lc_4 L xs 0 336 S M i K := by
  unfold wp_Lc_4
  refine g_C ?_
  refine g_A (by omega) (by omega) ?_
  refine g_sc (by omega) (by omega) (fun a1 ea1 ba1 ca1 => ?_)
  refine ⟨hS.k0, ?_⟩
  refine zj_force (K := fun r r2 M2 => K S M2) hS hj (fun r M1 h => ?_) (fun r M1 j1 => hk S M1 hS j1)
  refine g_C ?_
  refine g_A (by omega) (by omega) ?_
  refine g_sc (by omega) (by omega) (fun d1 ed1 bd1 cd1 => ?_)
  obtain rfl : d1 = a1 := by omega
  exact ⟨hS.k336, h⟩
theorem lc_5 {L : Nat} {xs : Nat → Int32} {S : Sh} {M : Mm} {i : Int} {K : Sh → Mm → Prop} (hS : Shp S) (hj : JX S M) (h0 : 0 ≤ i) (h1 : i + 6 ≤ L) (hL : L ≤ 3072) (hk : ∀ (S1 : Sh) (M1 : Mm), Shp S1 → JX S1 M1 → K S1 M1) : wp_Lc_5 L xs 0 336 S M i K := by
  unfold wp_Lc_5
  refine g_C ?_
  refine g_A (by omega) (by omega) ?_
  refine g_sc (by omega) (by omega) (fun a1 ea1 ba1 ca1 => ?_)
  refine g_C ?_
  refine g_A (by omega) (by omega) ?_
  refine g_sc (by omega) (by omega) (fun a2 ea2 ba2 ca2 => ?_)
  refine ⟨hS.k0, ?_⟩
  refine z_X11_hand hS hj.inv ba1 ca1 ba2 ca2 (fun ra _ _ => ?_)
  refine g_C ?_
  refine g_A (by omega) (by omega) ?_
  refine g_sc (by omega) (by omega) (fun d1 ed1 bd1 cd1 => ?_)
  refine g_C ?_
  refine g_A (by omega) (by omega) ?_
  refine g_sc (by omega) (by omega) (fun d2 ed2 bd2 cd2 => ?_)
  refine ⟨hS.k336, ?_⟩
  refine z_X12_hand hS hj.inv bd1 cd1 bd2 cd2 (fun rd => ?_)
  exact hk S M hS hj
theorem lc_6 {L : Nat} {xs : Nat → Int32} {S : Sh} {M : Mm} {i : Int} {K : Sh → Mm → Prop} (hS : Shp S) (hj : JX S M) (h0 : 0 ≤ i) (h1 : i + 6 ≤ L) (hL : L ≤ 3072) (hk : ∀ (S1 : Sh) (M1 : Mm), Shp S1 → JX S1 M1 → K S1 M1) : wp_Lc_6 L xs 0 336 S M i K := by
  unfold wp_Lc_6
  refine g_C ?_
  refine g_A (by omega) (by omega) ?_
  refine g_sc (by omega) (by omega) (fun a1 ea1 ba1 ca1 => ?_)
  refine g_C ?_
  refine g_A (by omega) (by omega) ?_
  refine g_sc (by omega) (by omega) (fun a2 ea2 ba2 ca2 => ?_)
  refine ⟨hS.k0, ?_⟩
  refine z_X11_jug hS hj.inv ba1 ca1 ba2 ca2 (fun ra _ _ => ?_)
  refine g_C ?_
  refine g_A (by omega) (by omega) ?_
  refine g_sc (by omega) (by omega) (fun d1 ed1 bd1 cd1 => ?_)
  refine g_C ?_
  refine g_A (by omega) (by omega) ?_
  refine g_sc (by omega) (by omega) (fun d2 ed2 bd2 cd2 => ?_)
  refine ⟨hS.k336, ?_⟩
  refine z_X12_jug hS hj.inv bd1 cd1 bd2 cd2 (fun rd => ?_)
  exact hk S M hS hj
theorem lc_7 {L : Nat} {xs : Nat → Int32} {S : Sh} {M : Mm} {i : Int} {K : Sh → Mm → Prop} (hS : Shp S) (hj : JX S M) (h0 : 0 ≤ i) (h1 : i + 6 ≤ L) (hL : L ≤ 3072) (hk : ∀ (S1 : Sh) (M1 : Mm), Shp S1 → JX S1 M1 → K S1 M1) : wp_Lc_7 L xs 0 336 S M i K := by
  unfold wp_Lc_7
  refine g_C ?_
  refine g_A (by omega) (by omega) ?_
  refine g_sc (by omega) (by omega) (fun a1 ea1 ba1 ca1 => ?_)
  refine g_C ?_
  refine g_A (by omega) (by omega) ?_
  refine g_sc (by omega) (by omega) (fun a2 ea2 ba2 ca2 => ?_)
  refine ⟨hS.k0, ?_⟩
  refine z_X11_want hS hj.inv ba1 ca1 ba2 ca2 (fun ra _ _ => ?_)
  refine g_C ?_
  refine g_A (by omega) (by omega) ?_
  refine g_sc (by omega) (by omega) (fun d1 ed1 bd1 cd1 => ?_)
  refine g_C ?_
  refine g_A (by omega) (by omega) ?_
  refine g_sc (by omega) (by omega) (fun d2 ed2 bd2 cd2 => ?_)
  refine ⟨hS.k336, ?_⟩
  refine z_X12_want hS hj.inv bd1 cd1 bd2 cd2 (fun rd => ?_)
  exact hk S M hS hj
theorem lc_8 {L : Nat} {xs : Nat → Int32} {S : Sh} {M : Mm} {i : Int} {K : Sh → Mm → Prop} (hS : Shp S) (hj : JX S M) (h0 : 0 ≤ i) (h1 : i + 6 ≤ L) (hL : L ≤ 3072) (hk : ∀ (S1 : Sh) (M1 : Mm), Shp S1 → JX S1 M1 → K S1 M1) : wp_Lc_8 L xs 0 336 S M i K := by
  unfold wp_Lc_8
  refine ⟨hS.k0, ?_⟩
  refine z_X11_hour hS hj.inv (fun ra Ma hMa _ _ => ?_)
  have ja := hj.of hMa
  refine ⟨hS.k336, ?_⟩
  refine z_X12_hour hS ja.inv (fun rd Md hMd _ _ => ?_)
  have jd := ja.of hMd
  exact hk S Md hS jd
theorem lc_9 {L : Nat} {xs : Nat → Int32} {S : Sh} {M : Mm} {i : Int} {K : Sh → Mm → Prop} (hS : Shp S) (hj : JX S M) (h0 : 0 ≤ i) (h1 : i + 6 ≤ L) (hL : L ≤ 3072) (hk : ∀ (S1 : Sh) (M1 : Mm), Shp S1 → JX S1 M1 → K S1 M1) : wp_Lc_9 L xs 0 336 S M i K := by
  unfold wp_Lc_9
  refine g_C ?_
  refine g_A (by omega) (by omega) ?_
  refine g_sc (by omega) (by omega) (fun a1 ea1 ba1 ca1 => ?_)
  refine g_C ?_
  refine g_A (by omega) (by omega) ?_
  refine g_sc (by omega) (by omega) (fun a2 ea2 ba2 ca2 => ?_)
  refine ⟨hS.k0, ?_⟩
  refine z_X11_take hS hj.inv ba1 ca1 ba2 ca2 (fun ra Ma hMa _ _ => ?_)
  have ja := hj.of hMa
  refine g_C ?_
  refine g_A (by omega) (by omega) ?_
  refine g_sc (by omega) (by omega) (fun d1 ed1 bd1 cd1 => ?_)
  refine g_C ?_
  refine g_A (by omega) (by omega) ?_
  refine g_sc (by omega) (by omega) (fun d2 ed2 bd2 cd2 => ?_)
  refine ⟨hS.k336, ?_⟩
  refine z_X12_take hS ja.inv bd1 cd1 bd2 cd2 (fun rd Md hMd _ _ => ?_)
  have jd := ja.of hMd
  exact hk S Md hS jd
theorem lc_10 {L : Nat} {xs : Nat → Int32} {S : Sh} {M : Mm} {i : Int} {K : Sh → Mm → Prop} (hS : Shp S) (hj : JX S M) (h0 : 0 ≤ i) (h1 : i + 6 ≤ L) (hL : L ≤ 3072) (hk : ∀ (S1 : Sh) (M1 : Mm), Shp S1 → JX S1 M1 → K S1 M1) : wp_Lc_10 L xs 0 336 S M i K := by
  unfold wp_Lc_10
  refine g_C ?_
  refine g_A (by omega) (by omega) ?_
  refine g_sc (by omega) (by omega) (fun a1 ea1 ba1 ca1 => ?_)
  refine g_C ?_
  refine g_A (by omega) (by omega) ?_
  refine g_sc (by omega) (by omega) (fun a2 ea2 ba2 ca2 => ?_)
  refine ⟨hS.k0, ?_⟩
  refine z_X11_put hS hj.inv ba1 ca1 ba2 ca2 (fun ra Ma hMa _ _ => ?_)
  have ja := hj.of hMa
  refine g_C ?_
  refine g_A (by omega) (by omega) ?_
  refine g_sc (by omega) (by omega) (fun d1 ed1 bd1 cd1 => ?_)
  refine g_C ?_
  refine g_A (by omega) (by omega) ?_
  refine g_sc (by omega) (by omega) (fun d2 ed2 bd2 cd2 => ?_)
  refine ⟨hS.k336, ?_⟩
  refine z_X12_put hS ja.inv bd1 cd1 bd2 cd2 (fun rd Md hMd _ _ => ?_)
  have jd := ja.of hMd
  exact hk S Md hS jd
theorem lc_11 {L : Nat} {xs : Nat → Int32} {S : Sh} {M : Mm} {i : Int} {K : Sh → Mm → Prop} (hS : Shp S) (hj : JX S M) (h0 : 0 ≤ i) (h1 : i + 6 ≤ L) (hL : L ≤ 3072) (hk : ∀ (S1 : Sh) (M1 : Mm), Shp S1 → JX S1 M1 → K S1 M1) : wp_Lc_11 L xs 0 336 S M i K := by
  unfold wp_Lc_11
  refine g_C ?_
  refine g_A (by omega) (by omega) ?_
  refine g_sc (by omega) (by omega) (fun a1 ea1 ba1 ca1 => ?_)
  refine g_C ?_
  refine g_A (by omega) (by omega) ?_
  refine g_sc (by omega) (by omega) (fun a2 ea2 ba2 ca2 => ?_)
  refine ⟨hS.k0, ?_⟩
  refine z_X11_handOn hS hj.inv ba1 ca1 ba2 ca2 (fun ra Ma hMa _ _ => ?_)
  have ja := hj.of hMa
  refine g_C ?_
  refine g_A (by omega) (by omega) ?_
  refine g_sc (by omega) (by omega) (fun d1 ed1 bd1 cd1 => ?_)
  refine g_C ?_
  refine g_A (by omega) (by omega) ?_
  refine g_sc (by omega) (by omega) (fun d2 ed2 bd2 cd2 => ?_)
  refine ⟨hS.k336, ?_⟩
  refine z_X12_handOn hS ja.inv bd1 cd1 bd2 cd2 (fun rd Md hMd _ _ => ?_)
  have jd := ja.of hMd
  exact hk S Md hS jd
theorem lc_12 {L : Nat} {xs : Nat → Int32} {S : Sh} {M : Mm} {i : Int} {K : Sh → Mm → Prop} (hS : Shp S) (hj : JX S M) (h0 : 0 ≤ i) (h1 : i + 6 ≤ L) (hL : L ≤ 3072) (hk : ∀ (S1 : Sh) (M1 : Mm), Shp S1 → JX S1 M1 → K S1 M1) : wp_Lc_12 L xs 0 336 S M i K := by
  unfold wp_Lc_12
  refine g_C ?_
  refine g_A (by omega) (by omega) ?_
  refine g_sc (by omega) (by omega) (fun a1 ea1 ba1 ca1 => ?_)
  refine g_C ?_
  refine g_A (by omega) (by omega) ?_
  refine g_sc (by omega) (by omega) (fun a2 ea2 ba2 ca2 => ?_)
  refine ⟨hS.k0, ?_⟩
  refine z_X11_go hS hj.inv ba1 ca1 ba2 ca2 (fun ra Ma hMa _ _ => ?_)
  have ja := hj.of hMa
  refine g_C ?_
  refine g_A (by omega) (by omega) ?_
  refine g_sc (by omega) (by omega) (fun d1 ed1 bd1 cd1 => ?_)
  refine g_C ?_
  refine g_A (by omega) (by omega) ?_
  refine g_sc (by omega) (by omega) (fun d2 ed2 bd2 cd2 => ?_)
  refine ⟨hS.k336, ?_⟩
  refine z_X12_go hS ja.inv bd1 cd1 bd2 cd2 (fun rd Md hMd _ _ => ?_)
  have jd := ja.of hMd
  exact hk S Md hS jd
theorem lc_13 {L : Nat} {xs : Nat → Int32} {S : Sh} {M : Mm} {i : Int} {K : Sh → Mm → Prop} (hS : Shp S) (hj : JX S M) (h0 : 0 ≤ i) (h1 : i + 6 ≤ L) (hL : L ≤ 3072) (hk : ∀ (S1 : Sh) (M1 : Mm), Shp S1 → JX S1 M1 → K S1 M1) : wp_Lc_13 L xs 0 336 S M i K := by
  unfold wp_Lc_13
  refine g_C ?_
  refine g_A (by omega) (by omega) ?_
  refine g_sc (by omega) (by omega) (fun a1 ea1 ba1 ca1 => ?_)
  refine ⟨hS.k0, ?_⟩
  refine z_X11_meet hS hj.inv ba1 ca1 (fun ra Ma hMa _ _ => ?_)
  have ja := hj.of hMa
  refine g_C ?_
  refine g_A (by omega) (by omega) ?_
  refine g_sc (by omega) (by omega) (fun d1 ed1 bd1 cd1 => ?_)
  refine ⟨hS.k336, ?_⟩
  refine z_X12_meet hS ja.inv bd1 cd1 (fun rd Md hMd _ _ => ?_)
  have jd := ja.of hMd
  exact hk S Md hS jd
theorem lc_14 {L : Nat} {xs : Nat → Int32} {S : Sh} {M : Mm} {i : Int} {K : Sh → Mm → Prop} (hS : Shp S) (hj : JX S M) (h0 : 0 ≤ i) (h1 : i + 6 ≤ L) (hL : L ≤ 3072) (hk : ∀ (S1 : Sh) (M1 : Mm), Shp S1 → JX S1 M1 → K S1 M1) : wp_Lc_14 L xs 0 336 S M i K := by
  unfold wp_Lc_14
  refine ⟨hS.k0, ?_⟩
  refine z_X11_undo hS hj.inv (fun ra Ma hMa _ _ => ?_)
  have ja := hj.of hMa
  refine ⟨hS.k336, ?_⟩
  refine zj_undo12 hS ja (fun rd Md jd => ?_)
  exact hk S Md hS jd
theorem lc_15 {L : Nat} {xs : Nat → Int32} {S : Sh} {M : Mm} {i : Int} {K : Sh → Mm → Prop} (hS : Shp S) (hj : JX S M) (h0 : 0 ≤ i) (h1 : i + 6 ≤ L) (hL : L ≤ 3072) (hk : ∀ (S1 : Sh) (M1 : Mm), Shp S1 → JX S1 M1 → K S1 M1) : wp_Lc_15 L xs 0 336 S M i K := by
  unfold wp_Lc_15
  refine g_C ?_
  refine g_A (by omega) (by omega) ?_
  refine g_sc (by omega) (by omega) (fun a1 ea1 ba1 ca1 => ?_)
  refine g_C ?_
  refine g_A (by omega) (by omega) ?_
  refine g_sc (by omega) (by omega) (fun a2 ea2 ba2 ca2 => ?_)
  refine g_C ?_
  refine g_A (by omega) (by omega) ?_
  refine g_sc (by omega) (by omega) (fun a3 ea3 ba3 ca3 => ?_)
  refine ⟨hS.k0, ?_⟩
  refine z_X11_ahead hS hj.inv ba1 ca1 ba2 ca2 ba3 ca3 (fun ra Ma hMa _ _ => ?_)
  have ja := hj.of hMa
  refine g_C ?_
  refine g_A (by omega) (by omega) ?_
  refine g_sc (by omega) (by omega) (fun d1 ed1 bd1 cd1 => ?_)
  refine g_C ?_
  refine g_A (by omega) (by omega) ?_
  refine g_sc (by omega) (by omega) (fun d2 ed2 bd2 cd2 => ?_)
  refine g_C ?_
  refine g_A (by omega) (by omega) ?_
  refine g_sc (by omega) (by omega) (fun d3 ed3 bd3 cd3 => ?_)
  refine ⟨hS.k336, ?_⟩
  refine z_X12_ahead hS ja.inv bd1 cd1 bd2 cd2 bd3 cd3 (fun rd Md hMd _ _ => ?_)
  have jd := ja.of hMd
  exact hk S Md hS jd
theorem lc_16 {L : Nat} {xs : Nat → Int32} {S : Sh} {M : Mm} {i : Int} {K : Sh → Mm → Prop} (hS : Shp S) (hj : JX S M) (h0 : 0 ≤ i) (h1 : i + 6 ≤ L) (hL : L ≤ 3072) (hk : ∀ (S1 : Sh) (M1 : Mm), Shp S1 → JX S1 M1 → K S1 M1) : wp_Lc_16 L xs 0 336 S M i K := by
  unfold wp_Lc_16
  refine g_C ?_
  refine g_A (by omega) (by omega) ?_
  refine g_sc (by omega) (by omega) (fun a1 ea1 ba1 ca1 => ?_)
  refine g_C ?_
  refine g_A (by omega) (by omega) ?_
  refine g_sc (by omega) (by omega) (fun a2 ea2 ba2 ca2 => ?_)
  refine g_C ?_
  refine g_A (by omega) (by omega) ?_
  refine g_sc (by omega) (by omega) (fun a3 ea3 ba3 ca3 => ?_)
  refine ⟨hS.k0, ?_⟩
  refine z_X11_way hS hj.inv ba1 ca1 ba2 ca2 ba3 ca3 (fun ra _ _ => ?_)
  refine g_C ?_
  refine g_A (by omega) (by omega) ?_
  refine g_sc (by omega) (by omega) (fun d1 ed1 bd1 cd1 => ?_)
  refine g_C ?_
  refine g_A (by omega) (by omega) ?_
  refine g_sc (by omega) (by omega) (fun d2 ed2 bd2 cd2 => ?_)
  refine g_C ?_
  refine g_A (by omega) (by omega) ?_
  refine g_sc (by omega) (by omega) (fun d3 ed3 bd3 cd3 => ?_)
  refine ⟨hS.k336, ?_⟩
  refine z_X12_way hS hj.inv bd1 cd1 bd2 cd2 bd3 cd3 (fun rd Md hMd _ _ => ?_)
  have jd := hj.of hMd
  exact hk S Md hS jd
theorem lc_17 {L : Nat} {xs : Nat → Int32} {S : Sh} {M : Mm} {i : Int} {K : Sh → Mm → Prop} (hS : Shp S) (hj : JX S M) (h0 : 0 ≤ i) (h1 : i + 6 ≤ L) (hL : L ≤ 3072) (hk : ∀ (S1 : Sh) (M1 : Mm), Shp S1 → JX S1 M1 → K S1 M1) : wp_Lc_17 L xs 0 336 S M i K := by
  unfold wp_Lc_17
  refine g_C ?_
  refine g_A (by omega) (by omega) ?_
  refine g_sc (by omega) (by omega) (fun a1 ea1 ba1 ca1 => ?_)
  refine g_C ?_
  refine g_A (by omega) (by omega) ?_
  refine g_sc (by omega) (by omega) (fun a2 ea2 ba2 ca2 => ?_)
  refine g_C ?_
  refine g_A (by omega) (by omega) ?_
  refine g_sc (by omega) (by omega) (fun a3 ea3 ba3 ca3 => ?_)
  refine ⟨hS.k0, ?_⟩
  refine z_X11_brings hS hj.inv ba1 ca1 ba2 ca2 ba3 ca3 (fun ra Ma hMa _ _ => ?_)
  have ja := hj.of hMa
  refine g_C ?_
  refine g_A (by omega) (by omega) ?_
  refine g_sc (by omega) (by omega) (fun d1 ed1 bd1 cd1 => ?_)
  refine g_C ?_
  refine g_A (by omega) (by omega) ?_
  refine g_sc (by omega) (by omega) (fun d2 ed2 bd2 cd2 => ?_)
  refine g_C ?_
  refine g_A (by omega) (by omega) ?_
  refine g_sc (by omega) (by omega) (fun d3 ed3 bd3 cd3 => ?_)
  refine ⟨hS.k336, ?_⟩
  refine z_X12_brings hS ja.inv bd1 cd1 bd2 cd2 bd3 cd3 (fun rd Md hMd _ _ => ?_)
  have jd := ja.of hMd
  exact hk S Md hS jd
theorem lc_18 {L : Nat} {xs : Nat → Int32} {S : Sh} {M : Mm} {i : Int} {K : Sh → Mm → Prop} (hS : Shp S) (hj : JX S M) (h0 : 0 ≤ i) (h1 : i + 6 ≤ L) (hL : L ≤ 3072) (hk : ∀ (S1 : Sh) (M1 : Mm), Shp S1 → JX S1 M1 → K S1 M1) : wp_Lc_18 L xs 0 336 S M i K := by
  unfold wp_Lc_18
  refine g_C ?_
  refine g_A (by omega) (by omega) ?_
  refine g_sc (by omega) (by omega) (fun a1 ea1 ba1 ca1 => ?_)
  refine g_C ?_
  refine g_A (by omega) (by omega) ?_
  refine g_sc (by omega) (by omega) (fun a2 ea2 ba2 ca2 => ?_)
  refine g_C ?_
  refine g_A (by omega) (by omega) ?_
  refine g_sc (by omega) (by omega) (fun a3 ea3 ba3 ca3 => ?_)
  refine g_C ?_
  refine g_A (by omega) (by omega) ?_
  refine g_sc (by omega) (by omega) (fun a4 ea4 ba4 ca4 => ?_)
  refine g_C ?_
  refine g_A (by omega) (by omega) ?_
  refine g_sc (by omega) (by omega) (fun a5 ea5 ba5 ca5 => ?_)
  refine ⟨hS.k0, ?_⟩
  refine z_X11_relay hS hj.inv ba1 ca1 ba2 ca2 ba3 ca3 ba4 ca4 ba5 ca5 (fun ra Ma hMa _ _ => ?_)
  have ja := hj.of hMa
  refine g_C ?_
  refine g_A (by omega) (by omega) ?_
  refine g_sc (by omega) (by omega) (fun d1 ed1 bd1 cd1 => ?_)
  refine g_C ?_
  refine g_A (by omega) (by omega) ?_
  refine g_sc (by omega) (by omega) (fun d2 ed2 bd2 cd2 => ?_)
  refine g_C ?_
  refine g_A (by omega) (by omega) ?_
  refine g_sc (by omega) (by omega) (fun d3 ed3 bd3 cd3 => ?_)
  refine g_C ?_
  refine g_A (by omega) (by omega) ?_
  refine g_sc (by omega) (by omega) (fun d4 ed4 bd4 cd4 => ?_)
  refine g_C ?_
  refine g_A (by omega) (by omega) ?_
  refine g_sc (by omega) (by omega) (fun d5 ed5 bd5 cd5 => ?_)
  refine ⟨hS.k336, ?_⟩
  refine z_X12_relay hS ja.inv bd1 cd1 bd2 cd2 bd3 cd3 bd4 cd4 bd5 cd5 (fun rd Md hMd _ _ => ?_)
  have jd := ja.of hMd
  exact hk S Md hS jd
theorem lc_19 {L : Nat} {xs : Nat → Int32} {S : Sh} {M : Mm} {i : Int} {K : Sh → Mm → Prop} (hS : Shp S) (hj : JX S M) (h0 : 0 ≤ i) (h1 : i + 6 ≤ L) (hL : L ≤ 3072) (hk : ∀ (S1 : Sh) (M1 : Mm), Shp S1 → JX S1 M1 → K S1 M1) : wp_Lc_19 L xs 0 336 S M i K := by
  unfold wp_Lc_19
  refine g_C ?_
  refine g_A (by omega) (by omega) ?_
  refine g_sc (by omega) (by omega) (fun a1 ea1 ba1 ca1 => ?_)
  refine ⟨hS.k0, ?_⟩
  refine z_X11_match hS hj.inv ba1 ca1 (fun ra Ma hMa _ _ => ?_)
  have ja := hj.of hMa
  refine g_C ?_
  refine g_A (by omega) (by omega) ?_
  refine g_sc (by omega) (by omega) (fun d1 ed1 bd1 cd1 => ?_)
  refine ⟨hS.k336, ?_⟩
  refine z_X12_match hS ja.inv bd1 cd1 (fun rd _ _ => ?_)
  exact hk S Ma hS ja
theorem lc_20 {L : Nat} {xs : Nat → Int32} {S : Sh} {M : Mm} {i : Int} {K : Sh → Mm → Prop} (hS : Shp S) (hj : JX S M) (h0 : 0 ≤ i) (h1 : i + 6 ≤ L) (hL : L ≤ 3072) (hk : ∀ (S1 : Sh) (M1 : Mm), Shp S1 → JX S1 M1 → K S1 M1) : wp_Lc_20 L xs 0 336 S M i K := by
  unfold wp_Lc_20
  refine g_C ?_
  refine g_A (by omega) (by omega) ?_
  refine g_sc (by omega) (by omega) (fun a1 ea1 ba1 ca1 => ?_)
  refine g_C ?_
  refine g_A (by omega) (by omega) ?_
  refine g_sc (by omega) (by omega) (fun a2 ea2 ba2 ca2 => ?_)
  refine g_C ?_
  refine g_A (by omega) (by omega) ?_
  refine g_sc (by omega) (by omega) (fun a3 ea3 ba3 ca3 => ?_)
  refine g_C ?_
  refine g_A (by omega) (by omega) ?_
  refine g_sc (by omega) (by omega) (fun a4 ea4 ba4 ca4 => ?_)
  refine ⟨hS.k0, ?_⟩
  refine z_X11_rest hS hj.inv ba1 ca1 ba2 ca2 ba3 ca3 ba4 ca4 (fun ra Ma hMa _ _ => ?_)
  have ja := hj.of hMa
  refine g_C ?_
  refine g_A (by omega) (by omega) ?_
  refine g_sc (by omega) (by omega) (fun d1 ed1 bd1 cd1 => ?_)
  refine g_C ?_
  refine g_A (by omega) (by omega) ?_
  refine g_sc (by omega) (by omega) (fun d2 ed2 bd2 cd2 => ?_)
  refine g_C ?_
  refine g_A (by omega) (by omega) ?_
  refine g_sc (by omega) (by omega) (fun d3 ed3 bd3 cd3 => ?_)
  refine g_C ?_
  refine g_A (by omega) (by omega) ?_
  refine g_sc (by omega) (by omega) (fun d4 ed4 bd4 cd4 => ?_)
  refine ⟨hS.k336, ?_⟩
  refine z_X12_rest hS ja.inv bd1 cd1 bd2 cd2 bd3 cd3 bd4 cd4 (fun rd Md hMd _ _ => ?_)
  have jd := ja.of hMd
  exact hk S Md hS jd
theorem lc_21 {L : Nat} {xs : Nat → Int32} {S : Sh} {M : Mm} {i : Int} {K : Sh → Mm → Prop} (hS : Shp S) (hj : JX S M) (h0 : 0 ≤ i) (h1 : i + 6 ≤ L) (hL : L ≤ 3072) (hk : ∀ (S1 : Sh) (M1 : Mm), Shp S1 → JX S1 M1 → K S1 M1) : wp_Lc_21 L xs 0 336 S M i K := by
  unfold wp_Lc_21
  refine g_C ?_
  refine g_A (by omega) (by omega) ?_
  refine g_sc (by omega) (by omega) (fun a1 ea1 ba1 ca1 => ?_)
  refine g_C ?_
  refine g_A (by omega) (by omega) ?_
  refine g_sc (by omega) (by omega) (fun a2 ea2 ba2 ca2 => ?_)
  refine g_C ?_
  refine g_A (by omega) (by omega) ?_
  refine g_sc (by omega) (by omega) (fun a3 ea3 ba3 ca3 => ?_)
  refine g_C ?_
  refine g_A (by omega) (by omega) ?_
  refine g_sc (by omega) (by omega) (fun a4 ea4 ba4 ca4 => ?_)
  refine ⟨hS.k0, ?_⟩
  refine z_X11_test hS hj.inv ba1 ca1 ba2 ca2 ba3 ca3 ba4 ca4 (fun ra Ma hMa _ _ => ?_)
  have ja := hj.of hMa
  refine g_C ?_
  refine g_A (by omega) (by omega) ?_
  refine g_sc (by omega) (by omega) (fun d1 ed1 bd1 cd1 => ?_)
  refine g_C ?_
  refine g_A (by omega) (by omega) ?_
  refine g_sc (by omega) (by omega) (fun d2 ed2 bd2 cd2 => ?_)
  refine g_C ?_
  refine g_A (by omega) (by omega) ?_
  refine g_sc (by omega) (by omega) (fun d3 ed3 bd3 cd3 => ?_)
  refine g_C ?_
  refine g_A (by omega) (by omega) ?_
  refine g_sc (by omega) (by omega) (fun d4 ed4 bd4 cd4 => ?_)
  refine ⟨hS.k336, ?_⟩
  refine z_X12_test hS ja.inv bd1 cd1 bd2 cd2 bd3 cd3 bd4 cd4 (fun rd Md hMd _ _ => ?_)
  have jd := ja.of hMd
  exact hk S Md hS jd
theorem lc_22 {L : Nat} {xs : Nat → Int32} {S : Sh} {M : Mm} {i : Int} {K : Sh → Mm → Prop} (hS : Shp S) (hj : JX S M) (h0 : 0 ≤ i) (h1 : i + 6 ≤ L) (hL : L ≤ 3072) (hk : ∀ (S1 : Sh) (M1 : Mm), Shp S1 → JX S1 M1 → K S1 M1) : wp_Lc_22 L xs 0 336 S M i K := by
  unfold wp_Lc_22
  refine g_C ?_
  refine g_A (by omega) (by omega) ?_
  refine g_sc (by omega) (by omega) (fun a1 ea1 ba1 ca1 => ?_)
  refine ⟨hS.k0, ?_⟩
  refine z_X11_who hS hj.inv ba1 ca1 (fun ra Ma hMa _ _ => ?_)
  have ja := hj.of hMa
  refine g_C ?_
  refine g_A (by omega) (by omega) ?_
  refine g_sc (by omega) (by omega) (fun d1 ed1 bd1 cd1 => ?_)
  refine ⟨hS.k336, ?_⟩
  refine z_X12_who hS ja.inv bd1 cd1 (fun rd Md hMd _ _ => ?_)
  have jd := ja.of hMd
  exact hk S Md hS jd
theorem lc_23 {L : Nat} {xs : Nat → Int32} {S : Sh} {M : Mm} {i : Int} {K : Sh → Mm → Prop} (hS : Shp S) (hj : JX S M) (h0 : 0 ≤ i) (h1 : i + 6 ≤ L) (hL : L ≤ 3072) (hk : ∀ (S1 : Sh) (M1 : Mm), Shp S1 → JX S1 M1 → K S1 M1) : wp_Lc_23 L xs 0 336 S M i K := by
  unfold wp_Lc_23
  refine g_C ?_
  refine g_A (by omega) (by omega) ?_
  refine g_sc (by omega) (by omega) (fun a1 ea1 ba1 ca1 => ?_)
  refine ⟨hS.k0, ?_⟩
  refine z_X11_probe hS hj.inv ba1 ca1 (fun ra Ma hMa _ _ => ?_)
  have ja := hj.of hMa
  refine g_C ?_
  refine g_A (by omega) (by omega) ?_
  refine g_sc (by omega) (by omega) (fun d1 ed1 bd1 cd1 => ?_)
  refine ⟨hS.k336, ?_⟩
  refine z_X12_probe hS ja.inv bd1 cd1 (fun rd Md hMd _ _ => ?_)
  have jd := ja.of hMd
  exact hk S Md hS jd
theorem lc_24 {L : Nat} {xs : Nat → Int32} {S : Sh} {M : Mm} {i : Int} {K : Sh → Mm → Prop} (hS : Shp S) (hj : JX S M) (h0 : 0 ≤ i) (h1 : i + 6 ≤ L) (hL : L ≤ 3072) (hk : ∀ (S1 : Sh) (M1 : Mm), Shp S1 → JX S1 M1 → K S1 M1) : wp_Lc_24 L xs 0 336 S M i K := by
  unfold wp_Lc_24
  refine g_C ?_
  refine g_A (by omega) (by omega) ?_
  refine g_sc (by omega) (by omega) (fun a1 ea1 ba1 ca1 => ?_)
  refine g_C ?_
  refine g_A (by omega) (by omega) ?_
  refine g_sc (by omega) (by omega) (fun a2 ea2 ba2 ca2 => ?_)
  refine g_C ?_
  refine g_A (by omega) (by omega) ?_
  refine g_sc (by omega) (by omega) (fun a3 ea3 ba3 ca3 => ?_)
  refine ⟨hS.k0, ?_⟩
  refine z_X11_rows hS hj.inv ba1 ca1 ba2 ca2 ba3 ca3 (fun ra Ma hMa _ _ => ?_)
  have ja := hj.of hMa
  refine g_C ?_
  refine g_A (by omega) (by omega) ?_
  refine g_sc (by omega) (by omega) (fun d1 ed1 bd1 cd1 => ?_)
  refine g_C ?_
  refine g_A (by omega) (by omega) ?_
  refine g_sc (by omega) (by omega) (fun d2 ed2 bd2 cd2 => ?_)
  refine g_C ?_
  refine g_A (by omega) (by omega) ?_
  refine g_sc (by omega) (by omega) (fun d3 ed3 bd3 cd3 => ?_)
  refine ⟨hS.k336, ?_⟩
  refine z_X12_rows hS ja.inv (fun rd Md hMd => ?_)
  have jd := ja.of hMd
  exact hk S Md hS jd
theorem lc_25 {L : Nat} {xs : Nat → Int32} {S : Sh} {M : Mm} {i : Int} {K : Sh → Mm → Prop} (hS : Shp S) (hj : JX S M) (h0 : 0 ≤ i) (h1 : i + 6 ≤ L) (hL : L ≤ 3072) (hk : ∀ (S1 : Sh) (M1 : Mm), Shp S1 → JX S1 M1 → K S1 M1) : wp_Lc_25 L xs 0 336 S M i K := by
  unfold wp_Lc_25
  refine g_C ?_
  refine g_A (by omega) (by omega) ?_
  refine g_sc (by omega) (by omega) (fun a1 ea1 ba1 ca1 => ?_)
  refine ⟨hS.k0, ?_⟩
  refine z_X11_ice hS hj.inv ba1 ca1 (fun ra Ma hMa _ _ => ?_)
  have ja := hj.of hMa
  refine g_C ?_
  refine g_A (by omega) (by omega) ?_
  refine g_sc (by omega) (by omega) (fun d1 ed1 bd1 cd1 => ?_)
  refine ⟨hS.k336, ?_⟩
  refine z_X12_ice hS ja.inv bd1 cd1 (fun rd Md hMd _ _ => ?_)
  have jd := ja.of hMd
  exact hk S Md hS jd
theorem lc_26 {L : Nat} {xs : Nat → Int32} {S : Sh} {M : Mm} {i : Int} {K : Sh → Mm → Prop} (hS : Shp S) (hj : JX S M) (h0 : 0 ≤ i) (h1 : i + 6 ≤ L) (hL : L ≤ 3072) (hk : ∀ (S1 : Sh) (M1 : Mm), Shp S1 → JX S1 M1 → K S1 M1) : wp_Lc_26 L xs 0 336 S M i K := by
  unfold wp_Lc_26
  refine g_C ?_
  refine g_A (by omega) (by omega) ?_
  refine g_sc (by omega) (by omega) (fun a1 ea1 ba1 ca1 => ?_)
  refine ⟨hS.k0, ?_⟩
  refine zj_seed11 hS hj.1 (fun w => ?_) (fun w => ?_)
  · refine g_C ?_
    refine g_A (by omega) (by omega) ?_
    refine g_sc (by omega) (by omega) (fun z ez bz cz => ?_)
    obtain rfl : z = a1 := by omega
    refine ⟨hS.k336, ?_⟩
    refine zj_seed12 hS (fun w2 => ?_) (fun w2 => absurd w2 (by omega))
    obtain ⟨m1, em1⟩ : ∃ m1 : Mm, m1 = up M 3 3 z := ⟨_, rfl⟩
    obtain ⟨m2, em2⟩ : ∃ m2 : Mm, m2 = up m1 336 22 z := ⟨_, rfl⟩
    rw [← em1, ← em2]
    have f1 : ∀ c p : Int, ¬ (c = 3 ∧ p = 3) → m1 c p = M c p := fun c p q => (congrFun (congrFun em1 _) _).trans (up_ne q)
    have y1 : m1 3 3 = z := (congrFun (congrFun em1 _) _).trans (up_at _ _ _ _)
    have f2 : ∀ c p : Int, ¬ (c = 336 ∧ p = 22) → m2 c p = m1 c p := fun c p q => (congrFun (congrFun em2 _) _).trans (up_ne q)
    have y2 : m2 336 22 = z := (congrFun (congrFun em2 _) _).trans (up_at _ _ _ _)
    have j1 : Jc S m1 := hj.1.up1 3 3 em1 (okb_of (l := 0) (u := 2147483647) (by decide +kernel) w cz) (by decide) (hj.1.2.2.2.1.eq (fun p q => f1 336 p (by omega)) (fun c p q => f1 c p (by omega))) (by decide)
    have j2 : Jc S m2 := j1.up1 336 22 em2 (okb_of (l := 0) (u := 2147483647) (by decide +kernel) w cz) (by decide) (j1.2.2.2.1.eq (fun p q => f2 336 p (by omega)) (fun c p q => f2 c p (by omega))) (by decide)
    refine hk S m2 hS ⟨j2, Xr.mk (by rw [y2, f2 3 3 (by omega), y1]) (fun k k0 k1 => ?_), hj.2.2.out (fun c p q1 q2 => (f2 c p q2).trans (f1 c p q1))⟩
    rw [f2 _ 3 (by omega), f2 _ 9 (by omega), f2 356 k (by omega), f2 357 k (by omega), f1 _ 3 (by omega), f1 _ 9 (by omega), f1 356 k (by omega), f1 357 k (by omega)]
    exact hj.2.1.k k0 k1
  · refine g_C ?_
    refine g_A (by omega) (by omega) ?_
    refine g_sc (by omega) (by omega) (fun z ez bz cz => ?_)
    obtain rfl : z = a1 := by omega
    refine ⟨hS.k336, ?_⟩
    exact zj_seed12 hS (fun w2 => absurd w2 (by omega)) (fun w2 => hk S M hS hj)
theorem lc_27 {L : Nat} {xs : Nat → Int32} {S : Sh} {M : Mm} {i : Int} {K : Sh → Mm → Prop} (hS : Shp S) (hj : JX S M) (h0 : 0 ≤ i) (h1 : i + 6 ≤ L) (hL : L ≤ 3072) (hk : ∀ (S1 : Sh) (M1 : Mm), Shp S1 → JX S1 M1 → K S1 M1) : wp_Lc_27 L xs 0 336 S M i K := by
  unfold wp_Lc_27
  refine g_C ?_
  refine g_A (by omega) (by omega) ?_
  refine g_sc (by omega) (by omega) (fun a1 ea1 ba1 ca1 => ?_)
  refine g_C ?_
  refine g_A (by omega) (by omega) ?_
  refine g_sc (by omega) (by omega) (fun a2 ea2 ba2 ca2 => ?_)
  refine g_C ?_
  refine g_A (by omega) (by omega) ?_
  refine g_sc (by omega) (by omega) (fun a3 ea3 ba3 ca3 => ?_)
  refine ⟨hS.k0, ?_⟩
  refine z_X11_years hS hj.inv ba1 ca1 ba2 ca2 ba3 ca3 (fun ra Ma hMa _ _ => ?_)
  have ja := hj.of hMa
  refine g_C ?_
  refine g_A (by omega) (by omega) ?_
  refine g_sc (by omega) (by omega) (fun d1 ed1 bd1 cd1 => ?_)
  refine g_C ?_
  refine g_A (by omega) (by omega) ?_
  refine g_sc (by omega) (by omega) (fun d2 ed2 bd2 cd2 => ?_)
  refine g_C ?_
  refine g_A (by omega) (by omega) ?_
  refine g_sc (by omega) (by omega) (fun d3 ed3 bd3 cd3 => ?_)
  refine ⟨hS.k336, ?_⟩
  refine z_X12_years hS ja.inv bd1 cd1 bd2 cd2 bd3 cd3 (fun rd Md hMd _ _ => ?_)
  have jd := ja.of hMd
  exact hk S Md hS jd
theorem lc_28 {L : Nat} {xs : Nat → Int32} {S : Sh} {M : Mm} {i : Int} {K : Sh → Mm → Prop} (hS : Shp S) (hj : JX S M) (h0 : 0 ≤ i) (h1 : i + 6 ≤ L) (hL : L ≤ 3072) (hk : ∀ (S1 : Sh) (M1 : Mm), Shp S1 → JX S1 M1 → K S1 M1) : wp_Lc_28 L xs 0 336 S M i K := by
  unfold wp_Lc_28
  refine g_C ?_
  refine g_A (by omega) (by omega) ?_
  refine g_sc (by omega) (by omega) (fun a1 ea1 ba1 ca1 => ?_)
  refine ⟨hS.k0, ?_⟩
  refine z_X11_count hS hj.inv ba1 ca1 (fun ra _ _ => ?_)
  refine g_C ?_
  refine g_A (by omega) (by omega) ?_
  refine g_sc (by omega) (by omega) (fun d1 ed1 bd1 cd1 => ?_)
  refine ⟨hS.k336, ?_⟩
  refine z_X12_count hS hj.inv bd1 cd1 (fun rd _ _ => ?_)
  exact hk S M hS hj
theorem lc_29 {L : Nat} {xs : Nat → Int32} {S : Sh} {M : Mm} {i : Int} {K : Sh → Mm → Prop} (hS : Shp S) (hj : JX S M) (h0 : 0 ≤ i) (h1 : i + 6 ≤ L) (hL : L ≤ 3072) (hk : ∀ (S1 : Sh) (M1 : Mm), Shp S1 → JX S1 M1 → K S1 M1) : wp_Lc_29 L xs 0 336 S M i K := by
  unfold wp_Lc_29
  refine g_C ?_
  refine g_A (by omega) (by omega) ?_
  refine g_sc (by omega) (by omega) (fun a1 ea1 ba1 ca1 => ?_)
  refine ⟨hS.k0, ?_⟩
  refine zj_image11 hS hj.1 (fun w => ?_) (fun r M1 a b j1 f1 x1 y1 v1 => ?_)
  · refine g_C ?_
    refine g_A (by omega) (by omega) ?_
    refine g_sc (by omega) (by omega) (fun z ez bz cz => ?_)
    obtain rfl : z = a1 := by omega
    refine ⟨hS.k336, ?_⟩
    exact zj_image12 hS hj.1 (fun _ => hk S M hS hj) (fun r M1 a b _ _ _ _ _ => absurd ⟨a, b⟩ w)
  · refine g_C ?_
    refine g_A (by omega) (by omega) ?_
    refine g_sc (by omega) (by omega) (fun z ez bz cz => ?_)
    obtain rfl : z = a1 := by omega
    refine ⟨hS.k336, ?_⟩
    refine zj_image12 hS j1 (fun w => absurd ⟨a, b⟩ w) (fun r2 M2 _ _ j2 f2 x2 y2 v2 => ?_)
    have e22 : M1 336 22 = M 336 22 := f1 336 22 (by decide) (by omega)
    have e21 : M1 336 21 = M 336 21 := f1 336 21 (by decide) (by omega)
    refine hk S M2 hS ⟨j2, Xr.mk ?_ (fun k k0 k1 => ?_), Ya.mk (hj.2.2.up (fun c p q hs => (f2 c p (by omega)).trans (f1 c p hs (by omega)))) ?_ (fun k k0 k1 => ?_)⟩
    · rw [f2 3 3 (by omega), f2 336 22 (by omega), f1 3 3 (by decide) (by omega), e22]
      exact hj.2.1.1
    · by_cases e : k = z
      · rw [e, f2 _ 3 (by omega), f2 _ 9 (by omega), x2, y2, x1, y1, e22]
        exact ⟨hj.2.1.1, rfl⟩
      · rw [f2 _ 3 (by omega), f2 _ 9 (by omega), f2 356 k (by omega), f2 357 k (by omega), f1 _ 3 (im_sp k0 k1).2.1 (by omega), f1 _ 9 (im_sp k0 k1).2.2 (by omega), f1 356 k (by omega) (by omega), f1 357 k (by omega) (by omega)]
        exact hj.2.1.k k0 k1
    · rw [f2 3 2 (by omega), f2 336 21 (by omega), f1 3 2 (by decide) (by omega), e21]
      exact hj.2.2.2.1
    · by_cases e : k = z
      · rw [e, f2 _ 2 (by omega), v2, v1, e21]
        exact Or.inr hj.2.2.2.1
      · rw [f2 _ 2 (by omega), f2 355 k (by omega), f2 357 k (by omega), f1 _ 2 (im_sp k0 k1).1 (by omega), f1 355 k (by omega) (by omega), f1 357 k (by omega) (by omega)]
        exact hj.2.2.k k0 k1
theorem lc_30 {L : Nat} {xs : Nat → Int32} {S : Sh} {M : Mm} {i : Int} {K : Sh → Mm → Prop} (hS : Shp S) (hj : JX S M) (h0 : 0 ≤ i) (h1 : i + 6 ≤ L) (hL : L ≤ 3072) (hk : ∀ (S1 : Sh) (M1 : Mm), Shp S1 → JX S1 M1 → K S1 M1) : wp_Lc_30 L xs 0 336 S M i K := by
  unfold wp_Lc_30
  refine g_C ?_
  refine g_A (by omega) (by omega) ?_
  refine g_sc (by omega) (by omega) (fun a1 ea1 ba1 ca1 => ?_)
  refine ⟨hS.k0, ?_⟩
  refine zj_back11 hS hj.1 (fun w => ?_) (fun r M1 a b nz j1 f1 x1 v1 => ?_)
  · refine g_C ?_
    refine g_A (by omega) (by omega) ?_
    refine g_sc (by omega) (by omega) (fun z ez bz cz => ?_)
    obtain rfl : z = a1 := by omega
    refine ⟨hS.k336, ?_⟩
    refine zj_back12 hS hj.1 (fun _ => hk S M hS hj) (fun r M1 a b nz _ _ _ _ => ?_)
    have q := (hj.2.1.k a b).2
    exfalso
    rcases w with w | w
    · exact w ⟨a, b⟩
    · omega
  · refine g_C ?_
    refine g_A (by omega) (by omega) ?_
    refine g_sc (by omega) (by omega) (fun z ez bz cz => ?_)
    obtain rfl : z = a1 := by omega
    refine ⟨hS.k336, ?_⟩
    have q := hj.2.1.k a b
    have q2 := hj.2.2.k a b
    refine zj_back12 hS j1 (fun w => ?_) (fun r2 M2 _ _ nz2 j2 f2 x2 v2 => ?_)
    · exfalso
      rcases w with w | w
      · exact w ⟨a, b⟩
      · rw [f1 357 _ (by omega) (by omega)] at w
        omega
    · refine hk S M2 hS ⟨j2, Xr.mk ?_ (fun k k0 k1 => ?_), Ya.mk (hj.2.2.up (fun c p q hs => (f2 c p (by omega)).trans (f1 c p hs (by omega)))) ?_ (fun k k0 k1 => ?_)⟩
      · rw [f2 3 3 (by omega), x1, x2, f1 356 _ (by omega) (by omega)]
        exact q.1
      · rw [f2 _ 3 (by omega), f2 _ 9 (by omega), f2 356 k (by omega), f2 357 k (by omega), f1 _ 3 (im_sp k0 k1).2.1 (by omega), f1 _ 9 (im_sp k0 k1).2.2 (by omega), f1 356 k (by omega) (by omega), f1 357 k (by omega) (by omega)]
        exact hj.2.1.k k0 k1
      · rw [f2 3 2 (by omega), v1, v2, f1 355 _ (by omega) (by omega)]
        rcases q2 with q2 | q2
        · omega
        · exact q2
      · rw [f2 _ 2 (by omega), f2 355 k (by omega), f2 357 k (by omega), f1 _ 2 (im_sp k0 k1).1 (by omega), f1 355 k (by omega) (by omega), f1 357 k (by omega) (by omega)]
        exact hj.2.2.k k0 k1
theorem law_L {L : Nat} {xs : Nat → Int32} (hL : L ≤ 3072) : ∀ (n : Nat) (S : Sh) (M : Mm) (i : Int), Shp S → JX S M → 0 ≤ i → i ≤ 3078 → 3084 - i ≤ 6 * (n : Int) → wp_L L xs 0 336 n S M i := by
  intro n
  induction n with
  | zero => intro S M i _ _ _ _ h; exfalso; omega
  | succ n ih =>
    intro S M i hS hj i0 i1 hn
    unfold wp_L
    refine g_C ?_
    refine g_C ?_
    refine g_S (by omega) (by omega) ?_
    refine g_if (fun _ => trivial) (fun w => ?_)
    refine ⟨⟨i0, by omega⟩, ?_⟩
    have h6 : i + 6 ≤ L := by omega
    refine g_sc i0 (by omega) (fun v ev bv cv => ?_)
    refine g_C ?_
    refine g_Oe (fun s es => ?_)
    have nx : ∀ (S1 : Sh) (M1 : Mm), Shp S1 → JX S1 M1 → wA i 6 fun i1 => wp_L L xs 0 336 n S1 M1 i1 := by
      intro S1 M1 hS1 j1
      refine g_A (by omega) (by omega) ?_
      exact ih S1 M1 (i + 6) hS1 j1 (by omega) (by omega) (by omega)
    refine g_if (fun _ => lc_0 hS hj i0 h6 hL nx) (fun _ => ?_)
    refine g_if (fun _ => lc_1 hS hj i0 h6 hL nx) (fun _ => ?_)
    refine g_if (fun _ => lc_2 hS hj i0 h6 hL nx) (fun _ => ?_)
    refine g_if (fun _ => lc_3 hS hj i0 h6 hL nx) (fun _ => ?_)
    refine g_if (fun _ => lc_4 hS hj i0 h6 hL nx) (fun _ => ?_)
    refine g_if (fun _ => lc_5 hS hj i0 h6 hL nx) (fun _ => ?_)
    refine g_if (fun _ => lc_6 hS hj i0 h6 hL nx) (fun _ => ?_)
    refine g_if (fun _ => lc_7 hS hj i0 h6 hL nx) (fun _ => ?_)
    refine g_if (fun _ => lc_8 hS hj i0 h6 hL nx) (fun _ => ?_)
    refine g_if (fun _ => lc_9 hS hj i0 h6 hL nx) (fun _ => ?_)
    refine g_if (fun _ => lc_10 hS hj i0 h6 hL nx) (fun _ => ?_)
    refine g_if (fun _ => lc_11 hS hj i0 h6 hL nx) (fun _ => ?_)
    refine g_if (fun _ => lc_12 hS hj i0 h6 hL nx) (fun _ => ?_)
    refine g_if (fun _ => lc_13 hS hj i0 h6 hL nx) (fun _ => ?_)
    refine g_if (fun _ => lc_14 hS hj i0 h6 hL nx) (fun _ => ?_)
    refine g_if (fun _ => lc_15 hS hj i0 h6 hL nx) (fun _ => ?_)
    refine g_if (fun _ => lc_16 hS hj i0 h6 hL nx) (fun _ => ?_)
    refine g_if (fun _ => lc_17 hS hj i0 h6 hL nx) (fun _ => ?_)
    refine g_if (fun _ => lc_18 hS hj i0 h6 hL nx) (fun _ => ?_)
    refine g_if (fun _ => lc_19 hS hj i0 h6 hL nx) (fun _ => ?_)
    refine g_if (fun _ => lc_20 hS hj i0 h6 hL nx) (fun _ => ?_)
    refine g_if (fun _ => lc_21 hS hj i0 h6 hL nx) (fun _ => ?_)
    refine g_if (fun _ => lc_22 hS hj i0 h6 hL nx) (fun _ => ?_)
    refine g_if (fun _ => lc_23 hS hj i0 h6 hL nx) (fun _ => ?_)
    refine g_if (fun _ => lc_24 hS hj i0 h6 hL nx) (fun _ => ?_)
    refine g_if (fun _ => lc_25 hS hj i0 h6 hL nx) (fun _ => ?_)
    refine g_if (fun _ => lc_26 hS hj i0 h6 hL nx) (fun _ => ?_)
    refine g_if (fun _ => lc_27 hS hj i0 h6 hL nx) (fun _ => ?_)
    refine g_if (fun _ => lc_28 hS hj i0 h6 hL nx) (fun _ => ?_)
    refine g_if (fun _ => lc_29 hS hj i0 h6 hL nx) (fun _ => ?_)
    refine g_if (fun _ => lc_30 hS hj i0 h6 hL nx) (fun _ => ?_)
    exact nx S M hS hj
