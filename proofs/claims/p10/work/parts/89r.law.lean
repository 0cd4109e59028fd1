theorem lc_0 {L : Nat} {xs : Nat → Int32} {S : Sh} {M : Mm} {i n : Int} {K : Sh → Mm → Prop} (hS : Shp S) (hz : RZ S M n) (h0 : 0 ≤ i) (h1 : i + 6 ≤ L) (hL : L ≤ 3072) (n0 : 0 ≤ n) (n1 : n ≤ 600) (hk : ∀ (S1 : Sh) (M1 : Mm), Shp S1 → RZ S1 M1 (n + 1) → K S1 M1) : wp_Lc_0 L xs 0 336 S M i K := by
  unfold wp_Lc_0
  refine g_C ?_
  refine g_A (by omega) (by omega) ?_
  refine g_sc (by omega) (by omega) (fun a1 ea1 ba1 ca1 => ?_)
  refine g_C ?_
  refine g_A (by omega) (by omega) ?_
  refine g_sc (by omega) (by omega) (fun a2 ea2 ba2 ca2 => ?_)
  refine g_C ?_
  refine g_A (by omega) (by omega) ?_
  refine g_sc (by omega) (by omega) (fun a3 ea3 ba3 ca3 => ?_)
  refine g_C ?_
  refine g_A (by omega) (by omega) ?_
  refine g_sc (by omega) (by omega) (fun a4 ea4 ba4 ca4 => ?_)
  refine g_C ?_
  refine g_A (by omega) (by omega) ?_
  refine g_sc (by omega) (by omega) (fun a5 ea5 ba5 ca5 => ?_)
  refine ⟨hS.k0, ?_⟩
  refine zz_feed (K := fun r r2 M2 => K S M2) hS hz (fun r M1 h => ?_) (fun r M1 z1 => hk S M1 hS (z1.mono (by omega)))
  refine g_C ?_
  refine g_A (by omega) (by omega) ?_
  refine g_sc (by omega) (by omega) (fun d1 ed1 bd1 cd1 => ?_)
  refine g_C ?_
  refine g_A (by omega) (by omega) ?_
  refine g_sc (by omega) (by omega) (fun d2 ed2 bd2 cd2 => ?_)
  refine g_C ?_
  refine g_A (by omega) (by omega) ?_
  refine g_sc (by omega) (by omega) (fun d3 ed3 bd3 cd3 => ?_)
  refine g_C ?_
  refine g_A (by omega) (by omega) ?_
  refine g_sc (by omega) (by omega) (fun d4 ed4 bd4 cd4 => ?_)
  refine g_C ?_
  refine g_A (by omega) (by omega) ?_
  refine g_sc (by omega) (by omega) (fun d5 ed5 bd5 cd5 => ?_)
  obtain rfl : d1 = a1 := by omega
  obtain rfl : d2 = a2 := by omega
  obtain rfl : d3 = a3 := by omega
  obtain rfl : d4 = a4 := by omega
  obtain rfl : d5 = a5 := by omega
  exact ⟨hS.k336, h⟩
theorem lc_1 {L : Nat} {xs : Nat → Int32} {S : Sh} {M : Mm} {i n : Int} {K : Sh → Mm → Prop} (hS : Shp S) (hz : RZ S M n) (h0 : 0 ≤ i) (h1 : i + 6 ≤ L) (hL : L ≤ 3072) (n0 : 0 ≤ n) (n1 : n ≤ 600) (hk : ∀ (S1 : Sh) (M1 : Mm), Shp S1 → RZ S1 M1 (n + 1) → K S1 M1) : wp_Lc_1 L xs 0 336 S M i K := by
  unfold wp_Lc_1
  refine g_C ?_
  refine g_A (by omega) (by omega) ?_
  refine g_sc (by omega) (by omega) (fun a1 ea1 ba1 ca1 => ?_)
  refine ⟨hS.k0, ?_⟩
  refine zz_end (K := fun r r2 M2 => K S M2) hS hz (fun r M1 h => ?_) (fun r M1 z1 => hk S M1 hS (z1.mono (by omega)))
  refine g_C ?_
  refine g_A (by omega) (by omega) ?_
  refine g_sc (by omega) (by omega) (fun d1 ed1 bd1 cd1 => ?_)
  obtain rfl : d1 = a1 := by omega
  exact ⟨hS.k336, h⟩
theorem lc_2 {L : Nat} {xs : Nat → Int32} {S : Sh} {M : Mm} {i n : Int} {K : Sh → Mm → Prop} (hS : Shp S) (hz : RZ S M n) (h0 : 0 ≤ i) (h1 : i + 6 ≤ L) (hL : L ≤ 3072) (n0 : 0 ≤ n) (n1 : n ≤ 600) (hk : ∀ (S1 : Sh) (M1 : Mm), Shp S1 → RZ S1 M1 (n + 1) → K S1 M1) : wp_Lc_2 L xs 0 336 S M i K := by
  unfold wp_Lc_2
  refine ⟨hS.k0, ?_⟩
  refine zz_dairy (K := fun r r2 M2 => K S M2) hS hz n0 (fun r M1 h => ?_) (fun r M1 z1 => hk S M1 hS (z1.mono (by omega)))
  exact ⟨hS.k336, h⟩
theorem lc_3 {L : Nat} {xs : Nat → Int32} {S : Sh} {M : Mm} {i n : Int} {K : Sh → Mm → Prop} (hS : Shp S) (hz : RZ S M n) (h0 : 0 ≤ i) (h1 : i + 6 ≤ L) (hL : L ≤ 3072) (n0 : 0 ≤ n) (n1 : n ≤ 600) (hk : ∀ (S1 : Sh) (M1 : Mm), Shp S1 → RZ S1 M1 (n + 1) → K S1 M1) : wp_Lc_3 L xs 0 336 S M i K := by
  unfold wp_Lc_3
  refine ⟨hS.k0, ?_⟩
  refine zz_rule (K := fun r r2 S1 M2 => K S1 M2) hS hz (fun r S1 M1 hS1 h => ?_) (fun r S1 M1 hS1 z1 => hk S1 M1 hS1 (z1.mono (by omega)))
  exact ⟨hS1.k336, h⟩
theorem lc_4 {L : Nat} {xs : Nat → Int32} {S : Sh} {M : Mm} {i n : Int} {K : Sh → Mm → Prop} (hS : Shp S) (hz : RZ S M n) (h0 : 0 ≤ i) (h1 : i + 6 ≤ L) (hL : L ≤ 3072) (n0 : 0 ≤ n) (n1 : n ≤ 600) (hk : ∀ (S1 : Sh) (M1 : Mm), Shp S1 → RZ S1 M1 (n + 1) → K S1 M1) : wp_Lc_4 L xs 0 336 S M i K := by
  unfold wp_Lc_4
  refine g_C ?_
  refine g_A (by omega) (by omega) ?_
  refine g_sc (by omega) (by omega) (fun a1 ea1 ba1 ca1 => ?_)
  refine ⟨hS.k0, ?_⟩
  refine zz_force (K := fun r r2 M2 => K S M2) hS hz (fun r M1 h => ?_) (fun r M1 z1 => hk S M1 hS (z1.mono (by omega)))
  refine g_C ?_
  refine g_A (by omega) (by omega) ?_
  refine g_sc (by omega) (by omega) (fun d1 ed1 bd1 cd1 => ?_)
  obtain rfl : d1 = a1 := by omega
  exact ⟨hS.k336, h⟩
theorem lc_5 {L : Nat} {xs : Nat → Int32} {S : Sh} {M : Mm} {i n : Int} {K : Sh → Mm → Prop} (hS : Shp S) (hz : RZ S M n) (h0 : 0 ≤ i) (h1 : i + 6 ≤ L) (hL : L ≤ 3072) (n0 : 0 ≤ n) (n1 : n ≤ 600) (hk : ∀ (S1 : Sh) (M1 : Mm), Shp S1 → RZ S1 M1 (n + 1) → K S1 M1) : wp_Lc_5 L xs 0 336 S M i K := by
  unfold wp_Lc_5
  refine g_C ?_
  refine g_A (by omega) (by omega) ?_
  refine g_sc (by omega) (by omega) (fun a1 ea1 ba1 ca1 => ?_)
  refine g_C ?_
  refine g_A (by omega) (by omega) ?_
  refine g_sc (by omega) (by omega) (fun a2 ea2 ba2 ca2 => ?_)
  refine ⟨hS.k0, ?_⟩
  refine zz_hand (K := fun r r2 M2 => K S M2) hS hz (fun r M1 h => ?_) (fun r M1 z1 => hk S M1 hS (z1.mono (by omega)))
  refine g_C ?_
  refine g_A (by omega) (by omega) ?_
  refine g_sc (by omega) (by omega) (fun d1 ed1 bd1 cd1 => ?_)
  refine g_C ?_
  refine g_A (by omega) (by omega) ?_
  refine g_sc (by omega) (by omega) (fun d2 ed2 bd2 cd2 => ?_)
  obtain rfl : d1 = a1 := by omega
  obtain rfl : d2 = a2 := by omega
  exact ⟨hS.k336, h⟩
theorem lc_6 {L : Nat} {xs : Nat → Int32} {S : Sh} {M : Mm} {i n : Int} {K : Sh → Mm → Prop} (hS : Shp S) (hz : RZ S M n) (h0 : 0 ≤ i) (h1 : i + 6 ≤ L) (hL : L ≤ 3072) (n0 : 0 ≤ n) (n1 : n ≤ 600) (hk : ∀ (S1 : Sh) (M1 : Mm), Shp S1 → RZ S1 M1 (n + 1) → K S1 M1) : wp_Lc_6 L xs 0 336 S M i K := by
  unfold wp_Lc_6
  refine g_C ?_
  refine g_A (by omega) (by omega) ?_
  refine g_sc (by omega) (by omega) (fun a1 ea1 ba1 ca1 => ?_)
  refine g_C ?_
  refine g_A (by omega) (by omega) ?_
  refine g_sc (by omega) (by omega) (fun a2 ea2 ba2 ca2 => ?_)
  refine ⟨hS.k0, ?_⟩
  refine zz_jug (K := fun r r2 M2 => K S M2) hS hz (fun r M1 h => ?_) (fun r M1 z1 => hk S M1 hS (z1.mono (by omega)))
  refine g_C ?_
  refine g_A (by omega) (by omega) ?_
  refine g_sc (by omega) (by omega) (fun d1 ed1 bd1 cd1 => ?_)
  refine g_C ?_
  refine g_A (by omega) (by omega) ?_
  refine g_sc (by omega) (by omega) (fun d2 ed2 bd2 cd2 => ?_)
  obtain rfl : d1 = a1 := by omega
  obtain rfl : d2 = a2 := by omega
  exact ⟨hS.k336, h⟩
theorem lc_7 {L : Nat} {xs : Nat → Int32} {S : Sh} {M : Mm} {i n : Int} {K : Sh → Mm → Prop} (hS : Shp S) (hz : RZ S M n) (h0 : 0 ≤ i) (h1 : i + 6 ≤ L) (hL : L ≤ 3072) (n0 : 0 ≤ n) (n1 : n ≤ 600) (hk : ∀ (S1 : Sh) (M1 : Mm), Shp S1 → RZ S1 M1 (n + 1) → K S1 M1) : wp_Lc_7 L xs 0 336 S M i K := by
  unfold wp_Lc_7
  refine g_C ?_
  refine g_A (by omega) (by omega) ?_
  refine g_sc (by omega) (by omega) (fun a1 ea1 ba1 ca1 => ?_)
  refine g_C ?_
  refine g_A (by omega) (by omega) ?_
  refine g_sc (by omega) (by omega) (fun a2 ea2 ba2 ca2 => ?_)
  refine ⟨hS.k0, ?_⟩
  refine zz_want (K := fun r r2 M2 => K S M2) hS hz (fun r M1 h => ?_) (fun r M1 z1 => hk S M1 hS (z1.mono (by omega)))
  refine g_C ?_
  refine g_A (by omega) (by omega) ?_
  refine g_sc (by omega) (by omega) (fun d1 ed1 bd1 cd1 => ?_)
  refine g_C ?_
  refine g_A (by omega) (by omega) ?_
  refine g_sc (by omega) (by omega) (fun d2 ed2 bd2 cd2 => ?_)
  obtain rfl : d1 = a1 := by omega
  obtain rfl : d2 = a2 := by omega
  exact ⟨hS.k336, h⟩
theorem lc_8 {L : Nat} {xs : Nat → Int32} {S : Sh} {M : Mm} {i n : Int} {K : Sh → Mm → Prop} (hS : Shp S) (hz : RZ S M n) (h0 : 0 ≤ i) (h1 : i + 6 ≤ L) (hL : L ≤ 3072) (n0 : 0 ≤ n) (n1 : n ≤ 600) (hk : ∀ (S1 : Sh) (M1 : Mm), Shp S1 → RZ S1 M1 (n + 1) → K S1 M1) : wp_Lc_8 L xs 0 336 S M i K := by
  unfold wp_Lc_8
  refine ⟨hS.k0, ?_⟩
  refine zz_hour (K := fun r r2 M2 => r = r2 ∧ K S M2) hS hz (fun r M1 h => ?_) (fun r M1 z1 => ⟨rfl, hk S M1 hS z1⟩)
  exact ⟨hS.k336, h⟩
theorem lc_9 {L : Nat} {xs : Nat → Int32} {S : Sh} {M : Mm} {i n : Int} {K : Sh → Mm → Prop} (hS : Shp S) (hz : RZ S M n) (h0 : 0 ≤ i) (h1 : i + 6 ≤ L) (hL : L ≤ 3072) (n0 : 0 ≤ n) (n1 : n ≤ 600) (hk : ∀ (S1 : Sh) (M1 : Mm), Shp S1 → RZ S1 M1 (n + 1) → K S1 M1) : wp_Lc_9 L xs 0 336 S M i K := by
  unfold wp_Lc_9
  refine g_C ?_
  refine g_A (by omega) (by omega) ?_
  refine g_sc (by omega) (by omega) (fun a1 ea1 ba1 ca1 => ?_)
  refine g_C ?_
  refine g_A (by omega) (by omega) ?_
  refine g_sc (by omega) (by omega) (fun a2 ea2 ba2 ca2 => ?_)
  refine ⟨hS.k0, ?_⟩
  refine zz_take (K := fun r r2 M2 => K S M2) hS hz (fun r M1 h => ?_) (fun r M1 z1 => hk S M1 hS (z1.mono (by omega)))
  refine g_C ?_
  refine g_A (by omega) (by omega) ?_
  refine g_sc (by omega) (by omega) (fun d1 ed1 bd1 cd1 => ?_)
  refine g_C ?_
  refine g_A (by omega) (by omega) ?_
  refine g_sc (by omega) (by omega) (fun d2 ed2 bd2 cd2 => ?_)
  obtain rfl : d1 = a1 := by omega
  obtain rfl : d2 = a2 := by omega
  exact ⟨hS.k336, h⟩
theorem lc_10 {L : Nat} {xs : Nat → Int32} {S : Sh} {M : Mm} {i n : Int} {K : Sh → Mm → Prop} (hS : Shp S) (hz : RZ S M n) (h0 : 0 ≤ i) (h1 : i + 6 ≤ L) (hL : L ≤ 3072) (n0 : 0 ≤ n) (n1 : n ≤ 600) (hk : ∀ (S1 : Sh) (M1 : Mm), Shp S1 → RZ S1 M1 (n + 1) → K S1 M1) : wp_Lc_10 L xs 0 336 S M i K := by
  unfold wp_Lc_10
  refine g_C ?_
  refine g_A (by omega) (by omega) ?_
  refine g_sc (by omega) (by omega) (fun a1 ea1 ba1 ca1 => ?_)
  refine g_C ?_
  refine g_A (by omega) (by omega) ?_
  refine g_sc (by omega) (by omega) (fun a2 ea2 ba2 ca2 => ?_)
  refine ⟨hS.k0, ?_⟩
  refine zz_put (K := fun r r2 M2 => K S M2) hS hz (fun r M1 h => ?_) (fun r M1 z1 => hk S M1 hS (z1.mono (by omega)))
  refine g_C ?_
  refine g_A (by omega) (by omega) ?_
  refine g_sc (by omega) (by omega) (fun d1 ed1 bd1 cd1 => ?_)
  refine g_C ?_
  refine g_A (by omega) (by omega) ?_
  refine g_sc (by omega) (by omega) (fun d2 ed2 bd2 cd2 => ?_)
  obtain rfl : d1 = a1 := by omega
  obtain rfl : d2 = a2 := by omega
  exact ⟨hS.k336, h⟩
theorem lc_11 {L : Nat} {xs : Nat → Int32} {S : Sh} {M : Mm} {i n : Int} {K : Sh → Mm → Prop} (hS : Shp S) (hz : RZ S M n) (h0 : 0 ≤ i) (h1 : i + 6 ≤ L) (hL : L ≤ 3072) (n0 : 0 ≤ n) (n1 : n ≤ 600) (hk : ∀ (S1 : Sh) (M1 : Mm), Shp S1 → RZ S1 M1 (n + 1) → K S1 M1) : wp_Lc_11 L xs 0 336 S M i K := by
  unfold wp_Lc_11
  refine g_C ?_
  refine g_A (by omega) (by omega) ?_
  refine g_sc (by omega) (by omega) (fun a1 ea1 ba1 ca1 => ?_)
  refine g_C ?_
  refine g_A (by omega) (by omega) ?_
  refine g_sc (by omega) (by omega) (fun a2 ea2 ba2 ca2 => ?_)
  refine ⟨hS.k0, ?_⟩
  refine zz_handOn (K := fun r r2 M2 => K S M2) hS hz (fun r M1 h => ?_) (fun r M1 z1 => hk S M1 hS (z1.mono (by omega)))
  refine g_C ?_
  refine g_A (by omega) (by omega) ?_
  refine g_sc (by omega) (by omega) (fun d1 ed1 bd1 cd1 => ?_)
  refine g_C ?_
  refine g_A (by omega) (by omega) ?_
  refine g_sc (by omega) (by omega) (fun d2 ed2 bd2 cd2 => ?_)
  obtain rfl : d1 = a1 := by omega
  obtain rfl : d2 = a2 := by omega
  exact ⟨hS.k336, h⟩
theorem lc_12 {L : Nat} {xs : Nat → Int32} {S : Sh} {M : Mm} {i n : Int} {K : Sh → Mm → Prop} (hS : Shp S) (hz : RZ S M n) (h0 : 0 ≤ i) (h1 : i + 6 ≤ L) (hL : L ≤ 3072) (n0 : 0 ≤ n) (n1 : n ≤ 600) (hk : ∀ (S1 : Sh) (M1 : Mm), Shp S1 → RZ S1 M1 (n + 1) → K S1 M1) : wp_Lc_12 L xs 0 336 S M i K := by
  unfold wp_Lc_12
  refine g_C ?_
  refine g_A (by omega) (by omega) ?_
  refine g_sc (by omega) (by omega) (fun a1 ea1 ba1 ca1 => ?_)
  refine g_C ?_
  refine g_A (by omega) (by omega) ?_
  refine g_sc (by omega) (by omega) (fun a2 ea2 ba2 ca2 => ?_)
  refine ⟨hS.k0, ?_⟩
  refine zz_go (K := fun r r2 M2 => K S M2) hS hz (fun r M1 h => ?_) (fun r M1 z1 => hk S M1 hS (z1.mono (by omega)))
  refine g_C ?_
  refine g_A (by omega) (by omega) ?_
  refine g_sc (by omega) (by omega) (fun d1 ed1 bd1 cd1 => ?_)
  refine g_C ?_
  refine g_A (by omega) (by omega) ?_
  refine g_sc (by omega) (by omega) (fun d2 ed2 bd2 cd2 => ?_)
  obtain rfl : d1 = a1 := by omega
  obtain rfl : d2 = a2 := by omega
  exact ⟨hS.k336, h⟩
theorem lc_13 {L : Nat} {xs : Nat → Int32} {S : Sh} {M : Mm} {i n : Int} {K : Sh → Mm → Prop} (hS : Shp S) (hz : RZ S M n) (h0 : 0 ≤ i) (h1 : i + 6 ≤ L) (hL : L ≤ 3072) (n0 : 0 ≤ n) (n1 : n ≤ 600) (hk : ∀ (S1 : Sh) (M1 : Mm), Shp S1 → RZ S1 M1 (n + 1) → K S1 M1) : wp_Lc_13 L xs 0 336 S M i K := by
  unfold wp_Lc_13
  refine g_C ?_
  refine g_A (by omega) (by omega) ?_
  refine g_sc (by omega) (by omega) (fun a1 ea1 ba1 ca1 => ?_)
  refine ⟨hS.k0, ?_⟩
  refine zz_meet (K := fun r r2 M2 => K S M2) hS hz (fun r M1 h => ?_) (fun r M1 z1 => hk S M1 hS (z1.mono (by omega)))
  refine g_C ?_
  refine g_A (by omega) (by omega) ?_
  refine g_sc (by omega) (by omega) (fun d1 ed1 bd1 cd1 => ?_)
  obtain rfl : d1 = a1 := by omega
  exact ⟨hS.k336, h⟩
theorem lc_14 {L : Nat} {xs : Nat → Int32} {S : Sh} {M : Mm} {i n : Int} {K : Sh → Mm → Prop} (hS : Shp S) (hz : RZ S M n) (h0 : 0 ≤ i) (h1 : i + 6 ≤ L) (hL : L ≤ 3072) (n0 : 0 ≤ n) (n1 : n ≤ 600) (hk : ∀ (S1 : Sh) (M1 : Mm), Shp S1 → RZ S1 M1 (n + 1) → K S1 M1) : wp_Lc_14 L xs 0 336 S M i K := by
  unfold wp_Lc_14
  refine ⟨hS.k0, ?_⟩
  refine zz_undo (K := fun r r2 M2 => K S M2) hS hz (fun r M1 h => ?_) (fun r M1 z1 => hk S M1 hS (z1.mono (by omega)))
  exact ⟨hS.k336, h⟩
theorem lc_15 {L : Nat} {xs : Nat → Int32} {S : Sh} {M : Mm} {i n : Int} {K : Sh → Mm → Prop} (hS : Shp S) (hz : RZ S M n) (h0 : 0 ≤ i) (h1 : i + 6 ≤ L) (hL : L ≤ 3072) (n0 : 0 ≤ n) (n1 : n ≤ 600) (hk : ∀ (S1 : Sh) (M1 : Mm), Shp S1 → RZ S1 M1 (n + 1) → K S1 M1) : wp_Lc_15 L xs 0 336 S M i K := by
  unfold wp_Lc_15
  refine g_C ?_
  refine g_A (by omega) (by omega) ?_
  refine g_sc (by omega) (by omega) (fun a1 ea1 ba1 ca1 => ?_)
  refine g_C ?_
  refine g_A (by omega) (by omega) ?_
  refine g_sc (by omega) (by omega) (fun a2 ea2 ba2 ca2 => ?_)
  refine g_C ?_
  refine g_A (by omega) (by omega) ?_
  refine g_sc (by omega) (by omega) (fun a3 ea3 ba3 ca3 => ?_)
  refine ⟨hS.k0, ?_⟩
  refine zz_ahead (K := fun r r2 M2 => K S M2) hS hz (by omega) (fun r M1 h => ?_) (fun r M1 z1 => hk S M1 hS (z1.mono (by omega)))
  refine g_C ?_
  refine g_A (by omega) (by omega) ?_
  refine g_sc (by omega) (by omega) (fun d1 ed1 bd1 cd1 => ?_)
  refine g_C ?_
  refine g_A (by omega) (by omega) ?_
  refine g_sc (by omega) (by omega) (fun d2 ed2 bd2 cd2 => ?_)
  refine g_C ?_
  refine g_A (by omega) (by omega) ?_
  refine g_sc (by omega) (by omega) (fun d3 ed3 bd3 cd3 => ?_)
  obtain rfl : d1 = a1 := by omega
  obtain rfl : d2 = a2 := by omega
  obtain rfl : d3 = a3 := by omega
  exact ⟨hS.k336, h⟩
theorem lc_16 {L : Nat} {xs : Nat → Int32} {S : Sh} {M : Mm} {i n : Int} {K : Sh → Mm → Prop} (hS : Shp S) (hz : RZ S M n) (h0 : 0 ≤ i) (h1 : i + 6 ≤ L) (hL : L ≤ 3072) (n0 : 0 ≤ n) (n1 : n ≤ 600) (hk : ∀ (S1 : Sh) (M1 : Mm), Shp S1 → RZ S1 M1 (n + 1) → K S1 M1) : wp_Lc_16 L xs 0 336 S M i K := by
  unfold wp_Lc_16
  refine g_C ?_
  refine g_A (by omega) (by omega) ?_
  refine g_sc (by omega) (by omega) (fun a1 ea1 ba1 ca1 => ?_)
  refine g_C ?_
  refine g_A (by omega) (by omega) ?_
  refine g_sc (by omega) (by omega) (fun a2 ea2 ba2 ca2 => ?_)
  refine g_C ?_
  refine g_A (by omega) (by omega) ?_
  refine g_sc (by omega) (by omega) (fun a3 ea3 ba3 ca3 => ?_)
  refine ⟨hS.k0, ?_⟩
  refine ww_way (K := fun r r2 M2 => K S M2) hS hz ba1 ca1 ba2 ca2 ba3 ca3 (fun r M1 h => ?_) (fun r r2 M1 z1 => hk S M1 hS (z1.mono (by omega)))
  refine g_C ?_
  refine g_A (by omega) (by omega) ?_
  refine g_sc (by omega) (by omega) (fun d1 ed1 bd1 cd1 => ?_)
  refine g_C ?_
  refine g_A (by omega) (by omega) ?_
  refine g_sc (by omega) (by omega) (fun d2 ed2 bd2 cd2 => ?_)
  refine g_C ?_
  refine g_A (by omega) (by omega) ?_
  refine g_sc (by omega) (by omega) (fun d3 ed3 bd3 cd3 => ?_)
  obtain rfl : d1 = a1 := by omega
  obtain rfl : d2 = a2 := by omega
  obtain rfl : d3 = a3 := by omega
  exact ⟨hS.k336, h⟩
theorem lc_17 {L : Nat} {xs : Nat → Int32} {S : Sh} {M : Mm} {i n : Int} {K : Sh → Mm → Prop} (hS : Shp S) (hz : RZ S M n) (h0 : 0 ≤ i) (h1 : i + 6 ≤ L) (hL : L ≤ 3072) (n0 : 0 ≤ n) (n1 : n ≤ 600) (hk : ∀ (S1 : Sh) (M1 : Mm), Shp S1 → RZ S1 M1 (n + 1) → K S1 M1) : wp_Lc_17 L xs 0 336 S M i K := by
  unfold wp_Lc_17
  refine g_C ?_
  refine g_A (by omega) (by omega) ?_
  refine g_sc (by omega) (by omega) (fun a1 ea1 ba1 ca1 => ?_)
  refine g_C ?_
  refine g_A (by omega) (by omega) ?_
  refine g_sc (by omega) (by omega) (fun a2 ea2 ba2 ca2 => ?_)
  refine g_C ?_
  refine g_A (by omega) (by omega) ?_
  refine g_sc (by omega) (by omega) (fun a3 ea3 ba3 ca3 => ?_)
  refine ⟨hS.k0, ?_⟩
  refine ww_brings (K := fun r r2 M2 => K S M2) hS hz ba1 ca1 ba2 ca2 ba3 ca3 (fun r M1 h => ?_) (fun r r2 M1 z1 => hk S M1 hS (z1.mono (by omega)))
  refine g_C ?_
  refine g_A (by omega) (by omega) ?_
  refine g_sc (by omega) (by omega) (fun d1 ed1 bd1 cd1 => ?_)
  refine g_C ?_
  refine g_A (by omega) (by omega) ?_
  refine g_sc (by omega) (by omega) (fun d2 ed2 bd2 cd2 => ?_)
  refine g_C ?_
  refine g_A (by omega) (by omega) ?_
  refine g_sc (by omega) (by omega) (fun d3 ed3 bd3 cd3 => ?_)
  obtain rfl : d1 = a1 := by omega
  obtain rfl : d2 = a2 := by omega
  obtain rfl : d3 = a3 := by omega
  exact ⟨hS.k336, h⟩
theorem lc_18 {L : Nat} {xs : Nat → Int32} {S : Sh} {M : Mm} {i n : Int} {K : Sh → Mm → Prop} (hS : Shp S) (hz : RZ S M n) (h0 : 0 ≤ i) (h1 : i + 6 ≤ L) (hL : L ≤ 3072) (n0 : 0 ≤ n) (n1 : n ≤ 600) (hk : ∀ (S1 : Sh) (M1 : Mm), Shp S1 → RZ S1 M1 (n + 1) → K S1 M1) : wp_Lc_18 L xs 0 336 S M i K := by
  unfold wp_Lc_18
  refine g_C ?_
  refine g_A (by omega) (by omega) ?_
  refine g_sc (by omega) (by omega) (fun a1 ea1 ba1 ca1 => ?_)
  refine g_C ?_
  refine g_A (by omega) (by omega) ?_
  refine g_sc (by omega) (by omega) (fun a2 ea2 ba2 ca2 => ?_)
  refine g_C ?_
  refine g_A (by omega) (by omega) ?_
  refine g_sc (by omega) (by omega) (fun a3 ea3 ba3 ca3 => ?_)
  refine g_C ?_
  refine g_A (by omega) (by omega) ?_
  refine g_sc (by omega) (by omega) (fun a4 ea4 ba4 ca4 => ?_)
  refine g_C ?_
  refine g_A (by omega) (by omega) ?_
  refine g_sc (by omega) (by omega) (fun a5 ea5 ba5 ca5 => ?_)
  refine ⟨hS.k0, ?_⟩
  refine ww_relay (K := fun r r2 M2 => K S M2) hS hz ba1 ca1 ba2 ca2 ba3 ca3 ba4 ca4 ba5 ca5 (fun r M1 h => ?_) (fun r r2 M1 z1 => hk S M1 hS (z1.mono (by omega)))
  refine g_C ?_
  refine g_A (by omega) (by omega) ?_
  refine g_sc (by omega) (by omega) (fun d1 ed1 bd1 cd1 => ?_)
  refine g_C ?_
  refine g_A (by omega) (by omega) ?_
  refine g_sc (by omega) (by omega) (fun d2 ed2 bd2 cd2 => ?_)
  refine g_C ?_
  refine g_A (by omega) (by omega) ?_
  refine g_sc (by omega) (by omega) (fun d3 ed3 bd3 cd3 => ?_)
  refine g_C ?_
  refine g_A (by omega) (by omega) ?_
  refine g_sc (by omega) (by omega) (fun d4 ed4 bd4 cd4 => ?_)
  refine g_C ?_
  refine g_A (by omega) (by omega) ?_
  refine g_sc (by omega) (by omega) (fun d5 ed5 bd5 cd5 => ?_)
  obtain rfl : d1 = a1 := by omega
  obtain rfl : d2 = a2 := by omega
  obtain rfl : d3 = a3 := by omega
  obtain rfl : d4 = a4 := by omega
  obtain rfl : d5 = a5 := by omega
  exact ⟨hS.k336, h⟩
theorem lc_19 {L : Nat} {xs : Nat → Int32} {S : Sh} {M : Mm} {i n : Int} {K : Sh → Mm → Prop} (hS : Shp S) (hz : RZ S M n) (h0 : 0 ≤ i) (h1 : i + 6 ≤ L) (hL : L ≤ 3072) (n0 : 0 ≤ n) (n1 : n ≤ 600) (hk : ∀ (S1 : Sh) (M1 : Mm), Shp S1 → RZ S1 M1 (n + 1) → K S1 M1) : wp_Lc_19 L xs 0 336 S M i K := by
  unfold wp_Lc_19
  refine g_C ?_
  refine g_A (by omega) (by omega) ?_
  refine g_sc (by omega) (by omega) (fun a1 ea1 ba1 ca1 => ?_)
  refine ⟨hS.k0, ?_⟩
  refine ww_match (K := fun r r2 M2 => K S M2) hS hz ba1 ca1 (fun r M1 h => ?_) (fun r r2 M1 z1 => hk S M1 hS (z1.mono (by omega)))
  refine g_C ?_
  refine g_A (by omega) (by omega) ?_
  refine g_sc (by omega) (by omega) (fun d1 ed1 bd1 cd1 => ?_)
  obtain rfl : d1 = a1 := by omega
  exact ⟨hS.k336, h⟩
theorem lc_20 {L : Nat} {xs : Nat → Int32} {S : Sh} {M : Mm} {i n : Int} {K : Sh → Mm → Prop} (hS : Shp S) (hz : RZ S M n) (h0 : 0 ≤ i) (h1 : i + 6 ≤ L) (hL : L ≤ 3072) (n0 : 0 ≤ n) (n1 : n ≤ 600) (hk : ∀ (S1 : Sh) (M1 : Mm), Shp S1 → RZ S1 M1 (n + 1) → K S1 M1) : wp_Lc_20 L xs 0 336 S M i K := by
  unfold wp_Lc_20
  refine g_C ?_
  refine g_A (by omega) (by omega) ?_
  refine g_sc (by omega) (by omega) (fun a1 ea1 ba1 ca1 => ?_)
  refine g_C ?_
  refine g_A (by omega) (by omega) ?_
  refine g_sc (by omega) (by omega) (fun a2 ea2 ba2 ca2 => ?_)
  refine g_C ?_
  refine g_A (by omega) (by omega) ?_
  refine g_sc (by omega) (by omega) (fun a3 ea3 ba3 ca3 => ?_)
  refine g_C ?_
  refine g_A (by omega) (by omega) ?_
  refine g_sc (by omega) (by omega) (fun a4 ea4 ba4 ca4 => ?_)
  refine ⟨hS.k0, ?_⟩
  refine ww_rest (K := fun r r2 M2 => K S M2) hS hz ba1 ca1 ba2 ca2 ba3 ca3 ba4 ca4 (fun r M1 h => ?_) (fun r r2 M1 z1 => hk S M1 hS (z1.mono (by omega)))
  refine g_C ?_
  refine g_A (by omega) (by omega) ?_
  refine g_sc (by omega) (by omega) (fun d1 ed1 bd1 cd1 => ?_)
  refine g_C ?_
  refine g_A (by omega) (by omega) ?_
  refine g_sc (by omega) (by omega) (fun d2 ed2 bd2 cd2 => ?_)
  refine g_C ?_
  refine g_A (by omega) (by omega) ?_
  refine g_sc (by omega) (by omega) (fun d3 ed3 bd3 cd3 => ?_)
  refine g_C ?_
  refine g_A (by omega) (by omega) ?_
  refine g_sc (by omega) (by omega) (fun d4 ed4 bd4 cd4 => ?_)
  obtain rfl : d1 = a1 := by omega
  obtain rfl : d2 = a2 := by omega
  obtain rfl : d3 = a3 := by omega
  obtain rfl : d4 = a4 := by omega
  exact ⟨hS.k336, h⟩
theorem lc_21 {L : Nat} {xs : Nat → Int32} {S : Sh} {M : Mm} {i n : Int} {K : Sh → Mm → Prop} (hS : Shp S) (hz : RZ S M n) (h0 : 0 ≤ i) (h1 : i + 6 ≤ L) (hL : L ≤ 3072) (n0 : 0 ≤ n) (n1 : n ≤ 600) (hk : ∀ (S1 : Sh) (M1 : Mm), Shp S1 → RZ S1 M1 (n + 1) → K S1 M1) : wp_Lc_21 L xs 0 336 S M i K := by
  unfold wp_Lc_21
  refine g_C ?_
  refine g_A (by omega) (by omega) ?_
  refine g_sc (by omega) (by omega) (fun a1 ea1 ba1 ca1 => ?_)
  refine g_C ?_
  refine g_A (by omega) (by omega) ?_
  refine g_sc (by omega) (by omega) (fun a2 ea2 ba2 ca2 => ?_)
  refine g_C ?_
  refine g_A (by omega) (by omega) ?_
  refine g_sc (by omega) (by omega) (fun a3 ea3 ba3 ca3 => ?_)
  refine g_C ?_
  refine g_A (by omega) (by omega) ?_
  refine g_sc (by omega) (by omega) (fun a4 ea4 ba4 ca4 => ?_)
  refine ⟨hS.k0, ?_⟩
  refine ww_test (K := fun r r2 M2 => K S M2) hS hz (fun r M1 h => ?_) (fun r r2 M1 z1 => hk S M1 hS (z1.mono (by omega)))
  refine g_C ?_
  refine g_A (by omega) (by omega) ?_
  refine g_sc (by omega) (by omega) (fun d1 ed1 bd1 cd1 => ?_)
  refine g_C ?_
  refine g_A (by omega) (by omega) ?_
  refine g_sc (by omega) (by omega) (fun d2 ed2 bd2 cd2 => ?_)
  refine g_C ?_
  refine g_A (by omega) (by omega) ?_
  refine g_sc (by omega) (by omega) (fun d3 ed3 bd3 cd3 => ?_)
  refine g_C ?_
  refine g_A (by omega) (by omega) ?_
  refine g_sc (by omega) (by omega) (fun d4 ed4 bd4 cd4 => ?_)
  obtain rfl : d1 = a1 := by omega
  obtain rfl : d2 = a2 := by omega
  obtain rfl : d3 = a3 := by omega
  obtain rfl : d4 = a4 := by omega
  exact ⟨hS.k336, h⟩
theorem lc_22 {L : Nat} {xs : Nat → Int32} {S : Sh} {M : Mm} {i n : Int} {K : Sh → Mm → Prop} (hS : Shp S) (hz : RZ S M n) (h0 : 0 ≤ i) (h1 : i + 6 ≤ L) (hL : L ≤ 3072) (n0 : 0 ≤ n) (n1 : n ≤ 600) (hk : ∀ (S1 : Sh) (M1 : Mm), Shp S1 → RZ S1 M1 (n + 1) → K S1 M1) : wp_Lc_22 L xs 0 336 S M i K := by
  unfold wp_Lc_22
  refine g_C ?_
  refine g_A (by omega) (by omega) ?_
  refine g_sc (by omega) (by omega) (fun a1 ea1 ba1 ca1 => ?_)
  refine ⟨hS.k0, ?_⟩
  refine ww_who (K := fun r r2 M2 => K S M2) hS hz ba1 ca1 (fun r M1 h => ?_) (fun r r2 M1 z1 => hk S M1 hS (z1.mono (by omega)))
  refine g_C ?_
  refine g_A (by omega) (by omega) ?_
  refine g_sc (by omega) (by omega) (fun d1 ed1 bd1 cd1 => ?_)
  obtain rfl : d1 = a1 := by omega
  exact ⟨hS.k336, h⟩
theorem lc_23 {L : Nat} {xs : Nat → Int32} {S : Sh} {M : Mm} {i n : Int} {K : Sh → Mm → Prop} (hS : Shp S) (hz : RZ S M n) (h0 : 0 ≤ i) (h1 : i + 6 ≤ L) (hL : L ≤ 3072) (n0 : 0 ≤ n) (n1 : n ≤ 600) (hk : ∀ (S1 : Sh) (M1 : Mm), Shp S1 → RZ S1 M1 (n + 1) → K S1 M1) : wp_Lc_23 L xs 0 336 S M i K := by
  unfold wp_Lc_23
  refine g_C ?_
  refine g_A (by omega) (by omega) ?_
  refine g_sc (by omega) (by omega) (fun a1 ea1 ba1 ca1 => ?_)
  refine ⟨hS.k0, ?_⟩
  refine ww_probe (K := fun r r2 M2 => K S M2) hS hz ba1 ca1 (fun r M1 h => ?_) (fun r r2 M1 z1 => hk S M1 hS (z1.mono (by omega)))
  refine g_C ?_
  refine g_A (by omega) (by omega) ?_
  refine g_sc (by omega) (by omega) (fun d1 ed1 bd1 cd1 => ?_)
  obtain rfl : d1 = a1 := by omega
  exact ⟨hS.k336, h⟩
theorem lc_24 {L : Nat} {xs : Nat → Int32} {S : Sh} {M : Mm} {i n : Int} {K : Sh → Mm → Prop} (hS : Shp S) (hz : RZ S M n) (h0 : 0 ≤ i) (h1 : i + 6 ≤ L) (hL : L ≤ 3072) (n0 : 0 ≤ n) (n1 : n ≤ 600) (hk : ∀ (S1 : Sh) (M1 : Mm), Shp S1 → RZ S1 M1 (n + 1) → K S1 M1) : wp_Lc_24 L xs 0 336 S M i K := by
  unfold wp_Lc_24
  refine g_C ?_
  refine g_A (by omega) (by omega) ?_
  refine g_sc (by omega) (by omega) (fun a1 ea1 ba1 ca1 => ?_)
  refine g_C ?_
  refine g_A (by omega) (by omega) ?_
  refine g_sc (by omega) (by omega) (fun a2 ea2 ba2 ca2 => ?_)
  refine g_C ?_
  refine g_A (by omega) (by omega) ?_
  refine g_sc (by omega) (by omega) (fun a3 ea3 ba3 ca3 => ?_)
  refine ⟨hS.k0, ?_⟩
  refine zz_rows (K := fun r r2 M2 => K S M2) hS hz (fun r M1 h => ?_) (fun r M1 z1 => hk S M1 hS (z1.mono (by omega)))
  refine g_C ?_
  refine g_A (by omega) (by omega) ?_
  refine g_sc (by omega) (by omega) (fun d1 ed1 bd1 cd1 => ?_)
  refine g_C ?_
  refine g_A (by omega) (by omega) ?_
  refine g_sc (by omega) (by omega) (fun d2 ed2 bd2 cd2 => ?_)
  refine g_C ?_
  refine g_A (by omega) (by omega) ?_
  refine g_sc (by omega) (by omega) (fun d3 ed3 bd3 cd3 => ?_)
  obtain rfl : d1 = a1 := by omega
  obtain rfl : d2 = a2 := by omega
  obtain rfl : d3 = a3 := by omega
  exact ⟨hS.k336, h⟩
theorem lc_25 {L : Nat} {xs : Nat → Int32} {S : Sh} {M : Mm} {i n : Int} {K : Sh → Mm → Prop} (hS : Shp S) (hz : RZ S M n) (h0 : 0 ≤ i) (h1 : i + 6 ≤ L) (hL : L ≤ 3072) (n0 : 0 ≤ n) (n1 : n ≤ 600) (hk : ∀ (S1 : Sh) (M1 : Mm), Shp S1 → RZ S1 M1 (n + 1) → K S1 M1) : wp_Lc_25 L xs 0 336 S M i K := by
  unfold wp_Lc_25
  refine g_C ?_
  refine g_A (by omega) (by omega) ?_
  refine g_sc (by omega) (by omega) (fun a1 ea1 ba1 ca1 => ?_)
  refine ⟨hS.k0, ?_⟩
  refine zz_ice (K := fun r r2 M2 => K S M2) hS hz (by omega) (fun r M1 h => ?_) (fun r M1 z1 => hk S M1 hS (z1.mono (by omega)))
  refine g_C ?_
  refine g_A (by omega) (by omega) ?_
  refine g_sc (by omega) (by omega) (fun d1 ed1 bd1 cd1 => ?_)
  obtain rfl : d1 = a1 := by omega
  exact ⟨hS.k336, h⟩
theorem lc_26 {L : Nat} {xs : Nat → Int32} {S : Sh} {M : Mm} {i n : Int} {K : Sh → Mm → Prop} (hS : Shp S) (hz : RZ S M n) (h0 : 0 ≤ i) (h1 : i + 6 ≤ L) (hL : L ≤ 3072) (n0 : 0 ≤ n) (n1 : n ≤ 600) (hk : ∀ (S1 : Sh) (M1 : Mm), Shp S1 → RZ S1 M1 (n + 1) → K S1 M1) : wp_Lc_26 L xs 0 336 S M i K := by
  unfold wp_Lc_26
  refine g_C ?_
  refine g_A (by omega) (by omega) ?_
  refine g_sc (by omega) (by omega) (fun a1 ea1 ba1 ca1 => ?_)
  refine ⟨hS.k0, ?_⟩
  refine zz_seed (K := fun r r2 M2 => K S M2) hS hz ca1 (fun r M1 h => ?_) (fun r M1 z1 => hk S M1 hS (z1.mono (by omega)))
  refine g_C ?_
  refine g_A (by omega) (by omega) ?_
  refine g_sc (by omega) (by omega) (fun d1 ed1 bd1 cd1 => ?_)
  obtain rfl : d1 = a1 := by omega
  exact ⟨hS.k336, h⟩
theorem lc_27 {L : Nat} {xs : Nat → Int32} {S : Sh} {M : Mm} {i n : Int} {K : Sh → Mm → Prop} (hS : Shp S) (hz : RZ S M n) (h0 : 0 ≤ i) (h1 : i + 6 ≤ L) (hL : L ≤ 3072) (n0 : 0 ≤ n) (n1 : n ≤ 600) (hk : ∀ (S1 : Sh) (M1 : Mm), Shp S1 → RZ S1 M1 (n + 1) → K S1 M1) : wp_Lc_27 L xs 0 336 S M i K := by
  unfold wp_Lc_27
  refine g_C ?_
  refine g_A (by omega) (by omega) ?_
  refine g_sc (by omega) (by omega) (fun a1 ea1 ba1 ca1 => ?_)
  refine g_C ?_
  refine g_A (by omega) (by omega) ?_
  refine g_sc (by omega) (by omega) (fun a2 ea2 ba2 ca2 => ?_)
  refine g_C ?_
  refine g_A (by omega) (by omega) ?_
  refine g_sc (by omega) (by omega) (fun a3 ea3 ba3 ca3 => ?_)
  refine ⟨hS.k0, ?_⟩
  refine ww_years (K := fun r r2 M2 => K S M2) hS hz ba1 ca1 ba2 ca2 ba3 ca3 (fun r M1 h => ?_) (fun r r2 M1 z1 => hk S M1 hS (z1.mono (by omega)))
  refine g_C ?_
  refine g_A (by omega) (by omega) ?_
  refine g_sc (by omega) (by omega) (fun d1 ed1 bd1 cd1 => ?_)
  refine g_C ?_
  refine g_A (by omega) (by omega) ?_
  refine g_sc (by omega) (by omega) (fun d2 ed2 bd2 cd2 => ?_)
  refine g_C ?_
  refine g_A (by omega) (by omega) ?_
  refine g_sc (by omega) (by omega) (fun d3 ed3 bd3 cd3 => ?_)
  obtain rfl : d1 = a1 := by omega
  obtain rfl : d2 = a2 := by omega
  obtain rfl : d3 = a3 := by omega
  exact ⟨hS.k336, h⟩
theorem lc_28 {L : Nat} {xs : Nat → Int32} {S : Sh} {M : Mm} {i n : Int} {K : Sh → Mm → Prop} (hS : Shp S) (hz : RZ S M n) (h0 : 0 ≤ i) (h1 : i + 6 ≤ L) (hL : L ≤ 3072) (n0 : 0 ≤ n) (n1 : n ≤ 600) (hk : ∀ (S1 : Sh) (M1 : Mm), Shp S1 → RZ S1 M1 (n + 1) → K S1 M1) : wp_Lc_28 L xs 0 336 S M i K := by
  unfold wp_Lc_28
  refine g_C ?_
  refine g_A (by omega) (by omega) ?_
  refine g_sc (by omega) (by omega) (fun a1 ea1 ba1 ca1 => ?_)
  refine ⟨hS.k0, ?_⟩
  refine zz_count (K := fun r r2 M2 => K S M2) hS hz (fun r M1 h => ?_) (fun r M1 z1 => hk S M1 hS (z1.mono (by omega)))
  refine g_C ?_
  refine g_A (by omega) (by omega) ?_
  refine g_sc (by omega) (by omega) (fun d1 ed1 bd1 cd1 => ?_)
  obtain rfl : d1 = a1 := by omega
  exact ⟨hS.k336, h⟩
theorem lc_29 {L : Nat} {xs : Nat → Int32} {S : Sh} {M : Mm} {i n : Int} {K : Sh → Mm → Prop} (hS : Shp S) (hz : RZ S M n) (h0 : 0 ≤ i) (h1 : i + 6 ≤ L) (hL : L ≤ 3072) (n0 : 0 ≤ n) (n1 : n ≤ 600) (hk : ∀ (S1 : Sh) (M1 : Mm), Shp S1 → RZ S1 M1 (n + 1) → K S1 M1) : wp_Lc_29 L xs 0 336 S M i K := by
  unfold wp_Lc_29
  refine g_C ?_
  refine g_A (by omega) (by omega) ?_
  refine g_sc (by omega) (by omega) (fun a1 ea1 ba1 ca1 => ?_)
  refine ⟨hS.k0, ?_⟩
  refine zz_image (K := fun r r2 M2 => K S M2) hS hz (fun r M1 h => ?_) (fun r M1 z1 => hk S M1 hS (z1.mono (by omega)))
  refine g_C ?_
  refine g_A (by omega) (by omega) ?_
  refine g_sc (by omega) (by omega) (fun d1 ed1 bd1 cd1 => ?_)
  obtain rfl : d1 = a1 := by omega
  exact ⟨hS.k336, h⟩
theorem lc_30 {L : Nat} {xs : Nat → Int32} {S : Sh} {M : Mm} {i n : Int} {K : Sh → Mm → Prop} (hS : Shp S) (hz : RZ S M n) (h0 : 0 ≤ i) (h1 : i + 6 ≤ L) (hL : L ≤ 3072) (n0 : 0 ≤ n) (n1 : n ≤ 600) (hk : ∀ (S1 : Sh) (M1 : Mm), Shp S1 → RZ S1 M1 (n + 1) → K S1 M1) : wp_Lc_30 L xs 0 336 S M i K := by
  unfold wp_Lc_30
  refine g_C ?_
  refine g_A (by omega) (by omega) ?_
  refine g_sc (by omega) (by omega) (fun a1 ea1 ba1 ca1 => ?_)
  refine ⟨hS.k0, ?_⟩
  refine zz_back (K := fun r r2 M2 => K S M2) hS hz (fun r M1 h => ?_) (fun r M1 z1 => hk S M1 hS (z1.mono (by omega)))
  refine g_C ?_
  refine g_A (by omega) (by omega) ?_
  refine g_sc (by omega) (by omega) (fun d1 ed1 bd1 cd1 => ?_)
  obtain rfl : d1 = a1 := by omega
  exact ⟨hS.k336, h⟩
theorem law_L {L : Nat} {xs : Nat → Int32} (hL : L ≤ 3072) : ∀ (w : Nat) (S : Sh) (M : Mm) (i n : Int), Shp S → RZ S M n → 0 ≤ n → i = 6 * n → i ≤ 3078 → 3084 - i ≤ 6 * (w : Int) → wp_L L xs 0 336 w S M i := by
  intro w
  induction w with
  | zero => intro S M i n _ _ _ _ _ h; exfalso; omega
  | succ w ih =>
    intro S M i n hS hz n0 ei i1 hn
    have i0 : 0 ≤ i := by omega
    unfold wp_L
    refine g_C ?_
    refine g_C ?_
    refine g_S (by omega) (by omega) ?_
    refine g_if (fun _ => trivial) (fun q => ?_)
    refine ⟨⟨i0, by omega⟩, ?_⟩
    have h6 : i + 6 ≤ L := by omega
    have n1 : n ≤ 600 := by omega
    refine g_sc i0 (by omega) (fun v ev bv cv => ?_)
    refine g_C ?_
    refine g_Oe (fun s es => ?_)
    have nx : ∀ (S1 : Sh) (M1 : Mm), Shp S1 → RZ S1 M1 (n + 1) → wA i 6 fun i1 => wp_L L xs 0 336 w S1 M1 i1 := by
      intro S1 M1 hS1 z1
      refine g_A (by omega) (by omega) ?_
      exact ih S1 M1 (i + 6) (n + 1) hS1 z1 (by omega) (by omega) (by omega) (by omega)
    refine g_if (fun _ => lc_0 hS hz i0 h6 hL n0 n1 nx) (fun _ => ?_)
    refine g_if (fun _ => lc_1 hS hz i0 h6 hL n0 n1 nx) (fun _ => ?_)
    refine g_if (fun _ => lc_2 hS hz i0 h6 hL n0 n1 nx) (fun _ => ?_)
    refine g_if (fun _ => lc_3 hS hz i0 h6 hL n0 n1 nx) (fun _ => ?_)
    refine g_if (fun _ => lc_4 hS hz i0 h6 hL n0 n1 nx) (fun _ => ?_)
    refine g_if (fun _ => lc_5 hS hz i0 h6 hL n0 n1 nx) (fun _ => ?_)
    refine g_if (fun _ => lc_6 hS hz i0 h6 hL n0 n1 nx) (fun _ => ?_)
    refine g_if (fun _ => lc_7 hS hz i0 h6 hL n0 n1 nx) (fun _ => ?_)
    refine g_if (fun _ => lc_8 hS hz i0 h6 hL n0 n1 nx) (fun _ => ?_)
    refine g_if (fun _ => lc_9 hS hz i0 h6 hL n0 n1 nx) (fun _ => ?_)
    refine g_if (fun _ => lc_10 hS hz i0 h6 hL n0 n1 nx) (fun _ => ?_)
    refine g_if (fun _ => lc_11 hS hz i0 h6 hL n0 n1 nx) (fun _ => ?_)
    refine g_if (fun _ => lc_12 hS hz i0 h6 hL n0 n1 nx) (fun _ => ?_)
    refine g_if (fun _ => lc_13 hS hz i0 h6 hL n0 n1 nx) (fun _ => ?_)
    refine g_if (fun _ => lc_14 hS hz i0 h6 hL n0 n1 nx) (fun _ => ?_)
    refine g_if (fun _ => lc_15 hS hz i0 h6 hL n0 n1 nx) (fun _ => ?_)
    refine g_if (fun _ => lc_16 hS hz i0 h6 hL n0 n1 nx) (fun _ => ?_)
    refine g_if (fun _ => lc_17 hS hz i0 h6 hL n0 n1 nx) (fun _ => ?_)
    refine g_if (fun _ => lc_18 hS hz i0 h6 hL n0 n1 nx) (fun _ => ?_)
    refine g_if (fun _ => lc_19 hS hz i0 h6 hL n0 n1 nx) (fun _ => ?_)
    refine g_if (fun _ => lc_20 hS hz i0 h6 hL n0 n1 nx) (fun _ => ?_)
    refine g_if (fun _ => lc_21 hS hz i0 h6 hL n0 n1 nx) (fun _ => ?_)
    refine g_if (fun _ => lc_22 hS hz i0 h6 hL n0 n1 nx) (fun _ => ?_)
    refine g_if (fun _ => lc_23 hS hz i0 h6 hL n0 n1 nx) (fun _ => ?_)
    refine g_if (fun _ => lc_24 hS hz i0 h6 hL n0 n1 nx) (fun _ => ?_)
    refine g_if (fun _ => lc_25 hS hz i0 h6 hL n0 n1 nx) (fun _ => ?_)
    refine g_if (fun _ => lc_26 hS hz i0 h6 hL n0 n1 nx) (fun _ => ?_)
    refine g_if (fun _ => lc_27 hS hz i0 h6 hL n0 n1 nx) (fun _ => ?_)
    refine g_if (fun _ => lc_28 hS hz i0 h6 hL n0 n1 nx) (fun _ => ?_)
    refine g_if (fun _ => lc_29 hS hz i0 h6 hL n0 n1 nx) (fun _ => ?_)
    refine g_if (fun _ => lc_30 hS hz i0 h6 hL n0 n1 nx) (fun _ => ?_)
    exact nx S M hS (hz.mono (by omega))
