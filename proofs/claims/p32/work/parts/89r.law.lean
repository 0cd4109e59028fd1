section
theorem lc_0 {L : Nat} {xs : Nat → Int32} {S : Sh} {M : Mm} {i n : Int} {K : Sh → Mm → Prop} (hS : Shp S) (hz : RZ S M n) (h0 : 0 ≤ i) (h1 : i + 6 ≤ L) (hL : L ≤ 3072) (n0 : 0 ≤ n) (n1 : n ≤ 600) (hk : ∀ (S1 : Sh) (M1 : Mm), Shp S1 → RZ S1 M1 (n + 1) → K S1 M1) : wp_Lc_0 L xs 0 336 S M i K := by
  unfold wp_Lc_0
  refine g_C ?_
  refine g_A (by omega) (by omega) ?_
  refine g_sc (by omega) (by omega) (fun a1 ea1 ba1 ca1 => ?_)
  refine g_C ?_
  refine g_A (by omega) (by omega) ?_
  refine g_sc (by omega) (by omega) (fun a2 ea2 ba2 ca2 => ?_)
  refine g_C ?_
  refine g_A (by omega) (by omega) ?_
  refine g_sc (by omega) (by omega) (fun a3 ea3 ba3 ca3 => ?_)
  refine g_C ?_
  refine g_A (by omega) (by omega) ?_
  refine g_sc (by omega) (by omega) (fun a4 ea4 ba4 ca4 => ?_)
  refine g_C ?_
  refine g_A (by omega) (by omega) ?_
  refine g_sc (by omega) (by omega) (fun a5 ea5 ba5 ca5 => ?_)
  refine ⟨hS.k0, ?_⟩
  refine zz_feed (K := fun r r2 M2 => K S M2) hS hz (fun r M1 h => ?_) (fun r M1 z1 => hk S M1 hS (z1.mono (by omega)))
  refine g_C ?_
  refine g_A (by omega) (by omega) ?_
  refine g_sc (by omega) (by omega) (fun d1 ed1 bd1 cd1 => ?_)
  refine g_C ?_
  refine g_A (by omega) (by omega) ?_
  refine g_sc (by omega) (by omega) (fun d2 ed2 bd2 cd2 => ?_)
  refine g_C ?_
  refine g_A (by omega) (by omega) ?_
  refine g_sc (by omega) (by omega) (fun d3 ed3 bd3 cd3 => ?_)
  refine g_C ?_
  refine g_A (by omega) (by omega) ?_
  refine g_sc (by omega) (by omega) (fun d4 ed4 bd4 cd4 => ?_)
  refine g_C ?_
  refine g_A (by omega) (by omega) ?_
  refine g_sc (by omega) (by omega) (fun d5 ed5 bd5 cd5 => ?_)
  obtain rfl : d1 = a1 := by omega
  obtain rfl : d2 = a2 := by omega
  obtain rfl : d3 = a3 := by omega
  obtain rfl : d4 = a4 := by omega
  obtain rfl : d5 = a5 := by omega
  exact ⟨hS.k336, h⟩
theorem lc_1 {L : Nat} {xs : Nat → Int32} {S : Sh} {M : Mm} {i n : Int} {K : Sh → Mm → Prop} (hS : Shp S) (hz : RZ S M n) (h0 : 0 ≤ i) (h1 : i + 6 ≤ L) (hL : L ≤ 3072) (n0 : 0 ≤ n) (n1 : n ≤ 600) (hk : ∀ (S1 : Sh) (M1 : Mm), Shp S1 → RZ S1 M1 (n + 1) → K S1 M1) : wp_Lc_1 L xs 0 336 S M i K := by
  unfold wp_Lc_1
  refine g_C ?_
  refine g_A (by omega) (by omega) ?_
  refine g_sc (by omega) (by omega) (fun a1 ea1 ba1 ca1 => ?_)
  refine ⟨hS.k0, ?_⟩
  refine zz_end (K := fun r r2 M2 => K S M2) hS hz (fun r M1 h => ?_) (fun r M1 z1 => hk S M1 hS (z1.mono (by omega)))
  refine g_C ?_
  refine g_A (by omega) (by omega) ?_
  refine g_sc (by omega) (by omega) (fun d1 ed1 bd1 cd1 => ?_)
  obtain rfl : d1 = a1 := by omega
  exact ⟨hS.k336, h⟩
theorem lc_2 {L : Nat} {xs : Nat → Int32} {S : Sh} {M : Mm} {i n : Int} {K : Sh → Mm → Prop} (hS : Shp S) (hz : RZ S M n) (h0 : 0 ≤ i) (h1 : i + 6 ≤ L) (hL : L ≤ 3072) (n0 : 0 ≤ n) (n1 : n ≤ 600) (hk : ∀ (S1 : Sh) (M1 : Mm), Shp S1 → RZ S1 M1 (n + 1) → K S1 M1) : wp_Lc_2 L xs 0 336 S M i K := by
  unfold wp_Lc_2
  refine ⟨hS.k0, ?_⟩
  refine zz_dairy (K := fun r r2 M2 => K S M2) hS hz n0 (fun r M1 h => ?_) (fun r M1 z1 => hk S M1 hS (z1.mono (by omega)))
  exact ⟨hS.k336, h⟩
theorem lc_3 {L : Nat} {xs : Nat → Int32} {S : Sh} {M : Mm} {i n : Int} {K : Sh → Mm → Prop} (hS : Shp S) (hz : RZ S M n) (h0 : 0 ≤ i) (h1 : i + 6 ≤ L) (hL : L ≤ 3072) (n0 : 0 ≤ n) (n1 : n ≤ 600) (hk : ∀ (S1 : Sh) (M1 : Mm), Shp S1 → RZ S1 M1 (n + 1) → K S1 M1) : wp_Lc_3 L xs 0 336 S M i K := by
  unfold wp_Lc_3
  refine ⟨hS.k0, ?_⟩
  refine zz_rule (K := fun r r2 S1 M2 => K S1 M2) hS hz (fun r S1 M1 hS1 h => ?_) (fun r S1 M1 hS1 z1 => hk S1 M1 hS1 (z1.mono (by omega)))
  exact ⟨hS1.k336, h⟩
theorem lc_4 {L : Nat} {xs : Nat → Int32} {S : Sh} {M : Mm} {i n : Int} {K : Sh → Mm → Prop} (hS : Shp S) (hz : RZ S M n) (h0 : 0 ≤ i) (h1 : i + 6 ≤ L) (hL : L ≤ 3072) (n0 : 0 ≤ n) (n1 : n ≤ 600) (hk : ∀ (S1 : Sh) (M1 : Mm), Shp S1 → RZ S1 M1 (n + 1) → K S1 M1) : wp_Lc_4 L xs 0 336 S M i K := by
  unfold wp_Lc_4
  refine g_C ?_
  refine g_A (by omega) (by omega) ?_
  refine g_sc (by omega) (by omega) (fun a1 ea1 ba1 ca1 => ?_)
  refine ⟨hS.k0, ?_⟩
  refine zz_force (K := fun r r2 M2 => K S M2) hS hz (fun r M1 h => ?_) (fun r M1 z1 => hk S M1 hS (z1.mono (by omega)))
  refine g_C ?_
  refine g_A (by omega) (by omega) ?_
  refine g_sc (by omega) (by omega) (fun d1 ed1 bd1 cd1 => ?_)
  obtain rfl : d1 = a1 := by omega
  exact ⟨hS.k336, h⟩
theorem lc_5 {L : Nat} {xs : Nat → Int32} {S : Sh} {M : Mm} {i n : Int} {K : Sh → Mm → Prop} (hS : Shp S) (hz : RZ S M n) (h0 : 0 ≤ i) (h1 : i + 6 ≤ L) (hL : L ≤ 3072) (n0 : 0 ≤ n) (n1 : n ≤ 600) (hk : ∀ (S1 : Sh) (M1 : Mm), Shp S1 → RZ S1 M1 (n + 1) → K S1 M1) : wp_Lc_5 L xs 0 336 S M i K := by
  unfold wp_Lc_5
  refine g_C ?_
  refine g_A (by omega) (by omega) ?_
  refine g_sc (by omega) (by omega) (fun a1 ea1 ba1 ca1 => ?_)
  refine g_C ?_
  refine g_A (by omega) (by omega) ?_
  refine g_sc (by omega) (by omega) (fun a2 ea2 ba2 ca2 => ?_)
  refine ⟨hS.k0, ?_⟩
  refine zz_hand (K := fun r r2 M2 => K S M2) hS hz (fun r M1 h => ?_) (fun r M1 z1 => hk S M1 hS (z1.mono (by omega)))
  refine g_C ?_
  refine g_A (by omega) (by omega) ?_
  refine g_sc (by omega) (by omega) (fun d1 ed1 bd1 cd1 => ?_)
  refine g_C ?_
  refine g_A (by omega) (by omega) ?_
  refine g_sc (by omega) (by omega) (fun d2 ed2 bd2 cd2 => ?_)
  obtain rfl : d1 = a1 := by omega
  obtain rfl : d2 = a2 := by omega
  exact ⟨hS.k336, h⟩
theorem lc_6 {L : Nat} {xs : Nat → Int32} {S : Sh} {M : Mm} {i n : Int} {K : Sh → Mm → Prop} (hS : Shp S) (hz : RZ S M n) (h0 : 0 ≤ i) (h1 : i + 6 ≤ L) (hL : L ≤ 3072) (n0 : 0 ≤ n) (n1 : n ≤ 600) (hk : ∀ (S1 : Sh) (M1 : Mm), Shp S1 → RZ S1 M1 (n + 1) → K S1 M1) : wp_Lc_6 L xs 0 336 S M i K := by
  unfold wp_Lc_6
  refine g_C ?_
  refine g_A (by omega) (by omega) ?_
  refine g_sc (by omega) (by omega) (fun a1 ea1 ba1 ca1 => ?_)
  refine g_C ?_
  refine g_A (by omega) (by omega) ?_
  refine g_sc (by omega) (by omega) (fun a2 ea2 ba2 ca2 => ?_)
  refine ⟨hS.k0, ?_⟩
  refine zz_jug (K := fun r r2 M2 => K S M2) hS hz (fun r M1 h => ?_) (fun r M1 z1 => hk S M1 hS (z1.mono (by omega)))
  refine g_C ?_
  refine g_A (by omega) (by omega) ?_
  refine g_sc (by omega) (by omega) (fun d1 ed1 bd1 cd1 => ?_)
  refine g_C ?_
  refine g_A (by omega) (by omega) ?_
  refine g_sc (by omega) (by omega) (fun d2 ed2 bd2 cd2 => ?_)
  obtain rfl : d1 = a1 := by omega
  obtain rfl : d2 = a2 := by omega
  exact ⟨hS.k336, h⟩
theorem lc_7 {L : Nat} {xs : Nat → Int32} {S : Sh} {M : Mm} {i n : Int} {K : Sh → Mm → Prop} (hS : Shp S) (hz : RZ S M n) (h0 : 0 ≤ i) (h1 : i + 6 ≤ L) (hL : L ≤ 3072) (n0 : 0 ≤ n) (n1 : n ≤ 600) (hk : ∀ (S1 : Sh) (M1 : Mm), Shp S1 → RZ S1 M1 (n + 1) → K S1 M1) : wp_Lc_7 L xs 0 336 S M i K := by
  unfold wp_Lc_7
  refine g_C ?_
  refine g_A (by omega) (by omega) ?_
  refine g_sc (by omega) (by omega) (fun a1 ea1 ba1 ca1 => ?_)
  refine g_C ?_
  refine g_A (by omega) (by omega) ?_
  refine g_sc (by omega) (by omega) (fun a2 ea2 ba2 ca2 => ?_)
  refine ⟨hS.k0, ?_⟩
  refine zz_want (K := fun r r2 M2 => K S M2) hS hz (fun r M1 h => ?_) (fun r M1 z1 => hk S M1 hS (z1.mono (by omega)))
  refine g_C ?_
  refine g_A (by omega) (by omega) ?_
  refine g_sc (by omega) (by omega) (fun d1 ed1 bd1 cd1 => ?_)
  refine g_C ?_
  refine g_A (by omega) (by omega) ?_
  refine g_sc (by omega) (by omega) (fun d2 ed2 bd2 cd2 => ?_)
  obtain rfl : d1 = a1 := by omega
  obtain rfl : d2 = a2 := by omega
  exact ⟨hS.k336, h⟩
theorem lc_8 {L : Nat} {xs : Nat → Int32} {S : Sh} {M : Mm} {i n : Int} {K : Sh → Mm → Prop} (hS : Shp S) (hz : RZ S M n) (h0 : 0 ≤ i) (h1 : i + 6 ≤ L) (hL : L ≤ 3072) (n0 : 0 ≤ n) (n1 : n ≤ 600) (hk : ∀ (S1 : Sh) (M1 : Mm), Shp S1 → RZ S1 M1 (n + 1) → K S1 M1) : wp_Lc_8 L xs 0 336 S M i K := by
  unfold wp_Lc_8
  refine ⟨hS.k0, ?_⟩
  refine zz_hour (K := fun r r2 M2 => K S M2) hS hz (fun r M1 h => ?_) (fun r M1 z1 => hk S M1 hS z1)
  exact ⟨hS.k336, h⟩
theorem lc_9 {L : Nat} {xs : Nat → Int32} {S : Sh} {M : Mm} {i n : Int} {K : Sh → Mm → Prop} (hS : Shp S) (hz : RZ S M n) (h0 : 0 ≤ i) (h1 : i + 6 ≤ L) (hL : L ≤ 3072) (n0 : 0 ≤ n) (n1 : n ≤ 600) (hk : ∀ (S1 : Sh) (M1 : Mm), Shp S1 → RZ S1 M1 (n + 1) → K S1 M1) : wp_Lc_9 L xs 0 336 S M i K := by
  unfold wp_Lc_9
  refine g_C ?_
  refine g_A (by omega) (by omega) ?_
  refine g_sc (by omega) (by omega) (fun a1 ea1 ba1 ca1 => ?_)
  refine g_C ?_
  refine g_A (by omega) (by omega) ?_
  refine g_sc (by omega) (by omega) (fun a2 ea2 ba2 ca2 => ?_)
  refine ⟨hS.k0, ?_⟩
  refine zz_take (K := fun r r2 M2 => K S M2) hS hz (fun r M1 h => ?_) (fun r M1 z1 => hk S M1 hS (z1.mono (by omega)))
  refine g_C ?_
  refine g_A (by omega) (by omega) ?_
  refine g_sc (by omega) (by omega) (fun d1 ed1 bd1 cd1 => ?_)
  refine g_C ?_
  refine g_A (by omega) (by omega) ?_
  refine g_sc (by omega) (by omega) (fun d2 ed2 bd2 cd2 => ?_)
  obtain rfl : d1 = a1 := by omega
  obtain rfl : d2 = a2 := by omega
  exact ⟨hS.k336, h⟩
theorem lc_10 {L : Nat} {xs : Nat → Int32} {S : Sh} {M : Mm} {i n : Int} {K : Sh → Mm → Prop} (hS : Shp S) (hz : RZ S M n) (h0 : 0 ≤ i) (h1 : i + 6 ≤ L) (hL : L ≤ 3072) (n0 : 0 ≤ n) (n1 : n ≤ 600) (hk : ∀ (S1 : Sh) (M1 : Mm), Shp S1 → RZ S1 M1 (n + 1) → K S1 M1) : wp_Lc_10 L xs 0 336 S M i K := by
  unfold wp_Lc_10
  refine g_C ?_
  refine g_A (by omega) (by omega) ?_
  refine g_sc (by omega) (by omega) (fun a1 ea1 ba1 ca1 => ?_)
  refine g_C ?_
  refine g_A (by omega) (by omega) ?_
  refine g_sc (by omega) (by omega) (fun a2 ea2 ba2 ca2 => ?_)
  refine ⟨hS.k0, ?_⟩
  refine zz_put (K := fun r r2 M2 => K S M2) hS hz (fun r M1 h => ?_) (fun r M1 z1 => hk S M1 hS (z1.mono (by omega)))
  refine g_C ?_
  refine g_A (by omega) (by omega) ?_
  refine g_sc (by omega) (by omega) (fun d1 ed1 bd1 cd1 => ?_)
  refine g_C ?_
  refine g_A (by omega) (by omega) ?_
  refine g_sc (by omega) (by omega) (fun d2 ed2 bd2 cd2 => ?_)
  obtain rfl : d1 = a1 := by omega
  obtain rfl : d2 = a2 := by omega
  exact ⟨hS.k336, h⟩
theorem lc_11 {L : Nat} {xs : Nat → Int32} {S : Sh} {M : Mm} {i n : Int} {K : Sh → Mm → Prop} (hS : Shp S) (hz : RZ S M n) (h0 : 0 ≤ i) (h1 : i + 6 ≤ L) (hL : L ≤ 3072) (n0 : 0 ≤ n) (n1 : n ≤ 600) (hk : ∀ (S1 : Sh) (M1 : Mm), Shp S1 → RZ S1 M1 (n + 1) → K S1 M1) : wp_Lc_11 L xs 0 336 S M i K := by
  unfold wp_Lc_11
  refine g_C ?_
  refine g_A (by omega) (by omega) ?_
  refine g_sc (by omega) (by omega) (fun a1 ea1 ba1 ca1 => ?_)
  refine g_C ?_
  refine g_A (by omega) (by omega) ?_
  refine g_sc (by omega) (by omega) (fun a2 ea2 ba2 ca2 => ?_)
  refine ⟨hS.k0, ?_⟩
  refine zz_handOn (K := fun r r2 M2 => K S M2) hS hz (fun r M1 h => ?_) (fun r M1 z1 => hk S M1 hS (z1.mono (by omega)))
  refine g_C ?_
  refine g_A (by omega) (by omega) ?_
  refine g_sc (by omega) (by omega) (fun d1 ed1 bd1 cd1 => ?_)
  refine g_C ?_
  refine g_A (by omega) (by omega) ?_
  refine g_sc (by omega) (by omega) (fun d2 ed2 bd2 cd2 => ?_)
  obtain rfl : d1 = a1 := by omega
  obtain rfl : d2 = a2 := by omega
  exact ⟨hS.k336, h⟩
theorem lc_12 {L : Nat} {xs : Nat → Int32} {S : Sh} {M : Mm} {i n : Int} {K : Sh → Mm → Prop} (hS : Shp S) (hz : RZ S M n) (h0 : 0 ≤ i) (h1 : i + 6 ≤ L) (hL : L ≤ 3072) (n0 : 0 ≤ n) (n1 : n ≤ 600) (hk : ∀ (S1 : Sh) (M1 : Mm), Shp S1 → RZ S1 M1 (n + 1) → K S1 M1) : wp_Lc_12 L xs 0 336 S M i K := by
  unfold wp_Lc_12
  refine g_C ?_
  refine g_A (by omega) (by omega) ?_
  refine g_sc (by omega) (by omega) (fun a1 ea1 ba1 ca1 => ?_)
  refine g_C ?_
  refine g_A (by omega) (by omega) ?_
  refine g_sc (by omega) (by omega) (fun a2 ea2 ba2 ca2 => ?_)
  refine ⟨hS.k0, ?_⟩
  refine zz_go (K := fun r r2 M2 => K S M2) hS hz (fun r M1 h => ?_) (fun r M1 z1 => hk S M1 hS (z1.mono (by omega)))
  refine g_C ?_
  refine g_A (by omega) (by omega) ?_
  refine g_sc (by omega) (by omega) (fun d1 ed1 bd1 cd1 => ?_)
  refine g_C ?_
  refine g_A (by omega) (by omega) ?_
  refine g_sc (by omega) (by omega) (fun d2 ed2 bd2 cd2 => ?_)
  obtain rfl : d1 = a1 := by omega
  obtain rfl : d2 = a2 := by omega
  exact ⟨hS.k336, h⟩
theorem lc_13 {L : Nat} {xs : Nat → Int32} {S : Sh} {M : Mm} {i n : Int} {K : Sh → Mm → Prop} (hS : Shp S) (hz : RZ S M n) (h0 : 0 ≤ i) (h1 : i + 6 ≤ L) (hL : L ≤ 3072) (n0 : 0 ≤ n) (n1 : n ≤ 600) (hk : ∀ (S1 : Sh) (M1 : Mm), Shp S1 → RZ S1 M1 (n + 1) → K S1 M1) : wp_Lc_13 L xs 0 336 S M i K := by
  unfold wp_Lc_13
  refine g_C ?_
  refine g_A (by omega) (by omega) ?_
  refine g_sc (by omega) (by omega) (fun a1 ea1 ba1 ca1 => ?_)
  refine ⟨hS.k0, ?_⟩
  refine zz_meet (K := fun r r2 M2 => K S M2) hS hz (fun r M1 h => ?_) (fun r M1 z1 => hk S M1 hS (z1.mono (by omega)))
  refine g_C ?_
  refine g_A (by omega) (by omega) ?_
  refine g_sc (by omega) (by omega) (fun d1 ed1 bd1 cd1 => ?_)
  obtain rfl : d1 = a1 := by omega
  exact ⟨hS.k336, h⟩
theorem lc_14 {L : Nat} {xs : Nat → Int32} {S : Sh} {M : Mm} {i n : Int} {K : Sh → Mm → Prop} (hS : Shp S) (hz : RZ S M n) (h0 : 0 ≤ i) (h1 : i + 6 ≤ L) (hL : L ≤ 3072) (n0 : 0 ≤ n) (n1 : n ≤ 600) (hk : ∀ (S1 : Sh) (M1 : Mm), Shp S1 → RZ S1 M1 (n + 1) → K S1 M1) : wp_Lc_14 L xs 0 336 S M i K := by
  unfold wp_Lc_14
  refine ⟨hS.k0, ?_⟩
  refine zz_undo (K := fun r r2 M2 => K S M2) hS hz (fun r M1 h => ?_) (fun r M1 z1 => hk S M1 hS (z1.mono (by omega)))
  exact ⟨hS.k336, h⟩
theorem lc_15 {L : Nat} {xs : Nat → Int32} {S : Sh} {M : Mm} {i n : Int} {K : Sh → Mm → Prop} (hS : Shp S) (hz : RZ S M n) (h0 : 0 ≤ i) (h1 : i + 6 ≤ L) (hL : L ≤ 3072) (n0 : 0 ≤ n) (n1 : n ≤ 600) (hk : ∀ (S1 : Sh) (M1 : Mm), Shp S1 → RZ S1 M1 (n + 1) → K S1 M1) : wp_Lc_15 L xs 0 336 S M i K := by
  unfold wp_Lc_15
  refine g_C ?_
  refine g_A (by omega) (by omega) ?_
  refine g_sc (by omega) (by omega) (fun a1 ea1 ba1 ca1 => ?_)
  refine g_C ?_
  refine g_A (by omega) (by omega) ?_
  refine g_sc (by omega) (by omega) (fun a2 ea2 ba2 ca2 => ?_)
  refine g_C ?_
  refine g_A (by omega) (by omega) ?_
  refine g_sc (by omega) (by omega) (fun a3 ea3 ba3 ca3 => ?_)
  refine ⟨hS.k0, ?_⟩
  refine zz_ahead (K := fun r r2 M2 => K S M2) hS hz (by omega) (fun r M1 h => ?_) (fun r M1 z1 => hk S M1 hS (z1.mono (by omega)))
  refine g_C ?_
  refine g_A (by omega) (by omega) ?_
  refine g_sc (by omega) (by omega) (fun d1 ed1 bd1 cd1 => ?_)
  refine g_C ?_
  refine g_A (by omega) (by omega) ?_
  refine g_sc (by omega) (by omega) (fun d2 ed2 bd2 cd2 => ?_)
  refine g_C ?_
  refine g_A (by omega) (by omega) ?_
  refine g_sc (by omega) (by omega) (fun d3 ed3 bd3 cd3 => ?_)
  obtain rfl : d1 = a1 := by omega
  obtain rfl : d2 = a2 := by omega
  obtain rfl : d3 = a3 := by omega
  exact ⟨hS.k336, h⟩
theorem lc_16 {L : Nat} {xs : Nat → Int32} {S : Sh} {M : Mm} {i n : Int} {K : Sh → Mm → Prop} (hS : Shp S) (hz : RZ S M n) (h0 : 0 ≤ i) (h1 : i + 6 ≤ L) (hL : L ≤ 3072) (n0 : 0 ≤ n) (n1 : n ≤ 600) (hk : ∀ (S1 : Sh) (M1 : Mm), Shp S1 → RZ S1 M1 (n + 1) → K S1 M1) : wp_Lc_16 L xs 0 336 S M i K := by
  unfold wp_Lc_16
  refine g_C ?_
  refine g_A (by omega) (by omega) ?_
  refine g_sc (by omega) (by omega) (fun a1 ea1 ba1 ca1 => ?_)
  refine g_C ?_
  refine g_A (by omega) (by omega) ?_
  refine g_sc (by omega) (by omega) (fun a2 ea2 ba2 ca2 => ?_)
  refine g_C ?_
  refine g_A (by omega) (by omega) ?_
  refine g_sc (by omega) (by omega) (fun a3 ea3 ba3 ca3 => ?_)
  refine ⟨hS.k0, ?_⟩
  refine ww_way (K := fun r r2 M2 => K S M2) hS hz ba1 ca1 ba2 ca2 ba3 ca3 (fun r M1 h => ?_) (fun r r2 M1 z1 => hk S M1 hS (z1.mono (by omega)))
  refine g_C ?_
  refine g_A (by omega) (by omega) ?_
  refine g_sc (by omega) (by omega) (fun d1 ed1 bd1 cd1 => ?_)
  refine g_C ?_
  refine g_A (by omega) (by omega) ?_
  refine g_sc (by omega) (by omega) (fun d2 ed2 bd2 cd2 => ?_)
  refine g_C ?_
  refine g_A (by omega) (by omega) ?_
  refine g_sc (by omega) (by omega) (fun d3 ed3 bd3 cd3 => ?_)
  obtain rfl : d1 = a1 := by omega
  obtain rfl : d2 = a2 := by omega
  obtain rfl : d3 = a3 := by omega
  exact ⟨hS.k336, h⟩
theorem lc_17 {L : Nat} {xs : Nat → Int32} {S : Sh} {M : Mm} {i n : Int} {K : Sh → Mm → Prop} (hS : Shp S) (hz : RZ S M n) (h0 : 0 ≤ i) (h1 : i + 6 ≤ L) (hL : L ≤ 3072) (n0 : 0 ≤ n) (n1 : n ≤ 600) (hk : ∀ (S1 : Sh) (M1 : Mm), Shp S1 → RZ S1 M1 (n + 1) → K S1 M1) : wp_Lc_17 L xs 0 336 S M i K := by
  unfold wp_Lc_17
  refine g_C ?_
  refine g_A (by omega) (by omega) ?_
  refine g_sc (by omega) (by omega) (fun a1 ea1 ba1 ca1 => ?_)
  refine g_C ?_
  refine g_A (by omega) (by omega) ?_
  refine g_sc (by omega) (by omega) (fun a2 ea2 ba2 ca2 => ?_)
  refine g_C ?_
  refine g_A (by omega) (by omega) ?_
  refine g_sc (by omega) (by omega) (fun a3 ea3 ba3 ca3 => ?_)
  refine ⟨hS.k0, ?_⟩
  refine ww_brings (K := fun r r2 M2 => K S M2) hS hz ba1 ca1 ba2 ca2 ba3 ca3 (fun r M1 h => ?_) (fun r r2 M1 z1 => hk S M1 hS (z1.mono (by omega)))
  refine g_C ?_
  refine g_A (by omega) (by omega) ?_
  refine g_sc (by omega) (by omega) (fun d1 ed1 bd1 cd1 => ?_)
  refine g_C ?_
  refine g_A (by omega) (by omega) ?_
  refine g_sc (by omega) (by omega) (fun d2 ed2 bd2 cd2 => ?_)
  refine g_C ?_
  refine g_A (by omega) (by omega) ?_
  refine g_sc (by omega) (by omega) (fun d3 ed3 bd3 cd3 => ?_)
  obtain rfl : d1 = a1 := by omega
  obtain rfl : d2 = a2 := by omega
  obtain rfl : d3 = a3 := by omega
  exact ⟨hS.k336, h⟩
theorem lc_18 {L : Nat} {xs : Nat → Int32} {S : Sh} {M : Mm} {i n : Int} {K : Sh → Mm → Prop} (hS : Shp S) (hz : RZ S M n) (h0 : 0 ≤ i) (h1 : i + 6 ≤ L) (hL : L ≤ 3072) (n0 : 0 ≤ n) (n1 : n ≤ 600) (hk : ∀ (S1 : Sh) (M1 : Mm), Shp S1 → RZ S1 M1 (n + 1) → K S1 M1) : wp_Lc_18 L xs 0 336 S M i K := by
  unfold wp_Lc_18
  refine g_C ?_
  refine g_A (by omega) (by omega) ?_
  refine g_sc (by omega) (by omega) (fun a1 ea1 ba1 ca1 => ?_)
  refine g_C ?_
  refine g_A (by omega) (by omega) ?_
  refine g_sc (by omega) (by omega) (fun a2 ea2 ba2 ca2 => ?_)
  refine g_C ?_
  refine g_A (by omega) (by omega) ?_
  refine g_sc (by omega) (by omega) (fun a3 ea3 ba3 ca3 => ?_)
  refine g_C ?_
  refine g_A (by omega) (by omega) ?_
  refine g_sc (by omega) (by omega) (fun a4 ea4 ba4 ca4 => ?_)
  refine g_C ?_
  refine g_A (by omega) (by omega) ?_
  refine g_sc (by omega) (by omega) (fun a5 ea5 ba5 ca5 => ?_)
  refine ⟨hS.k0, ?_⟩
  refine ww_relay (K := fun r r2 M2 => K S M2) hS hz ba1 ca1 ba2 ca2 ba3 ca3 ba4 ca4 ba5 ca5 (fun r M1 h => ?_) (fun r r2 M1 z1 => hk S M1 hS (z1.mono (by omega)))
  refine g_C ?_
  refine g_A (by omega) (by omega) ?_
  refine g_sc (by omega) (by omega) (fun d1 ed1 bd1 cd1 => ?_)
  refine g_C ?_
  refine g_A (by omega) (by omega) ?_
  refine g_sc (by omega) (by omega) (fun d2 ed2 bd2 cd2 => ?_)
  refine g_C ?_
  refine g_A (by omega) (by omega) ?_
  refine g_sc (by omega) (by omega) (fun d3 ed3 bd3 cd3 => ?_)
  refine g_C ?_
  refine g_A (by omega) (by omega) ?_
  refine g_sc (by omega) (by omega) (fun d4 ed4 bd4 cd4 => ?_)
  refine g_C ?_
  refine g_A (by omega) (by omega) ?_
  refine g_sc (by omega) (by omega) (fun d5 ed5 bd5 cd5 => ?_)
  obtain rfl : d1 = a1 := by omega
  obtain rfl : d2 = a2 := by omega
  obtain rfl : d3 = a3 := by omega
  obtain rfl : d4 = a4 := by omega
  obtain rfl : d5 = a5 := by omega
  exact ⟨hS.k336, h⟩
theorem lc_19 {L : Nat} {xs : Nat → Int32} {S : Sh} {M : Mm} {i n : Int} {K : Sh → Mm → Prop} (hS : Shp S) (hz : RZ S M n) (h0 : 0 ≤ i) (h1 : i + 6 ≤ L) (hL : L ≤ 3072) (n0 : 0 ≤ n) (n1 : n ≤ 600) (hk : ∀ (S1 : Sh) (M1 : Mm), Shp S1 → RZ S1 M1 (n + 1) → K S1 M1) : wp_Lc_19 L xs 0 336 S M i K := by
  unfold wp_Lc_19
  refine g_C ?_
  refine g_A (by omega) (by omega) ?_
  refine g_sc (by omega) (by omega) (fun a1 ea1 ba1 ca1 => ?_)
  refine ⟨hS.k0, ?_⟩
  refine ww_match (K := fun r r2 M2 => K S M2) hS hz ba1 ca1 (fun r M1 h => ?_) (fun r r2 M1 z1 => hk S M1 hS (z1.mono (by omega)))
  refine g_C ?_
  refine g_A (by omega) (by omega) ?_
  refine g_sc (by omega) (by omega) (fun d1 ed1 bd1 cd1 => ?_)
  obtain rfl : d1 = a1 := by omega
  exact ⟨hS.k336, h⟩
theorem lc_20 {L : Nat} {xs : Nat → Int32} {S : Sh} {M : Mm} {i n : Int} {K : Sh → Mm → Prop} (hS : Shp S) (hz : RZ S M n) (h0 : 0 ≤ i) (h1 : i + 6 ≤ L) (hL : L ≤ 3072) (n0 : 0 ≤ n) (n1 : n ≤ 600) (hk : ∀ (S1 : Sh) (M1 : Mm), Shp S1 → RZ S1 M1 (n + 1) → K S1 M1) : wp_Lc_20 L xs 0 336 S M i K := by
  unfold wp_Lc_20
  refine g_C ?_
  refine g_A (by omega) (by omega) ?_
  refine g_sc (by omega) (by omega) (fun a1 ea1 ba1 ca1 => ?_)
  refine g_C ?_
  refine g_A (by omega) (by omega) ?_
  refine g_sc (by omega) (by omega) (fun a2 ea2 ba2 ca2 => ?_)
  refine g_C ?_
  refine g_A (by omega) (by omega) ?_
  refine g_sc (by omega) (by omega) (fun a3 ea3 ba3 ca3 => ?_)
  refine g_C ?_
  refine g_A (by omega) (by omega) ?_
  refine g_sc (by omega) (by omega) (fun a4 ea4 ba4 ca4 => ?_)
  refine ⟨hS.k0, ?_⟩
  refine ww_rest (K := fun r r2 M2 => K S M2) hS hz ba1 ca1 ba2 ca2 ba3 ca3 ba4 ca4 (fun r M1 h => ?_) (fun r r2 M1 z1 => hk S M1 hS (z1.mono (by omega)))
  refine g_C ?_
  refine g_A (by omega) (by omega) ?_
  refine g_sc (by omega) (by omega) (fun d1 ed1 bd1 cd1 => ?_)
  refine g_C ?_
  refine g_A (by omega) (by omega) ?_
  refine g_sc (by omega) (by omega) (fun d2 ed2 bd2 cd2 => ?_)
  refine g_C ?_
  refine g_A (by omega) (by omega) ?_
  refine g_sc (by omega) (by omega) (fun d3 ed3 bd3 cd3 => ?_)
  refine g_C ?_
  refine g_A (by omega) (by omega) ?_
  refine g_sc (by omega) (by omega) (fun d4 ed4 bd4 cd4 => ?_)
  obtain rfl : d1 = a1 := by omega
  obtain rfl : d2 = a2 := by omega
  obtain rfl : d3 = a3 := by omega
  obtain rfl : d4 = a4 := by omega
  exact ⟨hS.k336, h⟩
theorem lc_21 {L : Nat} {xs : Nat → Int32} {S : Sh} {M : Mm} {i n : Int} {K : Sh → Mm → Prop} (hS : Shp S) (hz : RZ S M n) (h0 : 0 ≤ i) (h1 : i + 6 ≤ L) (hL : L ≤ 3072) (n0 : 0 ≤ n) (n1 : n ≤ 600) (hk : ∀ (S1 : Sh) (M1 : Mm), Shp S1 → RZ S1 M1 (n + 1) → K S1 M1) : wp_Lc_21 L xs 0 336 S M i K := by
  unfold wp_Lc_21
  refine g_C ?_
  refine g_A (by omega) (by omega) ?_
  refine g_sc (by omega) (by omega) (fun a1 ea1 ba1 ca1 => ?_)
  refine g_C ?_
  refine g_A (by omega) (by omega) ?_
  refine g_sc (by omega) (by omega) (fun a2 ea2 ba2 ca2 => ?_)
  refine g_C ?_
  refine g_A (by omega) (by omega) ?_
  refine g_sc (by omega) (by omega) (fun a3 ea3 ba3 ca3 => ?_)
  refine g_C ?_
  refine g_A (by omega) (by omega) ?_
  refine g_sc (by omega) (by omega) (fun a4 ea4 ba4 ca4 => ?_)
  refine ⟨hS.k0, ?_⟩
  refine ww_test (K := fun r r2 M2 => K S M2) hS hz (fun r M1 h => ?_) (fun r r2 M1 z1 => hk S M1 hS (z1.mono (by omega)))
  refine g_C ?_
  refine g_A (by omega) (by omega) ?_
  refine g_sc (by omega) (by omega) (fun d1 ed1 bd1 cd1 => ?_)
  refine g_C ?_
  refine g_A (by omega) (by omega) ?_
  refine g_sc (by omega) (by omega) (fun d2 ed2 bd2 cd2 => ?_)
  refine g_C ?_
  refine g_A (by omega) (by omega) ?_
  refine g_sc (by omega) (by omega) (fun d3 ed3 bd3 cd3 => ?_)
  refine g_C ?_
  refine g_A (by omega) (by omega) ?_
  refine g_sc (by omega) (by omega) (fun d4 ed4 bd4 cd4 => ?_)
  obtain rfl : d1 = a1 := by omega
  obtain rfl : d2 = a2 := by omega
  obtain rfl : d3 = a3 := by omega
  obtain rfl : d4 = a4 := by omega
  exact ⟨hS.k336, h⟩
theorem lc_22 {L : Nat} {xs : Nat → Int32} {S : Sh} {M : Mm} {i n : Int} {K : Sh → Mm → Prop} (hS : Shp S) (hz : RZ S M n) (h0 : 0 ≤ i) (h1 : i + 6 ≤ L) (hL : L ≤ 3072) (n0 : 0 ≤ n) (n1 : n ≤ 600) (hk : ∀ (S1 : Sh) (M1 : Mm), Shp S1 → RZ S1 M1 (n + 1) → K S1 M1) : wp_Lc_22 L xs 0 336 S M i K := by
  unfold wp_Lc_22
  refine g_C ?_
  refine g_A (by omega) (by omega) ?_
  refine g_sc (by omega) (by omega) (fun a1 ea1 ba1 ca1 => ?_)
  refine ⟨hS.k0, ?_⟩
  refine ww_who (K := fun r r2 M2 => K S M2) hS hz ba1 ca1 (fun r M1 h => ?_) (fun r r2 M1 z1 => hk S M1 hS (z1.mono (by omega)))
  refine g_C ?_
  refine g_A (by omega) (by omega) ?_
  refine g_sc (by omega) (by omega) (fun d1 ed1 bd1 cd1 => ?_)
  obtain rfl : d1 = a1 := by omega
  exact ⟨hS.k336, h⟩
theorem lc_23 {L : Nat} {xs : Nat → Int32} {S : Sh} {M : Mm} {i n : Int} {K : Sh → Mm → Prop} (hS : Shp S) (hz : RZ S M n) (h0 : 0 ≤ i) (h1 : i + 6 ≤ L) (hL : L ≤ 3072) (n0 : 0 ≤ n) (n1 : n ≤ 600) (hk : ∀ (S1 : Sh) (M1 : Mm), Shp S1 → RZ S1 M1 (n + 1) → K S1 M1) : wp_Lc_23 L xs 0 336 S M i K := by
  unfold wp_Lc_23
  refine g_C ?_
  refine g_A (by omega) (by omega) ?_
  refine g_sc (by omega) (by omega) (fun a1 ea1 ba1 ca1 => ?_)
  refine ⟨hS.k0, ?_⟩
  refine ww_probe (K := fun r r2 M2 => K S M2) hS hz ba1 ca1 (fun r M1 h => ?_) (fun r r2 M1 z1 => hk S M1 hS (z1.mono (by omega)))
  refine g_C ?_
  refine g_A (by omega) (by omega) ?_
  refine g_sc (by omega) (by omega) (fun d1 ed1 bd1 cd1 => ?_)
  obtain rfl : d1 = a1 := by omega
  exact ⟨hS.k336, h⟩
theorem lc_24 {L : Nat} {xs : Nat → Int32} {S : Sh} {M : Mm} {i n : Int} {K : Sh → Mm → Prop} (hS : Shp S) (hz : RZ S M n) (h0 : 0 ≤ i) (h1 : i + 6 ≤ L) (hL : L ≤ 3072) (n0 : 0 ≤ n) (n1 : n ≤ 600) (hk : ∀ (S1 : Sh) (M1 : Mm), Shp S1 → RZ S1 M1 (n + 1) → K S1 M1) : wp_Lc_24 L xs 0 336 S M i K := by
  unfold wp_Lc_24
  refine g_C ?_
  refine g_A (by omega) (by omega) ?_
  refine g_sc (by omega) (by omega) (fun a1 ea1 ba1 ca1 => ?_)
  refine g_C ?_
  refine g_A (by omega) (by omega) ?_
  refine g_sc (by omega) (by omega) (fun a2 ea2 ba2 ca2 => ?_)
  refine g_C ?_
  refine g_A (by omega) (by omega) ?_
  refine g_sc (by omega) (by omega) (fun a3 ea3 ba3 ca3 => ?_)
  refine ⟨hS.k0, ?_⟩
  refine zz_rows (K := fun r r2 M2 => K S M2) hS hz (fun r M1 h => ?_) (fun r M1 z1 => hk S M1 hS (z1.mono (by omega)))
  refine g_C ?_
  refine g_A (by omega) (by omega) ?_
  refine g_sc (by omega) (by omega) (fun d1 ed1 bd1 cd1 => ?_)
  refine g_C ?_
  refine g_A (by omega) (by omega) ?_
  refine g_sc (by omega) (by omega) (fun d2 ed2 bd2 cd2 => ?_)
  refine g_C ?_
  refine g_A (by omega) (by omega) ?_
  refine g_sc (by omega) (by omega) (fun d3 ed3 bd3 cd3 => ?_)
  obtain rfl : d1 = a1 := by omega
  obtain rfl : d2 = a2 := by omega
  obtain rfl : d3 = a3 := by omega
  exact ⟨hS.k336, h⟩
theorem lc_25 {L : Nat} {xs : Nat → Int32} {S : Sh} {M : Mm} {i n : Int} {K : Sh → Mm → Prop} (hS : Shp S) (hz : RZ S M n) (h0 : 0 ≤ i) (h1 : i + 6 ≤ L) (hL : L ≤ 3072) (n0 : 0 ≤ n) (n1 : n ≤ 600) (hk : ∀ (S1 : Sh) (M1 : Mm), Shp S1 → RZ S1 M1 (n + 1) → K S1 M1) : wp_Lc_25 L xs 0 336 S M i K := by
  unfold wp_Lc_25
  refine g_C ?_
  refine g_A (by omega) (by omega) ?_
  refine g_sc (by omega) (by omega) (fun a1 ea1 ba1 ca1 => ?_)
  refine ⟨hS.k0, ?_⟩
  refine zz_ice (K := fun r r2 M2 => K S M2) hS hz (by omega) (fun r M1 h => ?_) (fun r M1 z1 => hk S M1 hS (z1.mono (by omega)))
  refine g_C ?_
  refine g_A (by omega) (by omega) ?_
  refine g_sc (by omega) (by omega) (fun d1 ed1 bd1 cd1 => ?_)
  obtain rfl : d1 = a1 := by omega
  exact ⟨hS.k336, h⟩
theorem lc_26 {L : Nat} {xs : Nat → Int32} {S : Sh} {M : Mm} {i n : Int} {K : Sh → Mm → Prop} (hS : Shp S) (hz : RZ S M n) (h0 : 0 ≤ i) (h1 : i + 6 ≤ L) (hL : L ≤ 3072) (n0 : 0 ≤ n) (n1 : n ≤ 600) (hk : ∀ (S1 : Sh) (M1 : Mm), Shp S1 → RZ S1 M1 (n + 1) → K S1 M1) : wp_Lc_26 L xs 0 336 S M i K := by
  unfold wp_Lc_26
  refine g_C ?_
  refine g_A (by omega) (by omega) ?_
  refine g_sc (by omega) (by omega) (fun a1 ea1 ba1 ca1 => ?_)
  refine ⟨hS.k0, ?_⟩
  refine zz_seed (K := fun r r2 M2 => K S M2) hS hz ca1 (fun r M1 h => ?_) (fun r M1 z1 => hk S M1 hS (z1.mono (by omega)))
  refine g_C ?_
  refine g_A (by omega) (by omega) ?_
  refine g_sc (by omega) (by omega) (fun d1 ed1 bd1 cd1 => ?_)
  obtain rfl : d1 = a1 := by omega
  exact ⟨hS.k336, h⟩
theorem lc_27 {L : Nat} {xs : Nat → Int32} {S : Sh} {M : Mm} {i n : Int} {K : Sh → Mm → Prop} (hS : Shp S) (hz : RZ S M n) (h0 : 0 ≤ i) (h1 : i + 6 ≤ L) (hL : L ≤ 3072) (n0 : 0 ≤ n) (n1 : n ≤ 600) (hk : ∀ (S1 : Sh) (M1 : Mm), Shp S1 → RZ S1 M1 (n + 1) → K S1 M1) : wp_Lc_27 L xs 0 336 S M i K := by
  unfold wp_Lc_27
  refine g_C ?_
  refine g_A (by omega) (by omega) ?_
  refine g_sc (by omega) (by omega) (fun a1 ea1 ba1 ca1 => ?_)
  refine g_C ?_
  refine g_A (by omega) (by omega) ?_
  refine g_sc (by omega) (by omega) (fun a2 ea2 ba2 ca2 => ?_)
  refine g_C ?_
  refine g_A (by omega) (by omega) ?_
  refine g_sc (by omega) (by omega) (fun a3 ea3 ba3 ca3 => ?_)
  refine ⟨hS.k0, ?_⟩
  refine ww_years (K := fun r r2 M2 => K S M2) hS hz ba1 ca1 ba2 ca2 ba3 ca3 (fun r M1 h => ?_) (fun r r2 M1 z1 => hk S M1 hS (z1.mono (by omega)))
  refine g_C ?_
  refine g_A (by omega) (by omega) ?_
  refine g_sc (by omega) (by omega) (fun d1 ed1 bd1 cd1 => ?_)
  refine g_C ?_
  refine g_A (by omega) (by omega) ?_
  refine g_sc (by omega) (by omega) (fun d2 ed2 bd2 cd2 => ?_)
  refine g_C ?_
  refine g_A (by omega) (by omega) ?_
  refine g_sc (by omega) (by omega) (fun d3 ed3 bd3 cd3 => ?_)
  obtain rfl : d1 = a1 := by omega
  obtain rfl : d2 = a2 := by omega
  obtain rfl : d3 = a3 := by omega
  exact ⟨hS.k336, h⟩
theorem lc_28 {L : Nat} {xs : Nat → Int32} {S : Sh} {M : Mm} {i n : Int} {K : Sh → Mm → Prop} (hS : Shp S) (hz : RZ S M n) (h0 : 0 ≤ i) (h1 : i + 6 ≤ L) (hL : L ≤ 3072) (n0 : 0 ≤ n) (n1 : n ≤ 600) (hk : ∀ (S1 : Sh) (M1 : Mm), Shp S1 → RZ S1 M1 (n + 1) → K S1 M1) : wp_Lc_28 L xs 0 336 S M i K := by
  unfold wp_Lc_28
  refine g_C ?_
  refine g_A (by omega) (by omega) ?_
  refine g_sc (by omega) (by omega) (fun a1 ea1 ba1 ca1 => ?_)
  refine ⟨hS.k0, ?_⟩
  refine zz_count (K := fun r r2 M2 => K S M2) hS hz (fun r M1 h => ?_) (fun r M1 z1 => hk S M1 hS (z1.mono (by omega)))
  refine g_C ?_
  refine g_A (by omega) (by omega) ?_
  refine g_sc (by omega) (by omega) (fun d1 ed1 bd1 cd1 => ?_)
  obtain rfl : d1 = a1 := by omega
  exact ⟨hS.k336, h⟩
theorem lc_29 {L : Nat} {xs : Nat → Int32} {S : Sh} {M : Mm} {i n : Int} {K : Sh → Mm → Prop} (hS : Shp S) (hz : RZ S M n) (h0 : 0 ≤ i) (h1 : i + 6 ≤ L) (hL : L ≤ 3072) (n0 : 0 ≤ n) (n1 : n ≤ 600) (hk : ∀ (S1 : Sh) (M1 : Mm), Shp S1 → RZ S1 M1 (n + 1) → K S1 M1) : wp_Lc_29 L xs 0 336 S M i K := by
  unfold wp_Lc_29
  refine g_C ?_
  refine g_A (by omega) (by omega) ?_
  refine g_sc (by omega) (by omega) (fun a1 ea1 ba1 ca1 => ?_)
  refine ⟨hS.k0, ?_⟩
  refine zz_image (K := fun r r2 M2 => K S M2) hS hz (fun r M1 h => ?_) (fun r M1 z1 => hk S M1 hS (z1.mono (by omega)))
  refine g_C ?_
  refine g_A (by omega) (by omega) ?_
  refine g_sc (by omega) (by omega) (fun d1 ed1 bd1 cd1 => ?_)
  obtain rfl : d1 = a1 := by omega
  exact ⟨hS.k336, h⟩
theorem lc_30 {L : Nat} {xs : Nat → Int32} {S : Sh} {M : Mm} {i n : Int} {K : Sh → Mm → Prop} (hS : Shp S) (hz : RZ S M n) (h0 : 0 ≤ i) (h1 : i + 6 ≤ L) (hL : L ≤ 3072) (n0 : 0 ≤ n) (n1 : n ≤ 600) (hk : ∀ (S1 : Sh) (M1 : Mm), Shp S1 → RZ S1 M1 (n + 1) → K S1 M1) : wp_Lc_30 L xs 0 336 S M i K := by
  unfold wp_Lc_30
  refine g_C ?_
  refine g_A (by omega) (by omega) ?_
  refine g_sc (by omega) (by omega) (fun a1 ea1 ba1 ca1 => ?_)
  refine ⟨hS.k0, ?_⟩
  refine zz_back (K := fun r r2 M2 => r = r2 ∧ K S M2) hS hz (fun r M1 h => ?_) (fun r M1 z1 => ⟨rfl, hk S M1 hS (z1.mono (by omega))⟩)
  refine g_C ?_
  refine g_A (by omega) (by omega) ?_
  refine g_sc (by omega) (by omega) (fun d1 ed1 bd1 cd1 => ?_)
  obtain rfl : d1 = a1 := by omega
  exact ⟨hS.k336, h⟩
theorem law_L {L : Nat} {xs : Nat → Int32} (hL : L ≤ 3072) : ∀ (w : Nat) (S : Sh) (M : Mm) (i n : Int), Shp S → RZ S M n → 0 ≤ n → i = 6 * n → i ≤ 3078 → 3084 - i ≤ 6 * (w : Int) → wp_L L xs 0 336 w S M i := by
  intro w
  induction w with
  | zero => intro S M i n _ _ _ _ _ h; exfalso; omega
  | succ w ih =>
    intro S M i n hS hz n0 ei i1 hn
    have i0 : 0 ≤ i := by omega
    unfold wp_L
    refine g_C ?_
    refine g_C ?_
    refine g_S (by omega) (by omega) ?_
    refine g_if (fun _ => trivial) (fun q => ?_)
    refine ⟨⟨i0, by omega⟩, ?_⟩
    have h6 : i + 6 ≤ L := by omega
    have n1 : n ≤ 600 := by omega
    refine g_sc i0 (by omega) (fun v ev bv cv => ?_)
    refine g_C ?_
    refine g_Oe (fun s es => ?_)
    have nx : ∀ (S1 : Sh) (M1 : Mm), Shp S1 → RZ S1 M1 (n + 1) → wA i 6 fun i1 => wp_L L xs 0 336 w S1 M1 i1 := by
      intro S1 M1 hS1 z1
      refine g_A (by omega) (by omega) ?_
      exact ih S1 M1 (i + 6) (n + 1) hS1 z1 (by omega) (by omega) (by omega) (by omega)
    refine g_if (fun _ => lc_0 hS hz i0 h6 hL n0 n1 nx) (fun _ => ?_)
    refine g_if (fun _ => lc_1 hS hz i0 h6 hL n0 n1 nx) (fun _ => ?_)
    refine g_if (fun _ => lc_2 hS hz i0 h6 hL n0 n1 nx) (fun _ => ?_)
    refine g_if (fun _ => lc_3 hS hz i0 h6 hL n0 n1 nx) (fun _ => ?_)
    refine g_if (fun _ => lc_4 hS hz i0 h6 hL n0 n1 nx) (fun _ => ?_)
    refine g_if (fun _ => lc_5 hS hz i0 h6 hL n0 n1 nx) (fun _ => ?_)
    refine g_if (fun _ => lc_6 hS hz i0 h6 hL n0 n1 nx) (fun _ => ?_)
    refine g_if (fun _ => lc_7 hS hz i0 h6 hL n0 n1 nx) (fun _ => ?_)
    refine g_if (fun _ => lc_8 hS hz i0 h6 hL n0 n1 nx) (fun _ => ?_)
    refine g_if (fun _ => lc_9 hS hz i0 h6 hL n0 n1 nx) (fun _ => ?_)
    refine g_if (fun _ => lc_10 hS hz i0 h6 hL n0 n1 nx) (fun _ => ?_)
    refine g_if (fun _ => lc_11 hS hz i0 h6 hL n0 n1 nx) (fun _ => ?_)
    refine g_if (fun _ => lc_12 hS hz i0 h6 hL n0 n1 nx) (fun _ => ?_)
    refine g_if (fun _ => lc_13 hS hz i0 h6 hL n0 n1 nx) (fun _ => ?_)
    refine g_if (fun _ => lc_14 hS hz i0 h6 hL n0 n1 nx) (fun _ => ?_)
    refine g_if (fun _ => lc_15 hS hz i0 h6 hL n0 n1 nx) (fun _ => ?_)
    refine g_if (fun _ => lc_16 hS hz i0 h6 hL n0 n1 nx) (fun _ => ?_)
    refine g_if (fun _ => lc_17 hS hz i0 h6 hL n0 n1 nx) (fun _ => ?_)
    refine g_if (fun _ => lc_18 hS hz i0 h6 hL n0 n1 nx) (fun _ => ?_)
    refine g_if (fun _ => lc_19 hS hz i0 h6 hL n0 n1 nx) (fun _ => ?_)
    refine g_if (fun _ => lc_20 hS hz i0 h6 hL n0 n1 nx) (fun _ => ?_)
    refine g_if (fun _ => lc_21 hS hz i0 h6 hL n0 n1 nx) (fun _ => ?_)
    refine g_if (fun _ => lc_22 hS hz i0 h6 hL n0 n1 nx) (fun _ => ?_)
    refine g_if (fun _ => lc_23 hS hz i0 h6 hL n0 n1 nx) (fun _ => ?_)
    refine g_if (fun _ => lc_24 hS hz i0 h6 hL n0 n1 nx) (fun _ => ?_)
    refine g_if (fun _ => lc_25 hS hz i0 h6 hL n0 n1 nx) (fun _ => ?_)
    refine g_if (fun _ => lc_26 hS hz i0 h6 hL n0 n1 nx) (fun _ => ?_)
    refine g_if (fun _ => lc_27 hS hz i0 h6 hL n0 n1 nx) (fun _ => ?_)
    refine g_if (fun _ => lc_28 hS hz i0 h6 hL n0 n1 nx) (fun _ => ?_)
    refine g_if (fun _ => lc_29 hS hz i0 h6 hL n0 n1 nx) (fun _ => ?_)
    refine g_if (fun _ => lc_30 hS hz i0 h6 hL n0 n1 nx) (fun _ => ?_)
    exact nx S M hS (hz.mono (by omega))
end
section
/-- what each cell holds at the start -/
def iT : List (List Int) := [[1, 3, 28, 29, 0, 0, 30, 0, 31, 52, 55, 57, 58, 63, 66, 68], [2, 0, 0, 0, 0], [0], [4, 16, -1, 0, 0, 24, 25, 26, 27, 0], [0, 0, 0, 0, 0, 0, 0, 0, 5, 6, 7, 8, 9, 10, 11, 12, 13, 14, 15], [0], [0], [0], [0], [0], [0], [0], [0], [0], [0], [0], [0, 0, 17, 18, 19, 20, 21, 22, 23], [0], [0], [0], [-1], [-1], [0], [-1], [0], [0], [0], [0], [76, 101, 126, 151], [176, 184, 192, 200, 208, 216, 224, 232, 240, 248, 256, 264, 272, 280, 288, 296, 304, 312, 320, 328], [-2], [1, 32, 44], [0, 0, 0, 0, 0, 0, 0, 0, 33, 34, 35, 36, 37, 38, 39, 40, 41, 42, 43], [0], [0], [0], [0], [0], [0], [0], [0], [0], [0], [0], [0, 0, 45, 46, 47, 48, 49, 50, 51], [0], [0], [0], [-1], [-1], [0], [-1], [1, 53, 0, 0, 54, 0, 0, 0, 0], [0], [0], [4, -2, 0, 56, 0, 0, 0, 0, 0, 0, 0, 0], [0], [55, 4, 0], [55, 4, 59, 60, 61, 62, 0, 0, 0, 0, 0], [0], [0], [0], [0], [4, 64, 65], [0], [0], [3, 55, 67, 0, 0], [0], [0, 0, 69, 70, 71, 72, 73, 74, 75], [0], [0], [0], [-1], [-1], [0], [-1], [77, 89, -1, 0, 0, 97, 98, 99, 100, 0], [0, 0, 0, 0, 0, 0, 0, 0, 78, 79, 80, 81, 82, 83, 84, 85, 86, 87, 88], [0], [0], [0], [0], [0], [0], [0], [0], [0], [0], [0], [0, 0, 90, 91, 92, 93, 94, 95, 96], [0], [0], [0], [-1], [-1], [0], [-1], [0], [0], [0], [0], [102, 114, -1, 0, 0, 122, 123, 124, 125, 0], [0, 0, 0, 0, 0, 0, 0, 0, 103, 104, 105, 106, 107, 108, 109, 110, 111, 112, 113], [0], [0], [0], [0], [0], [0], [0], [0], [0], [0], [0], [0, 0, 115, 116, 117, 118, 119, 120, 121], [0], [0], [0], [-1], [-1], [0], [-1], [0], [0], [0], [0], [127, 139, -1, 0, 0, 147, 148, 149, 150, 0], [0, 0, 0, 0, 0, 0, 0, 0, 128, 129, 130, 131, 132, 133, 134, 135, 136, 137, 138], [0], [0], [0], [0], [0], [0], [0], [0], [0], [0], [0], [0, 0, 140, 141, 142, 143, 144, 145, 146], [0], [0], [0], [-1], [-1], [0], [-1], [0], [0], [0], [0], [152, 164, -1, 0, 0, 172, 173, 174, 175, 0], [0, 0, 0, 0, 0, 0, 0, 0, 153, 154, 155, 156, 157, 158, 159, 160, 161, 162, 163], [0], [0], [0], [0], [0], [0], [0], [0], [0], [0], [0], [0, 0, 165, 166, 167, 168, 169, 170, 171], [0], [0], [0], [-1], [-1], [0], [-1], [0], [0], [0], [0], [0, 0, 177, 178, 179, 180, 181, 182, 183], [0], [0], [0], [-1], [-1], [0], [-1], [0, 0, 185, 186, 187, 188, 189, 190, 191], [0], [0], [0], [-1], [-1], [0], [-1], [0, 0, 193, 194, 195, 196, 197, 198, 199], [0], [0], [0], [-1], [-1], [0], [-1], [0, 0, 201, 202, 203, 204, 205, 206, 207], [0], [0], [0], [-1], [-1], [0], [-1], [0, 0, 209, 210, 211, 212, 213, 214, 215], [0], [0], [0], [-1], [-1], [0], [-1], [0, 0, 217, 218, 219, 220, 221, 222, 223], [0], [0], [0], [-1], [-1], [0], [-1], [0, 0, 225, 226, 227, 228, 229, 230, 231], [0], [0], [0], [-1], [-1], [0], [-1], [0, 0, 233, 234, 235, 236, 237, 238, 239], [0], [0], [0], [-1], [-1], [0], [-1], [0, 0, 241, 242, 243, 244, 245, 246, 247], [0], [0], [0], [-1], [-1], [0], [-1], [0, 0, 249, 250, 251, 252, 253, 254, 255], [0], [0], [0], [-1], [-1], [0], [-1], [0, 0, 257, 258, 259, 260, 261, 262, 263], [0], [0], [0], [-1], [-1], [0], [-1], [0, 0, 265, 266, 267, 268, 269, 270, 271], [0], [0], [0], [-1], [-1], [0], [-1], [0, 0, 273, 274, 275, 276, 277, 278, 279], [0], [0], [0], [-1], [-1], [0], [-1], [0, 0, 281, 282, 283, 284, 285, 286, 287], [0], [0], [0], [-1], [-1], [0], [-1], [0, 0, 289, 290, 291, 292, 293, 294, 295], [0], [0], [0], [-1], [-1], [0], [-1], [0, 0, 297, 298, 299, 300, 301, 302, 303], [0], [0], [0], [-1], [-1], [0], [-1], [0, 0, 305, 306, 307, 308, 309, 310, 311], [0], [0], [0], [-1], [-1], [0], [-1], [0, 0, 313, 314, 315, 316, 317, 318, 319], [0], [0], [0], [-1], [-1], [0], [-1], [0, 0, 321, 322, 323, 324, 325, 326, 327], [0], [0], [0], [-1], [-1], [0], [-1], [0, 0, 329, 330, 331, 332, 333, 334, 335], [0], [0], [0], [-1], [-1], [0], [-1], [337, 0, 0, 338, 339, 340, 341, 342, 0, 0, 0, 0, 0, 0, 0, 343, 0, 344, 0, 345, 346, -1, 0, 0, 347, 0, 348, 349, 350, 0, 351, 352, 353, 0, 354, 355, 356, 357], [0], [0], [0], [0], [0], [0], [0], [0], [0], [0], [0], [0], [0], [0], [0], [0], [0], [0], [0], [0], [0]]
def ini (c p : Nat) : Int := (iT.getD c []).getD (p % (iT.getD c []).length) 0
theorem ini_of {c : Nat} {l : List Int} (h : iT.getD c [] = l) (p : Nat) : ini c p = l.getD (p % l.length) 0 := by
  unfold ini
  rw [h]
theorem ini_u {c : Nat} {z : Int} (h : iT.getD c [] = [z]) (p : Nat) : ini c p = z := by
  rw [ini_of h]
  simp [Nat.mod_one]
def Sp (n : Nat) (S : Sh) : Prop := S.1 = n ∧ ∀ a : Nat, a < n → S.2.1 a = kT.getD a 0 ∧ S.2.2 a = lT.getD a 0
def Mp (n : Nat) (N : Int → Int → Prop) (M : Mm) : Prop := ∀ c p : Nat, c < n → p < pT.getD c 0 → N c p ∨ M c p = ini c p
theorem Sp.k {n : Nat} {S : Sh} (h : Sp n S) (a : Nat) {x : Int} {ci : Nat} (ha : a < n) (hk : kT.getD a 0 = ci) (hx : x = (a : Int)) : isK S x ci := by
  subst hx
  exact ⟨Int.natCast_nonneg a, by have := h.1; omega, by rw [(h.2 a ha).1]; exact hk⟩
theorem Sp.l {n : Nat} {S : Sh} (h : Sp n S) (a : Nat) {x : Int} {l : Nat} (ha : a < n) (hk : lT.getD a 0 = l) (hx : x = (a : Int)) : S.2.2 x = l := by
  subst hx
  rw [(h.2 a ha).2]
  exact hk
theorem Sp.new {n : Nat} {S : Sh} (h : Sp n S) {ci l : Nat} (hk : kT.getD n 0 = ci) (hl : lT.getD n 0 = l) : Sp (n + 1) (newS S ci l) := by
  have h1 := h.1
  refine ⟨by show S.1 + 1 = n + 1; omega, fun a ha => ?_⟩
  show (if (a : Int) = (S.1 : Int) then ci else S.2.1 a) = _ ∧ (if (a : Int) = (S.1 : Int) then l else S.2.2 a) = _
  by_cases e : a = n
  · rw [if_pos (by omega), if_pos (by omega), e]
    exact ⟨hk.symm, hl.symm⟩
  · rw [if_neg (by omega), if_neg (by omega)]
    exact h.2 a (by omega)
theorem Mp.new {n : Nat} {S : Sh} {M : Mm} {N N' : Int → Int → Prop} (hs : Sp n S) (h : Mp n N M) (hN : ∀ c p : Int, N c p → N' c p) {z : Int → Int} (hz : ∀ p : Nat, p < pT.getD n 0 → N' n p ∨ z p = ini n p) : Mp (n + 1) N' (newM S M z) := by
  have h1 := hs.1
  intro c p hc hp
  by_cases e : c = n
  · subst e
    rcases hz p hp with q | q
    · exact Or.inl q
    · refine Or.inr ?_
      show (if (c : Int) = (S.1 : Int) then z p else M c p) = _
      rw [if_pos (by omega)]
      exact q
  · rcases h c p (by omega) hp with q | q
    · exact Or.inl (hN c p q)
    · refine Or.inr ?_
      show (if (c : Int) = (S.1 : Int) then z p else M c p) = _
      rw [if_neg (by omega)]
      exact q
theorem st_newA {n : Nat} {S : Sh} {M : Mm} {N N' : Int → Int → Prop} {ci l : Nat} {K : Sh → Mm → Int → Prop} (hs : Sp n S) (hm : Mp n N M) (hN : ∀ c p : Int, N c p → N' c p) (hk : kT.getD n 0 = ci) (hl : lT.getD n 0 = l) (hz : ∀ p : Nat, p < pT.getD n 0 → N' n p ∨ (if 17 ≤ ci then (-1 : Int) else 0) = ini n p) (h : ∀ (S' : Sh) (M' : Mm), Sp (n + 1) S' → Mp (n + 1) N' M' → K S' M' (n : Int)) : wNewA S M ci l K := by
  unfold wNewA
  rw [show ((S.1 : Nat) : Int) = (n : Int) by rw [hs.1]]
  exact h _ _ (hs.new hk hl) (Mp.new hs hm hN hz)
theorem st_new {n : Nat} {S : Sh} {M : Mm} {N N' : Int → Int → Prop} {ci : Nat} {K : Sh → Mm → Int → Prop} (hs : Sp n S) (hm : Mp n N M) (hN : ∀ c p : Int, N c p → N' c p) (hk : kT.getD n 0 = ci) (hl : lT.getD n 0 = 0) (hz : ∀ p : Nat, p < pT.getD n 0 → N' n p ∨ zO ci p = ini n p) (h : ∀ (S' : Sh) (M' : Mm), Sp (n + 1) S' → Mp (n + 1) N' M' → K S' M' (n : Int)) : wNew S M ci K := by
  unfold wNew
  rw [show ((S.1 : Nat) : Int) = (n : Int) by rw [hs.1]]
  exact h _ _ (hs.new hk hl) (Mp.new hs hm hN hz)
theorem Mp.up {n : Nat} {M : Mm} {N N' : Int → Int → Prop} (h : Mp n N M) {u k : Nat} {v : Int} (hN : ∀ c p : Int, N c p → N' c p ∨ (c = u ∧ p = k)) (hv : ini u k = v) : Mp n N' (up M u k v) := by
  intro c p hc hp
  by_cases e : (c : Int) = u ∧ (p : Int) = k
  · have e1 : c = u := by omega
    have e2 : p = k := by omega
    subst e1 e2
    refine Or.inr ?_
    rw [up_at]
    exact hv.symm
  · rw [up_ne e]
    rcases h c p hc hp with q | q
    · exact Or.inl ((hN c p q).resolve_right e)
    · exact Or.inr q
theorem st_putr {n : Nat} {S : Sh} {M : Mm} {N N' : Int → Int → Prop} (u k : Nat) {x v : Int} {ci k' : Nat} {K : Mm → Prop} (hs : Sp n S) (hm : Mp n N M) (hx : x = (u : Int)) (hk' : k' = k) (hu : u < n) (hk : kT.getD u 0 = ci) (hv : ini u k = v) (hn : v ≠ -1) (hN : ∀ c p : Int, N c p → N' c p ∨ (c = u ∧ p = k)) (h : ∀ M' : Mm, Mp n N' M' → K M') : wPutR S M x ci k' v K := by
  subst hk'
  have hi := hs.k u hu hk hx
  subst hx
  exact ⟨hi, hn, h _ (hm.up hN hv)⟩
theorem st_put {n : Nat} {S : Sh} {M : Mm} {N N' : Int → Int → Prop} (u k : Nat) {x v : Int} {ci k' : Nat} {K : Mm → Prop} (hs : Sp n S) (hm : Mp n N M) (hx : x = (u : Int)) (hk' : k' = k) (hu : u < n) (hk : kT.getD u 0 = ci) (hv : ini u k = v) (hN : ∀ c p : Int, N c p → N' c p ∨ (c = u ∧ p = k)) (h : ∀ M' : Mm, Mp n N' M' → K M') : wPut S M x ci k' v K := by
  subst hk'
  have hi := hs.k u hu hk hx
  subst hx
  exact ⟨hi, h _ (hm.up hN hv)⟩
theorem st_getr {n : Nat} {S : Sh} {M : Mm} {N : Int → Int → Prop} (u k : Nat) {x v : Int} {ci k' : Nat} {K : Int → Prop} (hs : Sp n S) (hm : Mp n N M) (hx : x = (u : Int)) (hk' : k' = k) (hu : u < n) (hk : kT.getD u 0 = ci) (hp : k < pT.getD u 0) (hN : ¬ N u k) (hv : ini u k = v) (hn : v ≠ -1) (h : K v) : wGetR S M x ci k' K := by
  subst hk'
  have hi := hs.k u hu hk hx
  subst hx
  have q := (hm u k' hu hp).resolve_left hN
  refine ⟨hi, ?_⟩
  rw [q, hv]
  exact ⟨hn, h⟩
theorem st_str {n : Nat} {S : Sh} {M : Mm} {N N' : Int → Int → Prop} (u k y : Nat) {x v i : Int} {ki ci : Nat} {K : Mm → Prop} (hs : Sp n S) (hm : Mp n N M) (hx : x = (u : Int)) (hi : i = (k : Int)) (hu : u < n) (hk : kT.getD u 0 = ki) (hl : k < lT.getD u 0) (hy : v = (y : Int)) (hyn : y < n) (hyk : kT.getD y 0 = ci) (hv : ini u k = v) (hN : ∀ c p : Int, N c p → N' c p ∨ (c = u ∧ p = k)) (h : ∀ M' : Mm, Mp n N' M' → K M') : wStR S M x ki i v ci K := by
  have h1 := hs.k u hu hk hx
  have h2 := hs.k y hyn hyk hy
  have h3 := hs.l u hu rfl hx
  subst hi
  refine ⟨h1, h2, ⟨by omega, by rw [h3]; omega⟩, ?_⟩
  subst hx
  exact h _ (hm.up hN hv)
theorem st_st19 {n : Nat} {S : Sh} {M : Mm} {N N' : Int → Int → Prop} (u k : Nat) {x i : Int} {K : Mm → Prop} (hs : Sp n S) (hm : Mp n N M) (hx : x = (u : Int)) (hi : i = (k : Int)) (hu : u < n) (hk : kT.getD u 0 = 19) (hl : k < lT.getD u 0) (hv : ini u k = -2) (hN : ∀ c p : Int, N c p → N' c p ∨ (c = u ∧ p = k)) (h : ∀ M' : Mm, Mp n N' M' → K M') : wSt19 S M x i (-2) K := by
  have h1 := hs.k u hu hk hx
  have h3 := hs.l u hu rfl hx
  subst hi
  refine ⟨h1, Or.inl rfl, ⟨by omega, by rw [h3]; omega⟩, ?_⟩
  subst hx
  exact h _ (hm.up hN hv)
theorem st_fill {S : Sh} {M : Mm} {c v : Int} {n : Nat} {K : Mm → Prop} (hk : isK S c 14) (hl : S.2.2 c = n) (hn : n ≤ 6000) (H : ∀ M' : Mm, (∀ a j : Int, ¬ (a = c ∧ 0 ≤ j ∧ j < n) → M' a j = M a j) → (∀ j : Int, 0 ≤ j → j < n → M' c j = v) → K M') : wp_J7_fill_53178 S M c v K := by
  have key : ∀ (k : Nat) (i : Int) (M1 : Mm), (∀ a j : Int, ¬ (a = c ∧ 0 ≤ j ∧ j < n) → M1 a j = M a j) → (∀ j : Int, 0 ≤ j → j < i → M1 c j = v) → 0 ≤ i → i ≤ n → (n : Int) + 1 - i ≤ k → wp_J7_fill_53178_5 S K k c v i n M1 := by
    intro k
    induction k with
    | zero => intro i M1 _ _ _ _ h4; exfalso; omega
    | succ k ih =>
      intro i M1 h1 h1' h2 h3 h4
      refine g_if (fun _ => H M1 h1 (fun j j0 j1 => h1' j j0 (by omega))) (fun q => ?_)
      refine g_stR hk hl h2 (by omega) (fun M2 e2 => ?_)
      refine g_A (by omega) (by omega) ?_
      refine ih (i + 1) M2 (fun a j hh => ?_) (fun j j0 j1 => ?_) (by omega) (by omega) (by omega)
      · rw [e2, up_ne (by omega)]
        exact h1 a j hh
      · by_cases e : j = i
        · rw [e, e2, up_at]
        · rw [e2, up_ne (by omega)]
          exact h1' j j0 (by omega)
  refine g_C ?_
  refine g_len (n : Int) hk hl ⟨rfl, by omega⟩ ?_
  exact ⟨n + 1, key (n + 1) 0 M (fun _ _ _ => rfl) (fun j j0 j1 => absurd j1 (by omega)) (by omega) (by omega) (by omega)⟩
theorem Mp.fill {n : Nat} {M M' : Mm} {N N' : Int → Int → Prop} (h : Mp n N M) {u l : Nat} {v : Int} (hN : ∀ c p : Int, N c p → N' c p ∨ c = u) (hp : pT.getD u 0 = l) (hi : iT.getD u [] = [v]) (f : ∀ a j : Int, ¬ (a = u ∧ 0 ≤ j ∧ j < l) → M' a j = M a j) (g : ∀ j : Int, 0 ≤ j → j < l → M' u j = v) : Mp n N' M' := by
  intro c p hc hp'
  by_cases e : c = u
  · subst e
    rw [hp] at hp'
    refine Or.inr ?_
    rw [g p (by omega) (by omega), ini_u hi]
  · rw [f c p (by omega)]
    rcases h c p hc hp' with q | q
    · exact Or.inl ((hN c p q).resolve_right (by omega))
    · exact Or.inr q
abbrev arr (c l : Nat) (z : Int) : Prop := kT.getD c 0 = 14 ∧ lT.getD c 0 = l ∧ pT.getD c 0 = l ∧ iT.getD c [] = [z]

abbrev stOK (u : Nat) : Prop := (kT.getD u 0 = 5 ∧ lT.getD u 0 = 0 ∧ pT.getD u 0 = 9 ∧ iT.getD u [] = [0, 0, (u : Int) + 1, (u : Int) + 2, (u : Int) + 3, (u : Int) + 4, (u : Int) + 5, (u : Int) + 6, (u : Int) + 7]) ∧ arr (u + 1) 5 (0) ∧ arr (u + 2) 5 (0) ∧ arr (u + 3) 5 (0) ∧ arr (u + 4) 4 (-1) ∧ arr (u + 5) 4 (-1) ∧ arr (u + 6) 4 (0) ∧ arr (u + 7) 6 (-1)
abbrev toOK (u : Nat) : Prop := (kT.getD u 0 = 8 ∧ lT.getD u 0 = 0 ∧ pT.getD u 0 = 19 ∧ iT.getD u [] = [0, 0, 0, 0, 0, 0, 0, 0, (u : Int) + 1, (u : Int) + 2, (u : Int) + 3, (u : Int) + 4, (u : Int) + 5, (u : Int) + 6, (u : Int) + 7, (u : Int) + 8, (u : Int) + 9, (u : Int) + 10, (u : Int) + 11]) ∧ arr (u + 1) 36 0 ∧ arr (u + 2) 36 0 ∧ arr (u + 3) 5 0 ∧ arr (u + 4) 5 0 ∧ arr (u + 5) 4 0 ∧ arr (u + 6) 4 0 ∧ arr (u + 7) 4 0 ∧ arr (u + 8) 6 0 ∧ arr (u + 9) 6 0 ∧ arr (u + 10) 6 0 ∧ arr (u + 11) 6 0
abbrev scOK (u : Nat) : Prop := (kT.getD u 0 = 4 ∧ lT.getD u 0 = 0 ∧ pT.getD u 0 = 10 ∧ iT.getD u [] = [(u : Int) + 1, (u : Int) + 13, -1, 0, 0, (u : Int) + 21, (u : Int) + 22, (u : Int) + 23, (u : Int) + 24, 0]) ∧ toOK (u + 1) ∧ stOK (u + 13) ∧ arr (u + 21) 10 0 ∧ arr (u + 22) 10 0 ∧ arr (u + 23) 10 0 ∧ arr (u + 24) 10 0
theorem nw_st {u : Nat} (h : kT.getD u 0 = 5 ∧ lT.getD u 0 = 0 ∧ pT.getD u 0 = 9 ∧ iT.getD u [] = [0, 0, (u : Int) + 1, (u : Int) + 2, (u : Int) + 3, (u : Int) + 4, (u : Int) + 5, (u : Int) + 6, (u : Int) + 7]) : ∀ p : Nat, p < pT.getD u 0 → (2 ≤ p ∧ p ≤ 8) ∨ zO 5 p = ini u p := by
  intro p hp
  rw [h.2.2.1] at hp
  rw [ini_of h.2.2.2]
  rcases (show p = 0 ∨ p = 1 ∨ p = 2 ∨ p = 3 ∨ p = 4 ∨ p = 5 ∨ p = 6 ∨ p = 7 ∨ p = 8 by omega) with e | e | e | e | e | e | e | e | e <;> subst e
  all_goals first | exact Or.inr rfl | exact Or.inl (by decide)
theorem nw_to {u : Nat} (h : kT.getD u 0 = 8 ∧ lT.getD u 0 = 0 ∧ pT.getD u 0 = 19 ∧ iT.getD u [] = [0, 0, 0, 0, 0, 0, 0, 0, (u : Int) + 1, (u : Int) + 2, (u : Int) + 3, (u : Int) + 4, (u : Int) + 5, (u : Int) + 6, (u : Int) + 7, (u : Int) + 8, (u : Int) + 9, (u : Int) + 10, (u : Int) + 11]) : ∀ p : Nat, p < pT.getD u 0 → (8 ≤ p ∧ p ≤ 18) ∨ zO 8 p = ini u p := by
  intro p hp
  rw [h.2.2.1] at hp
  rw [ini_of h.2.2.2]
  rcases (show p = 0 ∨ p = 1 ∨ p = 2 ∨ p = 3 ∨ p = 4 ∨ p = 5 ∨ p = 6 ∨ p = 7 ∨ p = 8 ∨ p = 9 ∨ p = 10 ∨ p = 11 ∨ p = 12 ∨ p = 13 ∨ p = 14 ∨ p = 15 ∨ p = 16 ∨ p = 17 ∨ p = 18 by omega) with e | e | e | e | e | e | e | e | e | e | e | e | e | e | e | e | e | e | e <;> subst e
  all_goals first | exact Or.inr rfl | exact Or.inl (by decide)
theorem nw_sc {u : Nat} (h : kT.getD u 0 = 4 ∧ lT.getD u 0 = 0 ∧ pT.getD u 0 = 10 ∧ iT.getD u [] = [(u : Int) + 1, (u : Int) + 13, -1, 0, 0, (u : Int) + 21, (u : Int) + 22, (u : Int) + 23, (u : Int) + 24, 0]) : ∀ p : Nat, p < pT.getD u 0 → (p ≤ 8 ∧ ¬ p = 3 ∧ ¬ p = 4) ∨ zO 4 p = ini u p := by
  intro p hp
  rw [h.2.2.1] at hp
  rw [ini_of h.2.2.2]
  rcases (show p = 0 ∨ p = 1 ∨ p = 2 ∨ p = 3 ∨ p = 4 ∨ p = 5 ∨ p = 6 ∨ p = 7 ∨ p = 8 ∨ p = 9 by omega) with e | e | e | e | e | e | e | e | e | e <;> subst e
  all_goals first | exact Or.inr rfl | exact Or.inl (by decide)
theorem i_X5 {u : Nat} {N : Int → Int → Prop} {S : Sh} {M : Mm} {K : Sh → Mm → Prop} (ok : stOK u) (hN : ∀ c p : Int, N c p → c < u) (hs : Sp (u + 1) S) (hm : Mp (u + 1) (fun c p => N c p ∨ (c = u ∧ 2 ≤ p ∧ p ≤ 8)) M) (h : ∀ (S' : Sh) (M' : Mm), Sp (u + 8) S' → Mp (u + 8) N M' → K S' M') : wp_X5_init S M (u : Int) K := by
  obtain ⟨ob, a1, a2, a3, a4, a5, a6, a7⟩ := ok
  have iu := ini_of ob.2.2.2
  unfold wp_X5_init
  refine st_newA (N' := fun c p => N c p ∨ (c = u ∧ 2 ≤ p ∧ p ≤ 8)) hs hm (by intro c p h; by_cases hn : N c p; exact Or.inl hn; replace h := h.resolve_left hn; exact Or.inr (by omega)) a1.1 a1.2.1 (fun p hp => Or.inr (by rw [ini_u a1.2.2.2]; rfl)) (fun S0 M0 s0 m0 => ?_)
  refine st_putr (N' := fun c p => N c p ∨ (c = u ∧ 3 ≤ p ∧ p ≤ 8)) u 2 s0 m0 rfl rfl (by omega) ob.1 (by rw [iu]; show (u : Int) + 1 = ((u + 1 : Nat) : Int); omega) (by omega) (by intro c p h; by_cases hn : N c p; exact Or.inl (Or.inl hn); replace h := h.resolve_left hn; by_cases hq : c = (u : Int) ∧ p = 2; exact Or.inr hq; exact Or.inl (Or.inr (by omega))) (fun P0 m0 => ?_)
  refine st_newA (N' := fun c p => N c p ∨ (c = u ∧ 3 ≤ p ∧ p ≤ 8)) s0 m0 (by intro c p h; by_cases hn : N c p; exact Or.inl hn; replace h := h.resolve_left hn; exact Or.inr (by omega)) a2.1 a2.2.1 (fun p hp => Or.inr (by rw [ini_u a2.2.2.2]; rfl)) (fun S1 M1 s1 m1 => ?_)
  refine st_putr (N' := fun c p => N c p ∨ (c = u ∧ 4 ≤ p ∧ p ≤ 8)) u 3 s1 m1 rfl rfl (by omega) ob.1 (by rw [iu]; show (u : Int) + 2 = ((u + 2 : Nat) : Int); omega) (by omega) (by intro c p h; by_cases hn : N c p; exact Or.inl (Or.inl hn); replace h := h.resolve_left hn; by_cases hq : c = (u : Int) ∧ p = 3; exact Or.inr hq; exact Or.inl (Or.inr (by omega))) (fun P1 m1 => ?_)
  refine st_newA (N' := fun c p => N c p ∨ (c = u ∧ 4 ≤ p ∧ p ≤ 8)) s1 m1 (by intro c p h; by_cases hn : N c p; exact Or.inl hn; replace h := h.resolve_left hn; exact Or.inr (by omega)) a3.1 a3.2.1 (fun p hp => Or.inr (by rw [ini_u a3.2.2.2]; rfl)) (fun S2 M2 s2 m2 => ?_)
  refine st_putr (N' := fun c p => N c p ∨ (c = u ∧ 5 ≤ p ∧ p ≤ 8)) u 4 s2 m2 rfl rfl (by omega) ob.1 (by rw [iu]; show (u : Int) + 3 = ((u + 3 : Nat) : Int); omega) (by omega) (by intro c p h; by_cases hn : N c p; exact Or.inl (Or.inl hn); replace h := h.resolve_left hn; by_cases hq : c = (u : Int) ∧ p = 4; exact Or.inr hq; exact Or.inl (Or.inr (by omega))) (fun P2 m2 => ?_)
  refine st_newA (N' := fun c p => N c p ∨ (c = u ∧ 5 ≤ p ∧ p ≤ 8) ∨ c = (u : Int) + 4) s2 m2 (by intro c p h; by_cases hn : N c p; exact Or.inl hn; replace h := h.resolve_left hn; exact Or.inr (by omega)) a4.1 a4.2.1 (fun p hp => Or.inl (Or.inr (by omega))) (fun S3 M3 s3 m3 => ?_)
  refine st_putr (N' := fun c p => N c p ∨ (c = u ∧ 6 ≤ p ∧ p ≤ 8) ∨ c = (u : Int) + 4) u 5 s3 m3 rfl rfl (by omega) ob.1 (by rw [iu]; show (u : Int) + 4 = ((u + 4 : Nat) : Int); omega) (by omega) (by intro c p h; by_cases hn : N c p; exact Or.inl (Or.inl hn); replace h := h.resolve_left hn; by_cases hq : c = (u : Int) ∧ p = 5; exact Or.inr hq; exact Or.inl (Or.inr (by omega))) (fun P3 m3 => ?_)
  refine st_newA (N' := fun c p => N c p ∨ (c = u ∧ 6 ≤ p ∧ p ≤ 8) ∨ c = (u : Int) + 4 ∨ c = (u : Int) + 5) s3 m3 (by intro c p h; by_cases hn : N c p; exact Or.inl hn; replace h := h.resolve_left hn; exact Or.inr (by omega)) a5.1 a5.2.1 (fun p hp => Or.inl (Or.inr (by omega))) (fun S4 M4 s4 m4 => ?_)
  refine st_putr (N' := fun c p => N c p ∨ (c = u ∧ 7 ≤ p ∧ p ≤ 8) ∨ c = (u : Int) + 4 ∨ c = (u : Int) + 5) u 6 s4 m4 rfl rfl (by omega) ob.1 (by rw [iu]; show (u : Int) + 5 = ((u + 5 : Nat) : Int); omega) (by omega) (by intro c p h; by_cases hn : N c p; exact Or.inl (Or.inl hn); replace h := h.resolve_left hn; by_cases hq : c = (u : Int) ∧ p = 6; exact Or.inr hq; exact Or.inl (Or.inr (by omega))) (fun P4 m4 => ?_)
  refine st_newA (N' := fun c p => N c p ∨ (c = u ∧ 7 ≤ p ∧ p ≤ 8) ∨ c = (u : Int) + 4 ∨ c = (u : Int) + 5) s4 m4 (by intro c p h; by_cases hn : N c p; exact Or.inl hn; replace h := h.resolve_left hn; exact Or.inr (by omega)) a6.1 a6.2.1 (fun p hp => Or.inr (by rw [ini_u a6.2.2.2]; rfl)) (fun S5 M5 s5 m5 => ?_)
  refine st_putr (N' := fun c p => N c p ∨ (c = u ∧ 8 ≤ p ∧ p ≤ 8) ∨ c = (u : Int) + 4 ∨ c = (u : Int) + 5) u 7 s5 m5 rfl rfl (by omega) ob.1 (by rw [iu]; show (u : Int) + 6 = ((u + 6 : Nat) : Int); omega) (by omega) (by intro c p h; by_cases hn : N c p; exact Or.inl (Or.inl hn); replace h := h.resolve_left hn; by_cases hq : c = (u : Int) ∧ p = 7; exact Or.inr hq; exact Or.inl (Or.inr (by omega))) (fun P5 m5 => ?_)
  refine st_newA (N' := fun c p => N c p ∨ (c = u ∧ 8 ≤ p ∧ p ≤ 8) ∨ c = (u : Int) + 4 ∨ c = (u : Int) + 5 ∨ c = (u : Int) + 7) s5 m5 (by intro c p h; by_cases hn : N c p; exact Or.inl hn; replace h := h.resolve_left hn; exact Or.inr (by omega)) a7.1 a7.2.1 (fun p hp => Or.inl (Or.inr (by omega))) (fun S6 M6 s6 m6 => ?_)
  refine st_putr (N' := fun c p => N c p ∨ (c = u ∧ 9 ≤ p ∧ p ≤ 8) ∨ c = (u : Int) + 4 ∨ c = (u : Int) + 5 ∨ c = (u : Int) + 7) u 8 s6 m6 rfl rfl (by omega) ob.1 (by rw [iu]; show (u : Int) + 7 = ((u + 7 : Nat) : Int); omega) (by omega) (by intro c p h; by_cases hn : N c p; exact Or.inl (Or.inl hn); replace h := h.resolve_left hn; by_cases hq : c = (u : Int) ∧ p = 8; exact Or.inr hq; exact Or.inl (Or.inr (by omega))) (fun P6 m6 => ?_)
  refine st_getr (v := (u : Int) + 4) u 5 s6 m6 rfl rfl (by omega) ob.1 (by rw [ob.2.2.1]; decide) (fun z => by rcases z with z | z; exact absurd (hN _ _ z) (by omega); omega) (by rw [iu]; rfl) (by omega) ?_
  refine g_C ?_
  refine st_fill (n := 4) (s6.k (u + 4) (by omega) a4.1 (by omega)) (s6.l (u + 4) (by omega) a4.2.1 (by omega)) (by decide) (fun Q0 f0 g0 => ?_)
  have q0 : Mp (u + 8) (fun c p => N c p ∨ (c = u ∧ 9 ≤ p ∧ p ≤ 8) ∨ c = (u : Int) + 5 ∨ c = (u : Int) + 7) Q0 := m6.fill (u := u + 4) (v := -1) (by intro c p h; by_cases hn : N c p; exact Or.inl (Or.inl hn); replace h := h.resolve_left hn; by_cases hq : c = ((u + 4 : Nat) : Int); exact Or.inr hq; exact Or.inl (Or.inr (by omega))) a4.2.2.1 a4.2.2.2 (fun a j hh => f0 a j (by omega)) (fun j j0 j1 => by have := g0 j j0 j1; rw [show ((u + 4 : Nat) : Int) = (u : Int) + 4 by omega]; exact this)
  refine st_getr (v := (u : Int) + 5) u 6 s6 q0 rfl rfl (by omega) ob.1 (by rw [ob.2.2.1]; decide) (fun z => by rcases z with z | z; exact absurd (hN _ _ z) (by omega); omega) (by rw [iu]; rfl) (by omega) ?_
  refine g_C ?_
  refine st_fill (n := 4) (s6.k (u + 5) (by omega) a5.1 (by omega)) (s6.l (u + 5) (by omega) a5.2.1 (by omega)) (by decide) (fun Q1 f1 g1 => ?_)
  have q1 : Mp (u + 8) (fun c p => N c p ∨ (c = u ∧ 9 ≤ p ∧ p ≤ 8) ∨ c = (u : Int) + 7) Q1 := q0.fill (u := u + 5) (v := -1) (by intro c p h; by_cases hn : N c p; exact Or.inl (Or.inl hn); replace h := h.resolve_left hn; by_cases hq : c = ((u + 5 : Nat) : Int); exact Or.inr hq; exact Or.inl (Or.inr (by omega))) a5.2.2.1 a5.2.2.2 (fun a j hh => f1 a j (by omega)) (fun j j0 j1 => by have := g1 j j0 j1; rw [show ((u + 5 : Nat) : Int) = (u : Int) + 5 by omega]; exact this)
  refine st_getr (v := (u : Int) + 7) u 8 s6 q1 rfl rfl (by omega) ob.1 (by rw [ob.2.2.1]; decide) (fun z => by rcases z with z | z; exact absurd (hN _ _ z) (by omega); omega) (by rw [iu]; rfl) (by omega) ?_
  refine g_C ?_
  refine st_fill (n := 6) (s6.k (u + 7) (by omega) a7.1 (by omega)) (s6.l (u + 7) (by omega) a7.2.1 (by omega)) (by decide) (fun Q2 f2 g2 => ?_)
  have q2 : Mp (u + 8) (fun c p => N c p ∨ (c = u ∧ 9 ≤ p ∧ p ≤ 8)) Q2 := q1.fill (u := u + 7) (v := -1) (by intro c p h; by_cases hn : N c p; exact Or.inl (Or.inl hn); replace h := h.resolve_left hn; by_cases hq : c = ((u + 7 : Nat) : Int); exact Or.inr hq; exact Or.inl (Or.inr (by omega))) a7.2.2.1 a7.2.2.2 (fun a j hh => f2 a j (by omega)) (fun j j0 j1 => by have := g2 j j0 j1; rw [show ((u + 7 : Nat) : Int) = (u : Int) + 7 by omega]; exact this)
  refine h S6 Q2 s6 ?_
  intro c p hc hp
  rcases q2 c p hc hp with z | z
  · exact Or.inl (z.resolve_right (by omega))
  · exact Or.inr z
theorem i_X8 {u : Nat} {N : Int → Int → Prop} {S : Sh} {M : Mm} {K : Sh → Mm → Prop} (ok : toOK u) (hs : Sp (u + 1) S) (hm : Mp (u + 1) (fun c p => N c p ∨ (c = u ∧ 8 ≤ p ∧ p ≤ 18)) M) (h : ∀ (S' : Sh) (M' : Mm), Sp (u + 12) S' → Mp (u + 12) N M' → K S' M') : wp_X8_init S M (u : Int) K := by
  obtain ⟨ob, a1, a2, a3, a4, a5, a6, a7, a8, a9, a10, a11⟩ := ok
  have iu := ini_of ob.2.2.2
  unfold wp_X8_init
  refine st_newA (N' := fun c p => N c p ∨ (c = u ∧ 8 ≤ p ∧ p ≤ 18)) hs hm (by intro c p h; by_cases hn : N c p; exact Or.inl hn; replace h := h.resolve_left hn; exact Or.inr (by omega)) a1.1 a1.2.1 (fun p hp => Or.inr (by rw [ini_u a1.2.2.2]; rfl)) (fun S0 M0 s0 m0 => ?_)
  refine st_putr (N' := fun c p => N c p ∨ (c = u ∧ 9 ≤ p ∧ p ≤ 18)) u 8 s0 m0 rfl rfl (by omega) ob.1 (by rw [iu]; show (u : Int) + 1 = ((u + 1 : Nat) : Int); omega) (by omega) (by intro c p h; by_cases hn : N c p; exact Or.inl (Or.inl hn); replace h := h.resolve_left hn; by_cases hq : c = (u : Int) ∧ p = 8; exact Or.inr hq; exact Or.inl (Or.inr (by omega))) (fun P0 m0 => ?_)
  refine st_newA (N' := fun c p => N c p ∨ (c = u ∧ 9 ≤ p ∧ p ≤ 18)) s0 m0 (by intro c p h; by_cases hn : N c p; exact Or.inl hn; replace h := h.resolve_left hn; exact Or.inr (by omega)) a2.1 a2.2.1 (fun p hp => Or.inr (by rw [ini_u a2.2.2.2]; rfl)) (fun S1 M1 s1 m1 => ?_)
  refine st_putr (N' := fun c p => N c p ∨ (c = u ∧ 10 ≤ p ∧ p ≤ 18)) u 9 s1 m1 rfl rfl (by omega) ob.1 (by rw [iu]; show (u : Int) + 2 = ((u + 2 : Nat) : Int); omega) (by omega) (by intro c p h; by_cases hn : N c p; exact Or.inl (Or.inl hn); replace h := h.resolve_left hn; by_cases hq : c = (u : Int) ∧ p = 9; exact Or.inr hq; exact Or.inl (Or.inr (by omega))) (fun P1 m1 => ?_)
  refine st_newA (N' := fun c p => N c p ∨ (c = u ∧ 10 ≤ p ∧ p ≤ 18)) s1 m1 (by intro c p h; by_cases hn : N c p; exact Or.inl hn; replace h := h.resolve_left hn; exact Or.inr (by omega)) a3.1 a3.2.1 (fun p hp => Or.inr (by rw [ini_u a3.2.2.2]; rfl)) (fun S2 M2 s2 m2 => ?_)
  refine st_putr (N' := fun c p => N c p ∨ (c = u ∧ 11 ≤ p ∧ p ≤ 18)) u 10 s2 m2 rfl rfl (by omega) ob.1 (by rw [iu]; show (u : Int) + 3 = ((u + 3 : Nat) : Int); omega) (by omega) (by intro c p h; by_cases hn : N c p; exact Or.inl (Or.inl hn); replace h := h.resolve_left hn; by_cases hq : c = (u : Int) ∧ p = 10; exact Or.inr hq; exact Or.inl (Or.inr (by omega))) (fun P2 m2 => ?_)
  refine st_newA (N' := fun c p => N c p ∨ (c = u ∧ 11 ≤ p ∧ p ≤ 18)) s2 m2 (by intro c p h; by_cases hn : N c p; exact Or.inl hn; replace h := h.resolve_left hn; exact Or.inr (by omega)) a4.1 a4.2.1 (fun p hp => Or.inr (by rw [ini_u a4.2.2.2]; rfl)) (fun S3 M3 s3 m3 => ?_)
  refine st_putr (N' := fun c p => N c p ∨ (c = u ∧ 12 ≤ p ∧ p ≤ 18)) u 11 s3 m3 rfl rfl (by omega) ob.1 (by rw [iu]; show (u : Int) + 4 = ((u + 4 : Nat) : Int); omega) (by omega) (by intro c p h; by_cases hn : N c p; exact Or.inl (Or.inl hn); replace h := h.resolve_left hn; by_cases hq : c = (u : Int) ∧ p = 11; exact Or.inr hq; exact Or.inl (Or.inr (by omega))) (fun P3 m3 => ?_)
  refine st_newA (N' := fun c p => N c p ∨ (c = u ∧ 12 ≤ p ∧ p ≤ 18)) s3 m3 (by intro c p h; by_cases hn : N c p; exact Or.inl hn; replace h := h.resolve_left hn; exact Or.inr (by omega)) a5.1 a5.2.1 (fun p hp => Or.inr (by rw [ini_u a5.2.2.2]; rfl)) (fun S4 M4 s4 m4 => ?_)
  refine st_putr (N' := fun c p => N c p ∨ (c = u ∧ 13 ≤ p ∧ p ≤ 18)) u 12 s4 m4 rfl rfl (by omega) ob.1 (by rw [iu]; show (u : Int) + 5 = ((u + 5 : Nat) : Int); omega) (by omega) (by intro c p h; by_cases hn : N c p; exact Or.inl (Or.inl hn); replace h := h.resolve_left hn; by_cases hq : c = (u : Int) ∧ p = 12; exact Or.inr hq; exact Or.inl (Or.inr (by omega))) (fun P4 m4 => ?_)
  refine st_newA (N' := fun c p => N c p ∨ (c = u ∧ 13 ≤ p ∧ p ≤ 18)) s4 m4 (by intro c p h; by_cases hn : N c p; exact Or.inl hn; replace h := h.resolve_left hn; exact Or.inr (by omega)) a6.1 a6.2.1 (fun p hp => Or.inr (by rw [ini_u a6.2.2.2]; rfl)) (fun S5 M5 s5 m5 => ?_)
  refine st_putr (N' := fun c p => N c p ∨ (c = u ∧ 14 ≤ p ∧ p ≤ 18)) u 13 s5 m5 rfl rfl (by omega) ob.1 (by rw [iu]; show (u : Int) + 6 = ((u + 6 : Nat) : Int); omega) (by omega) (by intro c p h; by_cases hn : N c p; exact Or.inl (Or.inl hn); replace h := h.resolve_left hn; by_cases hq : c = (u : Int) ∧ p = 13; exact Or.inr hq; exact Or.inl (Or.inr (by omega))) (fun P5 m5 => ?_)
  refine st_newA (N' := fun c p => N c p ∨ (c = u ∧ 14 ≤ p ∧ p ≤ 18)) s5 m5 (by intro c p h; by_cases hn : N c p; exact Or.inl hn; replace h := h.resolve_left hn; exact Or.inr (by omega)) a7.1 a7.2.1 (fun p hp => Or.inr (by rw [ini_u a7.2.2.2]; rfl)) (fun S6 M6 s6 m6 => ?_)
  refine st_putr (N' := fun c p => N c p ∨ (c = u ∧ 15 ≤ p ∧ p ≤ 18)) u 14 s6 m6 rfl rfl (by omega) ob.1 (by rw [iu]; show (u : Int) + 7 = ((u + 7 : Nat) : Int); omega) (by omega) (by intro c p h; by_cases hn : N c p; exact Or.inl (Or.inl hn); replace h := h.resolve_left hn; by_cases hq : c = (u : Int) ∧ p = 14; exact Or.inr hq; exact Or.inl (Or.inr (by omega))) (fun P6 m6 => ?_)
  refine st_newA (N' := fun c p => N c p ∨ (c = u ∧ 15 ≤ p ∧ p ≤ 18)) s6 m6 (by intro c p h; by_cases hn : N c p; exact Or.inl hn; replace h := h.resolve_left hn; exact Or.inr (by omega)) a8.1 a8.2.1 (fun p hp => Or.inr (by rw [ini_u a8.2.2.2]; rfl)) (fun S7 M7 s7 m7 => ?_)
  refine st_putr (N' := fun c p => N c p ∨ (c = u ∧ 16 ≤ p ∧ p ≤ 18)) u 15 s7 m7 rfl rfl (by omega) ob.1 (by rw [iu]; show (u : Int) + 8 = ((u + 8 : Nat) : Int); omega) (by omega) (by intro c p h; by_cases hn : N c p; exact Or.inl (Or.inl hn); replace h := h.resolve_left hn; by_cases hq : c = (u : Int) ∧ p = 15; exact Or.inr hq; exact Or.inl (Or.inr (by omega))) (fun P7 m7 => ?_)
  refine st_newA (N' := fun c p => N c p ∨ (c = u ∧ 16 ≤ p ∧ p ≤ 18)) s7 m7 (by intro c p h; by_cases hn : N c p; exact Or.inl hn; replace h := h.resolve_left hn; exact Or.inr (by omega)) a9.1 a9.2.1 (fun p hp => Or.inr (by rw [ini_u a9.2.2.2]; rfl)) (fun S8 M8 s8 m8 => ?_)
  refine st_putr (N' := fun c p => N c p ∨ (c = u ∧ 17 ≤ p ∧ p ≤ 18)) u 16 s8 m8 rfl rfl (by omega) ob.1 (by rw [iu]; show (u : Int) + 9 = ((u + 9 : Nat) : Int); omega) (by omega) (by intro c p h; by_cases hn : N c p; exact Or.inl (Or.inl hn); replace h := h.resolve_left hn; by_cases hq : c = (u : Int) ∧ p = 16; exact Or.inr hq; exact Or.inl (Or.inr (by omega))) (fun P8 m8 => ?_)
  refine st_newA (N' := fun c p => N c p ∨ (c = u ∧ 17 ≤ p ∧ p ≤ 18)) s8 m8 (by intro c p h; by_cases hn : N c p; exact Or.inl hn; replace h := h.resolve_left hn; exact Or.inr (by omega)) a10.1 a10.2.1 (fun p hp => Or.inr (by rw [ini_u a10.2.2.2]; rfl)) (fun S9 M9 s9 m9 => ?_)
  refine st_putr (N' := fun c p => N c p ∨ (c = u ∧ 18 ≤ p ∧ p ≤ 18)) u 17 s9 m9 rfl rfl (by omega) ob.1 (by rw [iu]; show (u : Int) + 10 = ((u + 10 : Nat) : Int); omega) (by omega) (by intro c p h; by_cases hn : N c p; exact Or.inl (Or.inl hn); replace h := h.resolve_left hn; by_cases hq : c = (u : Int) ∧ p = 17; exact Or.inr hq; exact Or.inl (Or.inr (by omega))) (fun P9 m9 => ?_)
  refine st_newA (N' := fun c p => N c p ∨ (c = u ∧ 18 ≤ p ∧ p ≤ 18)) s9 m9 (by intro c p h; by_cases hn : N c p; exact Or.inl hn; replace h := h.resolve_left hn; exact Or.inr (by omega)) a11.1 a11.2.1 (fun p hp => Or.inr (by rw [ini_u a11.2.2.2]; rfl)) (fun S10 M10 s10 m10 => ?_)
  refine st_putr (N' := fun c p => N c p ∨ (c = u ∧ 19 ≤ p ∧ p ≤ 18)) u 18 s10 m10 rfl rfl (by omega) ob.1 (by rw [iu]; show (u : Int) + 11 = ((u + 11 : Nat) : Int); omega) (by omega) (by intro c p h; by_cases hn : N c p; exact Or.inl (Or.inl hn); replace h := h.resolve_left hn; by_cases hq : c = (u : Int) ∧ p = 18; exact Or.inr hq; exact Or.inl (Or.inr (by omega))) (fun P10 m10 => ?_)
  refine h S10 P10 s10 ?_
  intro c p hc hp
  rcases m10 c p hc hp with z | z
  · exact Or.inl (z.resolve_right (by omega))
  · exact Or.inr z
theorem i_X4 {u : Nat} {N : Int → Int → Prop} {S : Sh} {M : Mm} {K : Sh → Mm → Prop} (ok : scOK u) (hN : ∀ c p : Int, N c p → c < u) (hs : Sp (u + 1) S) (hm : Mp (u + 1) (fun c p => N c p ∨ (c = u ∧ p ≤ 8 ∧ ¬ p = 3 ∧ ¬ p = 4)) M) (h : ∀ (S' : Sh) (M' : Mm), Sp (u + 25) S' → Mp (u + 25) N M' → K S' M') : wp_X4_init S M (u : Int) K := by
  obtain ⟨ob, ot, os, a1, a2, a3, a4⟩ := ok
  have iu := ini_of ob.2.2.2
  unfold wp_X4_init
  refine st_new (N' := fun c p => (N c p ∨ (c = u ∧ p ≤ 8 ∧ ¬ p = 3 ∧ ¬ p = 4)) ∨ (c = ((u + 1 : Nat) : Int) ∧ 8 ≤ p ∧ p ≤ 18)) hs hm (fun c p h => Or.inl h) ot.1.1 ot.1.2.1 (fun p hp => by rcases nw_to ot.1 p hp with z | z; exact Or.inl (Or.inr (by omega)); exact Or.inr z) (fun S1 M1 s1 m1 => ?_)
  refine ⟨s1.k (u + 1) (by omega) ot.1.1 rfl, ?_⟩
  refine i_X8 ot s1 m1 (fun S2 M2 s2 m2 => ?_)
  refine st_putr (N' := fun c p => N c p ∨ (c = u ∧ p ≤ 8 ∧ ¬ p = 3 ∧ ¬ p = 4 ∧ ¬ p = 0)) u 0 s2 m2 rfl rfl (by omega) ob.1 (by rw [iu]; show (u : Int) + 1 = ((u + 1 : Nat) : Int); omega) (by omega) (by intro c p h; by_cases hn : N c p; exact Or.inl (Or.inl hn); replace h := h.resolve_left hn; by_cases hq : c = (u : Int) ∧ p = 0; exact Or.inr hq; exact Or.inl (Or.inr (by omega))) (fun M3 m3 => ?_)
  refine st_new (N' := fun c p => (N c p ∨ (c = u ∧ p ≤ 8 ∧ ¬ p = 3 ∧ ¬ p = 4 ∧ ¬ p = 0)) ∨ (c = ((u + 13 : Nat) : Int) ∧ 2 ≤ p ∧ p ≤ 8)) s2 m3 (fun c p h => Or.inl h) os.1.1 os.1.2.1 (fun p hp => by rcases nw_st os.1 p hp with z | z; exact Or.inl (Or.inr (by omega)); exact Or.inr z) (fun S4 M4 s4 m4 => ?_)
  refine ⟨s4.k (u + 13) (by omega) os.1.1 rfl, ?_⟩
  refine i_X5 (N := fun c p => N c p ∨ (c = u ∧ p ≤ 8 ∧ ¬ p = 3 ∧ ¬ p = 4 ∧ ¬ p = 0)) os (fun c p z => by rcases z with z | z; have := hN c p z; omega; omega) s4 m4 (fun S5 M5 s5 m5 => ?_)
  refine st_putr (N' := fun c p => N c p ∨ (c = u ∧ p ≤ 8 ∧ ¬ p = 3 ∧ ¬ p = 4 ∧ ¬ p = 0 ∧ ¬ p = 1)) u 1 s5 m5 rfl rfl (by omega) ob.1 (by rw [iu]; show (u : Int) + 13 = ((u + 13 : Nat) : Int); omega) (by omega) (by intro c p h; by_cases hn : N c p; exact Or.inl (Or.inl hn); replace h := h.resolve_left hn; by_cases hq : c = (u : Int) ∧ p = 1; exact Or.inr hq; exact Or.inl (Or.inr (by omega))) (fun M6 m6 => ?_)
  refine g_C ?_
  refine st_put (N' := fun c p => N c p ∨ (c = u ∧ p ≤ 8 ∧ ¬ p = 3 ∧ ¬ p = 4 ∧ ¬ p = 0 ∧ ¬ p = 1 ∧ ¬ p = 2)) u 2 s5 m6 rfl rfl (by omega) ob.1 (by rw [iu]; rfl) (by intro c p h; by_cases hn : N c p; exact Or.inl (Or.inl hn); replace h := h.resolve_left hn; by_cases hq : c = (u : Int) ∧ p = 2; exact Or.inr hq; exact Or.inl (Or.inr (by omega))) (fun M7 m7 => ?_)
  refine st_newA (N' := fun c p => N c p ∨ (c = u ∧ p ≤ 8 ∧ ¬ p = 3 ∧ ¬ p = 4 ∧ ¬ p = 0 ∧ ¬ p = 1 ∧ ¬ p = 2)) s5 m7 (fun c p z => z) a1.1 a1.2.1 (fun p hp => Or.inr (by rw [ini_u a1.2.2.2]; rfl)) (fun T0 N0 t0 n0 => ?_)
  refine st_putr (N' := fun c p => N c p ∨ (c = u ∧ p ≤ 8 ∧ ¬ p = 3 ∧ ¬ p = 4 ∧ ¬ p = 0 ∧ ¬ p = 1 ∧ ¬ p = 2 ∧ ¬ p = 5)) u 5 t0 n0 rfl rfl (by omega) ob.1 (by rw [iu]; show (u : Int) + 21 = ((u + 21 : Nat) : Int); omega) (by omega) (by intro c p h; by_cases hn : N c p; exact Or.inl (Or.inl hn); replace h := h.resolve_left hn; by_cases hq : c = (u : Int) ∧ p = 5; exact Or.inr hq; exact Or.inl (Or.inr (by omega))) (fun O0 o0 => ?_)
  refine st_newA (N' := fun c p => N c p ∨ (c = u ∧ p ≤ 8 ∧ ¬ p = 3 ∧ ¬ p = 4 ∧ ¬ p = 0 ∧ ¬ p = 1 ∧ ¬ p = 2 ∧ ¬ p = 5)) t0 o0 (fun c p z => z) a2.1 a2.2.1 (fun p hp => Or.inr (by rw [ini_u a2.2.2.2]; rfl)) (fun T1 N1 t1 n1 => ?_)
  refine st_putr (N' := fun c p => N c p ∨ (c = u ∧ p ≤ 8 ∧ ¬ p = 3 ∧ ¬ p = 4 ∧ ¬ p = 0 ∧ ¬ p = 1 ∧ ¬ p = 2 ∧ ¬ p = 5 ∧ ¬ p = 6)) u 6 t1 n1 rfl rfl (by omega) ob.1 (by rw [iu]; show (u : Int) + 22 = ((u + 22 : Nat) : Int); omega) (by omega) (by intro c p h; by_cases hn : N c p; exact Or.inl (Or.inl hn); replace h := h.resolve_left hn; by_cases hq : c = (u : Int) ∧ p = 6; exact Or.inr hq; exact Or.inl (Or.inr (by omega))) (fun O1 o1 => ?_)
  refine st_newA (N' := fun c p => N c p ∨ (c = u ∧ p ≤ 8 ∧ ¬ p = 3 ∧ ¬ p = 4 ∧ ¬ p = 0 ∧ ¬ p = 1 ∧ ¬ p = 2 ∧ ¬ p = 5 ∧ ¬ p = 6)) t1 o1 (fun c p z => z) a3.1 a3.2.1 (fun p hp => Or.inr (by rw [ini_u a3.2.2.2]; rfl)) (fun T2 N2 t2 n2 => ?_)
  refine st_putr (N' := fun c p => N c p ∨ (c = u ∧ p ≤ 8 ∧ ¬ p = 3 ∧ ¬ p = 4 ∧ ¬ p = 0 ∧ ¬ p = 1 ∧ ¬ p = 2 ∧ ¬ p = 5 ∧ ¬ p = 6 ∧ ¬ p = 7)) u 7 t2 n2 rfl rfl (by omega) ob.1 (by rw [iu]; show (u : Int) + 23 = ((u + 23 : Nat) : Int); omega) (by omega) (by intro c p h; by_cases hn : N c p; exact Or.inl (Or.inl hn); replace h := h.resolve_left hn; by_cases hq : c = (u : Int) ∧ p = 7; exact Or.inr hq; exact Or.inl (Or.inr (by omega))) (fun O2 o2 => ?_)
  refine st_newA (N' := fun c p => N c p ∨ (c = u ∧ p ≤ 8 ∧ ¬ p = 3 ∧ ¬ p = 4 ∧ ¬ p = 0 ∧ ¬ p = 1 ∧ ¬ p = 2 ∧ ¬ p = 5 ∧ ¬ p = 6 ∧ ¬ p = 7)) t2 o2 (fun c p z => z) a4.1 a4.2.1 (fun p hp => Or.inr (by rw [ini_u a4.2.2.2]; rfl)) (fun T3 N3 t3 n3 => ?_)
  refine st_putr (N' := fun c p => N c p ∨ (c = u ∧ p ≤ 8 ∧ ¬ p = 3 ∧ ¬ p = 4 ∧ ¬ p = 0 ∧ ¬ p = 1 ∧ ¬ p = 2 ∧ ¬ p = 5 ∧ ¬ p = 6 ∧ ¬ p = 7 ∧ ¬ p = 8)) u 8 t3 n3 rfl rfl (by omega) ob.1 (by rw [iu]; show (u : Int) + 24 = ((u + 24 : Nat) : Int); omega) (by omega) (by intro c p h; by_cases hn : N c p; exact Or.inl (Or.inl hn); replace h := h.resolve_left hn; by_cases hq : c = (u : Int) ∧ p = 8; exact Or.inr hq; exact Or.inl (Or.inr (by omega))) (fun O3 o3 => ?_)
  refine h T3 O3 t3 ?_
  intro c p hc hp
  rcases o3 c p hc hp with z | z
  · exact Or.inl (z.resolve_right (by omega))
  · exact Or.inr z
end
