theorem g_cpyx {X : Mm} {S : Sh} {M : Mm} {x y : Int} {n1 n2 : Nat} {n : Int} {K : Mm → Prop} (hk : isK S x 14) (hk2 : isK S y 14) (hn1 : S.2.2 x = n1) (hn2 : S.2.2 y = n2) (hb : 0 ≤ n ∧ n ≤ n1 ∧ n ≤ n2) (hw : Inv X S (cpM M x 0 y 0 n)) (h : ∀ M' : Mm, Inv X S M' → (∀ c p : Int, ¬ (c = y ∧ 0 ≤ p ∧ p < n) → M' c p = M c p) → (∀ p : Int, 0 ≤ p → p < n → M' y p = M x p) → K M') : wCpy S M x 0 y 0 n K := by
  refine ⟨hk, hk2, ⟨by decide, by decide, hb.1, by rw [hn1]; omega, by rw [hn2]; omega⟩, h _ hw (fun c p q => ?_) (fun p p0 p1 => ?_)⟩
  · unfold cpM
    rw [if_neg (fun z => q ⟨z.1, z.2.1, by have := z.2.2; omega⟩)]
  · unfold cpM
    rw [if_pos ⟨rfl, p0, by omega⟩, show 0 + (p - 0) = p by omega]
theorem s_fillx {X : Mm} {S : Sh} {M : Mm} {c v : Int} {n : Nat} {K : Mm → Prop} (hm : Inv X S M) (hk : isK S c 14) (hl : S.2.2 c = n) (hn : n ≤ 6000) (hw : ∀ (M : Mm) (i : Int), Inv X S M → 0 ≤ i → i < n → Inv X S (up M c i v)) (H : ∀ M' : Mm, Inv X S M' → (∀ c' p : Int, ¬ c' = c → M' c' p = M c' p) → (∀ p : Int, 0 ≤ p → p < n → M' c p = v) → K M') : wp_J7_fill_53178 S M c v K := by
  have key : ∀ (k : Nat) (i : Int) (M1 : Mm), Inv X S M1 → 0 ≤ i → i ≤ n → (∀ c' p : Int, ¬ c' = c → M1 c' p = M c' p) → (∀ p : Int, 0 ≤ p → p < i → M1 c p = v) → (n : Int) + 1 - i ≤ k → wp_J7_fill_53178_5 S K k c v i n M1 := by
    intro k
    induction k with
    | zero => intro i M1 _ _ _ _ _ h4; exfalso; omega
    | succ k ih =>
      intro i M1 h1 h2 h3 hf hv h4
      refine g_if (fun q => H M1 h1 hf (fun p p0 p1 => hv p p0 (by omega))) (fun q => ?_)
      refine g_st hk hl h2 (by omega) (hw M1 i h1 h2 (by omega)) (fun M2 e2 h5 => ?_)
      refine g_A (by omega) (by omega) ?_
      refine ih (i + 1) M2 h5 (by omega) (by omega) (fun c' p q => ?_) (fun p p0 p1 => ?_) (by omega)
      · rw [e2, up_ne (fun z => q z.1)]
        exact hf c' p q
      · rw [e2]
        by_cases e : p = i
        · rw [e]; exact up_at _ _ _ _
        · rw [up_ne (fun z => e z.2)]
          exact hv p p0 (by omega)
  refine g_C ?_
  refine g_len (n : Int) hk hl ⟨rfl, by omega⟩ ?_
  exact ⟨n + 1, key (n + 1) 0 M hm (by omega) (by omega) (fun _ _ _ => rfl) (fun p p0 p1 => absurd p1 (by omega)) (by omega)⟩
theorem zb_told {X : Mm} {S : Sh} {m0 : Mm} {K : Mm → Prop} {u0 u1 : Int} (hS : Shp S) (hm0 : Inv X S m0) (hb0 : isTo u0) (hb1 : isTo u1) (hd : u1 + 11 < u0 ∨ u0 + 11 < u1) (hk : ∀ M1 : Mm, Inv X S M1 → (∀ c p : Int, ¬ (u0 ≤ c ∧ c ≤ u0 + 11) → M1 c p = m0 c p) → M1 u0 0 = m0 u1 0 → M1 u0 1 = m0 u1 1 → M1 u0 2 = m0 u1 2 → M1 u0 3 = m0 u1 3 → M1 u0 4 = m0 u1 4 → M1 u0 5 = m0 u1 5 → M1 u0 6 = m0 u1 6 → M1 u0 7 = m0 u1 7 → (∀ p : Int, 0 ≤ p → p < 36 → M1 (u0 + 1) p = m0 (u1 + 1) p) → (∀ p : Int, 0 ≤ p → p < 36 → M1 (u0 + 2) p = m0 (u1 + 2) p) → (∀ p : Int, 0 ≤ p → p < 5 → M1 (u0 + 3) p = m0 (u1 + 3) p) → (∀ p : Int, 0 ≤ p → p < 5 → M1 (u0 + 4) p = m0 (u1 + 4) p) → (∀ p : Int, 0 ≤ p → p < 4 → M1 (u0 + 5) p = m0 (u1 + 5) p) → (∀ p : Int, 0 ≤ p → p < 4 → M1 (u0 + 6) p = m0 (u1 + 6) p) → (∀ p : Int, 0 ≤ p → p < 4 → M1 (u0 + 7) p = m0 (u1 + 7) p) → (∀ p : Int, 0 ≤ p → p < 6 → M1 (u0 + 8) p = m0 (u1 + 8) p) → (∀ p : Int, 0 ≤ p → p < 6 → M1 (u0 + 9) p = m0 (u1 + 9) p) → (∀ p : Int, 0 ≤ p → p < 6 → M1 (u0 + 10) p = m0 (u1 + 10) p) → (∀ p : Int, 0 ≤ p → p < 6 → M1 (u0 + 11) p = m0 (u1 + 11) p) → K M1) : wp_X8_become S m0 u0 u1 K := by
  refine u_X8_become ?_
  refine g_get 0 (0) (6) rfl (hS.kB_8_0 hb1) (hm0.fB_8_0 hb1) (fun v0 ev0 bv0 cv0 => ?_)
  refine g_put 0 rfl (hS.kB_8_0 hb0) (hm0.wB_8_0 hb0 (by omega) (by omega)) (fun m1 e1 hm1 => ?_)
  have f1 : ∀ c p : Int, ¬ (c = u0 ∧ p = 0) → m1 c p = m0 c p := fun c p q => (congrFun (congrFun e1 _) _).trans (up_ne q)
  have x1 : m1 u0 0 = v0 := (congrFun (congrFun e1 _) _).trans (up_at _ _ _ _)
  refine g_get 1 (0) (9) rfl (hS.kB_8_0 hb1) (hm1.fB_8_1 hb1) (fun v1 ev1 bv1 cv1 => ?_)
  refine g_put 1 rfl (hS.kB_8_0 hb0) (hm1.wB_8_1 hb0 (by omega) (by omega)) (fun m2 e2 hm2 => ?_)
  have f2 : ∀ c p : Int, ¬ (c = u0 ∧ p = 1) → m2 c p = m1 c p := fun c p q => (congrFun (congrFun e2 _) _).trans (up_ne q)
  have x2 : m2 u0 1 = v1 := (congrFun (congrFun e2 _) _).trans (up_at _ _ _ _)
  refine g_get 2 (0) (99) rfl (hS.kB_8_0 hb1) (hm2.fB_8_2 hb1) (fun v2 ev2 bv2 cv2 => ?_)
  refine g_put 2 rfl (hS.kB_8_0 hb0) (hm2.wB_8_2 hb0 (by omega) (by omega)) (fun m3 e3 hm3 => ?_)
  have f3 : ∀ c p : Int, ¬ (c = u0 ∧ p = 2) → m3 c p = m2 c p := fun c p q => (congrFun (congrFun e3 _) _).trans (up_ne q)
  have x3 : m3 u0 2 = v2 := (congrFun (congrFun e3 _) _).trans (up_at _ _ _ _)
  refine g_get 3 (0) (8) rfl (hS.kB_8_0 hb1) (hm3.fB_8_3 hb1) (fun v3 ev3 bv3 cv3 => ?_)
  refine g_put 3 rfl (hS.kB_8_0 hb0) (hm3.wB_8_3 hb0 (by omega) (by omega)) (fun m4 e4 hm4 => ?_)
  have f4 : ∀ c p : Int, ¬ (c = u0 ∧ p = 3) → m4 c p = m3 c p := fun c p q => (congrFun (congrFun e4 _) _).trans (up_ne q)
  have x4 : m4 u0 3 = v3 := (congrFun (congrFun e4 _) _).trans (up_at _ _ _ _)
  refine g_get 4 (0) (5) rfl (hS.kB_8_0 hb1) (hm4.fB_8_4 hb1) (fun v4 ev4 bv4 cv4 => ?_)
  refine g_put 4 rfl (hS.kB_8_0 hb0) (hm4.wB_8_4 hb0 (by omega) (by omega)) (fun m5 e5 hm5 => ?_)
  have f5 : ∀ c p : Int, ¬ (c = u0 ∧ p = 4) → m5 c p = m4 c p := fun c p q => (congrFun (congrFun e5 _) _).trans (up_ne q)
  have x5 : m5 u0 4 = v4 := (congrFun (congrFun e5 _) _).trans (up_at _ _ _ _)
  refine g_get 5 (0) (4) rfl (hS.kB_8_0 hb1) (hm5.fB_8_5 hb1) (fun v5 ev5 bv5 cv5 => ?_)
  refine g_put 5 rfl (hS.kB_8_0 hb0) (hm5.wB_8_5 hb0 (by omega) (by omega)) (fun m6 e6 hm6 => ?_)
  have f6 : ∀ c p : Int, ¬ (c = u0 ∧ p = 5) → m6 c p = m5 c p := fun c p q => (congrFun (congrFun e6 _) _).trans (up_ne q)
  have x6 : m6 u0 5 = v5 := (congrFun (congrFun e6 _) _).trans (up_at _ _ _ _)
  refine g_get 6 (0) (4) rfl (hS.kB_8_0 hb1) (hm6.fB_8_6 hb1) (fun v6 ev6 bv6 cv6 => ?_)
  refine g_put 6 rfl (hS.kB_8_0 hb0) (hm6.wB_8_6 hb0 (by omega) (by omega)) (fun m7 e7 hm7 => ?_)
  have f7 : ∀ c p : Int, ¬ (c = u0 ∧ p = 6) → m7 c p = m6 c p := fun c p q => (congrFun (congrFun e7 _) _).trans (up_ne q)
  have x7 : m7 u0 6 = v6 := (congrFun (congrFun e7 _) _).trans (up_at _ _ _ _)
  refine g_get 7 (0) (6) rfl (hS.kB_8_0 hb1) (hm7.fB_8_7 hb1) (fun v7 ev7 bv7 cv7 => ?_)
  refine g_put 7 rfl (hS.kB_8_0 hb0) (hm7.wB_8_7 hb0 (by omega) (by omega)) (fun m8 e8 hm8 => ?_)
  have f8 : ∀ c p : Int, ¬ (c = u0 ∧ p = 7) → m8 c p = m7 c p := fun c p q => (congrFun (congrFun e8 _) _).trans (up_ne q)
  have x8 : m8 u0 7 = v7 := (congrFun (congrFun e8 _) _).trans (up_at _ _ _ _)
  refine g_getr 8 (u1 + 1) rfl (hS.kB_8_0 hb1) (hm8.fB_8_8 hb1) (hS.nB_8_1 hb1) ?_
  refine g_C ?_
  refine g_getr 8 (u0 + 1) rfl (hS.kB_8_0 hb0) (hm8.fB_8_8 hb0) (hS.nB_8_1 hb0) ?_
  refine g_C ?_
  refine g_getr 8 (u0 + 1) rfl (hS.kB_8_0 hb0) (hm8.fB_8_8 hb0) (hS.nB_8_1 hb0) ?_
  refine g_len 36 (hS.kB_8_1 hb0) (hS.lB_8_1 hb0) (by decide) ?_
  refine g_cpyx (hS.kB_8_1 hb1) (hS.kB_8_1 hb0) (hS.lB_8_1 hb1) (hS.lB_8_1 hb0) (by decide) (hm8.cpB_8_1 hb1 hb0 (by decide)) (fun m9 hm9 f9 y9 => ?_)
  refine g_getr 9 (u1 + 2) rfl (hS.kB_8_0 hb1) (hm9.fB_8_9 hb1) (hS.nB_8_2 hb1) ?_
  refine g_C ?_
  refine g_getr 9 (u0 + 2) rfl (hS.kB_8_0 hb0) (hm9.fB_8_9 hb0) (hS.nB_8_2 hb0) ?_
  refine g_C ?_
  refine g_getr 9 (u0 + 2) rfl (hS.kB_8_0 hb0) (hm9.fB_8_9 hb0) (hS.nB_8_2 hb0) ?_
  refine g_len 36 (hS.kB_8_2 hb0) (hS.lB_8_2 hb0) (by decide) ?_
  refine g_cpyx (hS.kB_8_2 hb1) (hS.kB_8_2 hb0) (hS.lB_8_2 hb1) (hS.lB_8_2 hb0) (by decide) (hm9.cpB_8_2 hb1 hb0 (by decide)) (fun m10 hm10 f10 y10 => ?_)
  refine g_getr 10 (u1 + 3) rfl (hS.kB_8_0 hb1) (hm10.fB_8_10 hb1) (hS.nB_8_3 hb1) ?_
  refine g_C ?_
  refine g_getr 10 (u0 + 3) rfl (hS.kB_8_0 hb0) (hm10.fB_8_10 hb0) (hS.nB_8_3 hb0) ?_
  refine g_C ?_
  refine g_C ?_
  refine g_cpyx (hS.kB_8_3 hb1) (hS.kB_8_3 hb0) (hS.lB_8_3 hb1) (hS.lB_8_3 hb0) (by decide) (hm10.cpB_8_3 hb1 hb0 (by decide)) (fun m11 hm11 f11 y11 => ?_)
  refine g_getr 11 (u1 + 4) rfl (hS.kB_8_0 hb1) (hm11.fB_8_11 hb1) (hS.nB_8_4 hb1) ?_
  refine g_C ?_
  refine g_getr 11 (u0 + 4) rfl (hS.kB_8_0 hb0) (hm11.fB_8_11 hb0) (hS.nB_8_4 hb0) ?_
  refine g_C ?_
  refine g_C ?_
  refine g_cpyx (hS.kB_8_4 hb1) (hS.kB_8_4 hb0) (hS.lB_8_4 hb1) (hS.lB_8_4 hb0) (by decide) (hm11.cpB_8_4 hb1 hb0 (by decide)) (fun m12 hm12 f12 y12 => ?_)
  refine g_getr 12 (u1 + 5) rfl (hS.kB_8_0 hb1) (hm12.fB_8_12 hb1) (hS.nB_8_5 hb1) ?_
  refine g_C ?_
  refine g_getr 12 (u0 + 5) rfl (hS.kB_8_0 hb0) (hm12.fB_8_12 hb0) (hS.nB_8_5 hb0) ?_
  refine g_C ?_
  refine g_C ?_
  refine g_cpyx (hS.kB_8_5 hb1) (hS.kB_8_5 hb0) (hS.lB_8_5 hb1) (hS.lB_8_5 hb0) (by decide) (hm12.cpB_8_5 hb1 hb0 (by decide)) (fun m13 hm13 f13 y13 => ?_)
  refine g_getr 13 (u1 + 6) rfl (hS.kB_8_0 hb1) (hm13.fB_8_13 hb1) (hS.nB_8_6 hb1) ?_
  refine g_C ?_
  refine g_getr 13 (u0 + 6) rfl (hS.kB_8_0 hb0) (hm13.fB_8_13 hb0) (hS.nB_8_6 hb0) ?_
  refine g_C ?_
  refine g_C ?_
  refine g_cpyx (hS.kB_8_6 hb1) (hS.kB_8_6 hb0) (hS.lB_8_6 hb1) (hS.lB_8_6 hb0) (by decide) (hm13.cpB_8_6 hb1 hb0 (by decide)) (fun m14 hm14 f14 y14 => ?_)
  refine g_getr 14 (u1 + 7) rfl (hS.kB_8_0 hb1) (hm14.fB_8_14 hb1) (hS.nB_8_7 hb1) ?_
  refine g_C ?_
  refine g_getr 14 (u0 + 7) rfl (hS.kB_8_0 hb0) (hm14.fB_8_14 hb0) (hS.nB_8_7 hb0) ?_
  refine g_C ?_
  refine g_C ?_
  refine g_cpyx (hS.kB_8_7 hb1) (hS.kB_8_7 hb0) (hS.lB_8_7 hb1) (hS.lB_8_7 hb0) (by decide) (hm14.cpB_8_7 hb1 hb0 (by decide)) (fun m15 hm15 f15 y15 => ?_)
  refine g_getr 15 (u1 + 8) rfl (hS.kB_8_0 hb1) (hm15.fB_8_15 hb1) (hS.nB_8_8 hb1) ?_
  refine g_C ?_
  refine g_getr 15 (u0 + 8) rfl (hS.kB_8_0 hb0) (hm15.fB_8_15 hb0) (hS.nB_8_8 hb0) ?_
  refine g_C ?_
  refine g_C ?_
  refine g_cpyx (hS.kB_8_8 hb1) (hS.kB_8_8 hb0) (hS.lB_8_8 hb1) (hS.lB_8_8 hb0) (by decide) (hm15.cpB_8_8 hb1 hb0 (by decide)) (fun m16 hm16 f16 y16 => ?_)
  refine g_getr 16 (u1 + 9) rfl (hS.kB_8_0 hb1) (hm16.fB_8_16 hb1) (hS.nB_8_9 hb1) ?_
  refine g_C ?_
  refine g_getr 16 (u0 + 9) rfl (hS.kB_8_0 hb0) (hm16.fB_8_16 hb0) (hS.nB_8_9 hb0) ?_
  refine g_C ?_
  refine g_C ?_
  refine g_cpyx (hS.kB_8_9 hb1) (hS.kB_8_9 hb0) (hS.lB_8_9 hb1) (hS.lB_8_9 hb0) (by decide) (hm16.cpB_8_9 hb1 hb0 (by decide)) (fun m17 hm17 f17 y17 => ?_)
  refine g_getr 17 (u1 + 10) rfl (hS.kB_8_0 hb1) (hm17.fB_8_17 hb1) (hS.nB_8_10 hb1) ?_
  refine g_C ?_
  refine g_getr 17 (u0 + 10) rfl (hS.kB_8_0 hb0) (hm17.fB_8_17 hb0) (hS.nB_8_10 hb0) ?_
  refine g_C ?_
  refine g_C ?_
  refine g_cpyx (hS.kB_8_10 hb1) (hS.kB_8_10 hb0) (hS.lB_8_10 hb1) (hS.lB_8_10 hb0) (by decide) (hm17.cpB_8_10 hb1 hb0 (by decide)) (fun m18 hm18 f18 y18 => ?_)
  refine g_getr 18 (u1 + 11) rfl (hS.kB_8_0 hb1) (hm18.fB_8_18 hb1) (hS.nB_8_11 hb1) ?_
  refine g_C ?_
  refine g_getr 18 (u0 + 11) rfl (hS.kB_8_0 hb0) (hm18.fB_8_18 hb0) (hS.nB_8_11 hb0) ?_
  refine g_C ?_
  refine g_C ?_
  refine g_cpyx (hS.kB_8_11 hb1) (hS.kB_8_11 hb0) (hS.lB_8_11 hb1) (hS.lB_8_11 hb0) (by decide) (hm18.cpB_8_11 hb1 hb0 (by decide)) (fun m19 hm19 f19 y19 => ?_)
  refine hk m19 hm19 (fun c p q => by rw [f19 c p (by omega), f18 c p (by omega), f17 c p (by omega), f16 c p (by omega), f15 c p (by omega), f14 c p (by omega), f13 c p (by omega), f12 c p (by omega), f11 c p (by omega), f10 c p (by omega), f9 c p (by omega), f8 c p (by omega), f7 c p (by omega), f6 c p (by omega), f5 c p (by omega), f4 c p (by omega), f3 c p (by omega), f2 c p (by omega), f1 c p (by omega)]) ?_ ?_ ?_ ?_ ?_ ?_ ?_ ?_ (fun p p0 p1 => ?_) (fun p p0 p1 => ?_) (fun p p0 p1 => ?_) (fun p p0 p1 => ?_) (fun p p0 p1 => ?_) (fun p p0 p1 => ?_) (fun p p0 p1 => ?_) (fun p p0 p1 => ?_) (fun p p0 p1 => ?_) (fun p p0 p1 => ?_) (fun p p0 p1 => ?_)
  · rw [f19 u0 0 (by omega), f18 u0 0 (by omega), f17 u0 0 (by omega), f16 u0 0 (by omega), f15 u0 0 (by omega), f14 u0 0 (by omega), f13 u0 0 (by omega), f12 u0 0 (by omega), f11 u0 0 (by omega), f10 u0 0 (by omega), f9 u0 0 (by omega), f8 u0 0 (by omega), f7 u0 0 (by omega), f6 u0 0 (by omega), f5 u0 0 (by omega), f4 u0 0 (by omega), f3 u0 0 (by omega), f2 u0 0 (by omega), x1, ev0]
  · rw [f19 u0 1 (by omega), f18 u0 1 (by omega), f17 u0 1 (by omega), f16 u0 1 (by omega), f15 u0 1 (by omega), f14 u0 1 (by omega), f13 u0 1 (by omega), f12 u0 1 (by omega), f11 u0 1 (by omega), f10 u0 1 (by omega), f9 u0 1 (by omega), f8 u0 1 (by omega), f7 u0 1 (by omega), f6 u0 1 (by omega), f5 u0 1 (by omega), f4 u0 1 (by omega), f3 u0 1 (by omega), x2, ev1, f1 u1 1 (by omega)]
  · rw [f19 u0 2 (by omega), f18 u0 2 (by omega), f17 u0 2 (by omega), f16 u0 2 (by omega), f15 u0 2 (by omega), f14 u0 2 (by omega), f13 u0 2 (by omega), f12 u0 2 (by omega), f11 u0 2 (by omega), f10 u0 2 (by omega), f9 u0 2 (by omega), f8 u0 2 (by omega), f7 u0 2 (by omega), f6 u0 2 (by omega), f5 u0 2 (by omega), f4 u0 2 (by omega), x3, ev2, f2 u1 2 (by omega), f1 u1 2 (by omega)]
  · rw [f19 u0 3 (by omega), f18 u0 3 (by omega), f17 u0 3 (by omega), f16 u0 3 (by omega), f15 u0 3 (by omega), f14 u0 3 (by omega), f13 u0 3 (by omega), f12 u0 3 (by omega), f11 u0 3 (by omega), f10 u0 3 (by omega), f9 u0 3 (by omega), f8 u0 3 (by omega), f7 u0 3 (by omega), f6 u0 3 (by omega), f5 u0 3 (by omega), x4, ev3, f3 u1 3 (by omega), f2 u1 3 (by omega), f1 u1 3 (by omega)]
  · rw [f19 u0 4 (by omega), f18 u0 4 (by omega), f17 u0 4 (by omega), f16 u0 4 (by omega), f15 u0 4 (by omega), f14 u0 4 (by omega), f13 u0 4 (by omega), f12 u0 4 (by omega), f11 u0 4 (by omega), f10 u0 4 (by omega), f9 u0 4 (by omega), f8 u0 4 (by omega), f7 u0 4 (by omega), f6 u0 4 (by omega), x5, ev4, f4 u1 4 (by omega), f3 u1 4 (by omega), f2 u1 4 (by omega), f1 u1 4 (by omega)]
  · rw [f19 u0 5 (by omega), f18 u0 5 (by omega), f17 u0 5 (by omega), f16 u0 5 (by omega), f15 u0 5 (by omega), f14 u0 5 (by omega), f13 u0 5 (by omega), f12 u0 5 (by omega), f11 u0 5 (by omega), f10 u0 5 (by omega), f9 u0 5 (by omega), f8 u0 5 (by omega), f7 u0 5 (by omega), x6, ev5, f5 u1 5 (by omega), f4 u1 5 (by omega), f3 u1 5 (by omega), f2 u1 5 (by omega), f1 u1 5 (by omega)]
  · rw [f19 u0 6 (by omega), f18 u0 6 (by omega), f17 u0 6 (by omega), f16 u0 6 (by omega), f15 u0 6 (by omega), f14 u0 6 (by omega), f13 u0 6 (by omega), f12 u0 6 (by omega), f11 u0 6 (by omega), f10 u0 6 (by omega), f9 u0 6 (by omega), f8 u0 6 (by omega), x7, ev6, f6 u1 6 (by omega), f5 u1 6 (by omega), f4 u1 6 (by omega), f3 u1 6 (by omega), f2 u1 6 (by omega), f1 u1 6 (by omega)]
  · rw [f19 u0 7 (by omega), f18 u0 7 (by omega), f17 u0 7 (by omega), f16 u0 7 (by omega), f15 u0 7 (by omega), f14 u0 7 (by omega), f13 u0 7 (by omega), f12 u0 7 (by omega), f11 u0 7 (by omega), f10 u0 7 (by omega), f9 u0 7 (by omega), x8, ev7, f7 u1 7 (by omega), f6 u1 7 (by omega), f5 u1 7 (by omega), f4 u1 7 (by omega), f3 u1 7 (by omega), f2 u1 7 (by omega), f1 u1 7 (by omega)]
  · rw [f19 (u0 + 1) p (by omega), f18 (u0 + 1) p (by omega), f17 (u0 + 1) p (by omega), f16 (u0 + 1) p (by omega), f15 (u0 + 1) p (by omega), f14 (u0 + 1) p (by omega), f13 (u0 + 1) p (by omega), f12 (u0 + 1) p (by omega), f11 (u0 + 1) p (by omega), f10 (u0 + 1) p (by omega), y9 p p0 p1, f8 (u1 + 1) p (by omega), f7 (u1 + 1) p (by omega), f6 (u1 + 1) p (by omega), f5 (u1 + 1) p (by omega), f4 (u1 + 1) p (by omega), f3 (u1 + 1) p (by omega), f2 (u1 + 1) p (by omega), f1 (u1 + 1) p (by omega)]
  · rw [f19 (u0 + 2) p (by omega), f18 (u0 + 2) p (by omega), f17 (u0 + 2) p (by omega), f16 (u0 + 2) p (by omega), f15 (u0 + 2) p (by omega), f14 (u0 + 2) p (by omega), f13 (u0 + 2) p (by omega), f12 (u0 + 2) p (by omega), f11 (u0 + 2) p (by omega), y10 p p0 p1, f9 (u1 + 2) p (by omega), f8 (u1 + 2) p (by omega), f7 (u1 + 2) p (by omega), f6 (u1 + 2) p (by omega), f5 (u1 + 2) p (by omega), f4 (u1 + 2) p (by omega), f3 (u1 + 2) p (by omega), f2 (u1 + 2) p (by omega), f1 (u1 + 2) p (by omega)]
  · rw [f19 (u0 + 3) p (by omega), f18 (u0 + 3) p (by omega), f17 (u0 + 3) p (by omega), f16 (u0 + 3) p (by omega), f15 (u0 + 3) p (by omega), f14 (u0 + 3) p (by omega), f13 (u0 + 3) p (by omega), f12 (u0 + 3) p (by omega), y11 p p0 p1, f10 (u1 + 3) p (by omega), f9 (u1 + 3) p (by omega), f8 (u1 + 3) p (by omega), f7 (u1 + 3) p (by omega), f6 (u1 + 3) p (by omega), f5 (u1 + 3) p (by omega), f4 (u1 + 3) p (by omega), f3 (u1 + 3) p (by omega), f2 (u1 + 3) p (by omega), f1 (u1 + 3) p (by omega)]
  · rw [f19 (u0 + 4) p (by omega), f18 (u0 + 4) p (by omega), f17 (u0 + 4) p (by omega), f16 (u0 + 4) p (by omega), f15 (u0 + 4) p (by omega), f14 (u0 + 4) p (by omega), f13 (u0 + 4) p (by omega), y12 p p0 p1, f11 (u1 + 4) p (by omega), f10 (u1 + 4) p (by omega), f9 (u1 + 4) p (by omega), f8 (u1 + 4) p (by omega), f7 (u1 + 4) p (by omega), f6 (u1 + 4) p (by omega), f5 (u1 + 4) p (by omega), f4 (u1 + 4) p (by omega), f3 (u1 + 4) p (by omega), f2 (u1 + 4) p (by omega), f1 (u1 + 4) p (by omega)]
  · rw [f19 (u0 + 5) p (by omega), f18 (u0 + 5) p (by omega), f17 (u0 + 5) p (by omega), f16 (u0 + 5) p (by omega), f15 (u0 + 5) p (by omega), f14 (u0 + 5) p (by omega), y13 p p0 p1, f12 (u1 + 5) p (by omega), f11 (u1 + 5) p (by omega), f10 (u1 + 5) p (by omega), f9 (u1 + 5) p (by omega), f8 (u1 + 5) p (by omega), f7 (u1 + 5) p (by omega), f6 (u1 + 5) p (by omega), f5 (u1 + 5) p (by omega), f4 (u1 + 5) p (by omega), f3 (u1 + 5) p (by omega), f2 (u1 + 5) p (by omega), f1 (u1 + 5) p (by omega)]
  · rw [f19 (u0 + 6) p (by omega), f18 (u0 + 6) p (by omega), f17 (u0 + 6) p (by omega), f16 (u0 + 6) p (by omega), f15 (u0 + 6) p (by omega), y14 p p0 p1, f13 (u1 + 6) p (by omega), f12 (u1 + 6) p (by omega), f11 (u1 + 6) p (by omega), f10 (u1 + 6) p (by omega), f9 (u1 + 6) p (by omega), f8 (u1 + 6) p (by omega), f7 (u1 + 6) p (by omega), f6 (u1 + 6) p (by omega), f5 (u1 + 6) p (by omega), f4 (u1 + 6) p (by omega), f3 (u1 + 6) p (by omega), f2 (u1 + 6) p (by omega), f1 (u1 + 6) p (by omega)]
  · rw [f19 (u0 + 7) p (by omega), f18 (u0 + 7) p (by omega), f17 (u0 + 7) p (by omega), f16 (u0 + 7) p (by omega), y15 p p0 p1, f14 (u1 + 7) p (by omega), f13 (u1 + 7) p (by omega), f12 (u1 + 7) p (by omega), f11 (u1 + 7) p (by omega), f10 (u1 + 7) p (by omega), f9 (u1 + 7) p (by omega), f8 (u1 + 7) p (by omega), f7 (u1 + 7) p (by omega), f6 (u1 + 7) p (by omega), f5 (u1 + 7) p (by omega), f4 (u1 + 7) p (by omega), f3 (u1 + 7) p (by omega), f2 (u1 + 7) p (by omega), f1 (u1 + 7) p (by omega)]
  · rw [f19 (u0 + 8) p (by omega), f18 (u0 + 8) p (by omega), f17 (u0 + 8) p (by omega), y16 p p0 p1, f15 (u1 + 8) p (by omega), f14 (u1 + 8) p (by omega), f13 (u1 + 8) p (by omega), f12 (u1 + 8) p (by omega), f11 (u1 + 8) p (by omega), f10 (u1 + 8) p (by omega), f9 (u1 + 8) p (by omega), f8 (u1 + 8) p (by omega), f7 (u1 + 8) p (by omega), f6 (u1 + 8) p (by omega), f5 (u1 + 8) p (by omega), f4 (u1 + 8) p (by omega), f3 (u1 + 8) p (by omega), f2 (u1 + 8) p (by omega), f1 (u1 + 8) p (by omega)]
  · rw [f19 (u0 + 9) p (by omega), f18 (u0 + 9) p (by omega), y17 p p0 p1, f16 (u1 + 9) p (by omega), f15 (u1 + 9) p (by omega), f14 (u1 + 9) p (by omega), f13 (u1 + 9) p (by omega), f12 (u1 + 9) p (by omega), f11 (u1 + 9) p (by omega), f10 (u1 + 9) p (by omega), f9 (u1 + 9) p (by omega), f8 (u1 + 9) p (by omega), f7 (u1 + 9) p (by omega), f6 (u1 + 9) p (by omega), f5 (u1 + 9) p (by omega), f4 (u1 + 9) p (by omega), f3 (u1 + 9) p (by omega), f2 (u1 + 9) p (by omega), f1 (u1 + 9) p (by omega)]
  · rw [f19 (u0 + 10) p (by omega), y18 p p0 p1, f17 (u1 + 10) p (by omega), f16 (u1 + 10) p (by omega), f15 (u1 + 10) p (by omega), f14 (u1 + 10) p (by omega), f13 (u1 + 10) p (by omega), f12 (u1 + 10) p (by omega), f11 (u1 + 10) p (by omega), f10 (u1 + 10) p (by omega), f9 (u1 + 10) p (by omega), f8 (u1 + 10) p (by omega), f7 (u1 + 10) p (by omega), f6 (u1 + 10) p (by omega), f5 (u1 + 10) p (by omega), f4 (u1 + 10) p (by omega), f3 (u1 + 10) p (by omega), f2 (u1 + 10) p (by omega), f1 (u1 + 10) p (by omega)]
  · rw [y19 p p0 p1, f18 (u1 + 11) p (by omega), f17 (u1 + 11) p (by omega), f16 (u1 + 11) p (by omega), f15 (u1 + 11) p (by omega), f14 (u1 + 11) p (by omega), f13 (u1 + 11) p (by omega), f12 (u1 + 11) p (by omega), f11 (u1 + 11) p (by omega), f10 (u1 + 11) p (by omega), f9 (u1 + 11) p (by omega), f8 (u1 + 11) p (by omega), f7 (u1 + 11) p (by omega), f6 (u1 + 11) p (by omega), f5 (u1 + 11) p (by omega), f4 (u1 + 11) p (by omega), f3 (u1 + 11) p (by omega), f2 (u1 + 11) p (by omega), f1 (u1 + 11) p (by omega)]
theorem zb_state {X : Mm} {S : Sh} {m0 : Mm} {K : Mm → Prop} {u0 u1 : Int} (hS : Shp S) (hm0 : Inv X S m0) (hb0 : isSt u0) (hb1 : isSt u1) (hd : u1 + 7 < u0 ∨ u0 + 7 < u1) (hk : ∀ M1 : Mm, Inv X S M1 → (∀ c p : Int, ¬ (u0 ≤ c ∧ c ≤ u0 + 7) → M1 c p = m0 c p) → M1 u0 0 = m0 u1 0 → M1 u0 1 = m0 u1 1 → (∀ p : Int, 0 ≤ p → p < 5 → M1 (u0 + 1) p = m0 (u1 + 1) p) → (∀ p : Int, 0 ≤ p → p < 5 → M1 (u0 + 2) p = m0 (u1 + 2) p) → (∀ p : Int, 0 ≤ p → p < 5 → M1 (u0 + 3) p = m0 (u1 + 3) p) → (∀ p : Int, 0 ≤ p → p < 4 → M1 (u0 + 4) p = m0 (u1 + 4) p) → (∀ p : Int, 0 ≤ p → p < 4 → M1 (u0 + 5) p = m0 (u1 + 5) p) → (∀ p : Int, 0 ≤ p → p < 4 → M1 (u0 + 6) p = m0 (u1 + 6) p) → (∀ p : Int, 0 ≤ p → p < 6 → M1 (u0 + 7) p = m0 (u1 + 7) p) → K M1) : wp_X5_become S m0 u0 u1 K := by
  refine u_X5_become ?_
  refine g_get 0 (0) (999) rfl (hS.kB_5_0 hb1) (hm0.fB_5_0 hb1) (fun v0 ev0 bv0 cv0 => ?_)
  refine g_put 0 rfl (hS.kB_5_0 hb0) (hm0.wB_5_0 hb0 (by omega) (by omega)) (fun m1 e1 hm1 => ?_)
  have f1 : ∀ c p : Int, ¬ (c = u0 ∧ p = 0) → m1 c p = m0 c p := fun c p q => (congrFun (congrFun e1 _) _).trans (up_ne q)
  have x1 : m1 u0 0 = v0 := (congrFun (congrFun e1 _) _).trans (up_at _ _ _ _)
  refine g_get 1 (-2147483648) (2147483647) rfl (hS.kB_5_0 hb1) (hm1.fB_5_1 hb1) (fun v1 ev1 bv1 cv1 => ?_)
  refine g_put 1 rfl (hS.kB_5_0 hb0) (hm1.wB_5_1 hb0 (by omega) (by omega)) (fun m2 e2 hm2 => ?_)
  have f2 : ∀ c p : Int, ¬ (c = u0 ∧ p = 1) → m2 c p = m1 c p := fun c p q => (congrFun (congrFun e2 _) _).trans (up_ne q)
  have x2 : m2 u0 1 = v1 := (congrFun (congrFun e2 _) _).trans (up_at _ _ _ _)
  refine g_getr 2 (u1 + 1) rfl (hS.kB_5_0 hb1) (hm2.fB_5_2 hb1) (hS.nB_5_1 hb1) ?_
  refine g_C ?_
  refine g_getr 2 (u0 + 1) rfl (hS.kB_5_0 hb0) (hm2.fB_5_2 hb0) (hS.nB_5_1 hb0) ?_
  refine g_C ?_
  refine g_C ?_
  refine g_cpyx (hS.kB_5_1 hb1) (hS.kB_5_1 hb0) (hS.lB_5_1 hb1) (hS.lB_5_1 hb0) (by decide) (hm2.cpB_5_1 hb1 hb0 (by decide)) (fun m3 hm3 f3 y3 => ?_)
  refine g_getr 3 (u1 + 2) rfl (hS.kB_5_0 hb1) (hm3.fB_5_3 hb1) (hS.nB_5_2 hb1) ?_
  refine g_C ?_
  refine g_getr 3 (u0 + 2) rfl (hS.kB_5_0 hb0) (hm3.fB_5_3 hb0) (hS.nB_5_2 hb0) ?_
  refine g_C ?_
  refine g_C ?_
  refine g_cpyx (hS.kB_5_2 hb1) (hS.kB_5_2 hb0) (hS.lB_5_2 hb1) (hS.lB_5_2 hb0) (by decide) (hm3.cpB_5_2 hb1 hb0 (by decide)) (fun m4 hm4 f4 y4 => ?_)
  refine g_getr 4 (u1 + 3) rfl (hS.kB_5_0 hb1) (hm4.fB_5_4 hb1) (hS.nB_5_3 hb1) ?_
  refine g_C ?_
  refine g_getr 4 (u0 + 3) rfl (hS.kB_5_0 hb0) (hm4.fB_5_4 hb0) (hS.nB_5_3 hb0) ?_
  refine g_C ?_
  refine g_C ?_
  refine g_cpyx (hS.kB_5_3 hb1) (hS.kB_5_3 hb0) (hS.lB_5_3 hb1) (hS.lB_5_3 hb0) (by decide) (hm4.cpB_5_3 hb1 hb0 (by decide)) (fun m5 hm5 f5 y5 => ?_)
  refine g_getr 5 (u1 + 4) rfl (hS.kB_5_0 hb1) (hm5.fB_5_5 hb1) (hS.nB_5_4 hb1) ?_
  refine g_C ?_
  refine g_getr 5 (u0 + 4) rfl (hS.kB_5_0 hb0) (hm5.fB_5_5 hb0) (hS.nB_5_4 hb0) ?_
  refine g_C ?_
  refine g_C ?_
  refine g_cpyx (hS.kB_5_4 hb1) (hS.kB_5_4 hb0) (hS.lB_5_4 hb1) (hS.lB_5_4 hb0) (by decide) (hm5.cpB_5_4 hb1 hb0 (by decide)) (fun m6 hm6 f6 y6 => ?_)
  refine g_getr 6 (u1 + 5) rfl (hS.kB_5_0 hb1) (hm6.fB_5_6 hb1) (hS.nB_5_5 hb1) ?_
  refine g_C ?_
  refine g_getr 6 (u0 + 5) rfl (hS.kB_5_0 hb0) (hm6.fB_5_6 hb0) (hS.nB_5_5 hb0) ?_
  refine g_C ?_
  refine g_C ?_
  refine g_cpyx (hS.kB_5_5 hb1) (hS.kB_5_5 hb0) (hS.lB_5_5 hb1) (hS.lB_5_5 hb0) (by decide) (hm6.cpB_5_5 hb1 hb0 (by decide)) (fun m7 hm7 f7 y7 => ?_)
  refine g_getr 7 (u1 + 6) rfl (hS.kB_5_0 hb1) (hm7.fB_5_7 hb1) (hS.nB_5_6 hb1) ?_
  refine g_C ?_
  refine g_getr 7 (u0 + 6) rfl (hS.kB_5_0 hb0) (hm7.fB_5_7 hb0) (hS.nB_5_6 hb0) ?_
  refine g_C ?_
  refine g_C ?_
  refine g_cpyx (hS.kB_5_6 hb1) (hS.kB_5_6 hb0) (hS.lB_5_6 hb1) (hS.lB_5_6 hb0) (by decide) (hm7.cpB_5_6 hb1 hb0 (by decide)) (fun m8 hm8 f8 y8 => ?_)
  refine g_getr 8 (u1 + 7) rfl (hS.kB_5_0 hb1) (hm8.fB_5_8 hb1) (hS.nB_5_7 hb1) ?_
  refine g_C ?_
  refine g_getr 8 (u0 + 7) rfl (hS.kB_5_0 hb0) (hm8.fB_5_8 hb0) (hS.nB_5_7 hb0) ?_
  refine g_C ?_
  refine g_C ?_
  refine g_cpyx (hS.kB_5_7 hb1) (hS.kB_5_7 hb0) (hS.lB_5_7 hb1) (hS.lB_5_7 hb0) (by decide) (hm8.cpB_5_7 hb1 hb0 (by decide)) (fun m9 hm9 f9 y9 => ?_)
  refine hk m9 hm9 (fun c p q => by rw [f9 c p (by omega), f8 c p (by omega), f7 c p (by omega), f6 c p (by omega), f5 c p (by omega), f4 c p (by omega), f3 c p (by omega), f2 c p (by omega), f1 c p (by omega)]) ?_ ?_ (fun p p0 p1 => ?_) (fun p p0 p1 => ?_) (fun p p0 p1 => ?_) (fun p p0 p1 => ?_) (fun p p0 p1 => ?_) (fun p p0 p1 => ?_) (fun p p0 p1 => ?_)
  · rw [f9 u0 0 (by omega), f8 u0 0 (by omega), f7 u0 0 (by omega), f6 u0 0 (by omega), f5 u0 0 (by omega), f4 u0 0 (by omega), f3 u0 0 (by omega), f2 u0 0 (by omega), x1, ev0]
  · rw [f9 u0 1 (by omega), f8 u0 1 (by omega), f7 u0 1 (by omega), f6 u0 1 (by omega), f5 u0 1 (by omega), f4 u0 1 (by omega), f3 u0 1 (by omega), x2, ev1, f1 u1 1 (by omega)]
  · rw [f9 (u0 + 1) p (by omega), f8 (u0 + 1) p (by omega), f7 (u0 + 1) p (by omega), f6 (u0 + 1) p (by omega), f5 (u0 + 1) p (by omega), f4 (u0 + 1) p (by omega), y3 p p0 p1, f2 (u1 + 1) p (by omega), f1 (u1 + 1) p (by omega)]
  · rw [f9 (u0 + 2) p (by omega), f8 (u0 + 2) p (by omega), f7 (u0 + 2) p (by omega), f6 (u0 + 2) p (by omega), f5 (u0 + 2) p (by omega), y4 p p0 p1, f3 (u1 + 2) p (by omega), f2 (u1 + 2) p (by omega), f1 (u1 + 2) p (by omega)]
  · rw [f9 (u0 + 3) p (by omega), f8 (u0 + 3) p (by omega), f7 (u0 + 3) p (by omega), f6 (u0 + 3) p (by omega), y5 p p0 p1, f4 (u1 + 3) p (by omega), f3 (u1 + 3) p (by omega), f2 (u1 + 3) p (by omega), f1 (u1 + 3) p (by omega)]
  · rw [f9 (u0 + 4) p (by omega), f8 (u0 + 4) p (by omega), f7 (u0 + 4) p (by omega), y6 p p0 p1, f5 (u1 + 4) p (by omega), f4 (u1 + 4) p (by omega), f3 (u1 + 4) p (by omega), f2 (u1 + 4) p (by omega), f1 (u1 + 4) p (by omega)]
  · rw [f9 (u0 + 5) p (by omega), f8 (u0 + 5) p (by omega), y7 p p0 p1, f6 (u1 + 5) p (by omega), f5 (u1 + 5) p (by omega), f4 (u1 + 5) p (by omega), f3 (u1 + 5) p (by omega), f2 (u1 + 5) p (by omega), f1 (u1 + 5) p (by omega)]
  · rw [f9 (u0 + 6) p (by omega), y8 p p0 p1, f7 (u1 + 6) p (by omega), f6 (u1 + 6) p (by omega), f5 (u1 + 6) p (by omega), f4 (u1 + 6) p (by omega), f3 (u1 + 6) p (by omega), f2 (u1 + 6) p (by omega), f1 (u1 + 6) p (by omega)]
  · rw [y9 p p0 p1, f8 (u1 + 7) p (by omega), f7 (u1 + 7) p (by omega), f6 (u1 + 7) p (by omega), f5 (u1 + 7) p (by omega), f4 (u1 + 7) p (by omega), f3 (u1 + 7) p (by omega), f2 (u1 + 7) p (by omega), f1 (u1 + 7) p (by omega)]
