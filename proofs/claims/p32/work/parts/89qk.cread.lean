section
theorem LC.look {X : Mm} {S : Sh} {D : Dd} {m m' : Mm} (h : LC D m) (hm : Inv X S m) (f : ∀ c p : Int, (c = 32 ∧ p ≤ 7) ∨ c = 33 ∨ (35 ≤ c ∧ c ≤ 51) → m' c p = m c p) : LC D m' := by
  have b3 := hm.f_32_3
  have b4 := hm.f_32_4
  have b5 := hm.f_32_5
  have b6 := hm.f_32_6
  have b7 := hm.f_32_7
  obtain ⟨⟨q0, q1, q2, q3, q4, q5, q6, q7⟩, lr, lh, lj, lt, lw, ls⟩ := h
  exact ⟨⟨by rw [f 32 0 (by first | decide | exact fun z => absurd z.1 (by decide) | exact ⟨fun z => absurd z.1 (by decide), fun z => absurd z.1 (by decide)⟩ | omega)]; exact q0, by rw [f 32 1 (by first | decide | exact fun z => absurd z.1 (by decide) | exact ⟨fun z => absurd z.1 (by decide), fun z => absurd z.1 (by decide)⟩ | omega)]; exact q1, by rw [f 32 2 (by first | decide | exact fun z => absurd z.1 (by decide) | exact ⟨fun z => absurd z.1 (by decide), fun z => absurd z.1 (by decide)⟩ | omega)]; exact q2, by rw [f 32 3 (by first | decide | exact fun z => absurd z.1 (by decide) | exact ⟨fun z => absurd z.1 (by decide), fun z => absurd z.1 (by decide)⟩ | omega)]; exact q3, by rw [f 32 4 (by first | decide | exact fun z => absurd z.1 (by decide) | exact ⟨fun z => absurd z.1 (by decide), fun z => absurd z.1 (by decide)⟩ | omega)]; exact q4, by rw [f 32 5 (by first | decide | exact fun z => absurd z.1 (by decide) | exact ⟨fun z => absurd z.1 (by decide), fun z => absurd z.1 (by decide)⟩ | omega)]; exact q5, by rw [f 32 6 (by first | decide | exact fun z => absurd z.1 (by decide) | exact ⟨fun z => absurd z.1 (by decide), fun z => absurd z.1 (by decide)⟩ | omega)]; exact q6, by rw [f 32 7 (by first | decide | exact fun z => absurd z.1 (by decide) | exact ⟨fun z => absurd z.1 (by decide), fun z => absurd z.1 (by decide)⟩ | omega)]; exact q7⟩, lr.keep (by omega) (fun p => f 33 p (by first | decide | exact fun z => absurd z.1 (by decide) | exact ⟨fun z => absurd z.1 (by decide), fun z => absurd z.1 (by decide)⟩ | omega)) (fun p _ => rfl), lh.keep (by omega) (fun c p z => f c p (by omega)) (fun p _ => rfl), lj.keep (by omega) (fun c p z => f c p (by omega)) (fun p _ => rfl), lt.keep (by omega) (fun c p z => f c p (by omega)) (fun p _ => rfl), lw.keep (by omega) (fun c p z => f c p (by omega)) (fun p _ => rfl), ls.keep (fun c p z => f c p (by omega)) (fun i _ _ => f 48 i (by first | decide | exact fun z => absurd z.1 (by decide) | exact ⟨fun z => absurd z.1 (by decide), fun z => absurd z.1 (by decide)⟩ | omega)) (Int.le_refl _)⟩
/-- told.clear and state.clear of the reader -/
theorem zn_clear {X : Mm} {S : Sh} {m0 : Mm} {K : Mm → Prop} (hS : Shp S) (hm0 : Inv X S m0) (hk : ∀ M1 : Mm, Inv X S M1 → (∀ c p : Int, ¬ c = 32 → ¬ c = 33 → M1 c p = m0 c p) → (∀ i : Int, 0 ≤ i → i ≤ 7 → M1 32 i = 0) → (∀ p : Int, 0 ≤ p → p < 36 → M1 33 p = 0) → K M1) : wp_X8_clear S m0 32 K := by
  refine u_X8_clear ?_
  refine g_C ?_
  refine g_put 0 rfl hS.k32 (hm0.w_32_0 (by omega) (by omega)) (fun m1 em1 hm1 => ?_)
  refine g_C ?_
  refine g_put 1 rfl hS.k32 (hm1.w_32_1 (by omega) (by omega)) (fun m2 em2 hm2 => ?_)
  refine g_C ?_
  refine g_put 2 rfl hS.k32 (hm2.w_32_2 (by omega) (by omega)) (fun m3 em3 hm3 => ?_)
  refine g_C ?_
  refine g_put 3 rfl hS.k32 (hm3.w_32_3 (by omega) (by omega)) (fun m4 em4 hm4 => ?_)
  refine g_C ?_
  refine g_put 4 rfl hS.k32 (hm4.w_32_4 (by omega) (by omega)) (fun m5 em5 hm5 => ?_)
  refine g_C ?_
  refine g_put 5 rfl hS.k32 (hm5.w_32_5 (by omega) (by omega)) (fun m6 em6 hm6 => ?_)
  refine g_C ?_
  refine g_put 6 rfl hS.k32 (hm6.w_32_6 (by omega) (by omega)) (fun m7 em7 hm7 => ?_)
  refine g_C ?_
  refine g_put 7 rfl hS.k32 (hm7.w_32_7 (by omega) (by omega)) (fun m8 em8 hm8 => ?_)
  refine g_getr 8 33 rfl hS.k32 hm8.f_32_8 (by decide) ?_
  refine g_C ?_
  refine s_fillx hm8 hS.k33 hS.l33 (by decide) (fun M i h0 h1 h2 => h0.wa_33 h1 h2 (by omega) (by omega)) (fun m9 hm9 f9 z9 => ?_)
  refine hk m9 hm9 (fun c p a1 a2 => ?_) (fun i i0 i1 => ?_) z9
  · rw [f9 c p a2, em8, up_ne (fun z => a1 z.1), em7, up_ne (fun z => a1 z.1), em6, up_ne (fun z => a1 z.1), em5, up_ne (fun z => a1 z.1), em4, up_ne (fun z => a1 z.1), em3, up_ne (fun z => a1 z.1), em2, up_ne (fun z => a1 z.1), em1, up_ne (fun z => a1 z.1)]
  · rw [f9 32 i (by first | decide | exact fun z => absurd z.1 (by decide) | exact ⟨fun z => absurd z.1 (by decide), fun z => absurd z.1 (by decide)⟩ | omega), em8]
    by_cases e7 : i = 7
    · rw [e7]; exact up_at _ _ _ _
    rw [up_ne (by omega), em7]
    by_cases e6 : i = 6
    · rw [e6]; exact up_at _ _ _ _
    rw [up_ne (by omega), em6]
    by_cases e5 : i = 5
    · rw [e5]; exact up_at _ _ _ _
    rw [up_ne (by omega), em5]
    by_cases e4 : i = 4
    · rw [e4]; exact up_at _ _ _ _
    rw [up_ne (by omega), em4]
    by_cases e3 : i = 3
    · rw [e3]; exact up_at _ _ _ _
    rw [up_ne (by omega), em3]
    by_cases e2 : i = 2
    · rw [e2]; exact up_at _ _ _ _
    rw [up_ne (by omega), em2]
    by_cases e1 : i = 1
    · rw [e1]; exact up_at _ _ _ _
    rw [up_ne (by omega), em1]
    rw [show i = 0 by omega]
    exact up_at _ _ _ _
theorem zn_clear5 {X : Mm} {S : Sh} {m0 : Mm} {K : Mm → Prop} (hS : Shp S) (hm0 : Inv X S m0) (hk : ∀ M1 : Mm, Inv X S M1 → (∀ c p : Int, ¬ (44 ≤ c ∧ c ≤ 51) → M1 c p = m0 c p) → ((M1 44 0 = 0 ∧ M1 44 1 = 0) ∧ (∀ i : Int, 0 ≤ i → i < 5 → M1 46 i = 0 ∧ M1 47 i = 0) ∧ (∀ i : Int, 0 ≤ i → i < 4 → M1 49 i = -1) ∧ (∀ i : Int, 0 ≤ i → i < 6 → M1 51 i = -1) ∧ (∀ i : Int, 0 ≤ i → i < 4 → M1 48 i = -1)) → K M1) : wp_X5_clear S m0 44 K := by
  refine u_X5_clear ?_
  refine g_C ?_
  refine g_put 0 rfl hS.k44 (hm0.w_44_0 (by omega) (by omega)) (fun m1 em1 hm1 => ?_)
  refine g_C ?_
  refine g_put 1 rfl hS.k44 (hm1.w_44_1 (by omega) (by omega)) (fun m2 em2 hm2 => ?_)
  refine g_getr 2 45 rfl hS.k44 hm2.f_44_2 (by decide) ?_
  refine g_C ?_
  refine s_fillx hm2 hS.k45 hS.l45 (by decide) (fun M i h0 h1 h2 => h0.wa_45 h1 h2 (by omega) (by omega)) (fun m3 hm3 f3 y3 => ?_)
  refine g_getr 3 46 rfl hS.k44 hm3.f_44_3 (by decide) ?_
  refine g_C ?_
  refine s_fillx hm3 hS.k46 hS.l46 (by decide) (fun M i h0 h1 h2 => h0.wa_46 h1 h2 (by omega) (by omega)) (fun m4 hm4 f4 y4 => ?_)
  refine g_getr 4 47 rfl hS.k44 hm4.f_44_4 (by decide) ?_
  refine g_C ?_
  refine s_fillx hm4 hS.k47 hS.l47 (by decide) (fun M i h0 h1 h2 => h0.wa_47 h1 h2 (by omega) (by omega)) (fun m5 hm5 f5 y5 => ?_)
  refine g_getr 5 48 rfl hS.k44 hm5.f_44_5 (by decide) ?_
  refine g_C ?_
  refine s_fillx hm5 hS.k48 hS.l48 (by decide) (fun M i h0 h1 h2 => h0.wa_48 h1 h2 (by omega) (by omega)) (fun m6 hm6 f6 y6 => ?_)
  refine g_getr 6 49 rfl hS.k44 hm6.f_44_6 (by decide) ?_
  refine g_C ?_
  refine s_fillx hm6 hS.k49 hS.l49 (by decide) (fun M i h0 h1 h2 => h0.wa_49 h1 h2 (by omega) (by omega)) (fun m7 hm7 f7 y7 => ?_)
  refine g_getr 7 50 rfl hS.k44 hm7.f_44_7 (by decide) ?_
  refine g_C ?_
  refine s_fillx hm7 hS.k50 hS.l50 (by decide) (fun M i h0 h1 h2 => h0.wa_50 h1 h2 (by omega) (by omega)) (fun m8 hm8 f8 y8 => ?_)
  refine g_getr 8 51 rfl hS.k44 hm8.f_44_8 (by decide) ?_
  refine g_C ?_
  refine s_fillx hm8 hS.k51 hS.l51 (by decide) (fun M i h0 h1 h2 => h0.wa_51 h1 h2 (by omega) (by omega)) (fun m9 hm9 f9 y9 => ?_)
  refine hk m9 hm9 (fun c p q => ?_) ⟨⟨?_, ?_⟩, fun i i0 i1 => ⟨?_, ?_⟩, fun i i0 i1 => ?_, fun i i0 i1 => y9 i i0 i1, fun i i0 i1 => ?_⟩
  · rw [f9 c p (by first | exact fun y => absurd (y.1 ▸ z) (by decide) | exact fun y => absurd (y.1 ▸ q) (by decide) | exact z | exact q | exact z.1 | exact q.1 | exact z.2 | exact q.2 | omega), f8 c p (by first | exact fun y => absurd (y.1 ▸ z) (by decide) | exact fun y => absurd (y.1 ▸ q) (by decide) | exact z | exact q | exact z.1 | exact q.1 | exact z.2 | exact q.2 | omega), f7 c p (by first | exact fun y => absurd (y.1 ▸ z) (by decide) | exact fun y => absurd (y.1 ▸ q) (by decide) | exact z | exact q | exact z.1 | exact q.1 | exact z.2 | exact q.2 | omega), f6 c p (by first | exact fun y => absurd (y.1 ▸ z) (by decide) | exact fun y => absurd (y.1 ▸ q) (by decide) | exact z | exact q | exact z.1 | exact q.1 | exact z.2 | exact q.2 | omega), f5 c p (by first | exact fun y => absurd (y.1 ▸ z) (by decide) | exact fun y => absurd (y.1 ▸ q) (by decide) | exact z | exact q | exact z.1 | exact q.1 | exact z.2 | exact q.2 | omega), f4 c p (by first | exact fun y => absurd (y.1 ▸ z) (by decide) | exact fun y => absurd (y.1 ▸ q) (by decide) | exact z | exact q | exact z.1 | exact q.1 | exact z.2 | exact q.2 | omega), f3 c p (by first | exact fun y => absurd (y.1 ▸ z) (by decide) | exact fun y => absurd (y.1 ▸ q) (by decide) | exact z | exact q | exact z.1 | exact q.1 | exact z.2 | exact q.2 | omega), em2, up_ne (by omega), em1, up_ne (by omega)]
  · rw [f9 44 0 (by first | decide | exact fun z => absurd z.1 (by decide) | exact ⟨fun z => absurd z.1 (by decide), fun z => absurd z.1 (by decide)⟩ | omega), f8 44 0 (by first | decide | exact fun z => absurd z.1 (by decide) | exact ⟨fun z => absurd z.1 (by decide), fun z => absurd z.1 (by decide)⟩ | omega), f7 44 0 (by first | decide | exact fun z => absurd z.1 (by decide) | exact ⟨fun z => absurd z.1 (by decide), fun z => absurd z.1 (by decide)⟩ | omega), f6 44 0 (by first | decide | exact fun z => absurd z.1 (by decide) | exact ⟨fun z => absurd z.1 (by decide), fun z => absurd z.1 (by decide)⟩ | omega), f5 44 0 (by first | decide | exact fun z => absurd z.1 (by decide) | exact ⟨fun z => absurd z.1 (by decide), fun z => absurd z.1 (by decide)⟩ | omega), f4 44 0 (by first | decide | exact fun z => absurd z.1 (by decide) | exact ⟨fun z => absurd z.1 (by decide), fun z => absurd z.1 (by decide)⟩ | omega), f3 44 0 (by first | decide | exact fun z => absurd z.1 (by decide) | exact ⟨fun z => absurd z.1 (by decide), fun z => absurd z.1 (by decide)⟩ | omega), em2, up_ne (by omega), em1]
    exact up_at _ _ _ _
  · rw [f9 44 1 (by first | decide | exact fun z => absurd z.1 (by decide) | exact ⟨fun z => absurd z.1 (by decide), fun z => absurd z.1 (by decide)⟩ | omega), f8 44 1 (by first | decide | exact fun z => absurd z.1 (by decide) | exact ⟨fun z => absurd z.1 (by decide), fun z => absurd z.1 (by decide)⟩ | omega), f7 44 1 (by first | decide | exact fun z => absurd z.1 (by decide) | exact ⟨fun z => absurd z.1 (by decide), fun z => absurd z.1 (by decide)⟩ | omega), f6 44 1 (by first | decide | exact fun z => absurd z.1 (by decide) | exact ⟨fun z => absurd z.1 (by decide), fun z => absurd z.1 (by decide)⟩ | omega), f5 44 1 (by first | decide | exact fun z => absurd z.1 (by decide) | exact ⟨fun z => absurd z.1 (by decide), fun z => absurd z.1 (by decide)⟩ | omega), f4 44 1 (by first | decide | exact fun z => absurd z.1 (by decide) | exact ⟨fun z => absurd z.1 (by decide), fun z => absurd z.1 (by decide)⟩ | omega), f3 44 1 (by first | decide | exact fun z => absurd z.1 (by decide) | exact ⟨fun z => absurd z.1 (by decide), fun z => absurd z.1 (by decide)⟩ | omega), em2]
    exact up_at _ _ _ _
  · rw [f9 46 i (by first | decide | exact fun z => absurd z.1 (by decide) | exact ⟨fun z => absurd z.1 (by decide), fun z => absurd z.1 (by decide)⟩ | omega), f8 46 i (by first | decide | exact fun z => absurd z.1 (by decide) | exact ⟨fun z => absurd z.1 (by decide), fun z => absurd z.1 (by decide)⟩ | omega), f7 46 i (by first | decide | exact fun z => absurd z.1 (by decide) | exact ⟨fun z => absurd z.1 (by decide), fun z => absurd z.1 (by decide)⟩ | omega), f6 46 i (by first | decide | exact fun z => absurd z.1 (by decide) | exact ⟨fun z => absurd z.1 (by decide), fun z => absurd z.1 (by decide)⟩ | omega), f5 46 i (by first | decide | exact fun z => absurd z.1 (by decide) | exact ⟨fun z => absurd z.1 (by decide), fun z => absurd z.1 (by decide)⟩ | omega)]
    exact y4 i i0 i1
  · rw [f9 47 i (by first | decide | exact fun z => absurd z.1 (by decide) | exact ⟨fun z => absurd z.1 (by decide), fun z => absurd z.1 (by decide)⟩ | omega), f8 47 i (by first | decide | exact fun z => absurd z.1 (by decide) | exact ⟨fun z => absurd z.1 (by decide), fun z => absurd z.1 (by decide)⟩ | omega), f7 47 i (by first | decide | exact fun z => absurd z.1 (by decide) | exact ⟨fun z => absurd z.1 (by decide), fun z => absurd z.1 (by decide)⟩ | omega), f6 47 i (by first | decide | exact fun z => absurd z.1 (by decide) | exact ⟨fun z => absurd z.1 (by decide), fun z => absurd z.1 (by decide)⟩ | omega)]
    exact y5 i i0 i1
  · rw [f9 49 i (by first | decide | exact fun z => absurd z.1 (by decide) | exact ⟨fun z => absurd z.1 (by decide), fun z => absurd z.1 (by decide)⟩ | omega), f8 49 i (by first | decide | exact fun z => absurd z.1 (by decide) | exact ⟨fun z => absurd z.1 (by decide), fun z => absurd z.1 (by decide)⟩ | omega)]
    exact y7 i i0 i1
  · rw [f9 48 i (by first | decide | exact fun z => absurd z.1 (by decide) | exact ⟨fun z => absurd z.1 (by decide), fun z => absurd z.1 (by decide)⟩ | omega), f8 48 i (by first | decide | exact fun z => absurd z.1 (by decide) | exact ⟨fun z => absurd z.1 (by decide), fun z => absurd z.1 (by decide)⟩ | omega), f7 48 i (by first | decide | exact fun z => absurd z.1 (by decide) | exact ⟨fun z => absurd z.1 (by decide), fun z => absurd z.1 (by decide)⟩ | omega)]
    exact y6 i i0 i1
theorem zn_takeKind {X : Mm} {S : Sh} {m0 : Mm} {K : Int → Mm → Prop} {b : Int → Int} {n : Int} (hS : Shp S) (hm0 : Inv X S m0) (ht : TC X b n) (hp : m0 1 2 ≤ n) (h1 : ∀ (i : Nat) (q : Int) (M1 : Mm), i < 6 → Inv X S M1 → (∀ c p : Int, ¬ (c = 1 ∧ 2 ≤ p ∧ p ≤ 3) → M1 c p = m0 c p) → Sk b n (m0 1 2) q → (∀ j : Nat, j < i → ¬ Wk b n j q) → Wk b n i q → M1 1 2 = q + tl i → M1 1 3 = q → M1 1 2 ≤ n → K (i : Int) M1) (h0 : ∀ (q : Int) (M1 : Mm), Inv X S M1 → (∀ c p : Int, ¬ (c = 1 ∧ 2 ≤ p ∧ p ≤ 3) → M1 c p = m0 c p) → Sk b n (m0 1 2) q → (∀ j : Nat, j < 6 → ¬ Wk b n j q) → M1 1 2 = q → M1 1 3 = q → K (-1) M1) : wp_X0_takeKind S m0 31 K := by
  refine u_X0_takeKind ?_
  refine g_C ?_
  have L : ∀ (N : Nat) (i : Nat) (m : Mm), i ≤ 6 → Inv X S m → (∀ c p : Int, ¬ (c = 1 ∧ 2 ≤ p ∧ p ≤ 3) → m c p = m0 c p) → m 1 2 ≤ n → ((i = 0 ∧ m 1 2 = m0 1 2) ∨ ∃ q : Int, Sk b n (m0 1 2) q ∧ m 1 2 = q ∧ m 1 3 = q ∧ ∀ j : Nat, j < i → ¬ Wk b n j q) → 7 - (i : Int) ≤ (N : Int) → (i = 6 → ∃ q : Int, Sk b n (m0 1 2) q ∧ m 1 2 = q ∧ m 1 3 = q ∧ ∀ j : Nat, j < i → ¬ Wk b n j q) → wp_X0_takeKind_2 S K N 31 (i : Int) m := by
    intro N
    induction N with
    | zero => intro i m hi _ _ _ _ h _; exfalso; omega
    | succ N ih =>
      intro i m hi hm F hpm hq h h6
      refine u_X0_takeKind_2 ?_
      refine g_C ?_
      refine g_if (fun w => ?_) (fun w => ?_)
      · have e6 : i = 6 := by omega
        obtain ⟨q, sk, x2, x3, hn⟩ := h6 e6
        rw [e6] at hn
        exact g_C (h0 q m hm F sk hn x2 x3)
      · have i5 : i < 6 := by omega
        refine g_getr 0 1 rfl hS.k31 hm.f_31_0 (by decide) ?_
        have go : ∀ v : Int, v = -3 - (i : Int) → isK S 1 7 ∧ (wp_X7_takesWord S m 1 v <| fun v11 M10 => wIf (v11 = 0) (wA (i : Int) 1 fun v13 => wp_X0_takeKind_2 S K N 31 v13 M10) (K (i : Int) M10)) := by
          intro v hv
          refine ⟨hS.k1, ?_⟩
          refine ze_takesWord i hS hm ht hpm (by omega) hv (fun q' m1 hm1 f1 sk1 x2 x3 qn wk => ?_) (fun q' m1 hm1 f1 sk1 x2 x3 qn nw => ?_)
          · have z : Sk b n (m0 1 2) q' ∧ ∀ j : Nat, j < i → ¬ Wk b n j q' := by
              rcases hq with ⟨a1, a2⟩ | ⟨q, sk, y2, y3, hn⟩
              · rw [a2] at sk1
                exact ⟨sk1, fun j hj => absurd hj (by omega)⟩
              · rw [y2] at sk1
                have e := sk.idem.uniq sk1
                rw [← e]
                exact ⟨sk, hn⟩
            refine g_ifF (by decide) ?_
            exact h1 i q' m1 i5 hm1 (fun c p y => (f1 c p y).trans (F c p y)) z.1 z.2 wk x2 x3 (by omega)
          · have z : Sk b n (m0 1 2) q' ∧ ∀ j : Nat, j < i + 1 → ¬ Wk b n j q' := by
              rcases hq with ⟨a1, a2⟩ | ⟨q, sk, y2, y3, hn⟩
              · rw [a2] at sk1
                refine ⟨sk1, fun j hj => ?_⟩
                rw [show j = i by omega]
                exact nw
              · rw [y2] at sk1
                have e := sk.idem.uniq sk1
                rw [← e] at nw ⊢
                refine ⟨sk, fun j hj => ?_⟩
                by_cases ej : j = i
                · rw [ej]; exact nw
                · exact hn j (by omega)
            refine g_ifT rfl ?_
            refine g_A (by omega) (by omega) ?_
            rw [show (i : Int) + 1 = ((i + 1 : Nat) : Int) by omega]
            exact ih (i + 1) m1 (by omega) hm1 (fun c p y => (f1 c p y).trans (F c p y)) (by omega) (Or.inr ⟨q', z.1, x2, x3, z.2⟩) (by omega) (fun _ => ⟨q', z.1, x2, x3, z.2⟩)
        refine u_X0_nameOf ?_
        refine g_if (fun a => g_C (go _ (by omega))) (fun a0 => ?_)
        refine g_if (fun a => g_C (go _ (by omega))) (fun a1 => ?_)
        refine g_if (fun a => g_C (go _ (by omega))) (fun a2 => ?_)
        refine g_if (fun a => g_C (go _ (by omega))) (fun a3 => ?_)
        exact g_if (fun a => g_C (go _ (by omega))) (fun a4 => g_C (go _ (by omega)))
  exact ⟨7, L 7 0 m0 (by decide) hm0 (fun _ _ _ => rfl) hp (Or.inl ⟨rfl, rfl⟩) (by decide) (fun z => absurd z (by decide))⟩
theorem zn_readClause {X : Mm} {S : Sh} {m0 : Mm} {K : Int → Mm → Prop} {b : Int → Int} {n k : Int} {T : Int → Dd → Prop} {D : Dd} (hS : Shp S) (hm0 : Inv X S m0) (ht : TC X b n) (h14 : m0 1 4 = 0) (hp : m0 1 2 ≤ n) (lc : LC D m0) (k0 : 0 ≤ k) (k1 : k ≤ 40) (d0 : (k = 0 ∧ D 0 = 0 ∧ D 3 = 0 ∧ D 4 = 0 ∧ D 5 = 0 ∧ D 9 = 0 ∧ D 6 = 0) ∨ (¬ k = 0 ∧ 2 ≤ D 0)) (l : Ld b n T 0 0 0 (m0 1 2) k D) (hf : ∀ M1 : Mm, Inv X S M1 → (∀ c p : Int, 336 ≤ c → M1 c p = m0 c p) → ¬ M1 1 4 = 0 → T (M1 1 4) dz → K 0 M1) (hk : ∀ (M1 : Mm) (D' : Dd), Inv X S M1 → (∀ c p : Int, 336 ≤ c → M1 c p = m0 c p) → k < 40 → LC D' M1 → 2 ≤ D' 0 → M1 1 4 = 0 → M1 1 2 ≤ n → Ld b n T 2 0 0 (M1 1 2) (k + 1) D' → K 1 M1) : wp_X0_readClause S m0 31 k K := by
  have lc0 := lc
  obtain ⟨⟨q0, q1, q2, q3, q4, q5, q6, q7⟩, -⟩ := lc0
  have b3 := hm0.f_32_3
  have b4 := hm0.f_32_4
  have b5 := hm0.f_32_5
  have b6 := hm0.f_32_6
  have b7 := hm0.f_32_7
  refine u_X0_readClause ?_
  refine ⟨hS.k31, ?_⟩
  refine zn_takeKind hS hm0 ht hp (fun i q m1 hi hm1 f1 sk hn wk x2 x3 le => ?_) (fun q m1 hm1 f1 sk hn x2 x3 => ?_)
  rotate_left
  · refine g_C ?_
    refine g_ifF (by first | decide | omega) ?_
    refine g_getr 0 1 rfl hS.k31 hm1.f_31_0 (by decide) ?_
    refine g_C ?_
    refine ⟨hS.k1, ?_⟩
    have e14 : m1 1 4 = 0 := (f1 1 4 (by first | decide | exact fun z => absurd z.1 (by decide) | exact ⟨fun z => absurd z.1 (by decide), fun z => absurd z.1 (by decide)⟩ | omega)).trans h14
    have b12 := hm0.f_1_2
    have sk1 := sk.1
    refine ze_refuse hS hm1 (by decide) (by decide) (fun m9 hm9 f9 y9 => ?_)
    have e9 : m9 1 4 = 1 + 8 * q := by omega
    refine ⟨by decide, hf m9 hm9 (fun c p z => by rw [f9 c p (by first | exact fun y => absurd (y.1 ▸ z) (by decide) | exact fun y => absurd (y.1 ▸ q) (by decide) | exact z | exact q | exact z.1 | exact q.1 | exact z.2 | exact q.2 | omega), f1 c p (by first | exact fun y => absurd (y.1 ▸ z) (by decide) | exact fun y => absurd (y.1 ▸ q) (by decide) | exact z | exact q | exact z.1 | exact q.1 | exact z.2 | exact q.2 | omega)]) (by omega) ?_⟩
    rw [e9]
    exact l.none sk hn
  have e14 : m1 1 4 = 0 := (f1 1 4 (by first | decide | exact fun z => absurd z.1 (by decide) | exact ⟨fun z => absurd z.1 (by decide), fun z => absurd z.1 (by decide)⟩ | omega)).trans h14
  have b12 := hm0.f_1_2
  have sk1 := sk.1
  have g3 : ∀ j : Int, m1 32 j = m0 32 j := fun j => f1 32 j (by first | decide | exact fun z => absurd z.1 (by decide) | exact ⟨fun z => absurd z.1 (by decide), fun z => absurd z.1 (by decide)⟩ | omega)
  have bad : (k = 40 ∨ (i = 0 ∧ ¬ D 0 = 0) ∨ (¬ i = 0 ∧ D 0 = 0) ∨ dFull D i) → wp_X0_readClause_64 S K 31 m1 := by
    intro hb
    refine u_X0_readClause_64 ?_
    refine g_getr 0 1 rfl hS.k31 hm1.f_31_0 (by decide) ?_
    refine g_C ?_
    refine ⟨hS.k1, ?_⟩
    refine ze_refuse hS hm1 (by decide) (by decide) (fun m9 hm9 f9 y9 => ?_)
    have e9 : m9 1 4 = 5 + 8 * q := by omega
    refine ⟨by decide, hf m9 hm9 (fun c p z => by rw [f9 c p (by first | exact fun y => absurd (y.1 ▸ z) (by decide) | exact fun y => absurd (y.1 ▸ q) (by decide) | exact z | exact q | exact z.1 | exact q.1 | exact z.2 | exact q.2 | omega), f1 c p (by first | exact fun y => absurd (y.1 ▸ z) (by decide) | exact fun y => absurd (y.1 ▸ q) (by decide) | exact z | exact q | exact z.1 | exact q.1 | exact z.2 | exact q.2 | omega)]) (by omega) ?_⟩
    rw [e9]
    exact l.full sk i hi hn wk hb
  have lc1 : LC D m1 := by
    obtain ⟨-, lr, lh, lj, lt, lw, ls⟩ := lc
    exact ⟨⟨by rw [g3]; exact q0, by rw [g3]; exact q1, by rw [g3]; exact q2, by rw [g3]; exact q3, by rw [g3]; exact q4, by rw [g3]; exact q5, by rw [g3]; exact q6, by rw [g3]; exact q7⟩, lr.keep (by omega) (fun p => f1 33 p (by first | decide | exact fun z => absurd z.1 (by decide) | exact ⟨fun z => absurd z.1 (by decide), fun z => absurd z.1 (by decide)⟩ | omega)) (fun p _ => rfl), lh.keep (by omega) (fun c p z => f1 c p (by first | exact fun y => absurd (y.1 ▸ z) (by decide) | exact fun y => absurd (y.1 ▸ q) (by decide) | exact z | exact q | exact z.1 | exact q.1 | exact z.2 | exact q.2 | omega)) (fun p _ => rfl), lj.keep (by omega) (fun c p z => f1 c p (by first | exact fun y => absurd (y.1 ▸ z) (by decide) | exact fun y => absurd (y.1 ▸ q) (by decide) | exact z | exact q | exact z.1 | exact q.1 | exact z.2 | exact q.2 | omega)) (fun p _ => rfl), lt.keep (by omega) (fun c p z => f1 c p (by first | exact fun y => absurd (y.1 ▸ z) (by decide) | exact fun y => absurd (y.1 ▸ q) (by decide) | exact z | exact q | exact z.1 | exact q.1 | exact z.2 | exact q.2 | omega)) (fun p _ => rfl), lw.keep (by omega) (fun c p z => f1 c p (by first | exact fun y => absurd (y.1 ▸ z) (by decide) | exact fun y => absurd (y.1 ▸ q) (by decide) | exact z | exact q | exact z.1 | exact q.1 | exact z.2 | exact q.2 | omega)) (fun p _ => rfl), ls.keep (fun c p z => f1 c p (by first | exact fun y => absurd (y.1 ▸ z) (by decide) | exact fun y => absurd (y.1 ▸ q) (by decide) | exact z | exact q | exact z.1 | exact q.1 | exact z.2 | exact q.2 | omega)) (fun i _ _ => f1 48 i (by first | decide | exact fun z => absurd z.1 (by decide) | exact ⟨fun z => absurd z.1 (by decide), fun z => absurd z.1 (by decide)⟩ | omega)) (Int.le_refl _)⟩
  have main : ((i = 0 ∧ k = 0) ∨ (¬ i = 0 ∧ ¬ k = 0)) → wp_X0_readClause_45 S K 31 k (i : Int) 1 m1 := by
    intro ord
    refine u_X0_readClause_45 ?_
    refine g_C ?_
    refine g_if (fun w => bad (Or.inl (by omega))) (fun w => ?_)
    refine g_ifF (by decide) ?_
    refine ⟨hS.k31, ?_⟩
    have k39 : k < 40 := by omega
    have FF : ∀ M1 : Mm, (∀ c p : Int, 336 ≤ c → M1 c p = m1 c p) → ∀ c p : Int, 336 ≤ c → M1 c p = m0 c p := fun M1 g c p z => (g c p z).trans (f1 c p (by first | exact fun y => absurd (y.1 ▸ z) (by decide) | exact fun y => absurd (y.1 ▸ q) (by decide) | exact z | exact q | exact z.1 | exact q.1 | exact z.2 | exact q.2 | omega))
    have lg : ¬ dFull D i → Ld b n T 1 i 0 (m1 1 2) (k + 1) D := fun nf => by
      rw [x2]
      refine l.go sk i hi hn wk (fun z => ?_)
      rcases z with z | z | z | z
      · omega
      · rcases ord with o | o
        · rcases d0 with d | d
          · exact z.2 d.2.1
          · exact d.1 o.2
        · exact o.1 z.1
      · rcases ord with o | o
        · exact z.1 o.1
        · rcases d0 with d | d
          · exact o.2 d.1
          · have := d.2; omega
      · exact nf z
    have hf' : ∀ M1 : Mm, Inv X S M1 → (∀ c p : Int, 336 ≤ c → M1 c p = m1 c p) → ¬ M1 1 4 = 0 → T (M1 1 4) dz → (((0 : Int) = 0 ∨ (0 : Int) = 1) ∧ K 0 M1) := fun M1 a1 a2 a3 a4 => ⟨by decide, hf M1 a1 (FF M1 a2) a3 a4⟩
    have hk' : ∀ (M1 : Mm) (D' : Dd), Inv X S M1 → (∀ c p : Int, 336 ≤ c → M1 c p = m1 c p) → LC D' M1 → 2 ≤ D' 0 → M1 1 4 = 0 → M1 1 2 ≤ n → Ld b n T 2 0 0 (M1 1 2) (k + 1) D' → (((1 : Int) = 0 ∨ (1 : Int) = 1) ∧ K 1 M1) := fun M1 D' a1 a2 a3 a4 a5 a6 a7 => ⟨by decide, hk M1 D' a1 (FF M1 a2) k39 a3 a4 a5 a6 a7⟩
    rcases (show i = 0 ∨ i = 1 ∨ i = 2 ∨ i = 3 ∨ i = 4 ∨ i = 5 by omega) with e | e | e | e | e | e <;> subst e
    · have ek : k = 0 := by
        rcases ord with o | o
        · exact o.2
        · exact absurd rfl o.1
      have dd : D 0 = 0 ∧ D 3 = 0 ∧ D 4 = 0 ∧ D 5 = 0 ∧ D 9 = 0 ∧ D 6 = 0 := by
        rcases d0 with d | d
        · exact d.2
        · exact absurd ek d.1
      refine u_X0_hasRoomFor ?_
      refine g_ifT rfl ?_
      refine g_C ?_
      refine ⟨by decide, ?_⟩
      refine g_ifT (by decide) ?_
      refine g_ifT rfl ?_
      refine ⟨hS.k31, ?_⟩
      exact zn_readDairy hS hm1 ht e14 le lc1 (lg (fun z => z)) dd.2.1 dd.2.2.1 dd.2.2.2.1 dd.2.2.2.2.1 dd.2.2.2.2.2 hf' hk'
    · have kk : ¬ k = 0 := by
        rcases ord with o | o
        · exact absurd o.1 (by decide)
        · exact o.2
      have dd : 2 ≤ D 0 := by
        rcases d0 with d | d
        · exact absurd d.1 kk
        · exact d.2
      refine u_X0_hasRoomFor ?_
      refine g_ifF (by decide) ?_
      refine g_ifT rfl ?_
      refine g_getr 1 32 rfl hS.k31 hm1.f_31_1 (by decide) ?_
      refine g_getu 3 rfl hS.k32 (fun v ev => ?_)
      rw [g3, q3] at ev
      refine g_C ?_
      refine g_if (fun w2 => g_C ⟨by decide, g_ifF (by decide) (bad (Or.inr (Or.inr (Or.inr (show D 3 = 8 by omega)))))⟩) (fun w2 => g_C ⟨by decide, g_ifT (by decide) ?_⟩)
      refine g_ifF (by decide) ?_
      refine g_ifT rfl ?_
      refine ⟨hS.k31, ?_⟩
      exact zn_readRoad hS hm1 ht e14 le lc1 (lg (fun z => by have z2 : D 3 = 8 := z; omega)) dd (by omega) hf' hk'
    · have kk : ¬ k = 0 := by
        rcases ord with o | o
        · exact absurd o.1 (by decide)
        · exact o.2
      have dd : 2 ≤ D 0 := by
        rcases d0 with d | d
        · exact absurd d.1 kk
        · exact d.2
      refine u_X0_hasRoomFor ?_
      refine g_ifF (by decide) ?_
      refine g_ifF (by decide) ?_
      refine g_ifT rfl ?_
      refine g_getr 1 32 rfl hS.k31 hm1.f_31_1 (by decide) ?_
      refine g_getu 4 rfl hS.k32 (fun v ev => ?_)
      rw [g3, q4] at ev
      refine g_C ?_
      refine g_if (fun w2 => g_C ⟨by decide, g_ifF (by decide) (bad (Or.inr (Or.inr (Or.inr (show D 4 = 5 by omega)))))⟩) (fun w2 => g_C ⟨by decide, g_ifT (by decide) ?_⟩)
      refine g_ifF (by decide) ?_
      refine g_ifF (by decide) ?_
      refine g_ifT rfl ?_
      refine ⟨hS.k31, ?_⟩
      exact zn_readHand hS hm1 ht e14 le lc1 (lg (fun z => by have z2 : D 4 = 5 := z; omega)) dd (by omega) hf' hk'
    · have kk : ¬ k = 0 := by
        rcases ord with o | o
        · exact absurd o.1 (by decide)
        · exact o.2
      have dd : 2 ≤ D 0 := by
        rcases d0 with d | d
        · exact absurd d.1 kk
        · exact d.2
      refine u_X0_hasRoomFor ?_
      refine g_ifF (by decide) ?_
      refine g_ifF (by decide) ?_
      refine g_ifF (by decide) ?_
      refine g_ifT rfl ?_
      refine g_getr 1 32 rfl hS.k31 hm1.f_31_1 (by decide) ?_
      refine g_getu 5 rfl hS.k32 (fun v ev => ?_)
      rw [g3, q5] at ev
      refine g_C ?_
      refine g_if (fun w2 => g_C ⟨by decide, g_ifF (by decide) (bad (Or.inr (Or.inr (Or.inr (show D 5 = 4 by omega)))))⟩) (fun w2 => g_C ⟨by decide, g_ifT (by decide) ?_⟩)
      refine g_ifF (by decide) ?_
      refine g_ifF (by decide) ?_
      refine g_ifF (by decide) ?_
      refine g_ifT rfl ?_
      refine ⟨hS.k31, ?_⟩
      exact zn_readJug hS hm1 ht e14 le lc1 (lg (fun z => by have z2 : D 5 = 4 := z; omega)) dd (by omega) hf' hk'
    · have kk : ¬ k = 0 := by
        rcases ord with o | o
        · exact absurd o.1 (by decide)
        · exact o.2
      have dd : 2 ≤ D 0 := by
        rcases d0 with d | d
        · exact absurd d.1 kk
        · exact d.2
      refine u_X0_hasRoomFor ?_
      refine g_ifF (by decide) ?_
      refine g_ifF (by decide) ?_
      refine g_ifF (by decide) ?_
      refine g_ifF (by decide) ?_
      refine g_ifT rfl ?_
      refine g_getr 1 32 rfl hS.k31 hm1.f_31_1 (by decide) ?_
      refine g_getu 6 rfl hS.k32 (fun v ev => ?_)
      rw [g3, q6] at ev
      refine g_C ?_
      refine g_if (fun w2 => g_C ⟨by decide, g_ifF (by decide) (bad (Or.inr (Or.inr (Or.inr (show D 9 = 4 by omega)))))⟩) (fun w2 => g_C ⟨by decide, g_ifT (by decide) ?_⟩)
      refine g_ifF (by decide) ?_
      refine g_ifF (by decide) ?_
      refine g_ifF (by decide) ?_
      refine g_ifF (by decide) ?_
      refine g_ifT rfl ?_
      refine ⟨hS.k31, ?_⟩
      exact zn_readHeat hS hm1 ht e14 le lc1 (lg (fun z => by have z2 : D 9 = 4 := z; omega)) dd (by omega) hf' hk'
    · have kk : ¬ k = 0 := by
        rcases ord with o | o
        · exact absurd o.1 (by decide)
        · exact o.2
      have dd : 2 ≤ D 0 := by
        rcases d0 with d | d
        · exact absurd d.1 kk
        · exact d.2
      refine u_X0_hasRoomFor ?_
      refine g_ifF (by decide) ?_
      refine g_ifF (by decide) ?_
      refine g_ifF (by decide) ?_
      refine g_ifF (by decide) ?_
      refine g_ifF (by decide) ?_
      refine g_getr 1 32 rfl hS.k31 hm1.f_31_1 (by decide) ?_
      refine g_getu 7 rfl hS.k32 (fun v ev => ?_)
      rw [g3, q7] at ev
      refine g_C ?_
      refine g_if (fun w2 => g_C ⟨by decide, g_ifF (by decide) (bad (Or.inr (Or.inr (Or.inr (show D 6 = 6 by omega)))))⟩) (fun w2 => g_C ⟨by decide, g_ifT (by decide) ?_⟩)
      refine g_ifF (by decide) ?_
      refine g_ifF (by decide) ?_
      refine g_ifF (by decide) ?_
      refine g_ifF (by decide) ?_
      refine g_ifF (by decide) ?_
      refine ⟨hS.k31, ?_⟩
      exact zn_readWant hS hm1 ht e14 le lc1 (lg (fun z => by have z2 : D 6 = 6 := z; omega)) dd (by omega) hf' hk'
  refine g_C ?_
  refine g_ifT (by first | decide | omega) ?_
  refine g_if (fun w => ?_) (fun w => ?_)
  · refine g_C ?_
    refine u_X0_readClause_28 ?_
    refine g_if (fun w2 => ?_) (fun w2 => ?_)
    · refine g_C ?_
      refine u_X0_readClause_37 ?_
      refine g_ifF (by decide) ?_
      refine g_C ?_
      exact main (Or.inr ⟨by omega, w2⟩)
    · refine g_C ?_
      refine u_X0_readClause_37 ?_
      refine g_ifT (by decide) ?_
      refine g_C ?_
      refine u_X0_readClause_45 ?_
      refine g_C ?_
      refine g_if (fun w3 => bad (Or.inl (by omega))) (fun w3 => ?_)
      refine g_ifT rfl ?_
      refine bad (Or.inr (Or.inr (Or.inl ⟨by omega, ?_⟩)))
      rcases d0 with d | d
      · exact d.2.1
      · exact absurd (by omega) d.1
  · refine g_C ?_
    refine u_X0_readClause_28 ?_
    refine g_if (fun w2 => ?_) (fun w2 => ?_)
    · refine g_C ?_
      refine u_X0_readClause_37 ?_
      refine g_ifT (by decide) ?_
      refine g_C ?_
      refine u_X0_readClause_45 ?_
      refine g_C ?_
      refine g_if (fun w3 => bad (Or.inl (by omega))) (fun w3 => ?_)
      refine g_ifT rfl ?_
      refine bad (Or.inr (Or.inl ⟨by omega, ?_⟩))
      rcases d0 with d | d
      · exact absurd d.1 w2
      · have := d.2; omega
    · refine g_C ?_
      refine u_X0_readClause_37 ?_
      refine g_ifF (by decide) ?_
      refine g_C ?_
      exact main (Or.inl ⟨by omega, by omega⟩)
theorem zn_read {X : Mm} {S : Sh} {m0 : Mm} {K : Int → Mm → Prop} {b : Int → Int} {n : Int} {T : Int → Dd → Prop} {D : Dd} (hS : Shp S) (hm0 : Inv X S m0) (ht : TC X b n) (hD : ∀ p : Int, 0 ≤ p → p < 10 → D p = 0) (hT : ∀ (f : Int) (E : Dd), DA b n 0 0 0 0 0 D f E → T f E) (hf : ∀ M1 : Mm, Inv X S M1 → (∀ c p : Int, 336 ≤ c → M1 c p = m0 c p) → ¬ M1 1 4 = 0 → T (M1 1 4) dz → K 0 M1) (hk : ∀ (M1 : Mm) (E : Dd), Inv X S M1 → (∀ c p : Int, 336 ≤ c → M1 c p = m0 c p) → LC E M1 → Wok (M1 32 0) (M1 33) (M1 34) → T 0 E → K 1 M1) : wp_X0_read S m0 31 K := by
  have nb := ht.2.1
  refine u_X0_read ?_
  refine g_getr 1 32 rfl hS.k31 hm0.f_31_1 (by decide) ?_
  refine ⟨hS.k32, ?_⟩
  refine zn_clear hS hm0 (fun m1 hm1 f1 z1 y1 => ?_)
  refine g_getr 2 44 rfl hS.k31 hm1.f_31_2 (by decide) ?_
  refine ⟨hS.k44, ?_⟩
  refine zn_clear5 hS hm1 (fun m2 hm2 f2 k2 => ?_)
  refine g_getr 0 1 rfl hS.k31 hm2.f_31_0 (by decide) ?_
  refine ⟨hS.k1, ?_⟩
  refine u_X7_rewind ?_
  refine g_C ?_
  refine g_put 2 rfl hS.k1 (hm2.w_1_2 (by omega) (by omega)) (fun m3 em3 hm3 => ?_)
  refine g_C ?_
  refine g_put 3 rfl hS.k1 (hm3.w_1_3 (by omega) (by omega)) (fun m4 em4 hm4 => ?_)
  refine g_C ?_
  refine g_put 4 rfl hS.k1 (hm4.w_1_4 (by omega) (by omega)) (fun m5 em5 hm5 => ?_)
  refine g_C ?_
  have f5 : ∀ c p : Int, ¬ (c = 1 ∧ 2 ≤ p ∧ p ≤ 4) → m5 c p = m2 c p := fun c p q => by rw [em5, up_ne (by omega), em4, up_ne (by omega), em3, up_ne (by omega)]
  have x2 : m5 1 2 = 0 := by rw [em5, up_ne (by omega), em4, up_ne (by omega), em3]; exact up_at _ _ _ _
  have x4 : m5 1 4 = 0 := by rw [em5]; exact up_at _ _ _ _
  have g32 : ∀ i : Int, 0 ≤ i → i ≤ 7 → m5 32 i = 0 := fun i i0 i1 => by rw [f5 32 i (by first | decide | exact fun z => absurd z.1 (by decide) | exact ⟨fun z => absurd z.1 (by decide), fun z => absurd z.1 (by decide)⟩ | omega), f2 32 i (by first | decide | exact fun z => absurd z.1 (by decide) | exact ⟨fun z => absurd z.1 (by decide), fun z => absurd z.1 (by decide)⟩ | omega)]; exact z1 i i0 i1
  have g33 : ∀ p : Int, 0 ≤ p → p < 36 → m5 33 p = 0 := fun p p0 p1 => by rw [f5 33 p (by first | decide | exact fun z => absurd z.1 (by decide) | exact ⟨fun z => absurd z.1 (by decide), fun z => absurd z.1 (by decide)⟩ | omega), f2 33 p (by first | decide | exact fun z => absurd z.1 (by decide) | exact ⟨fun z => absurd z.1 (by decide), fun z => absurd z.1 (by decide)⟩ | omega)]; exact y1 p p0 p1
  have FF : ∀ c p : Int, 336 ≤ c → m5 c p = m0 c p := fun c p z => by rw [f5 c p (by first | exact fun y => absurd (y.1 ▸ z) (by decide) | exact fun y => absurd (y.1 ▸ q) (by decide) | exact z | exact q | exact z.1 | exact q.1 | exact z.2 | exact q.2 | omega), f2 c p (by first | exact fun y => absurd (y.1 ▸ z) (by decide) | exact fun y => absurd (y.1 ▸ q) (by decide) | exact z | exact q | exact z.1 | exact q.1 | exact z.2 | exact q.2 | omega), f1 c p (by first | exact fun y => absurd (y.1 ▸ z) (by decide) | exact fun y => absurd (y.1 ▸ q) (by decide) | exact z | exact q | exact z.1 | exact q.1 | exact z.2 | exact q.2 | omega) (by omega)]
  have lc5 : LC D m5 := by
    have d : ∀ i : Int, 0 ≤ i → i < 10 → D i = 0 := hD
    refine ⟨⟨?_, ?_, ?_, ?_, ?_, ?_, ?_, ?_⟩, fun a c a0 a1 c0 c1 => Or.inl ⟨g33 _ (by omega) (by omega), ?_⟩, fun i i0 i1 => ?_, fun i i0 i1 => ?_, fun i i0 i1 => ?_, fun i i0 i1 => ?_, ⟨⟨?_, ?_⟩, fun i i0 i1 => ?_, fun i i0 i1 => ?_, fun i i0 i1 => ?_, fun i i0 _ i1 => ?_⟩⟩
    · rw [g32 0 (by decide) (by decide), d 0 (by decide) (by decide)]
    · rw [g32 1 (by decide) (by decide), d 1 (by decide) (by decide)]
    · rw [g32 2 (by decide) (by decide), d 2 (by decide) (by decide)]
    · rw [g32 3 (by decide) (by decide), d 3 (by decide) (by decide)]
    · rw [g32 4 (by decide) (by decide), d 4 (by decide) (by decide)]
    · rw [g32 5 (by decide) (by decide), d 5 (by decide) (by decide)]
    · rw [g32 6 (by decide) (by decide), d 9 (by decide) (by decide)]
    · rw [g32 7 (by decide) (by decide), d 6 (by decide) (by decide)]
    · rintro ⟨k, k0, k1, -⟩
      rw [d 3 (by decide) (by decide)] at k1
      omega
    · rw [d 4 (by decide) (by decide)] at i1; exfalso; omega
    · rw [d 5 (by decide) (by decide)] at i1; exfalso; omega
    · rw [d 9 (by decide) (by decide)] at i1; exfalso; omega
    · rw [d 6 (by decide) (by decide)] at i1; exfalso; omega
    · rw [f5 44 0 (by first | decide | exact fun z => absurd z.1 (by decide) | exact ⟨fun z => absurd z.1 (by decide), fun z => absurd z.1 (by decide)⟩ | omega)]; exact k2.1.1
    · rw [f5 44 1 (by first | decide | exact fun z => absurd z.1 (by decide) | exact ⟨fun z => absurd z.1 (by decide), fun z => absurd z.1 (by decide)⟩ | omega)]; exact k2.1.2
    · rw [f5 46 i (by first | decide | exact fun z => absurd z.1 (by decide) | exact ⟨fun z => absurd z.1 (by decide), fun z => absurd z.1 (by decide)⟩ | omega), f5 47 i (by first | decide | exact fun z => absurd z.1 (by decide) | exact ⟨fun z => absurd z.1 (by decide), fun z => absurd z.1 (by decide)⟩ | omega)]; exact k2.2.1 i i0 i1
    · rw [f5 49 i (by first | decide | exact fun z => absurd z.1 (by decide) | exact ⟨fun z => absurd z.1 (by decide), fun z => absurd z.1 (by decide)⟩ | omega)]; exact k2.2.2.1 i i0 i1
    · rw [f5 51 i (by first | decide | exact fun z => absurd z.1 (by decide) | exact ⟨fun z => absurd z.1 (by decide), fun z => absurd z.1 (by decide)⟩ | omega)]; exact k2.2.2.2.1 i i0 i1
    · rw [f5 48 i (by first | decide | exact fun z => absurd z.1 (by decide) | exact ⟨fun z => absurd z.1 (by decide), fun z => absurd z.1 (by decide)⟩ | omega)]; exact k2.2.2.2.2 i i0 i1
  have L : ∀ (N : Nat) (k : Int) (m : Mm) (D' : Dd), Inv X S m → (∀ c p : Int, 336 ≤ c → m c p = m0 c p) → 0 ≤ k → k ≤ 40 → LC D' m → ((k = 0 ∧ D' 0 = 0 ∧ D' 3 = 0 ∧ D' 4 = 0 ∧ D' 5 = 0 ∧ D' 9 = 0 ∧ D' 6 = 0) ∨ (¬ k = 0 ∧ 2 ≤ D' 0)) → m 1 4 = 0 → m 1 2 ≤ n → Ld b n T 0 0 0 (m 1 2) k D' → 42 - k ≤ (N : Int) → wp_X0_read_23 S K N 31 k m := by
    intro N
    induction N with
    | zero => intro k m D' _ _ _ _ _ _ _ _ _ h; exfalso; omega
    | succ N ih =>
      intro k m D' hm F k0 k1 lc d0 h14 hp l h
      refine u_X0_read_23 ?_
      refine g_C ?_
      refine g_ifF (by first | decide | omega) ?_
      refine ⟨hS.k31, ?_⟩
      refine zn_readClause hS hm ht h14 hp lc k0 k1 d0 l (fun m6 hm6 f6 n6 t6 => ?_) (fun m6 D6 hm6 f6 k39 lc6 d6 y6 p6 l6 => ?_)
      · refine g_ifF (by decide) ?_
        exact g_C ⟨by decide, hf m6 hm6 (fun c p z => (f6 c p z).trans (F c p z)) n6 t6⟩
      · have F6 : ∀ c p : Int, 336 ≤ c → m6 c p = m0 c p := fun c p z => (f6 c p z).trans (F c p z)
        have b12 := hm6.f_1_2
        refine g_ifT (by decide) ?_
        refine g_getr 0 1 rfl hS.k31 hm6.f_31_0 (by decide) ?_
        refine ⟨hS.k1, ?_⟩
        refine u_X7_isAtEnd ?_
        refine ⟨hS.k1, ?_⟩
        refine ze_look hS hm6 ht p6 (fun r q m7 hm7 f7 sk w2 w3 qn hr => ?_)
        have sk1 := sk.1
        have F7 : ∀ c p : Int, 336 ≤ c → m7 c p = m0 c p := fun c p z => (f7 c p (by first | exact fun y => absurd (y.1 ▸ z) (by decide) | exact fun y => absurd (y.1 ▸ q) (by decide) | exact z | exact q | exact z.1 | exact q.1 | exact z.2 | exact q.2 | omega)).trans (F6 c p z)
        have y7 : m7 1 4 = 0 := (f7 1 4 (by first | decide | exact fun z => absurd z.1 (by decide) | exact ⟨fun z => absurd z.1 (by decide), fun z => absurd z.1 (by decide)⟩ | omega)).trans y6
        have lc7 : LC D6 m7 := lc6.look hm6 (fun c p z => f7 c p (by first | exact fun y => absurd (y.1 ▸ z) (by decide) | exact fun y => absurd (y.1 ▸ q) (by decide) | exact z | exact q | exact z.1 | exact q.1 | exact z.2 | exact q.2 | omega))
        have rr : r = -1 ↔ n ≤ q := by
          rcases hr with ⟨a1, a2⟩ | ⟨a1, a2⟩
          · have tb := ht.2.2 q (by omega) a1
            have zu := u8_r tb.2.1 tb.2.2
            exact ⟨fun y => by omega, fun y => by omega⟩
          · exact ⟨fun _ => a1, fun _ => a2⟩
        refine g_C ?_
        refine g_if (fun w => ?_) (fun w => ?_)
        · have nq : ¬ n ≤ q := fun z => w (rr.2 z)
          refine g_C ⟨by decide, ?_⟩
          refine g_ifT rfl ?_
          refine g_getr 0 1 rfl hS.k31 hm7.f_31_0 (by decide) ?_
          refine g_C ?_
          refine ⟨hS.k1, ?_⟩
          refine ze_takesSign hS hm7 ht (by omega) (by decide) (by decide) (fun q' m8 hm8 f8 sk8 v2 v3 qn8 b8 => ?_) (fun q' m8 hm8 f8 sk8 v2 v3 qn8 b8 => ?_)
          · have eq : q = q' := by rw [w2] at sk8; exact sk.idem.uniq sk8
            rw [← eq] at v2 v3 b8
            have l8 := l6.more sk nq b8
            rw [← v2] at l8
            refine g_ifT (by decide) ?_
            refine g_A (by omega) (by omega) ?_
            exact ih (k + 1) m8 D6 hm8 (fun c p z => (f8 c p (by first | exact fun y => absurd (y.1 ▸ z) (by decide) | exact fun y => absurd (y.1 ▸ q) (by decide) | exact z | exact q | exact z.1 | exact q.1 | exact z.2 | exact q.2 | omega)).trans (F7 c p z)) (by omega) (by omega) (lc7.look hm7 (fun c p z => f8 c p (by first | exact fun y => absurd (y.1 ▸ z) (by decide) | exact fun y => absurd (y.1 ▸ q) (by decide) | exact z | exact q | exact z.1 | exact q.1 | exact z.2 | exact q.2 | omega))) (Or.inr ⟨by omega, d6⟩) ((f8 1 4 (by first | decide | exact fun z => absurd z.1 (by decide) | exact ⟨fun z => absurd z.1 (by decide), fun z => absurd z.1 (by decide)⟩ | omega)).trans y7) (by omega) l8 (by omega)
          · have eq : q = q' := by rw [w2] at sk8; exact sk.idem.uniq sk8
            rw [← eq] at v2 v3 b8
            refine g_ifF (by decide) ?_
            refine g_getr 0 1 rfl hS.k31 hm8.f_31_0 (by decide) ?_
            refine g_C ?_
            refine ⟨hS.k1, ?_⟩
            have y8 : m8 1 4 = 0 := (f8 1 4 (by first | decide | exact fun z => absurd z.1 (by decide) | exact ⟨fun z => absurd z.1 (by decide), fun z => absurd z.1 (by decide)⟩ | omega)).trans y7
            refine ze_refuse hS hm8 (by decide) (by decide) (fun m9 hm9 f9 y9 => ?_)
            have e9 : m9 1 4 = 1 + 8 * q := by omega
            refine ⟨by decide, hf m9 hm9 (fun c p z => by rw [f9 c p (by first | exact fun y => absurd (y.1 ▸ z) (by decide) | exact fun y => absurd (y.1 ▸ q) (by decide) | exact z | exact q | exact z.1 | exact q.1 | exact z.2 | exact q.2 | omega), f8 c p (by first | exact fun y => absurd (y.1 ▸ z) (by decide) | exact fun y => absurd (y.1 ▸ q) (by decide) | exact z | exact q | exact z.1 | exact q.1 | exact z.2 | exact q.2 | omega)]; exact F7 c p z) (by omega) ?_⟩
            rw [e9]
            exact l6.odd sk nq (fun z => b8 ⟨by omega, z⟩)
        · refine g_C ⟨by decide, ?_⟩
          refine g_ifF (by decide) ?_
          refine g_getr 1 32 rfl hS.k31 hm7.f_31_1 (by decide) ?_
          refine ⟨hS.k32, ?_⟩
          refine zm_measureWays hS hm7 (fun m8 hm8 f8 wk8 => ?_)
          refine g_C ⟨by decide, hk m8 D6 hm8 (fun c p z => (f8 c p (by first | exact fun y => absurd (y.1 ▸ z) (by decide) | exact fun y => absurd (y.1 ▸ q) (by decide) | exact z | exact q | exact z.1 | exact q.1 | exact z.2 | exact q.2 | omega)).trans (F7 c p z)) (lc7.look hm7 (fun c p z => f8 c p (by first | exact fun y => absurd (y.1 ▸ z) (by decide) | exact fun y => absurd (y.1 ▸ q) (by decide) | exact z | exact q | exact z.1 | exact q.1 | exact z.2 | exact q.2 | omega))) wk8 (l6.stop sk (rr.1 (by omega)))⟩
  exact ⟨42, L 42 0 m5 D hm5 FF (by decide) (by decide) lc5 (Or.inl ⟨rfl, hD 0 (by decide) (by decide), hD 3 (by decide) (by decide), hD 4 (by decide) (by decide), hD 5 (by decide) (by decide), hD 9 (by decide) (by decide), hD 6 (by decide) (by decide)⟩) x4 (by omega) (by rw [x2]; exact hT) (by decide)⟩
end
section
/-! what is told, held by a Told at cell u as the row D says -/
def TLr (u : Int) (D : Dd) (M : Mm) : Prop := ∀ a c : Int, 0 ≤ a → a ≤ 5 → 0 ≤ c → c ≤ 5 → (M (u + 1) (6 * a + c) = 0 ∧ ¬ Rt D a c) ∨ (1 ≤ M (u + 1) (6 * a + c) ∧ ∃ k : Int, 0 ≤ k ∧ k < D 3 ∧ ((D (57 + 3 * k) = a ∧ D (57 + 3 * k + 1) = c) ∨ (D (57 + 3 * k) = c ∧ D (57 + 3 * k + 1) = a)) ∧ M (u + 1) (6 * a + c) = D (57 + 3 * k + 2))
def TLc (u : Int) (D : Dd) (M : Mm) : Prop := M u 0 = D 0 ∧ M u 1 = D 1 ∧ M u 2 = D 2 ∧ M u 3 = D 3 ∧ M u 4 = D 4 ∧ M u 5 = D 5 ∧ M u 6 = D 9 ∧ M u 7 = D 6
def TLh (u : Int) (D : Dd) (M : Mm) : Prop := ∀ i : Int, 0 ≤ i → i < D 4 → M (u + 3) i = D (10 + 5 * i + 3) ∧ M (u + 4) i = D (10 + 5 * i + 4)
def TLt (u : Int) (D : Dd) (M : Mm) : Prop := ∀ i : Int, 0 ≤ i → i < D 9 → M (u + 5) i = D (81 + 3 * i) ∧ M (u + 6) i = D (81 + 3 * i + 1) ∧ M (u + 7) i = D (81 + 3 * i + 2)
def TLw (u : Int) (D : Dd) (M : Mm) : Prop := ∀ i : Int, 0 ≤ i → i < D 6 → M (u + 8) i = D (93 + 4 * i) ∧ M (u + 9) i = D (93 + 4 * i + 1) ∧ M (u + 10) i = D (93 + 4 * i + 2) ∧ M (u + 11) i = D (93 + 4 * i + 3)
def TL (u : Int) (D : Dd) (M : Mm) : Prop := TLc u D M ∧ TLr u D M ∧ TLh u D M ∧ TLt u D M ∧ TLw u D M
theorem LC.told {X : Mm} {S : Sh} {D : Dd} {m m' : Mm} (h : LC D m) (hm : Inv X S m) (c : ∀ i : Int, 0 ≤ i → i ≤ 7 → m' 4 i = m 32 i) (r : ∀ p : Int, 0 ≤ p → p < 36 → m' 5 p = m 33 p) (s : ∀ p : Int, 0 ≤ p → p < 5 → m' 7 p = m 35 p ∧ m' 8 p = m 36 p) (t : ∀ p : Int, 0 ≤ p → p < 4 → m' 9 p = m 37 p ∧ m' 10 p = m 38 p ∧ m' 11 p = m 39 p) (w : ∀ p : Int, 0 ≤ p → p < 6 → m' 12 p = m 40 p ∧ m' 13 p = m 41 p ∧ m' 14 p = m 42 p ∧ m' 15 p = m 43 p) : TL 4 D m' := by
  have b4 := hm.f_32_4
  have b6 := hm.f_32_6
  have b7 := hm.f_32_7
  obtain ⟨⟨q0, q1, q2, q3, q4, q5, q6, q7⟩, lr, lh, lj, lt, lw, ls⟩ := h
  refine ⟨⟨?_, ?_, ?_, ?_, ?_, ?_, ?_, ?_⟩, fun a e a0 a1 e0 e1 => ?_, fun i i0 i1 => ?_, fun i i0 i1 => ?_, fun i i0 i1 => ?_⟩
  · rw [c 0 (by decide) (by decide)]; exact q0
  · rw [c 1 (by decide) (by decide)]; exact q1
  · rw [c 2 (by decide) (by decide)]; exact q2
  · rw [c 3 (by decide) (by decide)]; exact q3
  · rw [c 4 (by decide) (by decide)]; exact q4
  · rw [c 5 (by decide) (by decide)]; exact q5
  · rw [c 6 (by decide) (by decide)]; exact q6
  · rw [c 7 (by decide) (by decide)]; exact q7
  · rw [show (4 : Int) + 1 = 5 from rfl, r _ (by omega) (by omega)]
    exact lr a e a0 a1 e0 e1
  · rw [show (4 : Int) + 3 = 7 from rfl, show (4 : Int) + 4 = 8 from rfl, (s i i0 (by omega)).1, (s i i0 (by omega)).2]
    have z := lh i i0 i1
    exact ⟨z.2.1, z.2.2⟩
  · rw [show (4 : Int) + 5 = 9 from rfl, show (4 : Int) + 6 = 10 from rfl, show (4 : Int) + 7 = 11 from rfl, (t i i0 (by omega)).1, (t i i0 (by omega)).2.1, (t i i0 (by omega)).2.2]
    exact lt i i0 i1
  · rw [show (4 : Int) + 8 = 12 from rfl, show (4 : Int) + 9 = 13 from rfl, show (4 : Int) + 10 = 14 from rfl, show (4 : Int) + 11 = 15 from rfl, (w i i0 (by omega)).1, (w i i0 (by omega)).2.1, (w i i0 (by omega)).2.2.1, (w i i0 (by omega)).2.2.2]
    exact lw i i0 i1
end
section
/-! rows a combinator: what follows may be made weaker -/
theorem m_C {v : Int} {K K' : Int → Prop} (h : wC v K) (k : K v → K' v) : wC v K' := k h
theorem m_A {a b : Int} {K K' : Int → Prop} (h : wA a b K) (k : ∀ v, K v → K' v) : wA a b K' := k _ h
theorem m_S {a b : Int} {K K' : Int → Prop} (h : wS a b K) (k : ∀ v, K v → K' v) : wS a b K' := k _ h
theorem m_M {a b : Int} {K K' : Int → Prop} (h : wM a b K) (k : ∀ v, K v → K' v) : wM a b K' := k _ h
theorem m_O {g : Int → Int → Int} {a b : Int} {K K' : Int → Prop} (h : wO g a b K) (k : ∀ v, K v → K' v) : wO g a b K' := k _ h
theorem m_O1 {g : Int → Int} {a : Int} {K K' : Int → Prop} (h : wO1 g a K) (k : ∀ v, K v → K' v) : wO1 g a K' := k _ h
theorem m_D {g : Int → Int → Int} {a b : Int} {K K' : Int → Prop} (h : wD g a b K) (k : ∀ v, K v → K' v) : wD g a b K' := ⟨h.1, k _ h.2⟩
theorem m_LA {a b : Int} {K K' : Int → Prop} (h : wLA a b K) (k : ∀ v, K v → K' v) : wLA a b K' := k _ h
theorem m_LS {a b : Int} {K K' : Int → Prop} (h : wLS a b K) (k : ∀ v, K v → K' v) : wLS a b K' := k _ h
theorem m_LM {a b : Int} {K K' : Int → Prop} (h : wLM a b K) (k : ∀ v, K v → K' v) : wLM a b K' := k _ h
theorem m_Cmp {a b : Int} {K K' : Int → Prop} (h : wCmp a b K) (k : ∀ v, K v → K' v) : wCmp a b K' := k _ h
theorem m_if {c A B A' B' : Prop} (h : wIf c A B) (ka : A → A') (kb : B → B') : wIf c A' B' := ⟨fun q => ka (h.1 q), fun q => kb (h.2 q)⟩
theorem m_and {A B B' : Prop} (h : A ∧ B) (k : B → B') : A ∧ B' := ⟨h.1, k h.2⟩
theorem m_ex {A B : Nat → Prop} (h : ∃ n, A n) (k : ∀ n, A n → B n) : ∃ n, B n := by
  obtain ⟨n, h⟩ := h
  exact ⟨n, k n h⟩
theorem m_Get {S : Sh} {M : Mm} {x : Int} {ci j : Nat} {K K' : Int → Prop} (h : wGet S M x ci j K) (k : ∀ v, K v → K' v) : wGet S M x ci j K' := ⟨h.1, k _ h.2⟩
theorem m_GetR {S : Sh} {M : Mm} {x : Int} {ci j : Nat} {K K' : Int → Prop} (h : wGetR S M x ci j K) (k : ∀ v, K v → K' v) : wGetR S M x ci j K' := ⟨h.1, h.2.1, k _ h.2.2⟩
theorem m_gr {S : Sh} {M : Mm} {x r : Int} {ci j : Nat} {K K' : Int → Prop} (e : M x j = r) (h : wGetR S M x ci j K) (k : K r → K' r) : wGetR S M x ci j K' := by
  subst e
  exact ⟨h.1, h.2.1, k h.2.2⟩
theorem m_Ld {S : Sh} {M : Mm} {x i : Int} {ci : Nat} {K K' : Int → Prop} (h : wLd S M x ci i K) (k : ∀ v, K v → K' v) : wLd S M x ci i K' := ⟨h.1, h.2.1, k _ h.2.2⟩
theorem m_Len {S : Sh} {x : Int} {ci : Nat} {K K' : Int → Prop} (h : wLen S x ci K) (k : ∀ v, K v → K' v) : wLen S x ci K' := h.elim (fun q => Or.inl ⟨q.1, k _ q.2⟩) (fun q => Or.inr ⟨q.1, q.2.1, k _ q.2.2⟩)
theorem m_Slen {x : Int} {K K' : Int → Prop} (h : wSlen x K) (k : ∀ v, K v → K' v) : wSlen x K' := by
  obtain ⟨j, a, b, c⟩ := h
  exact ⟨j, a, b, k _ c⟩
theorem m_Sch {x i : Int} {K K' : Int → Prop} (h : wSch x i K) (k : ∀ v, K v → K' v) : wSch x i K' := by
  obtain ⟨j, a, b, c, d, e⟩ := h
  exact ⟨j, a, b, c, d, k _ e⟩
theorem m_Put {S : Sh} {M : Mm} {x v : Int} {ci j : Nat} {F : Mm → Prop} {K K' : Mm → Prop} (f : F (up M x j v)) (h : wPut S M x ci j v K) (k : ∀ m, F m → K m → K' m) : wPut S M x ci j v K' := ⟨h.1, k _ f h.2⟩
theorem m_St {S : Sh} {M : Mm} {x i v : Int} {ci : Nat} {F : Mm → Prop} {K K' : Mm → Prop} (f : F (up M x i v)) (h : wSt S M x ci i v K) (k : ∀ m, F m → K m → K' m) : wSt S M x ci i v K' := ⟨h.1, h.2.1, k _ f h.2.2⟩
theorem m_Cpy {S : Sh} {M : Mm} {x sp y dp n : Int} {F : Mm → Prop} {K K' : Mm → Prop} (f : F (cpM M x sp y dp n)) (h : wCpy S M x sp y dp n K) (k : ∀ m, F m → K m → K' m) : wCpy S M x sp y dp n K' := ⟨h.1, h.2.1, h.2.2.1, k _ f h.2.2.2⟩
end
section
/-- what these methods may write -/
abbrev fq1_W (c p : Int) : Prop := (c = 55 ∧ 4 ≤ p) ∨ c = 56 ∨ (c = 57 ∧ p = 2) ∨ (c = 58 ∧ 6 ≤ p) ∨ (59 ≤ c ∧ c ≤ 62) ∨ c = 64 ∨ c = 65 ∨ (c = 66 ∧ 3 ≤ p) ∨ c = 67 ∨ (c = 68 ∧ p ≤ 1) ∨ (69 ≤ c ∧ c ≤ 75)
def fq1_F (G M : Mm) : Prop := ∀ c p : Int, ¬ fq1_W c p → M c p = G c p
theorem fq1_up {G M : Mm} {x i v : Int} (w : fq1_W x i) (f : fq1_F G M) : fq1_F G (up M x i v) := fun c p q => (up_ne (fun e => by obtain ⟨e1, e2⟩ := e; subst e1; subst e2; exact q w)).trans (f c p q)
theorem fq1_cp {G M : Mm} {x sp y dp n : Int} (w : ∀ i : Int, fq1_W y i) (f : fq1_F G M) : fq1_F G (cpM M x sp y dp n) := fun c p q => by
  unfold cpM
  rw [if_neg (fun z => q (by rw [z.1]; exact w p))]
  exact f c p q
theorem fq1_a_56 (i : Int) : fq1_W 56 i := by unfold fq1_W; omega
theorem fq1_a_59 (i : Int) : fq1_W 59 i := by unfold fq1_W; omega
theorem fq1_a_60 (i : Int) : fq1_W 60 i := by unfold fq1_W; omega
theorem fq1_a_61 (i : Int) : fq1_W 61 i := by unfold fq1_W; omega
theorem fq1_a_62 (i : Int) : fq1_W 62 i := by unfold fq1_W; omega
theorem fq1_a_64 (i : Int) : fq1_W 64 i := by unfold fq1_W; omega
theorem fq1_a_67 (i : Int) : fq1_W 67 i := by unfold fq1_W; omega
theorem fq1_a_69 (i : Int) : fq1_W 69 i := by unfold fq1_W; omega
theorem fq1_a_70 (i : Int) : fq1_W 70 i := by unfold fq1_W; omega
theorem fq1_a_71 (i : Int) : fq1_W 71 i := by unfold fq1_W; omega
theorem fq1_a_72 (i : Int) : fq1_W 72 i := by unfold fq1_W; omega
theorem fq1_a_73 (i : Int) : fq1_W 73 i := by unfold fq1_W; omega
theorem fq1_a_74 (i : Int) : fq1_W 74 i := by unfold fq1_W; omega
theorem fq1_a_75 (i : Int) : fq1_W 75 i := by unfold fq1_W; omega
theorem fq1_c_0_1 {X G M : Mm} {S : Sh} (hG : Inv X S G) (f : fq1_F G M) : M 0 1 = 3 := (f 0 1 (by decide)).trans hG.f_0_1
theorem fq1_c_0_10 {X G M : Mm} {S : Sh} (hG : Inv X S G) (f : fq1_F G M) : M 0 10 = 55 := (f 0 10 (by decide)).trans hG.f_0_10
theorem fq1_c_0_11 {X G M : Mm} {S : Sh} (hG : Inv X S G) (f : fq1_F G M) : M 0 11 = 57 := (f 0 11 (by decide)).trans hG.f_0_11
theorem fq1_c_0_12 {X G M : Mm} {S : Sh} (hG : Inv X S G) (f : fq1_F G M) : M 0 12 = 58 := (f 0 12 (by decide)).trans hG.f_0_12
theorem fq1_c_0_13 {X G M : Mm} {S : Sh} (hG : Inv X S G) (f : fq1_F G M) : M 0 13 = 63 := (f 0 13 (by decide)).trans hG.f_0_13
theorem fq1_c_0_14 {X G M : Mm} {S : Sh} (hG : Inv X S G) (f : fq1_F G M) : M 0 14 = 66 := (f 0 14 (by decide)).trans hG.f_0_14
theorem fq1_c_0_15 {X G M : Mm} {S : Sh} (hG : Inv X S G) (f : fq1_F G M) : M 0 15 = 68 := (f 0 15 (by decide)).trans hG.f_0_15
theorem fq1_c_3_0 {X G M : Mm} {S : Sh} (hG : Inv X S G) (f : fq1_F G M) : M 3 0 = 4 := (f 3 0 (by decide)).trans hG.f_3_0
theorem fq1_c_3_1 {X G M : Mm} {S : Sh} (hG : Inv X S G) (f : fq1_F G M) : M 3 1 = 16 := (f 3 1 (by decide)).trans hG.f_3_1
theorem fq1_c_3_5 {X G M : Mm} {S : Sh} (hG : Inv X S G) (f : fq1_F G M) : M 3 5 = 24 := (f 3 5 (by decide)).trans hG.f_3_5
theorem fq1_c_3_6 {X G M : Mm} {S : Sh} (hG : Inv X S G) (f : fq1_F G M) : M 3 6 = 25 := (f 3 6 (by decide)).trans hG.f_3_6
theorem fq1_c_3_7 {X G M : Mm} {S : Sh} (hG : Inv X S G) (f : fq1_F G M) : M 3 7 = 26 := (f 3 7 (by decide)).trans hG.f_3_7
theorem fq1_c_3_8 {X G M : Mm} {S : Sh} (hG : Inv X S G) (f : fq1_F G M) : M 3 8 = 27 := (f 3 8 (by decide)).trans hG.f_3_8
theorem fq1_c_4_8 {X G M : Mm} {S : Sh} (hG : Inv X S G) (f : fq1_F G M) : M 4 8 = 5 := (f 4 8 (by decide)).trans hG.f_4_8
theorem fq1_c_4_9 {X G M : Mm} {S : Sh} (hG : Inv X S G) (f : fq1_F G M) : M 4 9 = 6 := (f 4 9 (by decide)).trans hG.f_4_9
theorem fq1_c_4_10 {X G M : Mm} {S : Sh} (hG : Inv X S G) (f : fq1_F G M) : M 4 10 = 7 := (f 4 10 (by decide)).trans hG.f_4_10
theorem fq1_c_4_11 {X G M : Mm} {S : Sh} (hG : Inv X S G) (f : fq1_F G M) : M 4 11 = 8 := (f 4 11 (by decide)).trans hG.f_4_11
theorem fq1_c_4_12 {X G M : Mm} {S : Sh} (hG : Inv X S G) (f : fq1_F G M) : M 4 12 = 9 := (f 4 12 (by decide)).trans hG.f_4_12
theorem fq1_c_4_13 {X G M : Mm} {S : Sh} (hG : Inv X S G) (f : fq1_F G M) : M 4 13 = 10 := (f 4 13 (by decide)).trans hG.f_4_13
theorem fq1_c_4_14 {X G M : Mm} {S : Sh} (hG : Inv X S G) (f : fq1_F G M) : M 4 14 = 11 := (f 4 14 (by decide)).trans hG.f_4_14
theorem fq1_c_4_16 {X G M : Mm} {S : Sh} (hG : Inv X S G) (f : fq1_F G M) : M 4 16 = 13 := (f 4 16 (by decide)).trans hG.f_4_16
theorem fq1_c_4_17 {X G M : Mm} {S : Sh} (hG : Inv X S G) (f : fq1_F G M) : M 4 17 = 14 := (f 4 17 (by decide)).trans hG.f_4_17
theorem fq1_c_4_18 {X G M : Mm} {S : Sh} (hG : Inv X S G) (f : fq1_F G M) : M 4 18 = 15 := (f 4 18 (by decide)).trans hG.f_4_18
theorem fq1_c_16_2 {X G M : Mm} {S : Sh} (hG : Inv X S G) (f : fq1_F G M) : M 16 2 = 17 := (f 16 2 (by decide)).trans hG.f_16_2
theorem fq1_c_16_3 {X G M : Mm} {S : Sh} (hG : Inv X S G) (f : fq1_F G M) : M 16 3 = 18 := (f 16 3 (by decide)).trans hG.f_16_3
theorem fq1_c_16_4 {X G M : Mm} {S : Sh} (hG : Inv X S G) (f : fq1_F G M) : M 16 4 = 19 := (f 16 4 (by decide)).trans hG.f_16_4
theorem fq1_c_16_5 {X G M : Mm} {S : Sh} (hG : Inv X S G) (f : fq1_F G M) : M 16 5 = 20 := (f 16 5 (by decide)).trans hG.f_16_5
theorem fq1_c_16_6 {X G M : Mm} {S : Sh} (hG : Inv X S G) (f : fq1_F G M) : M 16 6 = 21 := (f 16 6 (by decide)).trans hG.f_16_6
theorem fq1_c_16_7 {X G M : Mm} {S : Sh} (hG : Inv X S G) (f : fq1_F G M) : M 16 7 = 22 := (f 16 7 (by decide)).trans hG.f_16_7
theorem fq1_c_16_8 {X G M : Mm} {S : Sh} (hG : Inv X S G) (f : fq1_F G M) : M 16 8 = 23 := (f 16 8 (by decide)).trans hG.f_16_8
theorem fq1_c_55_0 {X G M : Mm} {S : Sh} (hG : Inv X S G) (f : fq1_F G M) : M 55 0 = 4 := (f 55 0 (by decide)).trans hG.f_55_0
theorem fq1_c_55_3 {X G M : Mm} {S : Sh} (hG : Inv X S G) (f : fq1_F G M) : M 55 3 = 56 := (f 55 3 (by decide)).trans hG.f_55_3
theorem fq1_c_57_0 {X G M : Mm} {S : Sh} (hG : Inv X S G) (f : fq1_F G M) : M 57 0 = 55 := (f 57 0 (by decide)).trans hG.f_57_0
theorem fq1_c_57_1 {X G M : Mm} {S : Sh} (hG : Inv X S G) (f : fq1_F G M) : M 57 1 = 4 := (f 57 1 (by decide)).trans hG.f_57_1
theorem fq1_c_58_0 {X G M : Mm} {S : Sh} (hG : Inv X S G) (f : fq1_F G M) : M 58 0 = 55 := (f 58 0 (by decide)).trans hG.f_58_0
theorem fq1_c_58_1 {X G M : Mm} {S : Sh} (hG : Inv X S G) (f : fq1_F G M) : M 58 1 = 4 := (f 58 1 (by decide)).trans hG.f_58_1
theorem fq1_c_58_2 {X G M : Mm} {S : Sh} (hG : Inv X S G) (f : fq1_F G M) : M 58 2 = 59 := (f 58 2 (by decide)).trans hG.f_58_2
theorem fq1_c_58_3 {X G M : Mm} {S : Sh} (hG : Inv X S G) (f : fq1_F G M) : M 58 3 = 60 := (f 58 3 (by decide)).trans hG.f_58_3
theorem fq1_c_58_4 {X G M : Mm} {S : Sh} (hG : Inv X S G) (f : fq1_F G M) : M 58 4 = 61 := (f 58 4 (by decide)).trans hG.f_58_4
theorem fq1_c_58_5 {X G M : Mm} {S : Sh} (hG : Inv X S G) (f : fq1_F G M) : M 58 5 = 62 := (f 58 5 (by decide)).trans hG.f_58_5
theorem fq1_c_63_0 {X G M : Mm} {S : Sh} (hG : Inv X S G) (f : fq1_F G M) : M 63 0 = 4 := (f 63 0 (by decide)).trans hG.f_63_0
theorem fq1_c_63_1 {X G M : Mm} {S : Sh} (hG : Inv X S G) (f : fq1_F G M) : M 63 1 = 64 := (f 63 1 (by decide)).trans hG.f_63_1
theorem fq1_c_66_0 {X G M : Mm} {S : Sh} (hG : Inv X S G) (f : fq1_F G M) : M 66 0 = 3 := (f 66 0 (by decide)).trans hG.f_66_0
theorem fq1_c_66_1 {X G M : Mm} {S : Sh} (hG : Inv X S G) (f : fq1_F G M) : M 66 1 = 55 := (f 66 1 (by decide)).trans hG.f_66_1
theorem fq1_c_66_2 {X G M : Mm} {S : Sh} (hG : Inv X S G) (f : fq1_F G M) : M 66 2 = 67 := (f 66 2 (by decide)).trans hG.f_66_2
theorem fq1_c_68_2 {X G M : Mm} {S : Sh} (hG : Inv X S G) (f : fq1_F G M) : M 68 2 = 69 := (f 68 2 (by decide)).trans hG.f_68_2
theorem fq1_c_68_3 {X G M : Mm} {S : Sh} (hG : Inv X S G) (f : fq1_F G M) : M 68 3 = 70 := (f 68 3 (by decide)).trans hG.f_68_3
theorem fq1_c_68_4 {X G M : Mm} {S : Sh} (hG : Inv X S G) (f : fq1_F G M) : M 68 4 = 71 := (f 68 4 (by decide)).trans hG.f_68_4
theorem fq1_c_68_5 {X G M : Mm} {S : Sh} (hG : Inv X S G) (f : fq1_F G M) : M 68 5 = 72 := (f 68 5 (by decide)).trans hG.f_68_5
theorem fq1_c_68_6 {X G M : Mm} {S : Sh} (hG : Inv X S G) (f : fq1_F G M) : M 68 6 = 73 := (f 68 6 (by decide)).trans hG.f_68_6
theorem fq1_c_68_7 {X G M : Mm} {S : Sh} (hG : Inv X S G) (f : fq1_F G M) : M 68 7 = 74 := (f 68 7 (by decide)).trans hG.f_68_7
theorem fq1_c_68_8 {X G M : Mm} {S : Sh} (hG : Inv X S G) (f : fq1_F G M) : M 68 8 = 75 := (f 68 8 (by decide)).trans hG.f_68_8
theorem fq1_J7_fill_53178_5 {X G : Mm} {S : Sh} {u0 : Int} {K K' : Mm → Prop} (hG : Inv X S G) (w : ∀ i : Int, fq1_W u0 i) (k : ∀ (m : Mm), fq1_F G m → K m → K' m) : ∀ (n : Nat) (u2 : Int) (u3 : Int) (M : Mm), fq1_F G M → wp_J7_fill_53178_5 S K n u0 (0) u2 u3 M → wp_J7_fill_53178_5 S K' n u0 (0) u2 u3 M := by
  intro n
  induction n with
  | zero => intro u2 u3 M f h; exact h
  | succ n ih =>
    intro u2 u3 M f h
    refine m_if h (fun h => ?_) (fun h => ?_)
    · skip
      exact k _ f h
    · skip
      refine m_St (fq1_up (w _) f) h (fun _ f1 h => ?_)
      refine m_A h (fun _ h => ?_)
      exact ih _ _ _ f1 h
theorem fq1_J7_fill_53178 {X G : Mm} {S : Sh} {u0 : Int} {K K' : Mm → Prop} {M : Mm} (hG : Inv X S G) (w : ∀ i : Int, fq1_W u0 i) (k : ∀ (m : Mm), fq1_F G m → K m → K' m) (f : fq1_F G M) (h : wp_J7_fill_53178 S M u0 (0) K) : wp_J7_fill_53178 S M u0 (0) K' := by
  refine m_C h (fun h => ?_)
  refine m_Len h (fun _ h => ?_)
  refine m_ex h (fun n9 h => ?_)
  refine fq1_J7_fill_53178_5 hG w k _ _ _ _ f h
theorem fq1_J6_bitCount_0f7a4 {X G : Mm} {S : Sh} {K K' : Int → Mm → Prop} {M : Mm} {u0 : Int} (hG : Inv X S G) (k : ∀ (a0 : Int) (m : Mm), fq1_F G m → K a0 m → K' a0 m) (f : fq1_F G M) (h : wp_J6_bitCount_0f7a4 S M u0 K) : wp_J6_bitCount_0f7a4 S M u0 K' := by
  refine m_C h (fun h => ?_)
  refine m_O h (fun _ h => ?_)
  refine m_C h (fun h => ?_)
  refine m_O h (fun _ h => ?_)
  refine m_S h (fun _ h => ?_)
  refine m_C h (fun h => ?_)
  refine m_O h (fun _ h => ?_)
  refine m_C h (fun h => ?_)
  refine m_O h (fun _ h => ?_)
  refine m_C h (fun h => ?_)
  refine m_O h (fun _ h => ?_)
  refine m_A h (fun _ h => ?_)
  refine m_C h (fun h => ?_)
  refine m_O h (fun _ h => ?_)
  refine m_A h (fun _ h => ?_)
  refine m_C h (fun h => ?_)
  refine m_O h (fun _ h => ?_)
  refine m_C h (fun h => ?_)
  refine m_O h (fun _ h => ?_)
  refine m_A h (fun _ h => ?_)
  refine m_C h (fun h => ?_)
  refine m_O h (fun _ h => ?_)
  refine m_A h (fun _ h => ?_)
  refine m_C h (fun h => ?_)
  refine m_O h (fun _ h => ?_)
  exact k _ _ f h
theorem fq1_J7_rangeCheck_23922 {X G : Mm} {S : Sh} {K K' : Mm → Prop} {M : Mm} {u0 : Int} {u2 : Int} (hG : Inv X S G) (k : ∀ (m : Mm), fq1_F G m → K m → K' m) (f : fq1_F G M) (h : wp_J7_rangeCheck_23922 S M u0 (0) u2 K) : wp_J7_rangeCheck_23922 S M u0 (0) u2 K' := by
  refine m_if h (fun h => ?_) (fun h => ?_)
  · skip
    refine m_if h (fun h => ?_) (fun h => ?_)
    · skip
      refine m_if h (fun h => ?_) (fun h => ?_)
      · skip
        exact k _ f h
      · skip
        exact h
    · skip
      exact h
  · skip
    exact h
theorem fq1_J7_fill_fda19_10 {X G : Mm} {S : Sh} {u0 : Int} {K K' : Mm → Prop} (hG : Inv X S G) (w : ∀ i : Int, fq1_W u0 i) (k : ∀ (m : Mm), fq1_F G m → K m → K' m) : ∀ (n : Nat) (u2 : Int) (u3 : Int) (u4 : Int) (M : Mm), fq1_F G M → wp_J7_fill_fda19_10 S K n u0 u2 u3 u4 M → wp_J7_fill_fda19_10 S K' n u0 u2 u3 u4 M := by
  intro n
  induction n with
  | zero => intro u2 u3 u4 M f h; exact h
  | succ n ih =>
    intro u2 u3 u4 M f h
    refine m_if h (fun h => ?_) (fun h => ?_)
    · skip
      exact k _ f h
    · skip
      refine m_St (fq1_up (w _) f) h (fun _ f1 h => ?_)
      refine m_A h (fun _ h => ?_)
      exact ih _ _ _ _ f1 h
theorem fq1_J7_fill_fda19 {X G : Mm} {S : Sh} {u0 : Int} {K K' : Mm → Prop} {M : Mm} {u2 : Int} {u3 : Int} (hG : Inv X S G) (w : ∀ i : Int, fq1_W u0 i) (k : ∀ (m : Mm), fq1_F G m → K m → K' m) (f : fq1_F G M) (h : wp_J7_fill_fda19 S M u0 (0) u2 u3 K) : wp_J7_fill_fda19 S M u0 (0) u2 u3 K' := by
  refine m_Len h (fun _ h => ?_)
  refine fq1_J7_rangeCheck_23922 hG (fun _ f1 h => ?_) f h
  refine m_ex h (fun n9 h => ?_)
  refine fq1_J7_fill_fda19_10 hG w k _ _ _ _ _ f1 h
theorem fq1_J6_numberOfTrailingZeros_0f7a4_74 {X G : Mm} {S : Sh} {K K' : Int → Mm → Prop} {M : Mm} {u0 : Int} {u1 : Int} (hG : Inv X S G) (k : ∀ (a0 : Int) (m : Mm), fq1_F G m → K a0 m → K' a0 m) (f : fq1_F G M) (h : wp_J6_numberOfTrailingZeros_0f7a4_74 S K u0 u1 M) : wp_J6_numberOfTrailingZeros_0f7a4_74 S K' u0 u1 M := by
  refine m_C h (fun h => ?_)
  refine m_O h (fun _ h => ?_)
  refine m_A h (fun _ h => ?_)
  exact k _ _ f h
theorem fq1_J6_numberOfTrailingZeros_0f7a4_62 {X G : Mm} {S : Sh} {K K' : Int → Mm → Prop} {M : Mm} {u0 : Int} {u1 : Int} (hG : Inv X S G) (k : ∀ (a0 : Int) (m : Mm), fq1_F G m → K a0 m → K' a0 m) (f : fq1_F G M) (h : wp_J6_numberOfTrailingZeros_0f7a4_62 S K u0 u1 M) : wp_J6_numberOfTrailingZeros_0f7a4_62 S K' u0 u1 M := by
  refine m_C h (fun h => ?_)
  refine m_if h (fun h => ?_) (fun h => ?_)
  · skip
    refine fq1_J6_numberOfTrailingZeros_0f7a4_74 hG k f h
  · skip
    refine m_A h (fun _ h => ?_)
    refine m_C h (fun h => ?_)
    refine m_O h (fun _ h => ?_)
    refine fq1_J6_numberOfTrailingZeros_0f7a4_74 hG k f h
theorem fq1_J6_numberOfTrailingZeros_0f7a4_49 {X G : Mm} {S : Sh} {K K' : Int → Mm → Prop} {M : Mm} {u0 : Int} {u1 : Int} (hG : Inv X S G) (k : ∀ (a0 : Int) (m : Mm), fq1_F G m → K a0 m → K' a0 m) (f : fq1_F G M) (h : wp_J6_numberOfTrailingZeros_0f7a4_49 S K u0 u1 M) : wp_J6_numberOfTrailingZeros_0f7a4_49 S K' u0 u1 M := by
  refine m_C h (fun h => ?_)
  refine m_if h (fun h => ?_) (fun h => ?_)
  · skip
    refine fq1_J6_numberOfTrailingZeros_0f7a4_62 hG k f h
  · skip
    refine m_A h (fun _ h => ?_)
    refine m_C h (fun h => ?_)
    refine m_O h (fun _ h => ?_)
    refine fq1_J6_numberOfTrailingZeros_0f7a4_62 hG k f h
theorem fq1_J6_numberOfTrailingZeros_0f7a4_34 {X G : Mm} {S : Sh} {K K' : Int → Mm → Prop} {M : Mm} {u0 : Int} {u1 : Int} (hG : Inv X S G) (k : ∀ (a0 : Int) (m : Mm), fq1_F G m → K a0 m → K' a0 m) (f : fq1_F G M) (h : wp_J6_numberOfTrailingZeros_0f7a4_34 S K u0 u1 M) : wp_J6_numberOfTrailingZeros_0f7a4_34 S K' u0 u1 M := by
  refine m_C h (fun h => ?_)
  refine m_if h (fun h => ?_) (fun h => ?_)
  · skip
    refine fq1_J6_numberOfTrailingZeros_0f7a4_49 hG k f h
  · skip
    refine m_A h (fun _ h => ?_)
    refine m_C h (fun h => ?_)
    refine m_O h (fun _ h => ?_)
    refine fq1_J6_numberOfTrailingZeros_0f7a4_49 hG k f h
theorem fq1_J6_numberOfTrailingZeros_0f7a4 {X G : Mm} {S : Sh} {K K' : Int → Mm → Prop} {M : Mm} {u0 : Int} (hG : Inv X S G) (k : ∀ (a0 : Int) (m : Mm), fq1_F G m → K a0 m → K' a0 m) (f : fq1_F G M) (h : wp_J6_numberOfTrailingZeros_0f7a4 S M u0 K) : wp_J6_numberOfTrailingZeros_0f7a4 S M u0 K' := by
  refine m_C h (fun h => ?_)
  refine m_O h (fun _ h => ?_)
  refine m_C h (fun h => ?_)
  refine m_S h (fun _ h => ?_)
  refine m_O h (fun _ h => ?_)
  refine m_if h (fun h => ?_) (fun h => ?_)
  · skip
    refine m_C h (fun h => ?_)
    refine m_C h (fun h => ?_)
    refine m_if h (fun h => ?_) (fun h => ?_)
    · skip
      refine fq1_J6_numberOfTrailingZeros_0f7a4_34 hG k f h
    · skip
      refine m_A h (fun _ h => ?_)
      refine m_C h (fun h => ?_)
      refine m_O h (fun _ h => ?_)
      refine fq1_J6_numberOfTrailingZeros_0f7a4_34 hG k f h
  · skip
    refine m_C h (fun h => ?_)
    refine m_O h (fun _ h => ?_)
    exact k _ _ f h
theorem fq1_X8_pair {X G : Mm} {S : Sh} {K K' : Int → Mm → Prop} {M : Mm} {u0 : Int} {u1 : Int} (hG : Inv X S G) (k : ∀ (a0 : Int) (m : Mm), fq1_F G m → K a0 m → K' a0 m) (f : fq1_F G M) (h : wp_X8_pair S M u0 u1 K) : wp_X8_pair S M u0 u1 K' := by
  refine m_C h (fun h => ?_)
  refine m_M h (fun _ h => ?_)
  refine m_A h (fun _ h => ?_)
  exact k _ _ f h
theorem fq1_X8_roadHours {X G : Mm} {S : Sh} {K K' : Int → Mm → Prop} {M : Mm} {u1 : Int} {u2 : Int} (hG : Inv X S G) (k : ∀ (a0 : Int) (m : Mm), fq1_F G m → K a0 m → K' a0 m) (f : fq1_F G M) (h : wp_X8_roadHours S M (4) u1 u2 K) : wp_X8_roadHours S M (4) u1 u2 K' := by
  refine m_gr (fq1_c_4_8 hG f) h (fun h => ?_)
  refine fq1_X8_pair hG (fun _ _ f1 h => ?_) f h
  refine m_Ld h (fun _ h => ?_)
  exact k _ _ f1 h
theorem fq1_X5_become {X G : Mm} {S : Sh} {K K' : Mm → Prop} {M : Mm} (hG : Inv X S G) (k : ∀ (m : Mm), fq1_F G m → K m → K' m) (f : fq1_F G M) (h : wp_X5_become S M (68) (16) K) : wp_X5_become S M (68) (16) K' := by
  refine m_Get h (fun _ h => ?_)
  refine m_Put (fq1_up (by decide) f) h (fun _ f1 h => ?_)
  refine m_Get h (fun _ h => ?_)
  refine m_Put (fq1_up (by decide) f1) h (fun _ f2 h => ?_)
  refine m_gr (fq1_c_16_2 hG f2) h (fun h => ?_)
  refine m_C h (fun h => ?_)
  refine m_gr (fq1_c_68_2 hG f2) h (fun h => ?_)
  refine m_C h (fun h => ?_)
  refine m_C h (fun h => ?_)
  refine m_Cpy (fq1_cp (fq1_a_69) f2) h (fun _ f3 h => ?_)
  refine m_gr (fq1_c_16_3 hG f3) h (fun h => ?_)
  refine m_C h (fun h => ?_)
  refine m_gr (fq1_c_68_3 hG f3) h (fun h => ?_)
  refine m_C h (fun h => ?_)
  refine m_C h (fun h => ?_)
  refine m_Cpy (fq1_cp (fq1_a_70) f3) h (fun _ f4 h => ?_)
  refine m_gr (fq1_c_16_4 hG f4) h (fun h => ?_)
  refine m_C h (fun h => ?_)
  refine m_gr (fq1_c_68_4 hG f4) h (fun h => ?_)
  refine m_C h (fun h => ?_)
  refine m_C h (fun h => ?_)
  refine m_Cpy (fq1_cp (fq1_a_71) f4) h (fun _ f5 h => ?_)
  refine m_gr (fq1_c_16_5 hG f5) h (fun h => ?_)
  refine m_C h (fun h => ?_)
  refine m_gr (fq1_c_68_5 hG f5) h (fun h => ?_)
  refine m_C h (fun h => ?_)
  refine m_C h (fun h => ?_)
  refine m_Cpy (fq1_cp (fq1_a_72) f5) h (fun _ f6 h => ?_)
  refine m_gr (fq1_c_16_6 hG f6) h (fun h => ?_)
  refine m_C h (fun h => ?_)
  refine m_gr (fq1_c_68_6 hG f6) h (fun h => ?_)
  refine m_C h (fun h => ?_)
  refine m_C h (fun h => ?_)
  refine m_Cpy (fq1_cp (fq1_a_73) f6) h (fun _ f7 h => ?_)
  refine m_gr (fq1_c_16_7 hG f7) h (fun h => ?_)
  refine m_C h (fun h => ?_)
  refine m_gr (fq1_c_68_7 hG f7) h (fun h => ?_)
  refine m_C h (fun h => ?_)
  refine m_C h (fun h => ?_)
  refine m_Cpy (fq1_cp (fq1_a_74) f7) h (fun _ f8 h => ?_)
  refine m_gr (fq1_c_16_8 hG f8) h (fun h => ?_)
  refine m_C h (fun h => ?_)
  refine m_gr (fq1_c_68_8 hG f8) h (fun h => ?_)
  refine m_C h (fun h => ?_)
  refine m_C h (fun h => ?_)
  refine m_Cpy (fq1_cp (fq1_a_75) f8) h (fun _ f9 h => ?_)
  exact k _ f9 h
theorem fq1_X11_isHand {X G : Mm} {S : Sh} {K K' : Int → Mm → Prop} {M : Mm} {u1 : Int} (hG : Inv X S G) (k : ∀ (a0 : Int) (m : Mm), fq1_F G m → K a0 m → K' a0 m) (f : fq1_F G M) (h : wp_X11_isHand S M (0) u1 K) : wp_X11_isHand S M (0) u1 K' := by
  refine m_if h (fun h => ?_) (fun h => ?_)
  · skip
    refine m_C h (fun h => ?_)
    refine m_and h (fun h => ?_)
    exact k _ _ f h
  · skip
    refine m_gr (fq1_c_0_1 hG f) h (fun h => ?_)
    refine m_gr (fq1_c_3_0 hG f) h (fun h => ?_)
    refine m_Get h (fun _ h => ?_)
    refine m_if h (fun h => ?_) (fun h => ?_)
    · skip
      refine m_C h (fun h => ?_)
      refine m_and h (fun h => ?_)
      exact k _ _ f h
    · skip
      refine m_C h (fun h => ?_)
      refine m_and h (fun h => ?_)
      exact k _ _ f h
theorem fq1_X5_heldBits_25 {X G : Mm} {S : Sh} {k4 k4' : Int → Int → Int → Int → Mm → Prop} {K K' : Int → Mm → Prop} {M : Mm} {u0 : Int} {u1 : Int} {u2 : Int} {u3 : Int} (hG : Inv X S G) (kk4 : ∀ (a0 : Int) (a1 : Int) (a2 : Int) (a3 : Int) (m : Mm), fq1_F G m → k4 a0 a1 a2 a3 m → k4' a0 a1 a2 a3 m) (k : ∀ (a0 : Int) (m : Mm), fq1_F G m → K a0 m → K' a0 m) (f : fq1_F G M) (h : wp_X5_heldBits_25 S k4 K u0 u1 u2 u3 M) : wp_X5_heldBits_25 S k4' K' u0 u1 u2 u3 M := by
  refine m_A h (fun _ h => ?_)
  exact kk4 _ _ _ _ _ f h
theorem fq1_X5_heldBits_4 {X G : Mm} {S : Sh} {K K' : Int → Mm → Prop} (hG : Inv X S G) (k : ∀ (a0 : Int) (m : Mm), fq1_F G m → K a0 m → K' a0 m) : ∀ (n : Nat) (u0 : Int) (u1 : Int) (u2 : Int) (u3 : Int) (M : Mm), fq1_F G M → wp_X5_heldBits_4 S K n u0 u1 u2 u3 M → wp_X5_heldBits_4 S K' n u0 u1 u2 u3 M := by
  intro n
  induction n with
  | zero => intro u0 u1 u2 u3 M f h; exact h
  | succ n ih =>
    intro u0 u1 u2 u3 M f h
    refine m_C h (fun h => ?_)
    refine m_if h (fun h => ?_) (fun h => ?_)
    · skip
      exact k _ _ f h
    · skip
      refine m_GetR h (fun _ h => ?_)
      refine m_Ld h (fun _ h => ?_)
      refine m_if h (fun h => ?_) (fun h => ?_)
      · skip
        refine fq1_X5_heldBits_25 hG (fun _ _ _ _ _ f1 h => ?_) k f h
        exact ih _ _ _ _ _ f1 h
      · skip
        refine m_C h (fun h => ?_)
        refine m_O h (fun _ h => ?_)
        refine m_O h (fun _ h => ?_)
        refine fq1_X5_heldBits_25 hG (fun _ _ _ _ _ f2 h => ?_) k f h
        exact ih _ _ _ _ _ f2 h
theorem fq1_X5_heldBits {X G : Mm} {S : Sh} {K K' : Int → Mm → Prop} {M : Mm} {u0 : Int} {u1 : Int} (hG : Inv X S G) (k : ∀ (a0 : Int) (m : Mm), fq1_F G m → K a0 m → K' a0 m) (f : fq1_F G M) (h : wp_X5_heldBits S M u0 u1 K) : wp_X5_heldBits S M u0 u1 K' := by
  refine m_C h (fun h => ?_)
  refine m_C h (fun h => ?_)
  refine m_ex h (fun n9 h => ?_)
  refine fq1_X5_heldBits_4 hG k _ _ _ _ _ _ f h
theorem fq1_X11_isJug {X G : Mm} {S : Sh} {K K' : Int → Mm → Prop} {M : Mm} {u1 : Int} (hG : Inv X S G) (k : ∀ (a0 : Int) (m : Mm), fq1_F G m → K a0 m → K' a0 m) (f : fq1_F G M) (h : wp_X11_isJug S M (0) u1 K) : wp_X11_isJug S M (0) u1 K' := by
  refine m_if h (fun h => ?_) (fun h => ?_)
  · skip
    refine m_C h (fun h => ?_)
    refine m_and h (fun h => ?_)
    exact k _ _ f h
  · skip
    refine m_gr (fq1_c_0_1 hG f) h (fun h => ?_)
    refine m_gr (fq1_c_3_0 hG f) h (fun h => ?_)
    refine m_Get h (fun _ h => ?_)
    refine m_if h (fun h => ?_) (fun h => ?_)
    · skip
      refine m_C h (fun h => ?_)
      refine m_and h (fun h => ?_)
      exact k _ _ f h
    · skip
      refine m_C h (fun h => ?_)
      refine m_and h (fun h => ?_)
      exact k _ _ f h
theorem fq1_X5_isGone {X G : Mm} {S : Sh} {K K' : Int → Mm → Prop} {M : Mm} {u0 : Int} {u1 : Int} (hG : Inv X S G) (k : ∀ (a0 : Int) (m : Mm), fq1_F G m → K a0 m → K' a0 m) (f : fq1_F G M) (h : wp_X5_isGone S M u0 u1 K) : wp_X5_isGone S M u0 u1 K' := by
  refine m_GetR h (fun _ h => ?_)
  refine m_Ld h (fun _ h => ?_)
  refine m_C h (fun h => ?_)
  refine m_if h (fun h => ?_) (fun h => ?_)
  · skip
    refine m_C h (fun h => ?_)
    refine m_and h (fun h => ?_)
    exact k _ _ f h
  · skip
    refine m_GetR h (fun _ h => ?_)
    refine m_Ld h (fun _ h => ?_)
    refine m_C h (fun h => ?_)
    refine m_if h (fun h => ?_) (fun h => ?_)
    · skip
      refine m_C h (fun h => ?_)
      refine m_and h (fun h => ?_)
      exact k _ _ f h
    · skip
      refine m_C h (fun h => ?_)
      refine m_and h (fun h => ?_)
      exact k _ _ f h
theorem fq1_X8_suits {X G : Mm} {S : Sh} {K K' : Int → Mm → Prop} {M : Mm} {u1 : Int} {u2 : Int} (hG : Inv X S G) (k : ∀ (a0 : Int) (m : Mm), fq1_F G m → K a0 m → K' a0 m) (f : fq1_F G M) (h : wp_X8_suits S M (4) u1 u2 K) : wp_X8_suits S M (4) u1 u2 K' := by
  refine m_gr (fq1_c_4_16 hG f) h (fun h => ?_)
  refine m_Ld h (fun _ h => ?_)
  refine m_if h (fun h => ?_) (fun h => ?_)
  · skip
    refine m_C h (fun h => ?_)
    refine m_and h (fun h => ?_)
    exact k _ _ f h
  · skip
    refine m_gr (fq1_c_4_17 hG f) h (fun h => ?_)
    refine m_Ld h (fun _ h => ?_)
    refine m_if h (fun h => ?_) (fun h => ?_)
    · skip
      refine m_C h (fun h => ?_)
      refine m_and h (fun h => ?_)
      exact k _ _ f h
    · skip
      refine m_C h (fun h => ?_)
      refine m_and h (fun h => ?_)
      exact k _ _ f h
theorem fq1_X5_stands {X G : Mm} {S : Sh} {K K' : Int → Mm → Prop} {M : Mm} {u0 : Int} {u1 : Int} (hG : Inv X S G) (k : ∀ (a0 : Int) (m : Mm), fq1_F G m → K a0 m → K' a0 m) (f : fq1_F G M) (h : wp_X5_stands S M u0 u1 K) : wp_X5_stands S M u0 u1 K' := by
  refine m_GetR h (fun _ h => ?_)
  refine m_Ld h (fun _ h => ?_)
  refine m_C h (fun h => ?_)
  refine m_if h (fun h => ?_) (fun h => ?_)
  · skip
    refine m_C h (fun h => ?_)
    refine m_and h (fun h => ?_)
    exact k _ _ f h
  · skip
    refine m_C h (fun h => ?_)
    refine m_and h (fun h => ?_)
    exact k _ _ f h
theorem fq1_X8_heatIn_41 {X G : Mm} {S : Sh} {k4 k4' : Int → Int → Int → Int → Mm → Prop} {K K' : Int → Mm → Prop} {M : Mm} {u1 : Int} {u2 : Int} {u3 : Int} (hG : Inv X S G) (kk4 : ∀ (a1 : Int) (a2 : Int) (a3 : Int) (m : Mm), fq1_F G m → k4 (4) a1 a2 a3 m → k4' (4) a1 a2 a3 m) (k : ∀ (a0 : Int) (m : Mm), fq1_F G m → K a0 m → K' a0 m) (f : fq1_F G M) (h : wp_X8_heatIn_41 S k4 K (4) u1 u2 u3 M) : wp_X8_heatIn_41 S k4' K' (4) u1 u2 u3 M := by
  refine m_A h (fun _ h => ?_)
  exact kk4 _ _ _ _ f h
theorem fq1_X8_heatIn_4 {X G : Mm} {S : Sh} {K K' : Int → Mm → Prop} (hG : Inv X S G) (k : ∀ (a0 : Int) (m : Mm), fq1_F G m → K a0 m → K' a0 m) : ∀ (n : Nat) (u1 : Int) (u2 : Int) (u3 : Int) (M : Mm), fq1_F G M → wp_X8_heatIn_4 S K n (4) u1 u2 u3 M → wp_X8_heatIn_4 S K' n (4) u1 u2 u3 M := by
  intro n
  induction n with
  | zero => intro u1 u2 u3 M f h; exact h
  | succ n ih =>
    intro u1 u2 u3 M f h
    refine m_Get h (fun _ h => ?_)
    refine m_if h (fun h => ?_) (fun h => ?_)
    · skip
      exact k _ _ f h
    · skip
      refine m_gr (fq1_c_4_12 hG f) h (fun h => ?_)
      refine m_Ld h (fun _ h => ?_)
      refine m_if h (fun h => ?_) (fun h => ?_)
      · skip
        refine fq1_X8_heatIn_41 hG (fun _ _ _ _ f1 h => ?_) k f h
        exact ih _ _ _ _ f1 h
      · skip
        refine m_gr (fq1_c_4_13 hG f) h (fun h => ?_)
        refine m_Ld h (fun _ h => ?_)
        refine m_if h (fun h => ?_) (fun h => ?_)
        · skip
          refine fq1_X8_heatIn_41 hG (fun _ _ _ _ f2 h => ?_) k f h
          exact ih _ _ _ _ f2 h
        · skip
          refine m_gr (fq1_c_4_14 hG f) h (fun h => ?_)
          refine m_Ld h (fun _ h => ?_)
          refine m_A h (fun _ h => ?_)
          refine fq1_X8_heatIn_41 hG (fun _ _ _ _ f3 h => ?_) k f h
          exact ih _ _ _ _ f3 h
theorem fq1_X8_heatIn {X G : Mm} {S : Sh} {K K' : Int → Mm → Prop} {M : Mm} {u1 : Int} (hG : Inv X S G) (k : ∀ (a0 : Int) (m : Mm), fq1_F G m → K a0 m → K' a0 m) (f : fq1_F G M) (h : wp_X8_heatIn S M (4) u1 K) : wp_X8_heatIn S M (4) u1 K' := by
  refine m_C h (fun h => ?_)
  refine m_C h (fun h => ?_)
  refine m_ex h (fun n9 h => ?_)
  refine fq1_X8_heatIn_4 hG k _ _ _ _ _ f h
theorem fq1_X10_heatIn {X G : Mm} {S : Sh} {K K' : Int → Mm → Prop} {M : Mm} {u1 : Int} (hG : Inv X S G) (k : ∀ (a0 : Int) (m : Mm), fq1_F G m → K a0 m → K' a0 m) (f : fq1_F G M) (h : wp_X10_heatIn S M (55) u1 K) : wp_X10_heatIn S M (55) u1 K' := by
  refine m_Get h (fun _ h => ?_)
  refine m_if h (fun h => ?_) (fun h => ?_)
  · skip
    refine m_gr (fq1_c_55_0 hG f) h (fun h => ?_)
    refine m_and h (fun h => ?_)
    refine fq1_X8_heatIn hG (fun _ _ f1 h => ?_) f h
    exact k _ _ f1 h
  · skip
    refine m_C h (fun h => ?_)
    exact k _ _ f h
theorem fq1_X5_isAtPlace {X G : Mm} {S : Sh} {K K' : Int → Mm → Prop} {M : Mm} {u1 : Int} (hG : Inv X S G) (k : ∀ (a0 : Int) (m : Mm), fq1_F G m → K a0 m → K' a0 m) (f : fq1_F G M) (h : wp_X5_isAtPlace S M (68) u1 K) : wp_X5_isAtPlace S M (68) u1 K' := by
  refine m_gr (fq1_c_68_3 hG f) h (fun h => ?_)
  refine m_Ld h (fun _ h => ?_)
  refine m_if h (fun h => ?_) (fun h => ?_)
  · skip
    refine m_C h (fun h => ?_)
    refine m_and h (fun h => ?_)
    exact k _ _ f h
  · skip
    refine m_C h (fun h => ?_)
    refine m_and h (fun h => ?_)
    exact k _ _ f h
theorem fq1_X5_howManyHeld {X G : Mm} {S : Sh} {K K' : Int → Mm → Prop} {M : Mm} {u1 : Int} (hG : Inv X S G) (k : ∀ (a0 : Int) (m : Mm), fq1_F G m → K a0 m → K' a0 m) (f : fq1_F G M) (h : wp_X5_howManyHeld S M (68) u1 K) : wp_X5_howManyHeld S M (68) u1 K' := by
  refine m_and h (fun h => ?_)
  refine fq1_X5_heldBits hG (fun _ _ f1 h => ?_) f h
  refine fq1_J6_bitCount_0f7a4 hG (fun _ _ f2 h => ?_) f1 h
  exact k _ _ f2 h
theorem fq1_X10_see_52 {X G : Mm} {S : Sh} {K K' : Mm → Prop} {M : Mm} {u2 : Int} {t1 : Int} (hG : Inv X S G) (k : ∀ (m : Mm), fq1_F G m → K m → K' m) (f : fq1_F G M) (h : wp_X10_see_52 S K (55) (68) u2 (55) t1 M) : wp_X10_see_52 S K' (55) (68) u2 (55) t1 M := by
  refine m_Put (fq1_up (by decide) f) h (fun _ f1 h => ?_)
  refine m_and h (fun h => ?_)
  refine fq1_X5_howManyHeld hG (fun _ _ f2 h => ?_) f1 h
  refine m_Put (fq1_up (by decide) f2) h (fun _ f3 h => ?_)
  exact k _ f3 h
theorem fq1_X10_see {X G : Mm} {S : Sh} {K K' : Mm → Prop} {M : Mm} {u2 : Int} {u3 : Int} (hG : Inv X S G) (k : ∀ (m : Mm), fq1_F G m → K m → K' m) (f : fq1_F G M) (h : wp_X10_see S M (55) (68) u2 u3 K) : wp_X10_see S M (55) (68) u2 u3 K' := by
  refine m_Put (fq1_up (by decide) f) h (fun _ f1 h => ?_)
  refine m_Put (fq1_up (by decide) f1) h (fun _ f2 h => ?_)
  refine m_gr (fq1_c_68_7 hG f2) h (fun h => ?_)
  refine m_Ld h (fun _ h => ?_)
  refine m_Put (fq1_up (by decide) f2) h (fun _ f3 h => ?_)
  refine m_gr (fq1_c_68_4 hG f3) h (fun h => ?_)
  refine m_Ld h (fun _ h => ?_)
  refine m_Put (fq1_up (by decide) f3) h (fun _ f4 h => ?_)
  refine m_Get h (fun _ h => ?_)
  refine m_Put (fq1_up (by decide) f4) h (fun _ f5 h => ?_)
  refine m_and h (fun h => ?_)
  refine fq1_X5_isAtPlace hG (fun _ _ f6 h => ?_) f5 h
  refine m_if h (fun h => ?_) (fun h => ?_)
  · skip
    refine m_C h (fun h => ?_)
    refine fq1_X10_see_52 hG k f6 h
  · skip
    refine m_C h (fun h => ?_)
    refine fq1_X10_see_52 hG k f6 h
theorem fq1_X10_valueOf {X G : Mm} {S : Sh} {K K' : Int → Mm → Prop} {M : Mm} {u1 : Int} (hG : Inv X S G) (k : ∀ (a0 : Int) (m : Mm), fq1_F G m → K a0 m → K' a0 m) (f : fq1_F G M) (h : wp_X10_valueOf S M (55) u1 K) : wp_X10_valueOf S M (55) u1 K' := by
  refine m_C h (fun h => ?_)
  refine m_S h (fun _ h => ?_)
  refine m_if h (fun h => ?_) (fun h => ?_)
  · skip
    refine m_Get h (fun _ h => ?_)
    refine m_C h (fun h => ?_)
    exact k _ _ f h
  · skip
    refine m_if h (fun h => ?_) (fun h => ?_)
    · skip
      refine m_gr (fq1_c_55_0 hG f) h (fun h => ?_)
      refine m_gr (fq1_c_4_10 hG f) h (fun h => ?_)
      refine m_Get h (fun _ h => ?_)
      refine m_Ld h (fun _ h => ?_)
      refine m_C h (fun h => ?_)
      exact k _ _ f h
    · skip
      refine m_if h (fun h => ?_) (fun h => ?_)
      · skip
        refine m_Get h (fun _ h => ?_)
        refine m_C h (fun h => ?_)
        exact k _ _ f h
      · skip
        refine m_if h (fun h => ?_) (fun h => ?_)
        · skip
          refine m_Get h (fun _ h => ?_)
          refine m_C h (fun h => ?_)
          exact k _ _ f h
        · skip
          refine m_if h (fun h => ?_) (fun h => ?_)
          · skip
            refine m_Get h (fun _ h => ?_)
            refine m_C h (fun h => ?_)
            exact k _ _ f h
          · skip
            refine m_if h (fun h => ?_) (fun h => ?_)
            · skip
              refine m_Get h (fun _ h => ?_)
              refine m_C h (fun h => ?_)
              exact k _ _ f h
            · skip
              refine m_if h (fun h => ?_) (fun h => ?_)
              · skip
                refine m_Get h (fun _ h => ?_)
                refine m_C h (fun h => ?_)
                exact k _ _ f h
              · skip
                refine m_if h (fun h => ?_) (fun h => ?_)
                · skip
                  refine m_Get h (fun _ h => ?_)
                  refine m_C h (fun h => ?_)
                  exact k _ _ f h
                · skip
                  refine m_if h (fun h => ?_) (fun h => ?_)
                  · skip
                    refine m_Get h (fun _ h => ?_)
                    refine m_C h (fun h => ?_)
                    exact k _ _ f h
                  · skip
                    refine m_Get h (fun _ h => ?_)
                    refine m_gr (fq1_c_55_0 hG f) h (fun h => ?_)
                    refine m_Get h (fun _ h => ?_)
                    refine m_if h (fun h => ?_) (fun h => ?_)
                    · skip
                      refine m_C h (fun h => ?_)
                      exact k _ _ f h
                    · skip
                      refine m_C h (fun h => ?_)
                      exact k _ _ f h
theorem fq1_X10_joined {X G : Mm} {S : Sh} {K K' : Int → Mm → Prop} {M : Mm} {u0 : Int} {u1 : Int} {u3 : Int} (hG : Inv X S G) (k : ∀ (a0 : Int) (m : Mm), fq1_F G m → K a0 m → K' a0 m) (f : fq1_F G M) (h : wp_X10_joined S M u0 u1 u3 K) : wp_X10_joined S M u0 u1 u3 K' := by
  refine m_if h (fun h => ?_) (fun h => ?_)
  · skip
    refine m_O h (fun _ h => ?_)
    exact k _ _ f h
  · skip
    refine m_if h (fun h => ?_) (fun h => ?_)
    · skip
      refine m_O h (fun _ h => ?_)
      exact k _ _ f h
    · skip
      refine m_if h (fun h => ?_) (fun h => ?_)
      · skip
        refine m_Cmp h (fun _ h => ?_)
        refine m_if h (fun h => ?_) (fun h => ?_)
        · skip
          refine m_C h (fun h => ?_)
          exact k _ _ f h
        · skip
          refine m_C h (fun h => ?_)
          exact k _ _ f h
      · skip
        refine m_if h (fun h => ?_) (fun h => ?_)
        · skip
          refine m_Cmp h (fun _ h => ?_)
          refine m_if h (fun h => ?_) (fun h => ?_)
          · skip
            refine m_C h (fun h => ?_)
            exact k _ _ f h
          · skip
            refine m_C h (fun h => ?_)
            exact k _ _ f h
        · skip
          refine m_if h (fun h => ?_) (fun h => ?_)
          · skip
            refine m_Cmp h (fun _ h => ?_)
            refine m_if h (fun h => ?_) (fun h => ?_)
            · skip
              refine m_C h (fun h => ?_)
              exact k _ _ f h
            · skip
              refine m_C h (fun h => ?_)
              exact k _ _ f h
          · skip
            refine m_if h (fun h => ?_) (fun h => ?_)
            · skip
              refine m_Cmp h (fun _ h => ?_)
              refine m_if h (fun h => ?_) (fun h => ?_)
              · skip
                refine m_C h (fun h => ?_)
                exact k _ _ f h
              · skip
                refine m_C h (fun h => ?_)
                exact k _ _ f h
            · skip
              refine m_if h (fun h => ?_) (fun h => ?_)
              · skip
                refine m_Cmp h (fun _ h => ?_)
                refine m_if h (fun h => ?_) (fun h => ?_)
                · skip
                  refine m_C h (fun h => ?_)
                  exact k _ _ f h
                · skip
                  refine m_C h (fun h => ?_)
                  exact k _ _ f h
              · skip
                refine m_if h (fun h => ?_) (fun h => ?_)
                · skip
                  refine m_LS h (fun _ h => ?_)
                  exact k _ _ f h
                · skip
                  refine m_if h (fun h => ?_) (fun h => ?_)
                  · skip
                    refine m_LA h (fun _ h => ?_)
                    exact k _ _ f h
                  · skip
                    refine m_if h (fun h => ?_) (fun h => ?_)
                    · skip
                      refine m_C h (fun h => ?_)
                      refine m_Cmp h (fun _ h => ?_)
                      refine m_if h (fun h => ?_) (fun h => ?_)
                      · skip
                        refine m_D h (fun _ h => ?_)
                        exact k _ _ f h
                      · skip
                        refine m_C h (fun h => ?_)
                        exact k _ _ f h
                    · skip
                      refine m_if h (fun h => ?_) (fun h => ?_)
                      · skip
                        refine m_C h (fun h => ?_)
                        refine m_Cmp h (fun _ h => ?_)
                        refine m_if h (fun h => ?_) (fun h => ?_)
                        · skip
                          refine m_D h (fun _ h => ?_)
                          exact k _ _ f h
                        · skip
                          refine m_C h (fun h => ?_)
                          exact k _ _ f h
                      · skip
                        refine m_if h (fun h => ?_) (fun h => ?_)
                        · skip
                          refine m_LM h (fun _ h => ?_)
                          exact k _ _ f h
                        · skip
                          refine m_O h (fun _ h => ?_)
                          exact k _ _ f h
theorem fq1_X10_sumByRule_170 {X G : Mm} {S : Sh} {k4 k4' : Int → Int → Int → Mm → Prop} {K K' : Int → Mm → Prop} {M : Mm} {u1 : Int} {u2 : Int} (hG : Inv X S G) (kk4 : ∀ (a1 : Int) (a2 : Int) (m : Mm), fq1_F G m → k4 (55) a1 a2 m → k4' (55) a1 a2 m) (k : ∀ (a0 : Int) (m : Mm), fq1_F G m → K a0 m → K' a0 m) (f : fq1_F G M) (h : wp_X10_sumByRule_170 S k4 K (55) u1 u2 M) : wp_X10_sumByRule_170 S k4' K' (55) u1 u2 M := by
  refine m_A h (fun _ h => ?_)
  exact kk4 _ _ _ f h
theorem fq1_X10_sumByRule_58 {X G : Mm} {S : Sh} {k4 k4' : Int → Int → Int → Mm → Prop} {K K' : Int → Mm → Prop} {M : Mm} {u1 : Int} {u2 : Int} {t1 : Int} {t2 : Int} (hG : Inv X S G) (kk4 : ∀ (a1 : Int) (a2 : Int) (m : Mm), fq1_F G m → k4 (55) a1 a2 m → k4' (55) a1 a2 m) (k : ∀ (a0 : Int) (m : Mm), fq1_F G m → K a0 m → K' a0 m) (f : fq1_F G M) (h : wp_X10_sumByRule_58 S k4 K (55) u1 u2 (56) t1 t2 M) : wp_X10_sumByRule_58 S k4' K' (55) u1 u2 (56) t1 t2 M := by
  refine m_St (fq1_up (fq1_a_56 _) f) h (fun _ f1 h => ?_)
  refine fq1_X10_sumByRule_170 hG kk4 k f1 h
theorem fq1_X10_sumByRule_4 {X G : Mm} {S : Sh} {K K' : Int → Mm → Prop} (hG : Inv X S G) (k : ∀ (a0 : Int) (m : Mm), fq1_F G m → K a0 m → K' a0 m) : ∀ (n : Nat) (u1 : Int) (u2 : Int) (M : Mm), fq1_F G M → wp_X10_sumByRule_4 S K n (55) u1 u2 M → wp_X10_sumByRule_4 S K' n (55) u1 u2 M := by
  intro n
  induction n with
  | zero => intro u1 u2 M f h; exact h
  | succ n ih =>
    intro u1 u2 M f h
    refine m_GetR h (fun _ h => ?_)
    refine m_Len h (fun _ h => ?_)
    refine m_if h (fun h => ?_) (fun h => ?_)
    · skip
      refine m_C h (fun h => ?_)
      exact k _ _ f h
    · skip
      refine m_GetR h (fun _ h => ?_)
      refine m_Ld h (fun _ h => ?_)
      refine m_C h (fun h => ?_)
      refine m_if h (fun h => ?_) (fun h => ?_)
      · skip
        refine m_if h (fun h => ?_) (fun h => ?_)
        · skip
          refine m_C h (fun h => ?_)
          refine m_if h (fun h => ?_) (fun h => ?_)
          · skip
            refine m_C h (fun h => ?_)
            refine m_if h (fun h => ?_) (fun h => ?_)
            · skip
              refine m_C h (fun h => ?_)
              refine m_if h (fun h => ?_) (fun h => ?_)
              · skip
                refine m_C h (fun h => ?_)
                refine m_if h (fun h => ?_) (fun h => ?_)
                · skip
                  refine m_A h (fun _ h => ?_)
                  refine m_gr (fq1_c_55_3 hG f) h (fun h => ?_)
                  refine m_gr (fq1_c_55_3 hG f) h (fun h => ?_)
                  refine m_Ld h (fun _ h => ?_)
                  refine m_gr (fq1_c_55_3 hG f) h (fun h => ?_)
                  refine m_C h (fun h => ?_)
                  refine m_A h (fun _ h => ?_)
                  refine m_Ld h (fun _ h => ?_)
                  refine fq1_X10_joined hG (fun _ _ f1 h => ?_) f h
                  refine m_St (fq1_up (fq1_a_56 _) f1) h (fun _ f2 h => ?_)
                  refine fq1_X10_sumByRule_170 hG (fun _ _ _ f3 h => ?_) k f2 h
                  exact ih _ _ _ f3 h
                · skip
                  refine m_gr (fq1_c_55_3 hG f) h (fun h => ?_)
                  refine m_Ld h (fun _ h => ?_)
                  refine m_C h (fun h => ?_)
                  refine m_Cmp h (fun _ h => ?_)
                  refine m_if h (fun h => ?_) (fun h => ?_)
                  · skip
                    refine m_A h (fun _ h => ?_)
                    refine fq1_X10_sumByRule_170 hG (fun _ _ _ f4 h => ?_) k f h
                    exact ih _ _ _ f4 h
                  · skip
                    refine m_gr (fq1_c_55_3 hG f) h (fun h => ?_)
                    refine m_C h (fun h => ?_)
                    refine m_S h (fun _ h => ?_)
                    refine m_Ld h (fun _ h => ?_)
                    exact k _ _ f h
              · skip
                refine m_C h (fun h => ?_)
                exact k _ _ f h
            · skip
              refine m_gr (fq1_c_55_3 hG f) h (fun h => ?_)
              refine m_C h (fun h => ?_)
              refine m_gr (fq1_c_55_3 hG f) h (fun h => ?_)
              refine m_Ld h (fun _ h => ?_)
              refine m_LS h (fun _ h => ?_)
              refine m_St (fq1_up (fq1_a_56 _) f) h (fun _ f5 h => ?_)
              refine fq1_X10_sumByRule_170 hG (fun _ _ _ f6 h => ?_) k f5 h
              exact ih _ _ _ f6 h
          · skip
            refine m_gr (fq1_c_55_3 hG f) h (fun h => ?_)
            refine m_Ld h (fun _ h => ?_)
            exact k _ _ f h
        · skip
          refine m_C h (fun h => ?_)
          exact k _ _ f h
      · skip
        refine m_C h (fun h => ?_)
        refine m_A h (fun _ h => ?_)
        refine m_C h (fun h => ?_)
        refine m_if h (fun h => ?_) (fun h => ?_)
        · skip
          refine m_A h (fun _ h => ?_)
          refine m_gr (fq1_c_55_3 hG f) h (fun h => ?_)
          refine m_if h (fun h => ?_) (fun h => ?_)
          · skip
            refine m_and h (fun h => ?_)
            refine fq1_X10_valueOf hG (fun _ _ f7 h => ?_) f h
            refine fq1_X10_sumByRule_58 hG (fun _ _ _ f8 h => ?_) k f7 h
            exact ih _ _ _ f8 h
          · skip
            refine m_C h (fun h => ?_)
            refine fq1_X10_sumByRule_58 hG (fun _ _ _ f9 h => ?_) k f h
            exact ih _ _ _ f9 h
        · skip
          refine m_C h (fun h => ?_)
          exact k _ _ f h
theorem fq1_X10_sumByRule {X G : Mm} {S : Sh} {K K' : Int → Mm → Prop} {M : Mm} (hG : Inv X S G) (k : ∀ (a0 : Int) (m : Mm), fq1_F G m → K a0 m → K' a0 m) (f : fq1_F G M) (h : wp_X10_sumByRule S M (55) K) : wp_X10_sumByRule S M (55) K' := by
  refine m_C h (fun h => ?_)
  refine m_C h (fun h => ?_)
  refine m_ex h (fun n9 h => ?_)
  refine fq1_X10_sumByRule_4 hG k _ _ _ _ f h
theorem fq1_X10_turns {X G : Mm} {S : Sh} {K K' : Int → Mm → Prop} {M : Mm} (hG : Inv X S G) (k : ∀ (a0 : Int) (m : Mm), fq1_F G m → K a0 m → K' a0 m) (f : fq1_F G M) (h : wp_X10_turns S M (55) K) : wp_X10_turns S M (55) K' := by
  refine m_Get h (fun _ h => ?_)
  refine m_and h (fun h => ?_)
  refine fq1_X10_heatIn hG (fun _ _ f1 h => ?_) f h
  refine m_Put (fq1_up (by decide) f1) h (fun _ f2 h => ?_)
  refine m_GetR h (fun _ h => ?_)
  refine m_Len h (fun _ h => ?_)
  refine m_if h (fun h => ?_) (fun h => ?_)
  · skip
    refine m_C h (fun h => ?_)
    refine m_C h (fun h => ?_)
    refine m_and h (fun h => ?_)
    refine fq1_X10_sumByRule hG (fun _ _ f3 h => ?_) f2 h
    refine m_O h (fun _ h => ?_)
    refine m_O h (fun _ h => ?_)
    refine m_O1 h (fun _ h => ?_)
    exact k _ _ f3 h
  · skip
    refine m_gr (fq1_c_55_0 hG f2) h (fun h => ?_)
    refine m_gr (fq1_c_4_10 hG f2) h (fun h => ?_)
    refine m_Get h (fun _ h => ?_)
    refine m_Ld h (fun _ h => ?_)
    refine m_Get h (fun _ h => ?_)
    refine m_C h (fun h => ?_)
    refine m_D h (fun _ h => ?_)
    refine m_A h (fun _ h => ?_)
    refine m_Get h (fun _ h => ?_)
    refine m_A h (fun _ h => ?_)
    exact k _ _ f2 h
theorem fq1_X1_turnsIn {X G : Mm} {S : Sh} {K K' : Int → Mm → Prop} {M : Mm} {u2 : Int} (hG : Inv X S G) (k : ∀ (a0 : Int) (m : Mm), fq1_F G m → K a0 m → K' a0 m) (f : fq1_F G M) (h : wp_X1_turnsIn S M (57) (68) u2 K) : wp_X1_turnsIn S M (57) (68) u2 K' := by
  refine m_and h (fun h => ?_)
  refine fq1_X5_stands hG (fun _ _ f1 h => ?_) f h
  refine m_if h (fun h => ?_) (fun h => ?_)
  · skip
    refine m_and h (fun h => ?_)
    refine fq1_X5_isGone hG (fun _ _ f2 h => ?_) f1 h
    refine m_if h (fun h => ?_) (fun h => ?_)
    · skip
      refine m_gr (fq1_c_57_0 hG f2) h (fun h => ?_)
      refine m_gr (fq1_c_68_6 hG f2) h (fun h => ?_)
      refine m_Ld h (fun _ h => ?_)
      refine m_and h (fun h => ?_)
      refine fq1_X10_see hG (fun _ f3 h => ?_) f2 h
      refine m_gr (fq1_c_57_0 hG f3) h (fun h => ?_)
      refine m_and h (fun h => ?_)
      refine fq1_X10_turns hG (fun _ _ f4 h => ?_) f3 h
      exact k _ _ f4 h
    · skip
      refine m_C h (fun h => ?_)
      exact k _ _ f2 h
  · skip
    refine m_gr (fq1_c_57_1 hG f1) h (fun h => ?_)
    refine m_Get h (fun _ h => ?_)
    refine m_gr (fq1_c_57_0 hG f1) h (fun h => ?_)
    refine m_Get h (fun _ h => ?_)
    refine m_and h (fun h => ?_)
    refine fq1_X10_heatIn hG (fun _ _ f5 h => ?_) f1 h
    refine m_A h (fun _ h => ?_)
    exact k _ _ f5 h
theorem fq1_X5_tire {X G : Mm} {S : Sh} {K K' : Mm → Prop} {M : Mm} {u1 : Int} {u2 : Int} (hG : Inv X S G) (k : ∀ (m : Mm), fq1_F G m → K m → K' m) (f : fq1_F G M) (h : wp_X5_tire S M (68) u1 u2 K) : wp_X5_tire S M (68) u1 u2 K' := by
  refine m_and h (fun h => ?_)
  refine fq1_X5_heldBits hG (fun _ _ f1 h => ?_) f h
  refine m_if h (fun h => ?_) (fun h => ?_)
  · skip
    refine m_gr (fq1_c_68_4 hG f1) h (fun h => ?_)
    refine m_C h (fun h => ?_)
    refine m_gr (fq1_c_68_4 hG f1) h (fun h => ?_)
    refine m_Ld h (fun _ h => ?_)
    refine m_C h (fun h => ?_)
    refine m_S h (fun _ h => ?_)
    refine m_O h (fun _ h => ?_)
    refine m_St (fq1_up (fq1_a_71 _) f1) h (fun _ f2 h => ?_)
    exact k _ f2 h
  · skip
    refine m_gr (fq1_c_68_4 hG f1) h (fun h => ?_)
    refine m_C h (fun h => ?_)
    refine m_gr (fq1_c_68_4 hG f1) h (fun h => ?_)
    refine m_Ld h (fun _ h => ?_)
    refine m_A h (fun _ h => ?_)
    refine m_O h (fun _ h => ?_)
    refine m_St (fq1_up (fq1_a_71 _) f1) h (fun _ f3 h => ?_)
    exact k _ f3 h
theorem fq1_X1_pass_83 {X G : Mm} {S : Sh} {K K' : Int → Mm → Prop} (hG : Inv X S G) (k : ∀ (a0 : Int) (m : Mm), fq1_F G m → K a0 m → K' a0 m) : ∀ (n : Nat) (u2 : Int) (u3 : Int) (M : Mm), fq1_F G M → wp_X1_pass_83 S K n (57) (68) u2 u3 M → wp_X1_pass_83 S K' n (57) (68) u2 u3 M := by
  intro n
  induction n with
  | zero => intro u2 u3 M f h; exact h
  | succ n ih =>
    intro u2 u3 M f h
    refine m_gr (fq1_c_57_1 hG f) h (fun h => ?_)
    refine m_Get h (fun _ h => ?_)
    refine m_if h (fun h => ?_) (fun h => ?_)
    · skip
      refine m_C h (fun h => ?_)
      refine m_Get h (fun _ h => ?_)
      refine m_C h (fun h => ?_)
      refine m_A h (fun _ h => ?_)
      refine m_O h (fun _ h => ?_)
      refine m_Put (fq1_up (by decide) f) h (fun _ f1 h => ?_)
      exact k _ _ f1 h
    · skip
      refine m_gr (fq1_c_57_1 hG f) h (fun h => ?_)
      refine m_gr (fq1_c_4_11 hG f) h (fun h => ?_)
      refine m_Ld h (fun _ h => ?_)
      refine m_and h (fun h => ?_)
      refine fq1_X5_tire hG (fun _ f2 h => ?_) f h
      refine m_gr (fq1_c_68_3 hG f2) h (fun h => ?_)
      refine m_C h (fun h => ?_)
      refine m_gr (fq1_c_68_3 hG f2) h (fun h => ?_)
      refine m_Ld h (fun _ h => ?_)
      refine m_C h (fun h => ?_)
      refine m_S h (fun _ h => ?_)
      refine m_O h (fun _ h => ?_)
      refine m_St (fq1_up (fq1_a_70 _) f2) h (fun _ f3 h => ?_)
      refine m_A h (fun _ h => ?_)
      exact ih _ _ _ f3 h
theorem fq1_X1_pass_75 {X G : Mm} {S : Sh} {k4 k4' : Int → Int → Int → Int → Mm → Prop} {K K' : Int → Mm → Prop} {M : Mm} {u2 : Int} {u3 : Int} (hG : Inv X S G) (kk4 : ∀ (a2 : Int) (a3 : Int) (m : Mm), fq1_F G m → k4 (57) (68) a2 a3 m → k4' (57) (68) a2 a3 m) (k : ∀ (a0 : Int) (m : Mm), fq1_F G m → K a0 m → K' a0 m) (f : fq1_F G M) (h : wp_X1_pass_75 S k4 K (57) (68) u2 u3 M) : wp_X1_pass_75 S k4' K' (57) (68) u2 u3 M := by
  refine m_A h (fun _ h => ?_)
  exact kk4 _ _ _ f h
theorem fq1_X1_pass_4 {X G : Mm} {S : Sh} {K K' : Int → Mm → Prop} (hG : Inv X S G) (k : ∀ (a0 : Int) (m : Mm), fq1_F G m → K a0 m → K' a0 m) : ∀ (n : Nat) (u2 : Int) (u3 : Int) (M : Mm), fq1_F G M → wp_X1_pass_4 S K n (57) (68) u2 u3 M → wp_X1_pass_4 S K' n (57) (68) u2 u3 M := by
  intro n
  induction n with
  | zero => intro u2 u3 M f h; exact h
  | succ n ih =>
    intro u2 u3 M f h
    refine m_gr (fq1_c_57_1 hG f) h (fun h => ?_)
    refine m_Get h (fun _ h => ?_)
    refine m_if h (fun h => ?_) (fun h => ?_)
    · skip
      refine m_C h (fun h => ?_)
      refine m_ex h (fun n9 h => ?_)
      refine fq1_X1_pass_83 hG k _ _ _ _ f h
    · skip
      refine m_gr (fq1_c_68_7 hG f) h (fun h => ?_)
      refine m_Ld h (fun _ h => ?_)
      refine m_gr (fq1_c_68_7 hG f) h (fun h => ?_)
      refine m_C h (fun h => ?_)
      refine m_and h (fun h => ?_)
      refine fq1_X1_turnsIn hG (fun _ _ f1 h => ?_) f h
      refine m_A h (fun _ h => ?_)
      refine m_O h (fun _ h => ?_)
      refine m_St (fq1_up (fq1_a_74 _) f1) h (fun _ f2 h => ?_)
      refine m_gr (fq1_c_57_1 hG f2) h (fun h => ?_)
      refine m_Get h (fun _ h => ?_)
      refine m_if h (fun h => ?_) (fun h => ?_)
      · skip
        refine fq1_X1_pass_75 hG (fun _ _ _ f3 h => ?_) k f2 h
        exact ih _ _ _ f3 h
      · skip
        refine m_gr (fq1_c_68_7 hG f2) h (fun h => ?_)
        refine m_Ld h (fun _ h => ?_)
        refine m_gr (fq1_c_57_1 hG f2) h (fun h => ?_)
        refine m_Get h (fun _ h => ?_)
        refine m_if h (fun h => ?_) (fun h => ?_)
        · skip
          refine fq1_X1_pass_75 hG (fun _ _ _ f4 h => ?_) k f2 h
          exact ih _ _ _ f4 h
        · skip
          refine m_A h (fun _ h => ?_)
          refine fq1_X1_pass_75 hG (fun _ _ _ f5 h => ?_) k f2 h
          exact ih _ _ _ f5 h
theorem fq1_X1_pass {X G : Mm} {S : Sh} {K K' : Int → Mm → Prop} {M : Mm} (hG : Inv X S G) (k : ∀ (a0 : Int) (m : Mm), fq1_F G m → K a0 m → K' a0 m) (f : fq1_F G M) (h : wp_X1_pass S M (57) (68) K) : wp_X1_pass S M (57) (68) K' := by
  refine m_C h (fun h => ?_)
  refine m_C h (fun h => ?_)
  refine m_ex h (fun n9 h => ?_)
  refine fq1_X1_pass_4 hG k _ _ _ _ f h
theorem fq1_X5_canHoldMore {X G : Mm} {S : Sh} {K K' : Int → Mm → Prop} {M : Mm} {u1 : Int} (hG : Inv X S G) (k : ∀ (a0 : Int) (m : Mm), fq1_F G m → K a0 m → K' a0 m) (f : fq1_F G M) (h : wp_X5_canHoldMore S M (68) u1 K) : wp_X5_canHoldMore S M (68) u1 K' := by
  refine m_and h (fun h => ?_)
  refine fq1_X5_isAtPlace hG (fun _ _ f1 h => ?_) f h
  refine m_if h (fun h => ?_) (fun h => ?_)
  · skip
    refine m_C h (fun h => ?_)
    refine m_and h (fun h => ?_)
    exact k _ _ f1 h
  · skip
    refine m_and h (fun h => ?_)
    refine fq1_X5_howManyHeld hG (fun _ _ f2 h => ?_) f1 h
    refine m_C h (fun h => ?_)
    refine m_if h (fun h => ?_) (fun h => ?_)
    · skip
      refine m_C h (fun h => ?_)
      refine m_and h (fun h => ?_)
      exact k _ _ f2 h
    · skip
      refine m_C h (fun h => ?_)
      refine m_and h (fun h => ?_)
      exact k _ _ f2 h
theorem fq1_X5_canTake {X G : Mm} {S : Sh} {K K' : Int → Mm → Prop} {M : Mm} {u1 : Int} {u2 : Int} (hG : Inv X S G) (k : ∀ (a0 : Int) (m : Mm), fq1_F G m → K a0 m → K' a0 m) (f : fq1_F G M) (h : wp_X5_canTake S M (68) u1 u2 K) : wp_X5_canTake S M (68) u1 u2 K' := by
  refine m_and h (fun h => ?_)
  refine fq1_X5_stands hG (fun _ _ f1 h => ?_) f h
  refine m_if h (fun h => ?_) (fun h => ?_)
  · skip
    refine m_C h (fun h => ?_)
    refine m_and h (fun h => ?_)
    exact k _ _ f1 h
  · skip
    refine m_gr (fq1_c_68_5 hG f1) h (fun h => ?_)
    refine m_Ld h (fun _ h => ?_)
    refine m_gr (fq1_c_68_2 hG f1) h (fun h => ?_)
    refine m_Ld h (fun _ h => ?_)
    refine m_if h (fun h => ?_) (fun h => ?_)
    · skip
      refine m_C h (fun h => ?_)
      refine m_and h (fun h => ?_)
      exact k _ _ f1 h
    · skip
      refine m_and h (fun h => ?_)
      refine fq1_X5_canHoldMore hG (fun _ _ f2 h => ?_) f1 h
      refine m_if h (fun h => ?_) (fun h => ?_)
      · skip
        refine m_C h (fun h => ?_)
        refine m_and h (fun h => ?_)
        exact k _ _ f2 h
      · skip
        refine m_C h (fun h => ?_)
        refine m_and h (fun h => ?_)
        exact k _ _ f2 h
theorem fq1_X5_giveTo {X G : Mm} {S : Sh} {K K' : Mm → Prop} {M : Mm} {u1 : Int} {u2 : Int} (hG : Inv X S G) (k : ∀ (m : Mm), fq1_F G m → K m → K' m) (f : fq1_F G M) (h : wp_X5_giveTo S M (68) u1 u2 K) : wp_X5_giveTo S M (68) u1 u2 K' := by
  refine m_gr (fq1_c_68_6 hG f) h (fun h => ?_)
  refine m_St (fq1_up (fq1_a_73 _) f) h (fun _ f1 h => ?_)
  refine m_gr (fq1_c_68_5 hG f1) h (fun h => ?_)
  refine m_C h (fun h => ?_)
  refine m_St (fq1_up (fq1_a_72 _) f1) h (fun _ f2 h => ?_)
  exact k _ f2 h
theorem fq1_X11_isPlace {X G : Mm} {S : Sh} {K K' : Int → Mm → Prop} {M : Mm} {u1 : Int} (hG : Inv X S G) (k : ∀ (a0 : Int) (m : Mm), fq1_F G m → K a0 m → K' a0 m) (f : fq1_F G M) (h : wp_X11_isPlace S M (0) u1 K) : wp_X11_isPlace S M (0) u1 K' := by
  refine m_if h (fun h => ?_) (fun h => ?_)
  · skip
    refine m_C h (fun h => ?_)
    refine m_and h (fun h => ?_)
    exact k _ _ f h
  · skip
    refine m_gr (fq1_c_0_1 hG f) h (fun h => ?_)
    refine m_gr (fq1_c_3_0 hG f) h (fun h => ?_)
    refine m_Get h (fun _ h => ?_)
    refine m_if h (fun h => ?_) (fun h => ?_)
    · skip
      refine m_C h (fun h => ?_)
      refine m_and h (fun h => ?_)
      exact k _ _ f h
    · skip
      refine m_C h (fun h => ?_)
      refine m_and h (fun h => ?_)
      exact k _ _ f h
theorem fq1_X5_roadFor {X G : Mm} {S : Sh} {K K' : Int → Mm → Prop} {M : Mm} {u2 : Int} {u3 : Int} (hG : Inv X S G) (k : ∀ (a0 : Int) (m : Mm), fq1_F G m → K a0 m → K' a0 m) (f : fq1_F G M) (h : wp_X5_roadFor S M (68) (4) u2 u3 K) : wp_X5_roadFor S M (68) (4) u2 u3 K' := by
  refine m_and h (fun h => ?_)
  refine fq1_X5_isAtPlace hG (fun _ _ f1 h => ?_) f h
  refine m_if h (fun h => ?_) (fun h => ?_)
  · skip
    refine m_C h (fun h => ?_)
    exact k _ _ f1 h
  · skip
    refine m_gr (fq1_c_68_2 hG f1) h (fun h => ?_)
    refine m_Ld h (fun _ h => ?_)
    refine m_and h (fun h => ?_)
    refine fq1_X8_roadHours hG (fun _ _ f2 h => ?_) f1 h
    exact k _ _ f2 h
theorem fq1_X5_setOut {X G : Mm} {S : Sh} {K K' : Mm → Prop} {M : Mm} {u1 : Int} {u2 : Int} {u3 : Int} (hG : Inv X S G) (k : ∀ (m : Mm), fq1_F G m → K m → K' m) (f : fq1_F G M) (h : wp_X5_setOut S M (68) u1 u2 u3 K) : wp_X5_setOut S M (68) u1 u2 u3 K' := by
  refine m_gr (fq1_c_68_2 hG f) h (fun h => ?_)
  refine m_St (fq1_up (fq1_a_69 _) f) h (fun _ f1 h => ?_)
  refine m_gr (fq1_c_68_3 hG f1) h (fun h => ?_)
  refine m_St (fq1_up (fq1_a_70 _) f1) h (fun _ f2 h => ?_)
  exact k _ f2 h
theorem fq1_X8_hasWay {X G : Mm} {S : Sh} {K K' : Int → Mm → Prop} {M : Mm} {u1 : Int} {u2 : Int} (hG : Inv X S G) (k : ∀ (a0 : Int) (m : Mm), fq1_F G m → K a0 m → K' a0 m) (f : fq1_F G M) (h : wp_X8_hasWay S M (4) u1 u2 K) : wp_X8_hasWay S M (4) u1 u2 K' := by
  refine m_gr (fq1_c_4_9 hG f) h (fun h => ?_)
  refine fq1_X8_pair hG (fun _ _ f1 h => ?_) f h
  refine m_Ld h (fun _ h => ?_)
  refine m_C h (fun h => ?_)
  refine m_if h (fun h => ?_) (fun h => ?_)
  · skip
    refine m_C h (fun h => ?_)
    refine m_and h (fun h => ?_)
    exact k _ _ f1 h
  · skip
    refine m_C h (fun h => ?_)
    refine m_and h (fun h => ?_)
    exact k _ _ f1 h
theorem fq1_X8_wayHours {X G : Mm} {S : Sh} {K K' : Int → Mm → Prop} {M : Mm} {u1 : Int} {u2 : Int} (hG : Inv X S G) (k : ∀ (a0 : Int) (m : Mm), fq1_F G m → K a0 m → K' a0 m) (f : fq1_F G M) (h : wp_X8_wayHours S M (4) u1 u2 K) : wp_X8_wayHours S M (4) u1 u2 K' := by
  refine m_gr (fq1_c_4_9 hG f) h (fun h => ?_)
  refine fq1_X8_pair hG (fun _ _ f1 h => ?_) f h
  refine m_Ld h (fun _ h => ?_)
  exact k _ _ f1 h
theorem fq1_X8_nextPlace_43 {X G : Mm} {S : Sh} {k2 k2' : Int → Int → Int → Int → Mm → Prop} {K K' : Int → Mm → Prop} {M : Mm} {u1 : Int} {u2 : Int} {u3 : Int} (hG : Inv X S G) (kk2 : ∀ (a1 : Int) (a2 : Int) (a3 : Int) (m : Mm), fq1_F G m → k2 (4) a1 a2 a3 m → k2' (4) a1 a2 a3 m) (k : ∀ (a0 : Int) (m : Mm), fq1_F G m → K a0 m → K' a0 m) (f : fq1_F G M) (h : wp_X8_nextPlace_43 S k2 K (4) u1 u2 u3 M) : wp_X8_nextPlace_43 S k2' K' (4) u1 u2 u3 M := by
  refine m_A h (fun _ h => ?_)
  exact kk2 _ _ _ _ f h
theorem fq1_X8_nextPlace_2 {X G : Mm} {S : Sh} {K K' : Int → Mm → Prop} (hG : Inv X S G) (k : ∀ (a0 : Int) (m : Mm), fq1_F G m → K a0 m → K' a0 m) : ∀ (n : Nat) (u1 : Int) (u2 : Int) (u3 : Int) (M : Mm), fq1_F G M → wp_X8_nextPlace_2 S K n (4) u1 u2 u3 M → wp_X8_nextPlace_2 S K' n (4) u1 u2 u3 M := by
  intro n
  induction n with
  | zero => intro u1 u2 u3 M f h; exact h
  | succ n ih =>
    intro u1 u2 u3 M f h
    refine m_Get h (fun _ h => ?_)
    refine m_if h (fun h => ?_) (fun h => ?_)
    · skip
      refine m_C h (fun h => ?_)
      exact k _ _ f h
    · skip
      refine m_and h (fun h => ?_)
      refine fq1_X8_roadHours hG (fun _ _ f1 h => ?_) f h
      refine m_if h (fun h => ?_) (fun h => ?_)
      · skip
        refine fq1_X8_nextPlace_43 hG (fun _ _ _ _ f2 h => ?_) k f1 h
        exact ih _ _ _ _ f2 h
      · skip
        refine m_and h (fun h => ?_)
        refine fq1_X8_wayHours hG (fun _ _ f3 h => ?_) f1 h
        refine m_A h (fun _ h => ?_)
        refine m_and h (fun h => ?_)
        refine fq1_X8_wayHours hG (fun _ _ f4 h => ?_) f3 h
        refine m_if h (fun h => ?_) (fun h => ?_)
        · skip
          refine fq1_X8_nextPlace_43 hG (fun _ _ _ _ f5 h => ?_) k f4 h
          exact ih _ _ _ _ f5 h
        · skip
          exact k _ _ f4 h
theorem fq1_X8_nextPlace {X G : Mm} {S : Sh} {K K' : Int → Mm → Prop} {M : Mm} {u1 : Int} {u2 : Int} (hG : Inv X S G) (k : ∀ (a0 : Int) (m : Mm), fq1_F G m → K a0 m → K' a0 m) (f : fq1_F G M) (h : wp_X8_nextPlace S M (4) u1 u2 K) : wp_X8_nextPlace S M (4) u1 u2 K' := by
  refine m_C h (fun h => ?_)
  refine m_ex h (fun n9 h => ?_)
  refine fq1_X8_nextPlace_2 hG k _ _ _ _ _ f h
theorem fq1_X11_way {X G : Mm} {S : Sh} {K K' : Int → Mm → Prop} {M : Mm} {u1 : Int} {u2 : Int} {u3 : Int} (hG : Inv X S G) (k : ∀ (a0 : Int) (m : Mm), fq1_F G m → K a0 m → K' a0 m) (f : fq1_F G M) (h : wp_X11_way S M (0) u1 u2 u3 K) : wp_X11_way S M (0) u1 u2 u3 K' := by
  refine m_and h (fun h => ?_)
  refine fq1_X11_isPlace hG (fun _ _ f1 h => ?_) f h
  refine m_if h (fun h => ?_) (fun h => ?_)
  · skip
    refine m_C h (fun h => ?_)
    exact k _ _ f1 h
  · skip
    refine m_and h (fun h => ?_)
    refine fq1_X11_isPlace hG (fun _ _ f2 h => ?_) f1 h
    refine m_if h (fun h => ?_) (fun h => ?_)
    · skip
      refine m_C h (fun h => ?_)
      exact k _ _ f2 h
    · skip
      refine m_if h (fun h => ?_) (fun h => ?_)
      · skip
        refine m_C h (fun h => ?_)
        exact k _ _ f2 h
      · skip
        refine m_C h (fun h => ?_)
        refine m_if h (fun h => ?_) (fun h => ?_)
        · skip
          refine m_gr (fq1_c_0_1 hG f2) h (fun h => ?_)
          refine m_gr (fq1_c_3_0 hG f2) h (fun h => ?_)
          refine m_and h (fun h => ?_)
          refine fq1_X8_hasWay hG (fun _ _ f3 h => ?_) f2 h
          refine m_if h (fun h => ?_) (fun h => ?_)
          · skip
            refine m_if h (fun h => ?_) (fun h => ?_)
            · skip
              refine m_gr (fq1_c_0_1 hG f3) h (fun h => ?_)
              refine m_gr (fq1_c_3_0 hG f3) h (fun h => ?_)
              refine m_and h (fun h => ?_)
              refine fq1_X8_nextPlace hG (fun _ _ f4 h => ?_) f3 h
              exact k _ _ f4 h
            · skip
              refine m_gr (fq1_c_0_1 hG f3) h (fun h => ?_)
              refine m_gr (fq1_c_3_0 hG f3) h (fun h => ?_)
              refine m_and h (fun h => ?_)
              refine fq1_X8_wayHours hG (fun _ _ f5 h => ?_) f3 h
              exact k _ _ f5 h
          · skip
            refine m_C h (fun h => ?_)
            exact k _ _ f3 h
        · skip
          refine m_C h (fun h => ?_)
          exact k _ _ f2 h
end
