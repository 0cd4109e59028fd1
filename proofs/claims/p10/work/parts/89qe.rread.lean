theorem zc_isDairyWord {X : Mm} {S : Sh} {m0 : Mm} {K : Int → Mm → Prop} {b : Int → Int} {n q : Int} (hS : Shp S) (hm0 : Inv X S m0) (ht : TR X b n) (hq : m0 336 8 = q) (hqn : q ≤ n) (sq : Sk b n q q) (h1 : ∀ (i : Nat) (M1 : Mm), i < 6 → (∀ j : Nat, j < i → ¬ Wk b n j q) → Wk b n i q → Inv X S M1 → (∀ c p : Int, ¬ (c = 336 ∧ 8 ≤ p ∧ p ≤ 8) → M1 c p = m0 c p) → M1 336 8 = q → K 1 M1) (h0 : ∀ M1 : Mm, (∀ j : Nat, j < 6 → ¬ Wk b n j q) → Inv X S M1 → (∀ c p : Int, ¬ (c = 336 ∧ 8 ≤ p ∧ p ≤ 8) → M1 c p = m0 c p) → M1 336 8 = q → K 0 M1) : wp_X12_isDairyWord S m0 336 K := by
  obtain ⟨w0, w1, w2, w3, w4, w5, -⟩ := pw_all
  have at1 : ∀ {p q' : Int}, p = q → Sk b n p q' → q' = q := fun e h => by rw [e] at h; exact (sq.uniq h).symm
  refine u_X12_isDairyWord ?_
  have yes : ∀ (i : Nat) (M1 : Mm), i < 6 → (∀ j : Nat, j < i → ¬ Wk b n j q) → Wk b n i q → Inv X S M1 → (∀ c p : Int, ¬ (c = 336 ∧ 8 ≤ p ∧ p ≤ 8) → M1 c p = m0 c p) → M1 336 8 = q → wp_X12_isDairyWord_60 S K M1 := by
    intro i M1 a1 a2 a3 a4 a5 a6
    refine u_X12_isDairyWord_60 ?_
    exact g_C ⟨by decide, h1 i M1 a1 a2 a3 a4 a5 a6⟩
  refine g_C ?_
  refine ⟨hS.k336, ?_⟩
  refine zx_isWord 0 hS hm0 ht (by omega) (by decide) w0.symm (fun q1 m1 hm1 f1 sk1 x1 qn1 k1 => ?_) (fun q1 m1 hm1 f1 sk1 x1 qn1 k1 => ?_)
  · have e1 := at1 hq sk1
    rw [e1] at x1 k1
    refine g_ifT (by decide) ?_
    exact yes 0 m1 (by decide) (fun j hj => absurd hj (by omega)) k1 hm1 (fun c p z => by rw [f1 c p z]) x1
  have e1 := at1 hq sk1
  rw [e1] at x1 k1
  refine g_ifF (by decide) ?_
  refine g_C ?_
  refine ⟨hS.k336, ?_⟩
  refine zx_isWord 1 hS hm1 ht (by omega) (by decide) w1.symm (fun q2 m2 hm2 f2 sk2 x2 qn2 k2 => ?_) (fun q2 m2 hm2 f2 sk2 x2 qn2 k2 => ?_)
  · have e2 := at1 x1 sk2
    rw [e2] at x2 k2
    refine g_ifT (by decide) ?_
    exact yes 1 m2 (by decide) (fun j hj => by obtain rfl : j = 0 := (by omega); assumption) k2 hm2 (fun c p z => by rw [f2 c p z, f1 c p z]) x2
  have e2 := at1 x1 sk2
  rw [e2] at x2 k2
  refine g_ifF (by decide) ?_
  refine g_C ?_
  refine ⟨hS.k336, ?_⟩
  refine zx_isWord 2 hS hm2 ht (by omega) (by decide) w2.symm (fun q3 m3 hm3 f3 sk3 x3 qn3 k3 => ?_) (fun q3 m3 hm3 f3 sk3 x3 qn3 k3 => ?_)
  · have e3 := at1 x2 sk3
    rw [e3] at x3 k3
    refine g_ifT (by decide) ?_
    exact yes 2 m3 (by decide) (fun j hj => by rcases (show j = 0 ∨ j = 1 by omega) with e | e <;> subst e <;> assumption) k3 hm3 (fun c p z => by rw [f3 c p z, f2 c p z, f1 c p z]) x3
  have e3 := at1 x2 sk3
  rw [e3] at x3 k3
  refine g_ifF (by decide) ?_
  refine g_C ?_
  refine ⟨hS.k336, ?_⟩
  refine zx_isWord 3 hS hm3 ht (by omega) (by decide) w3.symm (fun q4 m4 hm4 f4 sk4 x4 qn4 k4 => ?_) (fun q4 m4 hm4 f4 sk4 x4 qn4 k4 => ?_)
  · have e4 := at1 x3 sk4
    rw [e4] at x4 k4
    refine g_ifT (by decide) ?_
    exact yes 3 m4 (by decide) (fun j hj => by rcases (show j = 0 ∨ j = 1 ∨ j = 2 by omega) with e | e | e <;> subst e <;> assumption) k4 hm4 (fun c p z => by rw [f4 c p z, f3 c p z, f2 c p z, f1 c p z]) x4
  have e4 := at1 x3 sk4
  rw [e4] at x4 k4
  refine g_ifF (by decide) ?_
  refine g_C ?_
  refine ⟨hS.k336, ?_⟩
  refine zx_isWord 4 hS hm4 ht (by omega) (by decide) w4.symm (fun q5 m5 hm5 f5 sk5 x5 qn5 k5 => ?_) (fun q5 m5 hm5 f5 sk5 x5 qn5 k5 => ?_)
  · have e5 := at1 x4 sk5
    rw [e5] at x5 k5
    refine g_ifT (by decide) ?_
    exact yes 4 m5 (by decide) (fun j hj => by rcases (show j = 0 ∨ j = 1 ∨ j = 2 ∨ j = 3 by omega) with e | e | e | e <;> subst e <;> assumption) k5 hm5 (fun c p z => by rw [f5 c p z, f4 c p z, f3 c p z, f2 c p z, f1 c p z]) x5
  have e5 := at1 x4 sk5
  rw [e5] at x5 k5
  refine g_ifF (by decide) ?_
  refine g_C ?_
  refine ⟨hS.k336, ?_⟩
  refine zx_isWord 5 hS hm5 ht (by omega) (by decide) w5.symm (fun q6 m6 hm6 f6 sk6 x6 qn6 k6 => ?_) (fun q6 m6 hm6 f6 sk6 x6 qn6 k6 => ?_)
  · have e6 := at1 x5 sk6
    rw [e6] at x6 k6
    refine g_ifF (by decide) ?_
    exact yes 5 m6 (by decide) (fun j hj => by rcases (show j = 0 ∨ j = 1 ∨ j = 2 ∨ j = 3 ∨ j = 4 by omega) with e | e | e | e | e <;> subst e <;> assumption) k6 hm6 (fun c p z => by rw [f6 c p z, f5 c p z, f4 c p z, f3 c p z, f2 c p z, f1 c p z]) x6
  have e6 := at1 x5 sk6
  rw [e6] at x6 k6
  refine g_ifT rfl ?_
  exact g_C ⟨by decide, h0 m6 (fun j hj => by rcases (show j = 0 ∨ j = 1 ∨ j = 2 ∨ j = 3 ∨ j = 4 ∨ j = 5 by omega) with e | e | e | e | e | e <;> subst e <;> assumption) hm6 (fun c p z => by rw [f6 c p z, f5 c p z, f4 c p z, f3 c p z, f2 c p z, f1 c p z]) x6⟩
/-- a clause of a DAIRY, its word being the i-th -/
theorem zc_line {X : Mm} {S : Sh} {m0 : Mm} {K : Int → Mm → Prop} {b : Int → Int} {n k u1 : Int} {T : Int → Dd → Prop} {D : Dd} (i : Nat) (hi : i < 6) (hS : Shp S) (hm0 : Inv X S m0) (ht : TR X b n) (rd : Rd D m0) (h9 : m0 336 9 = 0) (hq : m0 336 8 = u1) (h1 : 0 ≤ u1) (h1' : u1 ≤ n) (sq : Sk b n u1 u1) (hn : ∀ j : Nat, j < i → ¬ Wk b n j u1) (wk : Wk b n i u1) (hp : PR m0) (d0 : D 0 = 0 ∨ 2 ≤ D 0) (hF : ((i = 0 ∧ ¬ D 0 = 0) ∨ (¬ i = 0 ∧ D 0 = 0) ∨ dFull D i) → T (5 + 8 * u1) dz) (hL : ¬ ((i = 0 ∧ ¬ D 0 = 0) ∨ (¬ i = 0 ∧ D 0 = 0) ∨ dFull D i) → Ld b n T 1 i 0 (u1 + tl i) k D) (hf : ∀ M1 : Mm, Inv X S M1 → ¬ M1 336 9 = 0 → T (M1 336 9) dz → K 0 M1) (hk : ∀ (M1 : Mm) (D' : Dd), Inv X S M1 → PR M1 → Rd D' M1 → 2 ≤ D' 0 → (∀ p : Int, (p = 11 ∨ p = 14) → M1 336 p = m0 336 p) → u1 ≤ M1 336 8 → M1 336 8 ≤ n → M1 336 9 = 0 → Ld b n T 2 0 0 (M1 336 8) k D' → K 1 M1) : wp_X12_dairyLineHere S m0 336 u1 K := by
  obtain ⟨w0, w1, w2, w3, w4, w5, -⟩ := pw_all
  have nb := ht.2.1
  have at1 : ∀ {p q' : Int}, p = u1 → Sk b n p q' → q' = u1 := fun e h => by rw [e] at h; exact (sq.uniq h).symm
  refine u_X12_dairyLineHere ?_
  refine g_C ?_
  refine ⟨hS.k336, ?_⟩
  refine zx_isWord 0 hS hm0 ht (by omega) (by decide) w0.symm (fun q1 m1 hm1 f1 sk1 x1 qn1 k1 => ?_) (fun q1 m1 hm1 f1 sk1 x1 qn1 k1 => ?_)
  · have e1 := at1 hq sk1
    rw [e1] at x1 k1
    have ei : i = 0 := by
      by_cases e : i = 0
      · exact e
      · exact absurd k1 (hn 0 (by omega))
    subst ei
    refine g_ifF (by decide) ?_
    refine ⟨hS.k336, ?_⟩
    exact zc_isDairyHere hS hm1 ht (rd.same (fun p => f1 342 p (by first | decide | exact fun z => absurd z.1 (by decide) | exact ⟨fun z => absurd z.1 (by decide), fun z => absurd z.1 (by decide)⟩ | omega))) ((f1 336 9 (by first | decide | exact fun z => absurd z.1 (by decide) | exact ⟨fun z => absurd z.1 (by decide), fun z => absurd z.1 (by decide)⟩ | omega)).trans h9) x1 h1 h1' wk (hp.same (fun p => f1 342 p (by first | decide | exact fun z => absurd z.1 (by decide) | exact ⟨fun z => absurd z.1 (by decide), fun z => absurd z.1 (by decide)⟩ | omega))) (fun z => hF (Or.inl ⟨rfl, z⟩)) (fun z => hL (fun y => by rcases y with y | y | y; exact y.2 z; exact y.1 rfl; exact y)) (fun m9 hm9 n9 t9 => ⟨by decide, hf m9 hm9 n9 t9⟩) (fun m9 D9 hm9 p9 r9 d9 t9 a9 b9 y9 l9 => ⟨by decide, hk m9 D9 hm9 p9 r9 d9 (fun p q => (t9 p q).trans (f1 336 p (by first | decide | exact fun z => absurd z.1 (by decide) | exact ⟨fun z => absurd z.1 (by decide), fun z => absurd z.1 (by decide)⟩ | omega))) a9 b9 y9 l9⟩)
  · have e1 := at1 hq sk1
    rw [e1] at x1 k1
    have ne : ¬ i = 0 := fun z => by rw [z] at wk; exact k1 wk
    have r1 := rd.same (fun p => f1 342 p (by first | decide | exact fun z => absurd z.1 (by decide) | exact ⟨fun z => absurd z.1 (by decide), fun z => absurd z.1 (by decide)⟩ | omega))
    have e01 := r1 0 (by decide) (by decide)
    refine g_ifT rfl ?_
    refine g_getr 7 342 rfl hS.k336 hm1.f_336_7 (by decide) ?_
    refine g_C ?_
    refine g_ldu hS.k342 hS.l342 (by omega) (by omega) (fun v ev => ?_)
    refine g_if (fun w => ?_) (fun w => ?_)
    · have D0 : ¬ D 0 = 0 := by omega
      have D2 : 2 ≤ D 0 := by omega
      have hF' : dFull D i → T (5 + 8 * u1) dz := fun z => hF (Or.inr (Or.inr z))
      have hL' : ¬ dFull D i → Ld b n T 1 i 0 (u1 + tl i) k D := fun z => hL (fun y => by rcases y with y | y | y; exact ne y.1; exact D0 y.2; exact z y)
      refine g_C ?_
      refine ⟨hS.k336, ?_⟩
      refine zx_isWord 1 hS hm1 ht (by omega) (by decide) w1.symm (fun q2 m2 hm2 f2 sk2 x2 qn2 k2 => ?_) (fun q2 m2 hm2 f2 sk2 x2 qn2 k2 => ?_)
      · have e2 := at1 x1 sk2
        rw [e2] at x2 k2
        have ei : i = 1 := by
          by_cases e : i = 1
          · exact e
          · by_cases e2 : 1 < i
            · exact absurd k2 (hn 1 e2)
            · exfalso
              exact ne (by omega)
        subst ei
        refine g_ifF (by decide) ?_
        exact ⟨hS.k336, zc_isRoadHere hS hm2 ht (r1.same (fun p => by rw [f2 342 p (by first | decide | exact fun z => absurd z.1 (by decide) | exact ⟨fun z => absurd z.1 (by decide), fun z => absurd z.1 (by decide)⟩ | omega)])) (by rw [f2 336 9 (by first | decide | exact fun z => absurd z.1 (by decide) | exact ⟨fun z => absurd z.1 (by decide), fun z => absurd z.1 (by decide)⟩ | omega), f1 336 9 (by first | decide | exact fun z => absurd z.1 (by decide) | exact ⟨fun z => absurd z.1 (by decide), fun z => absurd z.1 (by decide)⟩ | omega)]; exact h9) x2 h1 h1' wk (hp.same (fun p => by rw [f2 342 p (by first | decide | exact fun z => absurd z.1 (by decide) | exact ⟨fun z => absurd z.1 (by decide), fun z => absurd z.1 (by decide)⟩ | omega), f1 342 p (by first | decide | exact fun z => absurd z.1 (by decide) | exact ⟨fun z => absurd z.1 (by decide), fun z => absurd z.1 (by decide)⟩ | omega)])) D2 hF' hL' (fun m9 hm9 n9 t9 => ⟨by decide, hf m9 hm9 n9 t9⟩) (fun m9 D9 hm9 p9 r9 d9 t9 a9 b9 y9 l9 => ⟨by decide, hk m9 D9 hm9 p9 r9 d9 (fun p q => by rw [t9 p q, f2 336 p (by first | decide | exact fun z => absurd z.1 (by decide) | exact ⟨fun z => absurd z.1 (by decide), fun z => absurd z.1 (by decide)⟩ | omega), f1 336 p (by first | decide | exact fun z => absurd z.1 (by decide) | exact ⟨fun z => absurd z.1 (by decide), fun z => absurd z.1 (by decide)⟩ | omega)]) a9 b9 y9 l9⟩)⟩
      have e2 := at1 x1 sk2
      rw [e2] at x2 k2
      refine g_ifT rfl ?_
      refine g_C ?_
      refine ⟨hS.k336, ?_⟩
      refine zx_isWord 2 hS hm2 ht (by omega) (by decide) w2.symm (fun q3 m3 hm3 f3 sk3 x3 qn3 k3 => ?_) (fun q3 m3 hm3 f3 sk3 x3 qn3 k3 => ?_)
      · have e3 := at1 x2 sk3
        rw [e3] at x3 k3
        have ei : i = 2 := by
          by_cases e : i = 2
          · exact e
          · by_cases e2 : 2 < i
            · exact absurd k3 (hn 2 e2)
            · exfalso
              rcases (show i = 0 ∨ i = 1 by omega) with z | z
              · exact ne z
              · rw [z] at wk; exact k2 wk
        subst ei
        refine g_ifF (by decide) ?_
        exact ⟨hS.k336, zc_isHandHere hS hm3 ht (r1.same (fun p => by rw [f3 342 p (by first | decide | exact fun z => absurd z.1 (by decide) | exact ⟨fun z => absurd z.1 (by decide), fun z => absurd z.1 (by decide)⟩ | omega), f2 342 p (by first | decide | exact fun z => absurd z.1 (by decide) | exact ⟨fun z => absurd z.1 (by decide), fun z => absurd z.1 (by decide)⟩ | omega)])) (by rw [f3 336 9 (by first | decide | exact fun z => absurd z.1 (by decide) | exact ⟨fun z => absurd z.1 (by decide), fun z => absurd z.1 (by decide)⟩ | omega), f2 336 9 (by first | decide | exact fun z => absurd z.1 (by decide) | exact ⟨fun z => absurd z.1 (by decide), fun z => absurd z.1 (by decide)⟩ | omega), f1 336 9 (by first | decide | exact fun z => absurd z.1 (by decide) | exact ⟨fun z => absurd z.1 (by decide), fun z => absurd z.1 (by decide)⟩ | omega)]; exact h9) x3 h1 h1' wk (hp.same (fun p => by rw [f3 342 p (by first | decide | exact fun z => absurd z.1 (by decide) | exact ⟨fun z => absurd z.1 (by decide), fun z => absurd z.1 (by decide)⟩ | omega), f2 342 p (by first | decide | exact fun z => absurd z.1 (by decide) | exact ⟨fun z => absurd z.1 (by decide), fun z => absurd z.1 (by decide)⟩ | omega), f1 342 p (by first | decide | exact fun z => absurd z.1 (by decide) | exact ⟨fun z => absurd z.1 (by decide), fun z => absurd z.1 (by decide)⟩ | omega)])) D2 hF' hL' (fun m9 hm9 n9 t9 => ⟨by decide, hf m9 hm9 n9 t9⟩) (fun m9 D9 hm9 p9 r9 d9 t9 a9 b9 y9 l9 => ⟨by decide, hk m9 D9 hm9 p9 r9 d9 (fun p q => by rw [t9 p q, f3 336 p (by first | decide | exact fun z => absurd z.1 (by decide) | exact ⟨fun z => absurd z.1 (by decide), fun z => absurd z.1 (by decide)⟩ | omega), f2 336 p (by first | decide | exact fun z => absurd z.1 (by decide) | exact ⟨fun z => absurd z.1 (by decide), fun z => absurd z.1 (by decide)⟩ | omega), f1 336 p (by first | decide | exact fun z => absurd z.1 (by decide) | exact ⟨fun z => absurd z.1 (by decide), fun z => absurd z.1 (by decide)⟩ | omega)]) a9 b9 y9 l9⟩)⟩
      have e3 := at1 x2 sk3
      rw [e3] at x3 k3
      refine g_ifT rfl ?_
      refine g_C ?_
      refine ⟨hS.k336, ?_⟩
      refine zx_isWord 3 hS hm3 ht (by omega) (by decide) w3.symm (fun q4 m4 hm4 f4 sk4 x4 qn4 k4 => ?_) (fun q4 m4 hm4 f4 sk4 x4 qn4 k4 => ?_)
      · have e4 := at1 x3 sk4
        rw [e4] at x4 k4
        have ei : i = 3 := by
          by_cases e : i = 3
          · exact e
          · by_cases e2 : 3 < i
            · exact absurd k4 (hn 3 e2)
            · exfalso
              rcases (show i = 0 ∨ i = 1 ∨ i = 2 by omega) with z | z | z
              · exact ne z
              · rw [z] at wk; exact k2 wk
              · rw [z] at wk; exact k3 wk
        subst ei
        refine g_ifF (by decide) ?_
        exact ⟨hS.k336, zc_isJugHere hS hm4 ht (r1.same (fun p => by rw [f4 342 p (by first | decide | exact fun z => absurd z.1 (by decide) | exact ⟨fun z => absurd z.1 (by decide), fun z => absurd z.1 (by decide)⟩ | omega), f3 342 p (by first | decide | exact fun z => absurd z.1 (by decide) | exact ⟨fun z => absurd z.1 (by decide), fun z => absurd z.1 (by decide)⟩ | omega), f2 342 p (by first | decide | exact fun z => absurd z.1 (by decide) | exact ⟨fun z => absurd z.1 (by decide), fun z => absurd z.1 (by decide)⟩ | omega)])) (by rw [f4 336 9 (by first | decide | exact fun z => absurd z.1 (by decide) | exact ⟨fun z => absurd z.1 (by decide), fun z => absurd z.1 (by decide)⟩ | omega), f3 336 9 (by first | decide | exact fun z => absurd z.1 (by decide) | exact ⟨fun z => absurd z.1 (by decide), fun z => absurd z.1 (by decide)⟩ | omega), f2 336 9 (by first | decide | exact fun z => absurd z.1 (by decide) | exact ⟨fun z => absurd z.1 (by decide), fun z => absurd z.1 (by decide)⟩ | omega), f1 336 9 (by first | decide | exact fun z => absurd z.1 (by decide) | exact ⟨fun z => absurd z.1 (by decide), fun z => absurd z.1 (by decide)⟩ | omega)]; exact h9) x4 h1 h1' wk (hp.same (fun p => by rw [f4 342 p (by first | decide | exact fun z => absurd z.1 (by decide) | exact ⟨fun z => absurd z.1 (by decide), fun z => absurd z.1 (by decide)⟩ | omega), f3 342 p (by first | decide | exact fun z => absurd z.1 (by decide) | exact ⟨fun z => absurd z.1 (by decide), fun z => absurd z.1 (by decide)⟩ | omega), f2 342 p (by first | decide | exact fun z => absurd z.1 (by decide) | exact ⟨fun z => absurd z.1 (by decide), fun z => absurd z.1 (by decide)⟩ | omega), f1 342 p (by first | decide | exact fun z => absurd z.1 (by decide) | exact ⟨fun z => absurd z.1 (by decide), fun z => absurd z.1 (by decide)⟩ | omega)])) D2 hF' hL' (fun m9 hm9 n9 t9 => ⟨by decide, hf m9 hm9 n9 t9⟩) (fun m9 D9 hm9 p9 r9 d9 t9 a9 b9 y9 l9 => ⟨by decide, hk m9 D9 hm9 p9 r9 d9 (fun p q => by rw [t9 p q, f4 336 p (by first | decide | exact fun z => absurd z.1 (by decide) | exact ⟨fun z => absurd z.1 (by decide), fun z => absurd z.1 (by decide)⟩ | omega), f3 336 p (by first | decide | exact fun z => absurd z.1 (by decide) | exact ⟨fun z => absurd z.1 (by decide), fun z => absurd z.1 (by decide)⟩ | omega), f2 336 p (by first | decide | exact fun z => absurd z.1 (by decide) | exact ⟨fun z => absurd z.1 (by decide), fun z => absurd z.1 (by decide)⟩ | omega), f1 336 p (by first | decide | exact fun z => absurd z.1 (by decide) | exact ⟨fun z => absurd z.1 (by decide), fun z => absurd z.1 (by decide)⟩ | omega)]) a9 b9 y9 l9⟩)⟩
      have e4 := at1 x3 sk4
      rw [e4] at x4 k4
      refine g_ifT rfl ?_
      refine g_C ?_
      refine ⟨hS.k336, ?_⟩
      refine zx_isWord 4 hS hm4 ht (by omega) (by decide) w4.symm (fun q5 m5 hm5 f5 sk5 x5 qn5 k5 => ?_) (fun q5 m5 hm5 f5 sk5 x5 qn5 k5 => ?_)
      · have e5 := at1 x4 sk5
        rw [e5] at x5 k5
        have ei : i = 4 := by
          by_cases e : i = 4
          · exact e
          · by_cases e2 : 4 < i
            · exact absurd k5 (hn 4 e2)
            · exfalso
              rcases (show i = 0 ∨ i = 1 ∨ i = 2 ∨ i = 3 by omega) with z | z | z | z
              · exact ne z
              · rw [z] at wk; exact k2 wk
              · rw [z] at wk; exact k3 wk
              · rw [z] at wk; exact k4 wk
        subst ei
        refine g_ifF (by decide) ?_
        exact ⟨hS.k336, zc_isHeatHere hS hm5 ht (r1.same (fun p => by rw [f5 342 p (by first | decide | exact fun z => absurd z.1 (by decide) | exact ⟨fun z => absurd z.1 (by decide), fun z => absurd z.1 (by decide)⟩ | omega), f4 342 p (by first | decide | exact fun z => absurd z.1 (by decide) | exact ⟨fun z => absurd z.1 (by decide), fun z => absurd z.1 (by decide)⟩ | omega), f3 342 p (by first | decide | exact fun z => absurd z.1 (by decide) | exact ⟨fun z => absurd z.1 (by decide), fun z => absurd z.1 (by decide)⟩ | omega), f2 342 p (by first | decide | exact fun z => absurd z.1 (by decide) | exact ⟨fun z => absurd z.1 (by decide), fun z => absurd z.1 (by decide)⟩ | omega)])) (by rw [f5 336 9 (by first | decide | exact fun z => absurd z.1 (by decide) | exact ⟨fun z => absurd z.1 (by decide), fun z => absurd z.1 (by decide)⟩ | omega), f4 336 9 (by first | decide | exact fun z => absurd z.1 (by decide) | exact ⟨fun z => absurd z.1 (by decide), fun z => absurd z.1 (by decide)⟩ | omega), f3 336 9 (by first | decide | exact fun z => absurd z.1 (by decide) | exact ⟨fun z => absurd z.1 (by decide), fun z => absurd z.1 (by decide)⟩ | omega), f2 336 9 (by first | decide | exact fun z => absurd z.1 (by decide) | exact ⟨fun z => absurd z.1 (by decide), fun z => absurd z.1 (by decide)⟩ | omega), f1 336 9 (by first | decide | exact fun z => absurd z.1 (by decide) | exact ⟨fun z => absurd z.1 (by decide), fun z => absurd z.1 (by decide)⟩ | omega)]; exact h9) x5 h1 h1' wk (hp.same (fun p => by rw [f5 342 p (by first | decide | exact fun z => absurd z.1 (by decide) | exact ⟨fun z => absurd z.1 (by decide), fun z => absurd z.1 (by decide)⟩ | omega), f4 342 p (by first | decide | exact fun z => absurd z.1 (by decide) | exact ⟨fun z => absurd z.1 (by decide), fun z => absurd z.1 (by decide)⟩ | omega), f3 342 p (by first | decide | exact fun z => absurd z.1 (by decide) | exact ⟨fun z => absurd z.1 (by decide), fun z => absurd z.1 (by decide)⟩ | omega), f2 342 p (by first | decide | exact fun z => absurd z.1 (by decide) | exact ⟨fun z => absurd z.1 (by decide), fun z => absurd z.1 (by decide)⟩ | omega), f1 342 p (by first | decide | exact fun z => absurd z.1 (by decide) | exact ⟨fun z => absurd z.1 (by decide), fun z => absurd z.1 (by decide)⟩ | omega)])) D2 hF' hL' (fun m9 hm9 n9 t9 => ⟨by decide, hf m9 hm9 n9 t9⟩) (fun m9 D9 hm9 p9 r9 d9 t9 a9 b9 y9 l9 => ⟨by decide, hk m9 D9 hm9 p9 r9 d9 (fun p q => by rw [t9 p q, f5 336 p (by first | decide | exact fun z => absurd z.1 (by decide) | exact ⟨fun z => absurd z.1 (by decide), fun z => absurd z.1 (by decide)⟩ | omega), f4 336 p (by first | decide | exact fun z => absurd z.1 (by decide) | exact ⟨fun z => absurd z.1 (by decide), fun z => absurd z.1 (by decide)⟩ | omega), f3 336 p (by first | decide | exact fun z => absurd z.1 (by decide) | exact ⟨fun z => absurd z.1 (by decide), fun z => absurd z.1 (by decide)⟩ | omega), f2 336 p (by first | decide | exact fun z => absurd z.1 (by decide) | exact ⟨fun z => absurd z.1 (by decide), fun z => absurd z.1 (by decide)⟩ | omega), f1 336 p (by first | decide | exact fun z => absurd z.1 (by decide) | exact ⟨fun z => absurd z.1 (by decide), fun z => absurd z.1 (by decide)⟩ | omega)]) a9 b9 y9 l9⟩)⟩
      have e5 := at1 x4 sk5
      rw [e5] at x5 k5
      refine g_ifT rfl ?_
      have ei : i = 5 := by
        by_cases e : i = 5
        · exact e
        · exfalso
          rcases (show i = 0 ∨ i = 1 ∨ i = 2 ∨ i = 3 ∨ i = 4 by omega) with z | z | z | z | z
          · exact ne z
          · rw [z] at wk; exact k2 wk
          · rw [z] at wk; exact k3 wk
          · rw [z] at wk; exact k4 wk
          · rw [z] at wk; exact k5 wk
      subst ei
      exact ⟨hS.k336, zc_isWantHere hS hm5 ht (r1.same (fun p => by rw [f5 342 p (by first | decide | exact fun z => absurd z.1 (by decide) | exact ⟨fun z => absurd z.1 (by decide), fun z => absurd z.1 (by decide)⟩ | omega), f4 342 p (by first | decide | exact fun z => absurd z.1 (by decide) | exact ⟨fun z => absurd z.1 (by decide), fun z => absurd z.1 (by decide)⟩ | omega), f3 342 p (by first | decide | exact fun z => absurd z.1 (by decide) | exact ⟨fun z => absurd z.1 (by decide), fun z => absurd z.1 (by decide)⟩ | omega), f2 342 p (by first | decide | exact fun z => absurd z.1 (by decide) | exact ⟨fun z => absurd z.1 (by decide), fun z => absurd z.1 (by decide)⟩ | omega)])) (by rw [f5 336 9 (by first | decide | exact fun z => absurd z.1 (by decide) | exact ⟨fun z => absurd z.1 (by decide), fun z => absurd z.1 (by decide)⟩ | omega), f4 336 9 (by first | decide | exact fun z => absurd z.1 (by decide) | exact ⟨fun z => absurd z.1 (by decide), fun z => absurd z.1 (by decide)⟩ | omega), f3 336 9 (by first | decide | exact fun z => absurd z.1 (by decide) | exact ⟨fun z => absurd z.1 (by decide), fun z => absurd z.1 (by decide)⟩ | omega), f2 336 9 (by first | decide | exact fun z => absurd z.1 (by decide) | exact ⟨fun z => absurd z.1 (by decide), fun z => absurd z.1 (by decide)⟩ | omega), f1 336 9 (by first | decide | exact fun z => absurd z.1 (by decide) | exact ⟨fun z => absurd z.1 (by decide), fun z => absurd z.1 (by decide)⟩ | omega)]; exact h9) x5 h1 h1' wk (hp.same (fun p => by rw [f5 342 p (by first | decide | exact fun z => absurd z.1 (by decide) | exact ⟨fun z => absurd z.1 (by decide), fun z => absurd z.1 (by decide)⟩ | omega), f4 342 p (by first | decide | exact fun z => absurd z.1 (by decide) | exact ⟨fun z => absurd z.1 (by decide), fun z => absurd z.1 (by decide)⟩ | omega), f3 342 p (by first | decide | exact fun z => absurd z.1 (by decide) | exact ⟨fun z => absurd z.1 (by decide), fun z => absurd z.1 (by decide)⟩ | omega), f2 342 p (by first | decide | exact fun z => absurd z.1 (by decide) | exact ⟨fun z => absurd z.1 (by decide), fun z => absurd z.1 (by decide)⟩ | omega), f1 342 p (by first | decide | exact fun z => absurd z.1 (by decide) | exact ⟨fun z => absurd z.1 (by decide), fun z => absurd z.1 (by decide)⟩ | omega)])) D2 hF' hL' (fun m9 hm9 n9 t9 => ⟨by decide, hf m9 hm9 n9 t9⟩) (fun m9 D9 hm9 p9 r9 d9 t9 a9 b9 y9 l9 => ⟨by decide, hk m9 D9 hm9 p9 r9 d9 (fun p q => by rw [t9 p q, f5 336 p (by first | decide | exact fun z => absurd z.1 (by decide) | exact ⟨fun z => absurd z.1 (by decide), fun z => absurd z.1 (by decide)⟩ | omega), f4 336 p (by first | decide | exact fun z => absurd z.1 (by decide) | exact ⟨fun z => absurd z.1 (by decide), fun z => absurd z.1 (by decide)⟩ | omega), f3 336 p (by first | decide | exact fun z => absurd z.1 (by decide) | exact ⟨fun z => absurd z.1 (by decide), fun z => absurd z.1 (by decide)⟩ | omega), f2 336 p (by first | decide | exact fun z => absurd z.1 (by decide) | exact ⟨fun z => absurd z.1 (by decide), fun z => absurd z.1 (by decide)⟩ | omega), f1 336 p (by first | decide | exact fun z => absurd z.1 (by decide) | exact ⟨fun z => absurd z.1 (by decide), fun z => absurd z.1 (by decide)⟩ | omega)]) a9 b9 y9 l9⟩)⟩
    · refine g_C ?_
      refine ⟨hS.k336, ?_⟩
      refine zx_fails hS hm1 ((f1 336 9 (by first | decide | exact fun z => absurd z.1 (by decide) | exact ⟨fun z => absurd z.1 (by decide), fun z => absurd z.1 (by decide)⟩ | omega)).trans h9) (by decide) (by decide) (by omega) (by omega) (fun m9 hm9 f9 y9 => ?_)
      refine ⟨by decide, hf m9 hm9 (by omega) ?_⟩
      rw [y9, show 1 + 8 * u1 + 4 = 5 + 8 * u1 by omega]
      exact hF (Or.inr (Or.inl ⟨ne, by omega⟩))
theorem zc_clause {X : Mm} {S : Sh} {m0 : Mm} {K : Int → Mm → Prop} {b : Int → Int} {n k : Int} {T : Int → Dd → Prop} {D : Dd} (hS : Shp S) (hm0 : Inv X S m0) (ht : TR X b n) (rd : Rd D m0) (h9 : m0 336 9 = 0) (h8 : m0 336 8 ≤ n) (hp : PR m0) (t6 : m0 336 11 = 6) (hl : m0 336 14 = k) (k0 : 0 ≤ k) (k1 : k ≤ 40) (d0 : D 0 = 0 ∨ 2 ≤ D 0) (l : Ld b n T 0 0 0 (m0 336 8) k D) (hf : ∀ M1 : Mm, Inv X S M1 → ¬ M1 336 9 = 0 → T (M1 336 9) dz → K 0 M1) (hk : ∀ (M1 : Mm) (D' : Dd), Inv X S M1 → PR M1 → Rd D' M1 → 2 ≤ D' 0 → M1 336 11 = 6 → M1 336 14 = k + 1 → k + 1 ≤ 40 → m0 336 8 ≤ M1 336 8 → M1 336 8 ≤ n → M1 336 9 = 0 → Ld b n T 2 0 0 (M1 336 8) (k + 1) D' → K 1 M1) : wp_X12_clauseHere S m0 336 K := by
  have nb := ht.2.1
  have b80 := hm0.f_336_8
  refine u_X12_clauseHere ?_
  refine ⟨hS.k336, ?_⟩
  refine zx_see hS hm0 ht h8 (fun r1 q m1 hm1 f1 sk x1 hq _ => ?_)
  have sk1 := sk.1
  have p1 : PR m1 := hp.same (fun p => f1 342 p (by first | decide | exact fun z => absurd z.1 (by decide) | exact ⟨fun z => absurd z.1 (by decide), fun z => absurd z.1 (by decide)⟩ | omega))
  have t1 : m1 336 11 = 6 := (f1 336 11 (by first | decide | exact fun z => absurd z.1 (by decide) | exact ⟨fun z => absurd z.1 (by decide), fun z => absurd z.1 (by decide)⟩ | omega)).trans t6
  have y1 : m1 336 9 = 0 := (f1 336 9 (by first | decide | exact fun z => absurd z.1 (by decide) | exact ⟨fun z => absurd z.1 (by decide), fun z => absurd z.1 (by decide)⟩ | omega)).trans h9
  have R1 : Rd D m1 := rd.same (fun p => f1 342 p (by first | decide | exact fun z => absurd z.1 (by decide) | exact ⟨fun z => absurd z.1 (by decide), fun z => absurd z.1 (by decide)⟩ | omega))
  refine g_getu 8 rfl hS.k336 (fun v ev => ?_)
  have evq : v = q := by omega
  subst evq
  refine g_getu 11 rfl hS.k336 (fun t et => ?_)
  refine g_C ?_
  refine g_ifF (by first | decide | omega) ?_
  refine g_C ?_
  refine u_X12_clauseHere_24 ?_
  refine g_ifF (by decide) ?_
  refine ⟨hS.k336, ?_⟩
  refine zc_isDairyWord hS hm1 ht x1 hq sk.idem (fun i m2 hi hn wk hm2 f2 x2 => ?_) (fun m2 hn hm2 f2 x2 => ?_)
  · have p2 : PR m2 := p1.same (fun p => f2 342 p (by first | decide | exact fun z => absurd z.1 (by decide) | exact ⟨fun z => absurd z.1 (by decide), fun z => absurd z.1 (by decide)⟩ | omega))
    have t2 : m2 336 11 = 6 := (f2 336 11 (by first | decide | exact fun z => absurd z.1 (by decide) | exact ⟨fun z => absurd z.1 (by decide), fun z => absurd z.1 (by decide)⟩ | omega)).trans t1
    have y2 : m2 336 9 = 0 := (f2 336 9 (by first | decide | exact fun z => absurd z.1 (by decide) | exact ⟨fun z => absurd z.1 (by decide), fun z => absurd z.1 (by decide)⟩ | omega)).trans y1
    have R2 : Rd D m2 := R1.same (fun p => f2 342 p (by first | decide | exact fun z => absurd z.1 (by decide) | exact ⟨fun z => absurd z.1 (by decide), fun z => absurd z.1 (by decide)⟩ | omega))
    have l14 : m2 336 14 = k := by rw [f2 336 14 (by first | decide | exact fun z => absurd z.1 (by decide) | exact ⟨fun z => absurd z.1 (by decide), fun z => absurd z.1 (by decide)⟩ | omega), f1 336 14 (by first | decide | exact fun z => absurd z.1 (by decide) | exact ⟨fun z => absurd z.1 (by decide), fun z => absurd z.1 (by decide)⟩ | omega)]; exact hl
    refine g_ifT (by decide) ?_
    refine u_X12_clauseHere_56 ?_
    refine g_getu 14 rfl hS.k336 (fun l1 el => ?_)
    refine g_ifF (by decide) ?_
    refine g_C ?_
    refine u_X12_clauseHere_71 ?_
    refine g_if (fun w2 => ?_) (fun w2 => ?_)
    · have k39 : k + 1 ≤ 40 := by omega
      refine g_getu 14 rfl hS.k336 (fun l2 el2 => ?_)
      refine g_C ?_
      refine g_A (by omega) (by omega) ?_
      refine g_put 14 rfl hS.k336 (hm2.w_336_14 (by omega) (by omega)) (fun m3 e3 hm3 => ?_)
      have f3 : ∀ c p : Int, ¬ (c = 336 ∧ p = 14) → m3 c p = m2 c p := fun c p q => (congrFun (congrFun e3 _) _).trans (up_ne q)
      have x3 : m3 336 14 = l2 + 1 := (congrFun (congrFun e3 _) _).trans (up_at _ _ _ _)
      have n40 : ¬ k = 40 := by omega
      refine g_ifF (by decide) ?_
      refine ⟨hS.k336, ?_⟩
      exact zc_line i hi hS hm3 ht (R2.same (fun p => f3 342 p (by first | decide | exact fun z => absurd z.1 (by decide) | exact ⟨fun z => absurd z.1 (by decide), fun z => absurd z.1 (by decide)⟩ | omega))) ((f3 336 9 (by first | decide | exact fun z => absurd z.1 (by decide) | exact ⟨fun z => absurd z.1 (by decide), fun z => absurd z.1 (by decide)⟩ | omega)).trans y2) ((f3 336 8 (by first | decide | exact fun z => absurd z.1 (by decide) | exact ⟨fun z => absurd z.1 (by decide), fun z => absurd z.1 (by decide)⟩ | omega)).trans x2) (by omega) hq sk.idem hn wk (p2.same (fun p => f3 342 p (by first | decide | exact fun z => absurd z.1 (by decide) | exact ⟨fun z => absurd z.1 (by decide), fun z => absurd z.1 (by decide)⟩ | omega))) d0 (fun z => l.full sk i hi hn wk (Or.inr z)) (fun z => l.go sk i hi hn wk (fun y => by rcases y with y | y; exact n40 y; exact z y)) (fun m9 hm9 n9 t9 => ⟨by decide, hf m9 hm9 n9 t9⟩) (fun m9 D9 hm9 p9 r9 d9 t9 a9 b9 y9 l9 => ⟨by decide, hk m9 D9 hm9 p9 r9 d9 (by rw [t9 11 (by decide), f3 336 11 (by first | decide | exact fun z => absurd z.1 (by decide) | exact ⟨fun z => absurd z.1 (by decide), fun z => absurd z.1 (by decide)⟩ | omega)]; exact t2) (by rw [t9 14 (by decide), x3]; omega) k39 (by omega) b9 y9 l9⟩)
    · refine g_C ?_
      refine ⟨hS.k336, ?_⟩
      refine zx_fails hS hm2 y2 (by decide) (by decide) (by omega) (by omega) (fun m9 hm9 f9 y9 => ?_)
      refine ⟨by decide, hf m9 hm9 (by omega) ?_⟩
      rw [y9, show 1 + 8 * v + 4 = 5 + 8 * v by omega]
      exact l.full sk i hi hn wk (Or.inl (by omega))
  · refine g_ifF (by decide) ?_
    refine u_X12_clauseHere_49 ?_
    refine g_C ?_
    refine ⟨hS.k336, ?_⟩
    refine zx_fails hS hm2 ((f2 336 9 (by first | decide | exact fun z => absurd z.1 (by decide) | exact ⟨fun z => absurd z.1 (by decide), fun z => absurd z.1 (by decide)⟩ | omega)).trans y1) (by decide) (by decide) (by omega) (by omega) (fun m9 hm9 f9 y9 => ?_)
    refine ⟨by decide, hf m9 hm9 (by omega) ?_⟩
    rw [y9, show 1 + 8 * v + 0 = 1 + 8 * v by omega]
    exact l.none sk hn
theorem zc_readsAll {X : Mm} {S : Sh} {m0 : Mm} {K : Int → Mm → Prop} {b : Int → Int} {n : Int} {T : Int → Dd → Prop} {D : Dd} (hS : Shp S) (hm0 : Inv X S m0) (ht : TR X b n) (t6 : m0 336 11 = 6) (rd : Rd D m0) (hp : PR m0) (d0 : D 0 = 0) (hT : ∀ (f : Int) (E : Dd), DA b n 0 0 0 0 0 D f E → T f E) (hf : ∀ M1 : Mm, Inv X S M1 → ¬ M1 336 9 = 0 → T (M1 336 9) dz → K 0 (up M1 336 1 0)) (hk : ∀ (M1 : Mm) (D' : Dd), Inv X S M1 → PR M1 → Rd D' M1 → T 0 D' → K 1 (up M1 336 1 0)) : wp_X12_readsAll S m0 336 K := by
  have nb := ht.2.1
  have fin : ∀ m : Mm, Inv X S m → ((¬ m 336 9 = 0 ∧ T (m 336 9) dz) ∨ (m 336 9 = 0 ∧ PR m ∧ ∃ D' : Dd, Rd D' m ∧ T 0 D')) → wp_X12_readsAll_88 S K 336 m := by
    intro m hm hh
    refine u_X12_readsAll_88 ?_
    refine g_C ?_
    refine g_putR 1 rfl hS.k336 (fun m1 e1 => ?_)
    refine g_getu 9 rfl hS.k336 (fun v ev => ?_)
    rw [e1] at ev
    have ev' : v = m 336 9 := ev.trans (up_ne (by omega))
    rw [e1]
    rcases hh with ⟨a1, a2⟩ | ⟨a1, a2, D', a3, a4⟩
    · exact g_ifT (by first | decide | omega) (g_C ⟨by decide, hf m hm a1 a2⟩)
    · exact g_ifF (by first | decide | omega) (g_C ⟨by decide, hk m D' hm a2 a3 a4⟩)
  have L : ∀ (N : Nat) (u k : Int) (m : Mm), Inv X S m → ((u = 0 ∧ (¬ m 336 9 = 0 ∧ T (m 336 9) dz) ∧ 1 ≤ N) ∨ (u = 1 ∧ (m 336 9 = 0 ∧ PR m ∧ m 336 11 = 6 ∧ m 336 14 = k ∧ 0 ≤ k ∧ k ≤ 40 ∧ m 336 8 ≤ n ∧ ∃ D' : Dd, Rd D' m ∧ 2 ≤ D' 0 ∧ Ld b n T 2 0 0 (m 336 8) k D') ∧ 402 - m 336 8 ≤ (N : Int))) → wp_X12_readsAll_35 S K N 336 u m := by
    intro N
    induction N with
    | zero =>
      intro u k m hm h
      have b8 := hm.f_336_8
      exfalso
      rcases h with h | h
      · exact absurd h.2.2 (by decide)
      · have := h.2.2; omega
    | succ N ih =>
      intro u k m hm h
      refine u_X12_readsAll_35 ?_
      rcases h with ⟨h1, h2, h3⟩ | ⟨h1, ⟨z9, zp, z11, z14, k0, k1, z8, D', rd', d2, ls⟩, h3⟩
      · refine g_ifT h1 ?_
        refine u_X12_readsAll_66 ?_
        refine g_ifT h1 ?_
        exact fin m hm (Or.inl h2)
      · refine g_ifF (by first | decide | omega) ?_
        have b80 := hm.f_336_8
        refine ⟨hS.k336, ?_⟩
        refine zx_see hS hm ht z8 (fun r1 q m1 hm1 f1 sk e1 qn y1 => ?_)
        have sk1 := sk.1
        have q0 : 0 ≤ q := by omega
        have p1 : PR m1 := zp.same (fun p => f1 342 p (by first | decide | exact fun z => absurd z.1 (by decide) | exact ⟨fun z => absurd z.1 (by decide), fun z => absurd z.1 (by decide)⟩ | omega))
        have R1 : Rd D' m1 := rd'.same (fun p => f1 342 p (by first | decide | exact fun z => absurd z.1 (by decide) | exact ⟨fun z => absurd z.1 (by decide), fun z => absurd z.1 (by decide)⟩ | omega))
        have w9 : m1 336 9 = 0 := (f1 336 9 (by first | decide | exact fun z => absurd z.1 (by decide) | exact ⟨fun z => absurd z.1 (by decide), fun z => absurd z.1 (by decide)⟩ | omega)).trans z9
        have c59 := u8_is ht (v := 59) q0 y1 (by decide) (by decide)
        refine g_C ?_
        refine g_if (fun w => ?_) (fun w => ?_)
        · have n59 : ¬ (q < n ∧ b q = 59) := fun z => by have := c59.2 z; omega
          refine u_X12_readsAll_66 ?_
          refine g_ifF (by first | decide | omega) ?_
          refine ⟨hS.k336, ?_⟩
          refine zx_see hS hm1 ht (by omega) (fun r2 q2 m2 hm2 f2 sk2 e2 qn2 y2 => ?_)
          have eq : q = q2 := by rw [e1] at sk2; exact sk.idem.uniq sk2
          rw [← eq] at e2 y2
          have p2 : PR m2 := p1.same (fun p => f2 342 p (by first | decide | exact fun z => absurd z.1 (by decide) | exact ⟨fun z => absurd z.1 (by decide), fun z => absurd z.1 (by decide)⟩ | omega))
          have R2 : Rd D' m2 := R1.same (fun p => f2 342 p (by first | decide | exact fun z => absurd z.1 (by decide) | exact ⟨fun z => absurd z.1 (by decide), fun z => absurd z.1 (by decide)⟩ | omega))
          have v9 : m2 336 9 = 0 := (f2 336 9 (by first | decide | exact fun z => absurd z.1 (by decide) | exact ⟨fun z => absurd z.1 (by decide), fun z => absurd z.1 (by decide)⟩ | omega)).trans w9
          have rr : r2 = -1 ↔ n ≤ q := by
            rcases y2 with ⟨z1, z2⟩ | ⟨z1, z2⟩
            · have zb := ht.2.2 q q0 z1
              have zu := u8_r zb.2.1 zb.2.2
              exact ⟨fun y => by omega, fun y => by omega⟩
            · exact ⟨fun _ => z1, fun _ => z2⟩
          refine g_C ?_
          refine g_if (fun w2 => fin m2 hm2 (Or.inr ⟨v9, p2, D', R2, ls.stop sk (rr.1 (by omega))⟩)) (fun w2 => ?_)
          have nq : ¬ n ≤ q := fun z => by have := rr.2 z; omega
          refine g_C ?_
          refine g_getu 8 rfl hS.k336 (fun v ev => ?_)
          rw [show v = q by omega]
          refine ⟨hS.k336, ?_⟩
          refine zx_fails hS hm2 v9 (by decide) (by decide) q0 (by omega) (fun m3 hm3 f3 e9 => ?_)
          refine fin m3 hm3 (Or.inl ⟨by omega, ?_⟩)
          rw [e9, show 1 + 8 * q + 0 = 1 + 8 * q by omega]
          exact ls.odd sk nq (fun z => n59 ⟨by omega, z⟩)
        · have y59 := c59.1 (by omega)
          have y59a := y59.1
          refine g_getu 8 rfl hS.k336 (fun v ev => ?_)
          refine g_C ?_
          refine g_A (by omega) (by omega) ?_
          refine g_put 8 rfl hS.k336 (hm1.w_336_8 (by omega) (by omega)) (fun m2 e2 hm2 => ?_)
          have f2 : ∀ c p : Int, ¬ (c = 336 ∧ p = 8) → m2 c p = m1 c p := fun c p q => (congrFun (congrFun e2 _) _).trans (up_ne q)
          have x2 : m2 336 8 = v + 1 := (congrFun (congrFun e2 _) _).trans (up_at _ _ _ _)
          have x2' : m2 336 8 = q + 1 := by omega
          have l2 := ls.more sk (by omega) y59.2
          rw [← x2'] at l2
          refine ⟨hS.k336, ?_⟩
          refine zc_clause hS hm2 ht (R1.same (fun p => f2 342 p (by first | decide | exact fun z => absurd z.1 (by decide) | exact ⟨fun z => absurd z.1 (by decide), fun z => absurd z.1 (by decide)⟩ | omega))) ((f2 336 9 (by first | decide | exact fun z => absurd z.1 (by decide) | exact ⟨fun z => absurd z.1 (by decide), fun z => absurd z.1 (by decide)⟩ | omega)).trans w9) (by omega) (p1.same (fun p => f2 342 p (by first | decide | exact fun z => absurd z.1 (by decide) | exact ⟨fun z => absurd z.1 (by decide), fun z => absurd z.1 (by decide)⟩ | omega))) (by rw [f2 336 11 (by first | decide | exact fun z => absurd z.1 (by decide) | exact ⟨fun z => absurd z.1 (by decide), fun z => absurd z.1 (by decide)⟩ | omega), f1 336 11 (by first | decide | exact fun z => absurd z.1 (by decide) | exact ⟨fun z => absurd z.1 (by decide), fun z => absurd z.1 (by decide)⟩ | omega)]; exact z11) (by rw [f2 336 14 (by first | decide | exact fun z => absurd z.1 (by decide) | exact ⟨fun z => absurd z.1 (by decide), fun z => absurd z.1 (by decide)⟩ | omega), f1 336 14 (by first | decide | exact fun z => absurd z.1 (by decide) | exact ⟨fun z => absurd z.1 (by decide), fun z => absurd z.1 (by decide)⟩ | omega)]; exact z14) k0 k1 (Or.inr d2) l2 (fun m3 hm3 n3 t3 => ?_) (fun m3 D3 hm3 p3 r3 d3 a3 b3 c3 e3 g3 i3 l3 => ?_)
          · exact ih 0 k m3 hm3 (Or.inl ⟨rfl, ⟨n3, t3⟩, by omega⟩)
          · exact ih 1 (k + 1) m3 hm3 (Or.inr ⟨rfl, ⟨i3, p3, a3, b3, by omega, c3, g3, D3, r3, d3, l3⟩, by omega⟩)
  refine u_X12_readsAll ?_
  refine g_getr 4 339 rfl hS.k336 hm0.f_336_4 (by decide) ?_
  refine g_getu 11 rfl hS.k336 (fun t et => ?_)
  refine g_C ?_
  refine g_st hS.k339 hS.l339 (by omega) (by omega) (hm0.wa_339 (by omega) (by omega) (by omega) (by omega)) (fun m1 e1 hm1 => ?_)
  refine g_C ?_
  refine g_put 14 rfl hS.k336 (hm1.w_336_14 (by omega) (by omega)) (fun m2 e2 hm2 => ?_)
  refine g_C ?_
  refine g_put 8 rfl hS.k336 (hm2.w_336_8 (by omega) (by omega)) (fun m3 e3 hm3 => ?_)
  refine g_C ?_
  refine g_put 9 rfl hS.k336 (hm3.w_336_9 (by omega) (by omega)) (fun m4 e4 hm4 => ?_)
  refine g_C ?_
  refine g_put 12 rfl hS.k336 (hm4.w_336_12 (by omega) (by omega)) (fun m5 e5 hm5 => ?_)
  have f1 : ∀ c p : Int, ¬ (c = 339 ∧ p = t) → m1 c p = m0 c p := fun c p q => (congrFun (congrFun e1 _) _).trans (up_ne q)
  have f2 : ∀ c p : Int, ¬ (c = 336 ∧ p = 14) → m2 c p = m1 c p := fun c p q => (congrFun (congrFun e2 _) _).trans (up_ne q)
  have x2 : m2 336 14 = 0 := (congrFun (congrFun e2 _) _).trans (up_at _ _ _ _)
  have f3 : ∀ c p : Int, ¬ (c = 336 ∧ p = 8) → m3 c p = m2 c p := fun c p q => (congrFun (congrFun e3 _) _).trans (up_ne q)
  have x3 : m3 336 8 = 0 := (congrFun (congrFun e3 _) _).trans (up_at _ _ _ _)
  have f4 : ∀ c p : Int, ¬ (c = 336 ∧ p = 9) → m4 c p = m3 c p := fun c p q => (congrFun (congrFun e4 _) _).trans (up_ne q)
  have x4 : m4 336 9 = 0 := (congrFun (congrFun e4 _) _).trans (up_at _ _ _ _)
  have f5 : ∀ c p : Int, ¬ (c = 336 ∧ p = 12) → m5 c p = m4 c p := fun c p q => (congrFun (congrFun e5 _) _).trans (up_ne q)
  have F : ∀ c p : Int, ¬ (c = 336 ∧ (p = 14 ∨ p = 8 ∨ p = 9 ∨ p = 12)) → m5 c p = m1 c p := fun c p q => by rw [f5 c p (by first | exact fun y => absurd (y.1 ▸ z) (by decide) | exact fun y => absurd (y.1 ▸ q) (by decide) | exact z | exact q | exact z.1 | exact q.1 | exact z.2 | exact q.2 | omega), f4 c p (by first | exact fun y => absurd (y.1 ▸ z) (by decide) | exact fun y => absurd (y.1 ▸ q) (by decide) | exact z | exact q | exact z.1 | exact q.1 | exact z.2 | exact q.2 | omega), f3 c p (by first | exact fun y => absurd (y.1 ▸ z) (by decide) | exact fun y => absurd (y.1 ▸ q) (by decide) | exact z | exact q | exact z.1 | exact q.1 | exact z.2 | exact q.2 | omega), f2 c p (by first | exact fun y => absurd (y.1 ▸ z) (by decide) | exact fun y => absurd (y.1 ▸ q) (by decide) | exact z | exact q | exact z.1 | exact q.1 | exact z.2 | exact q.2 | omega)]
  have z14 : m5 336 14 = 0 := by rw [f5 336 14 (by first | decide | exact fun z => absurd z.1 (by decide) | exact ⟨fun z => absurd z.1 (by decide), fun z => absurd z.1 (by decide)⟩ | omega), f4 336 14 (by first | decide | exact fun z => absurd z.1 (by decide) | exact ⟨fun z => absurd z.1 (by decide), fun z => absurd z.1 (by decide)⟩ | omega), f3 336 14 (by first | decide | exact fun z => absurd z.1 (by decide) | exact ⟨fun z => absurd z.1 (by decide), fun z => absurd z.1 (by decide)⟩ | omega), x2]
  have z8 : m5 336 8 = 0 := by rw [f5 336 8 (by first | decide | exact fun z => absurd z.1 (by decide) | exact ⟨fun z => absurd z.1 (by decide), fun z => absurd z.1 (by decide)⟩ | omega), f4 336 8 (by first | decide | exact fun z => absurd z.1 (by decide) | exact ⟨fun z => absurd z.1 (by decide), fun z => absurd z.1 (by decide)⟩ | omega), x3]
  have z9 : m5 336 9 = 0 := by rw [f5 336 9 (by first | decide | exact fun z => absurd z.1 (by decide) | exact ⟨fun z => absurd z.1 (by decide), fun z => absurd z.1 (by decide)⟩ | omega), x4]
  have G : ∀ p : Int, m5 342 p = m0 342 p := fun p => by rw [F 342 p (by first | decide | exact fun z => absurd z.1 (by decide) | exact ⟨fun z => absurd z.1 (by decide), fun z => absurd z.1 (by decide)⟩ | omega), f1 342 p (by first | decide | exact fun z => absurd z.1 (by decide) | exact ⟨fun z => absurd z.1 (by decide), fun z => absurd z.1 (by decide)⟩ | omega)]
  refine ⟨hS.k336, ?_⟩
  refine zc_clause hS hm5 ht (rd.same G) z9 (by omega) (hp.same G) (by rw [F 336 11 (by first | decide | exact fun z => absurd z.1 (by decide) | exact ⟨fun z => absurd z.1 (by decide), fun z => absurd z.1 (by decide)⟩ | omega), f1 336 11 (by first | decide | exact fun z => absurd z.1 (by decide) | exact ⟨fun z => absurd z.1 (by decide), fun z => absurd z.1 (by decide)⟩ | omega)]; exact t6) z14 (by decide) (by decide) (Or.inl d0) (by rw [z8]; exact hT) (fun m6 hm6 n6 t6 => ?_) (fun m6 D6 hm6 p6 r6 d6 a6 b6 c6 e6 g6 i6 l6 => ?_)
  · exact ⟨402, L 402 0 0 m6 hm6 (Or.inl ⟨rfl, ⟨n6, t6⟩, by decide⟩)⟩
  · have b86 := hm6.f_336_8
    exact ⟨402, L 402 1 (0 + 1) m6 hm6 (Or.inr ⟨rfl, ⟨i6, p6, a6, b6, by decide, by decide, g6, D6, r6, d6, l6⟩, by omega⟩)⟩
