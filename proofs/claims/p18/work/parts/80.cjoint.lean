/-- the class stands behind a value or a bracket (mode m), and neither ']' nor the clause's end comes -/
def Jn (b : Int → Int) (n m : Int) (st : List Bool) (q : Int) : Prop := (m = 4 → ¬ (n ≤ q ∨ b q = 59)) ∧ ((m = 6 ∨ m = 7) → ¬ (q < n ∧ b q = 93 ∧ true ∈ st) ∧ ¬ (¬ true ∈ st ∧ (n ≤ q ∨ b q = 59)))
theorem Lk.fault {b : Int → Int} {n : Int} {T : Int → Prop} {M : Mm} {m k q f : Int} {st : List Bool} (h : Lk b n T M m st k) (hs : Sk b n (M 1 2) q) (hp : stp b n (Acc b n) m q (M 52 3) st k f) : T f := h.1 f (a_step hs hp)
theorem ze_refuse0 {X : Mm} {S : Sh} {m0 : Mm} {K : Int → Mm → Prop} {q u : Int} {T : Int → Prop} (hS : Shp S) (hm0 : Inv X S m0) (h4 : m0 1 4 = 0) (h3 : m0 1 3 = q) (q0 : 0 ≤ q) (u0 : 0 ≤ u) (u1 : u ≤ 4) (hT : T (1 + 8 * q + u)) (hf : ∀ M1 : Mm, Inv X S M1 → T (M1 1 4) → ¬ M1 1 4 = 0 → K 0 M1) : isK S 1 7 ∧ wp_X7_refuse S m0 1 u (fun v M => (v = 0 ∨ v = 1) ∧ K v M) := by
  refine ⟨hS.k1, ?_⟩
  refine ze_refuse hS hm0 u0 u1 (fun m2 hm2 f2 y2 => ?_)
  have y3 : m2 1 4 = 1 + 8 * q + u := by omega
  refine ⟨by decide, hf m2 hm2 ?_ (by omega)⟩
  rw [y3]
  exact hT
theorem ze_readIf {X : Mm} {S : Sh} {m0 : Mm} {K : Int → Mm → Prop} {b : Int → Int} {n k q : Int} {T : Int → Prop} (hS : Shp S) (hm0 : Inv X S m0) (ht : TC X b n) (lk : Lk b n T m0 4 [] k) (hq : m0 1 2 = q) (sq : Sk b n q q) (nj : ¬ (n ≤ q ∨ b q = 59)) (na : ¬ (q < n ∧ Ar (b q))) (hf : ∀ M1 : Mm, Inv X S M1 → T (M1 1 4) → ¬ M1 1 4 = 0 → K 0 M1) (hk : ∀ (M1 : Mm) (s' : List Bool), Inv X S M1 → Lk b n T M1 2 s' k → M1 52 8 = 1 → M1 52 3 = m0 52 3 → q < M1 1 2 → K 1 M1) : wp_X3_readIf S m0 52 K := by
  obtain ⟨k1, k2, k3, k4, k5, k6, k7, k8⟩ := id lk
  have b2 := hm0.f_1_2
  have nb := ht.2.1
  have na2 : ¬ Ar (b q) := fun z => na ⟨by omega, z⟩
  refine u_X3_readIf ?_
  refine g_getr 0 1 rfl hS.k52 hm0.f_52_0 (by decide) ?_
  refine g_C ?_
  refine ⟨hS.k1, ?_⟩
  refine ze_takesWord 13 hS hm0 ht k3 (by decide) (by decide) (fun q' m1 hm1 f1 sk x1 x2 l1 wk => ?_) (fun q' m1 hm1 f1 sk x1 x2 l1 wk => ?_)
  · rw [hq] at sk
    obtain rfl := sk.uniq sq
    have t13 : tl 13 = 2 := by decide
    refine g_ifT (by decide) ?_
    refine g_C ?_
    refine ⟨hS.k52, ?_⟩
    have cp1 : CP m1 [] := k7.same (f1 52 5 (by omega)) (f1 52 6 (by omega)) (fun p => f1 54 p (by omega))
    refine ze_unpile hS hm1 cp1 (by decide) (fun m2 s' hm2 f2 c2 ph pl ln _ h2 _ => ?_)
    obtain ⟨es, -⟩ := h2 (by decide)
    have es2 : s' = [] := es
    rw [es2] at c2
    refine ⟨hS.k52, ?_⟩
    have e12 : m2 1 2 = q' + 2 := by rw [f2 1 2 (by omega)]; omega
    have e3 : m2 52 3 = m0 52 3 := by rw [f2 52 3 (by omega), f1 52 3 (by omega)]
    rw [f1 52 2 (by omega), f1 52 5 (by omega)] at ph
    have lk2 : Lk b n T m2 8 [] k := by
      refine ⟨fun f hA => k1 f (a_step (q := q') (by rw [hq]; exact sq) (sp_A0 (g_ifF nj (g_ifF na2 (g_ifT wk ?_))))), by rw [f2 1 4 (by omega), f1 1 4 (by omega)]; exact k2, by omega, by omega, by omega, by decide, c2, by rw [f2 52 7 (by omega), f1 52 7 (by omega)]; exact k8⟩
      rw [e12, e3] at hA
      exact hA
    refine ze_beginFact hS hm2 ht lk2 (fun m3 hm3 t3 n3 => ⟨by decide, hf m3 hm3 t3 n3⟩) (fun m3 s3 hm3 l3 w8 w3 w2 => ⟨by decide, hk m3 s3 hm3 l3 w8 (by omega) (by omega)⟩)
  · rw [hq] at sk
    obtain rfl := sk.uniq sq
    refine g_ifF (by decide) ?_
    refine g_getr 0 1 rfl hS.k52 hm1.f_52_0 (by decide) ?_
    refine g_C ?_
    refine ze_refuse0 (q := q') hS hm1 ((f1 1 4 (by omega)).trans k2) x2 (by omega) (by decide) (by decide) ?_ hf
    rw [Int.add_zero]
    exact k1 _ (a_step (q := q') (by rw [hq]; exact sq) (sp_A0 (g_ifF nj (g_ifF na2 (g_ifF wk rfl)))))
theorem ze_readComparison {X : Mm} {S : Sh} {m0 : Mm} {K : Int → Mm → Prop} {b : Int → Int} {n k q : Int} {T : Int → Prop} {st : List Bool} (hS : Shp S) (hm0 : Inv X S m0) (ht : TC X b n) (lk : Lk b n T m0 5 st k) (hq : m0 1 2 = q) (sq : Sk b n q q) (na : ¬ (q < n ∧ Ar (b q))) (hf : ∀ M1 : Mm, Inv X S M1 → T (M1 1 4) → ¬ M1 1 4 = 0 → K 0 M1) (hk : ∀ M1 : Mm, Inv X S M1 → Lk b n T M1 3 st k → M1 52 8 = 2 → m0 52 3 ≤ M1 52 3 → q < M1 1 2 → K 1 M1) : wp_X3_readComparison S m0 52 K := by
  obtain ⟨k1, k2, k3, k4, k5, k6, k7, k8⟩ := id lk
  have b2 := hm0.f_1_2
  have b3 := hm0.f_52_3
  have nb := ht.2.1
  refine u_X3_readComparison ?_
  refine ⟨hS.k52, ?_⟩
  refine ze_takeComparison hS hm0 ht k3 (fun q' v m1 hm1 f1 sk l1 cm x3 x2 v0 v1 => ?_) (fun q' m1 hm1 f1 sk x1 x2 l1 ncm => ?_)
  · rw [hq] at sk
    obtain rfl := sk.uniq sq
    have sq0 : Sk b n (m0 1 2) q' := by rw [hq]; exact sq
    refine g_ifT (by omega) ?_
    refine g_getu 3 rfl hS.k52 (fun a ea => ?_)
    rw [f1 52 3 (by omega)] at ea
    refine g_C ?_
    refine g_if (fun w => ?_) (fun w => ?_)
    · refine g_getu 3 rfl hS.k52 (fun a2 ea2 => ?_)
      rw [f1 52 3 (by omega)] at ea2
      refine g_C ?_
      refine g_A (by omega) (by omega) ?_
      refine g_put 3 rfl hS.k52 (hm1.w_52_3 (by omega) (by omega)) (fun m2 e2 hm2 => ?_)
      have f2 : ∀ c p : Int, ¬ (c = 52 ∧ p = 3) → m2 c p = m1 c p := fun c p q => (congrFun (congrFun e2 _) _).trans (up_ne q)
      have y2 : m2 52 3 = a2 + 1 := (congrFun (congrFun e2 _) _).trans (up_at _ _ _ _)
      have G : ∀ c p : Int, ¬ (c = 52 ∧ p = 3) ∧ ¬ (c = 1 ∧ 2 ≤ p ∧ p ≤ 3) → m2 c p = m0 c p := fun c p z => (f2 c p (by omega)).trans (f1 c p (by omega))
      have cp2 : CP m2 st := k7.same (G 52 5 (by omega)) (G 52 6 (by omega)) (fun p => G 54 p (by omega))
      have g5 : m2 52 5 = m0 52 5 := G 52 5 (by omega)
      have g2 : m2 52 2 = m0 52 2 := G 52 2 (by omega)
      have b22 := hm2.f_52_2
      refine ⟨hS.k52, ?_⟩
      refine ze_pileA hS hm2 cp2 k6 (by omega) (by omega) (fun m3 hm3 f3 c3 ph => ?_)
      refine g_C ?_
      refine g_put 8 rfl hS.k52 (hm3.w_52_8 (by decide) (by decide)) (fun m4 e4 hm4 => ?_)
      have f4 : ∀ c p : Int, ¬ (c = 52 ∧ p = 8) → m4 c p = m3 c p := fun c p q => (congrFun (congrFun e4 _) _).trans (up_ne q)
      have y4 : m4 52 8 = 2 := (congrFun (congrFun e4 _) _).trans (up_at _ _ _ _)
      have e12 : m4 1 2 = m1 1 2 := by rw [f4 1 2 (by omega), f3 1 2 (by omega), f2 1 2 (by omega)]
      have e3 : m4 52 3 = m0 52 3 + 1 := by rw [f4 52 3 (by omega), f3 52 3 (by omega)]; omega
      refine g_C ⟨by decide, hk m4 hm4 ⟨fun f hA => k1 f (a_step sq0 (sp_A1 (g_ifF na (g_ifT ⟨l1, cm⟩ (g_ifF (by omega) ?_))))), by rw [f4 1 4 (by omega), f3 1 4 (by omega), G 1 4 (by omega)]; exact k2, by omega, by rw [f4 52 2 (by omega), f4 52 5 (by omega)]; omega, by omega, k6, c3.same (f4 52 5 (by omega)) (f4 52 6 (by omega)) (fun p => f4 54 p (by omega)), by rw [f4 52 7 (by omega), f3 52 7 (by omega), G 52 7 (by omega)]; exact k8⟩ y4 (by omega) (by omega)⟩
      rw [e12, e3] at hA
      rcases x2 with ⟨z1, z2, z3, z4⟩ | ⟨z1, z2⟩
      · rw [z4] at hA
        exact g_ifT ⟨z1, z2, z3⟩ hA
      · rw [z2] at hA
        exact g_ifF z1 hA
    · refine g_getr 0 1 rfl hS.k52 hm1.f_52_0 (by decide) ?_
      refine g_C ?_
      refine ze_refuse0 (q := q') hS hm1 ((f1 1 4 (by omega)).trans k2) x3 (by omega) (by decide) (by decide) ?_ hf
      exact k1 _ (a_step sq0 (sp_A1 (g_ifF na (g_ifT ⟨l1, cm⟩ (g_ifT (by omega) (by omega))))))
  · rw [hq] at sk
    obtain rfl := sk.uniq sq
    have sq0 : Sk b n (m0 1 2) q' := by rw [hq]; exact sq
    refine g_ifF (by decide) ?_
    refine g_getr 0 1 rfl hS.k52 hm1.f_52_0 (by decide) ?_
    refine g_C ?_
    refine ze_refuse0 (q := q') hS hm1 ((f1 1 4 (by omega)).trans k2) x2 (by omega) (by decide) (by decide) ?_ hf
    rw [Int.add_zero]
    exact k1 _ (a_step sq0 (sp_A1 (g_ifF na (g_ifF ncm rfl))))
theorem ze_readJoint {X : Mm} {S : Sh} {m0 : Mm} {K : Int → Mm → Prop} {b : Int → Int} {n m k q : Int} {T : Int → Prop} {st : List Bool} (hS : Shp S) (hm0 : Inv X S m0) (ht : TC X b n) (hmm : m = 4 ∨ m = 5 ∨ m = 6 ∨ m = 7) (h4 : m = 4 → st = []) (lk : Lk b n T m0 m st k) (h8 : m0 52 8 = m - 4) (sk : Sk b n (m0 1 2) q) (jn : Jn b n m st q) (hf : ∀ M1 : Mm, Inv X S M1 → T (M1 1 4) → ¬ M1 1 4 = 0 → K 0 M1) (hk : ∀ (M1 : Mm) (m' : Int) (s' : List Bool), Inv X S M1 → (m' = 1 ∨ m' = 2 ∨ m' = 3) → (m' = 1 → s' = []) → Lk b n T M1 m' s' k → M1 52 8 = m' - 1 → m0 52 3 ≤ M1 52 3 → K 1 M1) : wp_X3_readJoint S m0 52 K := by
  obtain ⟨k1, k2, k3, k4, k5, k6, k7, k8⟩ := id lk
  have b2 := hm0.f_1_2
  have b3 := hm0.f_52_3
  have nb := ht.2.1
  have b5 := hm0.f_52_5
  have b22 := hm0.f_52_2
  have hqn := sk.le k3
  have q0 : 0 ≤ q := by have := sk.1; omega
  -- no arithmetic: where the class stands
  have rest : ∀ m1 : Mm, Inv X S m1 → (∀ c p : Int, ¬ (c = 1 ∧ 2 ≤ p ∧ p ≤ 3) → m1 c p = m0 c p) → (m1 1 2 = q ∨ (m = 7 ∧ m1 1 2 = m0 1 2)) → (m = 7 ∨ ¬ (q < n ∧ Ar (b q))) → wp_X3_readJoint_16 S K 52 0 m1 := by
    intro m1 hm1 f1 x1 na
    refine u_X3_readJoint_16 ?_
    refine g_ifT rfl ?_
    refine g_getu 8 rfl hS.k52 (fun w ew => ?_)
    rw [f1 52 8 (by omega)] at ew
    refine g_if (fun w1 => ?_) (fun w1 => ?_)
    · refine g_getu 8 rfl hS.k52 (fun w' ew' => ?_)
      rw [f1 52 8 (by omega)] at ew'
      refine g_C ?_
      refine g_if (fun w2 => ?_) (fun w2 => ?_)
      · -- and, or
        have m67 : m = 6 ∨ m = 7 := by omega
        obtain ⟨nc, ne⟩ := jn.2 m67
        have stB' : ∀ f : Int, stB b n (Acc b n) q (m0 52 3) st k f → T f := by
          intro f hB
          rcases m67 with e | e
          · refine k1 f ?_
            rw [e]
            exact a_step sk (sp_A2 (g_ifF nc (g_ifF ne (g_ifF (na.resolve_left (by omega)) hB))))
          · refine k1 f ?_
            rw [e]
            exact a_step sk (sp_A3 (g_ifF nc (g_ifF ne hB)))
        have sk1 : Sk b n (m1 1 2) q := by
          rcases x1 with z | z
          · rw [z]; exact sk.idem
          · rw [z.2]; exact sk
        have go : ∀ (s r : Int) (m2 : Mm), Inv X S m2 → (s = -23 ∨ s = -24) → (∀ c p : Int, ¬ (c = 1 ∧ 2 ≤ p ∧ p ≤ 3) → m2 c p = m0 c p) → m2 1 2 = r → q < r → r ≤ n → (∀ f : Int, Acc b n 8 r (m0 52 3) (dropN st) k f → T f) → wp_X3_readJoint_88 S K 52 s m2 := by
          intro s r m2 hm2 hs f2 y2 hqr hrn hT
          refine u_X3_readJoint_88 ?_
          refine g_ifT (by omega) ?_
          refine ⟨hS.k52, ?_⟩
          have cp2 : CP m2 st := k7.same (f2 52 5 (by omega)) (f2 52 6 (by omega)) (fun p => f2 54 p (by omega))
          have g5 : m2 52 5 = m0 52 5 := f2 52 5 (by omega)
          refine ze_pileB hS hm2 cp2 k6 hs (by have := sk.1; omega) (fun m3 hm3 f3 c3 ph => ?_)
          refine ⟨hS.k52, ?_⟩
          rw [f2 52 2 (by omega), g5] at ph
          have e12 : m3 1 2 = r := (f3 1 2 (by omega)).trans y2
          have e3 : m3 52 3 = m0 52 3 := (f3 52 3 (by omega)).trans (f2 52 3 (by omega))
          have dl := dropN_len st
          have lk3 : Lk b n T m3 8 (dropN st) k := ⟨fun f hA => hT f (by rw [e12, e3] at hA; exact hA), by rw [f3 1 4 (by omega), f2 1 4 (by omega)]; exact k2, by omega, by have := sk.1; omega, by omega, by omega, c3, by rw [f3 52 7 (by omega), f2 52 7 (by omega), dropN_cnt]; exact k8⟩
          exact ze_beginFact hS hm3 ht lk3 (fun m4 hm4 t4 n4 => ⟨by decide, hf m4 hm4 t4 n4⟩) (fun m4 s4 hm4 l4 w8 w3 w2 => ⟨by decide, hk m4 2 s4 hm4 (by omega) (by omega) l4 (by omega) (by omega)⟩)
        refine g_getr 0 1 rfl hS.k52 hm1.f_52_0 (by decide) ?_
        refine g_C ?_
        refine ⟨hS.k1, ?_⟩
        refine ze_takesWord 15 hS hm1 ht (by omega) (by decide) (by decide) (fun q' m2 hm2 f2 sk2 y1 y2 l2 wk => ?_) (fun q' m2 hm2 f2 sk2 y1 y2 l2 wk => ?_)
        · obtain rfl := sk2.uniq sk1
          have t15 : tl 15 = 3 := by decide
          refine g_ifF (by decide) ?_
          refine g_C ?_
          refine go (-23) _ m2 hm2 (by decide) (fun c p z => (f2 c p z).trans (f1 c p z)) y1 (by omega) l2 (fun f hA => stB' f (g_ifT wk ?_))
          rw [t15] at hA
          exact hA
        · obtain rfl := sk2.uniq sk1
          refine g_ifT rfl ?_
          refine g_getr 0 1 rfl hS.k52 hm2.f_52_0 (by decide) ?_
          refine g_C ?_
          refine ⟨hS.k1, ?_⟩
          refine ze_takesWord 16 hS hm2 ht (by omega) (by decide) (by decide) (fun q m3 hm3 f3 sk3 z1 z2 l3 wk3 => ?_) (fun q m3 hm3 f3 sk3 z1 z2 l3 wk3 => ?_)
          · rw [y1] at sk3
            obtain rfl := sk3.uniq sk.idem
            have t16 : tl 16 = 2 := by decide
            refine g_ifF (by decide) ?_
            refine g_C ?_
            refine go (-24) _ m3 hm3 (by decide) (fun c p z => ((f3 c p z).trans (f2 c p z)).trans (f1 c p z)) z1 (by omega) l3 (fun f hA => stB' f (g_ifF wk (g_ifT wk3 ?_)))
            rw [t16] at hA
            exact hA
          · rw [y1] at sk3
            obtain rfl := sk3.uniq sk.idem
            refine g_ifT rfl ?_
            refine g_C ?_
            refine u_X3_readJoint_88 ?_
            refine g_ifF (by decide) ?_
            refine g_getr 0 1 rfl hS.k52 hm3.f_52_0 (by decide) ?_
            refine g_C ?_
            refine ze_refuse0 (q := q) hS hm3 (by rw [f3 1 4 (by omega), f2 1 4 (by omega), f1 1 4 (by omega)]; exact k2) z2 q0 (by decide) (by decide) ?_ hf
            rw [Int.add_zero]
            exact stB' _ (g_ifF wk (g_ifF wk3 rfl))
      · have e5 : m = 5 := by omega
        have x12 : m1 1 2 = q := x1.resolve_right (by omega)
        have lk1 := lk.move f1 sk x12 hqn
        rw [e5] at lk1
        refine ⟨hS.k52, ?_⟩
        have e3 : m1 52 3 = m0 52 3 := f1 52 3 (by omega)
        exact ze_readComparison hS hm1 ht lk1 x12 sk.idem (na.resolve_left (by omega)) (fun m4 hm4 t4 n4 => ⟨by decide, hf m4 hm4 t4 n4⟩) (fun m4 hm4 l4 w8 w3 w2 => ⟨by decide, hk m4 3 st hm4 (by omega) (by omega) l4 (by omega) (by omega)⟩)
    · have e4 : m = 4 := by omega
      have x12 : m1 1 2 = q := x1.resolve_right (by omega)
      have lk1 := lk.move f1 sk x12 hqn
      rw [e4, h4 e4] at lk1
      refine ⟨hS.k52, ?_⟩
      have e3 : m1 52 3 = m0 52 3 := f1 52 3 (by omega)
      exact ze_readIf hS hm1 ht lk1 x12 sk.idem (jn.1 e4) (na.resolve_left (by omega)) (fun m4 hm4 t4 n4 => ⟨by decide, hf m4 hm4 t4 n4⟩) (fun m4 s4 hm4 l4 w8 w3 w2 => ⟨by decide, hk m4 2 s4 hm4 (by omega) (by omega) l4 (by omega) (by omega)⟩)
  refine u_X3_readJoint ?_
  refine g_getu 8 rfl hS.k52 (fun w ew => ?_)
  refine g_C ?_
  refine g_if (fun w1 => ?_) (fun w1 => ?_)
  · refine ⟨hS.k52, ?_⟩
    refine ze_takeArithmetic hS hm0 ht k3 (fun q' v m1 hm1 f1 sk1 x1 x2 l1 ar v0 v1 => ?_) (fun q' m1 hm1 f1 sk1 x1 x2 l1 nar => ?_)
    · obtain rfl := sk1.uniq sk
      refine u_X3_readJoint_16 ?_
      refine g_ifF (by omega) ?_
      refine ⟨hS.k52, ?_⟩
      have cp1 : CP m1 st := k7.same (f1 52 5 (by omega)) (f1 52 6 (by omega)) (fun p => f1 54 p (by omega))
      have g5 : m1 52 5 = m0 52 5 := f1 52 5 (by omega)
      refine ze_pileA hS hm1 cp1 k6 (by omega) (by have := sk.1; omega) (fun m2 hm2 f2 c2 ph => ?_)
      rw [f1 52 2 (by omega), g5] at ph
      have e12 : m2 1 2 = q' + 1 := (f2 1 2 (by omega)).trans x1
      have e3 : m2 52 3 = m0 52 3 := (f2 52 3 (by omega)).trans (f1 52 3 (by omega))
      have e8 : m2 52 8 = m - 4 := by rw [f2 52 8 (by omega), f1 52 8 (by omega)]; exact h8
      have m3 : m = 4 ∨ m = 5 ∨ m = 6 := by omega
      refine g_C ⟨by decide, hk m2 (m - 3) st hm2 (by omega) (fun e => h4 (by omega)) ⟨fun f hA => k1 f (a_step sk ?_), by rw [f2 1 4 (by omega), f1 1 4 (by omega)]; exact k2, by omega, by have := sk.1; omega, by omega, k6, c2, by rw [f2 52 7 (by omega), f1 52 7 (by omega)]; exact k8⟩ (by omega) (by omega)⟩
      rw [e12, e3] at hA
      rcases m3 with e | e | e
      · rw [e] at hA ⊢
        exact sp_A0 (g_ifF (jn.1 e) (g_ifT ar hA))
      · rw [e] at hA ⊢
        exact sp_A1 (g_ifT ⟨l1, ar⟩ hA)
      · rw [e] at hA ⊢
        obtain ⟨nc, ne⟩ := jn.2 (Or.inl e)
        exact sp_A2 (g_ifF nc (g_ifF ne (g_ifT ⟨l1, ar⟩ hA)))
    · obtain rfl := sk1.uniq sk
      exact rest m1 hm1 f1 (Or.inl x1) (Or.inr nar)
  · refine g_C ?_
    exact rest m0 hm0 (fun _ _ _ => rfl) (Or.inr ⟨by omega, rfl⟩) (Or.inl (by omega))
