theorem nOp_le : ∀ P : List Int, nOp P ≤ nDp P := by
  intro P
  induction P with
  | nil => exact Nat.le_refl _
  | cons x P ih =>
    show (if x = -27 then 1 else 0) + nOp P ≤ (if x = -27 ∨ x = -22 then 1 else 0) + nDp P
    by_cases e : x = -27
    · rw [if_pos e, if_pos (Or.inl e)]; omega
    · rw [if_neg e]; omega
theorem CQ.opn {m m1 : Mm} {P O : List Int} {s : Int} (h : CQ m P O) (h0 : 0 ≤ m 52 5) (f : ∀ c p : Int, ¬ (c = 52 ∧ (p = 5 ∨ p = 6 ∨ p = 7)) ∧ ¬ (c = 54 ∧ p = m 52 5) ∧ ¬ (c = 1 ∧ 2 ≤ p ∧ p ≤ 3) → m1 c p = m c p) (h5 : m1 52 5 = m 52 5 + 1) (hs : m1 54 (m 52 5) = s) (hd : s = -27 ∨ s = -22) (h6 : m1 52 6 = m 52 6 + 1) : CQ m1 (s :: P) O := by
  obtain ⟨p1, p2, p3, p4⟩ := h
  have e3 : m1 53 = m 53 := funext (fun p => f 53 p (by first | decide | exact fun z => absurd z.1 (by decide) | exact ⟨fun z => absurd z.1 (by decide), fun z => absurd z.1 (by decide)⟩ | omega))
  refine ⟨?_, by rw [f 52 2 (by first | decide | exact fun z => absurd z.1 (by decide) | exact ⟨fun z => absurd z.1 (by decide), fun z => absurd z.1 (by decide)⟩ | omega), e3]; exact p2, ?_, fun x hx => ?_⟩
  · rw [h5, show (m 52 5 + 1).toNat = (m 52 5).toNat + 1 by omega]
    show m1 54 (((m 52 5).toNat : Nat) : Int) :: pl (m1 54) (m 52 5).toNat = s :: P
    rw [Int.toNat_of_nonneg h0, hs, pl_same (g := m 54) _ (fun j j0 j1 => f 54 j (by first | decide | exact fun z => absurd z.1 (by decide) | exact ⟨fun z => absurd z.1 (by decide), fun z => absurd z.1 (by decide)⟩ | omega)), p1]
  · rw [h6, p3]
    show (nDp P : Int) + 1 = (((if s = -27 ∨ s = -22 then 1 else 0) + nDp P : Nat) : Int)
    rw [if_pos hd]
    omega
  · rcases List.mem_cons.mp hx with e | e
    · rw [e]; omega
    · exact p4 x e
theorem zf_beginFact {X : Mm} {S : Sh} {m0 : Mm} {K : Int → Mm → Prop} {b : Int → Int} {n k : Int} {T : Int → List Int → Prop} {P O : List Int} (hS : Shp S) (hm0 : Inv X S m0) (ht : TC X b n) (lk : Lq b n T m0 8 P O k) (hf : ∀ M1 : Mm, Inv X S M1 → T (M1 1 4) [] → ¬ M1 1 4 = 0 → K 0 M1) (hk : ∀ (M1 : Mm) (P' : List Int), Inv X S M1 → Lq b n T M1 2 P' O k → M1 52 8 = 1 → M1 52 3 = m0 52 3 → m0 1 2 ≤ M1 1 2 → K 1 M1) : wp_X3_beginFact S m0 52 K := by
  have nb := ht.2.1
  refine u_X3_beginFact ?_
  refine g_C ?_
  refine g_put 8 rfl hS.k52 (hm0.w_52_8 (by decide) (by decide)) (fun m1 e1 hm1 => ?_)
  have f1 : ∀ c p : Int, ¬ (c = 52 ∧ p = 8) → m1 c p = m0 c p := fun c p q => (congrFun (congrFun e1 _) _).trans (up_ne q)
  have y1 : m1 52 8 = 1 := (congrFun (congrFun e1 _) _).trans (up_at _ _ _ _)
  have lk1 : Lq b n T m1 8 P O k := by
    obtain ⟨k1, k2, k3, k4, k5, k6, k7, k8⟩ := lk
    refine ⟨fun f E z => k1 f E ?_, (f1 1 4 (by first | decide | exact fun z => absurd z.1 (by decide) | exact ⟨fun z => absurd z.1 (by decide), fun z => absurd z.1 (by decide)⟩ | omega)).trans k2, by rw [f1 1 2 (by first | decide | exact fun z => absurd z.1 (by decide) | exact ⟨fun z => absurd z.1 (by decide), fun z => absurd z.1 (by decide)⟩ | omega)]; exact k3, by rw [f1 52 2 (by first | decide | exact fun z => absurd z.1 (by decide) | exact ⟨fun z => absurd z.1 (by decide), fun z => absurd z.1 (by decide)⟩ | omega), f1 52 5 (by first | decide | exact fun z => absurd z.1 (by decide) | exact ⟨fun z => absurd z.1 (by decide), fun z => absurd z.1 (by decide)⟩ | omega), f1 1 2 (by first | decide | exact fun z => absurd z.1 (by decide) | exact ⟨fun z => absurd z.1 (by decide), fun z => absurd z.1 (by decide)⟩ | omega)]; exact k4, by rw [f1 52 3 (by first | decide | exact fun z => absurd z.1 (by decide) | exact ⟨fun z => absurd z.1 (by decide), fun z => absurd z.1 (by decide)⟩ | omega)]; exact k5, k6, k7.same (fun c p z => f1 c p (by first | exact fun y => absurd (y.1 ▸ z) (by decide) | exact fun y => absurd (y.1 ▸ q) (by decide) | exact z | exact q | exact z.1 | exact q.1 | exact z.2 | exact q.2 | omega)), (f1 52 7 (by first | decide | exact fun z => absurd z.1 (by decide) | exact ⟨fun z => absurd z.1 (by decide), fun z => absurd z.1 (by decide)⟩ | omega)).trans k8⟩
    rw [f1 1 2 (by first | decide | exact fun z => absurd z.1 (by decide) | exact ⟨fun z => absurd z.1 (by decide), fun z => absurd z.1 (by decide)⟩ | omega), f1 52 3 (by first | decide | exact fun z => absurd z.1 (by decide) | exact ⟨fun z => absurd z.1 (by decide), fun z => absurd z.1 (by decide)⟩ | omega)] at z
    exact z
  refine g_C ?_
  have L : ∀ (j : Nat) (i : Int) (m : Mm) (s : List Int), Inv X S m → Lq b n T m 8 s O k → m 52 8 = 1 → m 52 3 = m0 52 3 → m0 1 2 ≤ m 1 2 → 0 ≤ i → i ≤ (nDp s : Int) → 12 - i ≤ (j : Int) → wp_X3_beginFact_7 S K j 52 i m := by
    intro j
    induction j with
    | zero =>
      intro i m s hm lk _ _ _ _ h1 h2
      have := lk.2.2.2.2.2.1
      exfalso; omega
    | succ j ih =>
      intro i m s hm lk w8 w3 w2 i0 i1 h
      obtain ⟨k1, k2, k3, k4, k5, k6, k7, k8⟩ := id lk
      have b5 := hm.f_52_5
      have b2 := hm.f_1_2
      have dp := k7.2.2.1
      -- one opening: '[' or not
      have one : ∀ (q r : Int) (o : Int) (m1 : Mm), Inv X S m1 → (∀ c p : Int, ¬ (c = 1 ∧ 2 ≤ p ∧ p ≤ 3) → m1 c p = m c p) → Sk b n (m 1 2) q → m1 1 3 = q → m1 1 2 = r → q < r → r ≤ n → (o = 0 ∨ o = 1) → (∀ (f : Int) (E : List Int), wIf (nDp s = 10) (f = 3 + 8 * q ∧ E = []) (Bcc b n 8 r (m 52 3) ((if o = 0 then -22 else -27) :: s) O k f E) → T f E) → wp_X3_beginFact_41 S (fun a0 a1 M => wp_X3_beginFact_7 S K j a0 a1 M) K 52 i o m1 := by
        intro q r o m1 hm1 f1 sk x3 x2 hqr hrn ho hT
        have s1 := sk.1
        refine u_X3_beginFact_41 ?_
        refine g_getu 6 rfl hS.k52 (fun d ed => ?_)
        rw [f1 52 6 (by first | decide | exact fun z => absurd z.1 (by decide) | exact ⟨fun z => absurd z.1 (by decide), fun z => absurd z.1 (by decide)⟩ | omega)] at ed
        refine g_C ?_
        refine g_if (fun w => ?_) (fun w => ?_)
        · refine g_getu 6 rfl hS.k52 (fun d2 ed2 => ?_)
          rw [f1 52 6 (by first | decide | exact fun z => absurd z.1 (by decide) | exact ⟨fun z => absurd z.1 (by decide), fun z => absurd z.1 (by decide)⟩ | omega)] at ed2
          refine g_C ?_
          refine g_A (by omega) (by omega) ?_
          refine g_put 6 rfl hS.k52 (hm1.w_52_6 (by omega) (by omega)) (fun m2 e2 hm2 => ?_)
          have f2 : ∀ c p : Int, ¬ (c = 52 ∧ p = 6) → m2 c p = m1 c p := fun c p q => (congrFun (congrFun e2 _) _).trans (up_ne q)
          have y2 : m2 52 6 = d2 + 1 := (congrFun (congrFun e2 _) _).trans (up_at _ _ _ _)
          refine g_getu 7 rfl hS.k52 (fun op eop => ?_)
          rw [f2 52 7 (by first | decide | exact fun z => absurd z.1 (by decide) | exact ⟨fun z => absurd z.1 (by decide), fun z => absurd z.1 (by decide)⟩ | omega), f1 52 7 (by first | decide | exact fun z => absurd z.1 (by decide) | exact ⟨fun z => absurd z.1 (by decide), fun z => absurd z.1 (by decide)⟩ | omega), k8] at eop
          have cl := nOp_le s
          -- both ways go on alike
          have rest : ∀ (ad sg : Int), ((ad = 0 ∧ sg = -22 ∧ o = 0) ∨ (ad = 1 ∧ sg = -27 ∧ o = 1)) → wA op ad fun v4 => wPut S m2 52 3 7 v4 fun M6 => wp_X3_beginFact_99 S (fun a0 a1 M => wp_X3_beginFact_7 S K j a0 a1 M) K 52 i 52 sg M6 := by
            intro ad sg hh
            refine g_A (by omega) (by omega) ?_
            refine g_put 7 rfl hS.k52 (hm2.w_52_7 (by omega) (by omega)) (fun m3 e3 hm3 => ?_)
            have f3 : ∀ c p : Int, ¬ (c = 52 ∧ p = 7) → m3 c p = m2 c p := fun c p q => (congrFun (congrFun e3 _) _).trans (up_ne q)
            have y3 : m3 52 7 = op + ad := (congrFun (congrFun e3 _) _).trans (up_at _ _ _ _)
            refine u_X3_beginFact_99 ?_
            refine ⟨hS.k52, ?_⟩
            have G : ∀ c p : Int, ¬ (c = 52 ∧ (p = 6 ∨ p = 7)) ∧ ¬ (c = 1 ∧ 2 ≤ p ∧ p ≤ 3) → m3 c p = m c p := fun c p z => by rw [f3 c p (by first | exact fun y => absurd (y.1 ▸ z) (by decide) | exact fun y => absurd (y.1 ▸ q) (by decide) | exact z | exact q | exact z.1 | exact q.1 | exact z.2 | exact q.2 | omega), f2 c p (by first | exact fun y => absurd (y.1 ▸ z) (by decide) | exact fun y => absurd (y.1 ▸ q) (by decide) | exact z | exact q | exact z.1 | exact q.1 | exact z.2 | exact q.2 | omega), f1 c p (by first | exact fun y => absurd (y.1 ▸ z) (by decide) | exact fun y => absurd (y.1 ▸ q) (by decide) | exact z | exact q | exact z.1 | exact q.1 | exact z.2 | exact q.2 | omega)]
            have e5 : m3 52 5 = m 52 5 := G 52 5 (by omega)
            have e22 : m3 52 2 = m 52 2 := G 52 2 (by omega)
            have b22 := hm3.f_52_2
            refine ze_push hS hm3 (by omega) (fun m4 hm4 f4 y5 ys => ?_)
            rw [e5] at f4 y5 ys
            have z2 : m4 1 2 = r := by rw [f4 1 2 (by first | decide | exact fun z => absurd z.1 (by decide) | exact ⟨fun z => absurd z.1 (by decide), fun z => absurd z.1 (by decide)⟩ | omega), f3 1 2 (by first | decide | exact fun z => absurd z.1 (by decide) | exact ⟨fun z => absurd z.1 (by decide), fun z => absurd z.1 (by decide)⟩ | omega), f2 1 2 (by first | decide | exact fun z => absurd z.1 (by decide) | exact ⟨fun z => absurd z.1 (by decide), fun z => absurd z.1 (by decide)⟩ | omega)]; exact x2
            have z3 : m4 52 3 = m 52 3 := by rw [f4 52 3 (by first | decide | exact fun z => absurd z.1 (by decide) | exact ⟨fun z => absurd z.1 (by decide), fun z => absurd z.1 (by decide)⟩ | omega)]; exact G 52 3 (by omega)
            have z6 : m4 52 6 = m 52 6 + 1 := by rw [f4 52 6 (by first | decide | exact fun z => absurd z.1 (by decide) | exact ⟨fun z => absurd z.1 (by decide), fun z => absurd z.1 (by decide)⟩ | omega), f3 52 6 (by first | decide | exact fun z => absurd z.1 (by decide) | exact ⟨fun z => absurd z.1 (by decide), fun z => absurd z.1 (by decide)⟩ | omega)]; omega
            have z7 : m4 52 7 = (nOp s : Int) + ad := by rw [f4 52 7 (by first | decide | exact fun z => absurd z.1 (by decide) | exact ⟨fun z => absurd z.1 (by decide), fun z => absurd z.1 (by decide)⟩ | omega)]; omega
            have z8 : m4 52 8 = 1 := by rw [f4 52 8 (by first | decide | exact fun z => absurd z.1 (by decide) | exact ⟨fun z => absurd z.1 (by decide), fun z => absurd z.1 (by decide)⟩ | omega), G 52 8 (by omega)]; exact w8
            have z4 : m4 1 4 = 0 := by rw [f4 1 4 (by first | decide | exact fun z => absurd z.1 (by decide) | exact ⟨fun z => absurd z.1 (by decide), fun z => absurd z.1 (by decide)⟩ | omega), G 1 4 (by omega)]; exact k2
            have z22 : m4 52 2 = m 52 2 := by rw [f4 52 2 (by first | decide | exact fun z => absurd z.1 (by decide) | exact ⟨fun z => absurd z.1 (by decide), fun z => absurd z.1 (by decide)⟩ | omega)]; exact e22
            have cq4 : CQ m4 (sg :: s) O := k7.opn b5.1 (fun c p z => (f4 c p (by first | exact fun y => absurd (y.1 ▸ z) (by decide) | exact fun y => absurd (y.1 ▸ q) (by decide) | exact z | exact q | exact z.1 | exact q.1 | exact z.2 | exact q.2 | omega)).trans (G c p (by omega))) y5 ys (by omega) z6
            have eo : (if o = 0 then (-22 : Int) else -27) = sg := by
              rcases hh with ⟨_, e1, e2⟩ | ⟨_, e1, e2⟩
              · rw [e1, e2]; rfl
              · rw [e1, e2]; rfl
            have nd4 : nDp (sg :: s) = 1 + nDp s := by
              show (if sg = -27 ∨ sg = -22 then 1 else 0) + nDp s = _
              rw [if_pos (by omega)]
            have no4 : ((nOp (sg :: s) : Nat) : Int) = (nOp s : Int) + ad := by
              show (((if sg = -27 then 1 else 0) + nOp s : Nat) : Int) = _
              rcases hh with ⟨e0, e1, _⟩ | ⟨e0, e1, _⟩
              · rw [e1, e0, if_neg (by decide)]; omega
              · rw [e1, e0, if_pos rfl]; omega
            refine g_A (by omega) (by omega) ?_
            refine ih (i + 1) m4 (sg :: s) hm4 ⟨fun f E hA => hT f E ?_, z4, by omega, by omega, by omega, by omega, cq4, by omega⟩ z8 (by omega) (by omega) (by omega) (by omega) (by omega)
            rw [z2, z3, ← eo] at hA
            exact g_ifF (by first | decide | omega) hA
          refine g_if (fun w0 => ?_) (fun w0 => ?_)
          · refine g_C ?_
            refine u_X3_beginFact_83 ?_
            have q := rest 0 (-22) (Or.inl ⟨rfl, rfl, w0⟩)
            refine g_A (by omega) (by omega) ?_
            have q2 : wPut S m2 52 3 7 (op + 0) fun M6 => wp_X3_beginFact_99 S (fun a0 a1 M => wp_X3_beginFact_7 S K j a0 a1 M) K 52 i 52 (-22) M6 := by
              unfold wA at q
              rw [w32_id (by omega) (by omega)] at q
              exact q
            exact ⟨q2.1, g_ifT w0 (g_C q2.2)⟩
          · refine g_C ?_
            refine u_X3_beginFact_83 ?_
            have q := rest 1 (-27) (Or.inr ⟨rfl, rfl, by omega⟩)
            refine g_A (by omega) (by omega) ?_
            have q2 : wPut S m2 52 3 7 (op + 1) fun M6 => wp_X3_beginFact_99 S (fun a0 a1 M => wp_X3_beginFact_7 S K j a0 a1 M) K 52 i 52 (-27) M6 := by
              unfold wA at q
              rw [w32_id (by omega) (by omega)] at q
              exact q
            exact ⟨q2.1, g_ifF w0 (g_C q2.2)⟩
        · refine g_getr 0 1 rfl hS.k52 hm1.f_52_0 (by decide) ?_
          refine g_C ?_
          refine ⟨hS.k1, ?_⟩
          refine ze_refuse hS hm1 (by decide) (by decide) (fun m2 hm2 f2 y2 => ?_)
          rw [f1 1 4 (by first | decide | exact fun z => absurd z.1 (by decide) | exact ⟨fun z => absurd z.1 (by decide), fun z => absurd z.1 (by decide)⟩ | omega)] at y2
          have y3 : m2 1 4 = 3 + 8 * q := by omega
          refine ⟨by decide, hf m2 hm2 ?_ (by omega)⟩
          rw [y3]
          exact hT _ _ (g_ifT (by first | decide | omega) ⟨rfl, rfl⟩)
      refine u_X3_beginFact_7 ?_
      refine g_C ?_
      refine g_ifF (by first | decide | omega) ?_
      refine g_getr 0 1 rfl hS.k52 hm.f_52_0 (by decide) ?_
      refine g_C ?_
      refine ⟨hS.k1, ?_⟩
      refine ze_takesSign hS hm ht k3 (by decide) (by decide) (fun q m1 hm1 f1 sk x1 x2 l1 bq => ?_) (fun q m1 hm1 f1 sk x1 x2 l1 nq => ?_)
      · refine g_ifT (by decide) ?_
        refine one q (q + 1) 1 m1 hm1 f1 sk x2 x1 (by omega) (by omega) (Or.inr rfl) (fun f E hA => k1 f E (b_step sk (tb_O (g_ifT ⟨l1, bq⟩ ?_))))
        exact hA
      · refine g_ifF (by decide) ?_
        refine g_getr 0 1 rfl hS.k52 hm1.f_52_0 (by decide) ?_
        refine g_C ?_
        refine ⟨hS.k1, ?_⟩
        refine ze_takesWord 14 hS hm1 ht (by omega) (by decide) (by decide) (fun q' m2 hm2 f2 sk2 y1 y2 l2 wk => ?_) (fun q' m2 hm2 f2 sk2 y1 y2 l2 wk => ?_)
        · rw [x1] at sk2
          obtain rfl := sk2.uniq sk.idem
          refine g_ifT (by decide) ?_
          have t14 : tl 14 = 3 := by decide
          refine one q' (q' + tl 14) 0 m2 hm2 (fun c p z => (f2 c p z).trans (f1 c p z)) sk y2 y1 (by omega) l2 (Or.inl rfl) (fun f E hA => k1 f E (b_step sk (tb_O (g_ifF nq (g_ifT wk ?_)))))
          rw [t14] at hA
          exact hA
        · rw [x1] at sk2
          obtain rfl := sk2.uniq sk.idem
          refine g_ifF (by decide) ?_
          have F2 : ∀ c p : Int, ¬ (c = 1 ∧ 2 ≤ p ∧ p ≤ 3) → m2 c p = m c p := fun c p z => (f2 c p z).trans (f1 c p z)
          have lk2 : Lq b n T m2 8 s O k := lk.move F2 sk y1 l2
          refine g_C ⟨by decide, hk m2 s hm2 ⟨fun f E hA => lk2.1 f E ?_, lk2.2⟩ ((F2 52 8 (by first | decide | exact fun z => absurd z.1 (by decide) | exact ⟨fun z => absurd z.1 (by decide), fun z => absurd z.1 (by decide)⟩ | omega)).trans w8) ((F2 52 3 (by first | decide | exact fun z => absurd z.1 (by decide) | exact ⟨fun z => absurd z.1 (by decide), fun z => absurd z.1 (by decide)⟩ | omega)).trans w3) (by have := sk.1; omega)⟩
          rw [y1] at hA ⊢
          exact b_step sk.idem (tb_O (g_ifF nq (g_ifF wk hA)))
  exact ⟨12, L 12 0 m1 P hm1 lk1 y1 (f1 52 3 (by first | decide | exact fun z => absurd z.1 (by decide) | exact ⟨fun z => absurd z.1 (by decide), fun z => absurd z.1 (by decide)⟩ | omega)) (by rw [f1 1 2 (by first | decide | exact fun z => absurd z.1 (by decide) | exact ⟨fun z => absurd z.1 (by decide), fun z => absurd z.1 (by decide)⟩ | omega)]; omega) (by decide) (by omega) (by decide)⟩
/-- the class stands behind a value or a bracket (mode m), and neither ']' nor the clause's end comes -/
def Jq (b : Int → Int) (n m : Int) (P : List Int) (q : Int) : Prop := (m = 4 → ¬ (n ≤ q ∨ b q = 59)) ∧ ((m = 6 ∨ m = 7) → ¬ (q < n ∧ b q = 93 ∧ ¬ nOp P = 0) ∧ ¬ (nOp P = 0 ∧ (n ≤ q ∨ b q = 59)))
theorem zf_readIf {X : Mm} {S : Sh} {m0 : Mm} {K : Int → Mm → Prop} {b : Int → Int} {n k q : Int} {P O : List Int} {T : Int → List Int → Prop} (hS : Shp S) (hm0 : Inv X S m0) (ht : TC X b n) (h4 : nDp P = 0) (lk : Lq b n T m0 4 P O k) (hq : m0 1 2 = q) (sq : Sk b n q q) (nj : ¬ (n ≤ q ∨ b q = 59)) (na : ¬ (q < n ∧ Ar (b q))) (hf : ∀ M1 : Mm, Inv X S M1 → T (M1 1 4) [] → ¬ M1 1 4 = 0 → K 0 M1) (hk : ∀ (M1 : Mm) (P' O' : List Int), Inv X S M1 → Lq b n T M1 2 P' O' k → M1 52 8 = 1 → M1 52 3 = m0 52 3 → q < M1 1 2 → K 1 M1) : wp_X3_readIf S m0 52 K := by
  obtain ⟨k1, k2, k3, k4, k5, k6, k7, k8⟩ := id lk
  have b2 := hm0.f_1_2
  have nb := ht.2.1
  have na2 : ¬ Ar (b q) := fun z => na ⟨by omega, z⟩
  refine u_X3_readIf ?_
  refine g_getr 0 1 rfl hS.k52 hm0.f_52_0 (by decide) ?_
  refine g_C ?_
  refine ⟨hS.k1, ?_⟩
  refine ze_takesWord 13 hS hm0 ht k3 (by decide) (by decide) (fun q' m1 hm1 f1 sk x1 x2 l1 wk => ?_) (fun q' m1 hm1 f1 sk x1 x2 l1 wk => ?_)
  · rw [hq] at sk
    obtain rfl := sk.uniq sq
    have t13 : tl 13 = 2 := by decide
    refine g_ifT (by decide) ?_
    refine g_C ?_
    refine ⟨hS.k52, ?_⟩
    have cp1 : CQ m1 P O := k7.same (fun c p z => f1 c p (by first | exact fun y => absurd (y.1 ▸ z) (by decide) | exact fun y => absurd (y.1 ▸ q) (by decide) | exact z | exact q | exact z.1 | exact q.1 | exact z.2 | exact q.2 | omega))
    have g52 : m1 52 2 = m0 52 2 := f1 52 2 (by first | decide | exact fun z => absurd z.1 (by decide) | exact ⟨fun z => absurd z.1 (by decide), fun z => absurd z.1 (by decide)⟩ | omega)
    have g55 : m1 52 5 = m0 52 5 := f1 52 5 (by first | decide | exact fun z => absurd z.1 (by decide) | exact ⟨fun z => absurd z.1 (by decide), fun z => absurd z.1 (by decide)⟩ | omega)
    refine zf_unpile hS hm1 cp1 (by omega) k6 (fun m2 hm2 f2 c2 ph => ?_)
    have nd2 := nDp_uR 0 P
    have no2 := nOp_uR 0 P
    refine ⟨hS.k52, ?_⟩
    have e12 : m2 1 2 = q' + 2 := by rw [f2 1 2 (by first | decide | exact fun z => absurd z.1 (by decide) | exact ⟨fun z => absurd z.1 (by decide), fun z => absurd z.1 (by decide)⟩ | omega)]; omega
    have e3 : m2 52 3 = m0 52 3 := by rw [f2 52 3 (by first | decide | exact fun z => absurd z.1 (by decide) | exact ⟨fun z => absurd z.1 (by decide), fun z => absurd z.1 (by decide)⟩ | omega), f1 52 3 (by first | decide | exact fun z => absurd z.1 (by decide) | exact ⟨fun z => absurd z.1 (by decide), fun z => absurd z.1 (by decide)⟩ | omega)]
    rw [f1 52 2 (by first | decide | exact fun z => absurd z.1 (by decide) | exact ⟨fun z => absurd z.1 (by decide), fun z => absurd z.1 (by decide)⟩ | omega), f1 52 5 (by first | decide | exact fun z => absurd z.1 (by decide) | exact ⟨fun z => absurd z.1 (by decide), fun z => absurd z.1 (by decide)⟩ | omega)] at ph
    have lk2 : Lq b n T m2 8 (uR 0 P) (O ++ uW 0 P) k := by
      refine ⟨fun f E hA => k1 f E (b_step (q := q') (by rw [hq]; exact sq) (tb_A0 (g_ifF nj (g_ifF na2 (g_ifT wk ?_))))), by rw [f2 1 4 (by first | decide | exact fun z => absurd z.1 (by decide) | exact ⟨fun z => absurd z.1 (by decide), fun z => absurd z.1 (by decide)⟩ | omega), f1 1 4 (by first | decide | exact fun z => absurd z.1 (by decide) | exact ⟨fun z => absurd z.1 (by decide), fun z => absurd z.1 (by decide)⟩ | omega)]; exact k2, by omega, by omega, by omega, by omega, c2, by rw [f2 52 7 (by first | decide | exact fun z => absurd z.1 (by decide) | exact ⟨fun z => absurd z.1 (by decide), fun z => absurd z.1 (by decide)⟩ | omega), f1 52 7 (by first | decide | exact fun z => absurd z.1 (by decide) | exact ⟨fun z => absurd z.1 (by decide), fun z => absurd z.1 (by decide)⟩ | omega), no2]; exact k8⟩
      rw [e12, e3] at hA
      exact hA
    refine zf_beginFact hS hm2 ht lk2 (fun m3 hm3 t3 n3 => ⟨by decide, hf m3 hm3 t3 n3⟩) (fun m3 s3 hm3 l3 w8 w3 w2 => ⟨by decide, hk m3 s3 _ hm3 l3 w8 (by omega) (by omega)⟩)
  · rw [hq] at sk
    obtain rfl := sk.uniq sq
    refine g_ifF (by decide) ?_
    refine g_getr 0 1 rfl hS.k52 hm1.f_52_0 (by decide) ?_
    refine g_C ?_
    refine ze_refuse0 (q := q') (T := fun f => T f []) hS hm1 ((f1 1 4 (by first | decide | exact fun z => absurd z.1 (by decide) | exact ⟨fun z => absurd z.1 (by decide), fun z => absurd z.1 (by decide)⟩ | omega)).trans k2) x2 (by omega) (by decide) (by decide) ?_ hf
    rw [Int.add_zero]
    exact k1 _ _ (b_step (q := q') (by rw [hq]; exact sq) (tb_A0 (g_ifF nj (g_ifF na2 (g_ifF wk ⟨rfl, rfl⟩)))))
theorem zf_readComparison {X : Mm} {S : Sh} {m0 : Mm} {K : Int → Mm → Prop} {b : Int → Int} {n k q : Int} {T : Int → List Int → Prop} {P O : List Int} (hS : Shp S) (hm0 : Inv X S m0) (ht : TC X b n) (lk : Lq b n T m0 5 P O k) (hq : m0 1 2 = q) (sq : Sk b n q q) (na : ¬ (q < n ∧ Ar (b q))) (hf : ∀ M1 : Mm, Inv X S M1 → T (M1 1 4) [] → ¬ M1 1 4 = 0 → K 0 M1) (hk : ∀ (M1 : Mm) (P' O' : List Int), Inv X S M1 → Lq b n T M1 3 P' O' k → M1 52 8 = 2 → m0 52 3 ≤ M1 52 3 → q < M1 1 2 → K 1 M1) : wp_X3_readComparison S m0 52 K := by
  obtain ⟨k1, k2, k3, k4, k5, k6, k7, k8⟩ := id lk
  have b2 := hm0.f_1_2
  have b3 := hm0.f_52_3
  have nb := ht.2.1
  refine u_X3_readComparison ?_
  refine ⟨hS.k52, ?_⟩
  refine zf_takeComparison hS hm0 ht k3 (fun q' v m1 hm1 f1 sk l1 cm x3 x2 v0 v1 => ?_) (fun q' m1 hm1 f1 sk x1 x2 l1 ncm => ?_)
  · rw [hq] at sk
    obtain rfl := sk.uniq sq
    have sq0 : Sk b n (m0 1 2) q' := by rw [hq]; exact sq
    refine g_ifT (by first | decide | omega) ?_
    refine g_getu 3 rfl hS.k52 (fun a ea => ?_)
    rw [f1 52 3 (by first | decide | exact fun z => absurd z.1 (by decide) | exact ⟨fun z => absurd z.1 (by decide), fun z => absurd z.1 (by decide)⟩ | omega)] at ea
    refine g_C ?_
    refine g_if (fun w => ?_) (fun w => ?_)
    · refine g_getu 3 rfl hS.k52 (fun a2 ea2 => ?_)
      rw [f1 52 3 (by first | decide | exact fun z => absurd z.1 (by decide) | exact ⟨fun z => absurd z.1 (by decide), fun z => absurd z.1 (by decide)⟩ | omega)] at ea2
      refine g_C ?_
      refine g_A (by omega) (by omega) ?_
      refine g_put 3 rfl hS.k52 (hm1.w_52_3 (by omega) (by omega)) (fun m2 e2 hm2 => ?_)
      have f2 : ∀ c p : Int, ¬ (c = 52 ∧ p = 3) → m2 c p = m1 c p := fun c p q => (congrFun (congrFun e2 _) _).trans (up_ne q)
      have y2 : m2 52 3 = a2 + 1 := (congrFun (congrFun e2 _) _).trans (up_at _ _ _ _)
      have G : ∀ c p : Int, ¬ (c = 52 ∧ p = 3) ∧ ¬ (c = 1 ∧ 2 ≤ p ∧ p ≤ 3) → m2 c p = m0 c p := fun c p z => (f2 c p (by first | exact fun y => absurd (y.1 ▸ z) (by decide) | exact fun y => absurd (y.1 ▸ q) (by decide) | exact z | exact q | exact z.1 | exact q.1 | exact z.2 | exact q.2 | omega)).trans (f1 c p (by first | exact fun y => absurd (y.1 ▸ z) (by decide) | exact fun y => absurd (y.1 ▸ q) (by decide) | exact z | exact q | exact z.1 | exact q.1 | exact z.2 | exact q.2 | omega))
      have cp2 : CQ m2 P O := k7.same (fun c p z => G c p (by omega))
      have g5 : m2 52 5 = m0 52 5 := G 52 5 (by omega)
      have g2 : m2 52 2 = m0 52 2 := G 52 2 (by omega)
      have b22 := hm2.f_52_2
      refine ⟨hS.k52, ?_⟩
      have nd3 : nDp (v :: uR (bnS v) P) = nDp (uR (bnS v) P) := by
        show (if v = -27 ∨ v = -22 then 1 else 0) + nDp (uR (bnS v) P) = _
        rw [if_neg (by omega), Nat.zero_add]
      have no3 : nOp (v :: uR (bnS v) P) = nOp P := by
        show (if v = -27 then 1 else 0) + nOp (uR (bnS v) P) = _
        rw [if_neg (by omega), Nat.zero_add, nOp_uR]
      have nd4 := nDp_uR (bnS v) P
      refine zf_pile hS hm2 cp2 (by omega) k6 (by omega) (by omega) (fun m3 hm3 f3 c3 ph => ?_)
      refine g_C ?_
      refine g_put 8 rfl hS.k52 (hm3.w_52_8 (by decide) (by decide)) (fun m4 e4 hm4 => ?_)
      have f4 : ∀ c p : Int, ¬ (c = 52 ∧ p = 8) → m4 c p = m3 c p := fun c p q => (congrFun (congrFun e4 _) _).trans (up_ne q)
      have y4 : m4 52 8 = 2 := (congrFun (congrFun e4 _) _).trans (up_at _ _ _ _)
      have e12 : m4 1 2 = m1 1 2 := by rw [f4 1 2 (by first | decide | exact fun z => absurd z.1 (by decide) | exact ⟨fun z => absurd z.1 (by decide), fun z => absurd z.1 (by decide)⟩ | omega), f3 1 2 (by first | decide | exact fun z => absurd z.1 (by decide) | exact ⟨fun z => absurd z.1 (by decide), fun z => absurd z.1 (by decide)⟩ | omega), f2 1 2 (by first | decide | exact fun z => absurd z.1 (by decide) | exact ⟨fun z => absurd z.1 (by decide), fun z => absurd z.1 (by decide)⟩ | omega)]
      have e3 : m4 52 3 = m0 52 3 + 1 := by rw [f4 52 3 (by first | decide | exact fun z => absurd z.1 (by decide) | exact ⟨fun z => absurd z.1 (by decide), fun z => absurd z.1 (by decide)⟩ | omega), f3 52 3 (by first | decide | exact fun z => absurd z.1 (by decide) | exact ⟨fun z => absurd z.1 (by decide), fun z => absurd z.1 (by decide)⟩ | omega)]; omega
      refine g_C ⟨by decide, hk m4 _ _ hm4 ⟨fun f E hA => k1 f E (b_step sq0 (tb_A1 (g_ifF na (g_ifT ⟨l1, cm⟩ (g_ifF (by first | decide | omega) ?_))))), by rw [f4 1 4 (by first | decide | exact fun z => absurd z.1 (by decide) | exact ⟨fun z => absurd z.1 (by decide), fun z => absurd z.1 (by decide)⟩ | omega), f3 1 4 (by first | decide | exact fun z => absurd z.1 (by decide) | exact ⟨fun z => absurd z.1 (by decide), fun z => absurd z.1 (by decide)⟩ | omega), G 1 4 (by omega)]; exact k2, by omega, by rw [f4 52 2 (by first | decide | exact fun z => absurd z.1 (by decide) | exact ⟨fun z => absurd z.1 (by decide), fun z => absurd z.1 (by decide)⟩ | omega), f4 52 5 (by first | decide | exact fun z => absurd z.1 (by decide) | exact ⟨fun z => absurd z.1 (by decide), fun z => absurd z.1 (by decide)⟩ | omega)]; omega, by omega, by omega, c3.same (fun c p z => f4 c p (by first | exact fun y => absurd (y.1 ▸ z) (by decide) | exact fun y => absurd (y.1 ▸ q) (by decide) | exact z | exact q | exact z.1 | exact q.1 | exact z.2 | exact q.2 | omega)), by rw [f4 52 7 (by first | decide | exact fun z => absurd z.1 (by decide) | exact ⟨fun z => absurd z.1 (by decide), fun z => absurd z.1 (by decide)⟩ | omega), f3 52 7 (by first | decide | exact fun z => absurd z.1 (by decide) | exact ⟨fun z => absurd z.1 (by decide), fun z => absurd z.1 (by decide)⟩ | omega), G 52 7 (by omega), no3]; exact k8⟩ y4 (by omega) (by omega)⟩
      rw [e12, e3] at hA
      rcases x2 with ⟨z1, z2, z3, z4, z5⟩ | ⟨z1, z2, z5⟩
      · rw [z4, z5] at hA
        exact g_ifT ⟨z1, z2, z3⟩ hA
      · rw [z2, z5] at hA
        exact g_ifF z1 hA
    · refine g_getr 0 1 rfl hS.k52 hm1.f_52_0 (by decide) ?_
      refine g_C ?_
      refine ze_refuse0 (q := q') (T := fun f => T f []) hS hm1 ((f1 1 4 (by first | decide | exact fun z => absurd z.1 (by decide) | exact ⟨fun z => absurd z.1 (by decide), fun z => absurd z.1 (by decide)⟩ | omega)).trans k2) x3 (by omega) (by decide) (by decide) ?_ hf
      exact k1 _ _ (b_step sq0 (tb_A1 (g_ifF na (g_ifT ⟨l1, cm⟩ (g_ifT (by first | decide | omega) ⟨by omega, rfl⟩)))))
  · rw [hq] at sk
    obtain rfl := sk.uniq sq
    have sq0 : Sk b n (m0 1 2) q' := by rw [hq]; exact sq
    refine g_ifF (by decide) ?_
    refine g_getr 0 1 rfl hS.k52 hm1.f_52_0 (by decide) ?_
    refine g_C ?_
    refine ze_refuse0 (q := q') (T := fun f => T f []) hS hm1 ((f1 1 4 (by first | decide | exact fun z => absurd z.1 (by decide) | exact ⟨fun z => absurd z.1 (by decide), fun z => absurd z.1 (by decide)⟩ | omega)).trans k2) x2 (by omega) (by decide) (by decide) ?_ hf
    rw [Int.add_zero]
    exact k1 _ _ (b_step sq0 (tb_A1 (g_ifF na (g_ifF ncm ⟨rfl, rfl⟩))))
theorem zf_readJoint {X : Mm} {S : Sh} {m0 : Mm} {K : Int → Mm → Prop} {b : Int → Int} {n m k q : Int} {T : Int → List Int → Prop} {P O : List Int} (hS : Shp S) (hm0 : Inv X S m0) (ht : TC X b n) (hmm : m = 4 ∨ m = 5 ∨ m = 6 ∨ m = 7) (h4 : m = 4 → nDp P = 0) (lk : Lq b n T m0 m P O k) (h8 : m0 52 8 = m - 4) (sk : Sk b n (m0 1 2) q) (jn : Jq b n m P q) (hf : ∀ M1 : Mm, Inv X S M1 → T (M1 1 4) [] → ¬ M1 1 4 = 0 → K 0 M1) (hk : ∀ (M1 : Mm) (m' : Int) (P' O' : List Int), Inv X S M1 → (m' = 1 ∨ m' = 2 ∨ m' = 3) → (m' = 1 → nDp P' = 0) → Lq b n T M1 m' P' O' k → M1 52 8 = m' - 1 → m0 52 3 ≤ M1 52 3 → K 1 M1) : wp_X3_readJoint S m0 52 K := by
  obtain ⟨k1, k2, k3, k4, k5, k6, k7, k8⟩ := id lk
  have b2 := hm0.f_1_2
  have b3 := hm0.f_52_3
  have nb := ht.2.1
  have b5 := hm0.f_52_5
  have b22 := hm0.f_52_2
  have hqn := sk.le k3
  have q0 : 0 ≤ q := by have := sk.1; omega
  -- no arithmetic: where the class stands
  have rest : ∀ m1 : Mm, Inv X S m1 → (∀ c p : Int, ¬ (c = 1 ∧ 2 ≤ p ∧ p ≤ 3) → m1 c p = m0 c p) → (m1 1 2 = q ∨ (m = 7 ∧ m1 1 2 = m0 1 2)) → (m = 7 ∨ ¬ (q < n ∧ Ar (b q))) → wp_X3_readJoint_16 S K 52 0 m1 := by
    intro m1 hm1 f1 x1 na
    refine u_X3_readJoint_16 ?_
    refine g_ifT rfl ?_
    refine g_getu 8 rfl hS.k52 (fun w ew => ?_)
    rw [f1 52 8 (by first | decide | exact fun z => absurd z.1 (by decide) | exact ⟨fun z => absurd z.1 (by decide), fun z => absurd z.1 (by decide)⟩ | omega)] at ew
    refine g_if (fun w1 => ?_) (fun w1 => ?_)
    · refine g_getu 8 rfl hS.k52 (fun w' ew' => ?_)
      rw [f1 52 8 (by first | decide | exact fun z => absurd z.1 (by decide) | exact ⟨fun z => absurd z.1 (by decide), fun z => absurd z.1 (by decide)⟩ | omega)] at ew'
      refine g_C ?_
      refine g_if (fun w2 => ?_) (fun w2 => ?_)
      · -- and, or
        have m67 : m = 6 ∨ m = 7 := by omega
        obtain ⟨nc, ne⟩ := jn.2 m67
        have stB' : ∀ (f : Int) (E : List Int), bB b n (Bcc b n) q (m0 52 3) P O k f E → T f E := by
          intro f E hB
          rcases m67 with e | e
          · refine k1 f E ?_
            rw [e]
            exact b_step sk (tb_A2 (g_ifF nc (g_ifF ne (g_ifF (na.resolve_left (by omega)) hB))))
          · refine k1 f E ?_
            rw [e]
            exact b_step sk (tb_A3 (g_ifF nc (g_ifF ne hB)))
        have sk1 : Sk b n (m1 1 2) q := by
          rcases x1 with z | z
          · rw [z]; exact sk.idem
          · rw [z.2]; exact sk
        have go : ∀ (s r : Int) (m2 : Mm), Inv X S m2 → (s = -23 ∨ s = -24) → (∀ c p : Int, ¬ (c = 1 ∧ 2 ≤ p ∧ p ≤ 3) → m2 c p = m0 c p) → m2 1 2 = r → q < r → r ≤ n → (∀ (f : Int) (E : List Int), bPile (Bcc b n) 8 r (m0 52 3) s P O k f E → T f E) → wp_X3_readJoint_88 S K 52 s m2 := by
          intro s r m2 hm2 hs f2 y2 hqr hrn hT
          refine u_X3_readJoint_88 ?_
          refine g_ifT (by first | decide | omega) ?_
          refine ⟨hS.k52, ?_⟩
          have cp2 : CQ m2 P O := k7.same (fun c p z => f2 c p (by first | exact fun y => absurd (y.1 ▸ z) (by decide) | exact fun y => absurd (y.1 ▸ q) (by decide) | exact z | exact q | exact z.1 | exact q.1 | exact z.2 | exact q.2 | omega))
          have g5 : m2 52 5 = m0 52 5 := f2 52 5 (by first | decide | exact fun z => absurd z.1 (by decide) | exact ⟨fun z => absurd z.1 (by decide), fun z => absurd z.1 (by decide)⟩ | omega)
          have g2 : m2 52 2 = m0 52 2 := f2 52 2 (by first | decide | exact fun z => absurd z.1 (by decide) | exact ⟨fun z => absurd z.1 (by decide), fun z => absurd z.1 (by decide)⟩ | omega)
          have nd3 : nDp (s :: uR (bnS s) P) = nDp (uR (bnS s) P) := by
            show (if s = -27 ∨ s = -22 then 1 else 0) + nDp (uR (bnS s) P) = _
            rw [if_neg (by omega), Nat.zero_add]
          have no3 : nOp (s :: uR (bnS s) P) = nOp P := by
            show (if s = -27 then 1 else 0) + nOp (uR (bnS s) P) = _
            rw [if_neg (by omega), Nat.zero_add, nOp_uR]
          have nd4 := nDp_uR (bnS s) P
          refine zf_pile hS hm2 cp2 (by have := sk.1; omega) k6 (by omega) (by omega) (fun m3 hm3 f3 c3 ph => ?_)
          refine ⟨hS.k52, ?_⟩
          rw [g2, g5] at ph
          have e12 : m3 1 2 = r := (f3 1 2 (by first | decide | exact fun z => absurd z.1 (by decide) | exact ⟨fun z => absurd z.1 (by decide), fun z => absurd z.1 (by decide)⟩ | omega)).trans y2
          have e3 : m3 52 3 = m0 52 3 := (f3 52 3 (by first | decide | exact fun z => absurd z.1 (by decide) | exact ⟨fun z => absurd z.1 (by decide), fun z => absurd z.1 (by decide)⟩ | omega)).trans (f2 52 3 (by first | decide | exact fun z => absurd z.1 (by decide) | exact ⟨fun z => absurd z.1 (by decide), fun z => absurd z.1 (by decide)⟩ | omega))
          have lk3 : Lq b n T m3 8 (s :: uR (bnS s) P) (O ++ uW (bnS s) P) k := ⟨fun f E hA => hT f E (by rw [e12, e3] at hA; exact hA), by rw [f3 1 4 (by first | decide | exact fun z => absurd z.1 (by decide) | exact ⟨fun z => absurd z.1 (by decide), fun z => absurd z.1 (by decide)⟩ | omega), f2 1 4 (by first | decide | exact fun z => absurd z.1 (by decide) | exact ⟨fun z => absurd z.1 (by decide), fun z => absurd z.1 (by decide)⟩ | omega)]; exact k2, by omega, by have := sk.1; omega, by omega, by omega, c3, by rw [f3 52 7 (by first | decide | exact fun z => absurd z.1 (by decide) | exact ⟨fun z => absurd z.1 (by decide), fun z => absurd z.1 (by decide)⟩ | omega), f2 52 7 (by first | decide | exact fun z => absurd z.1 (by decide) | exact ⟨fun z => absurd z.1 (by decide), fun z => absurd z.1 (by decide)⟩ | omega), no3]; exact k8⟩
          exact zf_beginFact hS hm3 ht lk3 (fun m4 hm4 t4 n4 => ⟨by decide, hf m4 hm4 t4 n4⟩) (fun m4 s4 hm4 l4 w8 w3 w2 => ⟨by decide, hk m4 2 s4 _ hm4 (by omega) (by omega) l4 (by omega) (by omega)⟩)
        refine g_getr 0 1 rfl hS.k52 hm1.f_52_0 (by decide) ?_
        refine g_C ?_
        refine ⟨hS.k1, ?_⟩
        refine ze_takesWord 15 hS hm1 ht (by omega) (by decide) (by decide) (fun q' m2 hm2 f2 sk2 y1 y2 l2 wk => ?_) (fun q' m2 hm2 f2 sk2 y1 y2 l2 wk => ?_)
        · obtain rfl := sk2.uniq sk1
          have t15 : tl 15 = 3 := by decide
          refine g_ifF (by decide) ?_
          refine g_C ?_
          refine go (-23) _ m2 hm2 (by decide) (fun c p z => (f2 c p z).trans (f1 c p z)) y1 (by omega) l2 (fun f E hA => stB' f E (g_ifT wk ?_))
          rw [t15] at hA
          exact hA
        · obtain rfl := sk2.uniq sk1
          refine g_ifT rfl ?_
          refine g_getr 0 1 rfl hS.k52 hm2.f_52_0 (by decide) ?_
          refine g_C ?_
          refine ⟨hS.k1, ?_⟩
          refine ze_takesWord 16 hS hm2 ht (by omega) (by decide) (by decide) (fun q m3 hm3 f3 sk3 z1 z2 l3 wk3 => ?_) (fun q m3 hm3 f3 sk3 z1 z2 l3 wk3 => ?_)
          · rw [y1] at sk3
            obtain rfl := sk3.uniq sk.idem
            have t16 : tl 16 = 2 := by decide
            refine g_ifF (by decide) ?_
            refine g_C ?_
            refine go (-24) _ m3 hm3 (by decide) (fun c p z => ((f3 c p z).trans (f2 c p z)).trans (f1 c p z)) z1 (by omega) l3 (fun f E hA => stB' f E (g_ifF wk (g_ifT wk3 ?_)))
            rw [t16] at hA
            exact hA
          · rw [y1] at sk3
            obtain rfl := sk3.uniq sk.idem
            refine g_ifT rfl ?_
            refine g_C ?_
            refine u_X3_readJoint_88 ?_
            refine g_ifF (by decide) ?_
            refine g_getr 0 1 rfl hS.k52 hm3.f_52_0 (by decide) ?_
            refine g_C ?_
            refine ze_refuse0 (q := q) (T := fun f => T f []) hS hm3 (by rw [f3 1 4 (by first | decide | exact fun z => absurd z.1 (by decide) | exact ⟨fun z => absurd z.1 (by decide), fun z => absurd z.1 (by decide)⟩ | omega), f2 1 4 (by first | decide | exact fun z => absurd z.1 (by decide) | exact ⟨fun z => absurd z.1 (by decide), fun z => absurd z.1 (by decide)⟩ | omega), f1 1 4 (by first | decide | exact fun z => absurd z.1 (by decide) | exact ⟨fun z => absurd z.1 (by decide), fun z => absurd z.1 (by decide)⟩ | omega)]; exact k2) z2 q0 (by decide) (by decide) ?_ hf
            rw [Int.add_zero]
            exact stB' _ _ (g_ifF wk (g_ifF wk3 ⟨rfl, rfl⟩))
      · have e5 : m = 5 := by omega
        have x12 : m1 1 2 = q := x1.resolve_right (by omega)
        have lk1 := lk.move f1 sk x12 hqn
        rw [e5] at lk1
        refine ⟨hS.k52, ?_⟩
        have e3 : m1 52 3 = m0 52 3 := f1 52 3 (by first | decide | exact fun z => absurd z.1 (by decide) | exact ⟨fun z => absurd z.1 (by decide), fun z => absurd z.1 (by decide)⟩ | omega)
        exact zf_readComparison hS hm1 ht lk1 x12 sk.idem (na.resolve_left (by omega)) (fun m4 hm4 t4 n4 => ⟨by decide, hf m4 hm4 t4 n4⟩) (fun m4 s4 o4 hm4 l4 w8 w3 w2 => ⟨by decide, hk m4 3 s4 o4 hm4 (by omega) (by omega) l4 (by omega) (by omega)⟩)
    · have e4 : m = 4 := by omega
      have x12 : m1 1 2 = q := x1.resolve_right (by omega)
      have lk1 := lk.move f1 sk x12 hqn
      rw [e4] at lk1
      refine ⟨hS.k52, ?_⟩
      have e3 : m1 52 3 = m0 52 3 := f1 52 3 (by first | decide | exact fun z => absurd z.1 (by decide) | exact ⟨fun z => absurd z.1 (by decide), fun z => absurd z.1 (by decide)⟩ | omega)
      exact zf_readIf hS hm1 ht (h4 e4) lk1 x12 sk.idem (jn.1 e4) (na.resolve_left (by omega)) (fun m4 hm4 t4 n4 => ⟨by decide, hf m4 hm4 t4 n4⟩) (fun m4 s4 o4 hm4 l4 w8 w3 w2 => ⟨by decide, hk m4 2 s4 o4 hm4 (by omega) (by omega) l4 (by omega) (by omega)⟩)
  refine u_X3_readJoint ?_
  refine g_getu 8 rfl hS.k52 (fun w ew => ?_)
  refine g_C ?_
  refine g_if (fun w1 => ?_) (fun w1 => ?_)
  · refine ⟨hS.k52, ?_⟩
    refine zf_takeArithmetic hS hm0 ht k3 (fun q' v m1 hm1 f1 sk1 x1 x2 l1 ar ev v0 v1 => ?_) (fun q' m1 hm1 f1 sk1 x1 x2 l1 nar => ?_)
    · obtain rfl := sk1.uniq sk
      refine u_X3_readJoint_16 ?_
      refine g_ifF (by first | decide | omega) ?_
      refine ⟨hS.k52, ?_⟩
      have cp1 : CQ m1 P O := k7.same (fun c p z => f1 c p (by first | exact fun y => absurd (y.1 ▸ z) (by decide) | exact fun y => absurd (y.1 ▸ q) (by decide) | exact z | exact q | exact z.1 | exact q.1 | exact z.2 | exact q.2 | omega))
      have g5 : m1 52 5 = m0 52 5 := f1 52 5 (by first | decide | exact fun z => absurd z.1 (by decide) | exact ⟨fun z => absurd z.1 (by decide), fun z => absurd z.1 (by decide)⟩ | omega)
      have g2 : m1 52 2 = m0 52 2 := f1 52 2 (by first | decide | exact fun z => absurd z.1 (by decide) | exact ⟨fun z => absurd z.1 (by decide), fun z => absurd z.1 (by decide)⟩ | omega)
      have nd3 : nDp (v :: uR (bnS v) P) = nDp (uR (bnS v) P) := by
        show (if v = -27 ∨ v = -22 then 1 else 0) + nDp (uR (bnS v) P) = _
        rw [if_neg (by omega), Nat.zero_add]
      have no3 : nOp (v :: uR (bnS v) P) = nOp P := by
        show (if v = -27 then 1 else 0) + nOp (uR (bnS v) P) = _
        rw [if_neg (by omega), Nat.zero_add, nOp_uR]
      have nd4 := nDp_uR (bnS v) P
      refine zf_pile hS hm1 cp1 (by have := sk.1; omega) k6 (by omega) (by omega) (fun m2 hm2 f2 c2 ph => ?_)
      rw [g2, g5] at ph
      have e12 : m2 1 2 = q' + 1 := (f2 1 2 (by first | decide | exact fun z => absurd z.1 (by decide) | exact ⟨fun z => absurd z.1 (by decide), fun z => absurd z.1 (by decide)⟩ | omega)).trans x1
      have e3 : m2 52 3 = m0 52 3 := (f2 52 3 (by first | decide | exact fun z => absurd z.1 (by decide) | exact ⟨fun z => absurd z.1 (by decide), fun z => absurd z.1 (by decide)⟩ | omega)).trans (f1 52 3 (by first | decide | exact fun z => absurd z.1 (by decide) | exact ⟨fun z => absurd z.1 (by decide), fun z => absurd z.1 (by decide)⟩ | omega))
      have e8 : m2 52 8 = m - 4 := by rw [f2 52 8 (by first | decide | exact fun z => absurd z.1 (by decide) | exact ⟨fun z => absurd z.1 (by decide), fun z => absurd z.1 (by decide)⟩ | omega), f1 52 8 (by first | decide | exact fun z => absurd z.1 (by decide) | exact ⟨fun z => absurd z.1 (by decide), fun z => absurd z.1 (by decide)⟩ | omega)]; exact h8
      have m3 : m = 4 ∨ m = 5 ∨ m = 6 := by omega
      refine g_C ⟨by decide, hk m2 (m - 3) _ _ hm2 (by omega) (fun e => by have := h4 (by omega); omega) ⟨fun f E hA => k1 f E (b_step sk ?_), by rw [f2 1 4 (by first | decide | exact fun z => absurd z.1 (by decide) | exact ⟨fun z => absurd z.1 (by decide), fun z => absurd z.1 (by decide)⟩ | omega), f1 1 4 (by first | decide | exact fun z => absurd z.1 (by decide) | exact ⟨fun z => absurd z.1 (by decide), fun z => absurd z.1 (by decide)⟩ | omega)]; exact k2, by omega, by have := sk.1; omega, by omega, by omega, c2, by rw [f2 52 7 (by first | decide | exact fun z => absurd z.1 (by decide) | exact ⟨fun z => absurd z.1 (by decide), fun z => absurd z.1 (by decide)⟩ | omega), f1 52 7 (by first | decide | exact fun z => absurd z.1 (by decide) | exact ⟨fun z => absurd z.1 (by decide), fun z => absurd z.1 (by decide)⟩ | omega), no3]; exact k8⟩ (by omega) (by omega)⟩
      rw [e12, e3, ev] at hA
      rcases m3 with e | e | e
      · rw [e] at hA ⊢
        exact tb_A0 (g_ifF (jn.1 e) (g_ifT ar hA))
      · rw [e] at hA ⊢
        exact tb_A1 (g_ifT ⟨l1, ar⟩ hA)
      · rw [e] at hA ⊢
        obtain ⟨nc, ne⟩ := jn.2 (Or.inl e)
        exact tb_A2 (g_ifF nc (g_ifF ne (g_ifT ⟨l1, ar⟩ hA)))
    · obtain rfl := sk1.uniq sk
      exact rest m1 hm1 f1 (Or.inl x1) (Or.inr nar)
  · refine g_C ?_
    exact rest m0 hm0 (fun _ _ _ => rfl) (Or.inr ⟨by omega, rfl⟩) (Or.inl (by omega))
