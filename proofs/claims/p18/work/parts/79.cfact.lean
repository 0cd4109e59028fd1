theorem wrd_no {b : Int → Int} {n q : Int} {k : Nat} (h : Wk b n k q) (h2 : 2 ≤ tl k) : q < n ∧ b q = tw k 0 := by
  have z := h.1 0 (by omega) (by omega)
  rw [Int.add_zero] at z
  exact z
theorem ze_beginFact {X : Mm} {S : Sh} {m0 : Mm} {K : Int → Mm → Prop} {b : Int → Int} {n k : Int} {T : Int → Prop} {st : List Bool} (hS : Shp S) (hm0 : Inv X S m0) (ht : TC X b n) (lk : Lk b n T m0 8 st k) (hf : ∀ M1 : Mm, Inv X S M1 → T (M1 1 4) → ¬ M1 1 4 = 0 → K 0 M1) (hk : ∀ (M1 : Mm) (s' : List Bool), Inv X S M1 → Lk b n T M1 2 s' k → M1 52 8 = 1 → M1 52 3 = m0 52 3 → m0 1 2 ≤ M1 1 2 → K 1 M1) : wp_X3_beginFact S m0 52 K := by
  have nb := ht.2.1
  refine u_X3_beginFact ?_
  refine g_C ?_
  refine g_put 8 rfl hS.k52 (hm0.w_52_8 (by decide) (by decide)) (fun m1 e1 hm1 => ?_)
  have f1 : ∀ c p : Int, ¬ (c = 52 ∧ p = 8) → m1 c p = m0 c p := fun c p q => (congrFun (congrFun e1 _) _).trans (up_ne q)
  have y1 : m1 52 8 = 1 := (congrFun (congrFun e1 _) _).trans (up_at _ _ _ _)
  have lk1 : Lk b n T m1 8 st k := by
    obtain ⟨k1, k2, k3, k4, k5, k6, k7, k8⟩ := lk
    refine ⟨fun f z => k1 f ?_, (f1 1 4 (by omega)).trans k2, by rw [f1 1 2 (by omega)]; exact k3, by rw [f1 52 2 (by omega), f1 52 5 (by omega), f1 1 2 (by omega)]; exact k4, by rw [f1 52 3 (by omega)]; exact k5, k6, k7.same (f1 52 5 (by omega)) (f1 52 6 (by omega)) (fun p => f1 54 p (by omega)), (f1 52 7 (by omega)).trans k8⟩
    rw [f1 1 2 (by omega), f1 52 3 (by omega)] at z
    exact z
  refine g_C ?_
  have L : ∀ (j : Nat) (i : Int) (m : Mm) (s : List Bool), Inv X S m → Lk b n T m 8 s k → m 52 8 = 1 → m 52 3 = m0 52 3 → m0 1 2 ≤ m 1 2 → 0 ≤ i → i ≤ (s.length : Int) → 12 - i ≤ (j : Int) → wp_X3_beginFact_7 S K j 52 i m := by
    intro j
    induction j with
    | zero =>
      intro i m s hm lk _ _ _ _ h1 h2
      have := lk.2.2.2.2.2.1
      exfalso; omega
    | succ j ih =>
      intro i m s hm lk w8 w3 w2 i0 i1 h
      obtain ⟨k1, k2, k3, k4, k5, k6, k7, k8⟩ := id lk
      have b5 := hm.f_52_5
      have b2 := hm.f_1_2
      have dp := k7.2.1
      -- one opening: '[' or not
      have one : ∀ (q r : Int) (o : Int) (m1 : Mm), Inv X S m1 → (∀ c p : Int, ¬ (c = 1 ∧ 2 ≤ p ∧ p ≤ 3) → m1 c p = m c p) → Sk b n (m 1 2) q → m1 1 3 = q → m1 1 2 = r → q < r → r ≤ n → (o = 0 ∨ o = 1) → (∀ f : Int, wIf (s.length = 10) (f = 3 + 8 * q) (Acc b n 8 r (m 52 3) ((if o = 0 then false else true) :: s) k f) → T f) → wp_X3_beginFact_41 S (fun a0 a1 M => wp_X3_beginFact_7 S K j a0 a1 M) K 52 i o m1 := by
        intro q r o m1 hm1 f1 sk x3 x2 hqr hrn ho hT
        have s1 := sk.1
        refine u_X3_beginFact_41 ?_
        refine g_getu 6 rfl hS.k52 (fun d ed => ?_)
        rw [f1 52 6 (by omega)] at ed
        refine g_C ?_
        refine g_if (fun w => ?_) (fun w => ?_)
        · refine g_getu 6 rfl hS.k52 (fun d2 ed2 => ?_)
          rw [f1 52 6 (by omega)] at ed2
          refine g_C ?_
          refine g_A (by omega) (by omega) ?_
          refine g_put 6 rfl hS.k52 (hm1.w_52_6 (by omega) (by omega)) (fun m2 e2 hm2 => ?_)
          have f2 : ∀ c p : Int, ¬ (c = 52 ∧ p = 6) → m2 c p = m1 c p := fun c p q => (congrFun (congrFun e2 _) _).trans (up_ne q)
          have y2 : m2 52 6 = d2 + 1 := (congrFun (congrFun e2 _) _).trans (up_at _ _ _ _)
          refine g_getu 7 rfl hS.k52 (fun op eop => ?_)
          rw [f2 52 7 (by omega), f1 52 7 (by omega), k8] at eop
          have cn := cnt_nn s
          have cl : cnt s ≤ s.length := by
            have : ∀ l : List Bool, cnt l ≤ l.length := by
              intro l
              induction l with
              | nil => exact Int.le_refl 0
              | cons a l il =>
                cases a
                · show cnt l ≤ ((l.length + 1 : Nat) : Int); omega
                · show cnt l + 1 ≤ ((l.length + 1 : Nat) : Int); omega
            exact this s
          -- both ways go on alike
          have rest : ∀ (ad sg : Int), ((ad = 0 ∧ sg = -22 ∧ o = 0) ∨ (ad = 1 ∧ sg = -27 ∧ o = 1)) → wA op ad fun v4 => wPut S m2 52 3 7 v4 fun M6 => wp_X3_beginFact_99 S (fun a0 a1 M => wp_X3_beginFact_7 S K j a0 a1 M) K 52 i 52 sg M6 := by
            intro ad sg hh
            refine g_A (by omega) (by omega) ?_
            refine g_put 7 rfl hS.k52 (hm2.w_52_7 (by omega) (by omega)) (fun m3 e3 hm3 => ?_)
            have f3 : ∀ c p : Int, ¬ (c = 52 ∧ p = 7) → m3 c p = m2 c p := fun c p q => (congrFun (congrFun e3 _) _).trans (up_ne q)
            have y3 : m3 52 7 = op + ad := (congrFun (congrFun e3 _) _).trans (up_at _ _ _ _)
            refine u_X3_beginFact_99 ?_
            refine ⟨hS.k52, ?_⟩
            have G : ∀ c p : Int, ¬ (c = 52 ∧ (p = 6 ∨ p = 7)) ∧ ¬ (c = 1 ∧ 2 ≤ p ∧ p ≤ 3) → m3 c p = m c p := fun c p z => by rw [f3 c p (by omega), f2 c p (by omega), f1 c p (by omega)]
            have e5 : m3 52 5 = m 52 5 := G 52 5 (by omega)
            have e22 : m3 52 2 = m 52 2 := G 52 2 (by omega)
            have b22 := hm3.f_52_2
            refine ze_push hS hm3 (by omega) (fun m4 hm4 f4 y5 ys => ?_)
            have cp3 : stk (m3 54) (m3 52 5).toNat = s ∧ okp (m3 54) (m3 52 5).toNat ∧ ∀ jj : Int, 0 ≤ jj → jj < m3 52 5 → (-24 ≤ m3 54 jj ∧ m3 54 jj ≤ -12) ∨ m3 54 jj = -27 := by
              have e54 : m3 54 = m 54 := funext (fun p => G 54 p (by omega))
              rw [e5, e54]
              exact ⟨k7.1, k7.2.2.1, k7.2.2.2⟩
            have cpx : CP (up m3 52 6 (s.length : Int)) s := by
              have u5 : up m3 52 6 (s.length : Int) 52 5 = m3 52 5 := up_ne (by decide)
              have u54 : up m3 52 6 (s.length : Int) 54 = m3 54 := funext (fun p => up_ne (by omega))
              unfold CP
              rw [u5, u54, up_at]
              exact ⟨cp3.1, rfl, cp3.2.1, cp3.2.2⟩
            -- the pushed sign
            have en : (m4 52 5).toNat = (m3 52 5).toNat + 1 := by omega
            have ct : (((m3 52 5).toNat : Nat) : Int) = m3 52 5 := by omega
            obtain ⟨q1, q2, q3⟩ := stk_same (f := m4 54) (g := m3 54) (m3 52 5).toNat (fun jj j0 j1 => f4 54 jj (by omega))
            have st4 : stk (m4 54) (m4 52 5).toNat = (if sg = -27 then true :: s else if sg = -22 then false :: s else s) := by
              rw [en]
              show (if m4 54 (((m3 52 5).toNat : Nat) : Int) = -27 then true :: stk (m4 54) (m3 52 5).toNat else if m4 54 (((m3 52 5).toNat : Nat) : Int) = -22 then false :: stk (m4 54) (m3 52 5).toNat else stk (m4 54) (m3 52 5).toNat) = _
              rw [ct, ys, q1, cp3.1]
            have ok4 : okp (m4 54) (m4 52 5).toNat := by
              rw [en]
              refine ⟨by rw [q3]; exact cp3.2.1, fun z => ?_⟩
              rw [ct, ys] at z
              exfalso; omega
            have en4 : ∀ jj : Int, 0 ≤ jj → jj < m4 52 5 → (-24 ≤ m4 54 jj ∧ m4 54 jj ≤ -12) ∨ m4 54 jj = -27 := by
              intro jj j0 j1
              by_cases e : jj = m3 52 5
              · rw [e, ys]; omega
              · rw [f4 54 jj (by omega)]
                exact cp3.2.2 jj j0 (by omega)
            have z2 : m4 1 2 = r := by rw [f4 1 2 (by omega), f3 1 2 (by omega), f2 1 2 (by omega)]; exact x2
            have z3 : m4 52 3 = m 52 3 := by rw [f4 52 3 (by omega)]; exact G 52 3 (by omega)
            have z6 : m4 52 6 = m 52 6 + 1 := by rw [f4 52 6 (by omega), f3 52 6 (by omega)]; omega
            have z7 : m4 52 7 = cnt s + ad := by rw [f4 52 7 (by omega)]; omega
            have z8 : m4 52 8 = 1 := by rw [f4 52 8 (by omega), G 52 8 (by omega)]; exact w8
            have z4 : m4 1 4 = 0 := by rw [f4 1 4 (by omega), G 1 4 (by omega)]; exact k2
            have z22 : m4 52 2 = m 52 2 := by rw [f4 52 2 (by omega)]; exact e22
            refine g_A (by omega) (by omega) ?_
            refine ih (i + 1) m4 ((if o = 0 then false else true) :: s) hm4 ⟨fun f hA => hT f ?_, z4, by omega, by omega, by omega, ?_, ?_, ?_⟩ z8 (by omega) (by omega) (by omega) ?_ (by omega)
            · rw [z2, z3] at hA
              refine g_ifF (by omega) hA
            · rw [List.length_cons]
              omega
            · refine ⟨?_, by rw [List.length_cons]; omega, ok4, en4⟩
              rw [st4]
              rcases hh with ⟨_, e1, e2⟩ | ⟨_, e1, e2⟩
              · rw [e1, e2]; rfl
              · rw [e1, e2]; rfl
            · rcases hh with ⟨e0, e1, e2⟩ | ⟨e0, e1, e2⟩
              · rw [e2, z7, e0]; show cnt s + 0 = cnt s; omega
              · rw [e2, z7, e0]; rfl
            · rw [List.length_cons]; omega
          refine g_if (fun w0 => ?_) (fun w0 => ?_)
          · refine g_C ?_
            refine u_X3_beginFact_83 ?_
            have q := rest 0 (-22) (Or.inl ⟨rfl, rfl, w0⟩)
            refine g_A (by omega) (by omega) ?_
            have q2 : wPut S m2 52 3 7 (op + 0) fun M6 => wp_X3_beginFact_99 S (fun a0 a1 M => wp_X3_beginFact_7 S K j a0 a1 M) K 52 i 52 (-22) M6 := by
              unfold wA at q
              rw [w32_id (by omega) (by omega)] at q
              exact q
            exact ⟨q2.1, g_ifT w0 (g_C q2.2)⟩
          · refine g_C ?_
            refine u_X3_beginFact_83 ?_
            have q := rest 1 (-27) (Or.inr ⟨rfl, rfl, by omega⟩)
            refine g_A (by omega) (by omega) ?_
            have q2 : wPut S m2 52 3 7 (op + 1) fun M6 => wp_X3_beginFact_99 S (fun a0 a1 M => wp_X3_beginFact_7 S K j a0 a1 M) K 52 i 52 (-27) M6 := by
              unfold wA at q
              rw [w32_id (by omega) (by omega)] at q
              exact q
            exact ⟨q2.1, g_ifF w0 (g_C q2.2)⟩
        · refine g_getr 0 1 rfl hS.k52 hm1.f_52_0 (by decide) ?_
          refine g_C ?_
          refine ⟨hS.k1, ?_⟩
          refine ze_refuse hS hm1 (by decide) (by decide) (fun m2 hm2 f2 y2 => ?_)
          rw [f1 1 4 (by omega)] at y2
          have y3 : m2 1 4 = 3 + 8 * q := by omega
          refine ⟨by decide, hf m2 hm2 ?_ (by omega)⟩
          rw [y3]
          exact hT _ (g_ifT (by omega) rfl)
      refine u_X3_beginFact_7 ?_
      refine g_C ?_
      refine g_ifF (by omega) ?_
      refine g_getr 0 1 rfl hS.k52 hm.f_52_0 (by decide) ?_
      refine g_C ?_
      refine ⟨hS.k1, ?_⟩
      refine ze_takesSign hS hm ht k3 (by decide) (by decide) (fun q m1 hm1 f1 sk x1 x2 l1 bq => ?_) (fun q m1 hm1 f1 sk x1 x2 l1 nq => ?_)
      · refine g_ifT (by decide) ?_
        refine one q (q + 1) 1 m1 hm1 f1 sk x2 x1 (by omega) (by omega) (Or.inr rfl) (fun f hA => k1 f (a_step sk (sp_O (g_ifT ⟨l1, bq⟩ ?_))))
        exact hA
      · refine g_ifF (by decide) ?_
        refine g_getr 0 1 rfl hS.k52 hm1.f_52_0 (by decide) ?_
        refine g_C ?_
        refine ⟨hS.k1, ?_⟩
        refine ze_takesWord 14 hS hm1 ht (by omega) (by decide) (by decide) (fun q' m2 hm2 f2 sk2 y1 y2 l2 wk => ?_) (fun q' m2 hm2 f2 sk2 y1 y2 l2 wk => ?_)
        · rw [x1] at sk2
          obtain rfl := sk2.uniq sk.idem
          refine g_ifT (by decide) ?_
          have t14 : tl 14 = 3 := by decide
          refine one q' (q' + tl 14) 0 m2 hm2 (fun c p z => (f2 c p z).trans (f1 c p z)) sk y2 y1 (by omega) l2 (Or.inl rfl) (fun f hA => k1 f (a_step sk (sp_O (g_ifF nq (g_ifT wk ?_)))))
          rw [t14] at hA
          exact hA
        · rw [x1] at sk2
          obtain rfl := sk2.uniq sk.idem
          refine g_ifF (by decide) ?_
          have F2 : ∀ c p : Int, ¬ (c = 1 ∧ 2 ≤ p ∧ p ≤ 3) → m2 c p = m c p := fun c p z => (f2 c p z).trans (f1 c p z)
          have lk2 : Lk b n T m2 8 s k := lk.move F2 sk y1 l2
          refine g_C ⟨by decide, hk m2 s hm2 ⟨fun f hA => lk2.1 f ?_, lk2.2⟩ ((F2 52 8 (by omega)).trans w8) ((F2 52 3 (by omega)).trans w3) (by have := sk.1; omega)⟩
          rw [y1] at hA ⊢
          exact a_step sk.idem (sp_O (g_ifF nq (g_ifF wk hA)))
  exact ⟨12, L 12 0 m1 st hm1 lk1 y1 (f1 52 3 (by omega)) (by rw [f1 1 2 (by omega)]; omega) (by decide) (by omega) (by decide)⟩
