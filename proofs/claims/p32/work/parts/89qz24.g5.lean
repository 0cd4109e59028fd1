section
theorem bnS_nn (x : Int) : ¬ bnS x < 0 := by
  unfold bnS
  repeat' split
  all_goals decide
theorem uR_open : ∀ P : List Int, ¬ nOp P = 0 → ∃ t : List Int, uR 0 P = -27 :: t := by
  intro P
  induction P with
  | nil => intro h; exact absurd rfl h
  | cons x P ih =>
    intro h
    by_cases e : x = -27
    · refine ⟨P, ?_⟩
      rw [e]
      exact (uW_27 0 P).2
    · have nn := bnS_nn x
      have h2 : ¬ nOp P = 0 := by
        intro z
        apply h
        show (if x = -27 then 1 else 0) + nOp P = 0
        rw [if_neg e, z]
      obtain ⟨t, ht⟩ := ih h2
      refine ⟨t, ?_⟩
      show (if x = -27 ∨ bnS x < 0 then x :: P else uR 0 P) = _
      rw [if_neg (by omega)]
      exact ht
theorem uR_none : ∀ P : List Int, nOp P = 0 → uR 0 P = [] := by
  intro P
  induction P with
  | nil => intro _; rfl
  | cons x P ih =>
    intro h
    have h' : (if x = -27 then 1 else 0) + nOp P = 0 := h
    by_cases e : x = -27
    · rw [if_pos e] at h'; omega
    · rw [if_neg e] at h'
      have nn := bnS_nn x
      show (if x = -27 ∨ bnS x < 0 then x :: P else uR 0 P) = _
      rw [if_neg (by omega)]
      exact ih (by omega)
theorem zf_closeBrackets {X : Mm} {S : Sh} {m0 : Mm} {K : Mm → Prop} {b : Int → Int} {n m k : Int} {T : Int → List Int → Prop} {P O : List Int} (hS : Shp S) (hm0 : Inv X S m0) (ht : TC X b n) (hmm : m = 4 ∨ m = 5 ∨ m = 6 ∨ m = 7) (h4 : m = 4 → nDp P = 0) (lk : Lq b n T m0 m P O k) (h8 : m0 52 8 = m - 4) (hk : ∀ (M1 : Mm) (m' : Int) (P' O' : List Int), Inv X S M1 → (m' = 4 ∨ m' = 5 ∨ m' = 6 ∨ m' = 7) → (m' = 4 → nDp P' = 0) → Lq b n T M1 m' P' O' k → M1 52 8 = m' - 4 → M1 52 3 = m0 52 3 → m0 1 2 ≤ M1 1 2 → ((m' = 6 ∨ m' = 7) → ∀ q : Int, Sk b n (M1 1 2) q → ¬ (q < n ∧ b q = 93 ∧ ¬ nOp P' = 0)) → K M1) : wp_X3_closeBrackets S m0 52 K := by
  have nb := ht.2.1
  refine u_X3_closeBrackets ?_
  have L : ∀ (j : Nat) (M : Mm) (m' : Int) (s W : List Int), Inv X S M → (m' = 4 ∨ m' = 5 ∨ m' = 6 ∨ m' = 7) → (m' = 4 → nDp s = 0) → Lq b n T M m' s W k → M 52 8 = m' - 4 → M 52 3 = m0 52 3 → m0 1 2 ≤ M 1 2 → 401 - M 1 2 ≤ (j : Int) → wp_X3_closeBrackets_0 S K j 52 M := by
    intro j
    induction j with
    | zero =>
      intro M m' s W hm _ _ lk _ _ _ h
      have := lk.2.2.1
      exfalso; omega
    | succ j ih =>
      intro M m' s W hm hm' h4' lk' w8 w3 w2 h
      obtain ⟨k1, k2, k3, k4, k5, k6, k7, k8⟩ := id lk'
      have b2 := hm.f_1_2
      have b5M := hm.f_52_5
      have b2M := hm.f_52_2
      refine u_X3_closeBrackets_0 ?_
      refine g_getu 7 rfl hS.k52 (fun o eo => ?_)
      rw [k8] at eo
      refine g_if (fun w => ?_) (fun w => ?_)
      · refine hk M m' s W hm hm' h4' lk' w8 w3 w2 (fun _ q _ z => z.2.2 (by omega))
      · have hmem : ¬ nOp s = 0 := by omega
        refine ⟨hS.k52, ?_⟩
        refine zl_whole hS (fun wh => ?_) (fun wh => g_ifT rfl (hk M m' s W hm hm' h4' lk' w8 w3 w2 (fun z => by omega)))
        have m67 : m' = 6 ∨ m' = 7 := by omega
        refine g_ifF (by decide) ?_
        refine g_getr 0 1 rfl hS.k52 hm.f_52_0 (by decide) ?_
        refine g_C ?_
        refine ⟨hS.k1, ?_⟩
        refine ze_takesSign hS hm ht k3 (by decide) (by decide) (fun q m1 hm1 f1 sk x1 x2 l1 bq => ?_) (fun q m1 hm1 f1 sk x1 x2 l1 nq => ?_)
        · refine g_ifF (by decide) ?_
          refine g_C ?_
          refine ⟨hS.k52, ?_⟩
          have cp1 : CQ m1 s W := k7.same (fun c p z => f1 c p (by first | exact fun y => absurd (y.1 ▸ z) (by decide) | exact fun y => absurd (y.1 ▸ q) (by decide) | exact z | exact q | exact z.1 | exact q.1 | exact z.2 | exact q.2 | omega))
          have g52 : m1 52 2 = M 52 2 := f1 52 2 (by first | decide | exact fun z => absurd z.1 (by decide) | exact ⟨fun z => absurd z.1 (by decide), fun z => absurd z.1 (by decide)⟩ | omega)
          have g55 : m1 52 5 = M 52 5 := f1 52 5 (by first | decide | exact fun z => absurd z.1 (by decide) | exact ⟨fun z => absurd z.1 (by decide), fun z => absurd z.1 (by decide)⟩ | omega)
          have s1 := sk.1
          refine zf_unpile hS hm1 cp1 (by omega) k6 (fun m2 hm2 f2 c2 ph => ?_)
          obtain ⟨t, et⟩ := uR_open s hmem
          have nd2 := nDp_uR 0 s
          have no2 := nOp_uR 0 s
          rw [et] at c2 nd2 no2
          have nd3 : nDp (-27 :: t) = 1 + nDp t := rfl
          have no3 : nOp (-27 :: t) = 1 + nOp t := rfl
          obtain ⟨p1, p2, p3, p4⟩ := id c2
          have b5 := hm2.f_52_5
          have pos : 1 ≤ m2 52 5 := by
            by_cases e : m2 52 5 = 0
            · rw [e] at p1
              cases p1
            · omega
          have en : (m2 52 5).toNat = (m2 52 5 - 1).toNat + 1 := by omega
          have ct : (((m2 52 5 - 1).toNat : Nat) : Int) = m2 52 5 - 1 := by omega
          rw [en] at p1
          have p1' : m2 54 (((m2 52 5 - 1).toNat : Nat) : Int) :: pl (m2 54) (m2 52 5 - 1).toNat = -27 :: t := p1
          rw [ct] at p1'
          injection p1' with top stt
          refine ⟨hS.k52, ?_⟩
          refine ze_dropTop hS hm2 pos (by omega) (by omega) (fun m3 hm3 f3 y5 y6 => ?_)
          have y6' : m3 52 6 = m2 52 6 - 1 := by
            rcases y6 with z | z
            · exact z.2
            · exact absurd (Or.inl top) z.1
          refine g_getu 7 rfl hS.k52 (fun o2 eo2 => ?_)
          rw [f3 52 7 (by first | decide | exact fun z => absurd z.1 (by decide) | exact ⟨fun z => absurd z.1 (by decide), fun z => absurd z.1 (by decide)⟩ | omega), f2 52 7 (by first | decide | exact fun z => absurd z.1 (by decide) | exact ⟨fun z => absurd z.1 (by decide), fun z => absurd z.1 (by decide)⟩ | omega), f1 52 7 (by first | decide | exact fun z => absurd z.1 (by decide) | exact ⟨fun z => absurd z.1 (by decide), fun z => absurd z.1 (by decide)⟩ | omega), k8] at eo2
          have lc := nOp_le s
          refine g_C ?_
          refine g_S (by omega) (by omega) ?_
          refine g_put 7 rfl hS.k52 (hm3.w_52_7 (by omega) (by omega)) (fun m4 e4 hm4 => ?_)
          have f4 : ∀ c p : Int, ¬ (c = 52 ∧ p = 7) → m4 c p = m3 c p := fun c p q => (congrFun (congrFun e4 _) _).trans (up_ne q)
          have y4 : m4 52 7 = o2 - 1 := (congrFun (congrFun e4 _) _).trans (up_at _ _ _ _)
          refine g_C ?_
          refine g_put 8 rfl hS.k52 (hm4.w_52_8 (by decide) (by decide)) (fun m5 e5 hm5 => ?_)
          have f5 : ∀ c p : Int, ¬ (c = 52 ∧ p = 8) → m5 c p = m4 c p := fun c p q => (congrFun (congrFun e5 _) _).trans (up_ne q)
          have y8 : m5 52 8 = 3 := (congrFun (congrFun e5 _) _).trans (up_at _ _ _ _)
          have G : ∀ c p : Int, ¬ (c = 52 ∧ (p = 7 ∨ p = 8)) → m5 c p = m3 c p := fun c p z => (f5 c p (by first | exact fun y => absurd (y.1 ▸ z) (by decide) | exact fun y => absurd (y.1 ▸ q) (by decide) | exact z | exact q | exact z.1 | exact q.1 | exact z.2 | exact q.2 | omega)).trans (f4 c p (by first | exact fun y => absurd (y.1 ▸ z) (by decide) | exact fun y => absurd (y.1 ▸ q) (by decide) | exact z | exact q | exact z.1 | exact q.1 | exact z.2 | exact q.2 | omega))
          have e12 : m5 1 2 = q + 1 := by rw [G 1 2 (by omega), f3 1 2 (by first | decide | exact fun z => absurd z.1 (by decide) | exact ⟨fun z => absurd z.1 (by decide), fun z => absurd z.1 (by decide)⟩ | omega), f2 1 2 (by first | decide | exact fun z => absurd z.1 (by decide) | exact ⟨fun z => absurd z.1 (by decide), fun z => absurd z.1 (by decide)⟩ | omega)]; exact x1
          have e3 : m5 52 3 = M 52 3 := by rw [G 52 3 (by omega), f3 52 3 (by first | decide | exact fun z => absurd z.1 (by decide) | exact ⟨fun z => absurd z.1 (by decide), fun z => absurd z.1 (by decide)⟩ | omega), f2 52 3 (by first | decide | exact fun z => absurd z.1 (by decide) | exact ⟨fun z => absurd z.1 (by decide), fun z => absurd z.1 (by decide)⟩ | omega), f1 52 3 (by first | decide | exact fun z => absurd z.1 (by decide) | exact ⟨fun z => absurd z.1 (by decide), fun z => absurd z.1 (by decide)⟩ | omega)]
          have e14 : m5 1 4 = 0 := by rw [G 1 4 (by omega), f3 1 4 (by first | decide | exact fun z => absurd z.1 (by decide) | exact ⟨fun z => absurd z.1 (by decide), fun z => absurd z.1 (by decide)⟩ | omega), f2 1 4 (by first | decide | exact fun z => absurd z.1 (by decide) | exact ⟨fun z => absurd z.1 (by decide), fun z => absurd z.1 (by decide)⟩ | omega), f1 1 4 (by first | decide | exact fun z => absurd z.1 (by decide) | exact ⟨fun z => absurd z.1 (by decide), fun z => absurd z.1 (by decide)⟩ | omega)]; exact k2
          have e52 : m5 52 2 = m2 52 2 := by rw [G 52 2 (by omega), f3 52 2 (by first | decide | exact fun z => absurd z.1 (by decide) | exact ⟨fun z => absurd z.1 (by decide), fun z => absurd z.1 (by decide)⟩ | omega)]
          have e55 : m5 52 5 = m2 52 5 - 1 := by rw [G 52 5 (by omega)]; exact y5
          have e56 : m5 52 6 = m2 52 6 - 1 := by rw [G 52 6 (by omega)]; exact y6'
          have e57 : m5 52 7 = (nOp s : Int) - 1 := by rw [f5 52 7 (by first | decide | exact fun z => absurd z.1 (by decide) | exact ⟨fun z => absurd z.1 (by decide), fun z => absurd z.1 (by decide)⟩ | omega)]; omega
          have e54 : m5 54 = m2 54 := funext (fun p => by rw [G 54 p (by omega), f3 54 p (by first | decide | exact fun z => absurd z.1 (by decide) | exact ⟨fun z => absurd z.1 (by decide), fun z => absurd z.1 (by decide)⟩ | omega)])
          have e53 : m5 53 = m2 53 := funext (fun p => by rw [G 53 p (by omega), f3 53 p (by first | decide | exact fun z => absurd z.1 (by decide) | exact ⟨fun z => absurd z.1 (by decide), fun z => absurd z.1 (by decide)⟩ | omega)])
          have cq5 : CQ m5 t (W ++ uW 0 s) := ⟨by rw [e55, e54]; exact stt, by rw [e52, e53]; exact p2, by omega, fun x hx => p4 x (List.mem_cons_of_mem _ hx)⟩
          refine ih m5 7 t (W ++ uW 0 s) hm5 (by omega) (by omega) ⟨fun f E hA => k1 f E (b_step sk ?_), e14, by omega, by omega, by omega, by omega, cq5, by omega⟩ (by omega) (by omega) (by omega) (by omega)
          rw [e12, e3] at hA
          have hA2 : Bcc b n 7 (q + 1) (M 52 3) (uR 0 s).tail (W ++ uW 0 s) k f E := by
            rw [et]
            exact hA
          rcases m67 with e | e
          · rw [e]; exact tb_A2 (g_ifT ⟨l1, bq, hmem⟩ hA2)
          · rw [e]; exact tb_A3 (g_ifT ⟨l1, bq, hmem⟩ hA2)
        · refine g_ifT rfl ?_
          have s1 := sk.1
          refine hk m1 m' s W hm1 hm' h4' (lk'.move f1 sk x1 l1) ((f1 52 8 (by first | decide | exact fun z => absurd z.1 (by decide) | exact ⟨fun z => absurd z.1 (by decide), fun z => absurd z.1 (by decide)⟩ | omega)).trans w8) ((f1 52 3 (by first | decide | exact fun z => absurd z.1 (by decide) | exact ⟨fun z => absurd z.1 (by decide), fun z => absurd z.1 (by decide)⟩ | omega)).trans w3) (by omega) (fun _ q2 sk2 z => ?_)
          rw [x1] at sk2
          obtain rfl := sk2.uniq sk.idem
          exact nq ⟨z.1, z.2.1⟩
  have b2 := hm0.f_1_2
  exact ⟨401, L 401 m0 m P O hm0 hmm h4 lk h8 rfl (by omega) (by omega)⟩
theorem zf_endsHere {X : Mm} {S : Sh} {m0 : Mm} {K : Int → Mm → Prop} {b : Int → Int} {n m : Int} {P : List Int} (hS : Shp S) (hm0 : Inv X S m0) (ht : TC X b n) (hmm : m = 4 ∨ m = 5 ∨ m = 6 ∨ m = 7) (hp : m0 1 2 ≤ n) (h7 : m0 52 7 = (nOp P : Int)) (h8 : m0 52 8 = m - 4) (h1 : ∀ (q : Int) (M1 : Mm), Inv X S M1 → (∀ c p : Int, ¬ (c = 1 ∧ 2 ≤ p ∧ p ≤ 3) → M1 c p = m0 c p) → Sk b n (m0 1 2) q → M1 1 2 = q → q ≤ n → (m = 4 ∨ ((m = 6 ∨ m = 7) ∧ nOp P = 0)) → (n ≤ q ∨ b q = 59) → K 1 M1) (h0 : ∀ (q : Int) (M1 : Mm), Inv X S M1 → (∀ c p : Int, ¬ (c = 1 ∧ 2 ≤ p ∧ p ≤ 3) → M1 c p = m0 c p) → Sk b n (m0 1 2) q → Sk b n (M1 1 2) q → (M1 1 2 = m0 1 2 ∨ M1 1 2 = q) → ¬ ((m = 4 ∨ ((m = 6 ∨ m = 7) ∧ nOp P = 0)) ∧ (n ≤ q ∨ b q = 59)) → K 0 M1) : wp_X3_endsHere S m0 52 K := by
  have nb := ht.2.1
  have b2 := hm0.f_1_2
  obtain ⟨q0, sk0⟩ := Sk_ex b n 400 (m0 1 2) (by first | decide | exact fun z => absurd z.1 (by decide) | exact ⟨fun z => absurd z.1 (by decide), fun z => absurd z.1 (by decide)⟩ | omega)
  have q0n := sk0.le hp
  have may : (m = 4 ∨ ((m = 6 ∨ m = 7) ∧ nOp P = 0)) → wp_X3_endsHere_21 S K 52 m0 := by
    intro hmay
    refine u_X3_endsHere_21 ?_
    refine g_C ?_
    refine u_X3_endsHere_26 ?_
    refine g_ifF (by decide) ?_
    refine g_getr 0 1 rfl hS.k52 hm0.f_52_0 (by decide) ?_
    refine ⟨hS.k1, ?_⟩
    refine u_X7_isAtEnd ?_
    refine ⟨hS.k1, ?_⟩
    refine ze_look hS hm0 ht hp (fun r q m1 hm1 f1 sk x1 x2 hq hr => ?_)
    have s1 := sk.1
    refine g_C ?_
    refine g_if (fun w => ?_) (fun w => ?_)
    · refine g_C ⟨by decide, ?_⟩
      refine g_ifF (by decide) ?_
      refine g_getr 0 1 rfl hS.k52 hm1.f_52_0 (by decide) ?_
      refine ⟨hS.k1, ?_⟩
      refine ze_look hS hm1 ht (by omega) (fun r2 q2 m2 hm2 f2 sk2 y1 y2 hq2 hr2 => ?_)
      rw [x1] at sk2
      obtain rfl := sk2.uniq sk.idem
      have qn : q2 < n := by
        rcases hr with z | z
        · exact z.1
        · exfalso; omega
      have r59 : r2 = 59 ↔ b q2 = 59 := by
        rcases hr2 with z | z
        · have tb := ht.2.2 q2 (by omega) qn
          rw [z.2]
          exact u8_eq tb.2.1 tb.2.2 (by decide) (by decide)
        · exfalso; omega
      refine g_C ?_
      refine g_if (fun w2 => ?_) (fun w2 => ?_)
      · refine g_C ⟨by decide, h0 q2 m2 hm2 (fun c p z => (f2 c p z).trans (f1 c p z)) sk (by rw [y1]; exact sk.idem) (Or.inr y1) (fun z => ?_)⟩
        rcases z.2 with z2 | z2
        · omega
        · exact w2 (r59.mpr z2)
      · refine u_X3_endsHere_53 ?_
        exact g_C ⟨by decide, h1 q2 m2 hm2 (fun c p z => (f2 c p z).trans (f1 c p z)) sk y1 hq2 hmay (Or.inr (r59.mp (by omega)))⟩
    · refine g_C ⟨by decide, ?_⟩
      refine g_ifT (by decide) ?_
      refine u_X3_endsHere_53 ?_
      refine g_C ⟨by decide, h1 q m1 hm1 f1 sk x1 hq hmay (Or.inl ?_)⟩
      rcases hr with z | z
      · have tb := ht.2.2 q (by omega) z.1
        have := u8_r tb.2.1 tb.2.2
        exfalso; omega
      · exact z.1
  have not' : ¬ (m = 4 ∨ ((m = 6 ∨ m = 7) ∧ nOp P = 0)) → wp_X3_endsHere_25 S K 52 m0 := by
    intro hn
    refine u_X3_endsHere_25 ?_
    refine g_C ?_
    refine u_X3_endsHere_26 ?_
    refine g_ifT rfl ?_
    exact g_C ⟨by decide, h0 q0 m0 hm0 (fun _ _ _ => rfl) sk0 sk0 (Or.inl rfl) (fun z => hn z.1)⟩
  refine u_X3_endsHere ?_
  refine g_getu 8 rfl hS.k52 (fun w ew => ?_)
  refine g_if (fun w1 => may (Or.inl (by omega))) (fun w1 => ?_)
  refine g_getu 7 rfl hS.k52 (fun o eo => ?_)
  rw [h7] at eo
  refine g_if (fun w2 => not' (fun z => ?_)) (fun w2 => ?_)
  · rcases z with z | z
    · omega
    · have z2 := z.2; omega
  · refine ⟨hS.k52, ?_⟩
    have nm : nOp P = 0 := by omega
    exact zl_whole hS (fun wh => g_ifF (by decide) (may (Or.inr ⟨by omega, nm⟩))) (fun wh => g_ifT rfl (not' (fun z => by rcases z with z | z; omega; omega)))
def L0q (b : Int → Int) (n : Int) (T : Int → List Int → Prop) (M : Mm) (m : Int) (O : List Int) (k d : Int) : Prop := (∀ (f : Int) (E : List Int), Bcc b n m (M 1 2) (M 52 3) [] O k f E → T f E) ∧ M 1 4 = 0 ∧ M 1 2 ≤ n ∧ M 52 2 + d ≤ M 1 2 ∧ M 52 3 ≤ 60 ∧ rl (M 53) (M 52 2).toNat = O
theorem zf_readClause {X : Mm} {S : Sh} {m0 : Mm} {K : Int → Mm → Prop} {b : Int → Int} {n k : Int} {O : List Int} {T : Int → List Int → Prop} (hS : Shp S) (hm0 : Inv X S m0) (ht : TC X b n) (l0 : L0q b n T m0 0 O k 0) (hk0 : 0 ≤ k) (hk12 : k ≤ 12) (hf : ∀ M1 : Mm, Inv X S M1 → T (M1 1 4) [] → ¬ M1 1 4 = 0 → K 0 M1) (hk : ∀ (M1 : Mm) (O' : List Int), Inv X S M1 → L0q b n T M1 9 O' (k + 1) 1 → k < 12 → K 1 M1) : wp_X3_readClause S m0 52 k K := by
  obtain ⟨k1, k2, k3, k4, k5, k6⟩ := id l0
  have nb := ht.2.1
  have b2 := hm0.f_1_2
  have b3 := hm0.f_52_3
  have b22 := hm0.f_52_2
  refine u_X3_readClause ?_
  refine g_getr 0 1 rfl hS.k52 hm0.f_52_0 (by decide) ?_
  refine g_C ?_
  refine ⟨hS.k1, ?_⟩
  refine ze_takesWord 6 hS hm0 ht k3 (by decide) (by decide) (fun q m1 hm1 f1 sk x1 x2 l1 wk => ?_) (fun q m1 hm1 f1 sk x1 x2 l1 wk => ?_)
  · have t6 : tl 6 = 4 := by decide
    have s1 := sk.1
    refine g_ifT (by decide) ?_
    refine g_C ?_
    refine g_if (fun w => ?_) (fun w => ?_)
    · refine g_C ?_
      refine g_put 5 rfl hS.k52 (hm1.w_52_5 (by decide) (by decide)) (fun m2 e2 hm2 => ?_)
      refine g_C ?_
      refine g_put 6 rfl hS.k52 (hm2.w_52_6 (by decide) (by decide)) (fun m3 e3 hm3 => ?_)
      refine g_C ?_
      refine g_put 7 rfl hS.k52 (hm3.w_52_7 (by decide) (by decide)) (fun m4 e4 hm4 => ?_)
      refine g_C ?_
      refine g_put 8 rfl hS.k52 (hm4.w_52_8 (by decide) (by decide)) (fun m5 e5 hm5 => ?_)
      have f2 : ∀ c p : Int, ¬ (c = 52 ∧ p = 5) → m2 c p = m1 c p := fun c p q => (congrFun (congrFun e2 _) _).trans (up_ne q)
      have y2 : m2 52 5 = 0 := (congrFun (congrFun e2 _) _).trans (up_at _ _ _ _)
      have f3 : ∀ c p : Int, ¬ (c = 52 ∧ p = 6) → m3 c p = m2 c p := fun c p q => (congrFun (congrFun e3 _) _).trans (up_ne q)
      have y3 : m3 52 6 = 0 := (congrFun (congrFun e3 _) _).trans (up_at _ _ _ _)
      have f4 : ∀ c p : Int, ¬ (c = 52 ∧ p = 7) → m4 c p = m3 c p := fun c p q => (congrFun (congrFun e4 _) _).trans (up_ne q)
      have y4 : m4 52 7 = 0 := (congrFun (congrFun e4 _) _).trans (up_at _ _ _ _)
      have f5 : ∀ c p : Int, ¬ (c = 52 ∧ p = 8) → m5 c p = m4 c p := fun c p q => (congrFun (congrFun e5 _) _).trans (up_ne q)
      have y5 : m5 52 8 = 0 := (congrFun (congrFun e5 _) _).trans (up_at _ _ _ _)
      have G : ∀ c p : Int, ¬ (c = 52 ∧ 5 ≤ p ∧ p ≤ 8) → m5 c p = m1 c p := fun c p z => by rw [f5 c p (by first | exact fun y => absurd (y.1 ▸ z) (by decide) | exact fun y => absurd (y.1 ▸ q) (by decide) | exact z | exact q | exact z.1 | exact q.1 | exact z.2 | exact q.2 | omega), f4 c p (by first | exact fun y => absurd (y.1 ▸ z) (by decide) | exact fun y => absurd (y.1 ▸ q) (by decide) | exact z | exact q | exact z.1 | exact q.1 | exact z.2 | exact q.2 | omega), f3 c p (by first | exact fun y => absurd (y.1 ▸ z) (by decide) | exact fun y => absurd (y.1 ▸ q) (by decide) | exact z | exact q | exact z.1 | exact q.1 | exact z.2 | exact q.2 | omega), f2 c p (by first | exact fun y => absurd (y.1 ▸ z) (by decide) | exact fun y => absurd (y.1 ▸ q) (by decide) | exact z | exact q | exact z.1 | exact q.1 | exact z.2 | exact q.2 | omega)]
      have z5 : m5 52 5 = 0 := by rw [f5 52 5 (by first | decide | exact fun z => absurd z.1 (by decide) | exact ⟨fun z => absurd z.1 (by decide), fun z => absurd z.1 (by decide)⟩ | omega), f4 52 5 (by first | decide | exact fun z => absurd z.1 (by decide) | exact ⟨fun z => absurd z.1 (by decide), fun z => absurd z.1 (by decide)⟩ | omega), f3 52 5 (by first | decide | exact fun z => absurd z.1 (by decide) | exact ⟨fun z => absurd z.1 (by decide), fun z => absurd z.1 (by decide)⟩ | omega)]; exact y2
      have z6 : m5 52 6 = 0 := by rw [f5 52 6 (by first | decide | exact fun z => absurd z.1 (by decide) | exact ⟨fun z => absurd z.1 (by decide), fun z => absurd z.1 (by decide)⟩ | omega), f4 52 6 (by first | decide | exact fun z => absurd z.1 (by decide) | exact ⟨fun z => absurd z.1 (by decide), fun z => absurd z.1 (by decide)⟩ | omega)]; exact y3
      have z7 : m5 52 7 = 0 := by rw [f5 52 7 (by first | decide | exact fun z => absurd z.1 (by decide) | exact ⟨fun z => absurd z.1 (by decide), fun z => absurd z.1 (by decide)⟩ | omega)]; exact y4
      have e12 : m5 1 2 = q + 4 := by rw [G 1 2 (by omega)]; omega
      have e53 : m5 52 3 = m0 52 3 := by rw [G 52 3 (by omega), f1 52 3 (by first | decide | exact fun z => absurd z.1 (by decide) | exact ⟨fun z => absurd z.1 (by decide), fun z => absurd z.1 (by decide)⟩ | omega)]
      have e52 : m5 52 2 = m0 52 2 := by rw [G 52 2 (by omega), f1 52 2 (by first | decide | exact fun z => absurd z.1 (by decide) | exact ⟨fun z => absurd z.1 (by decide), fun z => absurd z.1 (by decide)⟩ | omega)]
      have e533 : m5 53 = m0 53 := funext (fun p => by rw [G 53 p (by omega), f1 53 p (by first | decide | exact fun z => absurd z.1 (by decide) | exact ⟨fun z => absurd z.1 (by decide), fun z => absurd z.1 (by decide)⟩ | omega)])
      have lk : Lq b n T m5 1 [] O (k + 1) := by
        refine ⟨fun f E hA => k1 f E (b_step sk (tb_0 (g_ifT wk (g_ifF (by first | decide | omega) ?_)))), by rw [G 1 4 (by omega), f1 1 4 (by first | decide | exact fun z => absurd z.1 (by decide) | exact ⟨fun z => absurd z.1 (by decide), fun z => absurd z.1 (by decide)⟩ | omega)]; exact k2, by omega, by omega, by omega, by decide, ⟨by rw [z5]; rfl, by rw [e52, e533]; exact k6, by rw [z6]; rfl, fun x hx => absurd hx (List.not_mem_nil)⟩, by rw [z7]; rfl⟩
        rw [e12, e53] at hA
        exact hA
      refine g_C ?_
      have L : ∀ (j : Nat) (u : Int) (M : Mm) (m : Int) (s W : List Int), Inv X S M → (m = 1 ∨ m = 2 ∨ m = 3) → (m = 1 → nDp s = 0) → Lq b n T M m s W (k + 1) → M 52 8 = m - 1 → 0 ≤ u → u ≤ M 52 3 → 61 - u ≤ (j : Int) → wp_X3_readClause_58 S K j 52 u M := by
        intro j
        induction j with
        | zero =>
          intro u M m s W _ _ _ lk _ _ h1 h2
          have := lk.2.2.2.2.1
          exfalso; omega
        | succ j ih =>
          intro u M m s W hm hmv h1' lk w8 u0 u1 h
          have p60 := lk.2.2.2.2.1
          refine u_X3_readClause_58 ?_
          refine g_C ?_
          refine g_ifF (by first | decide | omega) ?_
          refine ⟨hS.k52, ?_⟩
          refine zf_readValue hS hm ht hmv lk (fun m6 hm6 t6 n6 => g_ifF (by decide) (g_C ⟨by decide, hf m6 hm6 t6 n6⟩)) (fun m6 hm6 f6 lkv w3 _ => ?_)
          obtain ⟨v6, lk6⟩ := lkv
          refine g_ifT (by decide) ?_
          refine ⟨hS.k52, ?_⟩
          refine zf_closeBrackets hS hm6 ht (m := m + 3) (by omega) (fun e => h1' (by omega)) lk6 (by rw [f6 52 8 (by first | decide | exact fun z => absurd z.1 (by decide) | exact ⟨fun z => absurd z.1 (by decide), fun z => absurd z.1 (by decide)⟩ | omega)]; omega) (fun m7 mm s7 W7 hm7 hmm h47 lk7 w87 w37 _ nc => ?_)
          refine ⟨hS.k52, ?_⟩
          obtain ⟨c1, c2, c3, c4, c5, c6, c7, c8⟩ := id lk7
          refine zf_endsHere (P := s7) hS hm7 ht hmm c3 c8 w87 (fun q7 m8 hm8 f8 sk8 y1 l8 may en => ?_) (fun q7 m8 hm8 f8 sk8 sk8' y1 hno => ?_)
          · refine g_ifF (by decide) ?_
            refine g_C ?_
            refine ⟨hS.k52, ?_⟩
            have cp8 : CQ m8 s7 W7 := c7.same (fun c p z => f8 c p (by first | exact fun y => absurd (y.1 ▸ z) (by decide) | exact fun y => absurd (y.1 ▸ q) (by decide) | exact z | exact q | exact z.1 | exact q.1 | exact z.2 | exact q.2 | omega))
            have g82 : m8 52 2 = m7 52 2 := f8 52 2 (by first | decide | exact fun z => absurd z.1 (by decide) | exact ⟨fun z => absurd z.1 (by decide), fun z => absurd z.1 (by decide)⟩ | omega)
            have g85 : m8 52 5 = m7 52 5 := f8 52 5 (by first | decide | exact fun z => absurd z.1 (by decide) | exact ⟨fun z => absurd z.1 (by decide), fun z => absurd z.1 (by decide)⟩ | omega)
            have sq := sk8.1
            refine zf_unpile hS hm8 cp8 (by omega) c6 (fun m9 hm9 f9 c9 ph => ?_)
            have b59 := hm9.f_52_5
            have b92 := hm9.f_52_2
            have fin : ∀ v : Int, ((v = -25 ∧ mm = 4) ∨ (v = -26 ∧ ¬ mm = 4)) → wp_X3_readClause_105 S K 52 v m9 := by
              intro v hv
              refine u_X3_readClause_105 ?_
              refine ⟨hS.k52, ?_⟩
              rw [g82, g85] at ph
              refine zf_write hS hm9 (by omega) (fun ma hma fa' ya' ys => ?_)
              have fa : ∀ c p : Int, ¬ (c = 52 ∧ p = 2) ∧ ¬ c = 53 → ma c p = m9 c p := fun c p z => fa' c p z.1 (fun y => z.2 y.1)
              have ca := c9.write b92.1 fa' ya' ys
              have ea : ma 1 2 = q7 := by rw [fa 1 2 (by first | decide | exact fun z => absurd z.1 (by decide) | exact ⟨fun z => absurd z.1 (by decide), fun z => absurd z.1 (by decide)⟩ | omega), f9 1 2 (by first | decide | exact fun z => absurd z.1 (by decide) | exact ⟨fun z => absurd z.1 (by decide), fun z => absurd z.1 (by decide)⟩ | omega)]; exact y1
              have ea3 : ma 52 3 = m7 52 3 := by rw [fa 52 3 (by first | decide | exact fun z => absurd z.1 (by decide) | exact ⟨fun z => absurd z.1 (by decide), fun z => absurd z.1 (by decide)⟩ | omega), f9 52 3 (by first | decide | exact fun z => absurd z.1 (by decide) | exact ⟨fun z => absurd z.1 (by decide), fun z => absurd z.1 (by decide)⟩ | omega), f8 52 3 (by first | decide | exact fun z => absurd z.1 (by decide) | exact ⟨fun z => absurd z.1 (by decide), fun z => absurd z.1 (by decide)⟩ | omega)]
              refine g_C ⟨by decide, hk ma _ hma ⟨fun f E hA => c1 f E (b_step sk8 ?_), by rw [fa 1 4 (by first | decide | exact fun z => absurd z.1 (by decide) | exact ⟨fun z => absurd z.1 (by decide), fun z => absurd z.1 (by decide)⟩ | omega), f9 1 4 (by first | decide | exact fun z => absurd z.1 (by decide) | exact ⟨fun z => absurd z.1 (by decide), fun z => absurd z.1 (by decide)⟩ | omega), f8 1 4 (by first | decide | exact fun z => absurd z.1 (by decide) | exact ⟨fun z => absurd z.1 (by decide), fun z => absurd z.1 (by decide)⟩ | omega)]; exact c2, by omega, by omega, by omega, ca.2.1⟩ w⟩
              rw [ea, ea3] at hA
              rcases may with e | ⟨e, e2⟩
              · have hv2 : v = -25 := by omega
                rw [hv2] at hA
                rw [e]; exact tb_A0 (g_ifT en hA)
              · have hv2 : v = -26 := by omega
                rw [hv2] at hA
                rcases e with e | e
                · rw [e]; exact tb_A2 (g_ifF (nc (Or.inl e) q7 sk8) (g_ifT ⟨e2, en⟩ hA))
                · rw [e]; exact tb_A3 (g_ifF (nc (Or.inr e) q7 sk8) (g_ifT ⟨e2, en⟩ hA))
            refine g_getu 8 rfl hS.k52 (fun w9 ew9 => ?_)
            rw [f9 52 8 (by first | decide | exact fun z => absurd z.1 (by decide) | exact ⟨fun z => absurd z.1 (by decide), fun z => absurd z.1 (by decide)⟩ | omega), f8 52 8 (by first | decide | exact fun z => absurd z.1 (by decide) | exact ⟨fun z => absurd z.1 (by decide), fun z => absurd z.1 (by decide)⟩ | omega)] at ew9
            exact g_if (fun w10 => g_C (fin _ (Or.inr ⟨rfl, by omega⟩))) (fun w10 => g_C (fin _ (Or.inl ⟨rfl, by omega⟩)))
          · refine g_ifT rfl ?_
            refine ⟨hS.k52, ?_⟩
            have lk8 : Lq b n T m8 mm s7 W7 (k + 1) := by
              rcases y1 with z | z
              · obtain ⟨c1, c2, c3, c4, c5, c6, c7, c8⟩ := lk7
                refine ⟨fun f E hA => c1 f E ?_, (f8 1 4 (by first | decide | exact fun z => absurd z.1 (by decide) | exact ⟨fun z => absurd z.1 (by decide), fun z => absurd z.1 (by decide)⟩ | omega)).trans c2, by omega, by rw [f8 52 2 (by first | decide | exact fun z => absurd z.1 (by decide) | exact ⟨fun z => absurd z.1 (by decide), fun z => absurd z.1 (by decide)⟩ | omega), f8 52 5 (by first | decide | exact fun z => absurd z.1 (by decide) | exact ⟨fun z => absurd z.1 (by decide), fun z => absurd z.1 (by decide)⟩ | omega)]; omega, by rw [f8 52 3 (by first | decide | exact fun z => absurd z.1 (by decide) | exact ⟨fun z => absurd z.1 (by decide), fun z => absurd z.1 (by decide)⟩ | omega)]; exact c5, c6, c7.same (fun c p z => f8 c p (by first | exact fun y => absurd (y.1 ▸ z) (by decide) | exact fun y => absurd (y.1 ▸ q) (by decide) | exact z | exact q | exact z.1 | exact q.1 | exact z.2 | exact q.2 | omega)), (f8 52 7 (by first | decide | exact fun z => absurd z.1 (by decide) | exact ⟨fun z => absurd z.1 (by decide), fun z => absurd z.1 (by decide)⟩ | omega)).trans c8⟩
                rw [z, f8 52 3 (by first | decide | exact fun z => absurd z.1 (by decide) | exact ⟨fun z => absurd z.1 (by decide), fun z => absurd z.1 (by decide)⟩ | omega)] at hA
                exact hA
              · exact lk7.move f8 sk8 z (sk8.le c3)
            have e83 : m8 52 3 = m7 52 3 := f8 52 3 (by first | decide | exact fun z => absurd z.1 (by decide) | exact ⟨fun z => absurd z.1 (by decide), fun z => absurd z.1 (by decide)⟩ | omega)
            refine zf_readJoint hS hm8 ht hmm h47 lk8 ((f8 52 8 (by first | decide | exact fun z => absurd z.1 (by decide) | exact ⟨fun z => absurd z.1 (by decide), fun z => absurd z.1 (by decide)⟩ | omega)).trans w87) sk8' ⟨fun e z => hno ⟨Or.inl e, z⟩, fun e => ⟨nc e q7 sk8, fun z => hno ⟨Or.inr ⟨e, z.1⟩, z.2⟩⟩⟩ (fun m9 hm9 t9 n9 => g_ifF (by decide) (g_C ⟨by decide, hf m9 hm9 t9 n9⟩)) (fun m9 m' s9 W9 hm9 hm' h19 lk9 w89 w39 => ?_)
            refine g_ifT (by decide) ?_
            refine g_A (by omega) (by omega) ?_
            exact ih (u + 1) m9 m' s9 W9 hm9 hm' h19 lk9 w89 (by omega) (by omega) (by omega)
      exact ⟨61, L 61 0 m5 1 [] O hm5 (by decide) (fun _ => rfl) lk (by omega) (by decide) (by omega) (by decide)⟩
    · refine g_getr 0 1 rfl hS.k52 hm1.f_52_0 (by decide) ?_
      refine g_C ?_
      refine ze_refuse0 (q := q) (T := fun f => T f []) hS hm1 ((f1 1 4 (by first | decide | exact fun z => absurd z.1 (by decide) | exact ⟨fun z => absurd z.1 (by decide), fun z => absurd z.1 (by decide)⟩ | omega)).trans k2) x2 (by omega) (by decide) (by decide) ?_ hf
      exact k1 _ _ (b_step sk (tb_0 (g_ifT wk (g_ifT (by first | decide | omega) ⟨by omega, rfl⟩))))
  · have s1 := sk.1
    refine g_ifF (by decide) ?_
    refine g_getr 0 1 rfl hS.k52 hm1.f_52_0 (by decide) ?_
    refine g_C ?_
    refine ze_refuse0 (q := q) (T := fun f => T f []) hS hm1 ((f1 1 4 (by first | decide | exact fun z => absurd z.1 (by decide) | exact ⟨fun z => absurd z.1 (by decide), fun z => absurd z.1 (by decide)⟩ | omega)).trans k2) x2 (by omega) (by decide) (by decide) ?_ hf
    rw [Int.add_zero]
    exact k1 _ _ (b_step sk (tb_0 (g_ifF wk ⟨rfl, rfl⟩)))
/-- the class's reading of a rule ends as Bcc says, and so it writes -/
theorem zf_read {X : Mm} {S : Sh} {m0 : Mm} {K : Int → Mm → Prop} {b : Int → Int} {n : Int} (hS : Shp S) (hm0 : Inv X S m0) (ht : TC X b n) (hf : ∀ M1 : Mm, Inv X S M1 → Bcc b n 0 0 0 [] [] 0 (M1 1 4) [] → ¬ M1 1 4 = 0 → K 0 M1) (hk : ∀ (M1 : Mm) (E : List Int), Inv X S M1 → Bcc b n 0 0 0 [] [] 0 0 E → rl (M1 53) (M1 52 2).toNat = E → M1 52 2 ≤ 399 → K 1 M1) : wp_X3_read S m0 52 K := by
  have nb := ht.2.1
  refine u_X3_read ?_
  refine g_C ?_
  refine g_put 2 rfl hS.k52 (hm0.w_52_2 (by decide) (by decide)) (fun m1 e1 hm1 => ?_)
  refine g_C ?_
  refine g_put 3 rfl hS.k52 (hm1.w_52_3 (by decide) (by decide)) (fun m2 e2 hm2 => ?_)
  refine g_getr 0 1 rfl hS.k52 hm2.f_52_0 (by decide) ?_
  refine ⟨hS.k1, ?_⟩
  refine u_X7_rewind ?_
  refine g_C ?_
  refine g_put 2 rfl hS.k1 (hm2.w_1_2 (by decide) (by decide)) (fun m3 e3 hm3 => ?_)
  refine g_C ?_
  refine g_put 3 rfl hS.k1 (hm3.w_1_3 (by decide) (by decide)) (fun m4 e4 hm4 => ?_)
  refine g_C ?_
  refine g_put 4 rfl hS.k1 (hm4.w_1_4 (by decide) (by decide)) (fun m5 e5 hm5 => ?_)
  have f1 : ∀ c p : Int, ¬ (c = 52 ∧ p = 2) → m1 c p = m0 c p := fun c p q => (congrFun (congrFun e1 _) _).trans (up_ne q)
  have y1 : m1 52 2 = 0 := (congrFun (congrFun e1 _) _).trans (up_at _ _ _ _)
  have f2 : ∀ c p : Int, ¬ (c = 52 ∧ p = 3) → m2 c p = m1 c p := fun c p q => (congrFun (congrFun e2 _) _).trans (up_ne q)
  have y2 : m2 52 3 = 0 := (congrFun (congrFun e2 _) _).trans (up_at _ _ _ _)
  have f3 : ∀ c p : Int, ¬ (c = 1 ∧ p = 2) → m3 c p = m2 c p := fun c p q => (congrFun (congrFun e3 _) _).trans (up_ne q)
  have y3 : m3 1 2 = 0 := (congrFun (congrFun e3 _) _).trans (up_at _ _ _ _)
  have f4 : ∀ c p : Int, ¬ (c = 1 ∧ p = 3) → m4 c p = m3 c p := fun c p q => (congrFun (congrFun e4 _) _).trans (up_ne q)
  have f5 : ∀ c p : Int, ¬ (c = 1 ∧ p = 4) → m5 c p = m4 c p := fun c p q => (congrFun (congrFun e5 _) _).trans (up_ne q)
  have y5 : m5 1 4 = 0 := (congrFun (congrFun e5 _) _).trans (up_at _ _ _ _)
  have z2 : m5 1 2 = 0 := by rw [f5 1 2 (by first | decide | exact fun z => absurd z.1 (by decide) | exact ⟨fun z => absurd z.1 (by decide), fun z => absurd z.1 (by decide)⟩ | omega), f4 1 2 (by first | decide | exact fun z => absurd z.1 (by decide) | exact ⟨fun z => absurd z.1 (by decide), fun z => absurd z.1 (by decide)⟩ | omega)]; exact y3
  have z3 : m5 52 3 = 0 := by rw [f5 52 3 (by first | decide | exact fun z => absurd z.1 (by decide) | exact ⟨fun z => absurd z.1 (by decide), fun z => absurd z.1 (by decide)⟩ | omega), f4 52 3 (by first | decide | exact fun z => absurd z.1 (by decide) | exact ⟨fun z => absurd z.1 (by decide), fun z => absurd z.1 (by decide)⟩ | omega), f3 52 3 (by first | decide | exact fun z => absurd z.1 (by decide) | exact ⟨fun z => absurd z.1 (by decide), fun z => absurd z.1 (by decide)⟩ | omega)]; exact y2
  have z22 : m5 52 2 = 0 := by rw [f5 52 2 (by first | decide | exact fun z => absurd z.1 (by decide) | exact ⟨fun z => absurd z.1 (by decide), fun z => absurd z.1 (by decide)⟩ | omega), f4 52 2 (by first | decide | exact fun z => absurd z.1 (by decide) | exact ⟨fun z => absurd z.1 (by decide), fun z => absurd z.1 (by decide)⟩ | omega), f3 52 2 (by first | decide | exact fun z => absurd z.1 (by decide) | exact ⟨fun z => absurd z.1 (by decide), fun z => absurd z.1 (by decide)⟩ | omega), f2 52 2 (by first | decide | exact fun z => absurd z.1 (by decide) | exact ⟨fun z => absurd z.1 (by decide), fun z => absurd z.1 (by decide)⟩ | omega)]; exact y1
  refine g_C ?_
  have L : ∀ (j : Nat) (k : Int) (M : Mm) (O : List Int), Inv X S M → L0q b n (Bcc b n 0 0 0 [] [] 0) M 0 O k 0 → 0 ≤ k → k ≤ 12 → 13 - k ≤ (j : Int) → wp_X3_read_19 S K j 52 k M := by
    intro j
    induction j with
    | zero => intro k M O _ _ _ _ h; exfalso; omega
    | succ j ih =>
      intro k M O hm l0 h0 h12 h
      refine u_X3_read_19 ?_
      refine g_C ?_
      refine g_ifF (by first | decide | omega) ?_
      refine ⟨hS.k52, ?_⟩
      refine zf_readClause hS hm ht l0 h0 h12 (fun m6 hm6 t6 n6 => g_ifF (by decide) (g_C ⟨by decide, hf m6 hm6 t6 n6⟩)) (fun m6 s6 hm6 l6 h6 => ?_)
      obtain ⟨k1, k2, k3, k4, k5, k6⟩ := id l6
      have b26 := hm6.f_1_2
      have b22 := hm6.f_52_2
      refine g_ifT (by decide) ?_
      refine g_getr 0 1 rfl hS.k52 hm6.f_52_0 (by decide) ?_
      refine ⟨hS.k1, ?_⟩
      refine u_X7_isAtEnd ?_
      refine ⟨hS.k1, ?_⟩
      refine ze_look hS hm6 ht k3 (fun r q m7 hm7 f7 sk x1 x2 hq hr => ?_)
      have s1 := sk.1
      refine g_C ?_
      refine g_if (fun w => ?_) (fun w => ?_)
      · refine g_C ⟨by decide, ?_⟩
        refine g_ifT rfl ?_
        have qn : q < n := by
          rcases hr with z | z
          · exact z.1
          · exfalso; omega
        refine g_getr 0 1 rfl hS.k52 hm7.f_52_0 (by decide) ?_
        refine g_C ?_
        refine ⟨hS.k1, ?_⟩
        refine ze_takesSign hS hm7 ht (by omega) (by decide) (by decide) (fun q2 m8 hm8 f8 sk8 w1 w2 l8 bq => ?_) (fun q2 m8 hm8 f8 sk8 w1 w2 l8 nq => ?_)
        · rw [x1] at sk8
          obtain rfl := sk8.uniq sk.idem
          refine g_ifT (by decide) ?_
          refine g_A (by omega) (by omega) ?_
          have F : ∀ c p : Int, ¬ (c = 1 ∧ 2 ≤ p ∧ p ≤ 3) → m8 c p = m6 c p := fun c p z => (f8 c p z).trans (f7 c p z)
          have e53 : m8 53 = m6 53 := funext (fun p => F 53 p (by first | decide | exact fun z => absurd z.1 (by decide) | exact ⟨fun z => absurd z.1 (by decide), fun z => absurd z.1 (by decide)⟩ | omega))
          refine ih (k + 1) m8 s6 hm8 ⟨fun f E hA => k1 f E (b_step sk (tb_E (g_ifF (by first | decide | omega) (g_ifT bq ?_)))), (F 1 4 (by first | decide | exact fun z => absurd z.1 (by decide) | exact ⟨fun z => absurd z.1 (by decide), fun z => absurd z.1 (by decide)⟩ | omega)).trans k2, by omega, by rw [F 52 2 (by first | decide | exact fun z => absurd z.1 (by decide) | exact ⟨fun z => absurd z.1 (by decide), fun z => absurd z.1 (by decide)⟩ | omega)]; omega, by rw [F 52 3 (by first | decide | exact fun z => absurd z.1 (by decide) | exact ⟨fun z => absurd z.1 (by decide), fun z => absurd z.1 (by decide)⟩ | omega)]; exact k5, by rw [F 52 2 (by first | decide | exact fun z => absurd z.1 (by decide) | exact ⟨fun z => absurd z.1 (by decide), fun z => absurd z.1 (by decide)⟩ | omega), e53]; exact k6⟩ (by omega) (by omega) (by omega)
          rw [w1, F 52 3 (by first | decide | exact fun z => absurd z.1 (by decide) | exact ⟨fun z => absurd z.1 (by decide), fun z => absurd z.1 (by decide)⟩ | omega)] at hA
          exact hA
        · rw [x1] at sk8
          obtain rfl := sk8.uniq sk.idem
          refine g_ifF (by decide) ?_
          refine g_getr 0 1 rfl hS.k52 hm8.f_52_0 (by decide) ?_
          refine g_C ?_
          refine ze_refuse0 (q := q2) (T := fun f => Bcc b n 0 0 0 [] [] 0 f []) hS hm8 (by rw [f8 1 4 (by first | decide | exact fun z => absurd z.1 (by decide) | exact ⟨fun z => absurd z.1 (by decide), fun z => absurd z.1 (by decide)⟩ | omega), f7 1 4 (by first | decide | exact fun z => absurd z.1 (by decide) | exact ⟨fun z => absurd z.1 (by decide), fun z => absurd z.1 (by decide)⟩ | omega)]; exact k2) w2 (by omega) (by decide) (by decide) ?_ hf
          rw [Int.add_zero]
          exact k1 _ _ (b_step sk (tb_E (g_ifF (by first | decide | omega) (g_ifF (fun z => nq ⟨qn, z⟩) ⟨rfl, rfl⟩))))
      · refine g_C ⟨by decide, ?_⟩
        refine g_ifF (by decide) ?_
        have qn : n ≤ q := by
          rcases hr with z | z
          · have tb := ht.2.2 q (by omega) z.1
            have := u8_r tb.2.1 tb.2.2
            exfalso; omega
          · exact z.1
        have e53 : m7 53 = m6 53 := funext (fun p => f7 53 p (by first | decide | exact fun z => absurd z.1 (by decide) | exact ⟨fun z => absurd z.1 (by decide), fun z => absurd z.1 (by decide)⟩ | omega))
        refine g_C ⟨by decide, hk m7 s6 hm7 (k1 0 s6 (b_step sk (tb_E (g_ifT qn ⟨rfl, rfl⟩)))) (by rw [f7 52 2 (by first | decide | exact fun z => absurd z.1 (by decide) | exact ⟨fun z => absurd z.1 (by decide), fun z => absurd z.1 (by decide)⟩ | omega), e53]; exact k6) ?_⟩
        rw [f7 52 2 (by first | decide | exact fun z => absurd z.1 (by decide) | exact ⟨fun z => absurd z.1 (by decide), fun z => absurd z.1 (by decide)⟩ | omega)]
        omega
  exact ⟨13, L 13 0 m5 [] hm5 ⟨fun f E hA => by rw [z2, z3] at hA; exact hA, y5, by omega, by omega, by omega, by rw [z22]; rfl⟩ (by decide) (by decide) (by decide)⟩
end
section
/-! the reference's row, held against Bcc: a sign of the class as the reference writes it -/
def en (x : Int) : Int := if 0 ≤ x then 0 + 16 * x else if -11 ≤ x then 1 + 16 * (-2 - x) else if x = -12 then 4 else if x = -13 then 5 else if x = -14 then 14 else if x = -15 then 2 else if x = -16 then 3 else if -21 ≤ x then -11 - x else if x = -22 then 11 else if x = -23 then 12 else if x = -24 then 13 else 91
theorem uW_app {v w : Int} (h : v ≤ w) : ∀ P : List Int, uW v P = uW w P ++ uW v (uR w P) ∧ uR v (uR w P) = uR v P := by
  intro P
  induction P with
  | nil => exact ⟨rfl, rfl⟩
  | cons x P ih =>
    by_cases e : x = -27 ∨ bnS x < w
    · have e1 : uW w (x :: P) = [] := if_pos e
      have e2 : uR w (x :: P) = x :: P := if_pos e
      rw [e1, e2]
      exact ⟨rfl, rfl⟩
    · have e1 : uW w (x :: P) = x :: uW w P := if_neg e
      have e2 : uR w (x :: P) = uR w P := if_neg e
      have n2 : ¬ (x = -27 ∨ bnS x < v) := by omega
      have e3 : uW v (x :: P) = x :: uW v P := if_neg n2
      have e4 : uR v (x :: P) = uR v P := if_neg n2
      rw [e1, e2, e3, e4]
      exact ⟨by rw [ih.1]; rfl, ih.2⟩
theorem uW_nil {u : Int} : ∀ P : List Int, uW u P = [] → uR u P = P := by
  intro P
  cases P with
  | nil => intro _; rfl
  | cons x P =>
    intro h
    by_cases e : x = -27 ∨ bnS x < u
    · exact if_pos e
    · have e1 : uW u (x :: P) = x :: uW u P := if_neg e
      rw [e1] at h
      cases h
theorem uW_top {u s : Int} {P : List Int} (h : ¬ (s = -27 ∨ bnS s < u)) : uW u (s :: P) = s :: uW u P ∧ uR u (s :: P) = uR u P := ⟨if_neg h, if_neg h⟩
theorem uW_low {u s : Int} {P : List Int} (h : s = -27 ∨ bnS s < u) : uW u (s :: P) = [] ∧ uR u (s :: P) = s :: P := ⟨if_pos h, if_pos h⟩
/-- the types of a stack: true is a TEST's -/
def tyA : List Bool → Option (List Bool)
  | false :: false :: D => some (false :: D)
  | _ => none
def tyC : List Bool → Option (List Bool)
  | false :: false :: D => some (true :: D)
  | _ => none
def tyN : List Bool → Option (List Bool)
  | true :: D => some (true :: D)
  | _ => none
def tyB : List Bool → Option (List Bool)
  | true :: true :: D => some (true :: D)
  | _ => none
def tyD (D : List Bool) (x : Int) : Option (List Bool) := if 99999 < x ∨ x = -1 then none else if -11 ≤ x then some (false :: D) else if -16 ≤ x then tyA D else if -21 ≤ x then tyC D else if x = -22 then tyN D else if -24 ≤ x then tyB D else none
def ty1 (o : Option (List Bool)) (x : Int) : Option (List Bool) :=
  match o with
  | none => none
  | some D => tyD D x
def tyl (V : List Int) : Option (List Bool) := V.foldl ty1 (some [])
theorem tyl_snoc (V : List Int) (x : Int) : tyl (V ++ [x]) = ty1 (tyl V) x := by
  unfold tyl
  rw [List.foldl_append]
  rfl
theorem ty_val {D : List Bool} {x : Int} (h : -11 ≤ x) (h2 : x ≤ 99999) (h3 : ¬ x = -1) : ty1 (some D) x = some (false :: D) := (if_neg (by omega)).trans (if_pos h)
theorem ty_ar {D : List Bool} {x : Int} (h : -16 ≤ x ∧ x ≤ -12) : ty1 (some (false :: false :: D)) x = some (false :: D) := (if_neg (by omega)).trans ((if_neg (by omega)).trans (if_pos (by omega)))
theorem ty_cm {D : List Bool} {x : Int} (h : -21 ≤ x ∧ x ≤ -17) : ty1 (some (false :: false :: D)) x = some (true :: D) := (if_neg (by omega)).trans ((if_neg (by omega)).trans ((if_neg (by omega)).trans (if_pos (by omega))))
theorem ty_not {D : List Bool} : ty1 (some (true :: D)) (-22) = some (true :: D) := rfl
theorem ty_two {D : List Bool} {x : Int} (h : x = -23 ∨ x = -24) : ty1 (some (true :: true :: D)) x = some (true :: D) := by
  rcases h with e | e <;> subst e <;> rfl
def RQ (M : Mm) (R : List Int) : Prop := rl (fun i => M 338 (400 * M 336 11 + i)) (M 339 (M 336 11)).toNat = R.map en
theorem RQ.same {M M1 : Mm} {R : List Int} (h : RQ M R) (f : ∀ c p : Int, c = 338 ∨ c = 339 ∨ (c = 336 ∧ p = 11) → M1 c p = M c p) : RQ M1 R := by
  unfold RQ
  rw [f 336 11 (by first | decide | exact fun z => absurd z.1 (by decide) | exact ⟨fun z => absurd z.1 (by decide), fun z => absurd z.1 (by decide)⟩ | omega), f 339 _ (by first | decide | exact fun z => absurd z.1 (by decide) | exact ⟨fun z => absurd z.1 (by decide), fun z => absurd z.1 (by decide)⟩ | omega), rl_same (g := fun i => M 338 (400 * M 336 11 + i)) _ (fun j _ _ => f 338 _ (by first | decide | exact fun z => absurd z.1 (by decide) | exact ⟨fun z => absurd z.1 (by decide), fun z => absurd z.1 (by decide)⟩ | omega))]
  exact h
theorem RQ.push {M M1 : Mm} {R : List Int} {x w : Int} (h : RQ M R) (h0 : 0 ≤ M 339 (M 336 11)) (f : ∀ c p : Int, ¬ (c = 338 ∧ p = 400 * M 336 11 + M 339 (M 336 11)) ∧ ¬ (c = 339 ∧ p = M 336 11) → M1 c p = M c p) (hl : M1 339 (M 336 11) = M 339 (M 336 11) + 1) (hw : M1 338 (400 * M 336 11 + M 339 (M 336 11)) = w) (hx : w = en x) : RQ M1 (R ++ [x]) := by
  unfold RQ at h ⊢
  rw [f 336 11 (by first | decide | exact fun z => absurd z.1 (by decide) | exact ⟨fun z => absurd z.1 (by decide), fun z => absurd z.1 (by decide)⟩ | omega), hl, show (M 339 (M 336 11) + 1).toNat = (M 339 (M 336 11)).toNat + 1 by omega]
  show rl (fun i => M1 338 (400 * M 336 11 + i)) (M 339 (M 336 11)).toNat ++ [M1 338 (400 * M 336 11 + (((M 339 (M 336 11)).toNat : Nat) : Int))] = _
  rw [Int.toNat_of_nonneg h0, hw, hx, List.map_append, rl_same (g := fun i => M 338 (400 * M 336 11 + i)) _ (fun j j0 j1 => f 338 _ (by first | decide | exact fun z => absurd z.1 (by decide) | exact ⟨fun z => absurd z.1 (by decide), fun z => absurd z.1 (by decide)⟩ | omega)), h]
  rfl
/-- how the reference's reading stands to Bcc: O0, R0 what the clauses before wrote, W what this one wrote of the class, V of the reference -/
def Lw (b : Int → Int) (n : Int) (T : Int → List Int → Prop) (O0 R0 : List Int) (M : Mm) (m : Int) (P W V : List Int) (k : Int) (D : List Bool) : Prop := (∀ (f : Int) (E : List Int), Bcc b n m (M 336 8) (M 336 12) P (O0 ++ W) k f E → T f E) ∧ M 336 9 = 0 ∧ M 336 8 ≤ n ∧ RQ M (R0 ++ V) ∧ tyl V = some D
theorem Lw.at {D : List Bool} {b : Int → Int} {n : Int} {T : Int → List Int → Prop} {O0 R0 : List Int} {M M1 : Mm} {m k q : Int} {P W V : List Int} (h : Lw b n T O0 R0 M m P W V k D) (F : ∀ c p : Int, c = 338 ∨ c = 339 ∨ (c = 336 ∧ p = 11) → M1 c p = M c p) (hs : Sk b n (M 336 8) q) (e8 : M1 336 8 = q) (e12 : M1 336 12 = M 336 12) (e9 : M1 336 9 = M 336 9) (hn : q ≤ n) : Lw b n T O0 R0 M1 m P W V k D := by
  refine ⟨fun f E hA => h.1 f E (Bcc.back hs ?_), e9.trans h.2.1, by omega, h.2.2.2.1.same F, h.2.2.2.2⟩
  rw [e8, e12] at hA
  exact hA
theorem Lw.eq {D : List Bool} {b : Int → Int} {n : Int} {T : Int → List Int → Prop} {O0 R0 : List Int} {M M1 : Mm} {m k : Int} {P W V : List Int} (h : Lw b n T O0 R0 M m P W V k D) (F : ∀ c p : Int, c = 338 ∨ c = 339 ∨ (c = 336 ∧ p = 11) → M1 c p = M c p) (e8 : M1 336 8 = M 336 8) (e12 : M1 336 12 = M 336 12) (e9 : M1 336 9 = M 336 9) : Lw b n T O0 R0 M1 m P W V k D := by
  refine ⟨?_, e9.trans h.2.1, by rw [e8]; exact h.2.2.1, h.2.2.2.1.same F, h.2.2.2.2⟩
  rw [e8, e12]
  exact h.1
/-- a sign was put -/
theorem Lw.put {D D' : List Bool} {b : Int → Int} {n : Int} {T : Int → List Int → Prop} {O0 R0 : List Int} {M M1 : Mm} {m k x w : Int} {P W V : List Int} (h : Lw b n T O0 R0 M m P W V k D) (h0 : 0 ≤ M 339 (M 336 11)) (f : ∀ c p : Int, ¬ (c = 338 ∧ p = 400 * M 336 11 + M 339 (M 336 11)) ∧ ¬ (c = 339 ∧ p = M 336 11) → M1 c p = M c p) (hl : M1 339 (M 336 11) = M 339 (M 336 11) + 1) (hw : M1 338 (400 * M 336 11 + M 339 (M 336 11)) = w) (hx : w = en x) (hy : ty1 (some D) x = some D') : Lw b n T O0 R0 M1 m P W (V ++ [x]) k D' := by
  refine ⟨?_, by rw [f 336 9 (by first | decide | exact fun z => absurd z.1 (by decide) | exact ⟨fun z => absurd z.1 (by decide), fun z => absurd z.1 (by decide)⟩ | omega)]; exact h.2.1, by rw [f 336 8 (by first | decide | exact fun z => absurd z.1 (by decide) | exact ⟨fun z => absurd z.1 (by decide), fun z => absurd z.1 (by decide)⟩ | omega)]; exact h.2.2.1, ?_, by rw [tyl_snoc, h.2.2.2.2]; exact hy⟩
  · rw [f 336 8 (by first | decide | exact fun z => absurd z.1 (by decide) | exact ⟨fun z => absurd z.1 (by decide), fun z => absurd z.1 (by decide)⟩ | omega), f 336 12 (by first | decide | exact fun z => absurd z.1 (by decide) | exact ⟨fun z => absurd z.1 (by decide), fun z => absurd z.1 (by decide)⟩ | omega)]
    exact h.1
  · rw [← List.append_assoc]
    exact h.2.2.2.1.push h0 f hl hw hx
theorem Lw.fault {D : List Bool} {b : Int → Int} {n : Int} {T : Int → List Int → Prop} {O0 R0 : List Int} {M : Mm} {m k q f : Int} {E P W V : List Int} (h : Lw b n T O0 R0 M m P W V k D) (hs : Sk b n (M 336 8) q) (hp : bst b n (Bcc b n) m q (M 336 12) P (O0 ++ W) k f E) : T f E := h.1 f E (b_step hs hp)
theorem Lw.to {D D' : List Bool} {b : Int → Int} {n : Int} {T : Int → List Int → Prop} {O0 R0 : List Int} {M M1 : Mm} {m m' k k' q p c : Int} {P W V P' W' V' : List Int} (h : Lw b n T O0 R0 M m P W V k D) (hs : Sk b n (M 336 8) q) (e8 : M1 336 8 = p) (e12 : M1 336 12 = c) (e9 : M1 336 9 = M 336 9) (hn : p ≤ n) (hp : ∀ (f : Int) (E : List Int), Bcc b n m' p c P' (O0 ++ W') k' f E → bst b n (Bcc b n) m q (M 336 12) P (O0 ++ W) k f E) (hr : RQ M1 (R0 ++ V')) (hy : tyl V' = some D') : Lw b n T O0 R0 M1 m' P' W' V' k' D' := by
  refine ⟨fun f E hA => h.1 f E (b_step hs (hp f E ?_)), e9.trans h.2.1, by omega, hr, hy⟩
  rw [e8, e12] at hA
  exact hA
/-- behind a value: what binds as close as w is put already, the rest of the pile is P0 -/
def Sv (b : Int → Int) (n : Int) (T : Int → List Int → Prop) (O0 R0 : List Int) (M : Mm) (m w : Int) (P0 : List Int) (k : Int) (D : List Bool) : Prop := ∃ P W : List Int, Lw b n T O0 R0 M m P W (W ++ uW w P) k D ∧ uR w P = P0
theorem Sv.n {D : List Bool} {b : Int → Int} {n : Int} {T : Int → List Int → Prop} {O0 R0 : List Int} {M : Mm} {m w k : Int} {P0 : List Int} (h : Sv b n T O0 R0 M m w P0 k D) : M 336 8 ≤ n := by
  obtain ⟨P, W, h, _⟩ := h
  exact h.2.2.1
theorem Sv.at {D : List Bool} {b : Int → Int} {n : Int} {T : Int → List Int → Prop} {O0 R0 : List Int} {M M1 : Mm} {m w k q : Int} {P0 : List Int} (h : Sv b n T O0 R0 M m w P0 k D) (F : ∀ c p : Int, c = 338 ∨ c = 339 ∨ (c = 336 ∧ p = 11) → M1 c p = M c p) (hs : Sk b n (M 336 8) q) (e8 : M1 336 8 = q) (e12 : M1 336 12 = M 336 12) (e9 : M1 336 9 = M 336 9) (hn : q ≤ n) : Sv b n T O0 R0 M1 m w P0 k D := by
  obtain ⟨P, W, h, z⟩ := h
  exact ⟨P, W, h.at F hs e8 e12 e9 hn, z⟩
theorem Sv.eq {D : List Bool} {b : Int → Int} {n : Int} {T : Int → List Int → Prop} {O0 R0 : List Int} {M M1 : Mm} {m w k : Int} {P0 : List Int} (h : Sv b n T O0 R0 M m w P0 k D) (F : ∀ c p : Int, c = 338 ∨ c = 339 ∨ (c = 336 ∧ p = 11) → M1 c p = M c p) (e8 : M1 336 8 = M 336 8) (e12 : M1 336 12 = M 336 12) (e9 : M1 336 9 = M 336 9) : Sv b n T O0 R0 M1 m w P0 k D := by
  obtain ⟨P, W, h, z⟩ := h
  exact ⟨P, W, h.eq F e8 e12 e9, z⟩
theorem tb_ar {b : Int → Int} {n m q c k f s : Int} {E P O : List Int} (hm : m = 1 ∨ m = 2 ∨ m = 3) (hq : q < n) (ha : Ar (b q)) (hs : s = arS (b q)) (h : Bcc b n m (q + 1) c (s :: uR (bnS s) P) (O ++ uW (bnS s) P) k f E) : bst b n (Bcc b n) (m + 3) q c P O k f E := by
  have a2 := ha
  unfold Ar at a2
  subst hs
  rcases hm with e | e | e
  · subst e
    exact tb_A0 (g_ifF (by first | decide | omega) (g_ifT ha h))
  · subst e
    exact tb_A1 (g_ifT ⟨hq, ha⟩ h)
  · subst e
    exact tb_A2 (g_ifF (by first | decide | omega) (g_ifF (by first | decide | omega) (g_ifT ⟨hq, ha⟩ h)))
/-- a sign that binds as u is piled up behind a value, and the sign before is put by now -/
theorem Sv.pile {D : List Bool} {b : Int → Int} {n : Int} {T : Int → List Int → Prop} {O0 R0 : List Int} {M M1 : Mm} {m u k q s : Int} {P0 : List Int} (h : Sv b n T O0 R0 M (m + 3) u P0 k D) (hm : m = 1 ∨ m = 2 ∨ m = 3) (hs : Sk b n (M 336 8) q) (hq : q < n) (ha : Ar (b q)) (es : s = arS (b q)) (eu : bnS s = u) (F : ∀ c p : Int, c = 338 ∨ c = 339 ∨ (c = 336 ∧ p = 11) → M1 c p = M c p) (e8 : M1 336 8 = q + 1) (e12 : M1 336 12 = M 336 12) (e9 : M1 336 9 = M 336 9) : ∃ W : List Int, Lw b n T O0 R0 M1 m (s :: P0) W W k D := by
  obtain ⟨P, W, h, z⟩ := h
  refine ⟨W ++ uW u P, h.to hs e8 e12 e9 (by omega) (fun f E hA => tb_ar hm hq ha es ?_) (h.2.2.2.1.same F) h.2.2.2.2⟩
  rw [eu, z, List.append_assoc]
  exact hA
/-- the second value is read, the sign put -/
theorem Sv.two {D D' : List Bool} {b : Int → Int} {n : Int} {T : Int → List Int → Prop} {O0 R0 : List Int} {M M1 : Mm} {m u k s w : Int} {P0 : List Int} (hb : ¬ (s = -27 ∨ bnS s < u)) (h0 : uW u P0 = []) (hl0 : 0 ≤ M 339 (M 336 11)) (f : ∀ c p : Int, ¬ (c = 338 ∧ p = 400 * M 336 11 + M 339 (M 336 11)) ∧ ¬ (c = 339 ∧ p = M 336 11) → M1 c p = M c p) (hl : M1 339 (M 336 11) = M 339 (M 336 11) + 1) (hw : M1 338 (400 * M 336 11 + M 339 (M 336 11)) = w) (hx : w = en s) (hy : ty1 (some D) s = some D') {v : Int} (huv : u ≤ v) (h : Sv b n T O0 R0 M m v (s :: P0) k D) : Sv b n T O0 R0 M1 m u P0 k D' := by
  obtain ⟨P, W, h, z⟩ := h
  have ap := uW_app huv P
  rw [z, (uW_top hb).1, (uW_top hb).2, h0] at ap
  refine ⟨P, W, ?_, ?_⟩
  · rw [ap.1, ← List.append_assoc]
    exact h.put hl0 f hl hw hx hy
  · rw [← ap.2]
    exact uW_nil _ h0
theorem zv_number {X : Mm} {S : Sh} {m0 : Mm} {K : Int → Mm → Prop} {b : Int → Int} {n q : Int} (hS : Shp S) (hm0 : Inv X S m0) (ht : TR X b n) (h9 : m0 336 9 = 0) (hq : m0 336 8 = q) (q0 : 0 ≤ q) (hqn : q < n) (hd : Dg (b q)) (h1 : ∀ (r : Int) (M1 : Mm), Inv X S M1 → (∀ c p : Int, ¬ (c = 336 ∧ (p = 8 ∨ p = 10)) → M1 c p = m0 c p) → Dr b n q r → r - q ≤ 5 → M1 336 8 = r → q < r → r ≤ n → M1 336 10 = nv b q r → K 1 M1) (h0 : ∀ (r : Int) (M1 : Mm), Inv X S M1 → Dr b n q r → 5 < r - q → M1 336 9 = 2 + 8 * q → K 0 M1) : wp_X12_numberHere S m0 336 0 99999 K := by
  have sq : Sk b n q q := Sk.self (Or.inr (by unfold Dg at hd; omega))
  refine zx_num hS hm0 ht h9 (by omega) (fun q' r m1 hm1 f1 sk dq dr d5 _ _ _ e10 e8 rn => ?_) (fun q' m1 hm1 sk _ nd _ => ?_) (fun q' r m1 hm1 sk _ dq dr bad e9 => ?_)
  · rw [hq] at sk
    obtain rfl := sk.uniq sq
    refine h1 r m1 hm1 f1 dr (by omega) e8 ?_ rn e10
    have z := dr.2.2
    have z1 := dr.1
    by_cases e : r = q'
    · rw [e] at z; exact absurd dq z
    · omega
  · rw [hq] at sk
    obtain rfl := sk.uniq sq
    exact absurd ⟨hqn, hd⟩ nd
  · rw [hq] at sk
    obtain rfl := sk.uniq sq
    refine h0 r m1 hm1 dr ?_ e9
    rcases bad with z | z | z
    · exact z
    · have z0 := nv_nn dr
      exfalso; omega
    · by_cases e : 5 < r - q'
      · exact e
      · have z0 := nv_le dr (by omega)
        exfalso; omega
theorem zv_value {X : Mm} {S : Sh} {m0 : Mm} {K : Int → Mm → Prop} {k b d : Int} {tb : Int → Int} {tn mo kk : Int} {T : Int → List Int → Prop} {O0 R0 P W V : List Int} {D : List Bool} (hS : Shp S) (hm0 : Inv X S m0) (ht : TR X tb tn) (hi : Ina X m0 k b d) (hmo : mo = 1 ∨ mo = 2 ∨ mo = 3) (lr : Lw tb tn T O0 R0 m0 mo P W V kk D) (hf : ∀ M1 : Mm, Inv X S M1 → T (M1 336 9) [] → ¬ M1 336 9 = 0 → K 0 M1) (hk : ∀ M1 : Mm, Inv X S M1 → Out m0 M1 k b d → (∃ v : Int, Lw tb tn T O0 R0 M1 (mo + 3) P (W ++ [v]) (V ++ [v]) kk (false :: D)) → K 1 M1) : wp_X12_value S m0 336 K := by
  refine u_X12_value ?_
  refine ⟨hS.k336, ?_⟩
  have nb' := ht.2.1
  have g8 := hm0.f_336_8
  refine zx_see hS hm0 ht lr.2.2.1 (fun r1 q m1 hm1 f1 sk e1 qn y1 => ?_)
  have q0 : 0 ≤ q := by have := sk.1; omega
  obtain ⟨i1, A1⟩ := hi.fr (m1 := m1) (fun c p z => f1 c p (by first | exact fun y => absurd (y.1 ▸ z) (by decide) | exact fun y => absurd (y.1 ▸ q) (by decide) | exact z | exact q | exact z.1 | exact q.1 | exact z.2 | exact q.2 | omega)) (by have := sk.1; omega) (by rw [f1 336 12 (by first | decide | exact fun z => absurd z.1 (by decide) | exact ⟨fun z => absurd z.1 (by decide), fun z => absurd z.1 (by decide)⟩ | omega)]; omega)
  have l1 : Lw tb tn T O0 R0 m1 mo P W V kk D := lr.at (fun c p z => f1 c p (by first | exact fun y => absurd (y.1 ▸ z) (by decide) | exact fun y => absurd (y.1 ▸ q) (by decide) | exact z | exact q | exact z.1 | exact q.1 | exact z.2 | exact q.2 | omega)) sk e1 (f1 336 12 (by first | decide | exact fun z => absurd z.1 (by decide) | exact ⟨fun z => absurd z.1 (by decide), fun z => absurd z.1 (by decide)⟩ | omega)) (f1 336 9 (by first | decide | exact fun z => absurd z.1 (by decide) | exact ⟨fun z => absurd z.1 (by decide), fun z => absurd z.1 (by decide)⟩ | omega)) qn
  have s1 : Sk tb tn (m1 336 8) q := by rw [e1]; exact sk.idem
  have b8 := hm1.f_336_8
  refine g_get 8 (0) (400) rfl hS.k336 hm1.f_336_8 (fun at' eat bat cat => ?_)
  refine g_get 8 (0) (400) rfl hS.k336 hm1.f_336_8 (fun v2 ev2 bv2 cv2 => ?_)
  rw [show at' = q by omega, show v2 = q by omega]
  refine ⟨hS.k336, ?_⟩
  refine zx_isDigit hS hm1 ht q0 (fun d1 d2 => ?_) (fun nd => ?_)
  · refine g_ifF (by decide) ?_
    refine g_C ?_
    refine g_C ?_
    refine ⟨hS.k336, ?_⟩
    refine zv_number hS hm1 ht l1.2.1 e1 q0 d1 d2 (fun r m2 hm2 f2 dr r5 e2 qr rn e10 => ?_) (fun r m2 hm2 dr r5 e9 => ?_)
    · obtain ⟨i2, A2⟩ := i1.fr (m1 := m2) (fun c p z => f2 c p (by first | exact fun y => absurd (y.1 ▸ z) (by decide) | exact fun y => absurd (y.1 ▸ q) (by decide) | exact z | exact q | exact z.1 | exact q.1 | exact z.2 | exact q.2 | omega)) (by omega) (by rw [f2 336 12 (by first | decide | exact fun z => absurd z.1 (by decide) | exact ⟨fun z => absurd z.1 (by decide), fun z => absurd z.1 (by decide)⟩ | omega)]; omega)
      refine g_ifF (by decide) ?_
      refine ⟨hS.k336, ?_⟩
      refine zx_makes hS hm2 ((f2 336 9 (by first | decide | exact fun z => absurd z.1 (by decide) | exact ⟨fun z => absurd z.1 (by decide), fun z => absurd z.1 (by decide)⟩ | omega)).trans l1.2.1) q0 (by omega) (fun m3 hm3 f3 k3 n60 n59 => ?_) (fun m3 hm3 c60 e9 => ?_)
      · refine g_ifT (by decide) ?_
        obtain ⟨i3, A3⟩ := i2.fr (m1 := m3) (fun c p z => f3 c p (by first | exact fun y => absurd (y.1 ▸ z) (by decide) | exact fun y => absurd (y.1 ▸ q) (by decide) | exact z | exact q | exact z.1 | exact q.1 | exact z.2 | exact q.2 | omega)) (by rw [f3 336 8 (by first | decide | exact fun z => absurd z.1 (by decide) | exact ⟨fun z => absurd z.1 (by decide), fun z => absurd z.1 (by decide)⟩ | omega)]; omega) (by omega)
        have e8 : m3 336 8 = m2 336 8 := f3 336 8 (by first | decide | exact fun z => absurd z.1 (by decide) | exact ⟨fun z => absurd z.1 (by decide), fun z => absurd z.1 (by decide)⟩ | omega)
        have l3 : m3 339 (m3 336 11) = m2 339 (m2 336 11) := by rw [f3 336 11 (by first | decide | exact fun z => absurd z.1 (by decide) | exact ⟨fun z => absurd z.1 (by decide), fun z => absurd z.1 (by decide)⟩ | omega), f3 339 _ (by first | decide | exact fun z => absurd z.1 (by decide) | exact ⟨fun z => absurd z.1 (by decide), fun z => absurd z.1 (by decide)⟩ | omega)]
        have l2 : m2 339 (m2 336 11) = m1 339 (m1 336 11) := by rw [f2 336 11 (by first | decide | exact fun z => absurd z.1 (by decide) | exact ⟨fun z => absurd z.1 (by decide), fun z => absurd z.1 (by decide)⟩ | omega), f2 339 _ (by first | decide | exact fun z => absurd z.1 (by decide) | exact ⟨fun z => absurd z.1 (by decide), fun z => absurd z.1 (by decide)⟩ | omega)]
        obtain ⟨g1, hk1, hq1, hd1, hd2, hl1⟩ := i1
        obtain ⟨g2, hk2, hq2, hd3, hd4, hl2⟩ := i2
        have e12 : m2 336 12 = m1 336 12 := f2 336 12 (by first | decide | exact fun z => absurd z.1 (by decide) | exact ⟨fun z => absurd z.1 (by decide), fun z => absurd z.1 (by decide)⟩ | omega)
        have sk1 := sk.1
        refine g_C ?_
        refine g_get 10 (0) (99999) rfl hS.k336 hm3.f_336_10 (fun v ev bv cv => ?_)
        refine ⟨hS.k336, ?_⟩
        refine zp_puts hS hm3 i3.1 (by decide) (by decide) bv cv (by omega) (fun m4 hm4 f4 h4 s4 => ?_)
        refine g_C ⟨by decide, hk m4 hm4 (put_out i3 ((A1.trans A2).trans A3) (by omega) (by omega) (by omega) f4 h4 s4 (ps_num bv cv (by omega))) ?_⟩
        have nn := nv_nn dr
        rw [f3 336 10 (by first | decide | exact fun z => absurd z.1 (by decide) | exact ⟨fun z => absurd z.1 (by decide), fun z => absurd z.1 (by decide)⟩ | omega), e10] at ev
        have bl3 := hm3.a_339 (i := m3 336 11) (by have := i3.1.1; have := i3.1.2; omega) (by have := i3.1.1; have := i3.1.2; omega)
        have r3 : RQ m3 (R0 ++ V) := l1.2.2.2.1.same (fun c p z => (f3 c p (by first | exact fun y => absurd (y.1 ▸ z) (by decide) | exact fun y => absurd (y.1 ▸ q) (by decide) | exact z | exact q | exact z.1 | exact q.1 | exact z.2 | exact q.2 | omega)).trans (f2 c p (by first | exact fun y => absurd (y.1 ▸ z) (by decide) | exact fun y => absurd (y.1 ▸ q) (by decide) | exact z | exact q | exact z.1 | exact q.1 | exact z.2 | exact q.2 | omega)))
        have r4 : RQ m4 (R0 ++ V ++ [nv tb q r]) := r3.push bl3.1 f4 h4 s4 (by unfold en; rw [if_pos nn, ev])
        rw [List.append_assoc] at r4
        refine ⟨nv tb q r, l1.to s1 (p := r) (c := m1 336 12 + 1) ?_ ?_ ?_ rn (fun f E hA => tb_V hmo (g_ifT ⟨d1, d2⟩ ⟨r, dr, g_ifF (by first | decide | omega) (g_ifF (by first | decide | omega) ?_)⟩)) r4 (by rw [tyl_snoc, l1.2.2.2.2]; exact ty_val (by omega) (nv_le dr (by omega)) (by omega))⟩
        · rw [f4 336 8 (by first | decide | exact fun z => absurd z.1 (by decide) | exact ⟨fun z => absurd z.1 (by decide), fun z => absurd z.1 (by decide)⟩ | omega)]; omega
        · rw [f4 336 12 (by first | decide | exact fun z => absurd z.1 (by decide) | exact ⟨fun z => absurd z.1 (by decide), fun z => absurd z.1 (by decide)⟩ | omega)]; omega
        · rw [f4 336 9 (by first | decide | exact fun z => absurd z.1 (by decide) | exact ⟨fun z => absurd z.1 (by decide), fun z => absurd z.1 (by decide)⟩ | omega), f3 336 9 (by first | decide | exact fun z => absurd z.1 (by decide) | exact ⟨fun z => absurd z.1 (by decide), fun z => absurd z.1 (by decide)⟩ | omega), f2 336 9 (by first | decide | exact fun z => absurd z.1 (by decide) | exact ⟨fun z => absurd z.1 (by decide), fun z => absurd z.1 (by decide)⟩ | omega)]
        · rw [List.append_assoc]; exact hA
      · refine g_ifF (by decide) (g_C ⟨by decide, hf m3 hm3 ?_ (by omega)⟩)
        rw [f2 336 12 (by first | decide | exact fun z => absurd z.1 (by decide) | exact ⟨fun z => absurd z.1 (by decide), fun z => absurd z.1 (by decide)⟩ | omega)] at c60
        rw [e9]
        exact l1.fault s1 (tb_V hmo (g_ifT ⟨d1, d2⟩ ⟨r, dr, g_ifF (by first | decide | omega) (g_ifT c60 ⟨rfl, rfl⟩)⟩))
    · refine g_ifT rfl (g_C ⟨by decide, hf m2 hm2 ?_ (by omega)⟩)
      rw [e9]
      exact l1.fault s1 (tb_V hmo (g_ifT ⟨d1, d2⟩ ⟨r, dr, g_ifT r5 ⟨rfl, rfl⟩⟩))
  · refine g_ifT rfl ?_
    refine ⟨hS.k336, ?_⟩
    refine zx_wordHere hS hm1 ht e1 qn sk.idem (fun i m2 hi10 hn wk hm2 f2 e2 => ?_) (fun m2 hn hm2 f2 e2 => ?_)
    · obtain ⟨i2, A2⟩ := i1.fr (m1 := m2) (fun c p z => f2 c p (by first | exact fun y => absurd (y.1 ▸ z) (by decide) | exact fun y => absurd (y.1 ▸ q) (by decide) | exact z | exact q | exact z.1 | exact q.1 | exact z.2 | exact q.2 | omega)) (by omega) (by rw [f2 336 12 (by first | decide | exact fun z => absurd z.1 (by decide) | exact ⟨fun z => absurd z.1 (by decide), fun z => absurd z.1 (by decide)⟩ | omega)]; omega)
      have tl2 := tl_r _ (vws_t i hi10)
      refine g_if (fun w => ?_) (fun w => ?_)
      · refine ⟨hS.k336, ?_⟩
        refine zx_makes hS hm2 ((f2 336 9 (by first | decide | exact fun z => absurd z.1 (by decide) | exact ⟨fun z => absurd z.1 (by decide), fun z => absurd z.1 (by decide)⟩ | omega)).trans l1.2.1) q0 (by omega) (fun m3 hm3 f3 k3 n60 n59 => ?_) (fun m3 hm3 c60 e9 => ?_)
        · refine g_ifT (by decide) ?_
          obtain ⟨i3, A3⟩ := i2.fr (m1 := m3) (fun c p z => f3 c p (by first | exact fun y => absurd (y.1 ▸ z) (by decide) | exact fun y => absurd (y.1 ▸ q) (by decide) | exact z | exact q | exact z.1 | exact q.1 | exact z.2 | exact q.2 | omega)) (by rw [f3 336 8 (by first | decide | exact fun z => absurd z.1 (by decide) | exact ⟨fun z => absurd z.1 (by decide), fun z => absurd z.1 (by decide)⟩ | omega)]; omega) (by omega)
          have e8 : m3 336 8 = m2 336 8 := f3 336 8 (by first | decide | exact fun z => absurd z.1 (by decide) | exact ⟨fun z => absurd z.1 (by decide), fun z => absurd z.1 (by decide)⟩ | omega)
          refine ⟨hS.k336, ?_⟩
          refine zx_passWord _ hS hm3 ht (e8.trans e2) q0 (vws_t i hi10) wk (fun m4 hm4 f4 e4 rn => ?_)
          obtain ⟨i4, A4⟩ := i3.fr (m1 := m4) (fun c p z => f4 c p (by first | exact fun y => absurd (y.1 ▸ z) (by decide) | exact fun y => absurd (y.1 ▸ q) (by decide) | exact z | exact q | exact z.1 | exact q.1 | exact z.2 | exact q.2 | omega)) (by omega) (by rw [f4 336 12 (by first | decide | exact fun z => absurd z.1 (by decide) | exact ⟨fun z => absurd z.1 (by decide), fun z => absurd z.1 (by decide)⟩ | omega)]; omega)
          have l4 : m4 339 (m4 336 11) = m3 339 (m3 336 11) := by rw [f4 336 11 (by first | decide | exact fun z => absurd z.1 (by decide) | exact ⟨fun z => absurd z.1 (by decide), fun z => absurd z.1 (by decide)⟩ | omega), f4 339 _ (by first | decide | exact fun z => absurd z.1 (by decide) | exact ⟨fun z => absurd z.1 (by decide), fun z => absurd z.1 (by decide)⟩ | omega)]
          have k4 : m4 336 12 = m3 336 12 := f4 336 12 (by first | decide | exact fun z => absurd z.1 (by decide) | exact ⟨fun z => absurd z.1 (by decide), fun z => absurd z.1 (by decide)⟩ | omega)
          have e12 : m2 336 12 = m1 336 12 := f2 336 12 (by first | decide | exact fun z => absurd z.1 (by decide) | exact ⟨fun z => absurd z.1 (by decide), fun z => absurd z.1 (by decide)⟩ | omega)
          have sk1 := sk.1
          obtain ⟨g2, hk2, hq2, hd3, hd4, hl2⟩ := i2
          obtain ⟨g3, hk3, hq3, hd5, hd6, hl3⟩ := i3
          refine g_C ?_
          refine ⟨hS.k336, ?_⟩
          refine zp_puts hS hm4 i4.1 (by decide) (by decide) (by omega) (by omega) (by omega) (fun m5 hm5 f5 h5 s5 => ?_)
          refine g_C ⟨by decide, hk m5 hm5 (put_out i4 (((A1.trans A2).trans A3).trans A4) (by omega) (by omega) (by omega) f5 h5 s5 (ps_word (by omega) (by omega) (by omega))) ?_⟩
          have bl4 := hm4.a_339 (i := m4 336 11) (by have := i4.1.1; have := i4.1.2; omega) (by have := i4.1.1; have := i4.1.2; omega)
          have r4 : RQ m4 (R0 ++ V) := l1.2.2.2.1.same (fun c p z => (f4 c p (by first | exact fun y => absurd (y.1 ▸ z) (by decide) | exact fun y => absurd (y.1 ▸ q) (by decide) | exact z | exact q | exact z.1 | exact q.1 | exact z.2 | exact q.2 | omega)).trans ((f3 c p (by first | exact fun y => absurd (y.1 ▸ z) (by decide) | exact fun y => absurd (y.1 ▸ q) (by decide) | exact z | exact q | exact z.1 | exact q.1 | exact z.2 | exact q.2 | omega)).trans (f2 c p (by first | exact fun y => absurd (y.1 ▸ z) (by decide) | exact fun y => absurd (y.1 ▸ q) (by decide) | exact z | exact q | exact z.1 | exact q.1 | exact z.2 | exact q.2 | omega))))
          have r5 : RQ m5 (R0 ++ V ++ [-2 - (i : Int)]) := r4.push bl4.1 f5 h5 s5 (by unfold en; rw [if_neg (by omega), if_pos (by omega)]; omega)
          rw [List.append_assoc] at r5
          refine ⟨-2 - (i : Int), l1.to s1 (p := q + tl (vws.getD i 0)) (c := m1 336 12 + 1) ?_ ?_ ?_ rn (fun f E hA => tb_V hmo (g_ifF nd (bV_hit bws i hi10 (fun j hj => ?_) ?_ ?_))) r5 (by rw [tyl_snoc, l1.2.2.2.2]; exact ty_val (by omega) (by omega) (by omega))⟩
          · rw [f5 336 8 (by first | decide | exact fun z => absurd z.1 (by decide) | exact ⟨fun z => absurd z.1 (by decide), fun z => absurd z.1 (by decide)⟩ | omega)]; exact e4
          · rw [f5 336 12 (by first | decide | exact fun z => absurd z.1 (by decide) | exact ⟨fun z => absurd z.1 (by decide), fun z => absurd z.1 (by decide)⟩ | omega)]; omega
          · rw [f5 336 9 (by first | decide | exact fun z => absurd z.1 (by decide) | exact ⟨fun z => absurd z.1 (by decide), fun z => absurd z.1 (by decide)⟩ | omega), f4 336 9 (by first | decide | exact fun z => absurd z.1 (by decide) | exact ⟨fun z => absurd z.1 (by decide), fun z => absurd z.1 (by decide)⟩ | omega), f3 336 9 (by first | decide | exact fun z => absurd z.1 (by decide) | exact ⟨fun z => absurd z.1 (by decide), fun z => absurd z.1 (by decide)⟩ | omega), f2 336 9 (by first | decide | exact fun z => absurd z.1 (by decide) | exact ⟨fun z => absurd z.1 (by decide), fun z => absurd z.1 (by decide)⟩ | omega)]
          · rw [(bws_v j (by omega)).1]; exact hn j hj
          · rw [(bws_v i hi10).1]; exact wk
          · rw [(bws_v i hi10).1, (bws_v i hi10).2, List.append_assoc]
            exact g_ifF (by first | decide | omega) hA
        · refine g_ifF (by decide) (g_C ⟨by decide, hf m3 hm3 ?_ (by omega)⟩)
          rw [f2 336 12 (by first | decide | exact fun z => absurd z.1 (by decide) | exact ⟨fun z => absurd z.1 (by decide), fun z => absurd z.1 (by decide)⟩ | omega)] at c60
          rw [e9]
          refine l1.fault s1 (tb_V hmo (g_ifF nd (bV_hit bws i hi10 (fun j hj => ?_) ?_ (g_ifT c60 ⟨rfl, rfl⟩))))
          · rw [(bws_v j (by omega)).1]; exact hn j hj
          · rw [(bws_v i hi10).1]; exact wk
      · exfalso
        omega
    · refine g_if (fun w => absurd w (by decide)) (fun w => ?_)
      refine g_C ?_
      refine ⟨hS.k336, ?_⟩
      refine zx_fails hS hm2 ((f2 336 9 (by first | decide | exact fun z => absurd z.1 (by decide) | exact ⟨fun z => absurd z.1 (by decide), fun z => absurd z.1 (by decide)⟩ | omega)).trans l1.2.1) (by decide) (by decide) q0 (by omega) (fun m3 hm3 f3 e9 => ?_)
      refine ⟨by decide, hf m3 hm3 ?_ (by omega)⟩
      rw [e9, show 1 + 8 * q + 0 = 1 + 8 * q by omega]
      refine l1.fault s1 (tb_V hmo (g_ifF nd (bV_miss bws (fun j hj => ?_))))
      rw [(bws_v j hj).1]
      exact hn j hj
theorem zv_term {X : Mm} {S : Sh} {m0 : Mm} {K : Int → Mm → Prop} {k b d : Int} {tb : Int → Int} {tn mo kk : Int} {T : Int → List Int → Prop} {O0 R0 P0 W0 : List Int} {D : List Bool} (hS : Shp S) (hm0 : Inv X S m0) (ht : TR X tb tn) (hi : Ina X m0 k b d) (hmo : mo = 1 ∨ mo = 2 ∨ mo = 3) (hp0 : uW 6 P0 = []) (lr : Lw tb tn T O0 R0 m0 mo P0 W0 W0 kk D) (hf : ∀ M1 : Mm, Inv X S M1 → T (M1 336 9) [] → ¬ M1 336 9 = 0 → K 0 M1) (hk : ∀ M1 : Mm, Inv X S M1 → Out m0 M1 k b d → Sv tb tn T O0 R0 M1 (mo + 3) 6 P0 kk (false :: D) → Ntm tb tn M1 → K 1 M1) : wp_X12_term S m0 336 K := by
  have hk0 := hi.2.1
  have nb' := ht.2.1
  refine u_X12_term ?_
  refine ⟨hS.k336, ?_⟩
  refine zv_value hS hm0 ht hi hmo lr (fun m1 hm1 n1 t1 => ?_) (fun m1 hm1 o1 lv => ?_)
  · exact g_ifF (by decide) (g_C ⟨by decide, hf m1 hm1 n1 t1⟩)
  · refine g_ifT (by decide) ?_
    have l1 : Sv tb tn T O0 R0 m1 (mo + 3) 6 P0 kk (false :: D) := by
      obtain ⟨v, lv⟩ := lv
      exact ⟨P0, W0 ++ [v], by rw [hp0, List.append_nil]; exact lv, uW_nil _ hp0⟩
    have L : ∀ (n : Nat) (m : Mm), Inv X S m → Out m0 m k b d → Sv tb tn T O0 R0 m (mo + 3) 6 P0 kk (false :: D) → 401 - m 336 8 ≤ (n : Int) → wp_X12_term_9 S K n 336 m := by
      intro n
      induction n with
      | zero =>
        intro m hm _ _ h
        have b8 := hm.f_336_8
        exfalso; omega
      | succ n ih =>
        intro m hm o l h
        have go : ∀ m' : Mm, Inv X S m' → Out m0 m' k b d → Sv tb tn T O0 R0 m' (mo + 3) 6 P0 kk (false :: D) → Sk tb tn (m' 336 8) (m' 336 8) → m' 336 8 < tn → (tb (m' 336 8) = 42 ∨ tb (m' 336 8) = 47 ∨ tb (m' 336 8) = 37) → m 336 8 ≤ m' 336 8 → wp_X12_term_36 S (fun a0 M => wp_X12_term_9 S K n a0 M) K 336 m' := by
          intro m' hm' o' l' sk' h1 ha h2
          have b8 := hm'.f_336_8
          have b1 := ht.n hm'
          have op : ∀ s x : Int, 2 ≤ s → s ≤ 15 → ¬ s = 11 → x = arS (tb (m' 336 8)) → bnS x = 6 → ¬ x = -27 → s + 16 * 0 = en x → (-16 ≤ x ∧ x ≤ -12) → wp_X12_term_74 S (fun a0 M => wp_X12_term_9 S K n a0 M) K 336 s m' := by
            intro s x s0 s1 s2 ex1 ex2 ex3 ex4 ex5
            refine u_X12_term_74 ?_
            refine g_get 8 (0) (400) rfl hS.k336 hm'.f_336_8 (fun v ev bv cv => ?_)
            refine g_C ?_
            refine g_A (by omega) (by omega) ?_
            refine g_put 8 rfl hS.k336 (hm'.w_336_8 (by omega) (by omega)) (fun m2 e2 hm2 => ?_)
            have x2 : m2 336 8 = v + 1 := (congrFun (congrFun e2 _) _).trans (up_at _ _ _ _)
            have f2 : ∀ c p : Int, ¬ (c = 336 ∧ p = 8) → m2 c p = m' c p := fun c p q => (congrFun (congrFun e2 _) _).trans (up_ne q)
            have i' := o'.ina hi
            obtain ⟨i2, A2⟩ := i'.fr (m1 := m2) (fun c p q => f2 c p (by first | exact fun y => absurd (y.1 ▸ z) (by decide) | exact fun y => absurd (y.1 ▸ q) (by decide) | exact z | exact q | exact z.1 | exact q.1 | exact z.2 | exact q.2 | omega)) (by omega) (by rw [f2 336 12 (by first | decide | exact fun z => absurd z.1 (by decide) | exact ⟨fun z => absurd z.1 (by decide), fun z => absurd z.1 (by decide)⟩ | omega)]; omega)
            have i2' : Ina X m2 (k + 1) b (d + 1) := by
              obtain ⟨g, j0, jq, jd0, jd, jl⟩ := i2
              obtain ⟨g', j0', jq', jd0', jd', jl'⟩ := i'
              have l2 : m2 339 (m2 336 11) = m' 339 (m' 336 11) := by rw [f2 336 11 (by first | decide | exact fun z => absurd z.1 (by decide) | exact ⟨fun z => absurd z.1 (by decide), fun z => absurd z.1 (by decide)⟩ | omega), f2 339 _ (by first | decide | exact fun z => absurd z.1 (by decide) | exact ⟨fun z => absurd z.1 (by decide), fun z => absurd z.1 (by decide)⟩ | omega)]
              exact ⟨g, by omega, jq, jd0, jd, by omega⟩
            obtain ⟨W2, lr2⟩ := l'.pile (M1 := m2) hmo sk' h1 (by unfold Ar; omega) ex1 ex2 (fun c p z => f2 c p (by first | exact fun y => absurd (y.1 ▸ z) (by decide) | exact fun y => absurd (y.1 ▸ q) (by decide) | exact z | exact q | exact z.1 | exact q.1 | exact z.2 | exact q.2 | omega)) (by omega) (f2 336 12 (by first | decide | exact fun z => absurd z.1 (by decide) | exact ⟨fun z => absurd z.1 (by decide), fun z => absurd z.1 (by decide)⟩ | omega)) (f2 336 9 (by first | decide | exact fun z => absurd z.1 (by decide) | exact ⟨fun z => absurd z.1 (by decide), fun z => absurd z.1 (by decide)⟩ | omega))
            refine ⟨hS.k336, ?_⟩
            refine zv_value hS hm2 ht i2' hmo lr2 (fun m3 hm3 n3 t3 => ?_) (fun m3 hm3 o3 l3 => ?_)
            · exact g_ifF (by decide) (g_C ⟨by decide, hf m3 hm3 n3 t3⟩)
            · refine g_ifT (by decide) ?_
              refine g_C ?_
              refine ⟨hS.k336, ?_⟩
              have b83 := hm3.f_336_8
              have ol := o3.2.2.1
              refine zp_puts hS hm3 ((i2'.1).adv o3.1.1) (by omega) s1 (by decide) (by decide) (by omega) (fun m4 hm4 f4 h4 s4 => ?_)
              obtain ⟨o4, n4⟩ := two_out hi o' A2 (by omega) o3 s0 s1 s2 f4 h4 s4
              have bl3 := hm3.a_339 (i := m3 336 11) (by have := ((i2'.1).adv o3.1.1).1; have := i2'.1.2; omega) (by have := ((i2'.1).adv o3.1.1).1; have := i2'.1.2; omega)
              obtain ⟨v3, l3⟩ := l3
              have l4 : Sv tb tn T O0 R0 m4 (mo + 3) 6 P0 kk (false :: D) := by
                refine ⟨x :: P0, W2 ++ [v3], ?_, ?_⟩
                · rw [(uW_top (by omega)).1, hp0]
                  exact l3.put bl3.1 f4 h4 s4 ex4 (ty_ar ex5)
                · rw [(uW_top (by omega)).2]
                  exact uW_nil _ hp0
              exact ih m4 hm4 o4 l4 (by omega)
          refine u_X12_term_36 ?_
          refine g_getr 0 337 rfl hS.k336 hm'.f_336_0 (by decide) ?_
          refine g_get 8 (0) (400) rfl hS.k336 hm'.f_336_8 (fun v ev bv cv => ?_)
          refine g_ldu hS.k337 hS.l337 (by omega) (by omega) (fun x ex => ?_)
          rw [show v = m' 336 8 by omega, ht.b hm' (by omega) (by omega)] at ex
          refine g_C ?_
          refine g_if (fun w => ?_) (fun w => g_C (op 4 (-12) (by decide) (by decide) (by decide) (by rw [show tb (m' 336 8) = 42 by omega]; rfl) rfl (by decide) rfl (by decide)))
          refine g_getr 0 337 rfl hS.k336 hm'.f_336_0 (by decide) ?_
          refine g_get 8 (0) (400) rfl hS.k336 hm'.f_336_8 (fun v ev bv cv => ?_)
          refine g_ldu hS.k337 hS.l337 (by omega) (by omega) (fun x ex => ?_)
          rw [show v = m' 336 8 by omega, ht.b hm' (by omega) (by omega)] at ex
          refine g_C ?_
          refine g_if (fun w => ?_) (fun w => g_C (op 5 (-13) (by decide) (by decide) (by decide) (by rw [show tb (m' 336 8) = 47 by omega]; rfl) rfl (by decide) rfl (by decide)))
          exact g_C (op 14 (-14) (by decide) (by decide) (by decide) (by rw [show tb (m' 336 8) = 37 by omega]; rfl) rfl (by decide) rfl (by decide))
        refine u_X12_term_9 ?_
        refine ⟨hS.k336, ?_⟩
        refine zx_see hS hm ht l.n (fun r1 q1 s1 hs1 f1 sk1 e1 qn1 y1 => ?_)
        have o1 : Out m0 s1 k b d := o.later (fun c p q => f1 c p (by first | exact fun y => absurd (y.1 ▸ z) (by decide) | exact fun y => absurd (y.1 ▸ q) (by decide) | exact z | exact q | exact z.1 | exact q.1 | exact z.2 | exact q.2 | omega)) (by have := sk1.1; omega) (by rw [f1 336 12 (by first | decide | exact fun z => absurd z.1 (by decide) | exact ⟨fun z => absurd z.1 (by decide), fun z => absurd z.1 (by decide)⟩ | omega)]; omega)
        have l1 : Sv tb tn T O0 R0 s1 (mo + 3) 6 P0 kk (false :: D) := l.at (fun c p z => f1 c p (by first | exact fun y => absurd (y.1 ▸ z) (by decide) | exact fun y => absurd (y.1 ▸ q) (by decide) | exact z | exact q | exact z.1 | exact q.1 | exact z.2 | exact q.2 | omega)) sk1 e1 (f1 336 12 (by first | decide | exact fun z => absurd z.1 (by decide) | exact ⟨fun z => absurd z.1 (by decide), fun z => absurd z.1 (by decide)⟩ | omega)) (f1 336 9 (by first | decide | exact fun z => absurd z.1 (by decide) | exact ⟨fun z => absurd z.1 (by decide), fun z => absurd z.1 (by decide)⟩ | omega)) qn1
        have i1 : Sk tb tn (s1 336 8) (s1 336 8) := by rw [e1]; exact sk1.idem
        have g1 := hm.f_336_8
        have c1 := u8_is ht (v := 42) (by have := sk1.1; omega) y1 (by decide) (by decide)
        have a1 : q1 < tn ∧ tb q1 = 42 → s1 336 8 < tn ∧ (tb (s1 336 8) = 42 ∨ tb (s1 336 8) = 47 ∨ tb (s1 336 8) = 37) := fun z => by rw [e1]; exact ⟨z.1, by omega⟩
        refine g_C ?_
        refine g_if (fun w => go s1 hs1 o1 l1 i1 (a1 (c1.1 (by omega))).1 (a1 (c1.1 (by omega))).2 (by have := sk1.1; omega)) (fun w => ?_)
        refine ⟨hS.k336, ?_⟩
        refine zx_see hS hs1 ht l1.n (fun r2 q2 s2 hs2 f2 sk2 e2 qn2 y2 => ?_)
        have o2 : Out m0 s2 k b d := o1.later (fun c p q => f2 c p (by first | exact fun y => absurd (y.1 ▸ z) (by decide) | exact fun y => absurd (y.1 ▸ q) (by decide) | exact z | exact q | exact z.1 | exact q.1 | exact z.2 | exact q.2 | omega)) (by have := sk2.1; omega) (by rw [f2 336 12 (by first | decide | exact fun z => absurd z.1 (by decide) | exact ⟨fun z => absurd z.1 (by decide), fun z => absurd z.1 (by decide)⟩ | omega)]; omega)
        have l2 : Sv tb tn T O0 R0 s2 (mo + 3) 6 P0 kk (false :: D) := l1.at (fun c p z => f2 c p (by first | exact fun y => absurd (y.1 ▸ z) (by decide) | exact fun y => absurd (y.1 ▸ q) (by decide) | exact z | exact q | exact z.1 | exact q.1 | exact z.2 | exact q.2 | omega)) sk2 e2 (f2 336 12 (by first | decide | exact fun z => absurd z.1 (by decide) | exact ⟨fun z => absurd z.1 (by decide), fun z => absurd z.1 (by decide)⟩ | omega)) (f2 336 9 (by first | decide | exact fun z => absurd z.1 (by decide) | exact ⟨fun z => absurd z.1 (by decide), fun z => absurd z.1 (by decide)⟩ | omega)) qn2
        have i2 : Sk tb tn (s2 336 8) (s2 336 8) := by rw [e2]; exact sk2.idem
        have g2 := hs1.f_336_8
        have c2 := u8_is ht (v := 47) (by have := sk2.1; omega) y2 (by decide) (by decide)
        have a2 : q2 < tn ∧ tb q2 = 47 → s2 336 8 < tn ∧ (tb (s2 336 8) = 42 ∨ tb (s2 336 8) = 47 ∨ tb (s2 336 8) = 37) := fun z => by rw [e2]; exact ⟨z.1, by omega⟩
        refine g_C ?_
        refine g_if (fun w => go s2 hs2 o2 l2 i2 (a2 (c2.1 (by omega))).1 (a2 (c2.1 (by omega))).2 (by have := sk1.1; have := sk2.1; omega)) (fun w => ?_)
        refine ⟨hS.k336, ?_⟩
        refine zx_see hS hs2 ht l2.n (fun r3 q3 s3 hs3 f3 sk3 e3 qn3 y3 => ?_)
        have o3 : Out m0 s3 k b d := o2.later (fun c p q => f3 c p (by first | exact fun y => absurd (y.1 ▸ z) (by decide) | exact fun y => absurd (y.1 ▸ q) (by decide) | exact z | exact q | exact z.1 | exact q.1 | exact z.2 | exact q.2 | omega)) (by have := sk3.1; omega) (by rw [f3 336 12 (by first | decide | exact fun z => absurd z.1 (by decide) | exact ⟨fun z => absurd z.1 (by decide), fun z => absurd z.1 (by decide)⟩ | omega)]; omega)
        have l3 : Sv tb tn T O0 R0 s3 (mo + 3) 6 P0 kk (false :: D) := l2.at (fun c p z => f3 c p (by first | exact fun y => absurd (y.1 ▸ z) (by decide) | exact fun y => absurd (y.1 ▸ q) (by decide) | exact z | exact q | exact z.1 | exact q.1 | exact z.2 | exact q.2 | omega)) sk3 e3 (f3 336 12 (by first | decide | exact fun z => absurd z.1 (by decide) | exact ⟨fun z => absurd z.1 (by decide), fun z => absurd z.1 (by decide)⟩ | omega)) (f3 336 9 (by first | decide | exact fun z => absurd z.1 (by decide) | exact ⟨fun z => absurd z.1 (by decide), fun z => absurd z.1 (by decide)⟩ | omega)) qn3
        have i3 : Sk tb tn (s3 336 8) (s3 336 8) := by rw [e3]; exact sk3.idem
        have g3 := hs2.f_336_8
        have c3 := u8_is ht (v := 37) (by have := sk3.1; omega) y3 (by decide) (by decide)
        have a3 : q3 < tn ∧ tb q3 = 37 → s3 336 8 < tn ∧ (tb (s3 336 8) = 42 ∨ tb (s3 336 8) = 47 ∨ tb (s3 336 8) = 37) := fun z => by rw [e3]; exact ⟨z.1, by omega⟩
        refine g_C ?_
        refine g_if (fun w => g_C ⟨by decide, hk s3 hs3 o3 l3 ?_⟩) (fun w => go s3 hs3 o3 l3 i3 (a3 (c3.1 (by omega))).1 (a3 (c3.1 (by omega))).2 (by have := sk1.1; have := sk2.1; have := sk3.1; omega))
        intro q hq
        have u3 : q3 = q := (i3.uniq hq ▸ e3.symm)
        have u2 : q2 = q3 := e2.symm.trans (i2.uniq sk3)
        have u1 : q1 = q2 := e1.symm.trans (i1.uniq sk2)
        have v1 : ¬ (q1 < tn ∧ tb q1 = 42) := fun z => by have := c1.2 z; omega
        have v2 : ¬ (q2 < tn ∧ tb q2 = 47) := fun z => by have := c2.2 z; omega
        have v3 : ¬ (q3 < tn ∧ tb q3 = 37) := fun z => by have := c3.2 z; omega
        rw [u1, u2, u3] at v1
        rw [u2, u3] at v2
        rw [u3] at v3
        omega
    have b8 := hm1.f_336_8
    exact ⟨401, L 401 m1 hm1 o1 l1 (by omega)⟩
theorem zv_sum {X : Mm} {S : Sh} {m0 : Mm} {K : Int → Mm → Prop} {k b d : Int} {tb : Int → Int} {tn mo kk : Int} {T : Int → List Int → Prop} {O0 R0 P0 W0 : List Int} {D : List Bool} (hS : Shp S) (hm0 : Inv X S m0) (ht : TR X tb tn) (hi : Ina X m0 k b d) (hmo : mo = 1 ∨ mo = 2 ∨ mo = 3) (hp0 : uW 5 P0 = []) (lr : Lw tb tn T O0 R0 m0 mo P0 W0 W0 kk D) (hf : ∀ M1 : Mm, Inv X S M1 → T (M1 336 9) [] → ¬ M1 336 9 = 0 → K 0 M1) (hk : ∀ M1 : Mm, Inv X S M1 → Out m0 M1 k b d → Sv tb tn T O0 R0 M1 (mo + 3) 5 P0 kk (false :: D) → Nar tb tn M1 → K 1 M1) : wp_X12_sum S m0 336 K := by
  have hk0 := hi.2.1
  have nb' := ht.2.1
  refine u_X12_sum ?_
  refine ⟨hS.k336, ?_⟩
  refine zv_term hS hm0 ht hi hmo (by have z := (uW_app (v := 5) (w := 6) (by decide) P0).1; rw [hp0] at z; exact (List.append_eq_nil_iff.mp z.symm).1) lr (fun m1 hm1 n1 t1 => ?_) (fun m1 hm1 o1 lv x1 => ?_)
  · exact g_ifF (by decide) (g_C ⟨by decide, hf m1 hm1 n1 t1⟩)
  · refine g_ifT (by decide) ?_
    have l1 : Sv tb tn T O0 R0 m1 (mo + 3) 5 P0 kk (false :: D) := by
      obtain ⟨P, W, lv, z⟩ := lv
      have ap := uW_app (v := 5) (w := 6) (by decide) P
      rw [z, hp0, List.append_nil, uW_nil _ hp0] at ap
      exact ⟨P, W, by rw [ap.1]; exact lv, ap.2.symm⟩
    have L : ∀ (n : Nat) (m : Mm), Inv X S m → Out m0 m k b d → Sv tb tn T O0 R0 m (mo + 3) 5 P0 kk (false :: D) → Ntm tb tn m → 401 - m 336 8 ≤ (n : Int) → wp_X12_sum_9 S K n 336 m := by
      intro n
      induction n with
      | zero =>
        intro m hm _ _ _ h
        have b8 := hm.f_336_8
        exfalso; omega
      | succ n ih =>
        intro m hm o l x h
        have go : ∀ m' : Mm, Inv X S m' → Out m0 m' k b d → Sv tb tn T O0 R0 m' (mo + 3) 5 P0 kk (false :: D) → Sk tb tn (m' 336 8) (m' 336 8) → m' 336 8 < tn → (tb (m' 336 8) = 43 ∨ tb (m' 336 8) = 45) → m 336 8 ≤ m' 336 8 → wp_X12_sum_27 S (fun a0 M => wp_X12_sum_9 S K n a0 M) K 336 m' := by
          intro m' hm' o' l' sk' h1 ha h2
          have b8 := hm'.f_336_8
          have b1 := ht.n hm'
          have op : ∀ s x : Int, 2 ≤ s → s ≤ 15 → ¬ s = 11 → x = arS (tb (m' 336 8)) → bnS x = 5 → ¬ x = -27 → s + 16 * 0 = en x → (-16 ≤ x ∧ x ≤ -12) → wp_X12_sum_46 S (fun a0 M => wp_X12_sum_9 S K n a0 M) K 336 s m' := by
            intro s x s0 s1 s2 ex1 ex2 ex3 ex4 ex5
            refine u_X12_sum_46 ?_
            refine g_get 8 (0) (400) rfl hS.k336 hm'.f_336_8 (fun v ev bv cv => ?_)
            refine g_C ?_
            refine g_A (by omega) (by omega) ?_
            refine g_put 8 rfl hS.k336 (hm'.w_336_8 (by omega) (by omega)) (fun m2 e2 hm2 => ?_)
            have x2 : m2 336 8 = v + 1 := (congrFun (congrFun e2 _) _).trans (up_at _ _ _ _)
            have f2 : ∀ c p : Int, ¬ (c = 336 ∧ p = 8) → m2 c p = m' c p := fun c p q => (congrFun (congrFun e2 _) _).trans (up_ne q)
            have i' := o'.ina hi
            obtain ⟨i2, A2⟩ := i'.fr (m1 := m2) (fun c p q => f2 c p (by first | exact fun y => absurd (y.1 ▸ z) (by decide) | exact fun y => absurd (y.1 ▸ q) (by decide) | exact z | exact q | exact z.1 | exact q.1 | exact z.2 | exact q.2 | omega)) (by omega) (by rw [f2 336 12 (by first | decide | exact fun z => absurd z.1 (by decide) | exact ⟨fun z => absurd z.1 (by decide), fun z => absurd z.1 (by decide)⟩ | omega)]; omega)
            have i2' : Ina X m2 (k + 1) b (d + 1) := by
              obtain ⟨g, j0, jq, jd0, jd, jl⟩ := i2
              obtain ⟨g', j0', jq', jd0', jd', jl'⟩ := i'
              have l2 : m2 339 (m2 336 11) = m' 339 (m' 336 11) := by rw [f2 336 11 (by first | decide | exact fun z => absurd z.1 (by decide) | exact ⟨fun z => absurd z.1 (by decide), fun z => absurd z.1 (by decide)⟩ | omega), f2 339 _ (by first | decide | exact fun z => absurd z.1 (by decide) | exact ⟨fun z => absurd z.1 (by decide), fun z => absurd z.1 (by decide)⟩ | omega)]
              exact ⟨g, by omega, jq, jd0, jd, by omega⟩
            obtain ⟨W2, lr2⟩ := l'.pile (M1 := m2) hmo sk' h1 (by unfold Ar; omega) ex1 ex2 (fun c p z => f2 c p (by first | exact fun y => absurd (y.1 ▸ z) (by decide) | exact fun y => absurd (y.1 ▸ q) (by decide) | exact z | exact q | exact z.1 | exact q.1 | exact z.2 | exact q.2 | omega)) (by omega) (f2 336 12 (by first | decide | exact fun z => absurd z.1 (by decide) | exact ⟨fun z => absurd z.1 (by decide), fun z => absurd z.1 (by decide)⟩ | omega)) (f2 336 9 (by first | decide | exact fun z => absurd z.1 (by decide) | exact ⟨fun z => absurd z.1 (by decide), fun z => absurd z.1 (by decide)⟩ | omega))
            refine ⟨hS.k336, ?_⟩
            refine zv_term hS hm2 ht i2' hmo (uW_low (Or.inr (by omega))).1 lr2 (fun m3 hm3 n3 t3 => ?_) (fun m3 hm3 o3 l3 x3 => ?_)
            · exact g_ifF (by decide) (g_C ⟨by decide, hf m3 hm3 n3 t3⟩)
            · refine g_ifT (by decide) ?_
              refine g_C ?_
              refine ⟨hS.k336, ?_⟩
              have b83 := hm3.f_336_8
              have ol := o3.2.2.1
              refine zp_puts hS hm3 ((i2'.1).adv o3.1.1) (by omega) s1 (by decide) (by decide) (by omega) (fun m4 hm4 f4 h4 s4 => ?_)
              obtain ⟨o4, n4⟩ := two_out hi o' A2 (by omega) o3 s0 s1 s2 f4 h4 s4
              have bl3 := hm3.a_339 (i := m3 336 11) (by have := ((i2'.1).adv o3.1.1).1; have := i2'.1.2; omega) (by have := ((i2'.1).adv o3.1.1).1; have := i2'.1.2; omega)
              have l4 : Sv tb tn T O0 R0 m4 (mo + 3) 5 P0 kk (false :: D) := Sv.two (s := x) (v := 6) (by omega) hp0 bl3.1 f4 h4 s4 ex4 (ty_ar ex5) (by decide) l3
              exact ih m4 hm4 o4 l4 (fun q hq => x3 q (by rw [f4 336 8 (by first | decide | exact fun z => absurd z.1 (by decide) | exact ⟨fun z => absurd z.1 (by decide), fun z => absurd z.1 (by decide)⟩ | omega)] at hq; exact hq)) (by omega)
          refine u_X12_sum_27 ?_
          refine g_getr 0 337 rfl hS.k336 hm'.f_336_0 (by decide) ?_
          refine g_get 8 (0) (400) rfl hS.k336 hm'.f_336_8 (fun v ev bv cv => ?_)
          refine g_ldu hS.k337 hS.l337 (by omega) (by omega) (fun x ex => ?_)
          rw [show v = m' 336 8 by omega, ht.b hm' (by omega) (by omega)] at ex
          refine g_C ?_
          refine g_if (fun w => ?_) (fun w => g_C (op 2 (-15) (by decide) (by decide) (by decide) (by rw [show tb (m' 336 8) = 43 by omega]; rfl) rfl (by decide) rfl (by decide)))
          exact g_C (op 3 (-16) (by decide) (by decide) (by decide) (by rw [show tb (m' 336 8) = 45 by omega]; rfl) rfl (by decide) rfl (by decide))
        refine u_X12_sum_9 ?_
        refine ⟨hS.k336, ?_⟩
        refine zx_see hS hm ht l.n (fun r1 q1 s1 hs1 f1 sk1 e1 qn1 y1 => ?_)
        have o1 : Out m0 s1 k b d := o.later (fun c p q => f1 c p (by first | exact fun y => absurd (y.1 ▸ z) (by decide) | exact fun y => absurd (y.1 ▸ q) (by decide) | exact z | exact q | exact z.1 | exact q.1 | exact z.2 | exact q.2 | omega)) (by have := sk1.1; omega) (by rw [f1 336 12 (by first | decide | exact fun z => absurd z.1 (by decide) | exact ⟨fun z => absurd z.1 (by decide), fun z => absurd z.1 (by decide)⟩ | omega)]; omega)
        have l1 : Sv tb tn T O0 R0 s1 (mo + 3) 5 P0 kk (false :: D) := l.at (fun c p z => f1 c p (by first | exact fun y => absurd (y.1 ▸ z) (by decide) | exact fun y => absurd (y.1 ▸ q) (by decide) | exact z | exact q | exact z.1 | exact q.1 | exact z.2 | exact q.2 | omega)) sk1 e1 (f1 336 12 (by first | decide | exact fun z => absurd z.1 (by decide) | exact ⟨fun z => absurd z.1 (by decide), fun z => absurd z.1 (by decide)⟩ | omega)) (f1 336 9 (by first | decide | exact fun z => absurd z.1 (by decide) | exact ⟨fun z => absurd z.1 (by decide), fun z => absurd z.1 (by decide)⟩ | omega)) qn1
        have i1 : Sk tb tn (s1 336 8) (s1 336 8) := by rw [e1]; exact sk1.idem
        have g1 := hm.f_336_8
        have c1 := u8_is ht (v := 43) (by have := sk1.1; omega) y1 (by decide) (by decide)
        have a1 : q1 < tn ∧ tb q1 = 43 → s1 336 8 < tn ∧ (tb (s1 336 8) = 43 ∨ tb (s1 336 8) = 45) := fun z => by rw [e1]; exact ⟨z.1, by omega⟩
        refine g_C ?_
        refine g_if (fun w => go s1 hs1 o1 l1 i1 (a1 (c1.1 (by omega))).1 (a1 (c1.1 (by omega))).2 (by have := sk1.1; omega)) (fun w => ?_)
        refine ⟨hS.k336, ?_⟩
        refine zx_see hS hs1 ht l1.n (fun r2 q2 s2 hs2 f2 sk2 e2 qn2 y2 => ?_)
        have o2 : Out m0 s2 k b d := o1.later (fun c p q => f2 c p (by first | exact fun y => absurd (y.1 ▸ z) (by decide) | exact fun y => absurd (y.1 ▸ q) (by decide) | exact z | exact q | exact z.1 | exact q.1 | exact z.2 | exact q.2 | omega)) (by have := sk2.1; omega) (by rw [f2 336 12 (by first | decide | exact fun z => absurd z.1 (by decide) | exact ⟨fun z => absurd z.1 (by decide), fun z => absurd z.1 (by decide)⟩ | omega)]; omega)
        have l2 : Sv tb tn T O0 R0 s2 (mo + 3) 5 P0 kk (false :: D) := l1.at (fun c p z => f2 c p (by first | exact fun y => absurd (y.1 ▸ z) (by decide) | exact fun y => absurd (y.1 ▸ q) (by decide) | exact z | exact q | exact z.1 | exact q.1 | exact z.2 | exact q.2 | omega)) sk2 e2 (f2 336 12 (by first | decide | exact fun z => absurd z.1 (by decide) | exact ⟨fun z => absurd z.1 (by decide), fun z => absurd z.1 (by decide)⟩ | omega)) (f2 336 9 (by first | decide | exact fun z => absurd z.1 (by decide) | exact ⟨fun z => absurd z.1 (by decide), fun z => absurd z.1 (by decide)⟩ | omega)) qn2
        have i2 : Sk tb tn (s2 336 8) (s2 336 8) := by rw [e2]; exact sk2.idem
        have g2 := hs1.f_336_8
        have c2 := u8_is ht (v := 45) (by have := sk2.1; omega) y2 (by decide) (by decide)
        have a2 : q2 < tn ∧ tb q2 = 45 → s2 336 8 < tn ∧ (tb (s2 336 8) = 43 ∨ tb (s2 336 8) = 45) := fun z => by rw [e2]; exact ⟨z.1, by omega⟩
        refine g_C ?_
        refine g_if (fun w => g_C ⟨by decide, hk s2 hs2 o2 l2 ?_⟩) (fun w => go s2 hs2 o2 l2 i2 (a2 (c2.1 (by omega))).1 (a2 (c2.1 (by omega))).2 (by have := sk1.1; have := sk2.1; omega))
        intro q hq
        have u2 : q2 = q := (i2.uniq hq ▸ e2.symm)
        have u1 : q1 = q2 := e1.symm.trans (i1.uniq sk2)
        have xx := x q1 sk1
        have v1 : ¬ (q1 < tn ∧ tb q1 = 43) := fun z => by have := c1.2 z; omega
        have v2 : ¬ (q2 < tn ∧ tb q2 = 45) := fun z => by have := c2.2 z; omega
        rw [u1, u2] at v1 xx
        rw [u2] at v2
        unfold Ar
        omega
    have b8 := hm1.f_336_8
    exact ⟨401, L 401 m1 hm1 o1 l1 x1 (by omega)⟩
theorem zv_compare {X : Mm} {S : Sh} {m0 : Mm} {K : Int → Mm → Prop} {k b d : Int} {tb : Int → Int} {tn kk : Int} {T : Int → List Int → Prop} {O0 R0 P0 W0 : List Int} {D : List Bool} (hS : Shp S) (hm0 : Inv X S m0) (ht : TR X tb tn) (hi : Ina X m0 k b d) (hp0 : uW 4 P0 = []) (lr : Lw tb tn T O0 R0 m0 2 P0 W0 W0 kk D) (hf : ∀ M1 : Mm, Inv X S M1 → T (M1 336 9) [] → ¬ M1 336 9 = 0 → K 0 M1) (hk : ∀ M1 : Mm, Inv X S M1 → Out m0 M1 k b d → Sv tb tn T O0 R0 M1 6 4 P0 kk (true :: D) → Nar tb tn M1 → K 1 M1) : wp_X12_compare S m0 336 K := by
  have hk0 := hi.2.1
  have nb' := ht.2.1
  refine u_X12_compare ?_
  refine ⟨hS.k336, ?_⟩
  have hp5 : uW 5 P0 = [] := by
    have z := (uW_app (v := 4) (w := 5) (by decide) P0).1
    rw [hp0] at z
    exact (List.append_eq_nil_iff.mp z.symm).1
  refine zv_sum hS hm0 ht hi (Or.inr (Or.inl rfl)) hp5 lr (fun m1 hm1 n1 t1 => ?_) (fun m1 hm1 o1 l1' x1 => ?_)
  · exact g_ifF (by decide) (g_C ⟨by decide, hf m1 hm1 n1 t1⟩)
  · refine g_ifT (by decide) ?_
    have l1 : Sv tb tn T O0 R0 m1 5 5 P0 kk (false :: D) := l1'
    have b81 := hm1.f_336_8
    refine ⟨hS.k336, ?_⟩
    refine zx_see hS hm1 ht l1.n (fun r2 q m2 hm2 f2 sk e2 qn y2 => ?_)
    have q0 : 0 ≤ q := by have := sk.1; omega
    have o2 : Out m0 m2 k b d := o1.later (fun c p q => f2 c p (by first | exact fun y => absurd (y.1 ▸ z) (by decide) | exact fun y => absurd (y.1 ▸ q) (by decide) | exact z | exact q | exact z.1 | exact q.1 | exact z.2 | exact q.2 | omega)) (by have := sk.1; omega) (by rw [f2 336 12 (by first | decide | exact fun z => absurd z.1 (by decide) | exact ⟨fun z => absurd z.1 (by decide), fun z => absurd z.1 (by decide)⟩ | omega)]; omega)
    have l2 : Sv tb tn T O0 R0 m2 5 5 P0 kk (false :: D) := l1.at (fun c p z => f2 c p (by first | exact fun y => absurd (y.1 ▸ z) (by decide) | exact fun y => absurd (y.1 ▸ q) (by decide) | exact z | exact q | exact z.1 | exact q.1 | exact z.2 | exact q.2 | omega)) sk e2 (f2 336 12 (by first | decide | exact fun z => absurd z.1 (by decide) | exact ⟨fun z => absurd z.1 (by decide), fun z => absurd z.1 (by decide)⟩ | omega)) (f2 336 9 (by first | decide | exact fun z => absurd z.1 (by decide) | exact ⟨fun z => absurd z.1 (by decide), fun z => absurd z.1 (by decide)⟩ | omega)) qn
    have s2 : Sk tb tn (m2 336 8) q := by rw [e2]; exact sk.idem
    have na : ¬ (q < tn ∧ Ar (tb q)) := x1 q sk
    have i2 := o2.ina hi
    have c60 := u8_is ht (v := 60) q0 y2 (by decide) (by decide)
    have c61 := u8_is ht (v := 61) q0 y2 (by decide) (by decide)
    have c62 := u8_is ht (v := 62) q0 y2 (by decide) (by decide)
    have b8 := hm2.f_336_8
    refine g_get 8 (0) (400) rfl hS.k336 hm2.f_336_8 (fun v ev bv cv => ?_)
    rw [show v = q by omega]
    obtain ⟨P2, W2, lw2, z2⟩ := l2
    have ap2 := uW_app (v := 4) (w := 5) (by decide) P2
    rw [z2, hp0, List.append_nil, uW_nil _ hp0] at ap2
    have last : ∀ (m : Mm) (s x : Int), Inv X S m → AdvS m2 m → m2 336 8 + 1 ≤ m 336 8 → Ina X m (k + 1) b (d + 1) → Lw tb tn T O0 R0 m 3 (x :: P0) (W2 ++ uW 5 P2) (W2 ++ uW 5 P2) kk (false :: D) → 0 ≤ s → s ≤ 4 → (-21 ≤ x ∧ x ≤ -17) → 6 + s + 16 * 0 = en x → bnS x = 4 → wp_X12_compare_152 S K 336 s m := by
      intro m s x hm A h8 i l s0 s1 ex1 ex2 ex3
      refine u_X12_compare_152 ?_
      refine ⟨hS.k336, ?_⟩
      refine zv_sum hS hm ht i (Or.inr (Or.inr rfl)) (uW_low (Or.inr (by omega))).1 l (fun m3 hm3 n3 t3 => ?_) (fun m3 hm3 o3 l3 x3 => ?_)
      · exact g_ifF (by decide) (g_C ⟨by decide, hf m3 hm3 n3 t3⟩)
      · refine g_ifT (by decide) ?_
        refine g_C ?_
        refine g_A (by omega) (by omega) ?_
        refine g_C ?_
        refine ⟨hS.k336, ?_⟩
        have b83 := hm3.f_336_8
        have ol := o3.2.2.1
        refine zp_puts hS hm3 ((i.1).adv o3.1.1) (by omega) (by omega) (by decide) (by decide) (by omega) (fun m4 hm4 f4 h4 s4 => ?_)
        obtain ⟨o4, n4⟩ := two_out hi o2 A h8 o3 (by omega) (by omega) (by omega) f4 h4 s4
        have bl3 := hm3.a_339 (i := m3 336 11) (by have := ((i.1).adv o3.1.1).1; have := i.1.2; omega) (by have := ((i.1).adv o3.1.1).1; have := i.1.2; omega)
        have l4 : Sv tb tn T O0 R0 m4 (3 + 3) 4 P0 kk (true :: D) := Sv.two (s := x) (v := 5) (by omega) hp0 bl3.1 f4 h4 s4 ex2 (ty_cm ex1) (by decide) l3
        exact g_C ⟨by decide, hk m4 hm4 o4 l4 (fun q hq => x3 q (by rw [f4 336 8 (by first | decide | exact fun z => absurd z.1 (by decide) | exact ⟨fun z => absurd z.1 (by decide), fun z => absurd z.1 (by decide)⟩ | omega)] at hq; exact hq))⟩
    have mid : ∀ (m : Mm) (f : Int) (e : Bool), Inv X S m → AdvS m2 m → m2 336 8 + 1 ≤ m 336 8 → Ina X m (k + 1) b (d + 1) → q < tn → Cm (tb q) → m 336 12 = m2 336 12 → m 336 9 = m2 336 9 → m 336 8 ≤ tn → RQ m (R0 ++ (W2 ++ uW 5 P2)) → ((f = 1 ∧ e = true ∧ (¬ tb q = 61 ∧ q + 1 < tn ∧ tb (q + 1) = 61) ∧ m 336 8 = q + 2) ∨ (f = 0 ∧ e = false ∧ ¬ (¬ tb q = 61 ∧ q + 1 < tn ∧ tb (q + 1) = 61) ∧ m 336 8 = q + 1)) → wp_X12_compare_105 S K 336 r2 q f m := by
      intro m f e hm A h8 i hq hcm e12 e9 hn hrq hst
      refine u_X12_compare_105 ?_
      refine ⟨hS.k336, ?_⟩
      refine zx_makes hS hm (e9.trans lw2.2.1) q0 (by omega) (fun m3 hm3 f3 k3 n60 n59 => ?_) (fun m3 hm3 c6 e93 => ?_)
      · refine g_ifT (by decide) ?_
        obtain ⟨i3, A3⟩ := i.fr (m1 := m3) (fun c p q => f3 c p (by first | exact fun y => absurd (y.1 ▸ z) (by decide) | exact fun y => absurd (y.1 ▸ q) (by decide) | exact z | exact q | exact z.1 | exact q.1 | exact z.2 | exact q.2 | omega)) (by rw [f3 336 8 (by first | decide | exact fun z => absurd z.1 (by decide) | exact ⟨fun z => absurd z.1 (by decide), fun z => absurd z.1 (by decide)⟩ | omega)]; omega) (by omega)
        have h83 : m2 336 8 + 1 ≤ m3 336 8 := by rw [f3 336 8 (by first | decide | exact fun z => absurd z.1 (by decide) | exact ⟨fun z => absurd z.1 (by decide), fun z => absurd z.1 (by decide)⟩ | omega)]; omega
        have go : ∀ s x : Int, x = cmS (tb q) e → 0 ≤ s → s ≤ 4 → (-21 ≤ x ∧ x ≤ -17) → 6 + s + 16 * 0 = en x → bnS x = 4 → wp_X12_compare_152 S K 336 s m3 := by
          intro s x hx s0 s1 x1 x2' x3'
          refine last m3 s x hm3 (A.trans A3) h83 i3 ?_ s0 s1 x1 x2' x3'
          refine lw2.to s2 (p := m 336 8) (c := m2 336 12 + 1) (f3 336 8 (by first | decide | exact fun z => absurd z.1 (by decide) | exact ⟨fun z => absurd z.1 (by decide), fun z => absurd z.1 (by decide)⟩ | omega)) (by omega) (by rw [f3 336 9 (by first | decide | exact fun z => absurd z.1 (by decide) | exact ⟨fun z => absurd z.1 (by decide), fun z => absurd z.1 (by decide)⟩ | omega)]; exact e9) hn (fun f' E hA => tb_A1 (g_ifF na (g_ifT ⟨hq, hcm⟩ (g_ifF (by first | decide | omega) ?_)))) (hrq.same (fun c p z => f3 c p (by first | exact fun y => absurd (y.1 ▸ z) (by decide) | exact fun y => absurd (y.1 ▸ q) (by decide) | exact z | exact q | exact z.1 | exact q.1 | exact z.2 | exact q.2 | omega))) lw2.2.2.2.2
          have hA2 : Bcc tb tn 3 (m 336 8) (m2 336 12 + 1) (x :: uR (bnS x) P2) (O0 ++ W2 ++ uW (bnS x) P2) kk f' E := by
            rw [x3', ap2.1, ← ap2.2, List.append_assoc]
            exact hA
          subst hx
          rcases hst with ⟨_, e1, e2, e3⟩ | ⟨_, e1, e2, e3⟩
          · rw [e3, e1] at hA2
            exact g_ifT e2 hA2
          · rw [e3, e1] at hA2
            exact g_ifF e2 hA2
        have cc : tb q = 60 ∨ tb q = 61 ∨ tb q = 62 := hcm
        refine g_C ?_
        refine g_if (fun w2 => ?_) (fun w2 => ?_)
        · refine g_C ?_
          refine g_if (fun w3 => ?_) (fun w3 => ?_)
          · exact g_if (fun w4 => g_C (go 4 (-21) (by rw [show tb q = 62 by omega, show e = false by rcases hst with z | z; exfalso; omega; exact z.2.1]; rfl) (by decide) (by decide) (by decide) rfl rfl)) (fun w4 => g_C (go 3 (-20) (by rw [show tb q = 62 by omega, show e = true by rcases hst with z | z; exact z.2.1; exfalso; omega]; rfl) (by decide) (by decide) (by decide) rfl rfl))
          · exact g_C (go 2 (-19) (by rw [show tb q = 61 by omega]; rfl) (by decide) (by decide) (by decide) rfl rfl)
        · exact g_if (fun w4 => g_C (go 0 (-17) (by rw [show tb q = 60 by omega, show e = false by rcases hst with z | z; exfalso; omega; exact z.2.1]; rfl) (by decide) (by decide) (by decide) rfl rfl)) (fun w4 => g_C (go 1 (-18) (by rw [show tb q = 60 by omega, show e = true by rcases hst with z | z; exact z.2.1; exfalso; omega]; rfl) (by decide) (by decide) (by decide) rfl rfl))
      · refine g_ifF (by decide) (g_C ⟨by decide, hf m3 hm3 ?_ (by omega)⟩)
        rw [e93]
        exact lw2.fault s2 (tb_A1 (g_ifF na (g_ifT ⟨hq, hcm⟩ (g_ifT (by first | decide | omega) ⟨rfl, rfl⟩))))
    have go : q < tn → Cm (tb q) → wp_X12_compare_44 S K 336 r2 q m2 := by
      intro hlt hcm
      refine u_X12_compare_44 ?_
      refine g_get 8 (0) (400) rfl hS.k336 hm2.f_336_8 (fun v2 ev2 bv2 cv2 => ?_)
      refine g_C ?_
      refine g_A (by omega) (by omega) ?_
      refine g_put 8 rfl hS.k336 (hm2.w_336_8 (by omega) (by omega)) (fun m3 e3 hm3 => ?_)
      have x3 : m3 336 8 = v2 + 1 := (congrFun (congrFun e3 _) _).trans (up_at _ _ _ _)
      have f3 : ∀ c p : Int, ¬ (c = 336 ∧ p = 8) → m3 c p = m2 c p := fun c p q => (congrFun (congrFun e3 _) _).trans (up_ne q)
      have x3q : m3 336 8 = q + 1 := by omega
      have n3 := ht.n hm3
      obtain ⟨i3, A3⟩ := i2.fr (m1 := m3) (fun c p q => f3 c p (by first | exact fun y => absurd (y.1 ▸ z) (by decide) | exact fun y => absurd (y.1 ▸ q) (by decide) | exact z | exact q | exact z.1 | exact q.1 | exact z.2 | exact q.2 | omega)) (by omega) (by rw [f3 336 12 (by first | decide | exact fun z => absurd z.1 (by decide) | exact ⟨fun z => absurd z.1 (by decide), fun z => absurd z.1 (by decide)⟩ | omega)]; omega)
      have i3' : Ina X m3 (k + 1) b (d + 1) := by
        obtain ⟨g, j0, jq, jd0, jd, jl⟩ := i3
        obtain ⟨g', j0', jq', jd0', jd', jl'⟩ := i2
        have l2 : m3 339 (m3 336 11) = m2 339 (m2 336 11) := by rw [f3 336 11 (by first | decide | exact fun z => absurd z.1 (by decide) | exact ⟨fun z => absurd z.1 (by decide), fun z => absurd z.1 (by decide)⟩ | omega), f3 339 _ (by first | decide | exact fun z => absurd z.1 (by decide) | exact ⟨fun z => absurd z.1 (by decide), fun z => absurd z.1 (by decide)⟩ | omega)]
        exact ⟨g, by omega, jq, jd0, jd, by omega⟩
      have no : ¬ (¬ tb q = 61 ∧ q + 1 < tn ∧ tb (q + 1) = 61) → wp_X12_compare_89 S K 336 r2 q m3 := by
        intro hno
        refine u_X12_compare_89 ?_
        refine g_C ?_
        refine u_X12_compare_90 ?_
        refine g_ifT rfl ?_
        exact mid m3 0 false hm3 A3 (by omega) i3' hlt hcm (f3 336 12 (by first | decide | exact fun z => absurd z.1 (by decide) | exact ⟨fun z => absurd z.1 (by decide), fun z => absurd z.1 (by decide)⟩ | omega)) (f3 336 9 (by first | decide | exact fun z => absurd z.1 (by decide) | exact ⟨fun z => absurd z.1 (by decide), fun z => absurd z.1 (by decide)⟩ | omega)) (by omega) (lw2.2.2.2.1.same (fun c p z => f3 c p (by first | exact fun y => absurd (y.1 ▸ z) (by decide) | exact fun y => absurd (y.1 ▸ q) (by decide) | exact z | exact q | exact z.1 | exact q.1 | exact z.2 | exact q.2 | omega))) (Or.inr ⟨rfl, rfl, hno, x3q⟩)
      refine g_C ?_
      refine g_if (fun w => no (fun z => z.1 (c61.1 (by omega)).2)) (fun w => ?_)
      refine g_get 8 (0) (400) rfl hS.k336 hm3.f_336_8 (fun v4 ev4 bv4 cv4 => ?_)
      refine g_get 1 (0) (400) rfl hS.k336 hm3.f_336_1 (fun v5 ev5 bv5 cv5 => ?_)
      refine g_if (fun w => no (fun z => by have := z.2.1; omega)) (fun w => ?_)
      refine g_getr 0 337 rfl hS.k336 hm3.f_336_0 (by decide) ?_
      refine g_get 8 (0) (400) rfl hS.k336 hm3.f_336_8 (fun v6 ev6 bv6 cv6 => ?_)
      refine g_ldu hS.k337 hS.l337 (by omega) (by omega) (fun x ex => ?_)
      rw [show v6 = q + 1 by omega, ht.b hm3 (by omega) (by omega)] at ex
      refine g_C ?_
      refine g_if (fun w => no (fun z => by have := z.2.2; omega)) (fun w => ?_)
      refine g_C ?_
      refine u_X12_compare_90 ?_
      refine g_ifF (by decide) ?_
      refine g_get 8 (0) (400) rfl hS.k336 hm3.f_336_8 (fun v7 ev7 bv7 cv7 => ?_)
      refine g_C ?_
      refine g_A (by omega) (by omega) ?_
      refine g_put 8 rfl hS.k336 (hm3.w_336_8 (by omega) (by omega)) (fun m4 e4 hm4 => ?_)
      have x4 : m4 336 8 = v7 + 1 := (congrFun (congrFun e4 _) _).trans (up_at _ _ _ _)
      have f4 : ∀ c p : Int, ¬ (c = 336 ∧ p = 8) → m4 c p = m3 c p := fun c p q => (congrFun (congrFun e4 _) _).trans (up_ne q)
      have x4q : m4 336 8 = q + 2 := by omega
      have n61 : ¬ tb q = 61 := fun z => by have := c61.2 ⟨hlt, z⟩; omega
      obtain ⟨i4, A4⟩ := i3'.fr (m1 := m4) (fun c p q => f4 c p (by first | exact fun y => absurd (y.1 ▸ z) (by decide) | exact fun y => absurd (y.1 ▸ q) (by decide) | exact z | exact q | exact z.1 | exact q.1 | exact z.2 | exact q.2 | omega)) (by omega) (by rw [f4 336 12 (by first | decide | exact fun z => absurd z.1 (by decide) | exact ⟨fun z => absurd z.1 (by decide), fun z => absurd z.1 (by decide)⟩ | omega)]; omega)
      exact mid m4 1 true hm4 (A3.trans A4) (by omega) i4 hlt hcm (by rw [f4 336 12 (by first | decide | exact fun z => absurd z.1 (by decide) | exact ⟨fun z => absurd z.1 (by decide), fun z => absurd z.1 (by decide)⟩ | omega), f3 336 12 (by first | decide | exact fun z => absurd z.1 (by decide) | exact ⟨fun z => absurd z.1 (by decide), fun z => absurd z.1 (by decide)⟩ | omega)]) (by rw [f4 336 9 (by first | decide | exact fun z => absurd z.1 (by decide) | exact ⟨fun z => absurd z.1 (by decide), fun z => absurd z.1 (by decide)⟩ | omega), f3 336 9 (by first | decide | exact fun z => absurd z.1 (by decide) | exact ⟨fun z => absurd z.1 (by decide), fun z => absurd z.1 (by decide)⟩ | omega)]) (by omega) (lw2.2.2.2.1.same (fun c p z => (f4 c p (by first | exact fun y => absurd (y.1 ▸ z) (by decide) | exact fun y => absurd (y.1 ▸ q) (by decide) | exact z | exact q | exact z.1 | exact q.1 | exact z.2 | exact q.2 | omega)).trans (f3 c p (by first | exact fun y => absurd (y.1 ▸ z) (by decide) | exact fun y => absurd (y.1 ▸ q) (by decide) | exact z | exact q | exact z.1 | exact q.1 | exact z.2 | exact q.2 | omega)))) (Or.inl ⟨rfl, rfl, ⟨n61, by omega, by omega⟩, x4q⟩)
    have gc : ∀ w : Int, (w = 60 ∨ w = 61 ∨ w = 62) → (q < tn ∧ tb q = w) → wp_X12_compare_44 S K 336 r2 q m2 := fun w hw z => go z.1 (by unfold Cm; omega)
    refine g_C ?_
    refine g_if (fun w => gc 60 (by decide) (c60.1 (by omega))) (fun w => ?_)
    refine g_C ?_
    refine g_if (fun w => gc 61 (by decide) (c61.1 (by omega))) (fun w => ?_)
    refine g_C ?_
    refine g_if (fun w => gc 62 (by decide) (c62.1 (by omega))) (fun w => ?_)
    refine g_C ?_
    refine ⟨hS.k336, ?_⟩
    refine zx_fails hS hm2 lw2.2.1 (by decide) (by decide) q0 (by omega) (fun m3 hm3 f3 e9 => ?_)
    refine ⟨by decide, hf m3 hm3 ?_ (by omega)⟩
    rw [e9, show 1 + 8 * q + 0 = 1 + 8 * q by omega]
    refine lw2.fault s2 (tb_A1 (g_ifF na (g_ifF (fun z => ?_) ⟨rfl, rfl⟩)))
    have z2 := z.2
    unfold Cm at z2
    rcases z2 with z2 | z2 | z2
    · have := c60.2 ⟨z.1, z2⟩; omega
    · have := c61.2 ⟨z.1, z2⟩; omega
    · have := c62.2 ⟨z.1, z2⟩; omega
end
