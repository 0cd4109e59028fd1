theorem bnS_nn (x : Int) : ¬ bnS x < 0 := by
  unfold bnS
  repeat' split
  all_goals decide
theorem uR_open : ∀ P : List Int, ¬ nOp P = 0 → ∃ t : List Int, uR 0 P = -27 :: t := by
  intro P
  induction P with
  | nil => intro h; exact absurd rfl h
  | cons x P ih =>
    intro h
    by_cases e : x = -27
    · refine ⟨P, ?_⟩
      rw [e]
      exact (uW_27 0 P).2
    · have nn := bnS_nn x
      have h2 : ¬ nOp P = 0 := by
        intro z
        apply h
        show (if x = -27 then 1 else 0) + nOp P = 0
        rw [if_neg e, z]
      obtain ⟨t, ht⟩ := ih h2
      refine ⟨t, ?_⟩
      show (if x = -27 ∨ bnS x < 0 then x :: P else uR 0 P) = _
      rw [if_neg (by omega)]
      exact ht
theorem uR_none : ∀ P : List Int, nOp P = 0 → uR 0 P = [] := by
  intro P
  induction P with
  | nil => intro _; rfl
  | cons x P ih =>
    intro h
    have h' : (if x = -27 then 1 else 0) + nOp P = 0 := h
    by_cases e : x = -27
    · rw [if_pos e] at h'; omega
    · rw [if_neg e] at h'
      have nn := bnS_nn x
      show (if x = -27 ∨ bnS x < 0 then x :: P else uR 0 P) = _
      rw [if_neg (by omega)]
      exact ih (by omega)
theorem zf_closeBrackets {X : Mm} {S : Sh} {m0 : Mm} {K : Mm → Prop} {b : Int → Int} {n m k : Int} {T : Int → List Int → Prop} {P O : List Int} (hS : Shp S) (hm0 : Inv X S m0) (ht : TC X b n) (hmm : m = 4 ∨ m = 5 ∨ m = 6 ∨ m = 7) (h4 : m = 4 → nDp P = 0) (lk : Lq b n T m0 m P O k) (h8 : m0 52 8 = m - 4) (hk : ∀ (M1 : Mm) (m' : Int) (P' O' : List Int), Inv X S M1 → (m' = 4 ∨ m' = 5 ∨ m' = 6 ∨ m' = 7) → (m' = 4 → nDp P' = 0) → Lq b n T M1 m' P' O' k → M1 52 8 = m' - 4 → M1 52 3 = m0 52 3 → m0 1 2 ≤ M1 1 2 → ((m' = 6 ∨ m' = 7) → ∀ q : Int, Sk b n (M1 1 2) q → ¬ (q < n ∧ b q = 93 ∧ ¬ nOp P' = 0)) → K M1) : wp_X3_closeBrackets S m0 52 K := by
  have nb := ht.2.1
  refine u_X3_closeBrackets ?_
  have L : ∀ (j : Nat) (M : Mm) (m' : Int) (s W : List Int), Inv X S M → (m' = 4 ∨ m' = 5 ∨ m' = 6 ∨ m' = 7) → (m' = 4 → nDp s = 0) → Lq b n T M m' s W k → M 52 8 = m' - 4 → M 52 3 = m0 52 3 → m0 1 2 ≤ M 1 2 → 401 - M 1 2 ≤ (j : Int) → wp_X3_closeBrackets_0 S K j 52 M := by
    intro j
    induction j with
    | zero =>
      intro M m' s W hm _ _ lk _ _ _ h
      have := lk.2.2.1
      exfalso; omega
    | succ j ih =>
      intro M m' s W hm hm' h4' lk' w8 w3 w2 h
      obtain ⟨k1, k2, k3, k4, k5, k6, k7, k8⟩ := id lk'
      have b2 := hm.f_1_2
      have b5M := hm.f_52_5
      have b2M := hm.f_52_2
      refine u_X3_closeBrackets_0 ?_
      refine g_getu 7 rfl hS.k52 (fun o eo => ?_)
      rw [k8] at eo
      refine g_if (fun w => ?_) (fun w => ?_)
      · refine hk M m' s W hm hm' h4' lk' w8 w3 w2 (fun _ q _ z => z.2.2 (by omega))
      · have hmem : ¬ nOp s = 0 := by omega
        refine ⟨hS.k52, ?_⟩
        refine zl_whole hS (fun wh => ?_) (fun wh => g_ifT rfl (hk M m' s W hm hm' h4' lk' w8 w3 w2 (fun z => by omega)))
        have m67 : m' = 6 ∨ m' = 7 := by omega
        refine g_ifF (by decide) ?_
        refine g_getr 0 1 rfl hS.k52 hm.f_52_0 (by decide) ?_
        refine g_C ?_
        refine ⟨hS.k1, ?_⟩
        refine ze_takesSign hS hm ht k3 (by decide) (by decide) (fun q m1 hm1 f1 sk x1 x2 l1 bq => ?_) (fun q m1 hm1 f1 sk x1 x2 l1 nq => ?_)
        · refine g_ifF (by decide) ?_
          refine g_C ?_
          refine ⟨hS.k52, ?_⟩
          have cp1 : CQ m1 s W := k7.same (fun c p z => f1 c p (by first | exact fun y => absurd (y.1 ▸ z) (by decide) | exact fun y => absurd (y.1 ▸ q) (by decide) | exact z | exact q | exact z.1 | exact q.1 | exact z.2 | exact q.2 | omega))
          have g52 : m1 52 2 = M 52 2 := f1 52 2 (by first | decide | exact fun z => absurd z.1 (by decide) | exact ⟨fun z => absurd z.1 (by decide), fun z => absurd z.1 (by decide)⟩ | omega)
          have g55 : m1 52 5 = M 52 5 := f1 52 5 (by first | decide | exact fun z => absurd z.1 (by decide) | exact ⟨fun z => absurd z.1 (by decide), fun z => absurd z.1 (by decide)⟩ | omega)
          have s1 := sk.1
          refine zf_unpile hS hm1 cp1 (by omega) k6 (fun m2 hm2 f2 c2 ph => ?_)
          obtain ⟨t, et⟩ := uR_open s hmem
          have nd2 := nDp_uR 0 s
          have no2 := nOp_uR 0 s
          rw [et] at c2 nd2 no2
          have nd3 : nDp (-27 :: t) = 1 + nDp t := rfl
          have no3 : nOp (-27 :: t) = 1 + nOp t := rfl
          obtain ⟨p1, p2, p3, p4⟩ := id c2
          have b5 := hm2.f_52_5
          have pos : 1 ≤ m2 52 5 := by
            by_cases e : m2 52 5 = 0
            · rw [e] at p1
              cases p1
            · omega
          have en : (m2 52 5).toNat = (m2 52 5 - 1).toNat + 1 := by omega
          have ct : (((m2 52 5 - 1).toNat : Nat) : Int) = m2 52 5 - 1 := by omega
          rw [en] at p1
          have p1' : m2 54 (((m2 52 5 - 1).toNat : Nat) : Int) :: pl (m2 54) (m2 52 5 - 1).toNat = -27 :: t := p1
          rw [ct] at p1'
          injection p1' with top stt
          refine ⟨hS.k52, ?_⟩
          refine ze_dropTop hS hm2 pos (by omega) (by omega) (fun m3 hm3 f3 y5 y6 => ?_)
          have y6' : m3 52 6 = m2 52 6 - 1 := by
            rcases y6 with z | z
            · exact z.2
            · exact absurd (Or.inl top) z.1
          refine g_getu 7 rfl hS.k52 (fun o2 eo2 => ?_)
          rw [f3 52 7 (by first | decide | exact fun z => absurd z.1 (by decide) | exact ⟨fun z => absurd z.1 (by decide), fun z => absurd z.1 (by decide)⟩ | omega), f2 52 7 (by first | decide | exact fun z => absurd z.1 (by decide) | exact ⟨fun z => absurd z.1 (by decide), fun z => absurd z.1 (by decide)⟩ | omega), f1 52 7 (by first | decide | exact fun z => absurd z.1 (by decide) | exact ⟨fun z => absurd z.1 (by decide), fun z => absurd z.1 (by decide)⟩ | omega), k8] at eo2
          have lc := nOp_le s
          refine g_C ?_
          refine g_S (by omega) (by omega) ?_
          refine g_put 7 rfl hS.k52 (hm3.w_52_7 (by omega) (by omega)) (fun m4 e4 hm4 => ?_)
          have f4 : ∀ c p : Int, ¬ (c = 52 ∧ p = 7) → m4 c p = m3 c p := fun c p q => (congrFun (congrFun e4 _) _).trans (up_ne q)
          have y4 : m4 52 7 = o2 - 1 := (congrFun (congrFun e4 _) _).trans (up_at _ _ _ _)
          refine g_C ?_
          refine g_put 8 rfl hS.k52 (hm4.w_52_8 (by decide) (by decide)) (fun m5 e5 hm5 => ?_)
          have f5 : ∀ c p : Int, ¬ (c = 52 ∧ p = 8) → m5 c p = m4 c p := fun c p q => (congrFun (congrFun e5 _) _).trans (up_ne q)
          have y8 : m5 52 8 = 3 := (congrFun (congrFun e5 _) _).trans (up_at _ _ _ _)
          have G : ∀ c p : Int, ¬ (c = 52 ∧ (p = 7 ∨ p = 8)) → m5 c p = m3 c p := fun c p z => (f5 c p (by first | exact fun y => absurd (y.1 ▸ z) (by decide) | exact fun y => absurd (y.1 ▸ q) (by decide) | exact z | exact q | exact z.1 | exact q.1 | exact z.2 | exact q.2 | omega)).trans (f4 c p (by first | exact fun y => absurd (y.1 ▸ z) (by decide) | exact fun y => absurd (y.1 ▸ q) (by decide) | exact z | exact q | exact z.1 | exact q.1 | exact z.2 | exact q.2 | omega))
          have e12 : m5 1 2 = q + 1 := by rw [G 1 2 (by omega), f3 1 2 (by first | decide | exact fun z => absurd z.1 (by decide) | exact ⟨fun z => absurd z.1 (by decide), fun z => absurd z.1 (by decide)⟩ | omega), f2 1 2 (by first | decide | exact fun z => absurd z.1 (by decide) | exact ⟨fun z => absurd z.1 (by decide), fun z => absurd z.1 (by decide)⟩ | omega)]; exact x1
          have e3 : m5 52 3 = M 52 3 := by rw [G 52 3 (by omega), f3 52 3 (by first | decide | exact fun z => absurd z.1 (by decide) | exact ⟨fun z => absurd z.1 (by decide), fun z => absurd z.1 (by decide)⟩ | omega), f2 52 3 (by first | decide | exact fun z => absurd z.1 (by decide) | exact ⟨fun z => absurd z.1 (by decide), fun z => absurd z.1 (by decide)⟩ | omega), f1 52 3 (by first | decide | exact fun z => absurd z.1 (by decide) | exact ⟨fun z => absurd z.1 (by decide), fun z => absurd z.1 (by decide)⟩ | omega)]
          have e14 : m5 1 4 = 0 := by rw [G 1 4 (by omega), f3 1 4 (by first | decide | exact fun z => absurd z.1 (by decide) | exact ⟨fun z => absurd z.1 (by decide), fun z => absurd z.1 (by decide)⟩ | omega), f2 1 4 (by first | decide | exact fun z => absurd z.1 (by decide) | exact ⟨fun z => absurd z.1 (by decide), fun z => absurd z.1 (by decide)⟩ | omega), f1 1 4 (by first | decide | exact fun z => absurd z.1 (by decide) | exact ⟨fun z => absurd z.1 (by decide), fun z => absurd z.1 (by decide)⟩ | omega)]; exact k2
          have e52 : m5 52 2 = m2 52 2 := by rw [G 52 2 (by omega), f3 52 2 (by first | decide | exact fun z => absurd z.1 (by decide) | exact ⟨fun z => absurd z.1 (by decide), fun z => absurd z.1 (by decide)⟩ | omega)]
          have e55 : m5 52 5 = m2 52 5 - 1 := by rw [G 52 5 (by omega)]; exact y5
          have e56 : m5 52 6 = m2 52 6 - 1 := by rw [G 52 6 (by omega)]; exact y6'
          have e57 : m5 52 7 = (nOp s : Int) - 1 := by rw [f5 52 7 (by first | decide | exact fun z => absurd z.1 (by decide) | exact ⟨fun z => absurd z.1 (by decide), fun z => absurd z.1 (by decide)⟩ | omega)]; omega
          have e54 : m5 54 = m2 54 := funext (fun p => by rw [G 54 p (by omega), f3 54 p (by first | decide | exact fun z => absurd z.1 (by decide) | exact ⟨fun z => absurd z.1 (by decide), fun z => absurd z.1 (by decide)⟩ | omega)])
          have e53 : m5 53 = m2 53 := funext (fun p => by rw [G 53 p (by omega), f3 53 p (by first | decide | exact fun z => absurd z.1 (by decide) | exact ⟨fun z => absurd z.1 (by decide), fun z => absurd z.1 (by decide)⟩ | omega)])
          have cq5 : CQ m5 t (W ++ uW 0 s) := ⟨by rw [e55, e54]; exact stt, by rw [e52, e53]; exact p2, by omega, fun x hx => p4 x (List.mem_cons_of_mem _ hx)⟩
          refine ih m5 7 t (W ++ uW 0 s) hm5 (by omega) (by omega) ⟨fun f E hA => k1 f E (b_step sk ?_), e14, by omega, by omega, by omega, by omega, cq5, by omega⟩ (by omega) (by omega) (by omega) (by omega)
          rw [e12, e3] at hA
          have hA2 : Bcc b n 7 (q + 1) (M 52 3) (uR 0 s).tail (W ++ uW 0 s) k f E := by
            rw [et]
            exact hA
          rcases m67 with e | e
          · rw [e]; exact tb_A2 (g_ifT ⟨l1, bq, hmem⟩ hA2)
          · rw [e]; exact tb_A3 (g_ifT ⟨l1, bq, hmem⟩ hA2)
        · refine g_ifT rfl ?_
          have s1 := sk.1
          refine hk m1 m' s W hm1 hm' h4' (lk'.move f1 sk x1 l1) ((f1 52 8 (by first | decide | exact fun z => absurd z.1 (by decide) | exact ⟨fun z => absurd z.1 (by decide), fun z => absurd z.1 (by decide)⟩ | omega)).trans w8) ((f1 52 3 (by first | decide | exact fun z => absurd z.1 (by decide) | exact ⟨fun z => absurd z.1 (by decide), fun z => absurd z.1 (by decide)⟩ | omega)).trans w3) (by omega) (fun _ q2 sk2 z => ?_)
          rw [x1] at sk2
          obtain rfl := sk2.uniq sk.idem
          exact nq ⟨z.1, z.2.1⟩
  have b2 := hm0.f_1_2
  exact ⟨401, L 401 m0 m P O hm0 hmm h4 lk h8 rfl (by omega) (by omega)⟩
theorem zf_endsHere {X : Mm} {S : Sh} {m0 : Mm} {K : Int → Mm → Prop} {b : Int → Int} {n m : Int} {P : List Int} (hS : Shp S) (hm0 : Inv X S m0) (ht : TC X b n) (hmm : m = 4 ∨ m = 5 ∨ m = 6 ∨ m = 7) (hp : m0 1 2 ≤ n) (h7 : m0 52 7 = (nOp P : Int)) (h8 : m0 52 8 = m - 4) (h1 : ∀ (q : Int) (M1 : Mm), Inv X S M1 → (∀ c p : Int, ¬ (c = 1 ∧ 2 ≤ p ∧ p ≤ 3) → M1 c p = m0 c p) → Sk b n (m0 1 2) q → M1 1 2 = q → q ≤ n → (m = 4 ∨ ((m = 6 ∨ m = 7) ∧ nOp P = 0)) → (n ≤ q ∨ b q = 59) → K 1 M1) (h0 : ∀ (q : Int) (M1 : Mm), Inv X S M1 → (∀ c p : Int, ¬ (c = 1 ∧ 2 ≤ p ∧ p ≤ 3) → M1 c p = m0 c p) → Sk b n (m0 1 2) q → Sk b n (M1 1 2) q → (M1 1 2 = m0 1 2 ∨ M1 1 2 = q) → ¬ ((m = 4 ∨ ((m = 6 ∨ m = 7) ∧ nOp P = 0)) ∧ (n ≤ q ∨ b q = 59)) → K 0 M1) : wp_X3_endsHere S m0 52 K := by
  have nb := ht.2.1
  have b2 := hm0.f_1_2
  obtain ⟨q0, sk0⟩ := Sk_ex b n 400 (m0 1 2) (by first | decide | exact fun z => absurd z.1 (by decide) | exact ⟨fun z => absurd z.1 (by decide), fun z => absurd z.1 (by decide)⟩ | omega)
  have q0n := sk0.le hp
  have may : (m = 4 ∨ ((m = 6 ∨ m = 7) ∧ nOp P = 0)) → wp_X3_endsHere_21 S K 52 m0 := by
    intro hmay
    refine u_X3_endsHere_21 ?_
    refine g_C ?_
    refine u_X3_endsHere_26 ?_
    refine g_ifF (by decide) ?_
    refine g_getr 0 1 rfl hS.k52 hm0.f_52_0 (by decide) ?_
    refine ⟨hS.k1, ?_⟩
    refine u_X7_isAtEnd ?_
    refine ⟨hS.k1, ?_⟩
    refine ze_look hS hm0 ht hp (fun r q m1 hm1 f1 sk x1 x2 hq hr => ?_)
    have s1 := sk.1
    refine g_C ?_
    refine g_if (fun w => ?_) (fun w => ?_)
    · refine g_C ⟨by decide, ?_⟩
      refine g_ifF (by decide) ?_
      refine g_getr 0 1 rfl hS.k52 hm1.f_52_0 (by decide) ?_
      refine ⟨hS.k1, ?_⟩
      refine ze_look hS hm1 ht (by omega) (fun r2 q2 m2 hm2 f2 sk2 y1 y2 hq2 hr2 => ?_)
      rw [x1] at sk2
      obtain rfl := sk2.uniq sk.idem
      have qn : q2 < n := by
        rcases hr with z | z
        · exact z.1
        · exfalso; omega
      have r59 : r2 = 59 ↔ b q2 = 59 := by
        rcases hr2 with z | z
        · have tb := ht.2.2 q2 (by omega) qn
          rw [z.2]
          exact u8_eq tb.2.1 tb.2.2 (by decide) (by decide)
        · exfalso; omega
      refine g_C ?_
      refine g_if (fun w2 => ?_) (fun w2 => ?_)
      · refine g_C ⟨by decide, h0 q2 m2 hm2 (fun c p z => (f2 c p z).trans (f1 c p z)) sk (by rw [y1]; exact sk.idem) (Or.inr y1) (fun z => ?_)⟩
        rcases z.2 with z2 | z2
        · omega
        · exact w2 (r59.mpr z2)
      · refine u_X3_endsHere_53 ?_
        exact g_C ⟨by decide, h1 q2 m2 hm2 (fun c p z => (f2 c p z).trans (f1 c p z)) sk y1 hq2 hmay (Or.inr (r59.mp (by omega)))⟩
    · refine g_C ⟨by decide, ?_⟩
      refine g_ifT (by decide) ?_
      refine u_X3_endsHere_53 ?_
      refine g_C ⟨by decide, h1 q m1 hm1 f1 sk x1 hq hmay (Or.inl ?_)⟩
      rcases hr with z | z
      · have tb := ht.2.2 q (by omega) z.1
        have := u8_r tb.2.1 tb.2.2
        exfalso; omega
      · exact z.1
  have not' : ¬ (m = 4 ∨ ((m = 6 ∨ m = 7) ∧ nOp P = 0)) → wp_X3_endsHere_25 S K 52 m0 := by
    intro hn
    refine u_X3_endsHere_25 ?_
    refine g_C ?_
    refine u_X3_endsHere_26 ?_
    refine g_ifT rfl ?_
    exact g_C ⟨by decide, h0 q0 m0 hm0 (fun _ _ _ => rfl) sk0 sk0 (Or.inl rfl) (fun z => hn z.1)⟩
  refine u_X3_endsHere ?_
  refine g_getu 8 rfl hS.k52 (fun w ew => ?_)
  refine g_if (fun w1 => may (Or.inl (by omega))) (fun w1 => ?_)
  refine g_getu 7 rfl hS.k52 (fun o eo => ?_)
  rw [h7] at eo
  refine g_if (fun w2 => not' (fun z => ?_)) (fun w2 => ?_)
  · rcases z with z | z
    · omega
    · have z2 := z.2; omega
  · refine ⟨hS.k52, ?_⟩
    have nm : nOp P = 0 := by omega
    exact zl_whole hS (fun wh => g_ifF (by decide) (may (Or.inr ⟨by omega, nm⟩))) (fun wh => g_ifT rfl (not' (fun z => by rcases z with z | z; omega; omega)))
def L0q (b : Int → Int) (n : Int) (T : Int → List Int → Prop) (M : Mm) (m : Int) (O : List Int) (k d : Int) : Prop := (∀ (f : Int) (E : List Int), Bcc b n m (M 1 2) (M 52 3) [] O k f E → T f E) ∧ M 1 4 = 0 ∧ M 1 2 ≤ n ∧ M 52 2 + d ≤ M 1 2 ∧ M 52 3 ≤ 60 ∧ rl (M 53) (M 52 2).toNat = O
theorem zf_readClause {X : Mm} {S : Sh} {m0 : Mm} {K : Int → Mm → Prop} {b : Int → Int} {n k : Int} {O : List Int} {T : Int → List Int → Prop} (hS : Shp S) (hm0 : Inv X S m0) (ht : TC X b n) (l0 : L0q b n T m0 0 O k 0) (hk0 : 0 ≤ k) (hk12 : k ≤ 12) (hf : ∀ M1 : Mm, Inv X S M1 → T (M1 1 4) [] → ¬ M1 1 4 = 0 → K 0 M1) (hk : ∀ (M1 : Mm) (O' : List Int), Inv X S M1 → L0q b n T M1 9 O' (k + 1) 1 → k < 12 → K 1 M1) : wp_X3_readClause S m0 52 k K := by
  obtain ⟨k1, k2, k3, k4, k5, k6⟩ := id l0
  have nb := ht.2.1
  have b2 := hm0.f_1_2
  have b3 := hm0.f_52_3
  have b22 := hm0.f_52_2
  refine u_X3_readClause ?_
  refine g_getr 0 1 rfl hS.k52 hm0.f_52_0 (by decide) ?_
  refine g_C ?_
  refine ⟨hS.k1, ?_⟩
  refine ze_takesWord 6 hS hm0 ht k3 (by decide) (by decide) (fun q m1 hm1 f1 sk x1 x2 l1 wk => ?_) (fun q m1 hm1 f1 sk x1 x2 l1 wk => ?_)
  · have t6 : tl 6 = 4 := by decide
    have s1 := sk.1
    refine g_ifT (by decide) ?_
    refine g_C ?_
    refine g_if (fun w => ?_) (fun w => ?_)
    · refine g_C ?_
      refine g_put 5 rfl hS.k52 (hm1.w_52_5 (by decide) (by decide)) (fun m2 e2 hm2 => ?_)
      refine g_C ?_
      refine g_put 6 rfl hS.k52 (hm2.w_52_6 (by decide) (by decide)) (fun m3 e3 hm3 => ?_)
      refine g_C ?_
      refine g_put 7 rfl hS.k52 (hm3.w_52_7 (by decide) (by decide)) (fun m4 e4 hm4 => ?_)
      refine g_C ?_
      refine g_put 8 rfl hS.k52 (hm4.w_52_8 (by decide) (by decide)) (fun m5 e5 hm5 => ?_)
      have f2 : ∀ c p : Int, ¬ (c = 52 ∧ p = 5) → m2 c p = m1 c p := fun c p q => (congrFun (congrFun e2 _) _).trans (up_ne q)
      have y2 : m2 52 5 = 0 := (congrFun (congrFun e2 _) _).trans (up_at _ _ _ _)
      have f3 : ∀ c p : Int, ¬ (c = 52 ∧ p = 6) → m3 c p = m2 c p := fun c p q => (congrFun (congrFun e3 _) _).trans (up_ne q)
      have y3 : m3 52 6 = 0 := (congrFun (congrFun e3 _) _).trans (up_at _ _ _ _)
      have f4 : ∀ c p : Int, ¬ (c = 52 ∧ p = 7) → m4 c p = m3 c p := fun c p q => (congrFun (congrFun e4 _) _).trans (up_ne q)
      have y4 : m4 52 7 = 0 := (congrFun (congrFun e4 _) _).trans (up_at _ _ _ _)
      have f5 : ∀ c p : Int, ¬ (c = 52 ∧ p = 8) → m5 c p = m4 c p := fun c p q => (congrFun (congrFun e5 _) _).trans (up_ne q)
      have y5 : m5 52 8 = 0 := (congrFun (congrFun e5 _) _).trans (up_at _ _ _ _)
      have G : ∀ c p : Int, ¬ (c = 52 ∧ 5 ≤ p ∧ p ≤ 8) → m5 c p = m1 c p := fun c p z => by rw [f5 c p (by first | exact fun y => absurd (y.1 ▸ z) (by decide) | exact fun y => absurd (y.1 ▸ q) (by decide) | exact z | exact q | exact z.1 | exact q.1 | exact z.2 | exact q.2 | omega), f4 c p (by first | exact fun y => absurd (y.1 ▸ z) (by decide) | exact fun y => absurd (y.1 ▸ q) (by decide) | exact z | exact q | exact z.1 | exact q.1 | exact z.2 | exact q.2 | omega), f3 c p (by first | exact fun y => absurd (y.1 ▸ z) (by decide) | exact fun y => absurd (y.1 ▸ q) (by decide) | exact z | exact q | exact z.1 | exact q.1 | exact z.2 | exact q.2 | omega), f2 c p (by first | exact fun y => absurd (y.1 ▸ z) (by decide) | exact fun y => absurd (y.1 ▸ q) (by decide) | exact z | exact q | exact z.1 | exact q.1 | exact z.2 | exact q.2 | omega)]
      have z5 : m5 52 5 = 0 := by rw [f5 52 5 (by first | decide | exact fun z => absurd z.1 (by decide) | exact ⟨fun z => absurd z.1 (by decide), fun z => absurd z.1 (by decide)⟩ | omega), f4 52 5 (by first | decide | exact fun z => absurd z.1 (by decide) | exact ⟨fun z => absurd z.1 (by decide), fun z => absurd z.1 (by decide)⟩ | omega), f3 52 5 (by first | decide | exact fun z => absurd z.1 (by decide) | exact ⟨fun z => absurd z.1 (by decide), fun z => absurd z.1 (by decide)⟩ | omega)]; exact y2
      have z6 : m5 52 6 = 0 := by rw [f5 52 6 (by first | decide | exact fun z => absurd z.1 (by decide) | exact ⟨fun z => absurd z.1 (by decide), fun z => absurd z.1 (by decide)⟩ | omega), f4 52 6 (by first | decide | exact fun z => absurd z.1 (by decide) | exact ⟨fun z => absurd z.1 (by decide), fun z => absurd z.1 (by decide)⟩ | omega)]; exact y3
      have z7 : m5 52 7 = 0 := by rw [f5 52 7 (by first | decide | exact fun z => absurd z.1 (by decide) | exact ⟨fun z => absurd z.1 (by decide), fun z => absurd z.1 (by decide)⟩ | omega)]; exact y4
      have e12 : m5 1 2 = q + 4 := by rw [G 1 2 (by omega)]; omega
      have e53 : m5 52 3 = m0 52 3 := by rw [G 52 3 (by omega), f1 52 3 (by first | decide | exact fun z => absurd z.1 (by decide) | exact ⟨fun z => absurd z.1 (by decide), fun z => absurd z.1 (by decide)⟩ | omega)]
      have e52 : m5 52 2 = m0 52 2 := by rw [G 52 2 (by omega), f1 52 2 (by first | decide | exact fun z => absurd z.1 (by decide) | exact ⟨fun z => absurd z.1 (by decide), fun z => absurd z.1 (by decide)⟩ | omega)]
      have e533 : m5 53 = m0 53 := funext (fun p => by rw [G 53 p (by omega), f1 53 p (by first | decide | exact fun z => absurd z.1 (by decide) | exact ⟨fun z => absurd z.1 (by decide), fun z => absurd z.1 (by decide)⟩ | omega)])
      have lk : Lq b n T m5 1 [] O (k + 1) := by
        refine ⟨fun f E hA => k1 f E (b_step sk (tb_0 (g_ifT wk (g_ifF (by first | decide | omega) ?_)))), by rw [G 1 4 (by omega), f1 1 4 (by first | decide | exact fun z => absurd z.1 (by decide) | exact ⟨fun z => absurd z.1 (by decide), fun z => absurd z.1 (by decide)⟩ | omega)]; exact k2, by omega, by omega, by omega, by decide, ⟨by rw [z5]; rfl, by rw [e52, e533]; exact k6, by rw [z6]; rfl, fun x hx => absurd hx (List.not_mem_nil)⟩, by rw [z7]; rfl⟩
        rw [e12, e53] at hA
        exact hA
      refine g_C ?_
      have L : ∀ (j : Nat) (u : Int) (M : Mm) (m : Int) (s W : List Int), Inv X S M → (m = 1 ∨ m = 2 ∨ m = 3) → (m = 1 → nDp s = 0) → Lq b n T M m s W (k + 1) → M 52 8 = m - 1 → 0 ≤ u → u ≤ M 52 3 → 61 - u ≤ (j : Int) → wp_X3_readClause_58 S K j 52 u M := by
        intro j
        induction j with
        | zero =>
          intro u M m s W _ _ _ lk _ _ h1 h2
          have := lk.2.2.2.2.1
          exfalso; omega
        | succ j ih =>
          intro u M m s W hm hmv h1' lk w8 u0 u1 h
          have p60 := lk.2.2.2.2.1
          refine u_X3_readClause_58 ?_
          refine g_C ?_
          refine g_ifF (by first | decide | omega) ?_
          refine ⟨hS.k52, ?_⟩
          refine zf_readValue hS hm ht hmv lk (fun m6 hm6 t6 n6 => g_ifF (by decide) (g_C ⟨by decide, hf m6 hm6 t6 n6⟩)) (fun m6 hm6 f6 lkv w3 _ => ?_)
          obtain ⟨v6, lk6⟩ := lkv
          refine g_ifT (by decide) ?_
          refine ⟨hS.k52, ?_⟩
          refine zf_closeBrackets hS hm6 ht (m := m + 3) (by omega) (fun e => h1' (by omega)) lk6 (by rw [f6 52 8 (by first | decide | exact fun z => absurd z.1 (by decide) | exact ⟨fun z => absurd z.1 (by decide), fun z => absurd z.1 (by decide)⟩ | omega)]; omega) (fun m7 mm s7 W7 hm7 hmm h47 lk7 w87 w37 _ nc => ?_)
          refine ⟨hS.k52, ?_⟩
          obtain ⟨c1, c2, c3, c4, c5, c6, c7, c8⟩ := id lk7
          refine zf_endsHere (P := s7) hS hm7 ht hmm c3 c8 w87 (fun q7 m8 hm8 f8 sk8 y1 l8 may en => ?_) (fun q7 m8 hm8 f8 sk8 sk8' y1 hno => ?_)
          · refine g_ifF (by decide) ?_
            refine g_C ?_
            refine ⟨hS.k52, ?_⟩
            have cp8 : CQ m8 s7 W7 := c7.same (fun c p z => f8 c p (by first | exact fun y => absurd (y.1 ▸ z) (by decide) | exact fun y => absurd (y.1 ▸ q) (by decide) | exact z | exact q | exact z.1 | exact q.1 | exact z.2 | exact q.2 | omega))
            have g82 : m8 52 2 = m7 52 2 := f8 52 2 (by first | decide | exact fun z => absurd z.1 (by decide) | exact ⟨fun z => absurd z.1 (by decide), fun z => absurd z.1 (by decide)⟩ | omega)
            have g85 : m8 52 5 = m7 52 5 := f8 52 5 (by first | decide | exact fun z => absurd z.1 (by decide) | exact ⟨fun z => absurd z.1 (by decide), fun z => absurd z.1 (by decide)⟩ | omega)
            have sq := sk8.1
            refine zf_unpile hS hm8 cp8 (by omega) c6 (fun m9 hm9 f9 c9 ph => ?_)
            have b59 := hm9.f_52_5
            have b92 := hm9.f_52_2
            have fin : ∀ v : Int, ((v = -25 ∧ mm = 4) ∨ (v = -26 ∧ ¬ mm = 4)) → wp_X3_readClause_105 S K 52 v m9 := by
              intro v hv
              refine u_X3_readClause_105 ?_
              refine ⟨hS.k52, ?_⟩
              rw [g82, g85] at ph
              refine zf_write hS hm9 (by omega) (fun ma hma fa' ya' ys => ?_)
              have fa : ∀ c p : Int, ¬ (c = 52 ∧ p = 2) ∧ ¬ c = 53 → ma c p = m9 c p := fun c p z => fa' c p z.1 (fun y => z.2 y.1)
              have ca := c9.write b92.1 fa' ya' ys
              have ea : ma 1 2 = q7 := by rw [fa 1 2 (by first | decide | exact fun z => absurd z.1 (by decide) | exact ⟨fun z => absurd z.1 (by decide), fun z => absurd z.1 (by decide)⟩ | omega), f9 1 2 (by first | decide | exact fun z => absurd z.1 (by decide) | exact ⟨fun z => absurd z.1 (by decide), fun z => absurd z.1 (by decide)⟩ | omega)]; exact y1
              have ea3 : ma 52 3 = m7 52 3 := by rw [fa 52 3 (by first | decide | exact fun z => absurd z.1 (by decide) | exact ⟨fun z => absurd z.1 (by decide), fun z => absurd z.1 (by decide)⟩ | omega), f9 52 3 (by first | decide | exact fun z => absurd z.1 (by decide) | exact ⟨fun z => absurd z.1 (by decide), fun z => absurd z.1 (by decide)⟩ | omega), f8 52 3 (by first | decide | exact fun z => absurd z.1 (by decide) | exact ⟨fun z => absurd z.1 (by decide), fun z => absurd z.1 (by decide)⟩ | omega)]
              refine g_C ⟨by decide, hk ma _ hma ⟨fun f E hA => c1 f E (b_step sk8 ?_), by rw [fa 1 4 (by first | decide | exact fun z => absurd z.1 (by decide) | exact ⟨fun z => absurd z.1 (by decide), fun z => absurd z.1 (by decide)⟩ | omega), f9 1 4 (by first | decide | exact fun z => absurd z.1 (by decide) | exact ⟨fun z => absurd z.1 (by decide), fun z => absurd z.1 (by decide)⟩ | omega), f8 1 4 (by first | decide | exact fun z => absurd z.1 (by decide) | exact ⟨fun z => absurd z.1 (by decide), fun z => absurd z.1 (by decide)⟩ | omega)]; exact c2, by omega, by omega, by omega, ca.2.1⟩ w⟩
              rw [ea, ea3] at hA
              rcases may with e | ⟨e, e2⟩
              · have hv2 : v = -25 := by omega
                rw [hv2] at hA
                rw [e]; exact tb_A0 (g_ifT en hA)
              · have hv2 : v = -26 := by omega
                rw [hv2] at hA
                rcases e with e | e
                · rw [e]; exact tb_A2 (g_ifF (nc (Or.inl e) q7 sk8) (g_ifT ⟨e2, en⟩ hA))
                · rw [e]; exact tb_A3 (g_ifF (nc (Or.inr e) q7 sk8) (g_ifT ⟨e2, en⟩ hA))
            refine g_getu 8 rfl hS.k52 (fun w9 ew9 => ?_)
            rw [f9 52 8 (by first | decide | exact fun z => absurd z.1 (by decide) | exact ⟨fun z => absurd z.1 (by decide), fun z => absurd z.1 (by decide)⟩ | omega), f8 52 8 (by first | decide | exact fun z => absurd z.1 (by decide) | exact ⟨fun z => absurd z.1 (by decide), fun z => absurd z.1 (by decide)⟩ | omega)] at ew9
            exact g_if (fun w10 => g_C (fin _ (Or.inr ⟨rfl, by omega⟩))) (fun w10 => g_C (fin _ (Or.inl ⟨rfl, by omega⟩)))
          · refine g_ifT rfl ?_
            refine ⟨hS.k52, ?_⟩
            have lk8 : Lq b n T m8 mm s7 W7 (k + 1) := by
              rcases y1 with z | z
              · obtain ⟨c1, c2, c3, c4, c5, c6, c7, c8⟩ := lk7
                refine ⟨fun f E hA => c1 f E ?_, (f8 1 4 (by first | decide | exact fun z => absurd z.1 (by decide) | exact ⟨fun z => absurd z.1 (by decide), fun z => absurd z.1 (by decide)⟩ | omega)).trans c2, by omega, by rw [f8 52 2 (by first | decide | exact fun z => absurd z.1 (by decide) | exact ⟨fun z => absurd z.1 (by decide), fun z => absurd z.1 (by decide)⟩ | omega), f8 52 5 (by first | decide | exact fun z => absurd z.1 (by decide) | exact ⟨fun z => absurd z.1 (by decide), fun z => absurd z.1 (by decide)⟩ | omega)]; omega, by rw [f8 52 3 (by first | decide | exact fun z => absurd z.1 (by decide) | exact ⟨fun z => absurd z.1 (by decide), fun z => absurd z.1 (by decide)⟩ | omega)]; exact c5, c6, c7.same (fun c p z => f8 c p (by first | exact fun y => absurd (y.1 ▸ z) (by decide) | exact fun y => absurd (y.1 ▸ q) (by decide) | exact z | exact q | exact z.1 | exact q.1 | exact z.2 | exact q.2 | omega)), (f8 52 7 (by first | decide | exact fun z => absurd z.1 (by decide) | exact ⟨fun z => absurd z.1 (by decide), fun z => absurd z.1 (by decide)⟩ | omega)).trans c8⟩
                rw [z, f8 52 3 (by first | decide | exact fun z => absurd z.1 (by decide) | exact ⟨fun z => absurd z.1 (by decide), fun z => absurd z.1 (by decide)⟩ | omega)] at hA
                exact hA
              · exact lk7.move f8 sk8 z (sk8.le c3)
            have e83 : m8 52 3 = m7 52 3 := f8 52 3 (by first | decide | exact fun z => absurd z.1 (by decide) | exact ⟨fun z => absurd z.1 (by decide), fun z => absurd z.1 (by decide)⟩ | omega)
            refine zf_readJoint hS hm8 ht hmm h47 lk8 ((f8 52 8 (by first | decide | exact fun z => absurd z.1 (by decide) | exact ⟨fun z => absurd z.1 (by decide), fun z => absurd z.1 (by decide)⟩ | omega)).trans w87) sk8' ⟨fun e z => hno ⟨Or.inl e, z⟩, fun e => ⟨nc e q7 sk8, fun z => hno ⟨Or.inr ⟨e, z.1⟩, z.2⟩⟩⟩ (fun m9 hm9 t9 n9 => g_ifF (by decide) (g_C ⟨by decide, hf m9 hm9 t9 n9⟩)) (fun m9 m' s9 W9 hm9 hm' h19 lk9 w89 w39 => ?_)
            refine g_ifT (by decide) ?_
            refine g_A (by omega) (by omega) ?_
            exact ih (u + 1) m9 m' s9 W9 hm9 hm' h19 lk9 w89 (by omega) (by omega) (by omega)
      exact ⟨61, L 61 0 m5 1 [] O hm5 (by decide) (fun _ => rfl) lk (by omega) (by decide) (by omega) (by decide)⟩
    · refine g_getr 0 1 rfl hS.k52 hm1.f_52_0 (by decide) ?_
      refine g_C ?_
      refine ze_refuse0 (q := q) (T := fun f => T f []) hS hm1 ((f1 1 4 (by first | decide | exact fun z => absurd z.1 (by decide) | exact ⟨fun z => absurd z.1 (by decide), fun z => absurd z.1 (by decide)⟩ | omega)).trans k2) x2 (by omega) (by decide) (by decide) ?_ hf
      exact k1 _ _ (b_step sk (tb_0 (g_ifT wk (g_ifT (by first | decide | omega) ⟨by omega, rfl⟩))))
  · have s1 := sk.1
    refine g_ifF (by decide) ?_
    refine g_getr 0 1 rfl hS.k52 hm1.f_52_0 (by decide) ?_
    refine g_C ?_
    refine ze_refuse0 (q := q) (T := fun f => T f []) hS hm1 ((f1 1 4 (by first | decide | exact fun z => absurd z.1 (by decide) | exact ⟨fun z => absurd z.1 (by decide), fun z => absurd z.1 (by decide)⟩ | omega)).trans k2) x2 (by omega) (by decide) (by decide) ?_ hf
    rw [Int.add_zero]
    exact k1 _ _ (b_step sk (tb_0 (g_ifF wk ⟨rfl, rfl⟩)))
/-- the class's reading of a rule ends as Bcc says, and so it writes -/
theorem zf_read {X : Mm} {S : Sh} {m0 : Mm} {K : Int → Mm → Prop} {b : Int → Int} {n : Int} (hS : Shp S) (hm0 : Inv X S m0) (ht : TC X b n) (hf : ∀ M1 : Mm, Inv X S M1 → Bcc b n 0 0 0 [] [] 0 (M1 1 4) [] → ¬ M1 1 4 = 0 → K 0 M1) (hk : ∀ (M1 : Mm) (E : List Int), Inv X S M1 → Bcc b n 0 0 0 [] [] 0 0 E → rl (M1 53) (M1 52 2).toNat = E → M1 52 2 ≤ 399 → K 1 M1) : wp_X3_read S m0 52 K := by
  have nb := ht.2.1
  refine u_X3_read ?_
  refine g_C ?_
  refine g_put 2 rfl hS.k52 (hm0.w_52_2 (by decide) (by decide)) (fun m1 e1 hm1 => ?_)
  refine g_C ?_
  refine g_put 3 rfl hS.k52 (hm1.w_52_3 (by decide) (by decide)) (fun m2 e2 hm2 => ?_)
  refine g_getr 0 1 rfl hS.k52 hm2.f_52_0 (by decide) ?_
  refine ⟨hS.k1, ?_⟩
  refine u_X7_rewind ?_
  refine g_C ?_
  refine g_put 2 rfl hS.k1 (hm2.w_1_2 (by decide) (by decide)) (fun m3 e3 hm3 => ?_)
  refine g_C ?_
  refine g_put 3 rfl hS.k1 (hm3.w_1_3 (by decide) (by decide)) (fun m4 e4 hm4 => ?_)
  refine g_C ?_
  refine g_put 4 rfl hS.k1 (hm4.w_1_4 (by decide) (by decide)) (fun m5 e5 hm5 => ?_)
  have f1 : ∀ c p : Int, ¬ (c = 52 ∧ p = 2) → m1 c p = m0 c p := fun c p q => (congrFun (congrFun e1 _) _).trans (up_ne q)
  have y1 : m1 52 2 = 0 := (congrFun (congrFun e1 _) _).trans (up_at _ _ _ _)
  have f2 : ∀ c p : Int, ¬ (c = 52 ∧ p = 3) → m2 c p = m1 c p := fun c p q => (congrFun (congrFun e2 _) _).trans (up_ne q)
  have y2 : m2 52 3 = 0 := (congrFun (congrFun e2 _) _).trans (up_at _ _ _ _)
  have f3 : ∀ c p : Int, ¬ (c = 1 ∧ p = 2) → m3 c p = m2 c p := fun c p q => (congrFun (congrFun e3 _) _).trans (up_ne q)
  have y3 : m3 1 2 = 0 := (congrFun (congrFun e3 _) _).trans (up_at _ _ _ _)
  have f4 : ∀ c p : Int, ¬ (c = 1 ∧ p = 3) → m4 c p = m3 c p := fun c p q => (congrFun (congrFun e4 _) _).trans (up_ne q)
  have f5 : ∀ c p : Int, ¬ (c = 1 ∧ p = 4) → m5 c p = m4 c p := fun c p q => (congrFun (congrFun e5 _) _).trans (up_ne q)
  have y5 : m5 1 4 = 0 := (congrFun (congrFun e5 _) _).trans (up_at _ _ _ _)
  have z2 : m5 1 2 = 0 := by rw [f5 1 2 (by first | decide | exact fun z => absurd z.1 (by decide) | exact ⟨fun z => absurd z.1 (by decide), fun z => absurd z.1 (by decide)⟩ | omega), f4 1 2 (by first | decide | exact fun z => absurd z.1 (by decide) | exact ⟨fun z => absurd z.1 (by decide), fun z => absurd z.1 (by decide)⟩ | omega)]; exact y3
  have z3 : m5 52 3 = 0 := by rw [f5 52 3 (by first | decide | exact fun z => absurd z.1 (by decide) | exact ⟨fun z => absurd z.1 (by decide), fun z => absurd z.1 (by decide)⟩ | omega), f4 52 3 (by first | decide | exact fun z => absurd z.1 (by decide) | exact ⟨fun z => absurd z.1 (by decide), fun z => absurd z.1 (by decide)⟩ | omega), f3 52 3 (by first | decide | exact fun z => absurd z.1 (by decide) | exact ⟨fun z => absurd z.1 (by decide), fun z => absurd z.1 (by decide)⟩ | omega)]; exact y2
  have z22 : m5 52 2 = 0 := by rw [f5 52 2 (by first | decide | exact fun z => absurd z.1 (by decide) | exact ⟨fun z => absurd z.1 (by decide), fun z => absurd z.1 (by decide)⟩ | omega), f4 52 2 (by first | decide | exact fun z => absurd z.1 (by decide) | exact ⟨fun z => absurd z.1 (by decide), fun z => absurd z.1 (by decide)⟩ | omega), f3 52 2 (by first | decide | exact fun z => absurd z.1 (by decide) | exact ⟨fun z => absurd z.1 (by decide), fun z => absurd z.1 (by decide)⟩ | omega), f2 52 2 (by first | decide | exact fun z => absurd z.1 (by decide) | exact ⟨fun z => absurd z.1 (by decide), fun z => absurd z.1 (by decide)⟩ | omega)]; exact y1
  refine g_C ?_
  have L : ∀ (j : Nat) (k : Int) (M : Mm) (O : List Int), Inv X S M → L0q b n (Bcc b n 0 0 0 [] [] 0) M 0 O k 0 → 0 ≤ k → k ≤ 12 → 13 - k ≤ (j : Int) → wp_X3_read_19 S K j 52 k M := by
    intro j
    induction j with
    | zero => intro k M O _ _ _ _ h; exfalso; omega
    | succ j ih =>
      intro k M O hm l0 h0 h12 h
      refine u_X3_read_19 ?_
      refine g_C ?_
      refine g_ifF (by first | decide | omega) ?_
      refine ⟨hS.k52, ?_⟩
      refine zf_readClause hS hm ht l0 h0 h12 (fun m6 hm6 t6 n6 => g_ifF (by decide) (g_C ⟨by decide, hf m6 hm6 t6 n6⟩)) (fun m6 s6 hm6 l6 h6 => ?_)
      obtain ⟨k1, k2, k3, k4, k5, k6⟩ := id l6
      have b26 := hm6.f_1_2
      have b22 := hm6.f_52_2
      refine g_ifT (by decide) ?_
      refine g_getr 0 1 rfl hS.k52 hm6.f_52_0 (by decide) ?_
      refine ⟨hS.k1, ?_⟩
      refine u_X7_isAtEnd ?_
      refine ⟨hS.k1, ?_⟩
      refine ze_look hS hm6 ht k3 (fun r q m7 hm7 f7 sk x1 x2 hq hr => ?_)
      have s1 := sk.1
      refine g_C ?_
      refine g_if (fun w => ?_) (fun w => ?_)
      · refine g_C ⟨by decide, ?_⟩
        refine g_ifT rfl ?_
        have qn : q < n := by
          rcases hr with z | z
          · exact z.1
          · exfalso; omega
        refine g_getr 0 1 rfl hS.k52 hm7.f_52_0 (by decide) ?_
        refine g_C ?_
        refine ⟨hS.k1, ?_⟩
        refine ze_takesSign hS hm7 ht (by omega) (by decide) (by decide) (fun q2 m8 hm8 f8 sk8 w1 w2 l8 bq => ?_) (fun q2 m8 hm8 f8 sk8 w1 w2 l8 nq => ?_)
        · rw [x1] at sk8
          obtain rfl := sk8.uniq sk.idem
          refine g_ifT (by decide) ?_
          refine g_A (by omega) (by omega) ?_
          have F : ∀ c p : Int, ¬ (c = 1 ∧ 2 ≤ p ∧ p ≤ 3) → m8 c p = m6 c p := fun c p z => (f8 c p z).trans (f7 c p z)
          have e53 : m8 53 = m6 53 := funext (fun p => F 53 p (by first | decide | exact fun z => absurd z.1 (by decide) | exact ⟨fun z => absurd z.1 (by decide), fun z => absurd z.1 (by decide)⟩ | omega))
          refine ih (k + 1) m8 s6 hm8 ⟨fun f E hA => k1 f E (b_step sk (tb_E (g_ifF (by first | decide | omega) (g_ifT bq ?_)))), (F 1 4 (by first | decide | exact fun z => absurd z.1 (by decide) | exact ⟨fun z => absurd z.1 (by decide), fun z => absurd z.1 (by decide)⟩ | omega)).trans k2, by omega, by rw [F 52 2 (by first | decide | exact fun z => absurd z.1 (by decide) | exact ⟨fun z => absurd z.1 (by decide), fun z => absurd z.1 (by decide)⟩ | omega)]; omega, by rw [F 52 3 (by first | decide | exact fun z => absurd z.1 (by decide) | exact ⟨fun z => absurd z.1 (by decide), fun z => absurd z.1 (by decide)⟩ | omega)]; exact k5, by rw [F 52 2 (by first | decide | exact fun z => absurd z.1 (by decide) | exact ⟨fun z => absurd z.1 (by decide), fun z => absurd z.1 (by decide)⟩ | omega), e53]; exact k6⟩ (by omega) (by omega) (by omega)
          rw [w1, F 52 3 (by first | decide | exact fun z => absurd z.1 (by decide) | exact ⟨fun z => absurd z.1 (by decide), fun z => absurd z.1 (by decide)⟩ | omega)] at hA
          exact hA
        · rw [x1] at sk8
          obtain rfl := sk8.uniq sk.idem
          refine g_ifF (by decide) ?_
          refine g_getr 0 1 rfl hS.k52 hm8.f_52_0 (by decide) ?_
          refine g_C ?_
          refine ze_refuse0 (q := q2) (T := fun f => Bcc b n 0 0 0 [] [] 0 f []) hS hm8 (by rw [f8 1 4 (by first | decide | exact fun z => absurd z.1 (by decide) | exact ⟨fun z => absurd z.1 (by decide), fun z => absurd z.1 (by decide)⟩ | omega), f7 1 4 (by first | decide | exact fun z => absurd z.1 (by decide) | exact ⟨fun z => absurd z.1 (by decide), fun z => absurd z.1 (by decide)⟩ | omega)]; exact k2) w2 (by omega) (by decide) (by decide) ?_ hf
          rw [Int.add_zero]
          exact k1 _ _ (b_step sk (tb_E (g_ifF (by first | decide | omega) (g_ifF (fun z => nq ⟨qn, z⟩) ⟨rfl, rfl⟩))))
      · refine g_C ⟨by decide, ?_⟩
        refine g_ifF (by decide) ?_
        have qn : n ≤ q := by
          rcases hr with z | z
          · have tb := ht.2.2 q (by omega) z.1
            have := u8_r tb.2.1 tb.2.2
            exfalso; omega
          · exact z.1
        have e53 : m7 53 = m6 53 := funext (fun p => f7 53 p (by first | decide | exact fun z => absurd z.1 (by decide) | exact ⟨fun z => absurd z.1 (by decide), fun z => absurd z.1 (by decide)⟩ | omega))
        refine g_C ⟨by decide, hk m7 s6 hm7 (k1 0 s6 (b_step sk (tb_E (g_ifT qn ⟨rfl, rfl⟩)))) (by rw [f7 52 2 (by first | decide | exact fun z => absurd z.1 (by decide) | exact ⟨fun z => absurd z.1 (by decide), fun z => absurd z.1 (by decide)⟩ | omega), e53]; exact k6) ?_⟩
        rw [f7 52 2 (by first | decide | exact fun z => absurd z.1 (by decide) | exact ⟨fun z => absurd z.1 (by decide), fun z => absurd z.1 (by decide)⟩ | omega)]
        omega
  exact ⟨13, L 13 0 m5 [] hm5 ⟨fun f E hA => by rw [z2, z3] at hA; exact hA, y5, by omega, by omega, by omega, by rw [z22]; rfl⟩ (by decide) (by decide) (by decide)⟩
