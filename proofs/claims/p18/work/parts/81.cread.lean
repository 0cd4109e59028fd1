theorem Sk_ex (b : Int → Int) (n : Int) : ∀ (k : Nat) (p : Int), n - p ≤ (k : Int) → ∃ q : Int, Sk b n p q := by
  intro k
  induction k with
  | zero => intro p h; exact ⟨p, Sk.self (Or.inl (by omega))⟩
  | succ k ih =>
    intro p h
    by_cases e : p < n ∧ b p = 32
    · obtain ⟨q, hq⟩ := ih (p + 1) (by omega)
      exact ⟨q, hq.cons e.1 e.2⟩
    · exact ⟨p, Sk.self (by omega)⟩
theorem zl_whole {S : Sh} {m : Mm} {K : Int → Mm → Prop} (hS : Shp S) (h1 : (m 52 8 = 2 ∨ m 52 8 = 3) → K 1 m) (h0 : ¬ (m 52 8 = 2 ∨ m 52 8 = 3) → K 0 m) : wp_X3_isFactWhole S m 52 K := by
  refine u_X3_isFactWhole ?_
  refine g_getu 8 rfl hS.k52 (fun w ew => ?_)
  refine g_C ?_
  refine g_if (fun w1 => ?_) (fun w1 => ?_)
  · refine u_X3_isFactWhole_16 ?_
    exact g_C ⟨by decide, h1 (by omega)⟩
  · refine g_getu 8 rfl hS.k52 (fun w' ew' => ?_)
    refine g_C ?_
    refine g_if (fun w2 => g_C ⟨by decide, h0 (by omega)⟩) (fun w2 => ?_)
    refine u_X3_isFactWhole_16 ?_
    exact g_C ⟨by decide, h1 (by omega)⟩
theorem ze_closeBrackets {X : Mm} {S : Sh} {m0 : Mm} {K : Mm → Prop} {b : Int → Int} {n m k : Int} {T : Int → Prop} {st : List Bool} (hS : Shp S) (hm0 : Inv X S m0) (ht : TC X b n) (hmm : m = 4 ∨ m = 5 ∨ m = 6 ∨ m = 7) (h4 : m = 4 → st = []) (lk : Lk b n T m0 m st k) (h8 : m0 52 8 = m - 4) (hk : ∀ (M1 : Mm) (m' : Int) (s' : List Bool), Inv X S M1 → (m' = 4 ∨ m' = 5 ∨ m' = 6 ∨ m' = 7) → (m' = 4 → s' = []) → Lk b n T M1 m' s' k → M1 52 8 = m' - 4 → M1 52 3 = m0 52 3 → m0 1 2 ≤ M1 1 2 → ((m' = 6 ∨ m' = 7) → ∀ q : Int, Sk b n (M1 1 2) q → ¬ (q < n ∧ b q = 93 ∧ true ∈ s')) → K M1) : wp_X3_closeBrackets S m0 52 K := by
  have nb := ht.2.1
  refine u_X3_closeBrackets ?_
  have L : ∀ (j : Nat) (M : Mm) (m' : Int) (s : List Bool), Inv X S M → (m' = 4 ∨ m' = 5 ∨ m' = 6 ∨ m' = 7) → (m' = 4 → s = []) → Lk b n T M m' s k → M 52 8 = m' - 4 → M 52 3 = m0 52 3 → m0 1 2 ≤ M 1 2 → 401 - M 1 2 ≤ (j : Int) → wp_X3_closeBrackets_0 S K j 52 M := by
    intro j
    induction j with
    | zero =>
      intro M m' s hm _ _ lk _ _ _ h
      have := lk.2.2.1
      exfalso; omega
    | succ j ih =>
      intro M m' s hm hm' h4' lk' w8 w3 w2 h
      obtain ⟨k1, k2, k3, k4, k5, k6, k7, k8⟩ := id lk'
      have b2 := hm.f_1_2
      have cn := cnt_nn s
      refine u_X3_closeBrackets_0 ?_
      refine g_getu 7 rfl hS.k52 (fun o eo => ?_)
      rw [k8] at eo
      refine g_if (fun w => ?_) (fun w => ?_)
      · refine hk M m' s hm hm' h4' lk' w8 w3 w2 (fun _ q _ z => ?_)
        exact absurd ((cnt_mem s).mp z.2.2) (fun y => y (by omega))
      · have hmem : true ∈ s := (cnt_mem s).mpr (by omega)
        refine ⟨hS.k52, ?_⟩
        refine zl_whole hS (fun wh => ?_) (fun wh => g_ifT rfl (hk M m' s hm hm' h4' lk' w8 w3 w2 (fun z => by omega)))
        have m67 : m' = 6 ∨ m' = 7 := by omega
        refine g_ifF (by decide) ?_
        refine g_getr 0 1 rfl hS.k52 hm.f_52_0 (by decide) ?_
        refine g_C ?_
        refine ⟨hS.k1, ?_⟩
        refine ze_takesSign hS hm ht k3 (by decide) (by decide) (fun q m1 hm1 f1 sk x1 x2 l1 bq => ?_) (fun q m1 hm1 f1 sk x1 x2 l1 nq => ?_)
        · refine g_ifF (by decide) ?_
          refine g_C ?_
          refine ⟨hS.k52, ?_⟩
          have cp1 : CP m1 s := k7.same (f1 52 5 (by omega)) (f1 52 6 (by omega)) (fun p => f1 54 p (by omega))
          refine ze_unpile hS hm1 cp1 k6 (fun m2 s2 hm2 f2 c2 ph pl ln _ h2 h3 => ?_)
          obtain ⟨es, -⟩ := h2 (by decide)
          obtain ⟨t, et⟩ := drop_mem s hmem
          rw [et] at es
          rw [es] at c2
          obtain ⟨p1, p2, p3, p4⟩ := id c2
          have b5 := hm2.f_52_5
          have pos : 1 ≤ m2 52 5 := by
            by_cases e : m2 52 5 = 0
            · rw [e] at p1
              cases p1
            · omega
          have top : m2 54 (m2 52 5 - 1) = -27 := (h3 (by decide)).resolve_left (by omega)
          have en : (m2 52 5).toNat = (m2 52 5 - 1).toNat + 1 := by omega
          have ct : (((m2 52 5 - 1).toNat : Nat) : Int) = m2 52 5 - 1 := by omega
          have stt : stk (m2 54) (m2 52 5 - 1).toNat = t := by
            rw [en] at p1
            have p1' : (if m2 54 (((m2 52 5 - 1).toNat : Nat) : Int) = -27 then true :: stk (m2 54) (m2 52 5 - 1).toNat else if m2 54 (((m2 52 5 - 1).toNat : Nat) : Int) = -22 then false :: stk (m2 54) (m2 52 5 - 1).toNat else stk (m2 54) (m2 52 5 - 1).toNat) = true :: t := p1
            rw [ct, if_pos top] at p1'
            injection p1'
          have okt : okp (m2 54) (m2 52 5 - 1).toNat := by rw [en] at p3; exact p3.1
          have lt : ((true :: t).length : Int) = (t.length : Int) + 1 := by rw [List.length_cons]; omega
          have ls : t.length + 1 ≤ s.length := by
            have := dropN_len s
            rw [et, List.length_cons] at this
            exact this
          refine ⟨hS.k52, ?_⟩
          refine ze_dropTop hS hm2 pos (by omega) (by omega) (fun m3 hm3 f3 y5 y6 => ?_)
          have y6' : m3 52 6 = m2 52 6 - 1 := by
            rcases y6 with z | z
            · exact z.2
            · exact absurd (Or.inl top) z.1
          refine g_getu 7 rfl hS.k52 (fun o2 eo2 => ?_)
          rw [f3 52 7 (by omega), f2 52 7 (by omega), f1 52 7 (by omega), k8] at eo2
          have lc : cnt s ≤ 10 := by
            have : ∀ l : List Bool, cnt l ≤ l.length := by
              intro l
              induction l with
              | nil => exact Int.le_refl 0
              | cons a l il =>
                cases a
                · show cnt l ≤ ((l.length + 1 : Nat) : Int); omega
                · show cnt l + 1 ≤ ((l.length + 1 : Nat) : Int); omega
            have := this s
            omega
          refine g_C ?_
          refine g_S (by omega) (by omega) ?_
          refine g_put 7 rfl hS.k52 (hm3.w_52_7 (by omega) (by omega)) (fun m4 e4 hm4 => ?_)
          have f4 : ∀ c p : Int, ¬ (c = 52 ∧ p = 7) → m4 c p = m3 c p := fun c p q => (congrFun (congrFun e4 _) _).trans (up_ne q)
          have y4 : m4 52 7 = o2 - 1 := (congrFun (congrFun e4 _) _).trans (up_at _ _ _ _)
          refine g_C ?_
          refine g_put 8 rfl hS.k52 (hm4.w_52_8 (by decide) (by decide)) (fun m5 e5 hm5 => ?_)
          have f5 : ∀ c p : Int, ¬ (c = 52 ∧ p = 8) → m5 c p = m4 c p := fun c p q => (congrFun (congrFun e5 _) _).trans (up_ne q)
          have y8 : m5 52 8 = 3 := (congrFun (congrFun e5 _) _).trans (up_at _ _ _ _)
          have G : ∀ c p : Int, ¬ (c = 52 ∧ (p = 7 ∨ p = 8)) → m5 c p = m3 c p := fun c p z => (f5 c p (by omega)).trans (f4 c p (by omega))
          have e12 : m5 1 2 = q + 1 := by rw [G 1 2 (by omega), f3 1 2 (by omega), f2 1 2 (by omega)]; exact x1
          have e3 : m5 52 3 = M 52 3 := by rw [G 52 3 (by omega), f3 52 3 (by omega), f2 52 3 (by omega), f1 52 3 (by omega)]
          have e14 : m5 1 4 = 0 := by rw [G 1 4 (by omega), f3 1 4 (by omega), f2 1 4 (by omega), f1 1 4 (by omega)]; exact k2
          have e52 : m5 52 2 = m2 52 2 := by rw [G 52 2 (by omega), f3 52 2 (by omega)]
          have e55 : m5 52 5 = m2 52 5 - 1 := by rw [G 52 5 (by omega)]; exact y5
          have e56 : m5 52 6 = m2 52 6 - 1 := by rw [G 52 6 (by omega)]; exact y6'
          have e57 : m5 52 7 = cnt s - 1 := by rw [f5 52 7 (by omega)]; omega
          have e54 : m5 54 = m2 54 := funext (fun p => by rw [G 54 p (by omega), f3 54 p (by omega)])
          rw [f1 52 2 (by omega), f1 52 5 (by omega)] at ph
          have cl := clos_of s t et
          have ctn : cnt s = cnt t + 1 := by
            rw [← dropN_cnt s, et]
            rfl
          have s1 := sk.1
          refine ih m5 7 t hm5 (by omega) (by omega) ⟨fun f hA => k1 f (a_step sk ?_), e14, by omega, by omega, by omega, by omega, ⟨by rw [e55, e54]; exact stt, by omega, by rw [e55, e54]; exact okt, fun jj j0 j1 => by rw [e54]; exact p4 jj j0 (by omega)⟩, by omega⟩ (by omega) (by omega) (by omega) (by omega)
          rw [e12, e3, ← cl] at hA
          rcases m67 with e | e
          · rw [e]; exact sp_A2 (g_ifT ⟨l1, bq, hmem⟩ hA)
          · rw [e]; exact sp_A3 (g_ifT ⟨l1, bq, hmem⟩ hA)
        · refine g_ifT rfl ?_
          have s1 := sk.1
          refine hk m1 m' s hm1 hm' h4' (lk'.move f1 sk x1 l1) ((f1 52 8 (by omega)).trans w8) ((f1 52 3 (by omega)).trans w3) (by omega) (fun _ q2 sk2 z => ?_)
          rw [x1] at sk2
          obtain rfl := sk2.uniq sk.idem
          exact nq ⟨z.1, z.2.1⟩
  have b2 := hm0.f_1_2
  exact ⟨401, L 401 m0 m st hm0 hmm h4 lk h8 rfl (by omega) (by omega)⟩
theorem ze_endsHere {X : Mm} {S : Sh} {m0 : Mm} {K : Int → Mm → Prop} {b : Int → Int} {n m : Int} {st : List Bool} (hS : Shp S) (hm0 : Inv X S m0) (ht : TC X b n) (hmm : m = 4 ∨ m = 5 ∨ m = 6 ∨ m = 7) (hp : m0 1 2 ≤ n) (h7 : m0 52 7 = cnt st) (h8 : m0 52 8 = m - 4) (h1 : ∀ (q : Int) (M1 : Mm), Inv X S M1 → (∀ c p : Int, ¬ (c = 1 ∧ 2 ≤ p ∧ p ≤ 3) → M1 c p = m0 c p) → Sk b n (m0 1 2) q → M1 1 2 = q → q ≤ n → (m = 4 ∨ ((m = 6 ∨ m = 7) ∧ ¬ true ∈ st)) → (n ≤ q ∨ b q = 59) → K 1 M1) (h0 : ∀ (q : Int) (M1 : Mm), Inv X S M1 → (∀ c p : Int, ¬ (c = 1 ∧ 2 ≤ p ∧ p ≤ 3) → M1 c p = m0 c p) → Sk b n (m0 1 2) q → Sk b n (M1 1 2) q → (M1 1 2 = m0 1 2 ∨ M1 1 2 = q) → ¬ ((m = 4 ∨ ((m = 6 ∨ m = 7) ∧ ¬ true ∈ st)) ∧ (n ≤ q ∨ b q = 59)) → K 0 M1) : wp_X3_endsHere S m0 52 K := by
  have nb := ht.2.1
  have b2 := hm0.f_1_2
  obtain ⟨q0, sk0⟩ := Sk_ex b n 400 (m0 1 2) (by omega)
  have q0n := sk0.le hp
  have may : (m = 4 ∨ ((m = 6 ∨ m = 7) ∧ ¬ true ∈ st)) → wp_X3_endsHere_21 S K 52 m0 := by
    intro hmay
    refine u_X3_endsHere_21 ?_
    refine g_C ?_
    refine u_X3_endsHere_26 ?_
    refine g_ifF (by decide) ?_
    refine g_getr 0 1 rfl hS.k52 hm0.f_52_0 (by decide) ?_
    refine ⟨hS.k1, ?_⟩
    refine u_X7_isAtEnd ?_
    refine ⟨hS.k1, ?_⟩
    refine ze_look hS hm0 ht hp (fun r q m1 hm1 f1 sk x1 x2 hq hr => ?_)
    have s1 := sk.1
    refine g_C ?_
    refine g_if (fun w => ?_) (fun w => ?_)
    · refine g_C ⟨by decide, ?_⟩
      refine g_ifF (by decide) ?_
      refine g_getr 0 1 rfl hS.k52 hm1.f_52_0 (by decide) ?_
      refine ⟨hS.k1, ?_⟩
      refine ze_look hS hm1 ht (by omega) (fun r2 q2 m2 hm2 f2 sk2 y1 y2 hq2 hr2 => ?_)
      rw [x1] at sk2
      obtain rfl := sk2.uniq sk.idem
      have qn : q2 < n := by
        rcases hr with z | z
        · exact z.1
        · exfalso; omega
      have r59 : r2 = 59 ↔ b q2 = 59 := by
        rcases hr2 with z | z
        · have tb := ht.2.2 q2 (by omega) qn
          rw [z.2]
          exact u8_eq tb.2.1 tb.2.2 (by decide) (by decide)
        · exfalso; omega
      refine g_C ?_
      refine g_if (fun w2 => ?_) (fun w2 => ?_)
      · refine g_C ⟨by decide, h0 q2 m2 hm2 (fun c p z => (f2 c p z).trans (f1 c p z)) sk (by rw [y1]; exact sk.idem) (Or.inr y1) (fun z => ?_)⟩
        rcases z.2 with z2 | z2
        · omega
        · exact w2 (r59.mpr z2)
      · refine u_X3_endsHere_53 ?_
        exact g_C ⟨by decide, h1 q2 m2 hm2 (fun c p z => (f2 c p z).trans (f1 c p z)) sk y1 hq2 hmay (Or.inr (r59.mp (by omega)))⟩
    · refine g_C ⟨by decide, ?_⟩
      refine g_ifT (by decide) ?_
      refine u_X3_endsHere_53 ?_
      refine g_C ⟨by decide, h1 q m1 hm1 f1 sk x1 hq hmay (Or.inl ?_)⟩
      rcases hr with z | z
      · have tb := ht.2.2 q (by omega) z.1
        have := u8_r tb.2.1 tb.2.2
        exfalso; omega
      · exact z.1
  have not' : ¬ (m = 4 ∨ ((m = 6 ∨ m = 7) ∧ ¬ true ∈ st)) → wp_X3_endsHere_25 S K 52 m0 := by
    intro hn
    refine u_X3_endsHere_25 ?_
    refine g_C ?_
    refine u_X3_endsHere_26 ?_
    refine g_ifT rfl ?_
    exact g_C ⟨by decide, h0 q0 m0 hm0 (fun _ _ _ => rfl) sk0 sk0 (Or.inl rfl) (fun z => hn z.1)⟩
  refine u_X3_endsHere ?_
  refine g_getu 8 rfl hS.k52 (fun w ew => ?_)
  refine g_if (fun w1 => may (Or.inl (by omega))) (fun w1 => ?_)
  refine g_getu 7 rfl hS.k52 (fun o eo => ?_)
  rw [h7] at eo
  refine g_if (fun w2 => not' (fun z => ?_)) (fun w2 => ?_)
  · rcases z with z | z
    · omega
    · exact z.2 ((cnt_mem st).mpr (by omega))
  · refine ⟨hS.k52, ?_⟩
    have nm : ¬ true ∈ st := fun z => absurd ((cnt_mem st).mp z) (fun y => y (by omega))
    exact zl_whole hS (fun wh => g_ifF (by decide) (may (Or.inr ⟨by omega, nm⟩))) (fun wh => g_ifT rfl (not' (fun z => by rcases z with z | z; omega; omega)))
def L0 (b : Int → Int) (n : Int) (T : Int → Prop) (M : Mm) (m : Int) (st : List Bool) (k d : Int) : Prop := (∀ f : Int, Acc b n m (M 1 2) (M 52 3) st k f → T f) ∧ M 1 4 = 0 ∧ M 1 2 ≤ n ∧ M 52 2 + d ≤ M 1 2 ∧ M 52 3 ≤ 60
theorem ze_readClause {X : Mm} {S : Sh} {m0 : Mm} {K : Int → Mm → Prop} {b : Int → Int} {n k : Int} {T : Int → Prop} (hS : Shp S) (hm0 : Inv X S m0) (ht : TC X b n) (l0 : L0 b n T m0 0 [] k 0) (hk0 : 0 ≤ k) (hk12 : k ≤ 12) (hf : ∀ M1 : Mm, Inv X S M1 → T (M1 1 4) → ¬ M1 1 4 = 0 → K 0 M1) (hk : ∀ (M1 : Mm) (s' : List Bool), Inv X S M1 → L0 b n T M1 9 s' (k + 1) 1 → k < 12 → K 1 M1) : wp_X3_readClause S m0 52 k K := by
  obtain ⟨k1, k2, k3, k4, k5⟩ := id l0
  have nb := ht.2.1
  have b2 := hm0.f_1_2
  have b3 := hm0.f_52_3
  have b22 := hm0.f_52_2
  refine u_X3_readClause ?_
  refine g_getr 0 1 rfl hS.k52 hm0.f_52_0 (by decide) ?_
  refine g_C ?_
  refine ⟨hS.k1, ?_⟩
  refine ze_takesWord 6 hS hm0 ht k3 (by decide) (by decide) (fun q m1 hm1 f1 sk x1 x2 l1 wk => ?_) (fun q m1 hm1 f1 sk x1 x2 l1 wk => ?_)
  · have t6 : tl 6 = 4 := by decide
    have s1 := sk.1
    refine g_ifT (by decide) ?_
    refine g_C ?_
    refine g_if (fun w => ?_) (fun w => ?_)
    · refine g_C ?_
      refine g_put 5 rfl hS.k52 (hm1.w_52_5 (by decide) (by decide)) (fun m2 e2 hm2 => ?_)
      refine g_C ?_
      refine g_put 6 rfl hS.k52 (hm2.w_52_6 (by decide) (by decide)) (fun m3 e3 hm3 => ?_)
      refine g_C ?_
      refine g_put 7 rfl hS.k52 (hm3.w_52_7 (by decide) (by decide)) (fun m4 e4 hm4 => ?_)
      refine g_C ?_
      refine g_put 8 rfl hS.k52 (hm4.w_52_8 (by decide) (by decide)) (fun m5 e5 hm5 => ?_)
      have f2 : ∀ c p : Int, ¬ (c = 52 ∧ p = 5) → m2 c p = m1 c p := fun c p q => (congrFun (congrFun e2 _) _).trans (up_ne q)
      have y2 : m2 52 5 = 0 := (congrFun (congrFun e2 _) _).trans (up_at _ _ _ _)
      have f3 : ∀ c p : Int, ¬ (c = 52 ∧ p = 6) → m3 c p = m2 c p := fun c p q => (congrFun (congrFun e3 _) _).trans (up_ne q)
      have y3 : m3 52 6 = 0 := (congrFun (congrFun e3 _) _).trans (up_at _ _ _ _)
      have f4 : ∀ c p : Int, ¬ (c = 52 ∧ p = 7) → m4 c p = m3 c p := fun c p q => (congrFun (congrFun e4 _) _).trans (up_ne q)
      have y4 : m4 52 7 = 0 := (congrFun (congrFun e4 _) _).trans (up_at _ _ _ _)
      have f5 : ∀ c p : Int, ¬ (c = 52 ∧ p = 8) → m5 c p = m4 c p := fun c p q => (congrFun (congrFun e5 _) _).trans (up_ne q)
      have y5 : m5 52 8 = 0 := (congrFun (congrFun e5 _) _).trans (up_at _ _ _ _)
      have G : ∀ c p : Int, ¬ (c = 52 ∧ 5 ≤ p ∧ p ≤ 8) → m5 c p = m1 c p := fun c p z => by rw [f5 c p (by omega), f4 c p (by omega), f3 c p (by omega), f2 c p (by omega)]
      have z5 : m5 52 5 = 0 := by rw [f5 52 5 (by omega), f4 52 5 (by omega), f3 52 5 (by omega)]; exact y2
      have z6 : m5 52 6 = 0 := by rw [f5 52 6 (by omega), f4 52 6 (by omega)]; exact y3
      have z7 : m5 52 7 = 0 := by rw [f5 52 7 (by omega)]; exact y4
      have e12 : m5 1 2 = q + 4 := by rw [G 1 2 (by omega)]; omega
      have e53 : m5 52 3 = m0 52 3 := by rw [G 52 3 (by omega), f1 52 3 (by omega)]
      have e52 : m5 52 2 = m0 52 2 := by rw [G 52 2 (by omega), f1 52 2 (by omega)]
      have lk : Lk b n T m5 1 [] (k + 1) := by
        refine ⟨fun f hA => k1 f (a_step sk (sp_0 (g_ifT wk (g_ifF (by omega) ?_)))), by rw [G 1 4 (by omega), f1 1 4 (by omega)]; exact k2, by omega, by omega, by omega, by decide, ⟨by rw [z5]; rfl, by rw [z6]; rfl, by rw [z5]; exact trivial, fun j j0 j1 => absurd j1 (by omega)⟩, by rw [z7]; rfl⟩
        rw [e12, e53] at hA
        exact hA
      refine g_C ?_
      have L : ∀ (j : Nat) (u : Int) (M : Mm) (m : Int) (s : List Bool), Inv X S M → (m = 1 ∨ m = 2 ∨ m = 3) → (m = 1 → s = []) → Lk b n T M m s (k + 1) → M 52 8 = m - 1 → 0 ≤ u → u ≤ M 52 3 → 61 - u ≤ (j : Int) → wp_X3_readClause_58 S K j 52 u M := by
        intro j
        induction j with
        | zero =>
          intro u M m s _ _ _ lk _ _ h1 h2
          have := lk.2.2.2.2.1
          exfalso; omega
        | succ j ih =>
          intro u M m s hm hmv h1' lk w8 u0 u1 h
          have p60 := lk.2.2.2.2.1
          refine u_X3_readClause_58 ?_
          refine g_C ?_
          refine g_ifF (by omega) ?_
          refine ⟨hS.k52, ?_⟩
          refine ze_readValue hS hm ht hmv lk (fun m6 hm6 t6 n6 => g_ifF (by decide) (g_C ⟨by decide, hf m6 hm6 t6 n6⟩)) (fun m6 hm6 f6 lk6 w3 _ => ?_)
          refine g_ifT (by decide) ?_
          refine ⟨hS.k52, ?_⟩
          refine ze_closeBrackets hS hm6 ht (m := m + 3) (by omega) (fun e => h1' (by omega)) lk6 (by rw [f6 52 8 (by omega)]; omega) (fun m7 mm s7 hm7 hmm h47 lk7 w87 w37 _ nc => ?_)
          refine ⟨hS.k52, ?_⟩
          obtain ⟨c1, c2, c3, c4, c5, c6, c7, c8⟩ := id lk7
          refine ze_endsHere (st := s7) hS hm7 ht hmm c3 c8 w87 (fun q7 m8 hm8 f8 sk8 y1 l8 may en => ?_) (fun q7 m8 hm8 f8 sk8 sk8' y1 hno => ?_)
          · refine g_ifF (by decide) ?_
            refine g_C ?_
            refine ⟨hS.k52, ?_⟩
            have cp8 : CP m8 s7 := c7.same (f8 52 5 (by omega)) (f8 52 6 (by omega)) (fun p => f8 54 p (by omega))
            refine ze_unpile hS hm8 cp8 c6 (fun m9 s9 hm9 f9 c9 ph pl ln _ _ _ => ?_)
            have b59 := hm9.f_52_5
            have fin : ∀ v : Int, wp_X3_readClause_105 S K 52 v m9 := by
              intro v
              refine u_X3_readClause_105 ?_
              refine ⟨hS.k52, ?_⟩
              refine z_X3_write hS hm9 (fun ma hma fa ya => ?_)
              have ea : ma 1 2 = q7 := by rw [fa 1 2 (by omega), f9 1 2 (by omega)]; exact y1
              have ea3 : ma 52 3 = m7 52 3 := by rw [fa 52 3 (by omega), f9 52 3 (by omega), f8 52 3 (by omega)]
              rw [f8 52 2 (by omega), f8 52 5 (by omega)] at ph
              have sq := sk8.1
              refine g_C ⟨by decide, hk ma s7 hma ⟨fun f hA => c1 f (a_step sk8 ?_), by rw [fa 1 4 (by omega), f9 1 4 (by omega), f8 1 4 (by omega)]; exact c2, by omega, by omega, by omega⟩ w⟩
              rw [ea, ea3] at hA
              rcases may with e | ⟨e, e2⟩
              · rw [e]; exact sp_A0 (g_ifT en hA)
              · rcases e with e | e
                · rw [e]; exact sp_A2 (g_ifF (nc (Or.inl e) q7 sk8) (g_ifT ⟨e2, en⟩ hA))
                · rw [e]; exact sp_A3 (g_ifF (nc (Or.inr e) q7 sk8) (g_ifT ⟨e2, en⟩ hA))
            refine g_getu 8 rfl hS.k52 (fun w9 ew9 => ?_)
            exact g_if (fun w10 => g_C (fin _)) (fun w10 => g_C (fin _))
          · refine g_ifT rfl ?_
            refine ⟨hS.k52, ?_⟩
            have lk8 : Lk b n T m8 mm s7 (k + 1) := by
              rcases y1 with z | z
              · obtain ⟨c1, c2, c3, c4, c5, c6, c7, c8⟩ := lk7
                refine ⟨fun f hA => c1 f ?_, (f8 1 4 (by omega)).trans c2, by omega, by rw [f8 52 2 (by omega), f8 52 5 (by omega)]; omega, by rw [f8 52 3 (by omega)]; exact c5, c6, c7.same (f8 52 5 (by omega)) (f8 52 6 (by omega)) (fun p => f8 54 p (by omega)), (f8 52 7 (by omega)).trans c8⟩
                rw [z, f8 52 3 (by omega)] at hA
                exact hA
              · exact lk7.move f8 sk8 z (sk8.le c3)
            have e83 : m8 52 3 = m7 52 3 := f8 52 3 (by omega)
            refine ze_readJoint hS hm8 ht hmm h47 lk8 ((f8 52 8 (by omega)).trans w87) sk8' ⟨fun e z => hno ⟨Or.inl e, z⟩, fun e => ⟨nc e q7 sk8, fun z => hno ⟨Or.inr ⟨e, z.1⟩, z.2⟩⟩⟩ (fun m9 hm9 t9 n9 => g_ifF (by decide) (g_C ⟨by decide, hf m9 hm9 t9 n9⟩)) (fun m9 m' s9 hm9 hm' h19 lk9 w89 w39 => ?_)
            refine g_ifT (by decide) ?_
            refine g_A (by omega) (by omega) ?_
            exact ih (u + 1) m9 m' s9 hm9 hm' h19 lk9 w89 (by omega) (by omega) (by omega)
      exact ⟨61, L 61 0 m5 1 [] hm5 (by decide) (fun _ => rfl) lk (by omega) (by decide) (by omega) (by decide)⟩
    · refine g_getr 0 1 rfl hS.k52 hm1.f_52_0 (by decide) ?_
      refine g_C ?_
      refine ze_refuse0 (q := q) hS hm1 ((f1 1 4 (by omega)).trans k2) x2 (by omega) (by decide) (by decide) ?_ hf
      exact k1 _ (a_step sk (sp_0 (g_ifT wk (g_ifT (by omega) (by omega)))))
  · have s1 := sk.1
    refine g_ifF (by decide) ?_
    refine g_getr 0 1 rfl hS.k52 hm1.f_52_0 (by decide) ?_
    refine g_C ?_
    refine ze_refuse0 (q := q) hS hm1 ((f1 1 4 (by omega)).trans k2) x2 (by omega) (by decide) (by decide) ?_ hf
    rw [Int.add_zero]
    exact k1 _ (a_step sk (sp_0 (g_ifF wk rfl)))
/-- the class's reading of a rule ends as Acc says -/
theorem ze_read {X : Mm} {S : Sh} {m0 : Mm} {K : Int → Mm → Prop} {b : Int → Int} {n : Int} (hS : Shp S) (hm0 : Inv X S m0) (ht : TC X b n) (hf : ∀ M1 : Mm, Inv X S M1 → Acc b n 0 0 0 [] 0 (M1 1 4) → ¬ M1 1 4 = 0 → K 0 M1) (hk : ∀ M1 : Mm, Inv X S M1 → Acc b n 0 0 0 [] 0 0 → M1 52 2 ≤ 399 → K 1 M1) : wp_X3_read S m0 52 K := by
  have nb := ht.2.1
  refine u_X3_read ?_
  refine g_C ?_
  refine g_put 2 rfl hS.k52 (hm0.w_52_2 (by decide) (by decide)) (fun m1 e1 hm1 => ?_)
  refine g_C ?_
  refine g_put 3 rfl hS.k52 (hm1.w_52_3 (by decide) (by decide)) (fun m2 e2 hm2 => ?_)
  refine g_getr 0 1 rfl hS.k52 hm2.f_52_0 (by decide) ?_
  refine ⟨hS.k1, ?_⟩
  refine u_X7_rewind ?_
  refine g_C ?_
  refine g_put 2 rfl hS.k1 (hm2.w_1_2 (by decide) (by decide)) (fun m3 e3 hm3 => ?_)
  refine g_C ?_
  refine g_put 3 rfl hS.k1 (hm3.w_1_3 (by decide) (by decide)) (fun m4 e4 hm4 => ?_)
  refine g_C ?_
  refine g_put 4 rfl hS.k1 (hm4.w_1_4 (by decide) (by decide)) (fun m5 e5 hm5 => ?_)
  have f1 : ∀ c p : Int, ¬ (c = 52 ∧ p = 2) → m1 c p = m0 c p := fun c p q => (congrFun (congrFun e1 _) _).trans (up_ne q)
  have y1 : m1 52 2 = 0 := (congrFun (congrFun e1 _) _).trans (up_at _ _ _ _)
  have f2 : ∀ c p : Int, ¬ (c = 52 ∧ p = 3) → m2 c p = m1 c p := fun c p q => (congrFun (congrFun e2 _) _).trans (up_ne q)
  have y2 : m2 52 3 = 0 := (congrFun (congrFun e2 _) _).trans (up_at _ _ _ _)
  have f3 : ∀ c p : Int, ¬ (c = 1 ∧ p = 2) → m3 c p = m2 c p := fun c p q => (congrFun (congrFun e3 _) _).trans (up_ne q)
  have y3 : m3 1 2 = 0 := (congrFun (congrFun e3 _) _).trans (up_at _ _ _ _)
  have f4 : ∀ c p : Int, ¬ (c = 1 ∧ p = 3) → m4 c p = m3 c p := fun c p q => (congrFun (congrFun e4 _) _).trans (up_ne q)
  have f5 : ∀ c p : Int, ¬ (c = 1 ∧ p = 4) → m5 c p = m4 c p := fun c p q => (congrFun (congrFun e5 _) _).trans (up_ne q)
  have y5 : m5 1 4 = 0 := (congrFun (congrFun e5 _) _).trans (up_at _ _ _ _)
  have z2 : m5 1 2 = 0 := by rw [f5 1 2 (by omega), f4 1 2 (by omega)]; exact y3
  have z3 : m5 52 3 = 0 := by rw [f5 52 3 (by omega), f4 52 3 (by omega), f3 52 3 (by omega)]; exact y2
  have z22 : m5 52 2 = 0 := by rw [f5 52 2 (by omega), f4 52 2 (by omega), f3 52 2 (by omega), f2 52 2 (by omega)]; exact y1
  refine g_C ?_
  have L : ∀ (j : Nat) (k : Int) (M : Mm), Inv X S M → L0 b n (Acc b n 0 0 0 [] 0) M 0 [] k 0 → 0 ≤ k → k ≤ 12 → 13 - k ≤ (j : Int) → wp_X3_read_19 S K j 52 k M := by
    intro j
    induction j with
    | zero => intro k M _ _ _ _ h; exfalso; omega
    | succ j ih =>
      intro k M hm l0 h0 h12 h
      refine u_X3_read_19 ?_
      refine g_C ?_
      refine g_ifF (by omega) ?_
      refine ⟨hS.k52, ?_⟩
      refine ze_readClause hS hm ht l0 h0 h12 (fun m6 hm6 t6 n6 => g_ifF (by decide) (g_C ⟨by decide, hf m6 hm6 t6 n6⟩)) (fun m6 s6 hm6 l6 h6 => ?_)
      obtain ⟨k1, k2, k3, k4, k5⟩ := id l6
      have b26 := hm6.f_1_2
      have b22 := hm6.f_52_2
      refine g_ifT (by decide) ?_
      refine g_getr 0 1 rfl hS.k52 hm6.f_52_0 (by decide) ?_
      refine ⟨hS.k1, ?_⟩
      refine u_X7_isAtEnd ?_
      refine ⟨hS.k1, ?_⟩
      refine ze_look hS hm6 ht k3 (fun r q m7 hm7 f7 sk x1 x2 hq hr => ?_)
      have s1 := sk.1
      refine g_C ?_
      refine g_if (fun w => ?_) (fun w => ?_)
      · refine g_C ⟨by decide, ?_⟩
        refine g_ifT rfl ?_
        have qn : q < n := by
          rcases hr with z | z
          · exact z.1
          · exfalso; omega
        refine g_getr 0 1 rfl hS.k52 hm7.f_52_0 (by decide) ?_
        refine g_C ?_
        refine ⟨hS.k1, ?_⟩
        refine ze_takesSign hS hm7 ht (by omega) (by decide) (by decide) (fun q2 m8 hm8 f8 sk8 w1 w2 l8 bq => ?_) (fun q2 m8 hm8 f8 sk8 w1 w2 l8 nq => ?_)
        · rw [x1] at sk8
          obtain rfl := sk8.uniq sk.idem
          refine g_ifT (by decide) ?_
          refine g_A (by omega) (by omega) ?_
          have F : ∀ c p : Int, ¬ (c = 1 ∧ 2 ≤ p ∧ p ≤ 3) → m8 c p = m6 c p := fun c p z => (f8 c p z).trans (f7 c p z)
          refine ih (k + 1) m8 hm8 ⟨fun f hA => k1 f (a_step sk (sp_E (g_ifF (by omega) (g_ifT bq ?_)))), (F 1 4 (by omega)).trans k2, by omega, by rw [F 52 2 (by omega)]; omega, by rw [F 52 3 (by omega)]; exact k5⟩ (by omega) (by omega) (by omega)
          rw [w1, F 52 3 (by omega)] at hA
          exact hA
        · rw [x1] at sk8
          obtain rfl := sk8.uniq sk.idem
          refine g_ifF (by decide) ?_
          refine g_getr 0 1 rfl hS.k52 hm8.f_52_0 (by decide) ?_
          refine g_C ?_
          refine ze_refuse0 (q := q2) hS hm8 (by rw [f8 1 4 (by omega), f7 1 4 (by omega)]; exact k2) w2 (by omega) (by decide) (by decide) ?_ hf
          rw [Int.add_zero]
          exact k1 _ (a_step sk (sp_E (g_ifF (by omega) (g_ifF (fun z => nq ⟨qn, z⟩) rfl))))
      · refine g_C ⟨by decide, ?_⟩
        refine g_ifF (by decide) ?_
        have qn : n ≤ q := by
          rcases hr with z | z
          · have tb := ht.2.2 q (by omega) z.1
            have := u8_r tb.2.1 tb.2.2
            exfalso; omega
          · exact z.1
        refine g_C ⟨by decide, hk m7 hm7 (k1 0 (a_step sk (sp_E (g_ifT qn rfl)))) ?_⟩
        rw [f7 52 2 (by omega)]
        omega
  exact ⟨13, L 13 0 m5 hm5 ⟨fun f hA => by rw [z2, z3] at hA; exact hA, y5, by omega, by omega, by omega⟩ (by decide) (by decide) (by decide)⟩
