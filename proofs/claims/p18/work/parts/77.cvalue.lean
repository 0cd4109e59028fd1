/-! the class's rule reader, held against Acc -/
theorem Acc.back {b : Int → Int} {n m p q c : Int} {st : List Bool} {k f : Int} (hs : Sk b n p q) (h : Acc b n m q c st k f) : Acc b n m p c st k f := by
  obtain ⟨N, h⟩ := h
  cases N with
  | zero => exact h.elim
  | succ N =>
    obtain ⟨r, hr, h⟩ := h
    have e := hr.uniq hs.idem
    subst e
    exact ⟨N + 1, r, hs, h⟩
theorem sp_V {b : Int → Int} {n : Int} {A : Ac} {m q c : Int} {st : List Bool} {k f : Int} (hm : m = 1 ∨ m = 2 ∨ m = 3) (h : stV b n A m q c st k f) : stp b n A m q c st k f := g_ifF (by omega) (g_ifT hm h)
theorem sp_0 {b : Int → Int} {n : Int} {A : Ac} {q c : Int} {st : List Bool} {k f : Int} (h : st0 b n A q c k f) : stp b n A 0 q c st k f := g_ifT rfl h
theorem sp_A0 {b : Int → Int} {n : Int} {A : Ac} {q c : Int} {st : List Bool} {k f : Int} (h : stA0 b n A q c st k f) : stp b n A 4 q c st k f := g_ifF (by decide) (g_ifF (by decide) (g_ifT rfl h))
theorem sp_A1 {b : Int → Int} {n : Int} {A : Ac} {q c : Int} {st : List Bool} {k f : Int} (h : stA1 b n A q c st k f) : stp b n A 5 q c st k f := g_ifF (by decide) (g_ifF (by decide) (g_ifF (by decide) (g_ifT rfl h)))
theorem sp_A2 {b : Int → Int} {n : Int} {A : Ac} {q c : Int} {st : List Bool} {k f : Int} (h : stA2 b n A q c st k f) : stp b n A 6 q c st k f := g_ifF (by decide) (g_ifF (by decide) (g_ifF (by decide) (g_ifF (by decide) (g_ifT rfl h))))
theorem sp_A3 {b : Int → Int} {n : Int} {A : Ac} {q c : Int} {st : List Bool} {k f : Int} (h : stA3 b n A q c st k f) : stp b n A 7 q c st k f := g_ifF (by decide) (g_ifF (by decide) (g_ifF (by decide) (g_ifF (by decide) (g_ifF (by decide) (g_ifT rfl h)))))
theorem sp_O {b : Int → Int} {n : Int} {A : Ac} {q c : Int} {st : List Bool} {k f : Int} (h : stO b n A q c st k f) : stp b n A 8 q c st k f := g_ifF (by decide) (g_ifF (by decide) (g_ifF (by decide) (g_ifF (by decide) (g_ifF (by decide) (g_ifF (by decide) (g_ifT rfl h))))))
theorem sp_E {b : Int → Int} {n : Int} {A : Ac} {q c : Int} {st : List Bool} {k f : Int} (h : stE b n A q c k f) : stp b n A 9 q c st k f := g_ifF (by decide) (g_ifF (by decide) (g_ifF (by decide) (g_ifF (by decide) (g_ifF (by decide) (g_ifF (by decide) (g_ifF (by decide) h))))))
theorem vch_hit {b : Int → Int} {n : Int} {A : Ac} {m q c : Int} {st : List Bool} {k f : Int} : ∀ (l : List Nat) (i : Nat), i < l.length → (∀ j : Nat, j < i → ¬ Wk b n (l.getD j 0) q) → Wk b n (l.getD i 0) q → wIf (c = 60) (f = 4 + 8 * q) (A (m + 3) (q + tl (l.getD i 0)) (c + 1) st k f) → vch b n A m q c st k f l := by
  intro l
  induction l with
  | nil => intro i hi; exact absurd hi (Nat.not_lt_zero i)
  | cons a l ih =>
    intro i hi h1 h2 h3
    cases i with
    | zero => exact g_ifT h2 h3
    | succ i =>
      refine g_ifF (h1 0 (Nat.succ_pos i)) ?_
      exact ih i (Nat.lt_of_succ_lt_succ hi) (fun j hj => h1 (j + 1) (Nat.succ_lt_succ hj)) h2 h3
theorem vch_miss {b : Int → Int} {n : Int} {A : Ac} {m q c : Int} {st : List Bool} {k : Int} : ∀ l : List Nat, (∀ j : Nat, j < l.length → ¬ Wk b n (l.getD j 0) q) → vch b n A m q c st k (1 + 8 * q) l := by
  intro l
  induction l with
  | nil => intro _; rfl
  | cons a l ih =>
    intro h
    exact g_ifF (h 0 (Nat.succ_pos _)) (ih (fun j hj => h (j + 1) (Nat.succ_lt_succ hj)))
/-- the class has come so far: T is how it must end -/
def Lk (b : Int → Int) (n : Int) (T : Int → Prop) (M : Mm) (m : Int) (st : List Bool) (k : Int) : Prop := (∀ f : Int, Acc b n m (M 1 2) (M 52 3) st k f → T f) ∧ M 1 4 = 0 ∧ M 1 2 ≤ n ∧ M 52 2 + M 52 5 + 2 ≤ M 1 2 ∧ M 52 3 ≤ 60 ∧ st.length ≤ 10 ∧ CP M st ∧ M 52 7 = cnt st
theorem Lk.move {b : Int → Int} {n : Int} {T : Int → Prop} {M M1 : Mm} {m k q : Int} {st : List Bool} (h : Lk b n T M m st k) (f : ∀ c p : Int, ¬ (c = 1 ∧ 2 ≤ p ∧ p ≤ 3) → M1 c p = M c p) (hs : Sk b n (M 1 2) q) (hq : M1 1 2 = q) (hn : q ≤ n) : Lk b n T M1 m st k := by
  obtain ⟨h1, h2, h3, h4, h5, h6, h7, h8⟩ := h
  refine ⟨fun g z => h1 g ?_, (f 1 4 (by omega)).trans h2, by omega, ?_, by rw [f 52 3 (by omega)]; exact h5, h6, h7.same (f 52 5 (by omega)) (f 52 6 (by omega)) (fun p => f 54 p (by omega)), (f 52 7 (by omega)).trans h8⟩
  · rw [hq, f 52 3 (by omega)] at z
    exact Acc.back hs z
  · rw [f 52 2 (by omega), f 52 5 (by omega)]
    have := hs.1
    omega
theorem vws_t : ∀ i : Nat, i < 10 → vws.getD i 0 < 17 := by decide
theorem ze_takeValueWord {X : Mm} {S : Sh} {m0 : Mm} {K : Int → Mm → Prop} {b : Int → Int} {n q : Int} (hS : Shp S) (hm0 : Inv X S m0) (ht : TC X b n) (hq : m0 1 2 = q) (hqn : q ≤ n) (sq : Sk b n q q) (h1 : ∀ (i : Nat) (v : Int) (M1 : Mm), i < 10 → (∀ j : Nat, j < i → ¬ Wk b n (vws.getD j 0) q) → Wk b n (vws.getD i 0) q → Inv X S M1 → (∀ c p : Int, ¬ (c = 1 ∧ 2 ≤ p ∧ p ≤ 3) → M1 c p = m0 c p) → M1 1 2 = q + tl (vws.getD i 0) → M1 1 3 = q → q + tl (vws.getD i 0) ≤ n → ¬ v = -1 → K v M1) (h0 : ∀ M1 : Mm, (∀ j : Nat, j < 10 → ¬ Wk b n (vws.getD j 0) q) → Inv X S M1 → (∀ c p : Int, ¬ (c = 1 ∧ 2 ≤ p ∧ p ≤ 3) → M1 c p = m0 c p) → M1 1 2 = q → M1 1 3 = q → K (-1) M1) : wp_X3_takeValueWord S m0 52 K := by
  refine u_X3_takeValueWord ?_
  refine g_C ?_
  have L : ∀ (k : Nat) (i : Nat) (m : Mm), i ≤ 10 → (∀ j : Nat, j < i → ¬ Wk b n (vws.getD j 0) q) → Inv X S m → (∀ c p : Int, ¬ (c = 1 ∧ 2 ≤ p ∧ p ≤ 3) → m c p = m0 c p) → m 1 2 = q → (i = 0 ∨ m 1 3 = q) → 11 - (i : Int) ≤ (k : Int) → wp_X3_takeValueWord_2 S K k 52 (i : Int) m := by
    intro k
    induction k with
    | zero => intro i m hi _ _ _ _ _ h; exfalso; omega
    | succ k ih =>
      intro i m hi hn hm F a2 a3 h
      refine u_X3_takeValueWord_2 ?_
      refine g_C ?_
      refine g_if (fun w => ?_) (fun w => ?_)
      · have e : i = 10 := by omega
        rw [e] at hn
        exact g_C (h0 m hn hm F a2 (a3.resolve_left (by omega)))
      · refine g_getr 0 1 rfl hS.k52 hm.f_52_0 (by decide) ?_
        have go : ∀ u : Int, u = -3 - ((vws.getD i 0 : Nat) : Int) → isK S 1 7 ∧ (wp_X7_takesWord S m 1 u fun v11 M10 => wIf (v11 = 0) (wA (i : Int) 1 fun v13 => wp_X3_takeValueWord_2 S K k 52 v13 M10) (wC (-2) fun v15 => wS v15 (i : Int) fun v17 => K v17 M10)) := by
          intro u hu
          refine ⟨hS.k1, ?_⟩
          refine ze_takesWord (vws.getD i 0) hS hm ht (by omega) (vws_t i (by omega)) hu (fun q' m1 hm1 f1 sk x1 x2 l1 wk => ?_) (fun q' m1 hm1 f1 sk x1 x2 l1 wk => ?_)
          · rw [a2] at sk
            have e := sk.uniq sq
            subst e
            refine g_ifF (by decide) ?_
            refine g_C ?_
            refine g_S (by omega) (by omega) ?_
            exact h1 i _ m1 (by omega) hn wk hm1 (fun c p z => (f1 c p z).trans (F c p z)) x1 x2 l1 (by omega)
          · rw [a2] at sk
            have e := sk.uniq sq
            subst e
            refine g_ifT rfl ?_
            refine g_A (by omega) (by omega) ?_
            rw [show (i : Int) + 1 = ((i + 1 : Nat) : Int) by omega]
            refine ih (i + 1) m1 (by omega) (fun j hj => ?_) hm1 (fun c p z => (f1 c p z).trans (F c p z)) x1 (Or.inr x2) (by omega)
            by_cases ej : j = i
            · rw [ej]; exact wk
            · exact hn j (by omega)
        refine u_X10_nameOf ?_
        rcases (show i = 0 ∨ i = 1 ∨ i = 2 ∨ i = 3 ∨ i = 4 ∨ i = 5 ∨ i = 6 ∨ i = 7 ∨ i = 8 ∨ i = 9 by omega) with e | e | e | e | e | e | e | e | e | e <;> subst e
        · exact g_ifT (by decide) (g_C (go _ (by decide)))
        · exact g_ifF (by decide) (g_ifT (by decide) (g_C (go _ (by decide))))
        · exact g_ifF (by decide) (g_ifF (by decide) (g_ifT (by decide) (g_C (go _ (by decide)))))
        · exact g_ifF (by decide) (g_ifF (by decide) (g_ifF (by decide) (g_ifT (by decide) (g_C (go _ (by decide))))))
        · exact g_ifF (by decide) (g_ifF (by decide) (g_ifF (by decide) (g_ifF (by decide) (g_ifT (by decide) (g_C (go _ (by decide)))))))
        · exact g_ifF (by decide) (g_ifF (by decide) (g_ifF (by decide) (g_ifF (by decide) (g_ifF (by decide) (g_ifT (by decide) (g_C (go _ (by decide))))))))
        · exact g_ifF (by decide) (g_ifF (by decide) (g_ifF (by decide) (g_ifF (by decide) (g_ifF (by decide) (g_ifF (by decide) (g_ifT (by decide) (g_C (go _ (by decide)))))))))
        · exact g_ifF (by decide) (g_ifF (by decide) (g_ifF (by decide) (g_ifF (by decide) (g_ifF (by decide) (g_ifF (by decide) (g_ifF (by decide) (g_ifT (by decide) (g_C (go _ (by decide))))))))))
        · exact g_ifF (by decide) (g_ifF (by decide) (g_ifF (by decide) (g_ifF (by decide) (g_ifF (by decide) (g_ifF (by decide) (g_ifF (by decide) (g_ifF (by decide) (g_ifT (by decide) (g_C (go _ (by decide)))))))))))
        · exact g_ifF (by decide) (g_ifF (by decide) (g_ifF (by decide) (g_ifF (by decide) (g_ifF (by decide) (g_ifF (by decide) (g_ifF (by decide) (g_ifF (by decide) (g_ifF (by decide) (g_C (go _ (by decide)))))))))))
  exact ⟨11, L 11 0 m0 (by decide) (fun j hj => absurd hj (Nat.not_lt_zero j)) hm0 (fun _ _ _ => rfl) hq (Or.inl rfl) (by decide)⟩
theorem ze_readValue {X : Mm} {S : Sh} {m0 : Mm} {K : Int → Mm → Prop} {b : Int → Int} {n m k : Int} {T : Int → Prop} {st : List Bool} (hS : Shp S) (hm0 : Inv X S m0) (ht : TC X b n) (hmm : m = 1 ∨ m = 2 ∨ m = 3) (lk : Lk b n T m0 m st k) (hf : ∀ M1 : Mm, Inv X S M1 → T (M1 1 4) → ¬ M1 1 4 = 0 → K 0 M1) (hk : ∀ M1 : Mm, Inv X S M1 → (∀ c p : Int, ¬ (c = 52 ∧ (p = 2 ∨ p = 3)) ∧ ¬ c = 53 ∧ ¬ (c = 1 ∧ 2 ≤ p ∧ p ≤ 3) → M1 c p = m0 c p) → Lk b n T M1 (m + 3) st k → M1 52 3 = m0 52 3 + 1 → m0 1 2 < M1 1 2 → K 1 M1) : wp_X3_readValue S m0 52 K := by
  obtain ⟨k1, k2, k3, k4, k5, k6, k7, k8⟩ := id lk
  have b3 := hm0.f_52_3
  have b20 := hm0.f_1_2
  have nb := ht.2.1
  -- behind a value that was taken: from q to r
  have last : ∀ (q r v : Int) (m1 : Mm), Inv X S m1 → (∀ c p : Int, ¬ (c = 1 ∧ 2 ≤ p ∧ p ≤ 3) → m1 c p = m0 c p) → Sk b n (m0 1 2) q → m1 1 3 = q → m1 1 2 = r → q < r → r ≤ n → ¬ v = -1 → (∀ f : Int, wIf (m0 52 3 = 60) (f = 4 + 8 * q) (Acc b n (m + 3) r (m0 52 3 + 1) st k f) → T f) → wp_X3_readValue_27 S K 52 v m1 := by
    intro q r v m1 hm1 f1 sk x3 x2 hqr hrn hv hT
    have s1 := sk.1
    refine u_X3_readValue_27 ?_
    refine g_C ?_
    refine g_ifT hv ?_
    refine g_getu 3 rfl hS.k52 (fun a ea => ?_)
    rw [f1 52 3 (by omega)] at ea
    refine g_C ?_
    refine g_if (fun w => ?_) (fun w => ?_)
    · refine g_getu 3 rfl hS.k52 (fun a2 ea2 => ?_)
      rw [f1 52 3 (by omega)] at ea2
      refine g_C ?_
      refine g_A (by omega) (by omega) ?_
      refine g_put 3 rfl hS.k52 (hm1.w_52_3 (by omega) (by omega)) (fun m2 e2 hm2 => ?_)
      have f2 : ∀ c p : Int, ¬ (c = 52 ∧ p = 3) → m2 c p = m1 c p := fun c p q => (congrFun (congrFun e2 _) _).trans (up_ne q)
      have y2 : m2 52 3 = a2 + 1 := (congrFun (congrFun e2 _) _).trans (up_at _ _ _ _)
      refine ⟨hS.k52, ?_⟩
      refine z_X3_write hS hm2 (fun m3 hm3 f3 y3 => ?_)
      have F : ∀ c p : Int, ¬ (c = 52 ∧ (p = 2 ∨ p = 3)) ∧ ¬ c = 53 ∧ ¬ (c = 1 ∧ 2 ≤ p ∧ p ≤ 3) → m3 c p = m0 c p := fun c p z => by rw [f3 c p (by omega), f2 c p (by omega), f1 c p (by omega)]
      have z3 : m3 52 3 = m0 52 3 + 1 := by rw [f3 52 3 (by omega)]; omega
      have z2 : m3 1 2 = r := by rw [f3 1 2 (by omega), f2 1 2 (by omega)]; exact x2
      have z22 : m3 52 2 ≤ m0 52 2 + 1 := by
        rw [f2 52 2 (by omega), f1 52 2 (by omega)] at y3
        exact y3
      refine g_C ⟨by decide, hk m3 hm3 F ⟨fun f hA => hT f ?_, (F 1 4 (by omega)).trans k2, by omega, ?_, by omega, k6, k7.same (F 52 5 (by omega)) (F 52 6 (by omega)) (fun p => F 54 p (by omega)), (F 52 7 (by omega)).trans k8⟩ z3 (by omega)⟩
      · rw [z2, z3] at hA
        exact g_ifF (by omega) hA
      · rw [F 52 5 (by omega)]
        omega
    · refine g_getr 0 1 rfl hS.k52 hm1.f_52_0 (by decide) ?_
      refine g_C ?_
      refine ⟨hS.k1, ?_⟩
      refine ze_refuse hS hm1 (by decide) (by decide) (fun m2 hm2 f2 y2 => ?_)
      rw [f1 1 4 (by omega)] at y2
      have y3 : m2 1 4 = 4 + 8 * q := by omega
      refine ⟨by decide, hf m2 hm2 ?_ (by omega)⟩
      rw [y3]
      exact hT _ (g_ifT (by omega) rfl)
  refine u_X3_readValue ?_
  refine g_getr 0 1 rfl hS.k52 hm0.f_52_0 (by decide) ?_
  refine ⟨hS.k1, ?_⟩
  refine ze_isAtDigit hS hm0 ht k3 (fun q m1 hm1 f1 sk x1 x2 hq hd => ?_) (fun q m1 hm1 f1 sk x1 x2 hq hd => ?_)
  · refine g_ifF (by decide) ?_
    refine g_getr 0 1 rfl hS.k52 hm1.f_52_0 (by decide) ?_
    refine g_C ?_
    refine g_C ?_
    refine ⟨hS.k1, ?_⟩
    refine ze_takeNumber hS hm1 ht x1 hq hd (fun r v m2 hm2 f2 dr d5 y1 y2 v0 v1 rn qr => ?_) (fun r m2 hm2 f2 dr d5 y1 y2 rn y4 => ?_)
    · refine last q r v m2 hm2 (fun c p z => (f2 c p z).trans (f1 c p z)) sk y2 y1 qr rn (by omega) (fun f hA => k1 f (a_step sk (sp_V hmm (g_ifT ⟨hq, hd⟩ ⟨r, dr, g_ifF (by omega) hA⟩))))
    · refine u_X3_readValue_27 ?_
      refine g_C ?_
      refine g_ifF (by decide) ?_
      refine g_getr 0 1 rfl hS.k52 hm2.f_52_0 (by decide) ?_
      refine g_C ?_
      refine ⟨hS.k1, ?_⟩
      refine ze_refuse hS hm2 (by decide) (by decide) (fun m3 hm3 f3 y5 => ?_)
      rw [f1 1 4 (by omega)] at y4
      have y6 : m3 1 4 = 2 + 8 * q := by omega
      refine ⟨by decide, hf m3 hm3 ?_ (by have := sk.1; omega)⟩
      rw [y6]
      exact k1 _ (a_step sk (sp_V hmm (g_ifT ⟨hq, hd⟩ ⟨r, dr, g_ifT d5 rfl⟩)))
  · refine g_ifT rfl ?_
    refine ⟨hS.k52, ?_⟩
    refine ze_takeValueWord hS hm1 ht x1 hq sk.idem (fun i v m2 hi hn wk hm2 f2 y1 y2 rn hv => ?_) (fun m2 hn hm2 f2 y1 y2 => ?_)
    · have tr := tl_r _ (vws_t i hi)
      refine last q _ v m2 hm2 (fun c p z => (f2 c p z).trans (f1 c p z)) sk y2 y1 (by omega) rn hv (fun f hA => k1 f (a_step sk (sp_V hmm (g_ifF hd (vch_hit vws i hi hn wk hA)))))
    · refine u_X3_readValue_27 ?_
      refine g_C ?_
      refine g_ifF (by decide) ?_
      refine g_getr 0 1 rfl hS.k52 hm2.f_52_0 (by decide) ?_
      refine g_C ?_
      refine ⟨hS.k1, ?_⟩
      refine ze_refuse hS hm2 (by decide) (by decide) (fun m3 hm3 f3 y5 => ?_)
      rw [f2 1 4 (by omega), f1 1 4 (by omega)] at y5
      have y6 : m3 1 4 = 1 + 8 * q := by omega
      refine ⟨by decide, hf m3 hm3 ?_ (by have := sk.1; omega)⟩
      rw [y6]
      exact k1 _ (a_step sk (sp_V hmm (g_ifF hd (vch_miss vws hn))))
