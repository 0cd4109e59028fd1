/-! the class's rule reader with what it writes, held against Bcc -/
theorem Bcc.back {b : Int → Int} {n m p q c : Int} {P O : List Int} {k f : Int} {E : List Int} (hs : Sk b n p q) (h : Bcc b n m q c P O k f E) : Bcc b n m p c P O k f E := by
  obtain ⟨N, h⟩ := h
  cases N with
  | zero => exact h.elim
  | succ N =>
    obtain ⟨r, hr, h⟩ := h
    have e := hr.uniq hs.idem
    subst e
    exact ⟨N + 1, r, hs, h⟩
theorem tb_V {b : Int → Int} {n : Int} {A : Bc} {m q c : Int} {P O : List Int} {k f : Int} {E : List Int} (hm : m = 1 ∨ m = 2 ∨ m = 3) (h : bVal b n A m q c P O k f E) : bst b n A m q c P O k f E := g_ifF (by first | decide | omega) (g_ifT hm h)
theorem tb_0 {b : Int → Int} {n : Int} {A : Bc} {q c : Int} {P O : List Int} {k f : Int} {E : List Int} (h : b0 b n A q c O k f E) : bst b n A 0 q c P O k f E := g_ifT rfl h
theorem tb_A0 {b : Int → Int} {n : Int} {A : Bc} {q c : Int} {P O : List Int} {k f : Int} {E : List Int} (h : bA0 b n A q c P O k f E) : bst b n A 4 q c P O k f E := g_ifF (by decide) (g_ifF (by decide) (g_ifT rfl h))
theorem tb_A1 {b : Int → Int} {n : Int} {A : Bc} {q c : Int} {P O : List Int} {k f : Int} {E : List Int} (h : bA1 b n A q c P O k f E) : bst b n A 5 q c P O k f E := g_ifF (by decide) (g_ifF (by decide) (g_ifF (by decide) (g_ifT rfl h)))
theorem tb_A2 {b : Int → Int} {n : Int} {A : Bc} {q c : Int} {P O : List Int} {k f : Int} {E : List Int} (h : bA2 b n A q c P O k f E) : bst b n A 6 q c P O k f E := g_ifF (by decide) (g_ifF (by decide) (g_ifF (by decide) (g_ifF (by decide) (g_ifT rfl h))))
theorem tb_A3 {b : Int → Int} {n : Int} {A : Bc} {q c : Int} {P O : List Int} {k f : Int} {E : List Int} (h : bA3 b n A q c P O k f E) : bst b n A 7 q c P O k f E := g_ifF (by decide) (g_ifF (by decide) (g_ifF (by decide) (g_ifF (by decide) (g_ifF (by decide) (g_ifT rfl h)))))
theorem tb_O {b : Int → Int} {n : Int} {A : Bc} {q c : Int} {P O : List Int} {k f : Int} {E : List Int} (h : bO b n A q c P O k f E) : bst b n A 8 q c P O k f E := g_ifF (by decide) (g_ifF (by decide) (g_ifF (by decide) (g_ifF (by decide) (g_ifF (by decide) (g_ifF (by decide) (g_ifT rfl h))))))
theorem tb_E {b : Int → Int} {n : Int} {A : Bc} {q c : Int} {P O : List Int} {k f : Int} {E : List Int} (h : bE b n A q c O k f E) : bst b n A 9 q c P O k f E := g_ifF (by decide) (g_ifF (by decide) (g_ifF (by decide) (g_ifF (by decide) (g_ifF (by decide) (g_ifF (by decide) (g_ifF (by decide) h))))))
theorem bV_hit {b : Int → Int} {n : Int} {A : Bc} {m q c : Int} {P O : List Int} {k f : Int} {E : List Int} : ∀ (l : List (Nat × Int)) (i : Nat), i < l.length → (∀ j : Nat, j < i → ¬ Wk b n (l.getD j (0, 0)).1 q) → Wk b n (l.getD i (0, 0)).1 q → wIf (c = 60) (f = 4 + 8 * q ∧ E = []) (A (m + 3) (q + tl (l.getD i (0, 0)).1) (c + 1) P (O ++ [(l.getD i (0, 0)).2]) k f E) → bV b n A m q c P O k f E l := by
  intro l
  induction l with
  | nil => intro i hi; exact absurd hi (Nat.not_lt_zero i)
  | cons a l ih =>
    intro i hi h1 h2 h3
    cases i with
    | zero => exact g_ifT h2 h3
    | succ i =>
      refine g_ifF (h1 0 (Nat.succ_pos i)) ?_
      exact ih i (Nat.lt_of_succ_lt_succ hi) (fun j hj => h1 (j + 1) (Nat.succ_lt_succ hj)) h2 h3
theorem bV_miss {b : Int → Int} {n : Int} {A : Bc} {m q c : Int} {P O : List Int} {k : Int} : ∀ l : List (Nat × Int), (∀ j : Nat, j < l.length → ¬ Wk b n (l.getD j (0, 0)).1 q) → bV b n A m q c P O k (1 + 8 * q) [] l := by
  intro l
  induction l with
  | nil => intro _; exact ⟨rfl, rfl⟩
  | cons a l ih =>
    intro h
    exact g_ifF (h 0 (Nat.succ_pos _)) (ih (fun j hj => h (j + 1) (Nat.succ_lt_succ hj)))
theorem bws_v : ∀ i : Nat, i < 10 → (bws.getD i (0, 0)).1 = vws.getD i 0 ∧ (bws.getD i (0, 0)).2 = -2 - (i : Int) := by decide
/-- the class has come so far: T is how it must end -/
def Lq (b : Int → Int) (n : Int) (T : Int → List Int → Prop) (M : Mm) (m : Int) (P O : List Int) (k : Int) : Prop := (∀ (f : Int) (E : List Int), Bcc b n m (M 1 2) (M 52 3) P O k f E → T f E) ∧ M 1 4 = 0 ∧ M 1 2 ≤ n ∧ M 52 2 + M 52 5 + 2 ≤ M 1 2 ∧ M 52 3 ≤ 60 ∧ nDp P ≤ 10 ∧ CQ M P O ∧ M 52 7 = (nOp P : Int)
theorem Lq.move {b : Int → Int} {n : Int} {T : Int → List Int → Prop} {M M1 : Mm} {m k q : Int} {P O : List Int} (h : Lq b n T M m P O k) (f : ∀ c p : Int, ¬ (c = 1 ∧ 2 ≤ p ∧ p ≤ 3) → M1 c p = M c p) (hs : Sk b n (M 1 2) q) (hq : M1 1 2 = q) (hn : q ≤ n) : Lq b n T M1 m P O k := by
  obtain ⟨h1, h2, h3, h4, h5, h6, h7, h8⟩ := h
  refine ⟨fun g E z => h1 g E ?_, (f 1 4 (by first | decide | exact fun z => absurd z.1 (by decide) | exact ⟨fun z => absurd z.1 (by decide), fun z => absurd z.1 (by decide)⟩ | omega)).trans h2, by omega, ?_, by rw [f 52 3 (by first | decide | exact fun z => absurd z.1 (by decide) | exact ⟨fun z => absurd z.1 (by decide), fun z => absurd z.1 (by decide)⟩ | omega)]; exact h5, h6, h7.same (fun c p z => f c p (by omega)), (f 52 7 (by first | decide | exact fun z => absurd z.1 (by decide) | exact ⟨fun z => absurd z.1 (by decide), fun z => absurd z.1 (by decide)⟩ | omega)).trans h8⟩
  · rw [hq, f 52 3 (by first | decide | exact fun z => absurd z.1 (by decide) | exact ⟨fun z => absurd z.1 (by decide), fun z => absurd z.1 (by decide)⟩ | omega)] at z
    exact Bcc.back hs z
  · rw [f 52 2 (by first | decide | exact fun z => absurd z.1 (by decide) | exact ⟨fun z => absurd z.1 (by decide), fun z => absurd z.1 (by decide)⟩ | omega), f 52 5 (by first | decide | exact fun z => absurd z.1 (by decide) | exact ⟨fun z => absurd z.1 (by decide), fun z => absurd z.1 (by decide)⟩ | omega)]
    have := hs.1
    omega
theorem zf_takeValueWord {X : Mm} {S : Sh} {m0 : Mm} {K : Int → Mm → Prop} {b : Int → Int} {n q : Int} (hS : Shp S) (hm0 : Inv X S m0) (ht : TC X b n) (hq : m0 1 2 = q) (hqn : q ≤ n) (sq : Sk b n q q) (h1 : ∀ (i : Nat) (v : Int) (M1 : Mm), i < 10 → (∀ j : Nat, j < i → ¬ Wk b n (vws.getD j 0) q) → Wk b n (vws.getD i 0) q → Inv X S M1 → (∀ c p : Int, ¬ (c = 1 ∧ 2 ≤ p ∧ p ≤ 3) → M1 c p = m0 c p) → M1 1 2 = q + tl (vws.getD i 0) → M1 1 3 = q → q + tl (vws.getD i 0) ≤ n → v = -2 - (i : Int) → K v M1) (h0 : ∀ M1 : Mm, (∀ j : Nat, j < 10 → ¬ Wk b n (vws.getD j 0) q) → Inv X S M1 → (∀ c p : Int, ¬ (c = 1 ∧ 2 ≤ p ∧ p ≤ 3) → M1 c p = m0 c p) → M1 1 2 = q → M1 1 3 = q → K (-1) M1) : wp_X3_takeValueWord S m0 52 K := by
  refine u_X3_takeValueWord ?_
  refine g_C ?_
  have L : ∀ (k : Nat) (i : Nat) (m : Mm), i ≤ 10 → (∀ j : Nat, j < i → ¬ Wk b n (vws.getD j 0) q) → Inv X S m → (∀ c p : Int, ¬ (c = 1 ∧ 2 ≤ p ∧ p ≤ 3) → m c p = m0 c p) → m 1 2 = q → (i = 0 ∨ m 1 3 = q) → 11 - (i : Int) ≤ (k : Int) → wp_X3_takeValueWord_2 S K k 52 (i : Int) m := by
    intro k
    induction k with
    | zero => intro i m hi _ _ _ _ _ h; exfalso; omega
    | succ k ih =>
      intro i m hi hn hm F a2 a3 h
      refine u_X3_takeValueWord_2 ?_
      refine g_C ?_
      refine g_if (fun w => ?_) (fun w => ?_)
      · have e : i = 10 := by omega
        rw [e] at hn
        exact g_C (h0 m hn hm F a2 (a3.resolve_left (by omega)))
      · refine g_getr 0 1 rfl hS.k52 hm.f_52_0 (by decide) ?_
        have go : ∀ u : Int, u = -3 - ((vws.getD i 0 : Nat) : Int) → isK S 1 7 ∧ (wp_X7_takesWord S m 1 u fun v11 M10 => wIf (v11 = 0) (wA (i : Int) 1 fun v13 => wp_X3_takeValueWord_2 S K k 52 v13 M10) (wC (-2) fun v15 => wS v15 (i : Int) fun v17 => K v17 M10)) := by
          intro u hu
          refine ⟨hS.k1, ?_⟩
          refine ze_takesWord (vws.getD i 0) hS hm ht (by omega) (vws_t i (by omega)) hu (fun q' m1 hm1 f1 sk x1 x2 l1 wk => ?_) (fun q' m1 hm1 f1 sk x1 x2 l1 wk => ?_)
          · rw [a2] at sk
            have e := sk.uniq sq
            subst e
            refine g_ifF (by decide) ?_
            refine g_C ?_
            refine g_S (by omega) (by omega) ?_
            exact h1 i _ m1 (by omega) hn wk hm1 (fun c p z => (f1 c p z).trans (F c p z)) x1 x2 l1 (by omega)
          · rw [a2] at sk
            have e := sk.uniq sq
            subst e
            refine g_ifT rfl ?_
            refine g_A (by omega) (by omega) ?_
            rw [show (i : Int) + 1 = ((i + 1 : Nat) : Int) by omega]
            refine ih (i + 1) m1 (by omega) (fun j hj => ?_) hm1 (fun c p z => (f1 c p z).trans (F c p z)) x1 (Or.inr x2) (by omega)
            by_cases ej : j = i
            · rw [ej]; exact wk
            · exact hn j (by omega)
        refine u_X10_nameOf ?_
        rcases (show i = 0 ∨ i = 1 ∨ i = 2 ∨ i = 3 ∨ i = 4 ∨ i = 5 ∨ i = 6 ∨ i = 7 ∨ i = 8 ∨ i = 9 by omega) with e | e | e | e | e | e | e | e | e | e <;> subst e
        · exact g_ifT (by decide) (g_C (go _ (by decide)))
        · exact g_ifF (by decide) (g_ifT (by decide) (g_C (go _ (by decide))))
        · exact g_ifF (by decide) (g_ifF (by decide) (g_ifT (by decide) (g_C (go _ (by decide)))))
        · exact g_ifF (by decide) (g_ifF (by decide) (g_ifF (by decide) (g_ifT (by decide) (g_C (go _ (by decide))))))
        · exact g_ifF (by decide) (g_ifF (by decide) (g_ifF (by decide) (g_ifF (by decide) (g_ifT (by decide) (g_C (go _ (by decide)))))))
        · exact g_ifF (by decide) (g_ifF (by decide) (g_ifF (by decide) (g_ifF (by decide) (g_ifF (by decide) (g_ifT (by decide) (g_C (go _ (by decide))))))))
        · exact g_ifF (by decide) (g_ifF (by decide) (g_ifF (by decide) (g_ifF (by decide) (g_ifF (by decide) (g_ifF (by decide) (g_ifT (by decide) (g_C (go _ (by decide)))))))))
        · exact g_ifF (by decide) (g_ifF (by decide) (g_ifF (by decide) (g_ifF (by decide) (g_ifF (by decide) (g_ifF (by decide) (g_ifF (by decide) (g_ifT (by decide) (g_C (go _ (by decide))))))))))
        · exact g_ifF (by decide) (g_ifF (by decide) (g_ifF (by decide) (g_ifF (by decide) (g_ifF (by decide) (g_ifF (by decide) (g_ifF (by decide) (g_ifF (by decide) (g_ifT (by decide) (g_C (go _ (by decide)))))))))))
        · exact g_ifF (by decide) (g_ifF (by decide) (g_ifF (by decide) (g_ifF (by decide) (g_ifF (by decide) (g_ifF (by decide) (g_ifF (by decide) (g_ifF (by decide) (g_ifF (by decide) (g_C (go _ (by decide)))))))))))
  exact ⟨11, L 11 0 m0 (by decide) (fun j hj => absurd hj (Nat.not_lt_zero j)) hm0 (fun _ _ _ => rfl) hq (Or.inl rfl) (by decide)⟩
theorem nvl_b {b : Int → Int} {q : Int} : ∀ k : Nat, (∀ j : Int, q ≤ j → j < q + k → Dg (b j)) → 0 ≤ nvl b q k ∧ nvl b q k < (10 : Int) ^ k := by
  intro k
  induction k with
  | zero => intro _; exact ⟨Int.le_refl 0, by show (0 : Int) < 10 ^ 0; decide⟩
  | succ k ih =>
    intro h
    have z := ih (fun j a c => h j a (by omega))
    have d := h (q + k) (by omega) (by omega)
    unfold Dg at d
    show 0 ≤ 10 * nvl b q k + (b (q + (k : Int)) - 48) ∧ 10 * nvl b q k + (b (q + (k : Int)) - 48) < (10 : Int) ^ (k + 1)
    rw [Int.pow_succ]
    omega
theorem nv_nn {b : Int → Int} {n q r : Int} (h : Dr b n q r) : 0 ≤ nv b q r := (nvl_b _ (fun j a c => (h.2.1 j a (by have := h.1; omega)).2)).1
theorem nv_le {b : Int → Int} {n q r : Int} (h : Dr b n q r) (h5 : r - q ≤ 5) : nv b q r ≤ 99999 := by
  have z := (nvl_b (b := b) (q := q) (r - q).toNat (fun j a c => (h.2.1 j a (by have := h.1; omega)).2)).2
  have h1 := h.1
  unfold nv
  rcases (show (r - q).toNat = 0 ∨ (r - q).toNat = 1 ∨ (r - q).toNat = 2 ∨ (r - q).toNat = 3 ∨ (r - q).toNat = 4 ∨ (r - q).toNat = 5 by omega) with e | e | e | e | e | e <;> rw [e] at z ⊢ <;> exact Int.le_trans (Int.le_sub_one_of_lt z) (by decide)
theorem zf_readValue {X : Mm} {S : Sh} {m0 : Mm} {K : Int → Mm → Prop} {b : Int → Int} {n m k : Int} {T : Int → List Int → Prop} {P O : List Int} (hS : Shp S) (hm0 : Inv X S m0) (ht : TC X b n) (hmm : m = 1 ∨ m = 2 ∨ m = 3) (lk : Lq b n T m0 m P O k) (hf : ∀ M1 : Mm, Inv X S M1 → T (M1 1 4) [] → ¬ M1 1 4 = 0 → K 0 M1) (hk : ∀ M1 : Mm, Inv X S M1 → (∀ c p : Int, ¬ (c = 52 ∧ (p = 2 ∨ p = 3)) ∧ ¬ c = 53 ∧ ¬ (c = 1 ∧ 2 ≤ p ∧ p ≤ 3) → M1 c p = m0 c p) → (∃ v : Int, Lq b n T M1 (m + 3) P (O ++ [v]) k) → M1 52 3 = m0 52 3 + 1 → m0 1 2 < M1 1 2 → K 1 M1) : wp_X3_readValue S m0 52 K := by
  obtain ⟨k1, k2, k3, k4, k5, k6, k7, k8⟩ := id lk
  have b3 := hm0.f_52_3
  have b20 := hm0.f_1_2
  have nb := ht.2.1
  -- behind a value that was taken: from q to r
  have last : ∀ (q r v : Int) (m1 : Mm), Inv X S m1 → (∀ c p : Int, ¬ (c = 1 ∧ 2 ≤ p ∧ p ≤ 3) → m1 c p = m0 c p) → Sk b n (m0 1 2) q → m1 1 3 = q → m1 1 2 = r → q < r → r ≤ n → ¬ v = -1 → (∀ (f : Int) (E : List Int), wIf (m0 52 3 = 60) (f = 4 + 8 * q ∧ E = []) (Bcc b n (m + 3) r (m0 52 3 + 1) P (O ++ [v]) k f E) → T f E) → wp_X3_readValue_27 S K 52 v m1 := by
    intro q r v m1 hm1 f1 sk x3 x2 hqr hrn hv hT
    have s1 := sk.1
    refine u_X3_readValue_27 ?_
    refine g_C ?_
    refine g_ifT hv ?_
    refine g_getu 3 rfl hS.k52 (fun a ea => ?_)
    rw [f1 52 3 (by first | decide | exact fun z => absurd z.1 (by decide) | exact ⟨fun z => absurd z.1 (by decide), fun z => absurd z.1 (by decide)⟩ | omega)] at ea
    refine g_C ?_
    refine g_if (fun w => ?_) (fun w => ?_)
    · refine g_getu 3 rfl hS.k52 (fun a2 ea2 => ?_)
      rw [f1 52 3 (by first | decide | exact fun z => absurd z.1 (by decide) | exact ⟨fun z => absurd z.1 (by decide), fun z => absurd z.1 (by decide)⟩ | omega)] at ea2
      refine g_C ?_
      refine g_A (by omega) (by omega) ?_
      refine g_put 3 rfl hS.k52 (hm1.w_52_3 (by omega) (by omega)) (fun m2 e2 hm2 => ?_)
      have f2 : ∀ c p : Int, ¬ (c = 52 ∧ p = 3) → m2 c p = m1 c p := fun c p q => (congrFun (congrFun e2 _) _).trans (up_ne q)
      have y2 : m2 52 3 = a2 + 1 := (congrFun (congrFun e2 _) _).trans (up_at _ _ _ _)
      refine ⟨hS.k52, ?_⟩
      have l22 : m2 52 2 = m0 52 2 := (f2 52 2 (by first | decide | exact fun z => absurd z.1 (by decide) | exact ⟨fun z => absurd z.1 (by decide), fun z => absurd z.1 (by decide)⟩ | omega)).trans (f1 52 2 (by first | decide | exact fun z => absurd z.1 (by decide) | exact ⟨fun z => absurd z.1 (by decide), fun z => absurd z.1 (by decide)⟩ | omega))
      have b25 := hm0.f_52_5
      have b22 := hm0.f_52_2
      refine zf_write hS hm2 (by omega) (fun m3 hm3 f3' y3' ys => ?_)
      have f3 : ∀ c p : Int, ¬ (c = 52 ∧ p = 2) ∧ ¬ c = 53 → m3 c p = m2 c p := fun c p z => f3' c p z.1 (fun y => z.2 y.1)
      have cq2 : CQ m2 P O := k7.same (fun c p z => (f2 c p (by first | exact fun y => absurd (y.1 ▸ z) (by decide) | exact fun y => absurd (y.1 ▸ q) (by decide) | exact z | exact q | exact z.1 | exact q.1 | exact z.2 | exact q.2 | omega)).trans (f1 c p (by first | exact fun y => absurd (y.1 ▸ z) (by decide) | exact fun y => absurd (y.1 ▸ q) (by decide) | exact z | exact q | exact z.1 | exact q.1 | exact z.2 | exact q.2 | omega)))
      have cq3 := cq2.write (by omega) f3' y3' ys
      have y3 : m3 52 2 ≤ m2 52 2 + 1 := by omega
      have F : ∀ c p : Int, ¬ (c = 52 ∧ (p = 2 ∨ p = 3)) ∧ ¬ c = 53 ∧ ¬ (c = 1 ∧ 2 ≤ p ∧ p ≤ 3) → m3 c p = m0 c p := fun c p z => by rw [f3 c p (by first | exact fun y => absurd (y.1 ▸ z) (by decide) | exact fun y => absurd (y.1 ▸ q) (by decide) | exact z | exact q | exact z.1 | exact q.1 | exact z.2 | exact q.2 | omega), f2 c p (by first | exact fun y => absurd (y.1 ▸ z) (by decide) | exact fun y => absurd (y.1 ▸ q) (by decide) | exact z | exact q | exact z.1 | exact q.1 | exact z.2 | exact q.2 | omega), f1 c p (by first | exact fun y => absurd (y.1 ▸ z) (by decide) | exact fun y => absurd (y.1 ▸ q) (by decide) | exact z | exact q | exact z.1 | exact q.1 | exact z.2 | exact q.2 | omega)]
      have z3 : m3 52 3 = m0 52 3 + 1 := by rw [f3 52 3 (by first | decide | exact fun z => absurd z.1 (by decide) | exact ⟨fun z => absurd z.1 (by decide), fun z => absurd z.1 (by decide)⟩ | omega)]; omega
      have z2 : m3 1 2 = r := by rw [f3 1 2 (by first | decide | exact fun z => absurd z.1 (by decide) | exact ⟨fun z => absurd z.1 (by decide), fun z => absurd z.1 (by decide)⟩ | omega), f2 1 2 (by first | decide | exact fun z => absurd z.1 (by decide) | exact ⟨fun z => absurd z.1 (by decide), fun z => absurd z.1 (by decide)⟩ | omega)]; exact x2
      have z22 : m3 52 2 ≤ m0 52 2 + 1 := by
        rw [f2 52 2 (by first | decide | exact fun z => absurd z.1 (by decide) | exact ⟨fun z => absurd z.1 (by decide), fun z => absurd z.1 (by decide)⟩ | omega), f1 52 2 (by first | decide | exact fun z => absurd z.1 (by decide) | exact ⟨fun z => absurd z.1 (by decide), fun z => absurd z.1 (by decide)⟩ | omega)] at y3
        exact y3
      refine g_C ⟨by decide, hk m3 hm3 F ⟨v, fun f E hA => hT f E ?_, (F 1 4 (by first | decide | exact fun z => absurd z.1 (by decide) | exact ⟨fun z => absurd z.1 (by decide), fun z => absurd z.1 (by decide)⟩ | omega)).trans k2, by omega, ?_, by omega, k6, cq3, (F 52 7 (by first | decide | exact fun z => absurd z.1 (by decide) | exact ⟨fun z => absurd z.1 (by decide), fun z => absurd z.1 (by decide)⟩ | omega)).trans k8⟩ z3 (by omega)⟩
      · rw [z2, z3] at hA
        exact g_ifF (by first | decide | omega) hA
      · rw [F 52 5 (by first | decide | exact fun z => absurd z.1 (by decide) | exact ⟨fun z => absurd z.1 (by decide), fun z => absurd z.1 (by decide)⟩ | omega)]
        omega
    · refine g_getr 0 1 rfl hS.k52 hm1.f_52_0 (by decide) ?_
      refine g_C ?_
      refine ⟨hS.k1, ?_⟩
      refine ze_refuse hS hm1 (by decide) (by decide) (fun m2 hm2 f2 y2 => ?_)
      rw [f1 1 4 (by first | decide | exact fun z => absurd z.1 (by decide) | exact ⟨fun z => absurd z.1 (by decide), fun z => absurd z.1 (by decide)⟩ | omega)] at y2
      have y3 : m2 1 4 = 4 + 8 * q := by omega
      refine ⟨by decide, hf m2 hm2 ?_ (by omega)⟩
      rw [y3]
      exact hT _ _ (g_ifT (by first | decide | omega) ⟨rfl, rfl⟩)
  refine u_X3_readValue ?_
  refine g_getr 0 1 rfl hS.k52 hm0.f_52_0 (by decide) ?_
  refine ⟨hS.k1, ?_⟩
  refine ze_isAtDigit hS hm0 ht k3 (fun q m1 hm1 f1 sk x1 x2 hq hd => ?_) (fun q m1 hm1 f1 sk x1 x2 hq hd => ?_)
  · refine g_ifF (by decide) ?_
    refine g_getr 0 1 rfl hS.k52 hm1.f_52_0 (by decide) ?_
    refine g_C ?_
    refine g_C ?_
    refine ⟨hS.k1, ?_⟩
    have sk2 := sk.idem
    refine ze_num hS hm1 ht (by omega) ((f1 1 4 (by first | decide | exact fun z => absurd z.1 (by decide) | exact ⟨fun z => absurd z.1 (by decide), fun z => absurd z.1 (by decide)⟩ | omega)).trans k2) (fun q' r m2 hm2 f2 sq dq dr d5 _ _ v0 y1 y2 rn => ?_) (fun q' m2 hm2 f2 sq _ nd _ => ?_) (fun q' r m2 hm2 f2 sq _ dq dr bad y4 => ?_)
    · rw [x1] at sq
      obtain rfl := sq.uniq sk2
      have qr : q' < r := by
        have z := dr.2.2
        have z1 := dr.1
        by_cases e : r = q'
        · rw [e] at z; exact absurd dq z
        · omega
      refine last q' r _ m2 hm2 (fun c p z => (f2 c p z).trans (f1 c p z)) sk y2 y1 qr rn (by omega) (fun f E hA => k1 f E (b_step sk (tb_V hmm (g_ifT ⟨hq, hd⟩ ⟨r, dr, g_ifF d5 hA⟩))))
    · rw [x1] at sq
      obtain rfl := sq.uniq sk2
      exact absurd ⟨hq, hd⟩ nd
    · rw [x1] at sq
      obtain rfl := sq.uniq sk2
      have d5 : 5 < r - q' := by
        rcases bad with z | z | z
        · exact z
        · have z0 := nv_nn dr
          exfalso; omega
        · by_cases e : 5 < r - q'
          · exact e
          · have z0 := nv_le dr (by omega)
            exfalso; omega
      refine u_X3_readValue_27 ?_
      refine g_C ?_
      refine g_ifF (by decide) ?_
      refine g_getr 0 1 rfl hS.k52 hm2.f_52_0 (by decide) ?_
      refine g_C ?_
      refine ⟨hS.k1, ?_⟩
      refine ze_refuse hS hm2 (by decide) (by decide) (fun m3 hm3 f3 y5 => ?_)
      have y6 : m3 1 4 = 2 + 8 * q' := by omega
      refine ⟨by decide, hf m3 hm3 ?_ (by have := sk.1; omega)⟩
      rw [y6]
      exact k1 _ _ (b_step sk (tb_V hmm (g_ifT ⟨hq, hd⟩ ⟨r, dr, g_ifT d5 ⟨rfl, rfl⟩⟩)))
  · refine g_ifT rfl ?_
    refine ⟨hS.k52, ?_⟩
    refine zf_takeValueWord hS hm1 ht x1 hq sk.idem (fun i v m2 hi hn wk hm2 f2 y1 y2 rn hv => ?_) (fun m2 hn hm2 f2 y1 y2 => ?_)
    · have tr := tl_r _ (vws_t i hi)
      refine last q _ v m2 hm2 (fun c p z => (f2 c p z).trans (f1 c p z)) sk y2 y1 (by omega) rn (by omega) (fun f E hA => k1 f E (b_step sk (tb_V hmm (g_ifF hd (bV_hit bws i hi (fun j hj => ?_) ?_ ?_)))))
      · rw [(bws_v j (by omega)).1]
        exact hn j hj
      · rw [(bws_v i hi).1]
        exact wk
      · rw [(bws_v i hi).1, (bws_v i hi).2, ← hv]
        exact hA
    · refine u_X3_readValue_27 ?_
      refine g_C ?_
      refine g_ifF (by decide) ?_
      refine g_getr 0 1 rfl hS.k52 hm2.f_52_0 (by decide) ?_
      refine g_C ?_
      refine ⟨hS.k1, ?_⟩
      refine ze_refuse hS hm2 (by decide) (by decide) (fun m3 hm3 f3 y5 => ?_)
      rw [f2 1 4 (by first | decide | exact fun z => absurd z.1 (by decide) | exact ⟨fun z => absurd z.1 (by decide), fun z => absurd z.1 (by decide)⟩ | omega), f1 1 4 (by first | decide | exact fun z => absurd z.1 (by decide) | exact ⟨fun z => absurd z.1 (by decide), fun z => absurd z.1 (by decide)⟩ | omega)] at y5
      have y6 : m3 1 4 = 1 + 8 * q := by omega
      refine ⟨by decide, hf m3 hm3 ?_ (by have := sk.1; omega)⟩
      rw [y6]
      refine k1 _ _ (b_step sk (tb_V hmm (g_ifF hd (bV_miss bws (fun j hj => ?_)))))
      rw [(bws_v j hj).1]
      exact hn j hj
theorem zf_takeArithmetic {X : Mm} {S : Sh} {m0 : Mm} {K : Int → Mm → Prop} {b : Int → Int} {n : Int} (hS : Shp S) (hm0 : Inv X S m0) (ht : TC X b n) (hp : m0 1 2 ≤ n) (h1 : ∀ (q v : Int) (M1 : Mm), Inv X S M1 → (∀ c p : Int, ¬ (c = 1 ∧ 2 ≤ p ∧ p ≤ 3) → M1 c p = m0 c p) → Sk b n (m0 1 2) q → M1 1 2 = q + 1 → M1 1 3 = q → q < n → Ar (b q) → v = arS (b q) → -16 ≤ v → v ≤ -12 → K v M1) (h0 : ∀ (q : Int) (M1 : Mm), Inv X S M1 → (∀ c p : Int, ¬ (c = 1 ∧ 2 ≤ p ∧ p ≤ 3) → M1 c p = m0 c p) → Sk b n (m0 1 2) q → M1 1 2 = q → M1 1 3 = q → q ≤ n → ¬ (q < n ∧ Ar (b q)) → K 0 M1) : wp_X3_takeArithmetic S m0 52 K := by
  refine u_X3_takeArithmetic ?_
  refine g_getr 0 1 rfl hS.k52 hm0.f_52_0 (by decide) ?_
  refine g_C ?_
  refine ⟨hS.k1, ?_⟩
  refine ze_takesSign hS hm0 ht hp (by decide) (by decide) (fun q m1 hm1 f1 sk x1 x2 l1 bq => g_ifF (by decide) (g_C (h1 q (-12) m1 hm1 f1 sk x1 x2 l1 (Or.inl bq) (by rw [bq]; rfl) (by decide) (by decide)))) (fun q m1 hm1 f1 sk x1 x2 l1 nq1 => ?_)
  refine g_ifT rfl ?_
  refine g_getr 0 1 rfl hS.k52 hm1.f_52_0 (by decide) ?_
  refine g_C ?_
  refine ⟨hS.k1, ?_⟩
  refine ze_takesSign hS hm1 ht (by omega) (by decide) (by decide) (fun q' m2 hm2 f2 sk2 y1 y2 l2 bq => ?_) (fun q' m2 hm2 f2 sk2 y1 y2 l2 nq2 => ?_)
  · rw [x1] at sk2
    obtain rfl := sk2.uniq sk.idem
    exact g_ifF (by decide) (g_C (h1 q' (-13) m2 hm2 (fun c p z => (f2 c p z).trans (f1 c p z)) sk y1 y2 l2 (Or.inr (Or.inl bq)) (by rw [bq]; rfl) (by decide) (by decide)))
  rw [x1] at sk2
  obtain rfl := sk2.uniq sk.idem
  refine g_ifT rfl ?_
  refine g_getr 0 1 rfl hS.k52 hm2.f_52_0 (by decide) ?_
  refine g_C ?_
  refine ⟨hS.k1, ?_⟩
  refine ze_takesSign hS hm2 ht (by omega) (by decide) (by decide) (fun q m3 hm3 f3 sk3 z1 z2 l3 bq => ?_) (fun q m3 hm3 f3 sk3 z1 z2 l3 nq3 => ?_)
  · rw [y1] at sk3
    obtain rfl := sk3.uniq sk.idem
    exact g_ifF (by decide) (g_C (h1 q (-14) m3 hm3 (fun c p z => ((f3 c p z).trans (f2 c p z)).trans (f1 c p z)) sk z1 z2 l3 (Or.inr (Or.inr (Or.inl bq))) (by rw [bq]; rfl) (by decide) (by decide)))
  rw [y1] at sk3
  obtain rfl := sk3.uniq sk.idem
  refine g_ifT rfl ?_
  refine g_getr 0 1 rfl hS.k52 hm3.f_52_0 (by decide) ?_
  refine g_C ?_
  refine ⟨hS.k1, ?_⟩
  refine ze_takesSign hS hm3 ht (by omega) (by decide) (by decide) (fun q' m4 hm4 f4 sk4 a1 a2 l4 bq => ?_) (fun q' m4 hm4 f4 sk4 a1 a2 l4 nq4 => ?_)
  · rw [z1] at sk4
    obtain rfl := sk4.uniq sk.idem
    exact g_ifF (by decide) (g_C (h1 q' (-15) m4 hm4 (fun c p z => (((f4 c p z).trans (f3 c p z)).trans (f2 c p z)).trans (f1 c p z)) sk a1 a2 l4 (Or.inr (Or.inr (Or.inr (Or.inl bq)))) (by rw [bq]; rfl) (by decide) (by decide)))
  rw [z1] at sk4
  obtain rfl := sk4.uniq sk.idem
  refine g_ifT rfl ?_
  refine g_getr 0 1 rfl hS.k52 hm4.f_52_0 (by decide) ?_
  refine g_C ?_
  refine ⟨hS.k1, ?_⟩
  refine ze_takesSign hS hm4 ht (by omega) (by decide) (by decide) (fun q m5 hm5 f5 sk5 b1 b2 l5 bq => ?_) (fun q m5 hm5 f5 sk5 b1 b2 l5 nq5 => ?_)
  · rw [a1] at sk5
    obtain rfl := sk5.uniq sk.idem
    exact g_ifF (by decide) (g_C (h1 q (-16) m5 hm5 (fun c p z => ((((f5 c p z).trans (f4 c p z)).trans (f3 c p z)).trans (f2 c p z)).trans (f1 c p z)) sk b1 b2 l5 (Or.inr (Or.inr (Or.inr (Or.inr bq)))) (by rw [bq]; rfl) (by decide) (by decide)))
  rw [a1] at sk5
  obtain rfl := sk5.uniq sk.idem
  refine g_ifT rfl (g_C (h0 q m5 hm5 (fun c p z => ((((f5 c p z).trans (f4 c p z)).trans (f3 c p z)).trans (f2 c p z)).trans (f1 c p z)) sk b1 b2 l5 (fun z => ?_)))
  obtain ⟨w1, w2⟩ := z
  rcases w2 with w2 | w2 | w2 | w2 | w2
  · exact nq1 ⟨w1, w2⟩
  · exact nq2 ⟨w1, w2⟩
  · exact nq3 ⟨w1, w2⟩
  · exact nq4 ⟨w1, w2⟩
  · exact nq5 ⟨w1, w2⟩
theorem zf_takeComparison {X : Mm} {S : Sh} {m0 : Mm} {K : Int → Mm → Prop} {b : Int → Int} {n : Int} (hS : Shp S) (hm0 : Inv X S m0) (ht : TC X b n) (hp : m0 1 2 ≤ n) (h1 : ∀ (q v : Int) (M1 : Mm), Inv X S M1 → (∀ c p : Int, ¬ (c = 1 ∧ 2 ≤ p ∧ p ≤ 3) → M1 c p = m0 c p) → Sk b n (m0 1 2) q → q < n → Cm (b q) → M1 1 3 = q → ((¬ b q = 61 ∧ q + 1 < n ∧ b (q + 1) = 61 ∧ M1 1 2 = q + 2 ∧ v = cmS (b q) true) ∨ (¬ (¬ b q = 61 ∧ q + 1 < n ∧ b (q + 1) = 61) ∧ M1 1 2 = q + 1 ∧ v = cmS (b q) false)) → -21 ≤ v → v ≤ -17 → K v M1) (h0 : ∀ (q : Int) (M1 : Mm), Inv X S M1 → (∀ c p : Int, ¬ (c = 1 ∧ 2 ≤ p ∧ p ≤ 3) → M1 c p = m0 c p) → Sk b n (m0 1 2) q → M1 1 2 = q → M1 1 3 = q → q ≤ n → ¬ (q < n ∧ Cm (b q)) → K 0 M1) : wp_X3_takeComparison S m0 52 K := by
  refine u_X3_takeComparison ?_
  refine g_getr 0 1 rfl hS.k52 hm0.f_52_0 (by decide) ?_
  refine g_C ?_
  refine ⟨hS.k1, ?_⟩
  refine ze_takesSign hS hm0 ht hp (by decide) (by decide) (fun q m1 hm1 f1 sk x1 x2 l1 bq => g_ifF (by decide) (g_C (h1 q (-19) m1 hm1 f1 sk l1 (Or.inr (Or.inl bq)) x2 (Or.inr ⟨by omega, x1, by rw [bq]; rfl⟩) (by decide) (by decide)))) (fun q m1 hm1 f1 sk x1 x2 l1 nq1 => ?_)
  refine g_ifT rfl ?_
  refine g_getr 0 1 rfl hS.k52 hm1.f_52_0 (by decide) ?_
  refine g_C ?_
  refine ⟨hS.k1, ?_⟩
  refine ze_takesSign hS hm1 ht (by omega) (by decide) (by decide) (fun q' m2 hm2 f2 sk2 y1 y2 l2 bq => ?_) (fun q' m2 hm2 f2 sk2 y1 y2 l2 nq2 => ?_)
  · rw [x1] at sk2
    obtain rfl := sk2.uniq sk.idem
    refine g_ifF (by decide) ?_
    refine g_getr 0 1 rfl hS.k52 hm2.f_52_0 (by decide) ?_
    refine g_C ?_
    refine ⟨hS.k1, ?_⟩
    refine ze_continues hS hm2 ht (by omega) (fun m3 hm3 f3 z1 z2 z3 => ?_) (fun z => ?_)
    · rw [y1] at z2 z3
      exact g_ifF (by decide) (g_C (h1 q' (-18) m3 hm3 (fun c p z => ((f3 c p (by first | exact fun y => absurd (y.1 ▸ z) (by decide) | exact fun y => absurd (y.1 ▸ q) (by decide) | exact z | exact q | exact z.1 | exact q.1 | exact z.2 | exact q.2 | omega)).trans (f2 c p z)).trans (f1 c p z)) sk l2 (Or.inl bq) ((f3 1 3 (by first | decide | exact fun z => absurd z.1 (by decide) | exact ⟨fun z => absurd z.1 (by decide), fun z => absurd z.1 (by decide)⟩ | omega)).trans y2) (Or.inl ⟨by omega, z2, z3, by omega, by rw [bq]; rfl⟩) (by decide) (by decide)))
    · rw [y1] at z
      exact g_ifT rfl (g_C (h1 q' (-17) m2 hm2 (fun c p z => (f2 c p z).trans (f1 c p z)) sk l2 (Or.inl bq) y2 (Or.inr ⟨fun w => z w.2, y1, by rw [bq]; rfl⟩) (by decide) (by decide)))
  rw [x1] at sk2
  obtain rfl := sk2.uniq sk.idem
  refine g_ifT rfl ?_
  refine g_getr 0 1 rfl hS.k52 hm2.f_52_0 (by decide) ?_
  refine g_C ?_
  refine ⟨hS.k1, ?_⟩
  refine ze_takesSign hS hm2 ht (by omega) (by decide) (by decide) (fun q m3 hm3 f3 sk3 z1 z2 l3 bq => ?_) (fun q m3 hm3 f3 sk3 z1 z2 l3 nq3 => ?_)
  · rw [y1] at sk3
    obtain rfl := sk3.uniq sk.idem
    refine g_ifF (by decide) ?_
    refine g_getr 0 1 rfl hS.k52 hm3.f_52_0 (by decide) ?_
    refine g_C ?_
    refine ⟨hS.k1, ?_⟩
    refine ze_continues hS hm3 ht (by omega) (fun m4 hm4 f4 a1 a2 a3 => ?_) (fun z => ?_)
    · rw [z1] at a2 a3
      exact g_ifF (by decide) (g_C (h1 q (-20) m4 hm4 (fun c p z => (((f4 c p (by first | exact fun y => absurd (y.1 ▸ z) (by decide) | exact fun y => absurd (y.1 ▸ q) (by decide) | exact z | exact q | exact z.1 | exact q.1 | exact z.2 | exact q.2 | omega)).trans (f3 c p z)).trans (f2 c p z)).trans (f1 c p z)) sk l3 (Or.inr (Or.inr bq)) ((f4 1 3 (by first | decide | exact fun z => absurd z.1 (by decide) | exact ⟨fun z => absurd z.1 (by decide), fun z => absurd z.1 (by decide)⟩ | omega)).trans z2) (Or.inl ⟨by omega, a2, a3, by omega, by rw [bq]; rfl⟩) (by decide) (by decide)))
    · rw [z1] at z
      exact g_ifT rfl (g_C (h1 q (-21) m3 hm3 (fun c p z => ((f3 c p z).trans (f2 c p z)).trans (f1 c p z)) sk l3 (Or.inr (Or.inr bq)) z2 (Or.inr ⟨fun w => z w.2, z1, by rw [bq]; rfl⟩) (by decide) (by decide)))
  rw [y1] at sk3
  obtain rfl := sk3.uniq sk.idem
  refine g_ifT rfl (g_C (h0 q m3 hm3 (fun c p z => ((f3 c p z).trans (f2 c p z)).trans (f1 c p z)) sk z1 z2 l3 (fun z => ?_)))
  obtain ⟨w1, w2⟩ := z
  rcases w2 with w2 | w2 | w2
  · exact nq2 ⟨w1, w2⟩
  · exact nq1 ⟨w1, w2⟩
  · exact nq3 ⟨w1, w2⟩
