/-- a NUMBER of the class, to the letter -/
theorem ze_num {X : Mm} {S : Sh} {m0 : Mm} {K : Int → Mm → Prop} {b : Int → Int} {n lo hi : Int} (hS : Shp S) (hm0 : Inv X S m0) (ht : TC X b n) (hp : m0 1 2 ≤ n) (h14 : m0 1 4 = 0) (h1 : ∀ (q r : Int) (M1 : Mm), Inv X S M1 → (∀ c p : Int, ¬ (c = 1 ∧ 2 ≤ p ∧ p ≤ 3) → M1 c p = m0 c p) → Sk b n (m0 1 2) q → (q < n ∧ Dg (b q)) → Dr b n q r → ¬ 5 < r - q → ¬ nv b q r < lo → ¬ hi < nv b q r → 0 ≤ nv b q r → M1 1 2 = r → M1 1 3 = q → r ≤ n → K (nv b q r) M1) (h0 : ∀ (q : Int) (M1 : Mm), Inv X S M1 → (∀ c p : Int, ¬ (c = 1 ∧ 2 ≤ p ∧ p ≤ 4) → M1 c p = m0 c p) → Sk b n (m0 1 2) q → 0 ≤ q → ¬ (q < n ∧ Dg (b q)) → M1 1 4 = 1 + 8 * q → K (-1) M1) (h2 : ∀ (q r : Int) (M1 : Mm), Inv X S M1 → (∀ c p : Int, ¬ (c = 1 ∧ 2 ≤ p ∧ p ≤ 4) → M1 c p = m0 c p) → Sk b n (m0 1 2) q → 0 ≤ q → (q < n ∧ Dg (b q)) → Dr b n q r → (5 < r - q ∨ nv b q r < lo ∨ hi < nv b q r) → M1 1 4 = 2 + 8 * q → K (-1) M1) : wp_X7_takeNumber S m0 1 lo hi K := by
  have t2 := ht.2.1
  have b20 := hm0.f_1_2
  refine u_X7_takeNumber ?_
  refine ⟨hS.k1, ?_⟩
  refine ze_look hS hm0 ht hp (fun r0 q m1 hm1 f1 sk x1 x2 hq' hr => ?_)
  have sk1 := sk.1
  have y4 : m1 1 4 = 0 := (f1 1 4 (by omega)).trans h14
  have dr : (48 ≤ r0 ∧ r0 ≤ 57) ↔ (q < n ∧ Dg (b q)) := by
    unfold Dg
    rcases hr with ⟨z1, z2⟩ | ⟨z1, z2⟩
    · have tb := ht.2.2 q (by omega) z1
      rw [z2]
      unfold u8
      split <;> omega
    · omega
  refine zl_dig (fun d1 d2 => ?_) (fun a => ?_)
  rotate_left
  · refine g_ifF (by decide) ?_
    refine g_C ?_
    refine ⟨hS.k1, ?_⟩
    refine ze_refuse hS hm1 (by decide) (by decide) (fun m2 hm2 f2 y2 => ?_)
    refine g_C ?_
    exact h0 q m2 hm2 (fun c p z => (f2 c p (by omega)).trans (f1 c p (by omega))) sk (by omega) (fun z => a (dr.mpr z)) (by omega)
  have hqd := dr.mp ⟨d1, d2⟩
  obtain ⟨hqn, hd⟩ := hqd
  refine g_ifT (by decide) ?_
  refine g_C ?_
  have L : ∀ (k : Nat) (v : Int) (m : Mm), Inv X S m → (∀ c p : Int, ¬ (c = 1 ∧ 2 ≤ p ∧ p ≤ 3) → m c p = m0 c p) → m 1 3 = q → q ≤ m 1 2 → m 1 2 ≤ n → (∀ j : Int, q ≤ j → j < m 1 2 → j < n ∧ Dg (b j)) → 0 ≤ v → v ≤ 99999 → ((m 1 2 = q ∧ v = 0) ∨ (m 1 2 = q + 1 ∧ v ≤ 9) ∨ (m 1 2 = q + 2 ∧ v ≤ 99) ∨ (m 1 2 = q + 3 ∧ v ≤ 999) ∨ (m 1 2 = q + 4 ∧ v ≤ 9999) ∨ q + 5 ≤ m 1 2) → (m 1 2 - q ≤ 5 → v = nvl b q (m 1 2 - q).toNat) → 401 - m 1 2 ≤ (k : Int) → wp_X7_takeNumber_20 S K k 1 lo hi v m := by
    intro k
    induction k with
    | zero => intro v m _ _ _ _ _ _ _ _ _ _ h; exfalso; omega
    | succ k ih =>
      intro v m hm F a1 a2 a3 a4 v0 v1 av hv h
      have g1 : m 1 1 = n := (hm.g (by decide)).trans ht.1
      have fin : ¬ (m 1 2 < n ∧ Dg (b (m 1 2))) → wp_X7_takeNumber_92 S K 1 lo hi v m := by
        intro hn
        have hD : Dr b n q (m 1 2) := ⟨a2, a4, hn⟩
        have bad : (5 < m 1 2 - q ∨ nv b q (m 1 2) < lo ∨ hi < nv b q (m 1 2)) → wp_X7_takeNumber_115 S K 1 m := by
          intro h5
          refine u_X7_takeNumber_115 ?_
          refine g_C ?_
          refine ⟨hS.k1, ?_⟩
          refine ze_refuse hS hm (by decide) (by decide) (fun m2 hm2 f2 y2 => ?_)
          refine g_C ?_
          refine h2 q (m 1 2) m2 hm2 (fun c p z => (f2 c p (by omega)).trans (F c p (by omega))) sk (by omega) ⟨hqn, hd⟩ hD h5 ?_
          rw [F 1 4 (by omega)] at y2
          omega
        refine u_X7_takeNumber_92 ?_
        refine g_getu 2 rfl hS.k1 (fun a ea => ?_)
        refine g_getu 3 rfl hS.k1 (fun s es => ?_)
        refine g_S (by omega) (by omega) ?_
        refine g_C ?_
        refine g_if (fun w => bad (Or.inl (by omega))) (fun w => ?_)
        have ev : v = nv b q (m 1 2) := hv (by omega)
        refine g_if (fun w2 => bad (Or.inr (Or.inl (by omega)))) (fun w2 => ?_)
        refine g_if (fun w3 => ?_) (fun w3 => bad (Or.inr (Or.inr (by omega))))
        rw [ev]
        exact h1 q (m 1 2) m hm F sk ⟨hqn, hd⟩ hD (by omega) (by omega) (by omega) (by omega) rfl a1 a3
      refine u_X7_takeNumber_20 ?_
      refine g_getu 2 rfl hS.k1 (fun a ea => ?_)
      refine g_getu 1 rfl hS.k1 (fun l el => ?_)
      rw [g1] at el
      refine g_if (fun w => fin (by omega)) (fun w => ?_)
      refine g_getu 2 rfl hS.k1 (fun a' ea' => ?_)
      refine ⟨hS.k1, ?_⟩
      refine ze_byteAt hS hm ht (fun r2 hr2 => ?_)
      rw [ea'] at hr2
      have hr3 : r2 = u8 (b (m 1 2)) := by
        rcases hr2 with z | z
        · exact z.2.2
        · exfalso; omega
      have tb2 := ht.2.2 (m 1 2) (by omega) (by omega)
      refine zl_dig (fun c1 c2 => ?_) (fun c1 => ?_)
      · have d2 : 48 ≤ b (m 1 2) ∧ b (m 1 2) ≤ 57 ∧ r2 = b (m 1 2) := by
          rw [hr3] at c1 c2 ⊢
          unfold u8 at c1 c2 ⊢
          revert c1 c2
          split <;> omega
        have nx : ∀ v' : Int, 0 ≤ v' → v' ≤ 99999 → ((m 1 2 + 1 = q + 1 ∧ v' ≤ 9) ∨ (m 1 2 + 1 = q + 2 ∧ v' ≤ 99) ∨ (m 1 2 + 1 = q + 3 ∧ v' ≤ 999) ∨ (m 1 2 + 1 = q + 4 ∧ v' ≤ 9999) ∨ q + 5 ≤ m 1 2 + 1) → (m 1 2 + 1 - q ≤ 5 → v' = nvl b q (m 1 2 + 1 - q).toNat) → wp_X7_takeNumber_78 S (fun a0 a1 a2 a3 M => wp_X7_takeNumber_20 S K k a0 a1 a2 a3 M) K 1 lo hi v' m := by
          intro v' w0 w1 w2 w3
          refine u_X7_takeNumber_78 ?_
          refine g_getu 2 rfl hS.k1 (fun a2' ea2 => ?_)
          refine g_C ?_
          refine g_A (by omega) (by omega) ?_
          refine g_put 2 rfl hS.k1 (hm.w_1_2 (by omega) (by omega)) (fun m2 e2 hm2 => ?_)
          have f2 : ∀ c p : Int, ¬ (c = 1 ∧ p = 2) → m2 c p = m c p := fun c p q => (congrFun (congrFun e2 _) _).trans (up_ne q)
          have y2 : m2 1 2 = a2' + 1 := (congrFun (congrFun e2 _) _).trans (up_at _ _ _ _)
          have y3 : m2 1 2 = m 1 2 + 1 := by omega
          refine ih v' m2 hm2 (fun c p z => (f2 c p (by omega)).trans (F c p z)) ((f2 1 3 (by omega)).trans a1) (by omega) (by omega) (fun j j0 j1 => ?_) w0 w1 (by omega) (by rw [y3]; exact w3) (by omega)
          by_cases e : j = m 1 2
          · rw [e]; exact ⟨by omega, d2.1, d2.2.1⟩
          · exact a4 j j0 (by omega)
        refine g_ifF (by decide) ?_
        refine g_getu 2 rfl hS.k1 (fun a3' ea3 => ?_)
        refine g_getu 3 rfl hS.k1 (fun s es => ?_)
        refine g_S (by omega) (by omega) ?_
        refine g_C ?_
        refine g_if (fun w5 => nx v v0 v1 (by omega) (fun z => by exfalso; omega)) (fun w5 => ?_)
        refine g_C ?_
        refine g_M (by omega) (by omega) ?_
        refine g_getu 2 rfl hS.k1 (fun a4' ea4 => ?_)
        refine ⟨hS.k1, ?_⟩
        refine ze_byteAt hS hm ht (fun r4 hr4 => ?_)
        rw [ea4] at hr4
        have hr5 : r4 = r2 := by
          rcases hr4 with z | z
          · rw [z.2.2, hr3]
          · exfalso; omega
        refine g_A (by omega) (by omega) ?_
        refine g_C ?_
        refine g_S (by omega) (by omega) ?_
        refine nx _ (by omega) (by omega) (by omega) (fun _ => ?_)
        have hv' := hv (by omega)
        rw [nvl_s a2, ← hv']
        omega
      · refine g_ifT rfl ?_
        refine fin (fun z => c1 ?_)
        have z2 := z.2
        unfold Dg at z2
        rw [hr3]
        unfold u8
        split <;> omega
  exact ⟨401, L 401 0 m1 hm1 f1 x2 (by omega) (by omega) (fun j j0 j1 => absurd j1 (by omega)) (by decide) (by decide) (Or.inl ⟨x1, rfl⟩) (fun _ => by rw [x1, nvl_0]) (by omega)⟩
