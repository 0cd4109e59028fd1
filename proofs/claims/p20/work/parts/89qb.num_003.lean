/-- a NUMBER of the reference, to the letter -/
theorem zx_num {X : Mm} {S : Sh} {m0 : Mm} {K : Int → Mm → Prop} {b : Int → Int} {n lo hi : Int} (hS : Shp S) (hm0 : Inv X S m0) (ht : TR X b n) (h9 : m0 336 9 = 0) (hp : m0 336 8 ≤ n) (h1 : ∀ (q r : Int) (M1 : Mm), Inv X S M1 → (∀ c p : Int, ¬ (c = 336 ∧ (p = 8 ∨ p = 10)) → M1 c p = m0 c p) → Sk b n (m0 336 8) q → (q < n ∧ Dg (b q)) → Dr b n q r → ¬ 5 < r - q → ¬ nv b q r < lo → ¬ hi < nv b q r → 0 ≤ nv b q r → M1 336 10 = nv b q r → M1 336 8 = r → r ≤ n → K 1 M1) (h0 : ∀ (q : Int) (M1 : Mm), Inv X S M1 → Sk b n (m0 336 8) q → 0 ≤ q → ¬ (q < n ∧ Dg (b q)) → M1 336 9 = 1 + 8 * q → K 0 M1) (h2 : ∀ (q r : Int) (M1 : Mm), Inv X S M1 → Sk b n (m0 336 8) q → 0 ≤ q → (q < n ∧ Dg (b q)) → Dr b n q r → (5 < r - q ∨ nv b q r < lo ∨ hi < nv b q r) → M1 336 9 = 2 + 8 * q → K 0 M1) : wp_X12_numberHere S m0 336 lo hi K := by
  have nb := ht.2.1
  have b80 := hm0.f_336_8
  refine u_X12_numberHere ?_
  refine ⟨hS.k336, ?_⟩
  refine zx_see hS hm0 ht hp (fun r q m1 hm1 f1 sk x1 hq' hr => ?_)
  have sk1 := sk.1
  have y9 : m1 336 9 = 0 := (f1 336 9 (by omega)).trans h9
  refine g_getu 8 rfl hS.k336 (fun v ev => ?_)
  have evq : v = q := by omega
  refine ⟨hS.k336, ?_⟩
  refine zx_isDigit hS hm1 ht (by omega) (fun d1 d2 => ?_) (fun z => ?_)
  rotate_left
  · refine g_ifF (by decide) ?_
    refine g_C ?_
    refine g_getu 8 rfl hS.k336 (fun a ea => ?_)
    refine ⟨hS.k336, ?_⟩
    refine zx_fails hS hm1 y9 (by decide) (by decide) (by omega) (by omega) (fun m3 hm3 f3 y3 => ?_)
    exact ⟨by decide, h0 q m3 hm3 sk (by omega) (by rw [evq] at z; exact z) (by omega)⟩
  rw [evq] at d1 d2
  have hqn := d1
  have hd := d2
  refine g_ifT (by decide) ?_
  refine g_getu 8 rfl hS.k336 (fun at' eat => ?_)
  refine g_C ?_
  have ea : at' = q := by omega
  subst ea
  have L : ∀ (k : Nat) (v : Int) (m : Mm), Inv X S m → (∀ c p : Int, ¬ (c = 336 ∧ p = 8) → m c p = m0 c p) → at' ≤ m 336 8 → m 336 8 ≤ n → (∀ j : Int, at' ≤ j → j < m 336 8 → j < n ∧ Dg (b j)) → 0 ≤ v → v ≤ 99999 → ((m 336 8 = at' ∧ v = 0) ∨ (m 336 8 = at' + 1 ∧ v ≤ 9) ∨ (m 336 8 = at' + 2 ∧ v ≤ 99) ∨ (m 336 8 = at' + 3 ∧ v ≤ 999) ∨ (m 336 8 = at' + 4 ∧ v ≤ 9999) ∨ at' + 5 ≤ m 336 8) → (m 336 8 - at' ≤ 5 → v = nvl b at' (m 336 8 - at').toNat) → 401 - m 336 8 ≤ (k : Int) → wp_X12_numberHere_34 S K k 336 lo hi at' v m := by
    intro k
    induction k with
    | zero => intro v m _ _ _ _ _ _ _ _ _ h; exfalso; omega
    | succ k ih =>
      intro v m hm F a2 a3 a4 v0 v1 av hv h
      refine u_X12_numberHere_34 ?_
      refine g_getu 8 rfl hS.k336 (fun a ea => ?_)
      refine ⟨hS.k336, ?_⟩
      refine zx_isDigit hS hm ht (by omega) (fun c1 c2 => ?_) (fun c1 => ?_)
      · rw [ea] at c1 c2
        have nx : ∀ v' : Int, 0 ≤ v' → v' ≤ 99999 → ((m 336 8 + 1 = at' + 1 ∧ v' ≤ 9) ∨ (m 336 8 + 1 = at' + 2 ∧ v' ≤ 99) ∨ (m 336 8 + 1 = at' + 3 ∧ v' ≤ 999) ∨ (m 336 8 + 1 = at' + 4 ∧ v' ≤ 9999) ∨ at' + 5 ≤ m 336 8 + 1) → (m 336 8 + 1 - at' ≤ 5 → v' = nvl b at' (m 336 8 + 1 - at').toNat) → wp_X12_numberHere_75 S (fun a0 a1 a2 a3 a4 M => wp_X12_numberHere_34 S K k a0 a1 a2 a3 a4 M) K 336 lo hi at' v' m := by
          intro v' w0 w1 w2 w3
          refine u_X12_numberHere_75 ?_
          refine g_getu 8 rfl hS.k336 (fun a2' ea2 => ?_)
          refine g_C ?_
          refine g_A (by omega) (by omega) ?_
          refine g_put 8 rfl hS.k336 (hm.w_336_8 (by omega) (by omega)) (fun m2 e2 hm2 => ?_)
          have f2 : ∀ c p : Int, ¬ (c = 336 ∧ p = 8) → m2 c p = m c p := fun c p q => (congrFun (congrFun e2 _) _).trans (up_ne q)
          have y2 : m2 336 8 = a2' + 1 := (congrFun (congrFun e2 _) _).trans (up_at _ _ _ _)
          have y3 : m2 336 8 = m 336 8 + 1 := by omega
          refine ih v' m2 hm2 (fun c p z => (f2 c p z).trans (F c p z)) (by omega) (by omega) (fun j j0 j1 => ?_) w0 w1 (by omega) (by rw [y3]; exact w3) (by omega)
          by_cases e : j = m 336 8
          · rw [e]; exact ⟨c1, c2⟩
          · exact a4 j j0 (by omega)
        refine g_ifF (by decide) ?_
        refine g_getu 8 rfl hS.k336 (fun a3' ea3 => ?_)
        refine g_S (by omega) (by omega) ?_
        refine g_C ?_
        refine g_if (fun w5 => nx v v0 v1 (by omega) (fun z => by exfalso; omega)) (fun w5 => ?_)
        refine g_C ?_
        refine g_M (by omega) (by omega) ?_
        refine g_getr 0 337 rfl hS.k336 hm.f_336_0 (by decide) ?_
        refine g_getu 8 rfl hS.k336 (fun a4' ea4 => ?_)
        refine g_ldu hS.k337 hS.l337 (by omega) (by omega) (fun x ex => ?_)
        rw [ea4, ht.b hm (by omega) c1] at ex
        unfold Dg at c2
        refine g_A (by omega) (by omega) ?_
        refine g_C ?_
        refine g_S (by omega) (by omega) ?_
        refine nx _ (by omega) (by omega) (by omega) (fun _ => ?_)
        have hv' := hv (by omega)
        rw [nvl_s a2, ← hv']
        omega
      · rw [ea] at c1
        have hD : Dr b n at' (m 336 8) := ⟨a2, a4, c1⟩
        refine g_ifT rfl ?_
        refine g_put 10 rfl hS.k336 (hm.w_336_10 (by omega) (by omega)) (fun m2 e2 hm2 => ?_)
        have f2 : ∀ c p : Int, ¬ (c = 336 ∧ p = 10) → m2 c p = m c p := fun c p q => (congrFun (congrFun e2 _) _).trans (up_ne q)
        have y2 : m2 336 10 = v := (congrFun (congrFun e2 _) _).trans (up_at _ _ _ _)
        have e28 : m2 336 8 = m 336 8 := f2 336 8 (by omega)
        have e29 : m2 336 9 = 0 := by rw [f2 336 9 (by omega), F 336 9 (by omega)]; exact h9
        have bad : (5 < m 336 8 - at' ∨ nv b at' (m 336 8) < lo ∨ hi < nv b at' (m 336 8)) → wp_X12_numberHere_117 S K 336 at' m2 := by
          intro h5
          refine u_X12_numberHere_117 ?_
          refine g_C ?_
          refine ⟨hS.k336, ?_⟩
          refine zx_fails hS hm2 e29 (by decide) (by decide) (by omega) (by omega) (fun m3 hm3 f3 y3 => ?_)
          exact g_ifT rfl (g_C ⟨by decide, h2 at' (m 336 8) m3 hm3 sk (by omega) ⟨hqn, hd⟩ hD h5 (by omega)⟩)
        refine g_getu 8 rfl hS.k336 (fun a5 ea5 => ?_)
        refine g_S (by omega) (by omega) ?_
        refine g_C ?_
        refine g_if (fun w5 => bad (Or.inl (by omega))) (fun w5 => ?_)
        have ev2 : v = nv b at' (m 336 8) := hv (by omega)
        refine g_C ?_
        refine g_C ?_
        refine g_C ?_
        refine z_in (fun i1 i2 => g_ifT (by decide) ?_) (fun z => g_ifF (by decide) (bad (Or.inr (by omega))))
        refine u_X12_numberHere_126 ?_
        exact g_C ⟨by decide, h1 at' (m 336 8) m2 hm2 (fun c p z => (f2 c p (by omega)).trans (F c p (by omega))) sk ⟨hqn, hd⟩ hD (by omega) (by omega) (by omega) (by omega) (by omega) e28 a3⟩
  exact ⟨401, L 401 0 m1 hm1 (fun c p z => f1 c p (by omega)) (by omega) (by omega) (fun j j0 j1 => absurd j1 (by omega)) (by decide) (by decide) (Or.inl ⟨x1, rfl⟩) (fun _ => by rw [x1, nvl_0]) (by omega)⟩
