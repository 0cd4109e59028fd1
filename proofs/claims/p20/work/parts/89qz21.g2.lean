/-! the class's pile and code, as lists -/
def pl (f : Int → Int) : Nat → List Int
  | 0 => []
  | n + 1 => f (n : Int) :: pl f n
def rl (f : Int → Int) : Nat → List Int
  | 0 => []
  | n + 1 => rl f n ++ [f (n : Int)]
theorem pl_same {f g : Int → Int} : ∀ n : Nat, (∀ j : Int, 0 ≤ j → j < n → f j = g j) → pl f n = pl g n := by
  intro n
  induction n with
  | zero => intro _; rfl
  | succ n ih =>
    intro h
    show f (n : Int) :: pl f n = g (n : Int) :: pl g n
    rw [h (n : Int) (by omega) (by omega), ih (fun j j0 j1 => h j j0 (by omega))]
theorem rl_same {f g : Int → Int} : ∀ n : Nat, (∀ j : Int, 0 ≤ j → j < n → f j = g j) → rl f n = rl g n := by
  intro n
  induction n with
  | zero => intro _; rfl
  | succ n ih =>
    intro h
    show rl f n ++ [f (n : Int)] = rl g n ++ [g (n : Int)]
    rw [h (n : Int) (by omega) (by omega), ih (fun j j0 j1 => h j j0 (by omega))]
theorem bnS_bnd (x : Int) : bnd x = bnS x := rfl
/-- pile P, code O, how deep, how many brackets wait -/
def CQ (M : Mm) (P O : List Int) : Prop := pl (M 54) (M 52 5).toNat = P ∧ rl (M 53) (M 52 2).toNat = O ∧ M 52 6 = (nDp P : Int) ∧ ∀ x : Int, x ∈ P → (-24 ≤ x ∧ x ≤ -12) ∨ x = -27
theorem CQ.same {m m1 : Mm} {P O : List Int} (h : CQ m P O) (f : ∀ c p : Int, (c = 52 ∧ (p = 2 ∨ p = 5 ∨ p = 6)) ∨ c = 53 ∨ c = 54 → m1 c p = m c p) : CQ m1 P O := by
  obtain ⟨h1, h2, h3, h4⟩ := h
  have e4 : m1 54 = m 54 := funext (fun p => f 54 p (by omega))
  have e3 : m1 53 = m 53 := funext (fun p => f 53 p (by omega))
  unfold CQ
  rw [f 52 5 (by omega), f 52 2 (by omega), f 52 6 (by omega), e4, e3]
  exact ⟨h1, h2, h3, h4⟩
theorem zf_write {X : Mm} {S : Sh} {m0 : Mm} {K : Mm → Prop} {u1 : Int} (hS : Shp S) (hm0 : Inv X S m0) (hp : m0 52 2 ≤ 399) (hk : ∀ M1 : Mm, Inv X S M1 → (∀ c p : Int, ¬ (c = 52 ∧ p = 2) → ¬ (c = 53 ∧ p = m0 52 2) → M1 c p = m0 c p) → M1 52 2 = m0 52 2 + 1 → M1 53 (m0 52 2) = u1 → K M1) : wp_X3_write S m0 52 u1 K := by
  have b2 := hm0.f_52_2
  refine u_X3_write ?_
  refine g_getu 2 rfl hS.k52 (fun v1 ev1 => ?_)
  refine g_C ?_
  refine g_ifF (by omega) ?_
  refine g_getr 1 53 rfl hS.k52 hm0.f_52_1 (by decide) ?_
  refine g_getu 2 rfl hS.k52 (fun v5 ev5 => ?_)
  refine g_st hS.k53 hS.l53 (by omega) (by omega) (hm0.wa_53 (by omega) (by omega)) (fun m6 e6 hm6 => ?_)
  have f6 : ∀ c p : Int, ¬ (c = 53 ∧ p = v5) → m6 c p = m0 c p := fun c p q => (congrFun (congrFun e6 _) _).trans (up_ne q)
  have x6 : m6 53 v5 = u1 := (congrFun (congrFun e6 _) _).trans (up_at _ _ _ _)
  refine g_getu 2 rfl hS.k52 (fun v7 ev7 => ?_)
  rw [f6 52 2 (by omega)] at ev7
  refine g_C ?_
  refine g_A (by omega) (by omega) ?_
  refine g_put 2 rfl hS.k52 (hm6.w_52_2 (by omega) (by omega)) (fun m8 e8 hm8 => ?_)
  have f8 : ∀ c p : Int, ¬ (c = 52 ∧ p = 2) → m8 c p = m6 c p := fun c p q => (congrFun (congrFun e8 _) _).trans (up_ne q)
  have x8 : m8 52 2 = v7 + 1 := (congrFun (congrFun e8 _) _).trans (up_at _ _ _ _)
  refine hk m8 hm8 (fun c p q1 q2 => (f8 c p q1).trans (f6 c p (by omega))) (by omega) ?_
  rw [f8 53 _ (by omega), ← ev5]
  exact x6
theorem CQ.write {m m1 : Mm} {P O : List Int} {s : Int} (h : CQ m P O) (h0 : 0 ≤ m 52 2) (f : ∀ c p : Int, ¬ (c = 52 ∧ p = 2) → ¬ (c = 53 ∧ p = m 52 2) → m1 c p = m c p) (h2 : m1 52 2 = m 52 2 + 1) (hs : m1 53 (m 52 2) = s) : CQ m1 P (O ++ [s]) := by
  obtain ⟨p1, p2, p3, p4⟩ := h
  have e4 : m1 54 = m 54 := funext (fun p => f 54 p (by omega) (by omega))
  refine ⟨by rw [f 52 5 (by omega) (by omega), e4]; exact p1, ?_, by rw [f 52 6 (by omega) (by omega)]; exact p3, p4⟩
  rw [h2, show (m 52 2 + 1).toNat = (m 52 2).toNat + 1 by omega]
  show rl (m1 53) (m 52 2).toNat ++ [m1 53 (((m 52 2).toNat : Nat) : Int)] = O ++ [s]
  rw [Int.toNat_of_nonneg h0, hs, rl_same (g := m 53) _ (fun j j0 j1 => f 53 j (by omega) (by omega)), p2]
theorem CQ.push {m m1 : Mm} {P O : List Int} {s : Int} (h : CQ m P O) (h0 : 0 ≤ m 52 5) (f : ∀ c p : Int, ¬ (c = 52 ∧ p = 5) ∧ ¬ (c = 54 ∧ p = m 52 5) → m1 c p = m c p) (h5 : m1 52 5 = m 52 5 + 1) (hs : m1 54 (m 52 5) = s) (hv : (-24 ≤ s ∧ s ≤ -12) ∨ s = -27) (hd : ¬ (s = -27 ∨ s = -22)) : CQ m1 (s :: P) O := by
  obtain ⟨p1, p2, p3, p4⟩ := h
  have e3 : m1 53 = m 53 := funext (fun p => f 53 p (by omega))
  refine ⟨?_, by rw [f 52 2 (by omega), e3]; exact p2, ?_, fun x hx => ?_⟩
  · rw [h5, show (m 52 5 + 1).toNat = (m 52 5).toNat + 1 by omega]
    show m1 54 (((m 52 5).toNat : Nat) : Int) :: pl (m1 54) (m 52 5).toNat = s :: P
    rw [Int.toNat_of_nonneg h0, hs, pl_same (g := m 54) _ (fun j j0 j1 => f 54 j (by omega)), p1]
  · rw [f 52 6 (by omega), p3]
    show (nDp P : Int) = (((if s = -27 ∨ s = -22 then 1 else 0) + nDp P : Nat) : Int)
    rw [if_neg hd, Nat.zero_add]
  · rcases List.mem_cons.mp hx with e | e
    · rw [e]; exact hv
    · exact p4 x e
theorem zf_unpile {X : Mm} {S : Sh} {m0 : Mm} {K : Mm → Prop} {u : Int} {P O : List Int} (hS : Shp S) (hm0 : Inv X S m0) (hc : CQ m0 P O) (hr : m0 52 2 + m0 52 5 ≤ 399) (hl : nDp P ≤ 10) (hk : ∀ M1 : Mm, Inv X S M1 → (∀ c p : Int, ¬ (c = 52 ∧ (p = 2 ∨ p = 5 ∨ p = 6)) ∧ ¬ c = 53 → M1 c p = m0 c p) → CQ M1 (uR u P) (O ++ uW u P) → M1 52 2 + M1 52 5 = m0 52 2 + m0 52 5 → K M1) : wp_X3_unpile S m0 52 u K := by
  have b50 := hm0.f_52_5
  have L : ∀ (k : Nat) (t : Int) (m : Mm) (Q W : List Int), Inv X S m → (∀ c p : Int, ¬ (c = 52 ∧ (p = 2 ∨ p = 5 ∨ p = 6)) ∧ ¬ c = 53 → m c p = m0 c p) → CQ m Q W → uR u Q = uR u P → W ++ uW u Q = O ++ uW u P → nDp Q ≤ 10 → m 52 2 + m 52 5 = m0 52 2 + m0 52 5 → t = m 52 5 - 1 → t + 2 ≤ (k : Int) → wp_X3_unpile_7 S K k 52 u t m := by
    intro k
    induction k with
    | zero =>
      intro t m Q W hm _ _ _ _ _ _ h1 h2
      have b5 := hm.f_52_5
      exfalso; omega
    | succ k ih =>
      intro t m Q W hm F c1 c2 c3 c4 c5 et h
      have b5 := hm.f_52_5
      have b2 := hm.f_52_2
      obtain ⟨p1, p2, p3, p4⟩ := id c1
      have done : uR u Q = Q → uW u Q = [] → K m := by
        intro h1 h2
        refine hk m hm F ?_ c5
        rw [← c2, ← c3, h1, h2, List.append_nil]
        exact c1
      refine u_X3_unpile_7 ?_
      refine g_if (fun w => ?_) (fun w => ?_)
      · have z : (m 52 5).toNat = 0 := by omega
        rw [z] at p1
        rw [← p1] at done
        exact done rfl rfl
      · have es : (m 52 5).toNat = t.toNat + 1 := by omega
        have ct : ((t.toNat : Nat) : Int) = t := by omega
        rw [es] at p1
        have q1 : m 54 t :: pl (m 54) t.toNat = Q := by
          rw [← p1]
          show _ = m 54 ((t.toNat : Nat) : Int) :: pl (m 54) t.toNat
          rw [ct]
        have pe := p4 (m 54 t) (by rw [← q1]; exact List.mem_cons_self ..)
        refine g_getr 4 54 rfl hS.k52 hm.f_52_4 (by decide) ?_
        refine g_ldu hS.k54 hS.l54 (by omega) (by omega) (fun x ex => ?_)
        refine g_C ?_
        refine g_if (fun w2 => ?_) (fun w2 => ?_)
        · have e27 : m 54 t = -27 := by omega
          rw [e27] at q1
          rw [← q1] at done
          exact done (uW_27 u _).2 (uW_27 u _).1
        · refine g_getr 4 54 rfl hS.k52 hm.f_52_4 (by decide) ?_
          refine g_ldu hS.k54 hS.l54 (by omega) (by omega) (fun y ey => ?_)
          refine zl_bnd ?_
          rw [ey, bnS_bnd]
          refine g_if (fun w3 => ?_) (fun w3 => ?_)
          · have nc : ¬ (m 54 t = -27 ∨ bnS (m 54 t) < u) := by omega
            refine g_getr 4 54 rfl hS.k52 hm.f_52_4 (by decide) ?_
            refine g_ldu hS.k54 hS.l54 (by omega) (by omega) (fun y2 ey2 => ?_)
            refine ⟨hS.k52, ?_⟩
            refine zf_write hS hm (by omega) (fun m1 hm1 f1 y1 z1 => ?_)
            have cq1 := c1.write b2.1 f1 y1 z1
            have e5 : m1 52 5 = m 52 5 := f1 52 5 (by omega) (by omega)
            have e6 : m1 52 6 = m 52 6 := f1 52 6 (by omega) (by omega)
            refine ⟨hS.k52, ?_⟩
            refine ze_dropTop hS hm1 (by omega) (by omega) (by omega) (fun m2 hm2 f2 y2' y3 => ?_)
            have f54 : m2 54 = m 54 := funext (fun p => (f2 54 p (by omega)).trans (f1 54 p (by omega) (by omega)))
            rw [f1 54 _ (by omega) (by omega), e5, ← et] at y3
            have e25 : m2 52 5 = t := by omega
            have cq2 : CQ m2 (pl (m 54) t.toNat) (W ++ [y2]) := by
              obtain ⟨a1, a2, a3, a4⟩ := cq1
              have e53 : m2 53 = m1 53 := funext (fun p => f2 53 p (by omega))
              refine ⟨by rw [e25, f54], by rw [f2 52 2 (by omega), e53]; exact a2, ?_, fun x hx => p4 x (by rw [← q1]; exact List.mem_cons_of_mem _ hx)⟩
              have nd : nDp Q = (if m 54 t = -27 ∨ m 54 t = -22 then 1 else 0) + nDp (pl (m 54) t.toNat) := by rw [← q1]; rfl
              rcases y3 with ⟨z1', z2'⟩ | ⟨z1', z2'⟩
              · rw [if_pos z1'] at nd; omega
              · rw [if_neg z1'] at nd; omega
            refine g_A (by omega) (by omega) ?_
            refine ih (t + -1) m2 (pl (m 54) t.toNat) (W ++ [y2]) hm2 (fun c p q => ((f2 c p (by omega)).trans (f1 c p (by omega) (by omega))).trans (F c p q)) cq2 ?_ ?_ ?_ (by rw [f2 52 2 (by omega)]; omega) (by omega) (by omega)
            · rw [← c2, ← q1]
              exact (if_neg nc).symm
            · rw [← c3, ← q1, List.append_assoc]
              show W ++ ([y2] ++ uW u (pl (m 54) t.toNat)) = W ++ (if m 54 t = -27 ∨ bnS (m 54 t) < u then [] else m 54 t :: uW u (pl (m 54) t.toNat))
              rw [if_neg nc, ey2]
              rfl
            · have nd : nDp Q = (if m 54 t = -27 ∨ m 54 t = -22 then 1 else 0) + nDp (pl (m 54) t.toNat) := by rw [← q1]; rfl
              omega
          · have yc : m 54 t = -27 ∨ bnS (m 54 t) < u := Or.inr (by omega)
            rw [← q1] at done
            exact done (if_pos yc) (if_pos yc)
  refine u_X3_unpile ?_
  refine g_getu 5 rfl hS.k52 (fun v ev => ?_)
  refine g_C ?_
  refine g_S (by omega) (by omega) ?_
  exact ⟨402, L 402 (v - 1) m0 P O hm0 (fun _ _ _ => rfl) hc rfl rfl hl rfl (by omega) (by omega)⟩
theorem zf_pile {X : Mm} {S : Sh} {m0 : Mm} {K : Mm → Prop} {s : Int} {P O : List Int} (hS : Shp S) (hm0 : Inv X S m0) (hc : CQ m0 P O) (hr : m0 52 2 + m0 52 5 ≤ 399) (hl : nDp P ≤ 10) (hs : -24 ≤ s ∧ s ≤ -12) (hn : ¬ s = -22) (hk : ∀ M1 : Mm, Inv X S M1 → (∀ c p : Int, ¬ (c = 52 ∧ (p = 2 ∨ p = 5 ∨ p = 6)) ∧ ¬ c = 53 ∧ ¬ c = 54 → M1 c p = m0 c p) → CQ M1 (s :: uR (bnS s) P) (O ++ uW (bnS s) P) → M1 52 2 + M1 52 5 = m0 52 2 + m0 52 5 + 1 → K M1) : wp_X3_pileUp S m0 52 s K := by
  refine u_X3_pileUp ?_
  refine zl_bnd ?_
  rw [bnS_bnd]
  refine ⟨hS.k52, ?_⟩
  refine zf_unpile hS hm0 hc hr hl (fun m1 hm1 f1 c1 y1 => ?_)
  have b2 := hm1.f_52_2
  have b5 := hm1.f_52_5
  refine ⟨hS.k52, ?_⟩
  refine ze_push hS hm1 (by omega) (fun m2 hm2 f2 y2 z2 => ?_)
  refine hk m2 hm2 (fun c p q => (f2 c p (by omega)).trans (f1 c p (by omega))) (c1.push b5.1 f2 y2 z2 (Or.inl hs) (by omega)) ?_
  rw [f2 52 2 (by omega)]
  omega
