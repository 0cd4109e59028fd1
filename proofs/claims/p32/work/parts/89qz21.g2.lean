section
/-! the class's pile and code, as lists -/
def pl (f : Int → Int) : Nat → List Int
  | 0 => []
  | n + 1 => f (n : Int) :: pl f n
def rl (f : Int → Int) : Nat → List Int
  | 0 => []
  | n + 1 => rl f n ++ [f (n : Int)]
theorem pl_same {f g : Int → Int} : ∀ n : Nat, (∀ j : Int, 0 ≤ j → j < n → f j = g j) → pl f n = pl g n := by
  intro n
  induction n with
  | zero => intro _; rfl
  | succ n ih =>
    intro h
    show f (n : Int) :: pl f n = g (n : Int) :: pl g n
    rw [h (n : Int) (by omega) (by omega), ih (fun j j0 j1 => h j j0 (by omega))]
theorem rl_same {f g : Int → Int} : ∀ n : Nat, (∀ j : Int, 0 ≤ j → j < n → f j = g j) → rl f n = rl g n := by
  intro n
  induction n with
  | zero => intro _; rfl
  | succ n ih =>
    intro h
    show rl f n ++ [f (n : Int)] = rl g n ++ [g (n : Int)]
    rw [h (n : Int) (by omega) (by omega), ih (fun j j0 j1 => h j j0 (by omega))]
theorem bnS_bnd (x : Int) : bnd x = bnS x := rfl
/-- pile P, code O, how deep, how many brackets wait -/
def CQ (M : Mm) (P O : List Int) : Prop := pl (M 54) (M 52 5).toNat = P ∧ rl (M 53) (M 52 2).toNat = O ∧ M 52 6 = (nDp P : Int) ∧ ∀ x : Int, x ∈ P → (-24 ≤ x ∧ x ≤ -12) ∨ x = -27
theorem CQ.same {m m1 : Mm} {P O : List Int} (h : CQ m P O) (f : ∀ c p : Int, (c = 52 ∧ (p = 2 ∨ p = 5 ∨ p = 6)) ∨ c = 53 ∨ c = 54 → m1 c p = m c p) : CQ m1 P O := by
  obtain ⟨h1, h2, h3, h4⟩ := h
  have e4 : m1 54 = m 54 := funext (fun p => f 54 p (by first | decide | exact fun z => absurd z.1 (by decide) | exact ⟨fun z => absurd z.1 (by decide), fun z => absurd z.1 (by decide)⟩ | omega))
  have e3 : m1 53 = m 53 := funext (fun p => f 53 p (by first | decide | exact fun z => absurd z.1 (by decide) | exact ⟨fun z => absurd z.1 (by decide), fun z => absurd z.1 (by decide)⟩ | omega))
  unfold CQ
  rw [f 52 5 (by first | decide | exact fun z => absurd z.1 (by decide) | exact ⟨fun z => absurd z.1 (by decide), fun z => absurd z.1 (by decide)⟩ | omega), f 52 2 (by first | decide | exact fun z => absurd z.1 (by decide) | exact ⟨fun z => absurd z.1 (by decide), fun z => absurd z.1 (by decide)⟩ | omega), f 52 6 (by first | decide | exact fun z => absurd z.1 (by decide) | exact ⟨fun z => absurd z.1 (by decide), fun z => absurd z.1 (by decide)⟩ | omega), e4, e3]
  exact ⟨h1, h2, h3, h4⟩
theorem zf_write {X : Mm} {S : Sh} {m0 : Mm} {K : Mm → Prop} {u1 : Int} (hS : Shp S) (hm0 : Inv X S m0) (hp : m0 52 2 ≤ 399) (hk : ∀ M1 : Mm, Inv X S M1 → (∀ c p : Int, ¬ (c = 52 ∧ p = 2) → ¬ (c = 53 ∧ p = m0 52 2) → M1 c p = m0 c p) → M1 52 2 = m0 52 2 + 1 → M1 53 (m0 52 2) = u1 → K M1) : wp_X3_write S m0 52 u1 K := by
  have b2 := hm0.f_52_2
  refine u_X3_write ?_
  refine g_getu 2 rfl hS.k52 (fun v1 ev1 => ?_)
  refine g_C ?_
  refine g_ifF (by first | decide | omega) ?_
  refine g_getr 1 53 rfl hS.k52 hm0.f_52_1 (by decide) ?_
  refine g_getu 2 rfl hS.k52 (fun v5 ev5 => ?_)
  refine g_st hS.k53 hS.l53 (by omega) (by omega) (hm0.wa_53 (by omega) (by omega)) (fun m6 e6 hm6 => ?_)
  have f6 : ∀ c p : Int, ¬ (c = 53 ∧ p = v5) → m6 c p = m0 c p := fun c p q => (congrFun (congrFun e6 _) _).trans (up_ne q)
  have x6 : m6 53 v5 = u1 := (congrFun (congrFun e6 _) _).trans (up_at _ _ _ _)
  refine g_getu 2 rfl hS.k52 (fun v7 ev7 => ?_)
  rw [f6 52 2 (by first | decide | exact fun z => absurd z.1 (by decide) | exact ⟨fun z => absurd z.1 (by decide), fun z => absurd z.1 (by decide)⟩ | omega)] at ev7
  refine g_C ?_
  refine g_A (by omega) (by omega) ?_
  refine g_put 2 rfl hS.k52 (hm6.w_52_2 (by omega) (by omega)) (fun m8 e8 hm8 => ?_)
  have f8 : ∀ c p : Int, ¬ (c = 52 ∧ p = 2) → m8 c p = m6 c p := fun c p q => (congrFun (congrFun e8 _) _).trans (up_ne q)
  have x8 : m8 52 2 = v7 + 1 := (congrFun (congrFun e8 _) _).trans (up_at _ _ _ _)
  refine hk m8 hm8 (fun c p q1 q2 => (f8 c p q1).trans (f6 c p (by first | exact fun y => absurd (y.1 ▸ z) (by decide) | exact fun y => absurd (y.1 ▸ q) (by decide) | exact z | exact q | exact z.1 | exact q.1 | exact z.2 | exact q.2 | omega))) (by omega) ?_
  rw [f8 53 _ (by first | decide | exact fun z => absurd z.1 (by decide) | exact ⟨fun z => absurd z.1 (by decide), fun z => absurd z.1 (by decide)⟩ | omega), ← ev5]
  exact x6
theorem CQ.write {m m1 : Mm} {P O : List Int} {s : Int} (h : CQ m P O) (h0 : 0 ≤ m 52 2) (f : ∀ c p : Int, ¬ (c = 52 ∧ p = 2) → ¬ (c = 53 ∧ p = m 52 2) → m1 c p = m c p) (h2 : m1 52 2 = m 52 2 + 1) (hs : m1 53 (m 52 2) = s) : CQ m1 P (O ++ [s]) := by
  obtain ⟨p1, p2, p3, p4⟩ := h
  have e4 : m1 54 = m 54 := funext (fun p => f 54 p (by first | decide | exact fun z => absurd z.1 (by decide) | exact ⟨fun z => absurd z.1 (by decide), fun z => absurd z.1 (by decide)⟩ | omega) (by first | decide | exact fun z => absurd z.1 (by decide) | exact ⟨fun z => absurd z.1 (by decide), fun z => absurd z.1 (by decide)⟩ | omega))
  refine ⟨by rw [f 52 5 (by first | decide | exact fun z => absurd z.1 (by decide) | exact ⟨fun z => absurd z.1 (by decide), fun z => absurd z.1 (by decide)⟩ | omega) (by first | decide | exact fun z => absurd z.1 (by decide) | exact ⟨fun z => absurd z.1 (by decide), fun z => absurd z.1 (by decide)⟩ | omega), e4]; exact p1, ?_, by rw [f 52 6 (by first | decide | exact fun z => absurd z.1 (by decide) | exact ⟨fun z => absurd z.1 (by decide), fun z => absurd z.1 (by decide)⟩ | omega) (by first | decide | exact fun z => absurd z.1 (by decide) | exact ⟨fun z => absurd z.1 (by decide), fun z => absurd z.1 (by decide)⟩ | omega)]; exact p3, p4⟩
  rw [h2, show (m 52 2 + 1).toNat = (m 52 2).toNat + 1 by omega]
  show rl (m1 53) (m 52 2).toNat ++ [m1 53 (((m 52 2).toNat : Nat) : Int)] = O ++ [s]
  rw [Int.toNat_of_nonneg h0, hs, rl_same (g := m 53) _ (fun j j0 j1 => f 53 j (by first | decide | exact fun z => absurd z.1 (by decide) | exact ⟨fun z => absurd z.1 (by decide), fun z => absurd z.1 (by decide)⟩ | omega) (by first | decide | exact fun z => absurd z.1 (by decide) | exact ⟨fun z => absurd z.1 (by decide), fun z => absurd z.1 (by decide)⟩ | omega)), p2]
theorem CQ.push {m m1 : Mm} {P O : List Int} {s : Int} (h : CQ m P O) (h0 : 0 ≤ m 52 5) (f : ∀ c p : Int, ¬ (c = 52 ∧ p = 5) ∧ ¬ (c = 54 ∧ p = m 52 5) → m1 c p = m c p) (h5 : m1 52 5 = m 52 5 + 1) (hs : m1 54 (m 52 5) = s) (hv : (-24 ≤ s ∧ s ≤ -12) ∨ s = -27) (hd : ¬ (s = -27 ∨ s = -22)) : CQ m1 (s :: P) O := by
  obtain ⟨p1, p2, p3, p4⟩ := h
  have e3 : m1 53 = m 53 := funext (fun p => f 53 p (by first | decide | exact fun z => absurd z.1 (by decide) | exact ⟨fun z => absurd z.1 (by decide), fun z => absurd z.1 (by decide)⟩ | omega))
  refine ⟨?_, by rw [f 52 2 (by first | decide | exact fun z => absurd z.1 (by decide) | exact ⟨fun z => absurd z.1 (by decide), fun z => absurd z.1 (by decide)⟩ | omega), e3]; exact p2, ?_, fun x hx => ?_⟩
  · rw [h5, show (m 52 5 + 1).toNat = (m 52 5).toNat + 1 by omega]
    show m1 54 (((m 52 5).toNat : Nat) : Int) :: pl (m1 54) (m 52 5).toNat = s :: P
    rw [Int.toNat_of_nonneg h0, hs, pl_same (g := m 54) _ (fun j j0 j1 => f 54 j (by first | decide | exact fun z => absurd z.1 (by decide) | exact ⟨fun z => absurd z.1 (by decide), fun z => absurd z.1 (by decide)⟩ | omega)), p1]
  · rw [f 52 6 (by first | decide | exact fun z => absurd z.1 (by decide) | exact ⟨fun z => absurd z.1 (by decide), fun z => absurd z.1 (by decide)⟩ | omega), p3]
    show (nDp P : Int) = (((if s = -27 ∨ s = -22 then 1 else 0) + nDp P : Nat) : Int)
    rw [if_neg hd, Nat.zero_add]
  · rcases List.mem_cons.mp hx with e | e
    · rw [e]; exact hv
    · exact p4 x e
theorem zf_unpile {X : Mm} {S : Sh} {m0 : Mm} {K : Mm → Prop} {u : Int} {P O : List Int} (hS : Shp S) (hm0 : Inv X S m0) (hc : CQ m0 P O) (hr : m0 52 2 + m0 52 5 ≤ 399) (hl : nDp P ≤ 10) (hk : ∀ M1 : Mm, Inv X S M1 → (∀ c p : Int, ¬ (c = 52 ∧ (p = 2 ∨ p = 5 ∨ p = 6)) ∧ ¬ c = 53 → M1 c p = m0 c p) → CQ M1 (uR u P) (O ++ uW u P) → M1 52 2 + M1 52 5 = m0 52 2 + m0 52 5 → K M1) : wp_X3_unpile S m0 52 u K := by
  have b50 := hm0.f_52_5
  have L : ∀ (k : Nat) (t : Int) (m : Mm) (Q W : List Int), Inv X S m → (∀ c p : Int, ¬ (c = 52 ∧ (p = 2 ∨ p = 5 ∨ p = 6)) ∧ ¬ c = 53 → m c p = m0 c p) → CQ m Q W → uR u Q = uR u P → W ++ uW u Q = O ++ uW u P → nDp Q ≤ 10 → m 52 2 + m 52 5 = m0 52 2 + m0 52 5 → t = m 52 5 - 1 → t + 2 ≤ (k : Int) → wp_X3_unpile_7 S K k 52 u t m := by
    intro k
    induction k with
    | zero =>
      intro t m Q W hm _ _ _ _ _ _ h1 h2
      have b5 := hm.f_52_5
      exfalso; omega
    | succ k ih =>
      intro t m Q W hm F c1 c2 c3 c4 c5 et h
      have b5 := hm.f_52_5
      have b2 := hm.f_52_2
      obtain ⟨p1, p2, p3, p4⟩ := id c1
      have done : uR u Q = Q → uW u Q = [] → K m := by
        intro h1 h2
        refine hk m hm F ?_ c5
        rw [← c2, ← c3, h1, h2, List.append_nil]
        exact c1
      refine u_X3_unpile_7 ?_
      refine g_if (fun w => ?_) (fun w => ?_)
      · have z : (m 52 5).toNat = 0 := by omega
        rw [z] at p1
        rw [← p1] at done
        exact done rfl rfl
      · have es : (m 52 5).toNat = t.toNat + 1 := by omega
        have ct : ((t.toNat : Nat) : Int) = t := by omega
        rw [es] at p1
        have q1 : m 54 t :: pl (m 54) t.toNat = Q := by
          rw [← p1]
          show _ = m 54 ((t.toNat : Nat) : Int) :: pl (m 54) t.toNat
          rw [ct]
        have pe := p4 (m 54 t) (by rw [← q1]; exact List.mem_cons_self ..)
        refine g_getr 4 54 rfl hS.k52 hm.f_52_4 (by decide) ?_
        refine g_ldu hS.k54 hS.l54 (by omega) (by omega) (fun x ex => ?_)
        refine g_C ?_
        refine g_if (fun w2 => ?_) (fun w2 => ?_)
        · have e27 : m 54 t = -27 := by omega
          rw [e27] at q1
          rw [← q1] at done
          exact done (uW_27 u _).2 (uW_27 u _).1
        · refine g_getr 4 54 rfl hS.k52 hm.f_52_4 (by decide) ?_
          refine g_ldu hS.k54 hS.l54 (by omega) (by omega) (fun y ey => ?_)
          refine zl_bnd ?_
          rw [ey, bnS_bnd]
          refine g_if (fun w3 => ?_) (fun w3 => ?_)
          · have nc : ¬ (m 54 t = -27 ∨ bnS (m 54 t) < u) := by omega
            refine g_getr 4 54 rfl hS.k52 hm.f_52_4 (by decide) ?_
            refine g_ldu hS.k54 hS.l54 (by omega) (by omega) (fun y2 ey2 => ?_)
            refine ⟨hS.k52, ?_⟩
            refine zf_write hS hm (by omega) (fun m1 hm1 f1 y1 z1 => ?_)
            have cq1 := c1.write b2.1 f1 y1 z1
            have e5 : m1 52 5 = m 52 5 := f1 52 5 (by first | decide | exact fun z => absurd z.1 (by decide) | exact ⟨fun z => absurd z.1 (by decide), fun z => absurd z.1 (by decide)⟩ | omega) (by first | decide | exact fun z => absurd z.1 (by decide) | exact ⟨fun z => absurd z.1 (by decide), fun z => absurd z.1 (by decide)⟩ | omega)
            have e6 : m1 52 6 = m 52 6 := f1 52 6 (by first | decide | exact fun z => absurd z.1 (by decide) | exact ⟨fun z => absurd z.1 (by decide), fun z => absurd z.1 (by decide)⟩ | omega) (by first | decide | exact fun z => absurd z.1 (by decide) | exact ⟨fun z => absurd z.1 (by decide), fun z => absurd z.1 (by decide)⟩ | omega)
            refine ⟨hS.k52, ?_⟩
            refine ze_dropTop hS hm1 (by omega) (by omega) (by omega) (fun m2 hm2 f2 y2' y3 => ?_)
            have f54 : m2 54 = m 54 := funext (fun p => (f2 54 p (by first | decide | exact fun z => absurd z.1 (by decide) | exact ⟨fun z => absurd z.1 (by decide), fun z => absurd z.1 (by decide)⟩ | omega)).trans (f1 54 p (by first | decide | exact fun z => absurd z.1 (by decide) | exact ⟨fun z => absurd z.1 (by decide), fun z => absurd z.1 (by decide)⟩ | omega) (by first | decide | exact fun z => absurd z.1 (by decide) | exact ⟨fun z => absurd z.1 (by decide), fun z => absurd z.1 (by decide)⟩ | omega)))
            rw [f1 54 _ (by first | decide | exact fun z => absurd z.1 (by decide) | exact ⟨fun z => absurd z.1 (by decide), fun z => absurd z.1 (by decide)⟩ | omega) (by first | decide | exact fun z => absurd z.1 (by decide) | exact ⟨fun z => absurd z.1 (by decide), fun z => absurd z.1 (by decide)⟩ | omega), e5, ← et] at y3
            have e25 : m2 52 5 = t := by omega
            have cq2 : CQ m2 (pl (m 54) t.toNat) (W ++ [y2]) := by
              obtain ⟨a1, a2, a3, a4⟩ := cq1
              have e53 : m2 53 = m1 53 := funext (fun p => f2 53 p (by first | decide | exact fun z => absurd z.1 (by decide) | exact ⟨fun z => absurd z.1 (by decide), fun z => absurd z.1 (by decide)⟩ | omega))
              refine ⟨by rw [e25, f54], by rw [f2 52 2 (by first | decide | exact fun z => absurd z.1 (by decide) | exact ⟨fun z => absurd z.1 (by decide), fun z => absurd z.1 (by decide)⟩ | omega), e53]; exact a2, ?_, fun x hx => p4 x (by rw [← q1]; exact List.mem_cons_of_mem _ hx)⟩
              have nd : nDp Q = (if m 54 t = -27 ∨ m 54 t = -22 then 1 else 0) + nDp (pl (m 54) t.toNat) := by rw [← q1]; rfl
              rcases y3 with ⟨z1', z2'⟩ | ⟨z1', z2'⟩
              · rw [if_pos z1'] at nd; omega
              · rw [if_neg z1'] at nd; omega
            refine g_A (by omega) (by omega) ?_
            refine ih (t + -1) m2 (pl (m 54) t.toNat) (W ++ [y2]) hm2 (fun c p q => ((f2 c p (by first | exact fun y => absurd (y.1 ▸ z) (by decide) | exact fun y => absurd (y.1 ▸ q) (by decide) | exact z | exact q | exact z.1 | exact q.1 | exact z.2 | exact q.2 | omega)).trans (f1 c p (by first | exact fun y => absurd (y.1 ▸ z) (by decide) | exact fun y => absurd (y.1 ▸ q) (by decide) | exact z | exact q | exact z.1 | exact q.1 | exact z.2 | exact q.2 | omega) (by omega))).trans (F c p q)) cq2 ?_ ?_ ?_ (by rw [f2 52 2 (by first | decide | exact fun z => absurd z.1 (by decide) | exact ⟨fun z => absurd z.1 (by decide), fun z => absurd z.1 (by decide)⟩ | omega)]; omega) (by omega) (by omega)
            · rw [← c2, ← q1]
              exact (if_neg nc).symm
            · rw [← c3, ← q1, List.append_assoc]
              show W ++ ([y2] ++ uW u (pl (m 54) t.toNat)) = W ++ (if m 54 t = -27 ∨ bnS (m 54 t) < u then [] else m 54 t :: uW u (pl (m 54) t.toNat))
              rw [if_neg nc, ey2]
              rfl
            · have nd : nDp Q = (if m 54 t = -27 ∨ m 54 t = -22 then 1 else 0) + nDp (pl (m 54) t.toNat) := by rw [← q1]; rfl
              omega
          · have yc : m 54 t = -27 ∨ bnS (m 54 t) < u := Or.inr (by omega)
            rw [← q1] at done
            exact done (if_pos yc) (if_pos yc)
  refine u_X3_unpile ?_
  refine g_getu 5 rfl hS.k52 (fun v ev => ?_)
  refine g_C ?_
  refine g_S (by omega) (by omega) ?_
  exact ⟨402, L 402 (v - 1) m0 P O hm0 (fun _ _ _ => rfl) hc rfl rfl hl rfl (by omega) (by omega)⟩
theorem zf_pile {X : Mm} {S : Sh} {m0 : Mm} {K : Mm → Prop} {s : Int} {P O : List Int} (hS : Shp S) (hm0 : Inv X S m0) (hc : CQ m0 P O) (hr : m0 52 2 + m0 52 5 ≤ 399) (hl : nDp P ≤ 10) (hs : -24 ≤ s ∧ s ≤ -12) (hn : ¬ s = -22) (hk : ∀ M1 : Mm, Inv X S M1 → (∀ c p : Int, ¬ (c = 52 ∧ (p = 2 ∨ p = 5 ∨ p = 6)) ∧ ¬ c = 53 ∧ ¬ c = 54 → M1 c p = m0 c p) → CQ M1 (s :: uR (bnS s) P) (O ++ uW (bnS s) P) → M1 52 2 + M1 52 5 = m0 52 2 + m0 52 5 + 1 → K M1) : wp_X3_pileUp S m0 52 s K := by
  refine u_X3_pileUp ?_
  refine zl_bnd ?_
  rw [bnS_bnd]
  refine ⟨hS.k52, ?_⟩
  refine zf_unpile hS hm0 hc hr hl (fun m1 hm1 f1 c1 y1 => ?_)
  have b2 := hm1.f_52_2
  have b5 := hm1.f_52_5
  refine ⟨hS.k52, ?_⟩
  refine ze_push hS hm1 (by omega) (fun m2 hm2 f2 y2 z2 => ?_)
  refine hk m2 hm2 (fun c p q => (f2 c p (by first | exact fun y => absurd (y.1 ▸ z) (by decide) | exact fun y => absurd (y.1 ▸ q) (by decide) | exact z | exact q | exact z.1 | exact q.1 | exact z.2 | exact q.2 | omega)).trans (f1 c p (by first | exact fun y => absurd (y.1 ▸ z) (by decide) | exact fun y => absurd (y.1 ▸ q) (by decide) | exact z | exact q | exact z.1 | exact q.1 | exact z.2 | exact q.2 | omega))) (c1.push b5.1 f2 y2 z2 (Or.inl hs) (by omega)) ?_
  rw [f2 52 2 (by first | decide | exact fun z => absurd z.1 (by decide) | exact ⟨fun z => absurd z.1 (by decide), fun z => absurd z.1 (by decide)⟩ | omega)]
  omega
end
section
/-! the class's rule reader with what it writes, held against Bcc -/
theorem Bcc.back {b : Int → Int} {n m p q c : Int} {P O : List Int} {k f : Int} {E : List Int} (hs : Sk b n p q) (h : Bcc b n m q c P O k f E) : Bcc b n m p c P O k f E := by
  obtain ⟨N, h⟩ := h
  cases N with
  | zero => exact h.elim
  | succ N =>
    obtain ⟨r, hr, h⟩ := h
    have e := hr.uniq hs.idem
    subst e
    exact ⟨N + 1, r, hs, h⟩
theorem tb_V {b : Int → Int} {n : Int} {A : Bc} {m q c : Int} {P O : List Int} {k f : Int} {E : List Int} (hm : m = 1 ∨ m = 2 ∨ m = 3) (h : bVal b n A m q c P O k f E) : bst b n A m q c P O k f E := g_ifF (by first | decide | omega) (g_ifT hm h)
theorem tb_0 {b : Int → Int} {n : Int} {A : Bc} {q c : Int} {P O : List Int} {k f : Int} {E : List Int} (h : b0 b n A q c O k f E) : bst b n A 0 q c P O k f E := g_ifT rfl h
theorem tb_A0 {b : Int → Int} {n : Int} {A : Bc} {q c : Int} {P O : List Int} {k f : Int} {E : List Int} (h : bA0 b n A q c P O k f E) : bst b n A 4 q c P O k f E := g_ifF (by decide) (g_ifF (by decide) (g_ifT rfl h))
theorem tb_A1 {b : Int → Int} {n : Int} {A : Bc} {q c : Int} {P O : List Int} {k f : Int} {E : List Int} (h : bA1 b n A q c P O k f E) : bst b n A 5 q c P O k f E := g_ifF (by decide) (g_ifF (by decide) (g_ifF (by decide) (g_ifT rfl h)))
theorem tb_A2 {b : Int → Int} {n : Int} {A : Bc} {q c : Int} {P O : List Int} {k f : Int} {E : List Int} (h : bA2 b n A q c P O k f E) : bst b n A 6 q c P O k f E := g_ifF (by decide) (g_ifF (by decide) (g_ifF (by decide) (g_ifF (by decide) (g_ifT rfl h))))
theorem tb_A3 {b : Int → Int} {n : Int} {A : Bc} {q c : Int} {P O : List Int} {k f : Int} {E : List Int} (h : bA3 b n A q c P O k f E) : bst b n A 7 q c P O k f E := g_ifF (by decide) (g_ifF (by decide) (g_ifF (by decide) (g_ifF (by decide) (g_ifF (by decide) (g_ifT rfl h)))))
theorem tb_O {b : Int → Int} {n : Int} {A : Bc} {q c : Int} {P O : List Int} {k f : Int} {E : List Int} (h : bO b n A q c P O k f E) : bst b n A 8 q c P O k f E := g_ifF (by decide) (g_ifF (by decide) (g_ifF (by decide) (g_ifF (by decide) (g_ifF (by decide) (g_ifF (by decide) (g_ifT rfl h))))))
theorem tb_E {b : Int → Int} {n : Int} {A : Bc} {q c : Int} {P O : List Int} {k f : Int} {E : List Int} (h : bE b n A q c O k f E) : bst b n A 9 q c P O k f E := g_ifF (by decide) (g_ifF (by decide) (g_ifF (by decide) (g_ifF (by decide) (g_ifF (by decide) (g_ifF (by decide) (g_ifF (by decide) h))))))
theorem bV_hit {b : Int → Int} {n : Int} {A : Bc} {m q c : Int} {P O : List Int} {k f : Int} {E : List Int} : ∀ (l : List (Nat × Int)) (i : Nat), i < l.length → (∀ j : Nat, j < i → ¬ Wk b n (l.getD j (0, 0)).1 q) → Wk b n (l.getD i (0, 0)).1 q → wIf (c = 60) (f = 4 + 8 * q ∧ E = []) (A (m + 3) (q + tl (l.getD i (0, 0)).1) (c + 1) P (O ++ [(l.getD i (0, 0)).2]) k f E) → bV b n A m q c P O k f E l := by
  intro l
  induction l with
  | nil => intro i hi; exact absurd hi (Nat.not_lt_zero i)
  | cons a l ih =>
    intro i hi h1 h2 h3
    cases i with
    | zero => exact g_ifT h2 h3
    | succ i =>
      refine g_ifF (h1 0 (Nat.succ_pos i)) ?_
      exact ih i (Nat.lt_of_succ_lt_succ hi) (fun j hj => h1 (j + 1) (Nat.succ_lt_succ hj)) h2 h3
theorem bV_miss {b : Int → Int} {n : Int} {A : Bc} {m q c : Int} {P O : List Int} {k : Int} : ∀ l : List (Nat × Int), (∀ j : Nat, j < l.length → ¬ Wk b n (l.getD j (0, 0)).1 q) → bV b n A m q c P O k (1 + 8 * q) [] l := by
  intro l
  induction l with
  | nil => intro _; exact ⟨rfl, rfl⟩
  | cons a l ih =>
    intro h
    exact g_ifF (h 0 (Nat.succ_pos _)) (ih (fun j hj => h (j + 1) (Nat.succ_lt_succ hj)))
theorem bws_v : ∀ i : Nat, i < 10 → (bws.getD i (0, 0)).1 = vws.getD i 0 ∧ (bws.getD i (0, 0)).2 = -2 - (i : Int) := by decide
/-- the class has come so far: T is how it must end -/
def Lq (b : Int → Int) (n : Int) (T : Int → List Int → Prop) (M : Mm) (m : Int) (P O : List Int) (k : Int) : Prop := (∀ (f : Int) (E : List Int), Bcc b n m (M 1 2) (M 52 3) P O k f E → T f E) ∧ M 1 4 = 0 ∧ M 1 2 ≤ n ∧ M 52 2 + M 52 5 + 2 ≤ M 1 2 ∧ M 52 3 ≤ 60 ∧ nDp P ≤ 10 ∧ CQ M P O ∧ M 52 7 = (nOp P : Int)
theorem Lq.move {b : Int → Int} {n : Int} {T : Int → List Int → Prop} {M M1 : Mm} {m k q : Int} {P O : List Int} (h : Lq b n T M m P O k) (f : ∀ c p : Int, ¬ (c = 1 ∧ 2 ≤ p ∧ p ≤ 3) → M1 c p = M c p) (hs : Sk b n (M 1 2) q) (hq : M1 1 2 = q) (hn : q ≤ n) : Lq b n T M1 m P O k := by
  obtain ⟨h1, h2, h3, h4, h5, h6, h7, h8⟩ := h
  refine ⟨fun g E z => h1 g E ?_, (f 1 4 (by first | decide | exact fun z => absurd z.1 (by decide) | exact ⟨fun z => absurd z.1 (by decide), fun z => absurd z.1 (by decide)⟩ | omega)).trans h2, by omega, ?_, by rw [f 52 3 (by first | decide | exact fun z => absurd z.1 (by decide) | exact ⟨fun z => absurd z.1 (by decide), fun z => absurd z.1 (by decide)⟩ | omega)]; exact h5, h6, h7.same (fun c p z => f c p (by omega)), (f 52 7 (by first | decide | exact fun z => absurd z.1 (by decide) | exact ⟨fun z => absurd z.1 (by decide), fun z => absurd z.1 (by decide)⟩ | omega)).trans h8⟩
  · rw [hq, f 52 3 (by first | decide | exact fun z => absurd z.1 (by decide) | exact ⟨fun z => absurd z.1 (by decide), fun z => absurd z.1 (by decide)⟩ | omega)] at z
    exact Bcc.back hs z
  · rw [f 52 2 (by first | decide | exact fun z => absurd z.1 (by decide) | exact ⟨fun z => absurd z.1 (by decide), fun z => absurd z.1 (by decide)⟩ | omega), f 52 5 (by first | decide | exact fun z => absurd z.1 (by decide) | exact ⟨fun z => absurd z.1 (by decide), fun z => absurd z.1 (by decide)⟩ | omega)]
    have := hs.1
    omega
theorem zf_takeValueWord {X : Mm} {S : Sh} {m0 : Mm} {K : Int → Mm → Prop} {b : Int → Int} {n q : Int} (hS : Shp S) (hm0 : Inv X S m0) (ht : TC X b n) (hq : m0 1 2 = q) (hqn : q ≤ n) (sq : Sk b n q q) (h1 : ∀ (i : Nat) (v : Int) (M1 : Mm), i < 10 → (∀ j : Nat, j < i → ¬ Wk b n (vws.getD j 0) q) → Wk b n (vws.getD i 0) q → Inv X S M1 → (∀ c p : Int, ¬ (c = 1 ∧ 2 ≤ p ∧ p ≤ 3) → M1 c p = m0 c p) → M1 1 2 = q + tl (vws.getD i 0) → M1 1 3 = q → q + tl (vws.getD i 0) ≤ n → v = -2 - (i : Int) → K v M1) (h0 : ∀ M1 : Mm, (∀ j : Nat, j < 10 → ¬ Wk b n (vws.getD j 0) q) → Inv X S M1 → (∀ c p : Int, ¬ (c = 1 ∧ 2 ≤ p ∧ p ≤ 3) → M1 c p = m0 c p) → M1 1 2 = q → M1 1 3 = q → K (-1) M1) : wp_X3_takeValueWord S m0 52 K := by
  refine u_X3_takeValueWord ?_
  refine g_C ?_
  have L : ∀ (k : Nat) (i : Nat) (m : Mm), i ≤ 10 → (∀ j : Nat, j < i → ¬ Wk b n (vws.getD j 0) q) → Inv X S m → (∀ c p : Int, ¬ (c = 1 ∧ 2 ≤ p ∧ p ≤ 3) → m c p = m0 c p) → m 1 2 = q → (i = 0 ∨ m 1 3 = q) → 11 - (i : Int) ≤ (k : Int) → wp_X3_takeValueWord_2 S K k 52 (i : Int) m := by
    intro k
    induction k with
    | zero => intro i m hi _ _ _ _ _ h; exfalso; omega
    | succ k ih =>
      intro i m hi hn hm F a2 a3 h
      refine u_X3_takeValueWord_2 ?_
      refine g_C ?_
      refine g_if (fun w => ?_) (fun w => ?_)
      · have e : i = 10 := by omega
        rw [e] at hn
        exact g_C (h0 m hn hm F a2 (a3.resolve_left (by omega)))
      · refine g_getr 0 1 rfl hS.k52 hm.f_52_0 (by decide) ?_
        have go : ∀ u : Int, u = -3 - ((vws.getD i 0 : Nat) : Int) → isK S 1 7 ∧ (wp_X7_takesWord S m 1 u fun v11 M10 => wIf (v11 = 0) (wA (i : Int) 1 fun v13 => wp_X3_takeValueWord_2 S K k 52 v13 M10) (wC (-2) fun v15 => wS v15 (i : Int) fun v17 => K v17 M10)) := by
          intro u hu
          refine ⟨hS.k1, ?_⟩
          refine ze_takesWord (vws.getD i 0) hS hm ht (by omega) (vws_t i (by omega)) hu (fun q' m1 hm1 f1 sk x1 x2 l1 wk => ?_) (fun q' m1 hm1 f1 sk x1 x2 l1 wk => ?_)
          · rw [a2] at sk
            have e := sk.uniq sq
            subst e
            refine g_ifF (by decide) ?_
            refine g_C ?_
            refine g_S (by omega) (by omega) ?_
            exact h1 i _ m1 (by omega) hn wk hm1 (fun c p z => (f1 c p z).trans (F c p z)) x1 x2 l1 (by omega)
          · rw [a2] at sk
            have e := sk.uniq sq
            subst e
            refine g_ifT rfl ?_
            refine g_A (by omega) (by omega) ?_
            rw [show (i : Int) + 1 = ((i + 1 : Nat) : Int) by omega]
            refine ih (i + 1) m1 (by omega) (fun j hj => ?_) hm1 (fun c p z => (f1 c p z).trans (F c p z)) x1 (Or.inr x2) (by omega)
            by_cases ej : j = i
            · rw [ej]; exact wk
            · exact hn j (by omega)
        refine u_X10_nameOf ?_
        rcases (show i = 0 ∨ i = 1 ∨ i = 2 ∨ i = 3 ∨ i = 4 ∨ i = 5 ∨ i = 6 ∨ i = 7 ∨ i = 8 ∨ i = 9 by omega) with e | e | e | e | e | e | e | e | e | e <;> subst e
        · exact g_ifT (by decide) (g_C (go _ (by decide)))
        · exact g_ifF (by decide) (g_ifT (by decide) (g_C (go _ (by decide))))
        · exact g_ifF (by decide) (g_ifF (by decide) (g_ifT (by decide) (g_C (go _ (by decide)))))
        · exact g_ifF (by decide) (g_ifF (by decide) (g_ifF (by decide) (g_ifT (by decide) (g_C (go _ (by decide))))))
        · exact g_ifF (by decide) (g_ifF (by decide) (g_ifF (by decide) (g_ifF (by decide) (g_ifT (by decide) (g_C (go _ (by decide)))))))
        · exact g_ifF (by decide) (g_ifF (by decide) (g_ifF (by decide) (g_ifF (by decide) (g_ifF (by decide) (g_ifT (by decide) (g_C (go _ (by decide))))))))
        · exact g_ifF (by decide) (g_ifF (by decide) (g_ifF (by decide) (g_ifF (by decide) (g_ifF (by decide) (g_ifF (by decide) (g_ifT (by decide) (g_C (go _ (by decide)))))))))
        · exact g_ifF (by decide) (g_ifF (by decide) (g_ifF (by decide) (g_ifF (by decide) (g_ifF (by decide) (g_ifF (by decide) (g_ifF (by decide) (g_ifT (by decide) (g_C (go _ (by decide))))))))))
        · exact g_ifF (by decide) (g_ifF (by decide) (g_ifF (by decide) (g_ifF (by decide) (g_ifF (by decide) (g_ifF (by decide) (g_ifF (by decide) (g_ifF (by decide) (g_ifT (by decide) (g_C (go _ (by decide)))))))))))
        · exact g_ifF (by decide) (g_ifF (by decide) (g_ifF (by decide) (g_ifF (by decide) (g_ifF (by decide) (g_ifF (by decide) (g_ifF (by decide) (g_ifF (by decide) (g_ifF (by decide) (g_C (go _ (by decide)))))))))))
  exact ⟨11, L 11 0 m0 (by decide) (fun j hj => absurd hj (Nat.not_lt_zero j)) hm0 (fun _ _ _ => rfl) hq (Or.inl rfl) (by decide)⟩
theorem nvl_b {b : Int → Int} {q : Int} : ∀ k : Nat, (∀ j : Int, q ≤ j → j < q + k → Dg (b j)) → 0 ≤ nvl b q k ∧ nvl b q k < (10 : Int) ^ k := by
  intro k
  induction k with
  | zero => intro _; exact ⟨Int.le_refl 0, by show (0 : Int) < 10 ^ 0; decide⟩
  | succ k ih =>
    intro h
    have z := ih (fun j a c => h j a (by omega))
    have d := h (q + k) (by omega) (by omega)
    unfold Dg at d
    show 0 ≤ 10 * nvl b q k + (b (q + (k : Int)) - 48) ∧ 10 * nvl b q k + (b (q + (k : Int)) - 48) < (10 : Int) ^ (k + 1)
    rw [Int.pow_succ]
    omega
theorem nv_nn {b : Int → Int} {n q r : Int} (h : Dr b n q r) : 0 ≤ nv b q r := (nvl_b _ (fun j a c => (h.2.1 j a (by have := h.1; omega)).2)).1
theorem nv_le {b : Int → Int} {n q r : Int} (h : Dr b n q r) (h5 : r - q ≤ 5) : nv b q r ≤ 99999 := by
  have z := (nvl_b (b := b) (q := q) (r - q).toNat (fun j a c => (h.2.1 j a (by have := h.1; omega)).2)).2
  have h1 := h.1
  unfold nv
  rcases (show (r - q).toNat = 0 ∨ (r - q).toNat = 1 ∨ (r - q).toNat = 2 ∨ (r - q).toNat = 3 ∨ (r - q).toNat = 4 ∨ (r - q).toNat = 5 by omega) with e | e | e | e | e | e <;> rw [e] at z ⊢ <;> exact Int.le_trans (Int.le_sub_one_of_lt z) (by decide)
theorem zf_readValue {X : Mm} {S : Sh} {m0 : Mm} {K : Int → Mm → Prop} {b : Int → Int} {n m k : Int} {T : Int → List Int → Prop} {P O : List Int} (hS : Shp S) (hm0 : Inv X S m0) (ht : TC X b n) (hmm : m = 1 ∨ m = 2 ∨ m = 3) (lk : Lq b n T m0 m P O k) (hf : ∀ M1 : Mm, Inv X S M1 → T (M1 1 4) [] → ¬ M1 1 4 = 0 → K 0 M1) (hk : ∀ M1 : Mm, Inv X S M1 → (∀ c p : Int, ¬ (c = 52 ∧ (p = 2 ∨ p = 3)) ∧ ¬ c = 53 ∧ ¬ (c = 1 ∧ 2 ≤ p ∧ p ≤ 3) → M1 c p = m0 c p) → (∃ v : Int, Lq b n T M1 (m + 3) P (O ++ [v]) k) → M1 52 3 = m0 52 3 + 1 → m0 1 2 < M1 1 2 → K 1 M1) : wp_X3_readValue S m0 52 K := by
  obtain ⟨k1, k2, k3, k4, k5, k6, k7, k8⟩ := id lk
  have b3 := hm0.f_52_3
  have b20 := hm0.f_1_2
  have nb := ht.2.1
  -- behind a value that was taken: from q to r
  have last : ∀ (q r v : Int) (m1 : Mm), Inv X S m1 → (∀ c p : Int, ¬ (c = 1 ∧ 2 ≤ p ∧ p ≤ 3) → m1 c p = m0 c p) → Sk b n (m0 1 2) q → m1 1 3 = q → m1 1 2 = r → q < r → r ≤ n → ¬ v = -1 → (∀ (f : Int) (E : List Int), wIf (m0 52 3 = 60) (f = 4 + 8 * q ∧ E = []) (Bcc b n (m + 3) r (m0 52 3 + 1) P (O ++ [v]) k f E) → T f E) → wp_X3_readValue_27 S K 52 v m1 := by
    intro q r v m1 hm1 f1 sk x3 x2 hqr hrn hv hT
    have s1 := sk.1
    refine u_X3_readValue_27 ?_
    refine g_C ?_
    refine g_ifT hv ?_
    refine g_getu 3 rfl hS.k52 (fun a ea => ?_)
    rw [f1 52 3 (by first | decide | exact fun z => absurd z.1 (by decide) | exact ⟨fun z => absurd z.1 (by decide), fun z => absurd z.1 (by decide)⟩ | omega)] at ea
    refine g_C ?_
    refine g_if (fun w => ?_) (fun w => ?_)
    · refine g_getu 3 rfl hS.k52 (fun a2 ea2 => ?_)
      rw [f1 52 3 (by first | decide | exact fun z => absurd z.1 (by decide) | exact ⟨fun z => absurd z.1 (by decide), fun z => absurd z.1 (by decide)⟩ | omega)] at ea2
      refine g_C ?_
      refine g_A (by omega) (by omega) ?_
      refine g_put 3 rfl hS.k52 (hm1.w_52_3 (by omega) (by omega)) (fun m2 e2 hm2 => ?_)
      have f2 : ∀ c p : Int, ¬ (c = 52 ∧ p = 3) → m2 c p = m1 c p := fun c p q => (congrFun (congrFun e2 _) _).trans (up_ne q)
      have y2 : m2 52 3 = a2 + 1 := (congrFun (congrFun e2 _) _).trans (up_at _ _ _ _)
      refine ⟨hS.k52, ?_⟩
      have l22 : m2 52 2 = m0 52 2 := (f2 52 2 (by first | decide | exact fun z => absurd z.1 (by decide) | exact ⟨fun z => absurd z.1 (by decide), fun z => absurd z.1 (by decide)⟩ | omega)).trans (f1 52 2 (by first | decide | exact fun z => absurd z.1 (by decide) | exact ⟨fun z => absurd z.1 (by decide), fun z => absurd z.1 (by decide)⟩ | omega))
      have b25 := hm0.f_52_5
      have b22 := hm0.f_52_2
      refine zf_write hS hm2 (by omega) (fun m3 hm3 f3' y3' ys => ?_)
      have f3 : ∀ c p : Int, ¬ (c = 52 ∧ p = 2) ∧ ¬ c = 53 → m3 c p = m2 c p := fun c p z => f3' c p z.1 (fun y => z.2 y.1)
      have cq2 : CQ m2 P O := k7.same (fun c p z => (f2 c p (by first | exact fun y => absurd (y.1 ▸ z) (by decide) | exact fun y => absurd (y.1 ▸ q) (by decide) | exact z | exact q | exact z.1 | exact q.1 | exact z.2 | exact q.2 | omega)).trans (f1 c p (by first | exact fun y => absurd (y.1 ▸ z) (by decide) | exact fun y => absurd (y.1 ▸ q) (by decide) | exact z | exact q | exact z.1 | exact q.1 | exact z.2 | exact q.2 | omega)))
      have cq3 := cq2.write (by omega) f3' y3' ys
      have y3 : m3 52 2 ≤ m2 52 2 + 1 := by omega
      have F : ∀ c p : Int, ¬ (c = 52 ∧ (p = 2 ∨ p = 3)) ∧ ¬ c = 53 ∧ ¬ (c = 1 ∧ 2 ≤ p ∧ p ≤ 3) → m3 c p = m0 c p := fun c p z => by rw [f3 c p (by first | exact fun y => absurd (y.1 ▸ z) (by decide) | exact fun y => absurd (y.1 ▸ q) (by decide) | exact z | exact q | exact z.1 | exact q.1 | exact z.2 | exact q.2 | omega), f2 c p (by first | exact fun y => absurd (y.1 ▸ z) (by decide) | exact fun y => absurd (y.1 ▸ q) (by decide) | exact z | exact q | exact z.1 | exact q.1 | exact z.2 | exact q.2 | omega), f1 c p (by first | exact fun y => absurd (y.1 ▸ z) (by decide) | exact fun y => absurd (y.1 ▸ q) (by decide) | exact z | exact q | exact z.1 | exact q.1 | exact z.2 | exact q.2 | omega)]
      have z3 : m3 52 3 = m0 52 3 + 1 := by rw [f3 52 3 (by first | decide | exact fun z => absurd z.1 (by decide) | exact ⟨fun z => absurd z.1 (by decide), fun z => absurd z.1 (by decide)⟩ | omega)]; omega
      have z2 : m3 1 2 = r := by rw [f3 1 2 (by first | decide | exact fun z => absurd z.1 (by decide) | exact ⟨fun z => absurd z.1 (by decide), fun z => absurd z.1 (by decide)⟩ | omega), f2 1 2 (by first | decide | exact fun z => absurd z.1 (by decide) | exact ⟨fun z => absurd z.1 (by decide), fun z => absurd z.1 (by decide)⟩ | omega)]; exact x2
      have z22 : m3 52 2 ≤ m0 52 2 + 1 := by
        rw [f2 52 2 (by first | decide | exact fun z => absurd z.1 (by decide) | exact ⟨fun z => absurd z.1 (by decide), fun z => absurd z.1 (by decide)⟩ | omega), f1 52 2 (by first | decide | exact fun z => absurd z.1 (by decide) | exact ⟨fun z => absurd z.1 (by decide), fun z => absurd z.1 (by decide)⟩ | omega)] at y3
        exact y3
      refine g_C ⟨by decide, hk m3 hm3 F ⟨v, fun f E hA => hT f E ?_, (F 1 4 (by first | decide | exact fun z => absurd z.1 (by decide) | exact ⟨fun z => absurd z.1 (by decide), fun z => absurd z.1 (by decide)⟩ | omega)).trans k2, by omega, ?_, by omega, k6, cq3, (F 52 7 (by first | decide | exact fun z => absurd z.1 (by decide) | exact ⟨fun z => absurd z.1 (by decide), fun z => absurd z.1 (by decide)⟩ | omega)).trans k8⟩ z3 (by omega)⟩
      · rw [z2, z3] at hA
        exact g_ifF (by first | decide | omega) hA
      · rw [F 52 5 (by first | decide | exact fun z => absurd z.1 (by decide) | exact ⟨fun z => absurd z.1 (by decide), fun z => absurd z.1 (by decide)⟩ | omega)]
        omega
    · refine g_getr 0 1 rfl hS.k52 hm1.f_52_0 (by decide) ?_
      refine g_C ?_
      refine ⟨hS.k1, ?_⟩
      refine ze_refuse hS hm1 (by decide) (by decide) (fun m2 hm2 f2 y2 => ?_)
      rw [f1 1 4 (by first | decide | exact fun z => absurd z.1 (by decide) | exact ⟨fun z => absurd z.1 (by decide), fun z => absurd z.1 (by decide)⟩ | omega)] at y2
      have y3 : m2 1 4 = 4 + 8 * q := by omega
      refine ⟨by decide, hf m2 hm2 ?_ (by omega)⟩
      rw [y3]
      exact hT _ _ (g_ifT (by first | decide | omega) ⟨rfl, rfl⟩)
  refine u_X3_readValue ?_
  refine g_getr 0 1 rfl hS.k52 hm0.f_52_0 (by decide) ?_
  refine ⟨hS.k1, ?_⟩
  refine ze_isAtDigit hS hm0 ht k3 (fun q m1 hm1 f1 sk x1 x2 hq hd => ?_) (fun q m1 hm1 f1 sk x1 x2 hq hd => ?_)
  · refine g_ifF (by decide) ?_
    refine g_getr 0 1 rfl hS.k52 hm1.f_52_0 (by decide) ?_
    refine g_C ?_
    refine g_C ?_
    refine ⟨hS.k1, ?_⟩
    have sk2 := sk.idem
    refine ze_num hS hm1 ht (by omega) ((f1 1 4 (by first | decide | exact fun z => absurd z.1 (by decide) | exact ⟨fun z => absurd z.1 (by decide), fun z => absurd z.1 (by decide)⟩ | omega)).trans k2) (fun q' r m2 hm2 f2 sq dq dr d5 _ _ v0 y1 y2 rn => ?_) (fun q' m2 hm2 f2 sq _ nd _ => ?_) (fun q' r m2 hm2 f2 sq _ dq dr bad y4 => ?_)
    · rw [x1] at sq
      obtain rfl := sq.uniq sk2
      have qr : q' < r := by
        have z := dr.2.2
        have z1 := dr.1
        by_cases e : r = q'
        · rw [e] at z; exact absurd dq z
        · omega
      refine last q' r _ m2 hm2 (fun c p z => (f2 c p z).trans (f1 c p z)) sk y2 y1 qr rn (by omega) (fun f E hA => k1 f E (b_step sk (tb_V hmm (g_ifT ⟨hq, hd⟩ ⟨r, dr, g_ifF d5 hA⟩))))
    · rw [x1] at sq
      obtain rfl := sq.uniq sk2
      exact absurd ⟨hq, hd⟩ nd
    · rw [x1] at sq
      obtain rfl := sq.uniq sk2
      have d5 : 5 < r - q' := by
        rcases bad with z | z | z
        · exact z
        · have z0 := nv_nn dr
          exfalso; omega
        · by_cases e : 5 < r - q'
          · exact e
          · have z0 := nv_le dr (by omega)
            exfalso; omega
      refine u_X3_readValue_27 ?_
      refine g_C ?_
      refine g_ifF (by decide) ?_
      refine g_getr 0 1 rfl hS.k52 hm2.f_52_0 (by decide) ?_
      refine g_C ?_
      refine ⟨hS.k1, ?_⟩
      refine ze_refuse hS hm2 (by decide) (by decide) (fun m3 hm3 f3 y5 => ?_)
      have y6 : m3 1 4 = 2 + 8 * q' := by omega
      refine ⟨by decide, hf m3 hm3 ?_ (by have := sk.1; omega)⟩
      rw [y6]
      exact k1 _ _ (b_step sk (tb_V hmm (g_ifT ⟨hq, hd⟩ ⟨r, dr, g_ifT d5 ⟨rfl, rfl⟩⟩)))
  · refine g_ifT rfl ?_
    refine ⟨hS.k52, ?_⟩
    refine zf_takeValueWord hS hm1 ht x1 hq sk.idem (fun i v m2 hi hn wk hm2 f2 y1 y2 rn hv => ?_) (fun m2 hn hm2 f2 y1 y2 => ?_)
    · have tr := tl_r _ (vws_t i hi)
      refine last q _ v m2 hm2 (fun c p z => (f2 c p z).trans (f1 c p z)) sk y2 y1 (by omega) rn (by omega) (fun f E hA => k1 f E (b_step sk (tb_V hmm (g_ifF hd (bV_hit bws i hi (fun j hj => ?_) ?_ ?_)))))
      · rw [(bws_v j (by omega)).1]
        exact hn j hj
      · rw [(bws_v i hi).1]
        exact wk
      · rw [(bws_v i hi).1, (bws_v i hi).2, ← hv]
        exact hA
    · refine u_X3_readValue_27 ?_
      refine g_C ?_
      refine g_ifF (by decide) ?_
      refine g_getr 0 1 rfl hS.k52 hm2.f_52_0 (by decide) ?_
      refine g_C ?_
      refine ⟨hS.k1, ?_⟩
      refine ze_refuse hS hm2 (by decide) (by decide) (fun m3 hm3 f3 y5 => ?_)
      rw [f2 1 4 (by first | decide | exact fun z => absurd z.1 (by decide) | exact ⟨fun z => absurd z.1 (by decide), fun z => absurd z.1 (by decide)⟩ | omega), f1 1 4 (by first | decide | exact fun z => absurd z.1 (by decide) | exact ⟨fun z => absurd z.1 (by decide), fun z => absurd z.1 (by decide)⟩ | omega)] at y5
      have y6 : m3 1 4 = 1 + 8 * q := by omega
      refine ⟨by decide, hf m3 hm3 ?_ (by have := sk.1; omega)⟩
      rw [y6]
      refine k1 _ _ (b_step sk (tb_V hmm (g_ifF hd (bV_miss bws (fun j hj => ?_)))))
      rw [(bws_v j hj).1]
      exact hn j hj
theorem zf_takeArithmetic {X : Mm} {S : Sh} {m0 : Mm} {K : Int → Mm → Prop} {b : Int → Int} {n : Int} (hS : Shp S) (hm0 : Inv X S m0) (ht : TC X b n) (hp : m0 1 2 ≤ n) (h1 : ∀ (q v : Int) (M1 : Mm), Inv X S M1 → (∀ c p : Int, ¬ (c = 1 ∧ 2 ≤ p ∧ p ≤ 3) → M1 c p = m0 c p) → Sk b n (m0 1 2) q → M1 1 2 = q + 1 → M1 1 3 = q → q < n → Ar (b q) → v = arS (b q) → -16 ≤ v → v ≤ -12 → K v M1) (h0 : ∀ (q : Int) (M1 : Mm), Inv X S M1 → (∀ c p : Int, ¬ (c = 1 ∧ 2 ≤ p ∧ p ≤ 3) → M1 c p = m0 c p) → Sk b n (m0 1 2) q → M1 1 2 = q → M1 1 3 = q → q ≤ n → ¬ (q < n ∧ Ar (b q)) → K 0 M1) : wp_X3_takeArithmetic S m0 52 K := by
  refine u_X3_takeArithmetic ?_
  refine g_getr 0 1 rfl hS.k52 hm0.f_52_0 (by decide) ?_
  refine g_C ?_
  refine ⟨hS.k1, ?_⟩
  refine ze_takesSign hS hm0 ht hp (by decide) (by decide) (fun q m1 hm1 f1 sk x1 x2 l1 bq => g_ifF (by decide) (g_C (h1 q (-12) m1 hm1 f1 sk x1 x2 l1 (Or.inl bq) (by rw [bq]; rfl) (by decide) (by decide)))) (fun q m1 hm1 f1 sk x1 x2 l1 nq1 => ?_)
  refine g_ifT rfl ?_
  refine g_getr 0 1 rfl hS.k52 hm1.f_52_0 (by decide) ?_
  refine g_C ?_
  refine ⟨hS.k1, ?_⟩
  refine ze_takesSign hS hm1 ht (by omega) (by decide) (by decide) (fun q' m2 hm2 f2 sk2 y1 y2 l2 bq => ?_) (fun q' m2 hm2 f2 sk2 y1 y2 l2 nq2 => ?_)
  · rw [x1] at sk2
    obtain rfl := sk2.uniq sk.idem
    exact g_ifF (by decide) (g_C (h1 q' (-13) m2 hm2 (fun c p z => (f2 c p z).trans (f1 c p z)) sk y1 y2 l2 (Or.inr (Or.inl bq)) (by rw [bq]; rfl) (by decide) (by decide)))
  rw [x1] at sk2
  obtain rfl := sk2.uniq sk.idem
  refine g_ifT rfl ?_
  refine g_getr 0 1 rfl hS.k52 hm2.f_52_0 (by decide) ?_
  refine g_C ?_
  refine ⟨hS.k1, ?_⟩
  refine ze_takesSign hS hm2 ht (by omega) (by decide) (by decide) (fun q m3 hm3 f3 sk3 z1 z2 l3 bq => ?_) (fun q m3 hm3 f3 sk3 z1 z2 l3 nq3 => ?_)
  · rw [y1] at sk3
    obtain rfl := sk3.uniq sk.idem
    exact g_ifF (by decide) (g_C (h1 q (-14) m3 hm3 (fun c p z => ((f3 c p z).trans (f2 c p z)).trans (f1 c p z)) sk z1 z2 l3 (Or.inr (Or.inr (Or.inl bq))) (by rw [bq]; rfl) (by decide) (by decide)))
  rw [y1] at sk3
  obtain rfl := sk3.uniq sk.idem
  refine g_ifT rfl ?_
  refine g_getr 0 1 rfl hS.k52 hm3.f_52_0 (by decide) ?_
  refine g_C ?_
  refine ⟨hS.k1, ?_⟩
  refine ze_takesSign hS hm3 ht (by omega) (by decide) (by decide) (fun q' m4 hm4 f4 sk4 a1 a2 l4 bq => ?_) (fun q' m4 hm4 f4 sk4 a1 a2 l4 nq4 => ?_)
  · rw [z1] at sk4
    obtain rfl := sk4.uniq sk.idem
    exact g_ifF (by decide) (g_C (h1 q' (-15) m4 hm4 (fun c p z => (((f4 c p z).trans (f3 c p z)).trans (f2 c p z)).trans (f1 c p z)) sk a1 a2 l4 (Or.inr (Or.inr (Or.inr (Or.inl bq)))) (by rw [bq]; rfl) (by decide) (by decide)))
  rw [z1] at sk4
  obtain rfl := sk4.uniq sk.idem
  refine g_ifT rfl ?_
  refine g_getr 0 1 rfl hS.k52 hm4.f_52_0 (by decide) ?_
  refine g_C ?_
  refine ⟨hS.k1, ?_⟩
  refine ze_takesSign hS hm4 ht (by omega) (by decide) (by decide) (fun q m5 hm5 f5 sk5 b1 b2 l5 bq => ?_) (fun q m5 hm5 f5 sk5 b1 b2 l5 nq5 => ?_)
  · rw [a1] at sk5
    obtain rfl := sk5.uniq sk.idem
    exact g_ifF (by decide) (g_C (h1 q (-16) m5 hm5 (fun c p z => ((((f5 c p z).trans (f4 c p z)).trans (f3 c p z)).trans (f2 c p z)).trans (f1 c p z)) sk b1 b2 l5 (Or.inr (Or.inr (Or.inr (Or.inr bq)))) (by rw [bq]; rfl) (by decide) (by decide)))
  rw [a1] at sk5
  obtain rfl := sk5.uniq sk.idem
  refine g_ifT rfl (g_C (h0 q m5 hm5 (fun c p z => ((((f5 c p z).trans (f4 c p z)).trans (f3 c p z)).trans (f2 c p z)).trans (f1 c p z)) sk b1 b2 l5 (fun z => ?_)))
  obtain ⟨w1, w2⟩ := z
  rcases w2 with w2 | w2 | w2 | w2 | w2
  · exact nq1 ⟨w1, w2⟩
  · exact nq2 ⟨w1, w2⟩
  · exact nq3 ⟨w1, w2⟩
  · exact nq4 ⟨w1, w2⟩
  · exact nq5 ⟨w1, w2⟩
theorem zf_takeComparison {X : Mm} {S : Sh} {m0 : Mm} {K : Int → Mm → Prop} {b : Int → Int} {n : Int} (hS : Shp S) (hm0 : Inv X S m0) (ht : TC X b n) (hp : m0 1 2 ≤ n) (h1 : ∀ (q v : Int) (M1 : Mm), Inv X S M1 → (∀ c p : Int, ¬ (c = 1 ∧ 2 ≤ p ∧ p ≤ 3) → M1 c p = m0 c p) → Sk b n (m0 1 2) q → q < n → Cm (b q) → M1 1 3 = q → ((¬ b q = 61 ∧ q + 1 < n ∧ b (q + 1) = 61 ∧ M1 1 2 = q + 2 ∧ v = cmS (b q) true) ∨ (¬ (¬ b q = 61 ∧ q + 1 < n ∧ b (q + 1) = 61) ∧ M1 1 2 = q + 1 ∧ v = cmS (b q) false)) → -21 ≤ v → v ≤ -17 → K v M1) (h0 : ∀ (q : Int) (M1 : Mm), Inv X S M1 → (∀ c p : Int, ¬ (c = 1 ∧ 2 ≤ p ∧ p ≤ 3) → M1 c p = m0 c p) → Sk b n (m0 1 2) q → M1 1 2 = q → M1 1 3 = q → q ≤ n → ¬ (q < n ∧ Cm (b q)) → K 0 M1) : wp_X3_takeComparison S m0 52 K := by
  refine u_X3_takeComparison ?_
  refine g_getr 0 1 rfl hS.k52 hm0.f_52_0 (by decide) ?_
  refine g_C ?_
  refine ⟨hS.k1, ?_⟩
  refine ze_takesSign hS hm0 ht hp (by decide) (by decide) (fun q m1 hm1 f1 sk x1 x2 l1 bq => g_ifF (by decide) (g_C (h1 q (-19) m1 hm1 f1 sk l1 (Or.inr (Or.inl bq)) x2 (Or.inr ⟨by omega, x1, by rw [bq]; rfl⟩) (by decide) (by decide)))) (fun q m1 hm1 f1 sk x1 x2 l1 nq1 => ?_)
  refine g_ifT rfl ?_
  refine g_getr 0 1 rfl hS.k52 hm1.f_52_0 (by decide) ?_
  refine g_C ?_
  refine ⟨hS.k1, ?_⟩
  refine ze_takesSign hS hm1 ht (by omega) (by decide) (by decide) (fun q' m2 hm2 f2 sk2 y1 y2 l2 bq => ?_) (fun q' m2 hm2 f2 sk2 y1 y2 l2 nq2 => ?_)
  · rw [x1] at sk2
    obtain rfl := sk2.uniq sk.idem
    refine g_ifF (by decide) ?_
    refine g_getr 0 1 rfl hS.k52 hm2.f_52_0 (by decide) ?_
    refine g_C ?_
    refine ⟨hS.k1, ?_⟩
    refine ze_continues hS hm2 ht (by omega) (fun m3 hm3 f3 z1 z2 z3 => ?_) (fun z => ?_)
    · rw [y1] at z2 z3
      exact g_ifF (by decide) (g_C (h1 q' (-18) m3 hm3 (fun c p z => ((f3 c p (by first | exact fun y => absurd (y.1 ▸ z) (by decide) | exact fun y => absurd (y.1 ▸ q) (by decide) | exact z | exact q | exact z.1 | exact q.1 | exact z.2 | exact q.2 | omega)).trans (f2 c p z)).trans (f1 c p z)) sk l2 (Or.inl bq) ((f3 1 3 (by first | decide | exact fun z => absurd z.1 (by decide) | exact ⟨fun z => absurd z.1 (by decide), fun z => absurd z.1 (by decide)⟩ | omega)).trans y2) (Or.inl ⟨by omega, z2, z3, by omega, by rw [bq]; rfl⟩) (by decide) (by decide)))
    · rw [y1] at z
      exact g_ifT rfl (g_C (h1 q' (-17) m2 hm2 (fun c p z => (f2 c p z).trans (f1 c p z)) sk l2 (Or.inl bq) y2 (Or.inr ⟨fun w => z w.2, y1, by rw [bq]; rfl⟩) (by decide) (by decide)))
  rw [x1] at sk2
  obtain rfl := sk2.uniq sk.idem
  refine g_ifT rfl ?_
  refine g_getr 0 1 rfl hS.k52 hm2.f_52_0 (by decide) ?_
  refine g_C ?_
  refine ⟨hS.k1, ?_⟩
  refine ze_takesSign hS hm2 ht (by omega) (by decide) (by decide) (fun q m3 hm3 f3 sk3 z1 z2 l3 bq => ?_) (fun q m3 hm3 f3 sk3 z1 z2 l3 nq3 => ?_)
  · rw [y1] at sk3
    obtain rfl := sk3.uniq sk.idem
    refine g_ifF (by decide) ?_
    refine g_getr 0 1 rfl hS.k52 hm3.f_52_0 (by decide) ?_
    refine g_C ?_
    refine ⟨hS.k1, ?_⟩
    refine ze_continues hS hm3 ht (by omega) (fun m4 hm4 f4 a1 a2 a3 => ?_) (fun z => ?_)
    · rw [z1] at a2 a3
      exact g_ifF (by decide) (g_C (h1 q (-20) m4 hm4 (fun c p z => (((f4 c p (by first | exact fun y => absurd (y.1 ▸ z) (by decide) | exact fun y => absurd (y.1 ▸ q) (by decide) | exact z | exact q | exact z.1 | exact q.1 | exact z.2 | exact q.2 | omega)).trans (f3 c p z)).trans (f2 c p z)).trans (f1 c p z)) sk l3 (Or.inr (Or.inr bq)) ((f4 1 3 (by first | decide | exact fun z => absurd z.1 (by decide) | exact ⟨fun z => absurd z.1 (by decide), fun z => absurd z.1 (by decide)⟩ | omega)).trans z2) (Or.inl ⟨by omega, a2, a3, by omega, by rw [bq]; rfl⟩) (by decide) (by decide)))
    · rw [z1] at z
      exact g_ifT rfl (g_C (h1 q (-21) m3 hm3 (fun c p z => ((f3 c p z).trans (f2 c p z)).trans (f1 c p z)) sk l3 (Or.inr (Or.inr bq)) z2 (Or.inr ⟨fun w => z w.2, z1, by rw [bq]; rfl⟩) (by decide) (by decide)))
  rw [y1] at sk3
  obtain rfl := sk3.uniq sk.idem
  refine g_ifT rfl (g_C (h0 q m3 hm3 (fun c p z => ((f3 c p z).trans (f2 c p z)).trans (f1 c p z)) sk z1 z2 l3 (fun z => ?_)))
  obtain ⟨w1, w2⟩ := z
  rcases w2 with w2 | w2 | w2
  · exact nq2 ⟨w1, w2⟩
  · exact nq1 ⟨w1, w2⟩
  · exact nq3 ⟨w1, w2⟩
end
section
theorem nOp_le : ∀ P : List Int, nOp P ≤ nDp P := by
  intro P
  induction P with
  | nil => exact Nat.le_refl _
  | cons x P ih =>
    show (if x = -27 then 1 else 0) + nOp P ≤ (if x = -27 ∨ x = -22 then 1 else 0) + nDp P
    by_cases e : x = -27
    · rw [if_pos e, if_pos (Or.inl e)]; omega
    · rw [if_neg e]; omega
theorem CQ.opn {m m1 : Mm} {P O : List Int} {s : Int} (h : CQ m P O) (h0 : 0 ≤ m 52 5) (f : ∀ c p : Int, ¬ (c = 52 ∧ (p = 5 ∨ p = 6 ∨ p = 7)) ∧ ¬ (c = 54 ∧ p = m 52 5) ∧ ¬ (c = 1 ∧ 2 ≤ p ∧ p ≤ 3) → m1 c p = m c p) (h5 : m1 52 5 = m 52 5 + 1) (hs : m1 54 (m 52 5) = s) (hd : s = -27 ∨ s = -22) (h6 : m1 52 6 = m 52 6 + 1) : CQ m1 (s :: P) O := by
  obtain ⟨p1, p2, p3, p4⟩ := h
  have e3 : m1 53 = m 53 := funext (fun p => f 53 p (by first | decide | exact fun z => absurd z.1 (by decide) | exact ⟨fun z => absurd z.1 (by decide), fun z => absurd z.1 (by decide)⟩ | omega))
  refine ⟨?_, by rw [f 52 2 (by first | decide | exact fun z => absurd z.1 (by decide) | exact ⟨fun z => absurd z.1 (by decide), fun z => absurd z.1 (by decide)⟩ | omega), e3]; exact p2, ?_, fun x hx => ?_⟩
  · rw [h5, show (m 52 5 + 1).toNat = (m 52 5).toNat + 1 by omega]
    show m1 54 (((m 52 5).toNat : Nat) : Int) :: pl (m1 54) (m 52 5).toNat = s :: P
    rw [Int.toNat_of_nonneg h0, hs, pl_same (g := m 54) _ (fun j j0 j1 => f 54 j (by first | decide | exact fun z => absurd z.1 (by decide) | exact ⟨fun z => absurd z.1 (by decide), fun z => absurd z.1 (by decide)⟩ | omega)), p1]
  · rw [h6, p3]
    show (nDp P : Int) + 1 = (((if s = -27 ∨ s = -22 then 1 else 0) + nDp P : Nat) : Int)
    rw [if_pos hd]
    omega
  · rcases List.mem_cons.mp hx with e | e
    · rw [e]; omega
    · exact p4 x e
theorem zf_beginFact {X : Mm} {S : Sh} {m0 : Mm} {K : Int → Mm → Prop} {b : Int → Int} {n k : Int} {T : Int → List Int → Prop} {P O : List Int} (hS : Shp S) (hm0 : Inv X S m0) (ht : TC X b n) (lk : Lq b n T m0 8 P O k) (hf : ∀ M1 : Mm, Inv X S M1 → T (M1 1 4) [] → ¬ M1 1 4 = 0 → K 0 M1) (hk : ∀ (M1 : Mm) (P' : List Int), Inv X S M1 → Lq b n T M1 2 P' O k → M1 52 8 = 1 → M1 52 3 = m0 52 3 → m0 1 2 ≤ M1 1 2 → K 1 M1) : wp_X3_beginFact S m0 52 K := by
  have nb := ht.2.1
  refine u_X3_beginFact ?_
  refine g_C ?_
  refine g_put 8 rfl hS.k52 (hm0.w_52_8 (by decide) (by decide)) (fun m1 e1 hm1 => ?_)
  have f1 : ∀ c p : Int, ¬ (c = 52 ∧ p = 8) → m1 c p = m0 c p := fun c p q => (congrFun (congrFun e1 _) _).trans (up_ne q)
  have y1 : m1 52 8 = 1 := (congrFun (congrFun e1 _) _).trans (up_at _ _ _ _)
  have lk1 : Lq b n T m1 8 P O k := by
    obtain ⟨k1, k2, k3, k4, k5, k6, k7, k8⟩ := lk
    refine ⟨fun f E z => k1 f E ?_, (f1 1 4 (by first | decide | exact fun z => absurd z.1 (by decide) | exact ⟨fun z => absurd z.1 (by decide), fun z => absurd z.1 (by decide)⟩ | omega)).trans k2, by rw [f1 1 2 (by first | decide | exact fun z => absurd z.1 (by decide) | exact ⟨fun z => absurd z.1 (by decide), fun z => absurd z.1 (by decide)⟩ | omega)]; exact k3, by rw [f1 52 2 (by first | decide | exact fun z => absurd z.1 (by decide) | exact ⟨fun z => absurd z.1 (by decide), fun z => absurd z.1 (by decide)⟩ | omega), f1 52 5 (by first | decide | exact fun z => absurd z.1 (by decide) | exact ⟨fun z => absurd z.1 (by decide), fun z => absurd z.1 (by decide)⟩ | omega), f1 1 2 (by first | decide | exact fun z => absurd z.1 (by decide) | exact ⟨fun z => absurd z.1 (by decide), fun z => absurd z.1 (by decide)⟩ | omega)]; exact k4, by rw [f1 52 3 (by first | decide | exact fun z => absurd z.1 (by decide) | exact ⟨fun z => absurd z.1 (by decide), fun z => absurd z.1 (by decide)⟩ | omega)]; exact k5, k6, k7.same (fun c p z => f1 c p (by first | exact fun y => absurd (y.1 ▸ z) (by decide) | exact fun y => absurd (y.1 ▸ q) (by decide) | exact z | exact q | exact z.1 | exact q.1 | exact z.2 | exact q.2 | omega)), (f1 52 7 (by first | decide | exact fun z => absurd z.1 (by decide) | exact ⟨fun z => absurd z.1 (by decide), fun z => absurd z.1 (by decide)⟩ | omega)).trans k8⟩
    rw [f1 1 2 (by first | decide | exact fun z => absurd z.1 (by decide) | exact ⟨fun z => absurd z.1 (by decide), fun z => absurd z.1 (by decide)⟩ | omega), f1 52 3 (by first | decide | exact fun z => absurd z.1 (by decide) | exact ⟨fun z => absurd z.1 (by decide), fun z => absurd z.1 (by decide)⟩ | omega)] at z
    exact z
  refine g_C ?_
  have L : ∀ (j : Nat) (i : Int) (m : Mm) (s : List Int), Inv X S m → Lq b n T m 8 s O k → m 52 8 = 1 → m 52 3 = m0 52 3 → m0 1 2 ≤ m 1 2 → 0 ≤ i → i ≤ (nDp s : Int) → 12 - i ≤ (j : Int) → wp_X3_beginFact_7 S K j 52 i m := by
    intro j
    induction j with
    | zero =>
      intro i m s hm lk _ _ _ _ h1 h2
      have := lk.2.2.2.2.2.1
      exfalso; omega
    | succ j ih =>
      intro i m s hm lk w8 w3 w2 i0 i1 h
      obtain ⟨k1, k2, k3, k4, k5, k6, k7, k8⟩ := id lk
      have b5 := hm.f_52_5
      have b2 := hm.f_1_2
      have dp := k7.2.2.1
      -- one opening: '[' or not
      have one : ∀ (q r : Int) (o : Int) (m1 : Mm), Inv X S m1 → (∀ c p : Int, ¬ (c = 1 ∧ 2 ≤ p ∧ p ≤ 3) → m1 c p = m c p) → Sk b n (m 1 2) q → m1 1 3 = q → m1 1 2 = r → q < r → r ≤ n → (o = 0 ∨ o = 1) → (∀ (f : Int) (E : List Int), wIf (nDp s = 10) (f = 3 + 8 * q ∧ E = []) (Bcc b n 8 r (m 52 3) ((if o = 0 then -22 else -27) :: s) O k f E) → T f E) → wp_X3_beginFact_41 S (fun a0 a1 M => wp_X3_beginFact_7 S K j a0 a1 M) K 52 i o m1 := by
        intro q r o m1 hm1 f1 sk x3 x2 hqr hrn ho hT
        have s1 := sk.1
        refine u_X3_beginFact_41 ?_
        refine g_getu 6 rfl hS.k52 (fun d ed => ?_)
        rw [f1 52 6 (by first | decide | exact fun z => absurd z.1 (by decide) | exact ⟨fun z => absurd z.1 (by decide), fun z => absurd z.1 (by decide)⟩ | omega)] at ed
        refine g_C ?_
        refine g_if (fun w => ?_) (fun w => ?_)
        · refine g_getu 6 rfl hS.k52 (fun d2 ed2 => ?_)
          rw [f1 52 6 (by first | decide | exact fun z => absurd z.1 (by decide) | exact ⟨fun z => absurd z.1 (by decide), fun z => absurd z.1 (by decide)⟩ | omega)] at ed2
          refine g_C ?_
          refine g_A (by omega) (by omega) ?_
          refine g_put 6 rfl hS.k52 (hm1.w_52_6 (by omega) (by omega)) (fun m2 e2 hm2 => ?_)
          have f2 : ∀ c p : Int, ¬ (c = 52 ∧ p = 6) → m2 c p = m1 c p := fun c p q => (congrFun (congrFun e2 _) _).trans (up_ne q)
          have y2 : m2 52 6 = d2 + 1 := (congrFun (congrFun e2 _) _).trans (up_at _ _ _ _)
          refine g_getu 7 rfl hS.k52 (fun op eop => ?_)
          rw [f2 52 7 (by first | decide | exact fun z => absurd z.1 (by decide) | exact ⟨fun z => absurd z.1 (by decide), fun z => absurd z.1 (by decide)⟩ | omega), f1 52 7 (by first | decide | exact fun z => absurd z.1 (by decide) | exact ⟨fun z => absurd z.1 (by decide), fun z => absurd z.1 (by decide)⟩ | omega), k8] at eop
          have cl := nOp_le s
          -- both ways go on alike
          have rest : ∀ (ad sg : Int), ((ad = 0 ∧ sg = -22 ∧ o = 0) ∨ (ad = 1 ∧ sg = -27 ∧ o = 1)) → wA op ad fun v4 => wPut S m2 52 3 7 v4 fun M6 => wp_X3_beginFact_99 S (fun a0 a1 M => wp_X3_beginFact_7 S K j a0 a1 M) K 52 i 52 sg M6 := by
            intro ad sg hh
            refine g_A (by omega) (by omega) ?_
            refine g_put 7 rfl hS.k52 (hm2.w_52_7 (by omega) (by omega)) (fun m3 e3 hm3 => ?_)
            have f3 : ∀ c p : Int, ¬ (c = 52 ∧ p = 7) → m3 c p = m2 c p := fun c p q => (congrFun (congrFun e3 _) _).trans (up_ne q)
            have y3 : m3 52 7 = op + ad := (congrFun (congrFun e3 _) _).trans (up_at _ _ _ _)
            refine u_X3_beginFact_99 ?_
            refine ⟨hS.k52, ?_⟩
            have G : ∀ c p : Int, ¬ (c = 52 ∧ (p = 6 ∨ p = 7)) ∧ ¬ (c = 1 ∧ 2 ≤ p ∧ p ≤ 3) → m3 c p = m c p := fun c p z => by rw [f3 c p (by first | exact fun y => absurd (y.1 ▸ z) (by decide) | exact fun y => absurd (y.1 ▸ q) (by decide) | exact z | exact q | exact z.1 | exact q.1 | exact z.2 | exact q.2 | omega), f2 c p (by first | exact fun y => absurd (y.1 ▸ z) (by decide) | exact fun y => absurd (y.1 ▸ q) (by decide) | exact z | exact q | exact z.1 | exact q.1 | exact z.2 | exact q.2 | omega), f1 c p (by first | exact fun y => absurd (y.1 ▸ z) (by decide) | exact fun y => absurd (y.1 ▸ q) (by decide) | exact z | exact q | exact z.1 | exact q.1 | exact z.2 | exact q.2 | omega)]
            have e5 : m3 52 5 = m 52 5 := G 52 5 (by omega)
            have e22 : m3 52 2 = m 52 2 := G 52 2 (by omega)
            have b22 := hm3.f_52_2
            refine ze_push hS hm3 (by omega) (fun m4 hm4 f4 y5 ys => ?_)
            rw [e5] at f4 y5 ys
            have z2 : m4 1 2 = r := by rw [f4 1 2 (by first | decide | exact fun z => absurd z.1 (by decide) | exact ⟨fun z => absurd z.1 (by decide), fun z => absurd z.1 (by decide)⟩ | omega), f3 1 2 (by first | decide | exact fun z => absurd z.1 (by decide) | exact ⟨fun z => absurd z.1 (by decide), fun z => absurd z.1 (by decide)⟩ | omega), f2 1 2 (by first | decide | exact fun z => absurd z.1 (by decide) | exact ⟨fun z => absurd z.1 (by decide), fun z => absurd z.1 (by decide)⟩ | omega)]; exact x2
            have z3 : m4 52 3 = m 52 3 := by rw [f4 52 3 (by first | decide | exact fun z => absurd z.1 (by decide) | exact ⟨fun z => absurd z.1 (by decide), fun z => absurd z.1 (by decide)⟩ | omega)]; exact G 52 3 (by omega)
            have z6 : m4 52 6 = m 52 6 + 1 := by rw [f4 52 6 (by first | decide | exact fun z => absurd z.1 (by decide) | exact ⟨fun z => absurd z.1 (by decide), fun z => absurd z.1 (by decide)⟩ | omega), f3 52 6 (by first | decide | exact fun z => absurd z.1 (by decide) | exact ⟨fun z => absurd z.1 (by decide), fun z => absurd z.1 (by decide)⟩ | omega)]; omega
            have z7 : m4 52 7 = (nOp s : Int) + ad := by rw [f4 52 7 (by first | decide | exact fun z => absurd z.1 (by decide) | exact ⟨fun z => absurd z.1 (by decide), fun z => absurd z.1 (by decide)⟩ | omega)]; omega
            have z8 : m4 52 8 = 1 := by rw [f4 52 8 (by first | decide | exact fun z => absurd z.1 (by decide) | exact ⟨fun z => absurd z.1 (by decide), fun z => absurd z.1 (by decide)⟩ | omega), G 52 8 (by omega)]; exact w8
            have z4 : m4 1 4 = 0 := by rw [f4 1 4 (by first | decide | exact fun z => absurd z.1 (by decide) | exact ⟨fun z => absurd z.1 (by decide), fun z => absurd z.1 (by decide)⟩ | omega), G 1 4 (by omega)]; exact k2
            have z22 : m4 52 2 = m 52 2 := by rw [f4 52 2 (by first | decide | exact fun z => absurd z.1 (by decide) | exact ⟨fun z => absurd z.1 (by decide), fun z => absurd z.1 (by decide)⟩ | omega)]; exact e22
            have cq4 : CQ m4 (sg :: s) O := k7.opn b5.1 (fun c p z => (f4 c p (by first | exact fun y => absurd (y.1 ▸ z) (by decide) | exact fun y => absurd (y.1 ▸ q) (by decide) | exact z | exact q | exact z.1 | exact q.1 | exact z.2 | exact q.2 | omega)).trans (G c p (by omega))) y5 ys (by omega) z6
            have eo : (if o = 0 then (-22 : Int) else -27) = sg := by
              rcases hh with ⟨_, e1, e2⟩ | ⟨_, e1, e2⟩
              · rw [e1, e2]; rfl
              · rw [e1, e2]; rfl
            have nd4 : nDp (sg :: s) = 1 + nDp s := by
              show (if sg = -27 ∨ sg = -22 then 1 else 0) + nDp s = _
              rw [if_pos (by omega)]
            have no4 : ((nOp (sg :: s) : Nat) : Int) = (nOp s : Int) + ad := by
              show (((if sg = -27 then 1 else 0) + nOp s : Nat) : Int) = _
              rcases hh with ⟨e0, e1, _⟩ | ⟨e0, e1, _⟩
              · rw [e1, e0, if_neg (by decide)]; omega
              · rw [e1, e0, if_pos rfl]; omega
            refine g_A (by omega) (by omega) ?_
            refine ih (i + 1) m4 (sg :: s) hm4 ⟨fun f E hA => hT f E ?_, z4, by omega, by omega, by omega, by omega, cq4, by omega⟩ z8 (by omega) (by omega) (by omega) (by omega) (by omega)
            rw [z2, z3, ← eo] at hA
            exact g_ifF (by first | decide | omega) hA
          refine g_if (fun w0 => ?_) (fun w0 => ?_)
          · refine g_C ?_
            refine u_X3_beginFact_83 ?_
            have q := rest 0 (-22) (Or.inl ⟨rfl, rfl, w0⟩)
            refine g_A (by omega) (by omega) ?_
            have q2 : wPut S m2 52 3 7 (op + 0) fun M6 => wp_X3_beginFact_99 S (fun a0 a1 M => wp_X3_beginFact_7 S K j a0 a1 M) K 52 i 52 (-22) M6 := by
              unfold wA at q
              rw [w32_id (by omega) (by omega)] at q
              exact q
            exact ⟨q2.1, g_ifT w0 (g_C q2.2)⟩
          · refine g_C ?_
            refine u_X3_beginFact_83 ?_
            have q := rest 1 (-27) (Or.inr ⟨rfl, rfl, by omega⟩)
            refine g_A (by omega) (by omega) ?_
            have q2 : wPut S m2 52 3 7 (op + 1) fun M6 => wp_X3_beginFact_99 S (fun a0 a1 M => wp_X3_beginFact_7 S K j a0 a1 M) K 52 i 52 (-27) M6 := by
              unfold wA at q
              rw [w32_id (by omega) (by omega)] at q
              exact q
            exact ⟨q2.1, g_ifF w0 (g_C q2.2)⟩
        · refine g_getr 0 1 rfl hS.k52 hm1.f_52_0 (by decide) ?_
          refine g_C ?_
          refine ⟨hS.k1, ?_⟩
          refine ze_refuse hS hm1 (by decide) (by decide) (fun m2 hm2 f2 y2 => ?_)
          rw [f1 1 4 (by first | decide | exact fun z => absurd z.1 (by decide) | exact ⟨fun z => absurd z.1 (by decide), fun z => absurd z.1 (by decide)⟩ | omega)] at y2
          have y3 : m2 1 4 = 3 + 8 * q := by omega
          refine ⟨by decide, hf m2 hm2 ?_ (by omega)⟩
          rw [y3]
          exact hT _ _ (g_ifT (by first | decide | omega) ⟨rfl, rfl⟩)
      refine u_X3_beginFact_7 ?_
      refine g_C ?_
      refine g_ifF (by first | decide | omega) ?_
      refine g_getr 0 1 rfl hS.k52 hm.f_52_0 (by decide) ?_
      refine g_C ?_
      refine ⟨hS.k1, ?_⟩
      refine ze_takesSign hS hm ht k3 (by decide) (by decide) (fun q m1 hm1 f1 sk x1 x2 l1 bq => ?_) (fun q m1 hm1 f1 sk x1 x2 l1 nq => ?_)
      · refine g_ifT (by decide) ?_
        refine one q (q + 1) 1 m1 hm1 f1 sk x2 x1 (by omega) (by omega) (Or.inr rfl) (fun f E hA => k1 f E (b_step sk (tb_O (g_ifT ⟨l1, bq⟩ ?_))))
        exact hA
      · refine g_ifF (by decide) ?_
        refine g_getr 0 1 rfl hS.k52 hm1.f_52_0 (by decide) ?_
        refine g_C ?_
        refine ⟨hS.k1, ?_⟩
        refine ze_takesWord 14 hS hm1 ht (by omega) (by decide) (by decide) (fun q' m2 hm2 f2 sk2 y1 y2 l2 wk => ?_) (fun q' m2 hm2 f2 sk2 y1 y2 l2 wk => ?_)
        · rw [x1] at sk2
          obtain rfl := sk2.uniq sk.idem
          refine g_ifT (by decide) ?_
          have t14 : tl 14 = 3 := by decide
          refine one q' (q' + tl 14) 0 m2 hm2 (fun c p z => (f2 c p z).trans (f1 c p z)) sk y2 y1 (by omega) l2 (Or.inl rfl) (fun f E hA => k1 f E (b_step sk (tb_O (g_ifF nq (g_ifT wk ?_)))))
          rw [t14] at hA
          exact hA
        · rw [x1] at sk2
          obtain rfl := sk2.uniq sk.idem
          refine g_ifF (by decide) ?_
          have F2 : ∀ c p : Int, ¬ (c = 1 ∧ 2 ≤ p ∧ p ≤ 3) → m2 c p = m c p := fun c p z => (f2 c p z).trans (f1 c p z)
          have lk2 : Lq b n T m2 8 s O k := lk.move F2 sk y1 l2
          refine g_C ⟨by decide, hk m2 s hm2 ⟨fun f E hA => lk2.1 f E ?_, lk2.2⟩ ((F2 52 8 (by first | decide | exact fun z => absurd z.1 (by decide) | exact ⟨fun z => absurd z.1 (by decide), fun z => absurd z.1 (by decide)⟩ | omega)).trans w8) ((F2 52 3 (by first | decide | exact fun z => absurd z.1 (by decide) | exact ⟨fun z => absurd z.1 (by decide), fun z => absurd z.1 (by decide)⟩ | omega)).trans w3) (by have := sk.1; omega)⟩
          rw [y1] at hA ⊢
          exact b_step sk.idem (tb_O (g_ifF nq (g_ifF wk hA)))
  exact ⟨12, L 12 0 m1 P hm1 lk1 y1 (f1 52 3 (by first | decide | exact fun z => absurd z.1 (by decide) | exact ⟨fun z => absurd z.1 (by decide), fun z => absurd z.1 (by decide)⟩ | omega)) (by rw [f1 1 2 (by first | decide | exact fun z => absurd z.1 (by decide) | exact ⟨fun z => absurd z.1 (by decide), fun z => absurd z.1 (by decide)⟩ | omega)]; omega) (by decide) (by omega) (by decide)⟩
/-- the class stands behind a value or a bracket (mode m), and neither ']' nor the clause's end comes -/
def Jq (b : Int → Int) (n m : Int) (P : List Int) (q : Int) : Prop := (m = 4 → ¬ (n ≤ q ∨ b q = 59)) ∧ ((m = 6 ∨ m = 7) → ¬ (q < n ∧ b q = 93 ∧ ¬ nOp P = 0) ∧ ¬ (nOp P = 0 ∧ (n ≤ q ∨ b q = 59)))
theorem zf_readIf {X : Mm} {S : Sh} {m0 : Mm} {K : Int → Mm → Prop} {b : Int → Int} {n k q : Int} {P O : List Int} {T : Int → List Int → Prop} (hS : Shp S) (hm0 : Inv X S m0) (ht : TC X b n) (h4 : nDp P = 0) (lk : Lq b n T m0 4 P O k) (hq : m0 1 2 = q) (sq : Sk b n q q) (nj : ¬ (n ≤ q ∨ b q = 59)) (na : ¬ (q < n ∧ Ar (b q))) (hf : ∀ M1 : Mm, Inv X S M1 → T (M1 1 4) [] → ¬ M1 1 4 = 0 → K 0 M1) (hk : ∀ (M1 : Mm) (P' O' : List Int), Inv X S M1 → Lq b n T M1 2 P' O' k → M1 52 8 = 1 → M1 52 3 = m0 52 3 → q < M1 1 2 → K 1 M1) : wp_X3_readIf S m0 52 K := by
  obtain ⟨k1, k2, k3, k4, k5, k6, k7, k8⟩ := id lk
  have b2 := hm0.f_1_2
  have nb := ht.2.1
  have na2 : ¬ Ar (b q) := fun z => na ⟨by omega, z⟩
  refine u_X3_readIf ?_
  refine g_getr 0 1 rfl hS.k52 hm0.f_52_0 (by decide) ?_
  refine g_C ?_
  refine ⟨hS.k1, ?_⟩
  refine ze_takesWord 13 hS hm0 ht k3 (by decide) (by decide) (fun q' m1 hm1 f1 sk x1 x2 l1 wk => ?_) (fun q' m1 hm1 f1 sk x1 x2 l1 wk => ?_)
  · rw [hq] at sk
    obtain rfl := sk.uniq sq
    have t13 : tl 13 = 2 := by decide
    refine g_ifT (by decide) ?_
    refine g_C ?_
    refine ⟨hS.k52, ?_⟩
    have cp1 : CQ m1 P O := k7.same (fun c p z => f1 c p (by first | exact fun y => absurd (y.1 ▸ z) (by decide) | exact fun y => absurd (y.1 ▸ q) (by decide) | exact z | exact q | exact z.1 | exact q.1 | exact z.2 | exact q.2 | omega))
    have g52 : m1 52 2 = m0 52 2 := f1 52 2 (by first | decide | exact fun z => absurd z.1 (by decide) | exact ⟨fun z => absurd z.1 (by decide), fun z => absurd z.1 (by decide)⟩ | omega)
    have g55 : m1 52 5 = m0 52 5 := f1 52 5 (by first | decide | exact fun z => absurd z.1 (by decide) | exact ⟨fun z => absurd z.1 (by decide), fun z => absurd z.1 (by decide)⟩ | omega)
    refine zf_unpile hS hm1 cp1 (by omega) k6 (fun m2 hm2 f2 c2 ph => ?_)
    have nd2 := nDp_uR 0 P
    have no2 := nOp_uR 0 P
    refine ⟨hS.k52, ?_⟩
    have e12 : m2 1 2 = q' + 2 := by rw [f2 1 2 (by first | decide | exact fun z => absurd z.1 (by decide) | exact ⟨fun z => absurd z.1 (by decide), fun z => absurd z.1 (by decide)⟩ | omega)]; omega
    have e3 : m2 52 3 = m0 52 3 := by rw [f2 52 3 (by first | decide | exact fun z => absurd z.1 (by decide) | exact ⟨fun z => absurd z.1 (by decide), fun z => absurd z.1 (by decide)⟩ | omega), f1 52 3 (by first | decide | exact fun z => absurd z.1 (by decide) | exact ⟨fun z => absurd z.1 (by decide), fun z => absurd z.1 (by decide)⟩ | omega)]
    rw [f1 52 2 (by first | decide | exact fun z => absurd z.1 (by decide) | exact ⟨fun z => absurd z.1 (by decide), fun z => absurd z.1 (by decide)⟩ | omega), f1 52 5 (by first | decide | exact fun z => absurd z.1 (by decide) | exact ⟨fun z => absurd z.1 (by decide), fun z => absurd z.1 (by decide)⟩ | omega)] at ph
    have lk2 : Lq b n T m2 8 (uR 0 P) (O ++ uW 0 P) k := by
      refine ⟨fun f E hA => k1 f E (b_step (q := q') (by rw [hq]; exact sq) (tb_A0 (g_ifF nj (g_ifF na2 (g_ifT wk ?_))))), by rw [f2 1 4 (by first | decide | exact fun z => absurd z.1 (by decide) | exact ⟨fun z => absurd z.1 (by decide), fun z => absurd z.1 (by decide)⟩ | omega), f1 1 4 (by first | decide | exact fun z => absurd z.1 (by decide) | exact ⟨fun z => absurd z.1 (by decide), fun z => absurd z.1 (by decide)⟩ | omega)]; exact k2, by omega, by omega, by omega, by omega, c2, by rw [f2 52 7 (by first | decide | exact fun z => absurd z.1 (by decide) | exact ⟨fun z => absurd z.1 (by decide), fun z => absurd z.1 (by decide)⟩ | omega), f1 52 7 (by first | decide | exact fun z => absurd z.1 (by decide) | exact ⟨fun z => absurd z.1 (by decide), fun z => absurd z.1 (by decide)⟩ | omega), no2]; exact k8⟩
      rw [e12, e3] at hA
      exact hA
    refine zf_beginFact hS hm2 ht lk2 (fun m3 hm3 t3 n3 => ⟨by decide, hf m3 hm3 t3 n3⟩) (fun m3 s3 hm3 l3 w8 w3 w2 => ⟨by decide, hk m3 s3 _ hm3 l3 w8 (by omega) (by omega)⟩)
  · rw [hq] at sk
    obtain rfl := sk.uniq sq
    refine g_ifF (by decide) ?_
    refine g_getr 0 1 rfl hS.k52 hm1.f_52_0 (by decide) ?_
    refine g_C ?_
    refine ze_refuse0 (q := q') (T := fun f => T f []) hS hm1 ((f1 1 4 (by first | decide | exact fun z => absurd z.1 (by decide) | exact ⟨fun z => absurd z.1 (by decide), fun z => absurd z.1 (by decide)⟩ | omega)).trans k2) x2 (by omega) (by decide) (by decide) ?_ hf
    rw [Int.add_zero]
    exact k1 _ _ (b_step (q := q') (by rw [hq]; exact sq) (tb_A0 (g_ifF nj (g_ifF na2 (g_ifF wk ⟨rfl, rfl⟩)))))
theorem zf_readComparison {X : Mm} {S : Sh} {m0 : Mm} {K : Int → Mm → Prop} {b : Int → Int} {n k q : Int} {T : Int → List Int → Prop} {P O : List Int} (hS : Shp S) (hm0 : Inv X S m0) (ht : TC X b n) (lk : Lq b n T m0 5 P O k) (hq : m0 1 2 = q) (sq : Sk b n q q) (na : ¬ (q < n ∧ Ar (b q))) (hf : ∀ M1 : Mm, Inv X S M1 → T (M1 1 4) [] → ¬ M1 1 4 = 0 → K 0 M1) (hk : ∀ (M1 : Mm) (P' O' : List Int), Inv X S M1 → Lq b n T M1 3 P' O' k → M1 52 8 = 2 → m0 52 3 ≤ M1 52 3 → q < M1 1 2 → K 1 M1) : wp_X3_readComparison S m0 52 K := by
  obtain ⟨k1, k2, k3, k4, k5, k6, k7, k8⟩ := id lk
  have b2 := hm0.f_1_2
  have b3 := hm0.f_52_3
  have nb := ht.2.1
  refine u_X3_readComparison ?_
  refine ⟨hS.k52, ?_⟩
  refine zf_takeComparison hS hm0 ht k3 (fun q' v m1 hm1 f1 sk l1 cm x3 x2 v0 v1 => ?_) (fun q' m1 hm1 f1 sk x1 x2 l1 ncm => ?_)
  · rw [hq] at sk
    obtain rfl := sk.uniq sq
    have sq0 : Sk b n (m0 1 2) q' := by rw [hq]; exact sq
    refine g_ifT (by first | decide | omega) ?_
    refine g_getu 3 rfl hS.k52 (fun a ea => ?_)
    rw [f1 52 3 (by first | decide | exact fun z => absurd z.1 (by decide) | exact ⟨fun z => absurd z.1 (by decide), fun z => absurd z.1 (by decide)⟩ | omega)] at ea
    refine g_C ?_
    refine g_if (fun w => ?_) (fun w => ?_)
    · refine g_getu 3 rfl hS.k52 (fun a2 ea2 => ?_)
      rw [f1 52 3 (by first | decide | exact fun z => absurd z.1 (by decide) | exact ⟨fun z => absurd z.1 (by decide), fun z => absurd z.1 (by decide)⟩ | omega)] at ea2
      refine g_C ?_
      refine g_A (by omega) (by omega) ?_
      refine g_put 3 rfl hS.k52 (hm1.w_52_3 (by omega) (by omega)) (fun m2 e2 hm2 => ?_)
      have f2 : ∀ c p : Int, ¬ (c = 52 ∧ p = 3) → m2 c p = m1 c p := fun c p q => (congrFun (congrFun e2 _) _).trans (up_ne q)
      have y2 : m2 52 3 = a2 + 1 := (congrFun (congrFun e2 _) _).trans (up_at _ _ _ _)
      have G : ∀ c p : Int, ¬ (c = 52 ∧ p = 3) ∧ ¬ (c = 1 ∧ 2 ≤ p ∧ p ≤ 3) → m2 c p = m0 c p := fun c p z => (f2 c p (by first | exact fun y => absurd (y.1 ▸ z) (by decide) | exact fun y => absurd (y.1 ▸ q) (by decide) | exact z | exact q | exact z.1 | exact q.1 | exact z.2 | exact q.2 | omega)).trans (f1 c p (by first | exact fun y => absurd (y.1 ▸ z) (by decide) | exact fun y => absurd (y.1 ▸ q) (by decide) | exact z | exact q | exact z.1 | exact q.1 | exact z.2 | exact q.2 | omega))
      have cp2 : CQ m2 P O := k7.same (fun c p z => G c p (by omega))
      have g5 : m2 52 5 = m0 52 5 := G 52 5 (by omega)
      have g2 : m2 52 2 = m0 52 2 := G 52 2 (by omega)
      have b22 := hm2.f_52_2
      refine ⟨hS.k52, ?_⟩
      have nd3 : nDp (v :: uR (bnS v) P) = nDp (uR (bnS v) P) := by
        show (if v = -27 ∨ v = -22 then 1 else 0) + nDp (uR (bnS v) P) = _
        rw [if_neg (by omega), Nat.zero_add]
      have no3 : nOp (v :: uR (bnS v) P) = nOp P := by
        show (if v = -27 then 1 else 0) + nOp (uR (bnS v) P) = _
        rw [if_neg (by omega), Nat.zero_add, nOp_uR]
      have nd4 := nDp_uR (bnS v) P
      refine zf_pile hS hm2 cp2 (by omega) k6 (by omega) (by omega) (fun m3 hm3 f3 c3 ph => ?_)
      refine g_C ?_
      refine g_put 8 rfl hS.k52 (hm3.w_52_8 (by decide) (by decide)) (fun m4 e4 hm4 => ?_)
      have f4 : ∀ c p : Int, ¬ (c = 52 ∧ p = 8) → m4 c p = m3 c p := fun c p q => (congrFun (congrFun e4 _) _).trans (up_ne q)
      have y4 : m4 52 8 = 2 := (congrFun (congrFun e4 _) _).trans (up_at _ _ _ _)
      have e12 : m4 1 2 = m1 1 2 := by rw [f4 1 2 (by first | decide | exact fun z => absurd z.1 (by decide) | exact ⟨fun z => absurd z.1 (by decide), fun z => absurd z.1 (by decide)⟩ | omega), f3 1 2 (by first | decide | exact fun z => absurd z.1 (by decide) | exact ⟨fun z => absurd z.1 (by decide), fun z => absurd z.1 (by decide)⟩ | omega), f2 1 2 (by first | decide | exact fun z => absurd z.1 (by decide) | exact ⟨fun z => absurd z.1 (by decide), fun z => absurd z.1 (by decide)⟩ | omega)]
      have e3 : m4 52 3 = m0 52 3 + 1 := by rw [f4 52 3 (by first | decide | exact fun z => absurd z.1 (by decide) | exact ⟨fun z => absurd z.1 (by decide), fun z => absurd z.1 (by decide)⟩ | omega), f3 52 3 (by first | decide | exact fun z => absurd z.1 (by decide) | exact ⟨fun z => absurd z.1 (by decide), fun z => absurd z.1 (by decide)⟩ | omega)]; omega
      refine g_C ⟨by decide, hk m4 _ _ hm4 ⟨fun f E hA => k1 f E (b_step sq0 (tb_A1 (g_ifF na (g_ifT ⟨l1, cm⟩ (g_ifF (by first | decide | omega) ?_))))), by rw [f4 1 4 (by first | decide | exact fun z => absurd z.1 (by decide) | exact ⟨fun z => absurd z.1 (by decide), fun z => absurd z.1 (by decide)⟩ | omega), f3 1 4 (by first | decide | exact fun z => absurd z.1 (by decide) | exact ⟨fun z => absurd z.1 (by decide), fun z => absurd z.1 (by decide)⟩ | omega), G 1 4 (by omega)]; exact k2, by omega, by rw [f4 52 2 (by first | decide | exact fun z => absurd z.1 (by decide) | exact ⟨fun z => absurd z.1 (by decide), fun z => absurd z.1 (by decide)⟩ | omega), f4 52 5 (by first | decide | exact fun z => absurd z.1 (by decide) | exact ⟨fun z => absurd z.1 (by decide), fun z => absurd z.1 (by decide)⟩ | omega)]; omega, by omega, by omega, c3.same (fun c p z => f4 c p (by first | exact fun y => absurd (y.1 ▸ z) (by decide) | exact fun y => absurd (y.1 ▸ q) (by decide) | exact z | exact q | exact z.1 | exact q.1 | exact z.2 | exact q.2 | omega)), by rw [f4 52 7 (by first | decide | exact fun z => absurd z.1 (by decide) | exact ⟨fun z => absurd z.1 (by decide), fun z => absurd z.1 (by decide)⟩ | omega), f3 52 7 (by first | decide | exact fun z => absurd z.1 (by decide) | exact ⟨fun z => absurd z.1 (by decide), fun z => absurd z.1 (by decide)⟩ | omega), G 52 7 (by omega), no3]; exact k8⟩ y4 (by omega) (by omega)⟩
      rw [e12, e3] at hA
      rcases x2 with ⟨z1, z2, z3, z4, z5⟩ | ⟨z1, z2, z5⟩
      · rw [z4, z5] at hA
        exact g_ifT ⟨z1, z2, z3⟩ hA
      · rw [z2, z5] at hA
        exact g_ifF z1 hA
    · refine g_getr 0 1 rfl hS.k52 hm1.f_52_0 (by decide) ?_
      refine g_C ?_
      refine ze_refuse0 (q := q') (T := fun f => T f []) hS hm1 ((f1 1 4 (by first | decide | exact fun z => absurd z.1 (by decide) | exact ⟨fun z => absurd z.1 (by decide), fun z => absurd z.1 (by decide)⟩ | omega)).trans k2) x3 (by omega) (by decide) (by decide) ?_ hf
      exact k1 _ _ (b_step sq0 (tb_A1 (g_ifF na (g_ifT ⟨l1, cm⟩ (g_ifT (by first | decide | omega) ⟨by omega, rfl⟩)))))
  · rw [hq] at sk
    obtain rfl := sk.uniq sq
    have sq0 : Sk b n (m0 1 2) q' := by rw [hq]; exact sq
    refine g_ifF (by decide) ?_
    refine g_getr 0 1 rfl hS.k52 hm1.f_52_0 (by decide) ?_
    refine g_C ?_
    refine ze_refuse0 (q := q') (T := fun f => T f []) hS hm1 ((f1 1 4 (by first | decide | exact fun z => absurd z.1 (by decide) | exact ⟨fun z => absurd z.1 (by decide), fun z => absurd z.1 (by decide)⟩ | omega)).trans k2) x2 (by omega) (by decide) (by decide) ?_ hf
    rw [Int.add_zero]
    exact k1 _ _ (b_step sq0 (tb_A1 (g_ifF na (g_ifF ncm ⟨rfl, rfl⟩))))
theorem zf_readJoint {X : Mm} {S : Sh} {m0 : Mm} {K : Int → Mm → Prop} {b : Int → Int} {n m k q : Int} {T : Int → List Int → Prop} {P O : List Int} (hS : Shp S) (hm0 : Inv X S m0) (ht : TC X b n) (hmm : m = 4 ∨ m = 5 ∨ m = 6 ∨ m = 7) (h4 : m = 4 → nDp P = 0) (lk : Lq b n T m0 m P O k) (h8 : m0 52 8 = m - 4) (sk : Sk b n (m0 1 2) q) (jn : Jq b n m P q) (hf : ∀ M1 : Mm, Inv X S M1 → T (M1 1 4) [] → ¬ M1 1 4 = 0 → K 0 M1) (hk : ∀ (M1 : Mm) (m' : Int) (P' O' : List Int), Inv X S M1 → (m' = 1 ∨ m' = 2 ∨ m' = 3) → (m' = 1 → nDp P' = 0) → Lq b n T M1 m' P' O' k → M1 52 8 = m' - 1 → m0 52 3 ≤ M1 52 3 → K 1 M1) : wp_X3_readJoint S m0 52 K := by
  obtain ⟨k1, k2, k3, k4, k5, k6, k7, k8⟩ := id lk
  have b2 := hm0.f_1_2
  have b3 := hm0.f_52_3
  have nb := ht.2.1
  have b5 := hm0.f_52_5
  have b22 := hm0.f_52_2
  have hqn := sk.le k3
  have q0 : 0 ≤ q := by have := sk.1; omega
  -- no arithmetic: where the class stands
  have rest : ∀ m1 : Mm, Inv X S m1 → (∀ c p : Int, ¬ (c = 1 ∧ 2 ≤ p ∧ p ≤ 3) → m1 c p = m0 c p) → (m1 1 2 = q ∨ (m = 7 ∧ m1 1 2 = m0 1 2)) → (m = 7 ∨ ¬ (q < n ∧ Ar (b q))) → wp_X3_readJoint_16 S K 52 0 m1 := by
    intro m1 hm1 f1 x1 na
    refine u_X3_readJoint_16 ?_
    refine g_ifT rfl ?_
    refine g_getu 8 rfl hS.k52 (fun w ew => ?_)
    rw [f1 52 8 (by first | decide | exact fun z => absurd z.1 (by decide) | exact ⟨fun z => absurd z.1 (by decide), fun z => absurd z.1 (by decide)⟩ | omega)] at ew
    refine g_if (fun w1 => ?_) (fun w1 => ?_)
    · refine g_getu 8 rfl hS.k52 (fun w' ew' => ?_)
      rw [f1 52 8 (by first | decide | exact fun z => absurd z.1 (by decide) | exact ⟨fun z => absurd z.1 (by decide), fun z => absurd z.1 (by decide)⟩ | omega)] at ew'
      refine g_C ?_
      refine g_if (fun w2 => ?_) (fun w2 => ?_)
      · -- and, or
        have m67 : m = 6 ∨ m = 7 := by omega
        obtain ⟨nc, ne⟩ := jn.2 m67
        have stB' : ∀ (f : Int) (E : List Int), bB b n (Bcc b n) q (m0 52 3) P O k f E → T f E := by
          intro f E hB
          rcases m67 with e | e
          · refine k1 f E ?_
            rw [e]
            exact b_step sk (tb_A2 (g_ifF nc (g_ifF ne (g_ifF (na.resolve_left (by omega)) hB))))
          · refine k1 f E ?_
            rw [e]
            exact b_step sk (tb_A3 (g_ifF nc (g_ifF ne hB)))
        have sk1 : Sk b n (m1 1 2) q := by
          rcases x1 with z | z
          · rw [z]; exact sk.idem
          · rw [z.2]; exact sk
        have go : ∀ (s r : Int) (m2 : Mm), Inv X S m2 → (s = -23 ∨ s = -24) → (∀ c p : Int, ¬ (c = 1 ∧ 2 ≤ p ∧ p ≤ 3) → m2 c p = m0 c p) → m2 1 2 = r → q < r → r ≤ n → (∀ (f : Int) (E : List Int), bPile (Bcc b n) 8 r (m0 52 3) s P O k f E → T f E) → wp_X3_readJoint_88 S K 52 s m2 := by
          intro s r m2 hm2 hs f2 y2 hqr hrn hT
          refine u_X3_readJoint_88 ?_
          refine g_ifT (by first | decide | omega) ?_
          refine ⟨hS.k52, ?_⟩
          have cp2 : CQ m2 P O := k7.same (fun c p z => f2 c p (by first | exact fun y => absurd (y.1 ▸ z) (by decide) | exact fun y => absurd (y.1 ▸ q) (by decide) | exact z | exact q | exact z.1 | exact q.1 | exact z.2 | exact q.2 | omega))
          have g5 : m2 52 5 = m0 52 5 := f2 52 5 (by first | decide | exact fun z => absurd z.1 (by decide) | exact ⟨fun z => absurd z.1 (by decide), fun z => absurd z.1 (by decide)⟩ | omega)
          have g2 : m2 52 2 = m0 52 2 := f2 52 2 (by first | decide | exact fun z => absurd z.1 (by decide) | exact ⟨fun z => absurd z.1 (by decide), fun z => absurd z.1 (by decide)⟩ | omega)
          have nd3 : nDp (s :: uR (bnS s) P) = nDp (uR (bnS s) P) := by
            show (if s = -27 ∨ s = -22 then 1 else 0) + nDp (uR (bnS s) P) = _
            rw [if_neg (by omega), Nat.zero_add]
          have no3 : nOp (s :: uR (bnS s) P) = nOp P := by
            show (if s = -27 then 1 else 0) + nOp (uR (bnS s) P) = _
            rw [if_neg (by omega), Nat.zero_add, nOp_uR]
          have nd4 := nDp_uR (bnS s) P
          refine zf_pile hS hm2 cp2 (by have := sk.1; omega) k6 (by omega) (by omega) (fun m3 hm3 f3 c3 ph => ?_)
          refine ⟨hS.k52, ?_⟩
          rw [g2, g5] at ph
          have e12 : m3 1 2 = r := (f3 1 2 (by first | decide | exact fun z => absurd z.1 (by decide) | exact ⟨fun z => absurd z.1 (by decide), fun z => absurd z.1 (by decide)⟩ | omega)).trans y2
          have e3 : m3 52 3 = m0 52 3 := (f3 52 3 (by first | decide | exact fun z => absurd z.1 (by decide) | exact ⟨fun z => absurd z.1 (by decide), fun z => absurd z.1 (by decide)⟩ | omega)).trans (f2 52 3 (by first | decide | exact fun z => absurd z.1 (by decide) | exact ⟨fun z => absurd z.1 (by decide), fun z => absurd z.1 (by decide)⟩ | omega))
          have lk3 : Lq b n T m3 8 (s :: uR (bnS s) P) (O ++ uW (bnS s) P) k := ⟨fun f E hA => hT f E (by rw [e12, e3] at hA; exact hA), by rw [f3 1 4 (by first | decide | exact fun z => absurd z.1 (by decide) | exact ⟨fun z => absurd z.1 (by decide), fun z => absurd z.1 (by decide)⟩ | omega), f2 1 4 (by first | decide | exact fun z => absurd z.1 (by decide) | exact ⟨fun z => absurd z.1 (by decide), fun z => absurd z.1 (by decide)⟩ | omega)]; exact k2, by omega, by have := sk.1; omega, by omega, by omega, c3, by rw [f3 52 7 (by first | decide | exact fun z => absurd z.1 (by decide) | exact ⟨fun z => absurd z.1 (by decide), fun z => absurd z.1 (by decide)⟩ | omega), f2 52 7 (by first | decide | exact fun z => absurd z.1 (by decide) | exact ⟨fun z => absurd z.1 (by decide), fun z => absurd z.1 (by decide)⟩ | omega), no3]; exact k8⟩
          exact zf_beginFact hS hm3 ht lk3 (fun m4 hm4 t4 n4 => ⟨by decide, hf m4 hm4 t4 n4⟩) (fun m4 s4 hm4 l4 w8 w3 w2 => ⟨by decide, hk m4 2 s4 _ hm4 (by omega) (by omega) l4 (by omega) (by omega)⟩)
        refine g_getr 0 1 rfl hS.k52 hm1.f_52_0 (by decide) ?_
        refine g_C ?_
        refine ⟨hS.k1, ?_⟩
        refine ze_takesWord 15 hS hm1 ht (by omega) (by decide) (by decide) (fun q' m2 hm2 f2 sk2 y1 y2 l2 wk => ?_) (fun q' m2 hm2 f2 sk2 y1 y2 l2 wk => ?_)
        · obtain rfl := sk2.uniq sk1
          have t15 : tl 15 = 3 := by decide
          refine g_ifF (by decide) ?_
          refine g_C ?_
          refine go (-23) _ m2 hm2 (by decide) (fun c p z => (f2 c p z).trans (f1 c p z)) y1 (by omega) l2 (fun f E hA => stB' f E (g_ifT wk ?_))
          rw [t15] at hA
          exact hA
        · obtain rfl := sk2.uniq sk1
          refine g_ifT rfl ?_
          refine g_getr 0 1 rfl hS.k52 hm2.f_52_0 (by decide) ?_
          refine g_C ?_
          refine ⟨hS.k1, ?_⟩
          refine ze_takesWord 16 hS hm2 ht (by omega) (by decide) (by decide) (fun q m3 hm3 f3 sk3 z1 z2 l3 wk3 => ?_) (fun q m3 hm3 f3 sk3 z1 z2 l3 wk3 => ?_)
          · rw [y1] at sk3
            obtain rfl := sk3.uniq sk.idem
            have t16 : tl 16 = 2 := by decide
            refine g_ifF (by decide) ?_
            refine g_C ?_
            refine go (-24) _ m3 hm3 (by decide) (fun c p z => ((f3 c p z).trans (f2 c p z)).trans (f1 c p z)) z1 (by omega) l3 (fun f E hA => stB' f E (g_ifF wk (g_ifT wk3 ?_)))
            rw [t16] at hA
            exact hA
          · rw [y1] at sk3
            obtain rfl := sk3.uniq sk.idem
            refine g_ifT rfl ?_
            refine g_C ?_
            refine u_X3_readJoint_88 ?_
            refine g_ifF (by decide) ?_
            refine g_getr 0 1 rfl hS.k52 hm3.f_52_0 (by decide) ?_
            refine g_C ?_
            refine ze_refuse0 (q := q) (T := fun f => T f []) hS hm3 (by rw [f3 1 4 (by first | decide | exact fun z => absurd z.1 (by decide) | exact ⟨fun z => absurd z.1 (by decide), fun z => absurd z.1 (by decide)⟩ | omega), f2 1 4 (by first | decide | exact fun z => absurd z.1 (by decide) | exact ⟨fun z => absurd z.1 (by decide), fun z => absurd z.1 (by decide)⟩ | omega), f1 1 4 (by first | decide | exact fun z => absurd z.1 (by decide) | exact ⟨fun z => absurd z.1 (by decide), fun z => absurd z.1 (by decide)⟩ | omega)]; exact k2) z2 q0 (by decide) (by decide) ?_ hf
            rw [Int.add_zero]
            exact stB' _ _ (g_ifF wk (g_ifF wk3 ⟨rfl, rfl⟩))
      · have e5 : m = 5 := by omega
        have x12 : m1 1 2 = q := x1.resolve_right (by omega)
        have lk1 := lk.move f1 sk x12 hqn
        rw [e5] at lk1
        refine ⟨hS.k52, ?_⟩
        have e3 : m1 52 3 = m0 52 3 := f1 52 3 (by first | decide | exact fun z => absurd z.1 (by decide) | exact ⟨fun z => absurd z.1 (by decide), fun z => absurd z.1 (by decide)⟩ | omega)
        exact zf_readComparison hS hm1 ht lk1 x12 sk.idem (na.resolve_left (by omega)) (fun m4 hm4 t4 n4 => ⟨by decide, hf m4 hm4 t4 n4⟩) (fun m4 s4 o4 hm4 l4 w8 w3 w2 => ⟨by decide, hk m4 3 s4 o4 hm4 (by omega) (by omega) l4 (by omega) (by omega)⟩)
    · have e4 : m = 4 := by omega
      have x12 : m1 1 2 = q := x1.resolve_right (by omega)
      have lk1 := lk.move f1 sk x12 hqn
      rw [e4] at lk1
      refine ⟨hS.k52, ?_⟩
      have e3 : m1 52 3 = m0 52 3 := f1 52 3 (by first | decide | exact fun z => absurd z.1 (by decide) | exact ⟨fun z => absurd z.1 (by decide), fun z => absurd z.1 (by decide)⟩ | omega)
      exact zf_readIf hS hm1 ht (h4 e4) lk1 x12 sk.idem (jn.1 e4) (na.resolve_left (by omega)) (fun m4 hm4 t4 n4 => ⟨by decide, hf m4 hm4 t4 n4⟩) (fun m4 s4 o4 hm4 l4 w8 w3 w2 => ⟨by decide, hk m4 2 s4 o4 hm4 (by omega) (by omega) l4 (by omega) (by omega)⟩)
  refine u_X3_readJoint ?_
  refine g_getu 8 rfl hS.k52 (fun w ew => ?_)
  refine g_C ?_
  refine g_if (fun w1 => ?_) (fun w1 => ?_)
  · refine ⟨hS.k52, ?_⟩
    refine zf_takeArithmetic hS hm0 ht k3 (fun q' v m1 hm1 f1 sk1 x1 x2 l1 ar ev v0 v1 => ?_) (fun q' m1 hm1 f1 sk1 x1 x2 l1 nar => ?_)
    · obtain rfl := sk1.uniq sk
      refine u_X3_readJoint_16 ?_
      refine g_ifF (by first | decide | omega) ?_
      refine ⟨hS.k52, ?_⟩
      have cp1 : CQ m1 P O := k7.same (fun c p z => f1 c p (by first | exact fun y => absurd (y.1 ▸ z) (by decide) | exact fun y => absurd (y.1 ▸ q) (by decide) | exact z | exact q | exact z.1 | exact q.1 | exact z.2 | exact q.2 | omega))
      have g5 : m1 52 5 = m0 52 5 := f1 52 5 (by first | decide | exact fun z => absurd z.1 (by decide) | exact ⟨fun z => absurd z.1 (by decide), fun z => absurd z.1 (by decide)⟩ | omega)
      have g2 : m1 52 2 = m0 52 2 := f1 52 2 (by first | decide | exact fun z => absurd z.1 (by decide) | exact ⟨fun z => absurd z.1 (by decide), fun z => absurd z.1 (by decide)⟩ | omega)
      have nd3 : nDp (v :: uR (bnS v) P) = nDp (uR (bnS v) P) := by
        show (if v = -27 ∨ v = -22 then 1 else 0) + nDp (uR (bnS v) P) = _
        rw [if_neg (by omega), Nat.zero_add]
      have no3 : nOp (v :: uR (bnS v) P) = nOp P := by
        show (if v = -27 then 1 else 0) + nOp (uR (bnS v) P) = _
        rw [if_neg (by omega), Nat.zero_add, nOp_uR]
      have nd4 := nDp_uR (bnS v) P
      refine zf_pile hS hm1 cp1 (by have := sk.1; omega) k6 (by omega) (by omega) (fun m2 hm2 f2 c2 ph => ?_)
      rw [g2, g5] at ph
      have e12 : m2 1 2 = q' + 1 := (f2 1 2 (by first | decide | exact fun z => absurd z.1 (by decide) | exact ⟨fun z => absurd z.1 (by decide), fun z => absurd z.1 (by decide)⟩ | omega)).trans x1
      have e3 : m2 52 3 = m0 52 3 := (f2 52 3 (by first | decide | exact fun z => absurd z.1 (by decide) | exact ⟨fun z => absurd z.1 (by decide), fun z => absurd z.1 (by decide)⟩ | omega)).trans (f1 52 3 (by first | decide | exact fun z => absurd z.1 (by decide) | exact ⟨fun z => absurd z.1 (by decide), fun z => absurd z.1 (by decide)⟩ | omega))
      have e8 : m2 52 8 = m - 4 := by rw [f2 52 8 (by first | decide | exact fun z => absurd z.1 (by decide) | exact ⟨fun z => absurd z.1 (by decide), fun z => absurd z.1 (by decide)⟩ | omega), f1 52 8 (by first | decide | exact fun z => absurd z.1 (by decide) | exact ⟨fun z => absurd z.1 (by decide), fun z => absurd z.1 (by decide)⟩ | omega)]; exact h8
      have m3 : m = 4 ∨ m = 5 ∨ m = 6 := by omega
      refine g_C ⟨by decide, hk m2 (m - 3) _ _ hm2 (by omega) (fun e => by have := h4 (by omega); omega) ⟨fun f E hA => k1 f E (b_step sk ?_), by rw [f2 1 4 (by first | decide | exact fun z => absurd z.1 (by decide) | exact ⟨fun z => absurd z.1 (by decide), fun z => absurd z.1 (by decide)⟩ | omega), f1 1 4 (by first | decide | exact fun z => absurd z.1 (by decide) | exact ⟨fun z => absurd z.1 (by decide), fun z => absurd z.1 (by decide)⟩ | omega)]; exact k2, by omega, by have := sk.1; omega, by omega, by omega, c2, by rw [f2 52 7 (by first | decide | exact fun z => absurd z.1 (by decide) | exact ⟨fun z => absurd z.1 (by decide), fun z => absurd z.1 (by decide)⟩ | omega), f1 52 7 (by first | decide | exact fun z => absurd z.1 (by decide) | exact ⟨fun z => absurd z.1 (by decide), fun z => absurd z.1 (by decide)⟩ | omega), no3]; exact k8⟩ (by omega) (by omega)⟩
      rw [e12, e3, ev] at hA
      rcases m3 with e | e | e
      · rw [e] at hA ⊢
        exact tb_A0 (g_ifF (jn.1 e) (g_ifT ar hA))
      · rw [e] at hA ⊢
        exact tb_A1 (g_ifT ⟨l1, ar⟩ hA)
      · rw [e] at hA ⊢
        obtain ⟨nc, ne⟩ := jn.2 (Or.inl e)
        exact tb_A2 (g_ifF nc (g_ifF ne (g_ifT ⟨l1, ar⟩ hA)))
    · obtain rfl := sk1.uniq sk
      exact rest m1 hm1 f1 (Or.inl x1) (Or.inr nar)
  · refine g_C ?_
    exact rest m0 hm0 (fun _ _ _ => rfl) (Or.inr ⟨by omega, rfl⟩) (Or.inl (by omega))
end
