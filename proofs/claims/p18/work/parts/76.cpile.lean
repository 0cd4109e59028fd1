/-! the class's pile of signs -/
def stk (f : Int → Int) : Nat → List Bool
  | 0 => []
  | n + 1 => if f n = -27 then true :: stk f n else if f n = -22 then false :: stk f n else stk f n
def hNt (f : Int → Int) : Nat → Prop
  | 0 => False
  | n + 1 => ¬ f n = -27 ∧ (f n = -22 ∨ hNt f n)
def okp (f : Int → Int) : Nat → Prop
  | 0 => True
  | n + 1 => okp f n ∧ ((f n = -23 ∨ f n = -24) → ¬ hNt f n)
def cnt : List Bool → Int
  | [] => 0
  | true :: s => cnt s + 1
  | false :: s => cnt s
theorem cnt_nn : ∀ s : List Bool, 0 ≤ cnt s := by
  intro s
  induction s with
  | nil => exact Int.le_refl 0
  | cons a s ih =>
    cases a
    · exact ih
    · show 0 ≤ cnt s + 1
      omega
theorem cnt_mem : ∀ s : List Bool, true ∈ s ↔ ¬ cnt s = 0 := by
  intro s
  induction s with
  | nil => exact ⟨fun h => (by cases h), fun h => absurd rfl h⟩
  | cons a s ih =>
    cases a
    · show true ∈ false :: s ↔ ¬ cnt s = 0
      rw [← ih]
      exact ⟨fun h => (by cases h; assumption), fun h => List.mem_cons_of_mem _ h⟩
    · have := cnt_nn s
      exact ⟨fun _ => (by show ¬ cnt s + 1 = 0; omega), fun _ => List.mem_cons_self⟩
theorem dropN_cnt : ∀ s : List Bool, cnt (dropN s) = cnt s := by
  intro s
  induction s with
  | nil => rfl
  | cons a s ih =>
    cases a
    · exact ih
    · rfl
theorem dropN_idem : ∀ s : List Bool, dropN (dropN s) = dropN s := by
  intro s
  induction s with
  | nil => rfl
  | cons a s ih =>
    cases a
    · exact ih
    · rfl
theorem dropN_len : ∀ s : List Bool, (dropN s).length ≤ s.length := by
  intro s
  induction s with
  | nil => exact Nat.le_refl _
  | cons a s ih =>
    cases a
    · exact Nat.le_succ_of_le ih
    · exact Nat.le_refl _
theorem clos_of : ∀ (s t : List Bool), dropN s = true :: t → clos s = t := by
  intro s
  induction s with
  | nil => intro t h; cases h
  | cons a s ih =>
    intro t h
    cases a
    · exact ih t h
    · have h2 : true :: s = true :: t := h
      injection h2
theorem drop_mem : ∀ s : List Bool, true ∈ s → ∃ t : List Bool, dropN s = true :: t := by
  intro s
  induction s with
  | nil => intro h; cases h
  | cons a s ih =>
    intro h
    cases a
    · exact ih (by cases h; assumption)
    · exact ⟨s, rfl⟩
theorem stk_same {f g : Int → Int} : ∀ n : Nat, (∀ j : Int, 0 ≤ j → j < n → f j = g j) → stk f n = stk g n ∧ hNt f n = hNt g n ∧ okp f n = okp g n := by
  intro n
  induction n with
  | zero => intro _; exact ⟨rfl, rfl, rfl⟩
  | succ n ih =>
    intro h
    obtain ⟨h1, h2, h3⟩ := ih (fun j a c => h j a (by omega))
    have e := h n (by omega) (by omega)
    refine ⟨?_, ?_, ?_⟩
    · simp only [stk, e, h1]
    · simp only [hNt, e, h2]
    · simp only [okp, e, h2, h3]
theorem stk_top {f : Int → Int} : ∀ n : Nat, ¬ hNt f n → dropN (stk f n) = stk f n := by
  intro n
  induction n with
  | zero => intro _; rfl
  | succ n ih =>
    intro h
    unfold stk
    by_cases e : f n = -27
    · rw [if_pos e]; rfl
    · rw [if_neg e]
      by_cases e2 : f n = -22
      · exact absurd ⟨e, Or.inl e2⟩ h
      · rw [if_neg e2]
        exact ih (fun z => h ⟨e, Or.inr z⟩)
def CP (M : Mm) (st : List Bool) : Prop := stk (M 54) (M 52 5).toNat = st ∧ M 52 6 = (st.length : Int) ∧ okp (M 54) (M 52 5).toNat ∧ ∀ j : Int, 0 ≤ j → j < M 52 5 → (-24 ≤ M 54 j ∧ M 54 j ≤ -12) ∨ M 54 j = -27
theorem CP.same {m m1 : Mm} {st : List Bool} (h : CP m st) (f5 : m1 52 5 = m 52 5) (f6 : m1 52 6 = m 52 6) (f4 : ∀ p : Int, m1 54 p = m 54 p) : CP m1 st := by
  have e : m1 54 = m 54 := funext f4
  unfold CP
  rw [f5, f6, e]
  exact h
def bnd (x : Int) : Int := if x = -24 then 1 else if x = -23 then 2 else if x = -22 then 3 else if -21 ≤ x ∧ x ≤ -17 then 4 else if x = -16 ∨ x = -15 then 5 else if -14 ≤ x ∧ x ≤ -12 then 6 else 4
theorem zl_bnd {S : Sh} {m : Mm} {K : Int → Mm → Prop} {x : Int} (h : K (bnd x) m) : wp_X3_bindingOf S m x K := by
  have e : ∀ v : Int, bnd x = v → K v m := fun v z => by rw [← z]; exact h
  refine u_X3_bindingOf ?_
  refine g_if (fun w => g_C (e 1 (by unfold bnd; rw [if_pos w]))) (fun w1 => ?_)
  refine g_if (fun w => g_C (e 2 (by unfold bnd; rw [if_neg w1, if_pos w]))) (fun w2 => ?_)
  refine g_if (fun w => g_C (e 3 (by unfold bnd; rw [if_neg w1, if_neg w2, if_pos w]))) (fun w3 => ?_)
  refine g_if (fun w => g_C (e 4 (by unfold bnd; rw [if_neg w1, if_neg w2, if_neg w3, if_pos (by omega)]))) (fun w4 => ?_)
  refine g_if (fun w => g_C (e 4 (by unfold bnd; rw [if_neg w1, if_neg w2, if_neg w3, if_pos (by omega)]))) (fun w5 => ?_)
  refine g_if (fun w => g_C (e 4 (by unfold bnd; rw [if_neg w1, if_neg w2, if_neg w3, if_pos (by omega)]))) (fun w6 => ?_)
  refine g_if (fun w => g_C (e 4 (by unfold bnd; rw [if_neg w1, if_neg w2, if_neg w3, if_pos (by omega)]))) (fun w7 => ?_)
  refine g_if (fun w => g_C (e 4 (by unfold bnd; rw [if_neg w1, if_neg w2, if_neg w3, if_pos (by omega)]))) (fun w8 => ?_)
  have no : ¬ (-21 ≤ x ∧ x ≤ -17) := by omega
  refine g_if (fun w => g_C (e 5 (by unfold bnd; rw [if_neg w1, if_neg w2, if_neg w3, if_neg no, if_pos (by omega)]))) (fun w9 => ?_)
  refine g_if (fun w => g_C (e 5 (by unfold bnd; rw [if_neg w1, if_neg w2, if_neg w3, if_neg no, if_pos (by omega)]))) (fun w10 => ?_)
  have no2 : ¬ (x = -16 ∨ x = -15) := by omega
  refine g_if (fun w => g_C (e 6 (by unfold bnd; rw [if_neg w1, if_neg w2, if_neg w3, if_neg no, if_neg no2, if_pos (by omega)]))) (fun w11 => ?_)
  refine g_if (fun w => g_C (e 6 (by unfold bnd; rw [if_neg w1, if_neg w2, if_neg w3, if_neg no, if_neg no2, if_pos (by omega)]))) (fun w12 => ?_)
  refine g_if (fun w => g_C (e 6 (by unfold bnd; rw [if_neg w1, if_neg w2, if_neg w3, if_neg no, if_neg no2, if_pos (by omega)]))) (fun w13 => ?_)
  exact g_C (e 4 (by unfold bnd; rw [if_neg w1, if_neg w2, if_neg w3, if_neg no, if_neg no2, if_neg (by omega)]))
theorem bnd_c {x : Int} (h : -24 ≤ x ∧ x ≤ -12) : (x = -24 ∧ bnd x = 1) ∨ (x = -23 ∧ bnd x = 2) ∨ (x = -22 ∧ bnd x = 3) ∨ (-21 ≤ x ∧ 4 ≤ bnd x ∧ bnd x ≤ 6) := by
  unfold bnd
  split
  · omega
  · split
    · omega
    · split
      · omega
      · split
        · omega
        · split
          · omega
          · split <;> omega
theorem ze_push {X : Mm} {S : Sh} {m0 : Mm} {K : Mm → Prop} {s : Int} (hS : Shp S) (hm0 : Inv X S m0) (hp : m0 52 5 ≤ 399) (hk : ∀ M1 : Mm, Inv X S M1 → (∀ c p : Int, ¬ (c = 52 ∧ p = 5) ∧ ¬ (c = 54 ∧ p = m0 52 5) → M1 c p = m0 c p) → M1 52 5 = m0 52 5 + 1 → M1 54 (m0 52 5) = s → K M1) : wp_X3_push S m0 52 s K := by
  have b5 := hm0.f_52_5
  refine u_X3_push ?_
  refine g_getu 5 rfl hS.k52 (fun v ev => ?_)
  refine g_C ?_
  refine g_ifF (by omega) ?_
  refine g_getr 4 54 rfl hS.k52 hm0.f_52_4 (by decide) ?_
  refine g_getu 5 rfl hS.k52 (fun v2 ev2 => ?_)
  refine g_st hS.k54 hS.l54 (by omega) (by omega) (hm0.wa_54 (by omega) (by omega)) (fun m1 e1 hm1 => ?_)
  have f1 : ∀ c p : Int, ¬ (c = 54 ∧ p = v2) → m1 c p = m0 c p := fun c p q => (congrFun (congrFun e1 _) _).trans (up_ne q)
  have y1 : m1 54 v2 = s := (congrFun (congrFun e1 _) _).trans (up_at _ _ _ _)
  refine g_getu 5 rfl hS.k52 (fun v3 ev3 => ?_)
  rw [f1 52 5 (by omega)] at ev3
  refine g_C ?_
  refine g_A (by omega) (by omega) ?_
  refine g_put 5 rfl hS.k52 (hm1.w_52_5 (by omega) (by omega)) (fun m2 e2 hm2 => ?_)
  have f2 : ∀ c p : Int, ¬ (c = 52 ∧ p = 5) → m2 c p = m1 c p := fun c p q => (congrFun (congrFun e2 _) _).trans (up_ne q)
  have y2 : m2 52 5 = v3 + 1 := (congrFun (congrFun e2 _) _).trans (up_at _ _ _ _)
  refine hk m2 hm2 (fun c p q => (f2 c p (by omega)).trans (f1 c p (by omega))) (by omega) ?_
  rw [f2 54 _ (by omega), ← ev2]
  exact y1
theorem ze_dropTop {X : Mm} {S : Sh} {m0 : Mm} {K : Mm → Prop} (hS : Shp S) (hm0 : Inv X S m0) (hp : 1 ≤ m0 52 5) (hd : 0 ≤ m0 52 6) (hd2 : m0 52 6 ≤ 400) (hk : ∀ M1 : Mm, Inv X S M1 → (∀ c p : Int, ¬ (c = 52 ∧ (p = 5 ∨ p = 6)) → M1 c p = m0 c p) → M1 52 5 = m0 52 5 - 1 → (((m0 54 (m0 52 5 - 1) = -27 ∨ m0 54 (m0 52 5 - 1) = -22) ∧ M1 52 6 = m0 52 6 - 1) ∨ (¬ (m0 54 (m0 52 5 - 1) = -27 ∨ m0 54 (m0 52 5 - 1) = -22) ∧ M1 52 6 = m0 52 6)) → K M1) : wp_X3_dropTop S m0 52 K := by
  have b5 := hm0.f_52_5
  refine u_X3_dropTop ?_
  refine g_getu 5 rfl hS.k52 (fun v ev => ?_)
  refine g_ifF (by omega) ?_
  refine g_getu 5 rfl hS.k52 (fun v2 ev2 => ?_)
  refine g_C ?_
  refine g_S (by omega) (by omega) ?_
  refine g_put 5 rfl hS.k52 (hm0.w_52_5 (by omega) (by omega)) (fun m1 e1 hm1 => ?_)
  have f1 : ∀ c p : Int, ¬ (c = 52 ∧ p = 5) → m1 c p = m0 c p := fun c p q => (congrFun (congrFun e1 _) _).trans (up_ne q)
  have y1 : m1 52 5 = v2 - 1 := (congrFun (congrFun e1 _) _).trans (up_at _ _ _ _)
  have go : (m0 54 (m0 52 5 - 1) = -27 ∨ m0 54 (m0 52 5 - 1) = -22) → wp_X3_dropTop_45 S K 52 m1 := by
    intro hh
    refine u_X3_dropTop_45 ?_
    refine g_getu 6 rfl hS.k52 (fun d ed => ?_)
    rw [f1 52 6 (by omega)] at ed
    refine g_C ?_
    refine g_S (by omega) (by omega) ?_
    refine g_put 6 rfl hS.k52 (hm1.w_52_6 (by omega) (by omega)) (fun m2 e2 hm2 => ?_)
    have f2 : ∀ c p : Int, ¬ (c = 52 ∧ p = 6) → m2 c p = m1 c p := fun c p q => (congrFun (congrFun e2 _) _).trans (up_ne q)
    have y2 : m2 52 6 = d - 1 := (congrFun (congrFun e2 _) _).trans (up_at _ _ _ _)
    exact hk m2 hm2 (fun c p q => (f2 c p (by omega)).trans (f1 c p (by omega))) (by rw [f2 52 5 (by omega)]; omega) (Or.inl ⟨hh, by omega⟩)
  refine g_getr 4 54 rfl hS.k52 hm1.f_52_4 (by decide) ?_
  refine g_getu 5 rfl hS.k52 (fun v3 ev3 => ?_)
  refine g_ldu hS.k54 hS.l54 (by omega) (by omega) (fun x ex => ?_)
  have ex2 : x = m0 54 (m0 52 5 - 1) := by
    rw [ex, f1 54 _ (by omega)]
    congr 1
    omega
  refine g_C ?_
  refine g_if (fun w => go (by omega)) (fun w => ?_)
  refine g_getr 4 54 rfl hS.k52 hm1.f_52_4 (by decide) ?_
  refine g_getu 5 rfl hS.k52 (fun v4 ev4 => ?_)
  refine g_ldu hS.k54 hS.l54 (by omega) (by omega) (fun y ey => ?_)
  have ey2 : y = m0 54 (m0 52 5 - 1) := by
    rw [ey, f1 54 _ (by omega)]
    congr 1
    omega
  refine g_C ?_
  refine g_if (fun w2 => ?_) (fun w2 => go (by omega))
  exact hk m1 hm1 (fun c p q => f1 c p (by omega)) (by omega) (Or.inr ⟨by omega, f1 52 6 (by omega)⟩)
theorem ze_unpile {X : Mm} {S : Sh} {m0 : Mm} {K : Mm → Prop} {u : Int} {st : List Bool} (hS : Shp S) (hm0 : Inv X S m0) (hc : CP m0 st) (hl : st.length ≤ 10) (hk : ∀ (M1 : Mm) (s' : List Bool), Inv X S M1 → (∀ c p : Int, ¬ (c = 52 ∧ (p = 2 ∨ p = 5 ∨ p = 6)) ∧ ¬ c = 53 → M1 c p = m0 c p) → CP M1 s' → M1 52 2 + M1 52 5 ≤ m0 52 2 + m0 52 5 → M1 52 5 ≤ m0 52 5 → s'.length ≤ st.length → (4 ≤ u → s' = st) → (u ≤ 2 → s' = dropN st ∧ ¬ hNt (M1 54) (M1 52 5).toNat) → (u ≤ 1 → M1 52 5 = 0 ∨ M1 54 (M1 52 5 - 1) = -27) → K M1) : wp_X3_unpile S m0 52 u K := by
  have b50 := hm0.f_52_5
  have L : ∀ (k : Nat) (t : Int) (m : Mm) (s : List Bool), Inv X S m → (∀ c p : Int, ¬ (c = 52 ∧ (p = 2 ∨ p = 5 ∨ p = 6)) ∧ ¬ c = 53 → m c p = m0 c p) → CP m s → m 52 2 + m 52 5 ≤ m0 52 2 + m0 52 5 → m 52 5 ≤ m0 52 5 → s.length ≤ st.length → (4 ≤ u → s = st) → dropN s = dropN st → t = m 52 5 - 1 → t + 2 ≤ (k : Int) → wp_X3_unpile_7 S K k 52 u t m := by
    intro k
    induction k with
    | zero =>
      intro t m s hm _ _ _ _ _ _ _ h1 h2
      have b5 := hm.f_52_5
      exfalso; omega
    | succ k ih =>
      intro t m s hm F c1 c2 c3 c4 c5 c6 et h
      have b5 := hm.f_52_5
      obtain ⟨p1, p2, p3, p4⟩ := id c1
      have done : (u ≤ 2 → ¬ hNt (m 54) (m 52 5).toNat) → (u ≤ 1 → m 52 5 = 0 ∨ m 54 (m 52 5 - 1) = -27) → K m := by
        intro h1 h2
        refine hk m s hm F c1 c2 c3 c4 c5 (fun hu => ⟨?_, h1 hu⟩) h2
        have q := stk_top _ (h1 hu)
        rw [p1] at q
        rw [← c6, q]
      refine u_X3_unpile_7 ?_
      refine g_if (fun w => ?_) (fun w => ?_)
      · have z : m 52 5 = 0 := by omega
        refine done (fun _ => ?_) (fun _ => Or.inl z)
        rw [z]
        exact fun z => z
      · have es : (m 52 5).toNat = t.toNat + 1 := by omega
        have ct : ((t.toNat : Nat) : Int) = t := by omega
        have pe := p4 t (by omega) (by omega)
        refine g_getr 4 54 rfl hS.k52 hm.f_52_4 (by decide) ?_
        refine g_ldu hS.k54 hS.l54 (by omega) (by omega) (fun x ex => ?_)
        refine g_C ?_
        refine g_if (fun w2 => ?_) (fun w2 => ?_)
        · have e27 : m 54 t = -27 := by omega
          refine done (fun _ => ?_) (fun _ => Or.inr (by rw [← et]; exact e27))
          rw [es]
          intro z
          have z1 := z.1
          rw [ct] at z1
          exact z1 e27
        · have pr : -24 ≤ m 54 t ∧ m 54 t ≤ -12 := pe.resolve_right (by omega)
          have bc := bnd_c pr
          refine g_getr 4 54 rfl hS.k52 hm.f_52_4 (by decide) ?_
          refine g_ldu hS.k54 hS.l54 (by omega) (by omega) (fun y ey => ?_)
          refine zl_bnd ?_
          rw [ey]
          refine g_if (fun w3 => ?_) (fun w3 => ?_)
          · refine g_getr 4 54 rfl hS.k52 hm.f_52_4 (by decide) ?_
            refine g_ldu hS.k54 hS.l54 (by omega) (by omega) (fun y2 ey2 => ?_)
            refine ⟨hS.k52, ?_⟩
            refine z_X3_write hS hm (fun m1 hm1 f1 y1 => ?_)
            have e5 : m1 52 5 = m 52 5 := f1 52 5 (by omega)
            have e6 : m1 52 6 = m 52 6 := f1 52 6 (by omega)
            refine ⟨hS.k52, ?_⟩
            refine ze_dropTop hS hm1 (by omega) (by omega) (by omega) (fun m2 hm2 f2 y2 y3 => ?_)
            have e54 : ∀ p : Int, m2 54 p = m 54 p := fun p => (f2 54 p (by omega)).trans (f1 54 p (by omega))
            have f54 : m2 54 = m 54 := funext e54
            rw [f1 54 _ (by omega), e5, ← et] at y3
            have e25 : m2 52 5 = t := by omega
            -- the stack without its top sign
            have sk : stk (m 54) (t.toNat + 1) = s := by rw [← es]; exact p1
            have okt : okp (m 54) t.toNat := by rw [es] at p3; exact p3.1
            refine g_A (by omega) (by omega) ?_
            by_cases en : m 54 t = -22
            · have hs : s = false :: stk (m 54) t.toNat := by
                rw [← sk]
                show (if m 54 ((t.toNat : Nat) : Int) = -27 then true :: stk (m 54) t.toNat else if m 54 ((t.toNat : Nat) : Int) = -22 then false :: stk (m 54) t.toNat else stk (m 54) t.toNat) = _
                rw [ct, if_neg (by omega), if_pos en]
              have l2 : ((stk (m 54) t.toNat).length : Int) = (s.length : Int) - 1 := by
                rw [hs, List.length_cons]
                omega
              have cp2 : CP m2 (stk (m 54) t.toNat) := by
                refine ⟨by rw [e25, f54], ?_, by rw [e25, f54]; exact okt, fun j j0 j1 => by rw [f54]; exact p4 j j0 (by omega)⟩
                rw [l2]
                omega
              refine ih (t + -1) m2 (stk (m 54) t.toNat) hm2 (fun c p q => ((f2 c p (by omega)).trans (f1 c p (by omega))).trans (F c p q)) cp2 (by rw [f2 52 2 (by omega)]; omega) (by omega) (by omega) (fun h4 => ?_) ?_ (by omega) (by omega)
              · exfalso
                omega
              · rw [← c6, hs]
                rfl
            · have hs : s = stk (m 54) t.toNat := by
                rw [← sk]
                show (if m 54 ((t.toNat : Nat) : Int) = -27 then true :: stk (m 54) t.toNat else if m 54 ((t.toNat : Nat) : Int) = -22 then false :: stk (m 54) t.toNat else stk (m 54) t.toNat) = _
                rw [ct, if_neg (by omega), if_neg en]
              have cp2 : CP m2 s := by
                refine ⟨by rw [e25, f54]; exact hs.symm, ?_, by rw [e25, f54]; exact okt, fun j j0 j1 => by rw [f54]; exact p4 j j0 (by omega)⟩
                omega
              exact ih (t + -1) m2 s hm2 (fun c p q => ((f2 c p (by omega)).trans (f1 c p (by omega))).trans (F c p q)) cp2 (by rw [f2 52 2 (by omega)]; omega) (by omega) c4 c5 c6 (by omega) (by omega)
          · refine done (fun hu => ?_) (fun hu => ?_)
            · have e24 : m 54 t = -24 := by omega
              rw [es] at p3 ⊢
              have nh := p3.2 (by rw [ct]; exact Or.inr e24)
              intro z
              have z2 := z.2
              rw [ct] at z2
              rcases z2 with z2 | z2
              · omega
              · exact nh z2
            · exfalso; omega
  refine u_X3_unpile ?_
  refine g_getu 5 rfl hS.k52 (fun v ev => ?_)
  refine g_C ?_
  refine g_S (by omega) (by omega) ?_
  exact ⟨402, L 402 (v - 1) m0 st hm0 (fun _ _ _ => rfl) hc (by omega) (by omega) (Nat.le_refl _) (fun _ => rfl) rfl (by omega) (by omega)⟩
