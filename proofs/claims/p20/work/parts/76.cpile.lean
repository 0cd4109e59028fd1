/-! the class's pile of signs -/
def stk (f : Int → Int) : Nat → List Bool
  | 0 => []
  | n + 1 => if f n = -27 then true :: stk f n else if f n = -22 then false :: stk f n else stk f n
def hNt (f : Int → Int) : Nat → Prop
  | 0 => False
  | n + 1 => ¬ f n = -27 ∧ (f n = -22 ∨ hNt f n)
def okp (f : Int → Int) : Nat → Prop
  | 0 => True
  | n + 1 => okp f n ∧ ((f n = -23 ∨ f n = -24) → ¬ hNt f n)
def cnt : List Bool → Int
  | [] => 0
  | true :: s => cnt s + 1
  | false :: s => cnt s
theorem stk_same {f g : Int → Int} : ∀ n : Nat, (∀ j : Int, 0 ≤ j → j < n → f j = g j) → stk f n = stk g n ∧ hNt f n = hNt g n ∧ okp f n = okp g n := by
  intro n
  induction n with
  | zero => intro _; exact ⟨rfl, rfl, rfl⟩
  | succ n ih =>
    intro h
    obtain ⟨h1, h2, h3⟩ := ih (fun j a c => h j a (by omega))
    have e := h n (by omega) (by omega)
    refine ⟨?_, ?_, ?_⟩
    · simp only [stk, e, h1]
    · simp only [hNt, e, h2]
    · simp only [okp, e, h2, h3]
def CP (M : Mm) (st : List Bool) : Prop := stk (M 54) (M 52 5).toNat = st ∧ M 52 6 = (st.length : Int) ∧ okp (M 54) (M 52 5).toNat ∧ ∀ j : Int, 0 ≤ j → j < M 52 5 → (-24 ≤ M 54 j ∧ M 54 j ≤ -12) ∨ M 54 j = -27
theorem CP.same {m m1 : Mm} {st : List Bool} (h : CP m st) (f5 : m1 52 5 = m 52 5) (f6 : m1 52 6 = m 52 6) (f4 : ∀ p : Int, m1 54 p = m 54 p) : CP m1 st := by
  have e : m1 54 = m 54 := funext f4
  unfold CP
  rw [f5, f6, e]
  exact h
def bnd (x : Int) : Int := if x = -24 then 1 else if x = -23 then 2 else if x = -22 then 3 else if -21 ≤ x ∧ x ≤ -17 then 4 else if x = -16 ∨ x = -15 then 5 else if -14 ≤ x ∧ x ≤ -12 then 6 else 4
theorem zl_bnd {S : Sh} {m : Mm} {K : Int → Mm → Prop} {x : Int} (h : K (bnd x) m) : wp_X3_bindingOf S m x K := by
  have e : ∀ v : Int, bnd x = v → K v m := fun v z => by rw [← z]; exact h
  refine u_X3_bindingOf ?_
  refine g_if (fun w => g_C (e 1 (by unfold bnd; rw [if_pos w]))) (fun w1 => ?_)
  refine g_if (fun w => g_C (e 2 (by unfold bnd; rw [if_neg w1, if_pos w]))) (fun w2 => ?_)
  refine g_if (fun w => g_C (e 3 (by unfold bnd; rw [if_neg w1, if_neg w2, if_pos w]))) (fun w3 => ?_)
  refine g_if (fun w => g_C (e 4 (by unfold bnd; rw [if_neg w1, if_neg w2, if_neg w3, if_pos (by omega)]))) (fun w4 => ?_)
  refine g_if (fun w => g_C (e 4 (by unfold bnd; rw [if_neg w1, if_neg w2, if_neg w3, if_pos (by omega)]))) (fun w5 => ?_)
  refine g_if (fun w => g_C (e 4 (by unfold bnd; rw [if_neg w1, if_neg w2, if_neg w3, if_pos (by omega)]))) (fun w6 => ?_)
  refine g_if (fun w => g_C (e 4 (by unfold bnd; rw [if_neg w1, if_neg w2, if_neg w3, if_pos (by omega)]))) (fun w7 => ?_)
  refine g_if (fun w => g_C (e 4 (by unfold bnd; rw [if_neg w1, if_neg w2, if_neg w3, if_pos (by omega)]))) (fun w8 => ?_)
  have no : ¬ (-21 ≤ x ∧ x ≤ -17) := by omega
  refine g_if (fun w => g_C (e 5 (by unfold bnd; rw [if_neg w1, if_neg w2, if_neg w3, if_neg no, if_pos (by omega)]))) (fun w9 => ?_)
  refine g_if (fun w => g_C (e 5 (by unfold bnd; rw [if_neg w1, if_neg w2, if_neg w3, if_neg no, if_pos (by omega)]))) (fun w10 => ?_)
  have no2 : ¬ (x = -16 ∨ x = -15) := by omega
  refine g_if (fun w => g_C (e 6 (by unfold bnd; rw [if_neg w1, if_neg w2, if_neg w3, if_neg no, if_neg no2, if_pos (by omega)]))) (fun w11 => ?_)
  refine g_if (fun w => g_C (e 6 (by unfold bnd; rw [if_neg w1, if_neg w2, if_neg w3, if_neg no, if_neg no2, if_pos (by omega)]))) (fun w12 => ?_)
  refine g_if (fun w => g_C (e 6 (by unfold bnd; rw [if_neg w1, if_neg w2, if_neg w3, if_neg no, if_neg no2, if_pos (by omega)]))) (fun w13 => ?_)
  exact g_C (e 4 (by unfold bnd; rw [if_neg w1, if_neg w2, if_neg w3, if_neg no, if_neg no2, if_neg (by omega)]))
theorem ze_push {X : Mm} {S : Sh} {m0 : Mm} {K : Mm → Prop} {s : Int} (hS : Shp S) (hm0 : Inv X S m0) (hp : m0 52 5 ≤ 399) (hk : ∀ M1 : Mm, Inv X S M1 → (∀ c p : Int, ¬ (c = 52 ∧ p = 5) ∧ ¬ (c = 54 ∧ p = m0 52 5) → M1 c p = m0 c p) → M1 52 5 = m0 52 5 + 1 → M1 54 (m0 52 5) = s → K M1) : wp_X3_push S m0 52 s K := by
  have b5 := hm0.f_52_5
  refine u_X3_push ?_
  refine g_getu 5 rfl hS.k52 (fun v ev => ?_)
  refine g_C ?_
  refine g_ifF (by omega) ?_
  refine g_getr 4 54 rfl hS.k52 hm0.f_52_4 (by decide) ?_
  refine g_getu 5 rfl hS.k52 (fun v2 ev2 => ?_)
  refine g_st hS.k54 hS.l54 (by omega) (by omega) (hm0.wa_54 (by omega) (by omega)) (fun m1 e1 hm1 => ?_)
  have f1 : ∀ c p : Int, ¬ (c = 54 ∧ p = v2) → m1 c p = m0 c p := fun c p q => (congrFun (congrFun e1 _) _).trans (up_ne q)
  have y1 : m1 54 v2 = s := (congrFun (congrFun e1 _) _).trans (up_at _ _ _ _)
  refine g_getu 5 rfl hS.k52 (fun v3 ev3 => ?_)
  rw [f1 52 5 (by omega)] at ev3
  refine g_C ?_
  refine g_A (by omega) (by omega) ?_
  refine g_put 5 rfl hS.k52 (hm1.w_52_5 (by omega) (by omega)) (fun m2 e2 hm2 => ?_)
  have f2 : ∀ c p : Int, ¬ (c = 52 ∧ p = 5) → m2 c p = m1 c p := fun c p q => (congrFun (congrFun e2 _) _).trans (up_ne q)
  have y2 : m2 52 5 = v3 + 1 := (congrFun (congrFun e2 _) _).trans (up_at _ _ _ _)
  refine hk m2 hm2 (fun c p q => (f2 c p (by omega)).trans (f1 c p (by omega))) (by omega) ?_
  rw [f2 54 _ (by omega), ← ev2]
  exact y1
theorem ze_dropTop {X : Mm} {S : Sh} {m0 : Mm} {K : Mm → Prop} (hS : Shp S) (hm0 : Inv X S m0) (hp : 1 ≤ m0 52 5) (hd : 0 ≤ m0 52 6) (hd2 : m0 52 6 ≤ 400) (hk : ∀ M1 : Mm, Inv X S M1 → (∀ c p : Int, ¬ (c = 52 ∧ (p = 5 ∨ p = 6)) → M1 c p = m0 c p) → M1 52 5 = m0 52 5 - 1 → (((m0 54 (m0 52 5 - 1) = -27 ∨ m0 54 (m0 52 5 - 1) = -22) ∧ M1 52 6 = m0 52 6 - 1) ∨ (¬ (m0 54 (m0 52 5 - 1) = -27 ∨ m0 54 (m0 52 5 - 1) = -22) ∧ M1 52 6 = m0 52 6)) → K M1) : wp_X3_dropTop S m0 52 K := by
  have b5 := hm0.f_52_5
  refine u_X3_dropTop ?_
  refine g_getu 5 rfl hS.k52 (fun v ev => ?_)
  refine g_ifF (by omega) ?_
  refine g_getu 5 rfl hS.k52 (fun v2 ev2 => ?_)
  refine g_C ?_
  refine g_S (by omega) (by omega) ?_
  refine g_put 5 rfl hS.k52 (hm0.w_52_5 (by omega) (by omega)) (fun m1 e1 hm1 => ?_)
  have f1 : ∀ c p : Int, ¬ (c = 52 ∧ p = 5) → m1 c p = m0 c p := fun c p q => (congrFun (congrFun e1 _) _).trans (up_ne q)
  have y1 : m1 52 5 = v2 - 1 := (congrFun (congrFun e1 _) _).trans (up_at _ _ _ _)
  have go : (m0 54 (m0 52 5 - 1) = -27 ∨ m0 54 (m0 52 5 - 1) = -22) → wp_X3_dropTop_45 S K 52 m1 := by
    intro hh
    refine u_X3_dropTop_45 ?_
    refine g_getu 6 rfl hS.k52 (fun d ed => ?_)
    rw [f1 52 6 (by omega)] at ed
    refine g_C ?_
    refine g_S (by omega) (by omega) ?_
    refine g_put 6 rfl hS.k52 (hm1.w_52_6 (by omega) (by omega)) (fun m2 e2 hm2 => ?_)
    have f2 : ∀ c p : Int, ¬ (c = 52 ∧ p = 6) → m2 c p = m1 c p := fun c p q => (congrFun (congrFun e2 _) _).trans (up_ne q)
    have y2 : m2 52 6 = d - 1 := (congrFun (congrFun e2 _) _).trans (up_at _ _ _ _)
    exact hk m2 hm2 (fun c p q => (f2 c p (by omega)).trans (f1 c p (by omega))) (by rw [f2 52 5 (by omega)]; omega) (Or.inl ⟨hh, by omega⟩)
  refine g_getr 4 54 rfl hS.k52 hm1.f_52_4 (by decide) ?_
  refine g_getu 5 rfl hS.k52 (fun v3 ev3 => ?_)
  refine g_ldu hS.k54 hS.l54 (by omega) (by omega) (fun x ex => ?_)
  have ex2 : x = m0 54 (m0 52 5 - 1) := by
    rw [ex, f1 54 _ (by omega)]
    congr 1
    omega
  refine g_C ?_
  refine g_if (fun w => go (by omega)) (fun w => ?_)
  refine g_getr 4 54 rfl hS.k52 hm1.f_52_4 (by decide) ?_
  refine g_getu 5 rfl hS.k52 (fun v4 ev4 => ?_)
  refine g_ldu hS.k54 hS.l54 (by omega) (by omega) (fun y ey => ?_)
  have ey2 : y = m0 54 (m0 52 5 - 1) := by
    rw [ey, f1 54 _ (by omega)]
    congr 1
    omega
  refine g_C ?_
  refine g_if (fun w2 => ?_) (fun w2 => go (by omega))
  exact hk m1 hm1 (fun c p q => f1 c p (by omega)) (by omega) (Or.inr ⟨by omega, f1 52 6 (by omega)⟩)
