section
/-! what the signs say: a stack of numbers of 64 bits -/
def jo (x a b : Int) : Int := if x = -12 then w64 (a * b) else if x = -13 then (if b = 0 then 0 else lDiv a b) else if x = -14 then (if b = 0 then 0 else lRem a b) else if x = -15 then w64 (a + b) else if x = -16 then w64 (a - b) else if x = -17 then (if a < b then 1 else 0) else if x = -18 then (if a ≤ b then 1 else 0) else if x = -19 then (if a = b then 1 else 0) else if x = -20 then (if b ≤ a then 1 else 0) else if x = -21 then (if b < a then 1 else 0) else if x = -23 then lAnd a b else lOr a b
def ev1 (w : Int → Int) (L : List Int) (x : Int) : List Int := if -11 ≤ x then (if 0 ≤ x then x else w (-2 - x)) :: L else if x = -22 then (match L with | a :: L' => w64 (1 - a) :: L' | [] => []) else (match L with | b :: a :: L' => jo x a b :: L' | _ => [])
def evl (w : Int → Int) (L V : List Int) : List Int := V.foldl (ev1 w) L
/-- numbers of these types: tests are 0 or 1 -/
def Bt : List Int → List Bool → Prop
  | [], [] => True
  | a :: L, t :: D => (t = true → a = 0 ∨ a = 1) ∧ Bt L D
  | _, _ => False
theorem Bt.len : ∀ (L : List Int) (D : List Bool), Bt L D → L.length = D.length := by
  intro L
  induction L with
  | nil =>
    intro D h
    cases D with
    | nil => rfl
    | cons t D => exact h.elim
  | cons a L ih =>
    intro D h
    cases D with
    | nil => exact h.elim
    | cons t D => rw [List.length_cons, List.length_cons, ih D h.2]
theorem jo_cm {x a b : Int} (h : -21 ≤ x ∧ x ≤ -17) : jo x a b = 0 ∨ jo x a b = 1 := by
  rcases (show x = -17 ∨ x = -18 ∨ x = -19 ∨ x = -20 ∨ x = -21 by omega) with e | e | e | e | e <;> subst e
  · show (if a < b then (1 : Int) else 0) = 0 ∨ (if a < b then (1 : Int) else 0) = 1
    split <;> omega
  · show (if a ≤ b then (1 : Int) else 0) = 0 ∨ (if a ≤ b then (1 : Int) else 0) = 1
    split <;> omega
  · show (if a = b then (1 : Int) else 0) = 0 ∨ (if a = b then (1 : Int) else 0) = 1
    split <;> omega
  · show (if b ≤ a then (1 : Int) else 0) = 0 ∨ (if b ≤ a then (1 : Int) else 0) = 1
    split <;> omega
  · show (if b < a then (1 : Int) else 0) = 0 ∨ (if b < a then (1 : Int) else 0) = 1
    split <;> omega
theorem bit01 : (lAnd 0 0 = 0 ∧ lAnd 0 1 = 0 ∧ lAnd 1 0 = 0 ∧ lAnd 1 1 = 1) ∧ (lOr 0 0 = 0 ∧ lOr 0 1 = 1 ∧ lOr 1 0 = 1 ∧ lOr 1 1 = 1) ∧ w64 (1 - 0) = 1 ∧ w64 (1 - 1) = 0 := by decide +kernel
theorem jo_two {x a b : Int} (h : x = -23 ∨ x = -24) (ha : a = 0 ∨ a = 1) (hb : b = 0 ∨ b = 1) : jo x a b = 0 ∨ jo x a b = 1 := by
  obtain ⟨⟨a1, a2, a3, a4⟩, ⟨o1, o2, o3, o4⟩, _⟩ := bit01
  rcases h with e | e <;> subst e
  · show lAnd a b = 0 ∨ lAnd a b = 1
    rcases ha with e | e <;> rcases hb with e2 | e2 <;> subst e <;> subst e2
    · exact Or.inl a1
    · exact Or.inl a2
    · exact Or.inl a3
    · exact Or.inr a4
  · show lOr a b = 0 ∨ lOr a b = 1
    rcases ha with e | e <;> rcases hb with e2 | e2 <;> subst e <;> subst e2
    · exact Or.inl o1
    · exact Or.inr o2
    · exact Or.inr o3
    · exact Or.inr o4
theorem ev_val (w : Int → Int) (L : List Int) {x : Int} (h : -11 ≤ x) : ev1 w L x = (if 0 ≤ x then x else w (-2 - x)) :: L := if_pos h
theorem ev_not (w : Int → Int) (L : List Int) (a : Int) : ev1 w (a :: L) (-22) = w64 (1 - a) :: L := rfl
theorem ev_two (w : Int → Int) (L : List Int) {x a b : Int} (h : ¬ -11 ≤ x) (h2 : ¬ x = -22) : ev1 w (b :: a :: L) x = jo x a b :: L := (if_neg h).trans (if_neg h2)
theorem tyA_some : ∀ {D D' : List Bool}, tyA D = some D' → ∃ E : List Bool, D = false :: false :: E ∧ D' = false :: E := by
  intro D D' h
  have no : (none : Option (List Bool)) = some D' → False := fun z => by cases z
  cases D with
  | nil => exact (no h).elim
  | cons a D =>
    cases D with
    | nil => cases a <;> exact (no h).elim
    | cons b E =>
      cases a
      · cases b
        · exact ⟨E, rfl, (Option.some.inj (show some (false :: E) = some D' from h)).symm⟩
        · exact (no h).elim
      · exact (no h).elim
theorem tyC_some : ∀ {D D' : List Bool}, tyC D = some D' → ∃ E : List Bool, D = false :: false :: E ∧ D' = true :: E := by
  intro D D' h
  have no : (none : Option (List Bool)) = some D' → False := fun z => by cases z
  cases D with
  | nil => exact (no h).elim
  | cons a D =>
    cases D with
    | nil => cases a <;> exact (no h).elim
    | cons b E =>
      cases a
      · cases b
        · exact ⟨E, rfl, (Option.some.inj (show some (true :: E) = some D' from h)).symm⟩
        · exact (no h).elim
      · exact (no h).elim
theorem tyB_some : ∀ {D D' : List Bool}, tyB D = some D' → ∃ E : List Bool, D = true :: true :: E ∧ D' = true :: E := by
  intro D D' h
  have no : (none : Option (List Bool)) = some D' → False := fun z => by cases z
  cases D with
  | nil => exact (no h).elim
  | cons a D =>
    cases D with
    | nil => cases a <;> exact (no h).elim
    | cons b E =>
      cases a
      · exact (no h).elim
      · cases b
        · exact (no h).elim
        · exact ⟨E, rfl, (Option.some.inj (show some (true :: E) = some D' from h)).symm⟩
theorem tyN_some : ∀ {D D' : List Bool}, tyN D = some D' → ∃ E : List Bool, D = true :: E ∧ D' = true :: E := by
  intro D D' h
  have no : (none : Option (List Bool)) = some D' → False := fun z => by cases z
  cases D with
  | nil => exact (no h).elim
  | cons a E =>
    cases a
    · exact (no h).elim
    · exact ⟨E, rfl, (Option.some.inj (show some (true :: E) = some D' from h)).symm⟩
/-- how a sign that fits the types is met -/
theorem ty_cases {D D' : List Bool} {x : Int} (h : ty1 (some D) x = some D') : ((-11 ≤ x ∧ x ≤ 99999 ∧ ¬ x = -1) ∧ D' = false :: D) ∨ ((-16 ≤ x ∧ x ≤ -12) ∧ ∃ E : List Bool, D = false :: false :: E ∧ D' = false :: E) ∨ ((-21 ≤ x ∧ x ≤ -17) ∧ ∃ E : List Bool, D = false :: false :: E ∧ D' = true :: E) ∨ (x = -22 ∧ ∃ E : List Bool, D = true :: E ∧ D' = true :: E) ∨ ((x = -23 ∨ x = -24) ∧ ∃ E : List Bool, D = true :: true :: E ∧ D' = true :: E) := by
  have h' : tyD D x = some D' := h
  have no : (none : Option (List Bool)) = some D' → False := fun z => by cases z
  unfold tyD at h'
  by_cases e0 : 99999 < x ∨ x = -1
  · rw [if_pos e0] at h'
    exact (no h').elim
  rw [if_neg e0] at h'
  by_cases e1 : -11 ≤ x
  · rw [if_pos e1] at h'
    exact Or.inl ⟨by omega, (Option.some.inj h').symm⟩
  rw [if_neg e1] at h'
  right
  by_cases e2 : -16 ≤ x
  · rw [if_pos e2] at h'
    exact Or.inl ⟨by omega, tyA_some h'⟩
  rw [if_neg e2] at h'
  right
  by_cases e3 : -21 ≤ x
  · rw [if_pos e3] at h'
    exact Or.inl ⟨by omega, tyC_some h'⟩
  rw [if_neg e3] at h'
  right
  by_cases e4 : x = -22
  · rw [if_pos e4] at h'
    exact Or.inl ⟨e4, tyN_some h'⟩
  rw [if_neg e4] at h'
  right
  by_cases e5 : -24 ≤ x
  · rw [if_pos e5] at h'
    exact ⟨by omega, tyB_some h'⟩
  rw [if_neg e5] at h'
  exact (no h').elim
theorem Bt.two {L : List Int} {s t : Bool} {E : List Bool} (h : Bt L (s :: t :: E)) : ∃ (b a : Int) (K : List Int), L = b :: a :: K ∧ (s = true → b = 0 ∨ b = 1) ∧ (t = true → a = 0 ∨ a = 1) ∧ Bt K E := by
  cases L with
  | nil => exact h.elim
  | cons b L =>
    cases L with
    | nil => exact h.2.elim
    | cons a L => exact ⟨b, a, L, rfl, h.1, h.2.1, h.2.2⟩
theorem Bt.one {L : List Int} {s : Bool} {E : List Bool} (h : Bt L (s :: E)) : ∃ (a : Int) (K : List Int), L = a :: K ∧ (s = true → a = 0 ∨ a = 1) ∧ Bt K E := by
  cases L with
  | nil => exact h.elim
  | cons b L => exact ⟨b, L, rfl, h.1, h.2⟩
theorem ev1_ty {w : Int → Int} {D D' : List Bool} {x : Int} {L : List Int} (h : ty1 (some D) x = some D') (hb : Bt L D) : Bt (ev1 w L x) D' ∧ ∀ B : List Int, ev1 w (L ++ B) x = ev1 w L x ++ B := by
  rcases ty_cases h with ⟨e, e2⟩ | ⟨e, E, e1, e2⟩ | ⟨e, E, e1, e2⟩ | ⟨e, E, e1, e2⟩ | ⟨e, E, e1, e2⟩
  · subst e2
    rw [ev_val w L e.1]
    refine ⟨⟨fun z => absurd z (by decide), hb⟩, fun B => ?_⟩
    rw [ev_val w _ e.1]
    rfl
  · subst e1 e2
    obtain ⟨b, a, K, rfl, _, _, hK⟩ := hb.two
    rw [ev_two w K (by omega) (by omega)]
    refine ⟨⟨fun z => absurd z (by decide), hK⟩, fun B => ?_⟩
    show ev1 w (b :: a :: (K ++ B)) x = _
    rw [ev_two w _ (by omega) (by omega)]
    rfl
  · subst e1 e2
    obtain ⟨b, a, K, rfl, _, _, hK⟩ := hb.two
    rw [ev_two w K (by omega) (by omega)]
    refine ⟨⟨fun _ => jo_cm e, hK⟩, fun B => ?_⟩
    show ev1 w (b :: a :: (K ++ B)) x = _
    rw [ev_two w _ (by omega) (by omega)]
    rfl
  · subst e1 e2 e
    obtain ⟨a, K, rfl, ha, hK⟩ := hb.one
    rw [ev_not w K a]
    obtain ⟨_, _, n1, n2⟩ := bit01
    refine ⟨⟨fun _ => ?_, hK⟩, fun B => ?_⟩
    · rcases ha rfl with z | z <;> subst z
      · exact Or.inr n1
      · exact Or.inl n2
    · show ev1 w (a :: (K ++ B)) (-22) = _
      rw [ev_not w _ a]
      rfl
  · subst e1 e2
    obtain ⟨b, a, K, rfl, hb1, ha1, hK⟩ := hb.two
    rw [ev_two w K (by omega) (by omega)]
    refine ⟨⟨fun _ => jo_two e (ha1 rfl) (hb1 rfl), hK⟩, fun B => ?_⟩
    show ev1 w (b :: a :: (K ++ B)) x = _
    rw [ev_two w _ (by omega) (by omega)]
    rfl
theorem ty_none : ∀ V : List Int, V.foldl ty1 none = none := by
  intro V
  induction V with
  | nil => rfl
  | cons x V ih => exact ih
/-- a row of signs that fits: its first fits, and the rest -/
theorem ty_split {x : Int} {V : List Int} {D D' : List Bool} (h : (x :: V).foldl ty1 (some D) = some D') : ∃ E : List Bool, ty1 (some D) x = some E ∧ V.foldl ty1 (some E) = some D' := by
  have h2 : V.foldl ty1 (ty1 (some D) x) = some D' := h
  cases e : ty1 (some D) x with
  | none =>
    rw [e, ty_none] at h2
    cases h2
  | some E =>
    rw [e] at h2
    exact ⟨E, rfl, h2⟩
theorem evl_ty {w : Int → Int} : ∀ (V : List Int) (L : List Int) (D D' : List Bool), V.foldl ty1 (some D) = some D' → Bt L D → Bt (evl w L V) D' ∧ ∀ B : List Int, evl w (L ++ B) V = evl w L V ++ B := by
  intro V
  induction V with
  | nil =>
    intro L D D' h hb
    have h2 : some D = some D' := h
    injection h2 with h2
    subst h2
    exact ⟨hb, fun _ => rfl⟩
  | cons x V ih =>
    intro L D D' h hb
    obtain ⟨E, h1, h2⟩ := ty_split h
    obtain ⟨b1, b2⟩ := ev1_ty (w := w) h1 hb
    obtain ⟨c1, c2⟩ := ih _ E D' h2 b1
    refine ⟨c1, fun B => ?_⟩
    show evl w (ev1 w (L ++ B) x) V = evl w (ev1 w L x) V ++ B
    rw [b2 B]
    exact c2 B
def nvs : List Int → Nat
  | [] => 0
  | x :: V => (if -11 ≤ x then 1 else 0) + nvs V
theorem nvs_app : ∀ A B : List Int, nvs (A ++ B) = nvs A + nvs B := by
  intro A B
  induction A with
  | nil => exact (Nat.zero_add _).symm
  | cons x A ih =>
    show (if -11 ≤ x then 1 else 0) + nvs (A ++ B) = (if -11 ≤ x then 1 else 0) + nvs A + nvs B
    rw [ih, Nat.add_assoc]
/-- a row's places from i on hold these -/
def Hs (f : Int → Int) : Int → List Int → Prop
  | _, [] => True
  | i, x :: V => f i = x ∧ Hs f (i + 1) V
theorem Hs.app {f : Int → Int} : ∀ (A B : List Int) (i : Int), Hs f i (A ++ B) → Hs f i A ∧ Hs f (i + (A.length : Int)) B := by
  intro A
  induction A with
  | nil =>
    intro B i h
    refine ⟨trivial, ?_⟩
    show Hs f (i + ((0 : Nat) : Int)) B
    rw [show i + ((0 : Nat) : Int) = i by omega]
    exact h
  | cons x A ih =>
    intro B i h
    obtain ⟨h1, h2⟩ := ih B (i + 1) h.2
    refine ⟨⟨h.1, h1⟩, ?_⟩
    rw [List.length_cons, show i + ((A.length + 1 : Nat) : Int) = i + 1 + (A.length : Int) by omega]
    exact h2
theorem pl_len {f : Int → Int} : ∀ n : Nat, (pl f n).length = n := by
  intro n
  induction n with
  | zero => rfl
  | succ n ih =>
    show (f (n : Int) :: pl f n).length = n + 1
    rw [List.length_cons, ih]
/-- a stack in memory, up to top -/
theorem pl_top {f : Int → Int} {t : Int} {a : Int} {L : List Int} (h0 : -1 ≤ t) (h : pl f (t + 1).toNat = a :: L) : 0 ≤ t ∧ f t = a ∧ pl f (t - 1 + 1).toNat = L := by
  have t0 : 0 ≤ t := by
    by_cases e : t = -1
    · rw [e] at h
      cases h
    · omega
  rw [show (t + 1).toNat = t.toNat + 1 by omega] at h
  have h2 : f ((t.toNat : Nat) : Int) :: pl f t.toNat = a :: L := h
  rw [show ((t.toNat : Nat) : Int) = t by omega] at h2
  injection h2 with e1 e2
  exact ⟨t0, e1, by rw [show (t - 1 + 1).toNat = t.toNat by omega]; exact e2⟩
theorem pl_push {f g : Int → Int} {t a : Int} {L : List Int} (h0 : -1 ≤ t) (h : pl f (t + 1).toNat = L) (e : ∀ j : Int, 0 ≤ j → j ≤ t → g j = f j) (ea : g (t + 1) = a) : pl g (t + 1 + 1).toNat = a :: L := by
  rw [show (t + 1 + 1).toNat = (t + 1).toNat + 1 by omega]
  show g (((t + 1).toNat : Nat) : Int) :: pl g (t + 1).toNat = a :: L
  rw [show (((t + 1).toNat : Nat) : Int) = t + 1 by omega, ea, pl_same (g := f) _ (fun j j0 j1 => e j j0 (by omega)), h]
theorem g_ldrowE {S : Sh} {M : Mm} {x i : Int} {K : Int → Prop} (hr : rowv S x) (h0 : 0 ≤ i) (h1 : i < rlen S x) (h : ∀ v : Int, v = M x i → K v) : wLd S M x 14 i K := by
  rcases hr with q | q
  · rw [rlen, if_pos q] at h1
    omega
  · have e : rlen S x = S.2.2 x := by
      rw [rlen, if_neg]
      have := q.1.1
      omega
    exact ⟨q.1, ⟨h0, by omega⟩, h _ rfl⟩
/-- the class's WORDS -/
def wdC (M : Mm) (j : Int) : Int := if j = 0 then M 55 4 else if j = 1 then M 7 (M 55 4) else if j = 2 then M 55 7 else if j = 3 then M 55 5 else if j = 4 then M 55 6 else if j = 5 then M 55 9 else if j = 6 then M 55 8 else if j = 7 then M 55 10 else if j = 8 then M 55 11 else if M 55 6 < M 4 2 then 0 else 1
theorem zg_valueOf {X : Mm} {S : Sh} {m0 : Mm} {K : Int → Mm → Prop} {x : Int} (hS : Shp S) (hm0 : Inv X S m0) (h1 : -11 ≤ x) (h2 : x ≤ -1) (hk : K (wdC m0 (-2 - x)) m0) : wp_X10_valueOf S m0 55 x K := by
  have b4 := hm0.f_55_4
  have go : ∀ v : Int, v = wdC m0 (-2 - x) → K v m0 := fun v e => by rw [e]; exact hk
  unfold wdC at go
  refine u_X10_valueOf ?_
  refine g_C ?_
  refine g_S (by omega) (by omega) ?_
  refine g_if (fun w0 => ?_) (fun w0 => ?_)
  · rw [if_pos w0] at go
    exact g_getu 4 rfl hS.k55 (fun v ev => g_C (go v ev))
  rw [if_neg w0] at go
  refine g_if (fun w1 => ?_) (fun w1 => ?_)
  · rw [if_pos w1] at go
    refine g_getr 0 4 rfl hS.k55 hm0.f_55_0 (by decide) ?_
    refine g_getr 10 7 rfl hS.k4 hm0.f_4_10 (by decide) ?_
    refine g_getu 4 rfl hS.k55 (fun v ev => ?_)
    exact g_ldu hS.k7 hS.l7 (by omega) (by omega) (fun u eu => g_C (go u (by rw [eu, ev])))
  rw [if_neg w1] at go
  refine g_if (fun w2 => ?_) (fun w2 => ?_)
  · rw [if_pos w2] at go
    exact g_getu 7 rfl hS.k55 (fun v ev => g_C (go v ev))
  rw [if_neg w2] at go
  refine g_if (fun w3 => ?_) (fun w3 => ?_)
  · rw [if_pos w3] at go
    exact g_getu 5 rfl hS.k55 (fun v ev => g_C (go v ev))
  rw [if_neg w3] at go
  refine g_if (fun w4 => ?_) (fun w4 => ?_)
  · rw [if_pos w4] at go
    exact g_getu 6 rfl hS.k55 (fun v ev => g_C (go v ev))
  rw [if_neg w4] at go
  refine g_if (fun w5 => ?_) (fun w5 => ?_)
  · rw [if_pos w5] at go
    exact g_getu 9 rfl hS.k55 (fun v ev => g_C (go v ev))
  rw [if_neg w5] at go
  refine g_if (fun w6 => ?_) (fun w6 => ?_)
  · rw [if_pos w6] at go
    exact g_getu 8 rfl hS.k55 (fun v ev => g_C (go v ev))
  rw [if_neg w6] at go
  refine g_if (fun w7 => ?_) (fun w7 => ?_)
  · rw [if_pos w7] at go
    exact g_getu 10 rfl hS.k55 (fun v ev => g_C (go v ev))
  rw [if_neg w7] at go
  refine g_if (fun w8 => ?_) (fun w8 => ?_)
  · rw [if_pos w8] at go
    exact g_getu 11 rfl hS.k55 (fun v ev => g_C (go v ev))
  rw [if_neg w8] at go
  refine g_getu 6 rfl hS.k55 (fun v ev => ?_)
  refine g_getr 0 4 rfl hS.k55 hm0.f_55_0 (by decide) ?_
  refine g_getu 2 rfl hS.k4 (fun u eu => ?_)
  rw [ev, eu]
  exact g_if (fun w9 => g_C (go 0 (by rw [if_pos w9]))) (fun w9 => g_C (go 1 (by rw [if_neg w9])))
theorem g_divE {f : Int → Int → Int} {a b : Int} {K : Int → Prop} (hb : ¬ b = 0) (h : K (f a b)) : wD f a b K := ⟨hb, h⟩
theorem zg_joined {S : Sh} {m0 : Mm} {K : Int → Mm → Prop} {x a b : Int} (hx : -24 ≤ x ∧ x ≤ -12) (hn : ¬ x = -22) (hk : K (jo x a b) m0) : wp_X10_joined S m0 x a b K := by
  have go : ∀ v : Int, v = jo x a b → K v m0 := fun v e => by rw [e]; exact hk
  clear hk
  refine u_X10_joined ?_
  refine g_if (fun w => ?_) (fun w1 => ?_)
  · subst w
    exact go _ rfl
  refine g_ifF hn ?_
  refine g_if (fun w => ?_) (fun w2 => ?_)
  · subst w
    have go2 : ∀ v : Int, v = (if b < a then 1 else 0) → K v m0 := go
    refine g_cmp (fun z => ?_) (fun z => ?_) (fun z => ?_)
    · exact g_ifT (by decide) (g_C (go2 0 (by rw [if_neg (by omega)])))
    · exact g_ifT (by decide) (g_C (go2 0 (by rw [if_neg (by omega)])))
    · exact g_ifF (by decide) (g_C (go2 1 (by rw [if_pos (by omega)])))
  refine g_if (fun w => ?_) (fun w3 => ?_)
  · subst w
    have go2 : ∀ v : Int, v = (if b ≤ a then 1 else 0) → K v m0 := go
    refine g_cmp (fun z => ?_) (fun z => ?_) (fun z => ?_)
    · exact g_ifT (by decide) (g_C (go2 0 (by rw [if_neg (by omega)])))
    · exact g_ifF (by decide) (g_C (go2 1 (by rw [if_pos (by omega)])))
    · exact g_ifF (by decide) (g_C (go2 1 (by rw [if_pos (by omega)])))
  refine g_if (fun w => ?_) (fun w4 => ?_)
  · subst w
    have go2 : ∀ v : Int, v = (if a = b then 1 else 0) → K v m0 := go
    refine g_cmp (fun z => ?_) (fun z => ?_) (fun z => ?_)
    · exact g_ifT (by decide) (g_C (go2 0 (by rw [if_neg (by omega)])))
    · exact g_ifF (by decide) (g_C (go2 1 (by rw [if_pos (by omega)])))
    · exact g_ifT (by decide) (g_C (go2 0 (by rw [if_neg (by omega)])))
  refine g_if (fun w => ?_) (fun w5 => ?_)
  · subst w
    have go2 : ∀ v : Int, v = (if a ≤ b then 1 else 0) → K v m0 := go
    refine g_cmp (fun z => ?_) (fun z => ?_) (fun z => ?_)
    · exact g_ifF (by decide) (g_C (go2 1 (by rw [if_pos (by omega)])))
    · exact g_ifF (by decide) (g_C (go2 1 (by rw [if_pos (by omega)])))
    · exact g_ifT (by decide) (g_C (go2 0 (by rw [if_neg (by omega)])))
  refine g_if (fun w => ?_) (fun w6 => ?_)
  · subst w
    have go2 : ∀ v : Int, v = (if a < b then 1 else 0) → K v m0 := go
    refine g_cmp (fun z => ?_) (fun z => ?_) (fun z => ?_)
    · exact g_ifF (by decide) (g_C (go2 1 (by rw [if_pos (by omega)])))
    · exact g_ifT (by decide) (g_C (go2 0 (by rw [if_neg (by omega)])))
    · exact g_ifT (by decide) (g_C (go2 0 (by rw [if_neg (by omega)])))
  refine g_if (fun w => ?_) (fun w7 => ?_)
  · subst w
    exact go _ rfl
  refine g_if (fun w => ?_) (fun w8 => ?_)
  · subst w
    exact go _ rfl
  refine g_if (fun w => ?_) (fun w9 => ?_)
  · subst w
    have go2 : ∀ v : Int, v = (if b = 0 then 0 else lRem a b) → K v m0 := go
    refine g_C ?_
    refine g_cmp (fun z => ?_) (fun z => ?_) (fun z => ?_)
    · exact g_ifT (by decide) (g_divE (by omega) (go2 _ (by rw [if_neg (by omega)])))
    · exact g_ifF (by decide) (g_C (go2 0 (by rw [if_pos z])))
    · exact g_ifT (by decide) (g_divE (by omega) (go2 _ (by rw [if_neg (by omega)])))
  refine g_if (fun w => ?_) (fun w10 => ?_)
  · subst w
    have go2 : ∀ v : Int, v = (if b = 0 then 0 else lDiv a b) → K v m0 := go
    refine g_C ?_
    refine g_cmp (fun z => ?_) (fun z => ?_) (fun z => ?_)
    · exact g_ifT (by decide) (g_divE (by omega) (go2 _ (by rw [if_neg (by omega)])))
    · exact g_ifF (by decide) (g_C (go2 0 (by rw [if_pos z])))
    · exact g_ifT (by decide) (g_divE (by omega) (go2 _ (by rw [if_neg (by omega)])))
  refine g_if (fun w => ?_) (fun w11 => ?_)
  · subst w
    exact go _ rfl
  obtain rfl : x = -24 := (by omega)
  exact go _ rfl
end
section
/-! the class reckons what the signs say -/
theorem zg_run {X : Mm} {S : Sh} {m0 : Mm} {K : Int → Mm → Prop} {row : Int} (hS : Shp S) (hrow : m0 55 1 = row) (hr : rowv S row) : ∀ (V : List Int) (n : Nat) (top i : Int) (m : Mm) (L B : List Int) (D D' : List Bool), Inv X S m → (∀ c p : Int, ¬ c = 56 → m c p = m0 c p) → Hs (m0 row) i V → i + (V.length : Int) ≤ rlen S row → 0 ≤ i → V.foldl ty1 (some D) = some D' → Bt L D → pl (m 56) (top + 1).toNat = L ++ B → -1 ≤ top → L.length + B.length + nvs V ≤ 64 → (∀ (top' : Int) (m' : Mm), Inv X S m' → (∀ c p : Int, ¬ c = 56 → m' c p = m0 c p) → pl (m' 56) (top' + 1).toNat = evl (wdC m0) L V ++ B → -1 ≤ top' → wp_X10_sumByRule_4 S K n 55 top' (i + (V.length : Int)) m') → wp_X10_sumByRule_4 S K (V.length + n) 55 top i m := by
  intro V
  induction V with
  | nil =>
    intro n top i m L B D D' hm F _ _ _ _ _ hp ht _ hc
    have q := hc top m hm F hp ht
    have q2 : wp_X10_sumByRule_4 S K n 55 top (i + ((0 : Nat) : Int)) m := q
    rw [show i + ((0 : Nat) : Int) = i by omega] at q2
    show wp_X10_sumByRule_4 S K (0 + n) 55 top i m
    rw [Nat.zero_add]
    exact q2
  | cons x V ih =>
    intro n top i m L B D D' hm F hV hl hi hty hb hp ht hn hc
    obtain ⟨E, t1, t2⟩ := ty_split hty
    obtain ⟨b1, b2⟩ := ev1_ty (w := wdC m0) t1 hb
    have r1 : m 55 1 = row := (F 55 1 (by decide)).trans hrow
    have rl1 : ((x :: V).length : Int) = (V.length : Int) + 1 := by rw [List.length_cons]; omega
    rw [rl1] at hl
    have hlen := congrArg List.length hp
    rw [pl_len, List.length_append] at hlen
    have nx : nvs (x :: V) = (if -11 ≤ x then 1 else 0) + nvs V := rfl
    have ex : ∀ v : Int, v = m row i → v = x := fun v ev => by
      rw [ev, show m row i = m0 row i from F row i (by rcases hr with z | z <;> omega)]
      exact hV.1
    have fuel : (x :: V).length + n = (V.length + n) + 1 := by rw [List.length_cons]; omega
    rw [fuel]
    -- the rest, from a memory with the stack one sign further
    have go : ∀ (top' : Int) (m' : Mm), Inv X S m' → (∀ c p : Int, ¬ c = 56 → m' c p = m0 c p) → pl (m' 56) (top' + 1).toNat = ev1 (wdC m0) L x ++ B → -1 ≤ top' → (ev1 (wdC m0) L x).length + B.length + nvs V ≤ 64 → wp_X10_sumByRule_4 S K (V.length + n) 55 top' (i + 1) m' := by
      intro top' m' hm' F' hp' ht' hn'
      refine ih n top' (i + 1) m' (ev1 (wdC m0) L x) B E D' hm' F' hV.2 (by omega) (by omega) t2 b1 hp' ht' hn' (fun top2 m2 hm2 F2 hp2 ht2 => ?_)
      have q := hc top2 m2 hm2 F2 hp2 ht2
      rw [rl1, show i + ((V.length : Int) + 1) = i + 1 + (V.length : Int) by omega] at q
      exact q
    refine u_X10_sumByRule_4 ?_
    refine g_getrow 1 rfl hS.k55 hm.row55 (fun v1 e1 hr1 => ?_)
    have q1 : v1 = row := e1.trans r1
    subst q1
    refine g_lenrow hr1 (fun v2 e2 b2' c2' => ?_)
    refine g_ifF (by omega) ?_
    refine g_getrow 1 rfl hS.k55 hm.row55 (fun v3 e3 hr3 => ?_)
    have q3 : v3 = v1 := e3.trans r1
    subst q3
    refine g_ldrowE hr3 (by omega) (by omega) (fun v4 e4 => ?_)
    have q4 := ex v4 e4
    subst q4
    refine g_C ?_
    rcases ty_cases t1 with ⟨e, _⟩ | ⟨e, E', e1', _⟩ | ⟨e, E', e1', _⟩ | ⟨e, E', e1', _⟩ | ⟨e, E', e1', _⟩
    · -- a value
      rw [if_pos e.1] at nx
      rw [ev_val _ _ e.1, List.length_cons] at go
      refine g_ifF (by omega) ?_
      refine g_C ?_
      refine g_A (by omega) (by omega) ?_
      refine g_C ?_
      refine g_ifT (by omega) ?_
      refine g_A (by omega) (by omega) ?_
      refine g_getr 3 56 rfl hS.k55 hm.f_55_3 (by decide) ?_
      have put : ∀ v : Int, v = (if 0 ≤ v4 then v4 else wdC m0 (-2 - v4)) → wp_X10_sumByRule_58 S (fun a0 a1 a2 M => wp_X10_sumByRule_4 S K (V.length + n) a0 a1 a2 M) K 55 (top + 1) i 56 (top + 1) v m := by
        intro v ev
        refine u_X10_sumByRule_58 ?_
        refine g_st hS.k56 hS.l56 (by omega) (by omega) (hm.wa_56 (by omega) (by omega)) (fun m2 em2 hm2 => ?_)
        have f2 : ∀ c p : Int, ¬ (c = 56 ∧ p = top + 1) → m2 c p = m c p := fun c p q => (congrFun (congrFun em2 _) _).trans (up_ne q)
        have x2 : m2 56 (top + 1) = v := (congrFun (congrFun em2 _) _).trans (up_at _ _ _ _)
        refine u_X10_sumByRule_170 ?_
        refine g_A (by omega) (by omega) ?_
        refine go (top + 1) m2 hm2 (fun c p q => (f2 c p (by omega)).trans (F c p q)) ?_ (by omega) (by omega)
        rw [← ev]
        exact pl_push ht hp (fun j j0 j1 => f2 56 j (by omega)) x2
      refine g_if (fun w => ?_) (fun w => ?_)
      · refine ⟨hS.k55, ?_⟩
        refine zg_valueOf hS hm e.1 (by omega) ?_
        refine put _ ?_
        rw [if_neg (by omega)]
        unfold wdC
        rw [F 55 4 (by decide), F 7 _ (by decide), F 55 7 (by decide), F 55 5 (by decide), F 55 6 (by decide), F 55 9 (by decide), F 55 8 (by decide), F 55 10 (by decide), F 55 11 (by decide), F 4 2 (by decide)]
      · refine g_C ?_
        exact put v4 (by rw [if_pos (by omega)])
    · -- * / % + -
      rw [if_neg (by omega)] at nx
      subst e1'
      obtain ⟨bb, aa, L', rfl, _, _, _⟩ := hb.two
      rw [ev_two _ _ (by omega) (by omega), List.length_cons] at go
      rw [List.length_cons, List.length_cons] at hn hlen
      obtain ⟨p0, p1, p2⟩ := pl_top (L := aa :: (L' ++ B)) ht hp
      obtain ⟨p3, p4, p5⟩ := pl_top (by omega) p2
      refine g_ifT (by omega) ?_
      refine g_ifT (by omega) ?_
      refine g_C ?_
      refine g_ifT (by omega) ?_
      refine g_C ?_
      refine g_ifT (by omega) ?_
      refine g_C ?_
      refine g_ifT (by omega) ?_
      refine g_C ?_
      refine g_ifT (by omega) ?_
      refine g_A (by omega) (by omega) ?_
      refine g_getr 3 56 rfl hS.k55 hm.f_55_3 (by decide) ?_
      refine g_getr 3 56 rfl hS.k55 hm.f_55_3 (by decide) ?_
      refine g_ldu hS.k56 hS.l56 (by omega) (by omega) (fun va ea => ?_)
      refine g_getr 3 56 rfl hS.k55 hm.f_55_3 (by decide) ?_
      refine g_C ?_
      refine g_A (by omega) (by omega) ?_
      refine g_ldu hS.k56 hS.l56 (by omega) (by omega) (fun vb eb => ?_)
      have ea2 : va = aa := by rw [ea, show top + -1 = top - 1 by omega]; exact p4
      have eb2 : vb = bb := by rw [eb, show top + -1 + 1 = top by omega]; exact p1
      subst ea2 eb2
      refine zg_joined (by omega) (by omega) ?_
      refine g_st hS.k56 hS.l56 (by omega) (by omega) (hm.wa_56 (by omega) (by omega)) (fun m2 em2 hm2 => ?_)
      have f2 : ∀ c p : Int, ¬ (c = 56 ∧ p = top + -1) → m2 c p = m c p := fun c p q => (congrFun (congrFun em2 _) _).trans (up_ne q)
      have x2 : m2 56 (top + -1) = jo v4 va vb := (congrFun (congrFun em2 _) _).trans (up_at _ _ _ _)
      refine u_X10_sumByRule_170 ?_
      refine g_A (by omega) (by omega) ?_
      refine go (top + -1) m2 hm2 (fun c p q => (f2 c p (by omega)).trans (F c p q)) ?_ (by omega) (by omega)
      have q := pl_push (g := m2 56) (t := top - 1 - 1) (a := jo v4 va vb) (by omega) p5 (fun j j0 j1 => f2 56 j (by omega)) (by rw [show top - 1 - 1 + 1 = top + -1 by omega]; exact x2)
      rw [show top - 1 - 1 + 1 + 1 = top + -1 + 1 by omega] at q
      exact q
    · -- a comparison
      rw [if_neg (by omega)] at nx
      subst e1'
      obtain ⟨bb, aa, L', rfl, _, _, _⟩ := hb.two
      rw [ev_two _ _ (by omega) (by omega), List.length_cons] at go
      rw [List.length_cons, List.length_cons] at hn hlen
      obtain ⟨p0, p1, p2⟩ := pl_top (L := aa :: (L' ++ B)) ht hp
      obtain ⟨p3, p4, p5⟩ := pl_top (by omega) p2
      refine g_ifT (by omega) ?_
      refine g_ifT (by omega) ?_
      refine g_C ?_
      refine g_ifT (by omega) ?_
      refine g_C ?_
      refine g_ifT (by omega) ?_
      refine g_C ?_
      refine g_ifT (by omega) ?_
      refine g_C ?_
      refine g_ifT (by omega) ?_
      refine g_A (by omega) (by omega) ?_
      refine g_getr 3 56 rfl hS.k55 hm.f_55_3 (by decide) ?_
      refine g_getr 3 56 rfl hS.k55 hm.f_55_3 (by decide) ?_
      refine g_ldu hS.k56 hS.l56 (by omega) (by omega) (fun va ea => ?_)
      refine g_getr 3 56 rfl hS.k55 hm.f_55_3 (by decide) ?_
      refine g_C ?_
      refine g_A (by omega) (by omega) ?_
      refine g_ldu hS.k56 hS.l56 (by omega) (by omega) (fun vb eb => ?_)
      have ea2 : va = aa := by rw [ea, show top + -1 = top - 1 by omega]; exact p4
      have eb2 : vb = bb := by rw [eb, show top + -1 + 1 = top by omega]; exact p1
      subst ea2 eb2
      refine zg_joined (by omega) (by omega) ?_
      refine g_st hS.k56 hS.l56 (by omega) (by omega) (hm.wa_56 (by omega) (by omega)) (fun m2 em2 hm2 => ?_)
      have f2 : ∀ c p : Int, ¬ (c = 56 ∧ p = top + -1) → m2 c p = m c p := fun c p q => (congrFun (congrFun em2 _) _).trans (up_ne q)
      have x2 : m2 56 (top + -1) = jo v4 va vb := (congrFun (congrFun em2 _) _).trans (up_at _ _ _ _)
      refine u_X10_sumByRule_170 ?_
      refine g_A (by omega) (by omega) ?_
      refine go (top + -1) m2 hm2 (fun c p q => (f2 c p (by omega)).trans (F c p q)) ?_ (by omega) (by omega)
      have q := pl_push (g := m2 56) (t := top - 1 - 1) (a := jo v4 va vb) (by omega) p5 (fun j j0 j1 => f2 56 j (by omega)) (by rw [show top - 1 - 1 + 1 = top + -1 by omega]; exact x2)
      rw [show top - 1 - 1 + 1 + 1 = top + -1 + 1 by omega] at q
      exact q
    · -- not
      rw [if_neg (by omega)] at nx
      subst e1'
      obtain ⟨aa, L', rfl, _, _⟩ := hb.one
      rw [e, ev_not, List.length_cons] at go
      rw [List.length_cons] at hn hlen
      obtain ⟨p0, p1, p2⟩ := pl_top (L := L' ++ B) ht hp
      refine g_ifT (by omega) ?_
      refine g_ifT (by omega) ?_
      refine g_C ?_
      refine g_ifT (by omega) ?_
      refine g_C ?_
      refine g_ifF (by omega) ?_
      refine g_getr 3 56 rfl hS.k55 hm.f_55_3 (by decide) ?_
      refine g_C ?_
      refine g_getr 3 56 rfl hS.k55 hm.f_55_3 (by decide) ?_
      refine g_ldu hS.k56 hS.l56 (by omega) (by omega) (fun va ea => ?_)
      have ea2 : va = aa := ea.trans p1
      subst ea2
      show wSt S m 56 16 top (w64 (1 - va)) _
      refine g_st hS.k56 hS.l56 (by omega) (by omega) (hm.wa_56 (by omega) (by omega)) (fun m2 em2 hm2 => ?_)
      have f2 : ∀ c p : Int, ¬ (c = 56 ∧ p = top) → m2 c p = m c p := fun c p q => (congrFun (congrFun em2 _) _).trans (up_ne q)
      have x2 : m2 56 top = w64 (1 - va) := (congrFun (congrFun em2 _) _).trans (up_at _ _ _ _)
      refine u_X10_sumByRule_170 ?_
      refine g_A (by omega) (by omega) ?_
      refine go top m2 hm2 (fun c p q => (f2 c p (by omega)).trans (F c p q)) ?_ (by omega) (by omega)
      have q := pl_push (g := m2 56) (t := top - 1) (a := w64 (1 - va)) (by omega) p2 (fun j j0 j1 => f2 56 j (by omega)) (by rw [show top - 1 + 1 = top by omega]; exact x2)
      rw [show top - 1 + 1 + 1 = top + 1 by omega] at q
      exact q
    · -- and, or
      rw [if_neg (by omega)] at nx
      subst e1'
      obtain ⟨bb, aa, L', rfl, _, _, _⟩ := hb.two
      rw [ev_two _ _ (by omega) (by omega), List.length_cons] at go
      rw [List.length_cons, List.length_cons] at hn hlen
      obtain ⟨p0, p1, p2⟩ := pl_top (L := aa :: (L' ++ B)) ht hp
      obtain ⟨p3, p4, p5⟩ := pl_top (by omega) p2
      refine g_ifT (by omega) ?_
      refine g_ifT (by omega) ?_
      refine g_C ?_
      refine g_ifT (by omega) ?_
      refine g_C ?_
      refine g_ifT (by omega) ?_
      refine g_C ?_
      refine g_ifT (by omega) ?_
      refine g_C ?_
      refine g_ifT (by omega) ?_
      refine g_A (by omega) (by omega) ?_
      refine g_getr 3 56 rfl hS.k55 hm.f_55_3 (by decide) ?_
      refine g_getr 3 56 rfl hS.k55 hm.f_55_3 (by decide) ?_
      refine g_ldu hS.k56 hS.l56 (by omega) (by omega) (fun va ea => ?_)
      refine g_getr 3 56 rfl hS.k55 hm.f_55_3 (by decide) ?_
      refine g_C ?_
      refine g_A (by omega) (by omega) ?_
      refine g_ldu hS.k56 hS.l56 (by omega) (by omega) (fun vb eb => ?_)
      have ea2 : va = aa := by rw [ea, show top + -1 = top - 1 by omega]; exact p4
      have eb2 : vb = bb := by rw [eb, show top + -1 + 1 = top by omega]; exact p1
      subst ea2 eb2
      refine zg_joined (by omega) (by omega) ?_
      refine g_st hS.k56 hS.l56 (by omega) (by omega) (hm.wa_56 (by omega) (by omega)) (fun m2 em2 hm2 => ?_)
      have f2 : ∀ c p : Int, ¬ (c = 56 ∧ p = top + -1) → m2 c p = m c p := fun c p q => (congrFun (congrFun em2 _) _).trans (up_ne q)
      have x2 : m2 56 (top + -1) = jo v4 va vb := (congrFun (congrFun em2 _) _).trans (up_at _ _ _ _)
      refine u_X10_sumByRule_170 ?_
      refine g_A (by omega) (by omega) ?_
      refine go (top + -1) m2 hm2 (fun c p q => (f2 c p (by omega)).trans (F c p q)) ?_ (by omega) (by omega)
      have q := pl_push (g := m2 56) (t := top - 1 - 1) (a := jo v4 va vb) (by omega) p5 (fun j j0 j1 => f2 56 j (by omega)) (by rw [show top - 1 - 1 + 1 = top + -1 by omega]; exact x2)
      rw [show top - 1 - 1 + 1 + 1 = top + -1 + 1 by omega] at q
      exact q
/-- what a RULE says: the SUM of its first CLAUSE without a TEST, or whose TEST holds; 0 without -/
def evC (w : Int → Int) : List Cz → Int
  | [] => 0
  | c :: l => if c.2.1 = true ∧ (evl w [] c.2.2).headD 0 = 0 then evC w l else (evl w [] c.1).headD 0
/-- every clause fits -/
def Tys (l : List Cz) : Prop := ∀ c : Cz, c ∈ l → Tyc c ∧ (c.2.1 = false → c.2.2 = [])
theorem Bt.sing {L : List Int} {t : Bool} (h : Bt L [t]) : ∃ a : Int, L = [a] ∧ (t = true → a = 0 ∨ a = 1) := by
  obtain ⟨a, K, rfl, h1, h2⟩ := h.one
  cases K with
  | nil => exact ⟨a, rfl, h1⟩
  | cons b K => exact h2.elim
theorem zg_sumByRule {X : Mm} {S : Sh} {m0 : Mm} {K : Int → Mm → Prop} {row : Int} {Cs : List Cz} (hS : Shp S) (hm0 : Inv X S m0) (hrow : m0 55 1 = row) (hr : rowv S row) (hH : Hs (m0 row) 0 (codC Cs)) (hl : rlen S row = ((codC Cs).length : Int)) (hty : Tys Cs) (hn : nvs (codC Cs) ≤ 60) (hk : ∀ M1 : Mm, Inv X S M1 → (∀ c p : Int, ¬ c = 56 → M1 c p = m0 c p) → K (evC (wdC m0) Cs) M1) : wp_X10_sumByRule S m0 55 K := by
  have rne : ¬ row = 56 := by rcases hr with z | z <;> omega
  have L : ∀ (l : List Cz) (i : Int) (m : Mm), (∀ M1 : Mm, Inv X S M1 → (∀ c p : Int, ¬ c = 56 → M1 c p = m0 c p) → K (evC (wdC m0) l) M1) → Inv X S m → (∀ c p : Int, ¬ c = 56 → m c p = m0 c p) → Hs (m0 row) i (codC l) → i + ((codC l).length : Int) = rlen S row → 0 ≤ i → Tys l → nvs (codC l) ≤ 60 → wp_X10_sumByRule_4 S K ((codC l).length + 1) 55 (-1) i m := by
    intro l
    induction l with
    | nil =>
      intro i m hk hm F _ hl hi _ _
      have r1 : m 55 1 = row := (F 55 1 (by decide)).trans hrow
      refine u_X10_sumByRule_4 ?_
      refine g_getrow 1 rfl hS.k55 hm.row55 (fun v1 e1 hr1 => ?_)
      have q1 : v1 = row := e1.trans r1
      subst q1
      refine g_lenrow hr1 (fun v2 e2 b2' c2' => ?_)
      have hl2 : i + ((0 : Nat) : Int) = rlen S v1 := hl
      refine g_ifT (by omega) ?_
      exact g_C (hk m hm F)
    | cons c l ih =>
      intro i m hk hm F hH hl hi hty hn
      obtain ⟨⟨ty1', ty2'⟩, ty3'⟩ := hty c (List.mem_cons_self ..)
      have ec : codC (c :: l) = c.1 ++ ((c.2.2 ++ [if c.2.1 then -26 else -25]) ++ codC l) := by
        show (c.1 ++ (c.2.2 ++ [if c.2.1 then -26 else -25])) ++ codC l = _
        rw [List.append_assoc]
      rw [ec] at hH hl hn ⊢
      obtain ⟨h1, h2⟩ := Hs.app _ _ _ hH
      obtain ⟨h3, h4⟩ := Hs.app _ _ _ h2
      obtain ⟨h5, h6⟩ := Hs.app _ _ _ h3
      rw [nvs_app, nvs_app, nvs_app] at hn
      have ln : (c.1 ++ ((c.2.2 ++ [if c.2.1 then (-26 : Int) else -25]) ++ codC l)).length = c.1.length + (c.2.2.length + 1 + (codC l).length) := by
        rw [List.length_append, List.length_append, List.length_append]
        rfl
      have ln2 : (c.2.2 ++ [if c.2.1 then (-26 : Int) else -25]).length = c.2.2.length + 1 := by
        rw [List.length_append]
        rfl
      rw [ln] at hl ⊢
      rw [ln2] at h4
      rw [show c.1.length + (c.2.2.length + 1 + (codC l).length) + 1 = c.1.length + (c.2.2.length + ((codC l).length + 1 + 1)) by omega]
      refine zg_run hS hrow hr c.1 _ (-1) i m [] [] [] [false] hm F h1 (by omega) hi ty1' trivial rfl (by omega) (by show 0 + 0 + nvs c.1 ≤ 64; omega) (fun top1 m1 hm1 F1 hp1 ht1 => ?_)
      obtain ⟨s, es, _⟩ := Bt.sing (evl_ty (w := wdC m0) c.1 [] [] [false] ty1' trivial).1
      rw [es] at hp1
      have tk := h6.1
      by_cases et : c.2.1 = true
      · -- a test
        have ty4 := ty2' et
        rw [et] at tk h6
        refine zg_run hS hrow hr c.2.2 _ top1 _ m1 [] [s] [] [true] hm1 F1 h5 (by omega) (by omega) ty4 trivial hp1 ht1 (by show 0 + 1 + nvs c.2.2 ≤ 64; omega) (fun top2 m2 hm2 F2 hp2 ht2 => ?_)
        obtain ⟨t, et2, _⟩ := Bt.sing (evl_ty (w := wdC m0) c.2.2 [] [] [true] ty4 trivial).1
        rw [et2] at hp2
        obtain ⟨p0, p1, p2⟩ := pl_top (L := [s]) ht2 hp2
        obtain ⟨p3, p4, p5⟩ := pl_top (by omega) p2
        have z2 : top2 - 1 - 1 = -1 := by
          have q := congrArg List.length p5
          rw [pl_len] at q
          have q2 : (top2 - 1 - 1 + 1).toNat = 0 := q
          omega
        have r2 : m2 55 1 = row := (F2 55 1 (by decide)).trans hrow
        have tk2 : m0 row (i + (c.1.length : Int) + (c.2.2.length : Int)) = -26 := tk
        refine u_X10_sumByRule_4 ?_
        refine g_getrow 1 rfl hS.k55 hm2.row55 (fun v1 e1 hr1 => ?_)
        have q1 : v1 = row := e1.trans r2
        subst q1
        refine g_lenrow hr1 (fun v2 e2 b2' c2' => ?_)
        refine g_ifF (by omega) ?_
        refine g_getrow 1 rfl hS.k55 hm2.row55 (fun v3 e3 hr3 => ?_)
        have q3 : v3 = v1 := e3.trans r2
        subst q3
        refine g_ldrowE hr3 (by omega) (by omega) (fun v4 e4 => ?_)
        have q4 : v4 = -26 := by rw [e4, F2 _ _ rne]; exact tk2
        subst q4
        refine g_C ?_
        refine g_ifT (by decide) ?_
        refine g_ifT (by omega) ?_
        refine g_C ?_
        refine g_ifT (by decide) ?_
        refine g_C ?_
        refine g_ifT (by decide) ?_
        refine g_C ?_
        refine g_ifT (by omega) ?_
        refine g_C ?_
        refine g_ifF (by decide) ?_
        refine g_getr 3 56 rfl hS.k55 hm2.f_55_3 (by decide) ?_
        refine g_ldu hS.k56 hS.l56 (by omega) (by omega) (fun v5 e5 => ?_)
        have q5 : v5 = t := e5.trans p1
        subst q5
        have no : ¬ v5 = 0 → wGetR S m2 55 10 3 fun v54 => wC 1 fun v56 => wS top2 v56 fun v58 => wLd S m2 v54 16 v58 fun v60 => K v60 m2 := by
          intro w
          refine g_getr 3 56 rfl hS.k55 hm2.f_55_3 (by decide) ?_
          refine g_C ?_
          refine g_S (by omega) (by omega) ?_
          refine g_ldu hS.k56 hS.l56 (by omega) (by omega) (fun v6 e6 => ?_)
          have q6 : v6 = s := e6.trans p4
          subst q6
          have q := hk m2 hm2 F2
          have e : evC (wdC m0) (c :: l) = v6 := by
            show (if c.2.1 = true ∧ (evl (wdC m0) [] c.2.2).headD 0 = 0 then evC (wdC m0) l else (evl (wdC m0) [] c.1).headD 0) = v6
            rw [es, et2, if_neg (fun z => w z.2)]
            rfl
          rw [e] at q
          exact q
        refine g_C ?_
        refine g_cmp (fun w => ?_) (fun w => ?_) (fun w => ?_)
        · exact g_ifF (by decide) (no (by omega))
        · refine g_ifT (by decide) ?_
          refine g_A (by omega) (by omega) ?_
          refine u_X10_sumByRule_170 ?_
          refine g_A (by omega) (by omega) ?_
          rw [show top2 + -2 = -1 by omega]
          have e : evC (wdC m0) (c :: l) = evC (wdC m0) l := by
            show (if c.2.1 = true ∧ (evl (wdC m0) [] c.2.2).headD 0 = 0 then evC (wdC m0) l else (evl (wdC m0) [] c.1).headD 0) = _
            rw [et2, if_pos ⟨et, w⟩]
          rw [e] at hk
          rw [show i + (c.1.length : Int) + ((c.2.2.length + 1 : Nat) : Int) = i + (c.1.length : Int) + (c.2.2.length : Int) + 1 by omega] at h4
          exact ih _ m2 hk hm2 F2 h4 (by omega) (by omega) (fun d hd => hty d (List.mem_cons_of_mem _ hd)) (by omega)
        · exact g_ifF (by decide) (no (by omega))
      · -- without a test
        have ef : c.2.1 = false := by
          cases h : c.2.1
          · rfl
          · exact absurd h et
        have e22 := ty3' ef
        rw [e22] at tk ⊢
        rw [ef] at tk
        have tk2 : m0 row (i + (c.1.length : Int) + ((0 : Nat) : Int)) = -25 := tk
        rw [show i + (c.1.length : Int) + ((0 : Nat) : Int) = i + (c.1.length : Int) by omega] at tk2
        obtain ⟨p0, p1, p2⟩ := pl_top (L := []) ht1 hp1
        have r1 : m1 55 1 = row := (F1 55 1 (by decide)).trans hrow
        show wp_X10_sumByRule_4 S K (0 + ((codC l).length + 1 + 1)) 55 top1 (i + (c.1.length : Int)) m1
        rw [Nat.zero_add]
        refine u_X10_sumByRule_4 ?_
        refine g_getrow 1 rfl hS.k55 hm1.row55 (fun v1 e1 hr1 => ?_)
        have q1 : v1 = row := e1.trans r1
        subst q1
        refine g_lenrow hr1 (fun v2 e2 b2' c2' => ?_)
        refine g_ifF (by omega) ?_
        refine g_getrow 1 rfl hS.k55 hm1.row55 (fun v3 e3 hr3 => ?_)
        have q3 : v3 = v1 := e3.trans r1
        subst q3
        refine g_ldrowE hr3 (by omega) (by omega) (fun v4 e4 => ?_)
        have q4 : v4 = -25 := by rw [e4, F1 _ _ rne]; exact tk2
        subst q4
        refine g_C ?_
        refine g_ifT (by decide) ?_
        refine g_ifT (by omega) ?_
        refine g_C ?_
        refine g_ifF (by decide) ?_
        refine g_getr 3 56 rfl hS.k55 hm1.f_55_3 (by decide) ?_
        have t63 : top1 < 64 := by
          have q := congrArg List.length hp1
          rw [pl_len] at q
          have q2 : (top1 + 1).toNat = 1 := q
          omega
        refine g_ldu hS.k56 hS.l56 (by omega) (by omega) (fun v5 e5 => ?_)
        have q5 : v5 = s := e5.trans p1
        subst q5
        have q := hk m1 hm1 F1
        have e : evC (wdC m0) (c :: l) = v5 := by
          show (if c.2.1 = true ∧ (evl (wdC m0) [] c.2.2).headD 0 = 0 then evC (wdC m0) l else (evl (wdC m0) [] c.1).headD 0) = v5
          rw [es, if_neg (fun z => et z.1)]
          rfl
        rw [e] at q
        exact q
  refine u_X10_sumByRule ?_
  refine g_C ?_
  refine g_C ?_
  exact ⟨_, L Cs 0 m0 hk hm0 (fun _ _ _ => rfl) hH (by omega) (by decide) hty hn⟩
end
