/-! what the signs say: a stack of numbers of 64 bits -/
def jo (x a b : Int) : Int := if x = -12 then w64 (a * b) else if x = -13 then (if b = 0 then 0 else lDiv a b) else if x = -14 then (if b = 0 then 0 else lRem a b) else if x = -15 then w64 (a + b) else if x = -16 then w64 (a - b) else if x = -17 then (if a < b then 1 else 0) else if x = -18 then (if a ≤ b then 1 else 0) else if x = -19 then (if a = b then 1 else 0) else if x = -20 then (if b ≤ a then 1 else 0) else if x = -21 then (if b < a then 1 else 0) else if x = -23 then lAnd a b else lOr a b
def ev1 (w : Int → Int) (L : List Int) (x : Int) : List Int := if -11 ≤ x then (if 0 ≤ x then x else w (-2 - x)) :: L else if x = -22 then (match L with | a :: L' => w64 (1 - a) :: L' | [] => []) else (match L with | b :: a :: L' => jo x a b :: L' | _ => [])
def evl (w : Int → Int) (L V : List Int) : List Int := V.foldl (ev1 w) L
/-- numbers of these types: tests are 0 or 1 -/
def Bt : List Int → List Bool → Prop
  | [], [] => True
  | a :: L, t :: D => (t = true → a = 0 ∨ a = 1) ∧ Bt L D
  | _, _ => False
theorem Bt.len : ∀ (L : List Int) (D : List Bool), Bt L D → L.length = D.length := by
  intro L
  induction L with
  | nil =>
    intro D h
    cases D with
    | nil => rfl
    | cons t D => exact h.elim
  | cons a L ih =>
    intro D h
    cases D with
    | nil => exact h.elim
    | cons t D => rw [List.length_cons, List.length_cons, ih D h.2]
theorem jo_cm {x a b : Int} (h : -21 ≤ x ∧ x ≤ -17) : jo x a b = 0 ∨ jo x a b = 1 := by
  rcases (show x = -17 ∨ x = -18 ∨ x = -19 ∨ x = -20 ∨ x = -21 by omega) with e | e | e | e | e <;> subst e
  · show (if a < b then (1 : Int) else 0) = 0 ∨ (if a < b then (1 : Int) else 0) = 1
    split <;> omega
  · show (if a ≤ b then (1 : Int) else 0) = 0 ∨ (if a ≤ b then (1 : Int) else 0) = 1
    split <;> omega
  · show (if a = b then (1 : Int) else 0) = 0 ∨ (if a = b then (1 : Int) else 0) = 1
    split <;> omega
  · show (if b ≤ a then (1 : Int) else 0) = 0 ∨ (if b ≤ a then (1 : Int) else 0) = 1
    split <;> omega
  · show (if b < a then (1 : Int) else 0) = 0 ∨ (if b < a then (1 : Int) else 0) = 1
    split <;> omega
theorem bit01 : (lAnd 0 0 = 0 ∧ lAnd 0 1 = 0 ∧ lAnd 1 0 = 0 ∧ lAnd 1 1 = 1) ∧ (lOr 0 0 = 0 ∧ lOr 0 1 = 1 ∧ lOr 1 0 = 1 ∧ lOr 1 1 = 1) ∧ w64 (1 - 0) = 1 ∧ w64 (1 - 1) = 0 := by decide +kernel
theorem jo_two {x a b : Int} (h : x = -23 ∨ x = -24) (ha : a = 0 ∨ a = 1) (hb : b = 0 ∨ b = 1) : jo x a b = 0 ∨ jo x a b = 1 := by
  obtain ⟨⟨a1, a2, a3, a4⟩, ⟨o1, o2, o3, o4⟩, _⟩ := bit01
  rcases h with e | e <;> subst e
  · show lAnd a b = 0 ∨ lAnd a b = 1
    rcases ha with e | e <;> rcases hb with e2 | e2 <;> subst e <;> subst e2
    · exact Or.inl a1
    · exact Or.inl a2
    · exact Or.inl a3
    · exact Or.inr a4
  · show lOr a b = 0 ∨ lOr a b = 1
    rcases ha with e | e <;> rcases hb with e2 | e2 <;> subst e <;> subst e2
    · exact Or.inl o1
    · exact Or.inr o2
    · exact Or.inr o3
    · exact Or.inr o4
theorem ev_val (w : Int → Int) (L : List Int) {x : Int} (h : -11 ≤ x) : ev1 w L x = (if 0 ≤ x then x else w (-2 - x)) :: L := if_pos h
theorem ev_not (w : Int → Int) (L : List Int) (a : Int) : ev1 w (a :: L) (-22) = w64 (1 - a) :: L := rfl
theorem ev_two (w : Int → Int) (L : List Int) {x a b : Int} (h : ¬ -11 ≤ x) (h2 : ¬ x = -22) : ev1 w (b :: a :: L) x = jo x a b :: L := (if_neg h).trans (if_neg h2)
theorem tyA_some : ∀ {D D' : List Bool}, tyA D = some D' → ∃ E : List Bool, D = false :: false :: E ∧ D' = false :: E := by
  intro D D' h
  have no : (none : Option (List Bool)) = some D' → False := fun z => by cases z
  cases D with
  | nil => exact (no h).elim
  | cons a D =>
    cases D with
    | nil => cases a <;> exact (no h).elim
    | cons b E =>
      cases a
      · cases b
        · exact ⟨E, rfl, (Option.some.inj (show some (false :: E) = some D' from h)).symm⟩
        · exact (no h).elim
      · exact (no h).elim
theorem tyC_some : ∀ {D D' : List Bool}, tyC D = some D' → ∃ E : List Bool, D = false :: false :: E ∧ D' = true :: E := by
  intro D D' h
  have no : (none : Option (List Bool)) = some D' → False := fun z => by cases z
  cases D with
  | nil => exact (no h).elim
  | cons a D =>
    cases D with
    | nil => cases a <;> exact (no h).elim
    | cons b E =>
      cases a
      · cases b
        · exact ⟨E, rfl, (Option.some.inj (show some (true :: E) = some D' from h)).symm⟩
        · exact (no h).elim
      · exact (no h).elim
theorem tyB_some : ∀ {D D' : List Bool}, tyB D = some D' → ∃ E : List Bool, D = true :: true :: E ∧ D' = true :: E := by
  intro D D' h
  have no : (none : Option (List Bool)) = some D' → False := fun z => by cases z
  cases D with
  | nil => exact (no h).elim
  | cons a D =>
    cases D with
    | nil => cases a <;> exact (no h).elim
    | cons b E =>
      cases a
      · exact (no h).elim
      · cases b
        · exact (no h).elim
        · exact ⟨E, rfl, (Option.some.inj (show some (true :: E) = some D' from h)).symm⟩
theorem tyN_some : ∀ {D D' : List Bool}, tyN D = some D' → ∃ E : List Bool, D = true :: E ∧ D' = true :: E := by
  intro D D' h
  have no : (none : Option (List Bool)) = some D' → False := fun z => by cases z
  cases D with
  | nil => exact (no h).elim
  | cons a E =>
    cases a
    · exact (no h).elim
    · exact ⟨E, rfl, (Option.some.inj (show some (true :: E) = some D' from h)).symm⟩
/-- how a sign that fits the types is met -/
theorem ty_cases {D D' : List Bool} {x : Int} (h : ty1 (some D) x = some D') : ((-11 ≤ x ∧ x ≤ 99999 ∧ ¬ x = -1) ∧ D' = false :: D) ∨ ((-16 ≤ x ∧ x ≤ -12) ∧ ∃ E : List Bool, D = false :: false :: E ∧ D' = false :: E) ∨ ((-21 ≤ x ∧ x ≤ -17) ∧ ∃ E : List Bool, D = false :: false :: E ∧ D' = true :: E) ∨ (x = -22 ∧ ∃ E : List Bool, D = true :: E ∧ D' = true :: E) ∨ ((x = -23 ∨ x = -24) ∧ ∃ E : List Bool, D = true :: true :: E ∧ D' = true :: E) := by
  have h' : tyD D x = some D' := h
  have no : (none : Option (List Bool)) = some D' → False := fun z => by cases z
  unfold tyD at h'
  by_cases e0 : 99999 < x ∨ x = -1
  · rw [if_pos e0] at h'
    exact (no h').elim
  rw [if_neg e0] at h'
  by_cases e1 : -11 ≤ x
  · rw [if_pos e1] at h'
    exact Or.inl ⟨by omega, (Option.some.inj h').symm⟩
  rw [if_neg e1] at h'
  right
  by_cases e2 : -16 ≤ x
  · rw [if_pos e2] at h'
    exact Or.inl ⟨by omega, tyA_some h'⟩
  rw [if_neg e2] at h'
  right
  by_cases e3 : -21 ≤ x
  · rw [if_pos e3] at h'
    exact Or.inl ⟨by omega, tyC_some h'⟩
  rw [if_neg e3] at h'
  right
  by_cases e4 : x = -22
  · rw [if_pos e4] at h'
    exact Or.inl ⟨e4, tyN_some h'⟩
  rw [if_neg e4] at h'
  right
  by_cases e5 : -24 ≤ x
  · rw [if_pos e5] at h'
    exact ⟨by omega, tyB_some h'⟩
  rw [if_neg e5] at h'
  exact (no h').elim
theorem Bt.two {L : List Int} {s t : Bool} {E : List Bool} (h : Bt L (s :: t :: E)) : ∃ (b a : Int) (K : List Int), L = b :: a :: K ∧ (s = true → b = 0 ∨ b = 1) ∧ (t = true → a = 0 ∨ a = 1) ∧ Bt K E := by
  cases L with
  | nil => exact h.elim
  | cons b L =>
    cases L with
    | nil => exact h.2.elim
    | cons a L => exact ⟨b, a, L, rfl, h.1, h.2.1, h.2.2⟩
theorem Bt.one {L : List Int} {s : Bool} {E : List Bool} (h : Bt L (s :: E)) : ∃ (a : Int) (K : List Int), L = a :: K ∧ (s = true → a = 0 ∨ a = 1) ∧ Bt K E := by
  cases L with
  | nil => exact h.elim
  | cons b L => exact ⟨b, L, rfl, h.1, h.2⟩
theorem ev1_ty {w : Int → Int} {D D' : List Bool} {x : Int} {L : List Int} (h : ty1 (some D) x = some D') (hb : Bt L D) : Bt (ev1 w L x) D' ∧ ∀ B : List Int, ev1 w (L ++ B) x = ev1 w L x ++ B := by
  rcases ty_cases h with ⟨e, e2⟩ | ⟨e, E, e1, e2⟩ | ⟨e, E, e1, e2⟩ | ⟨e, E, e1, e2⟩ | ⟨e, E, e1, e2⟩
  · subst e2
    rw [ev_val w L e.1]
    refine ⟨⟨fun z => absurd z (by decide), hb⟩, fun B => ?_⟩
    rw [ev_val w _ e.1]
    rfl
  · subst e1 e2
    obtain ⟨b, a, K, rfl, _, _, hK⟩ := hb.two
    rw [ev_two w K (by omega) (by omega)]
    refine ⟨⟨fun z => absurd z (by decide), hK⟩, fun B => ?_⟩
    show ev1 w (b :: a :: (K ++ B)) x = _
    rw [ev_two w _ (by omega) (by omega)]
    rfl
  · subst e1 e2
    obtain ⟨b, a, K, rfl, _, _, hK⟩ := hb.two
    rw [ev_two w K (by omega) (by omega)]
    refine ⟨⟨fun _ => jo_cm e, hK⟩, fun B => ?_⟩
    show ev1 w (b :: a :: (K ++ B)) x = _
    rw [ev_two w _ (by omega) (by omega)]
    rfl
  · subst e1 e2 e
    obtain ⟨a, K, rfl, ha, hK⟩ := hb.one
    rw [ev_not w K a]
    obtain ⟨_, _, n1, n2⟩ := bit01
    refine ⟨⟨fun _ => ?_, hK⟩, fun B => ?_⟩
    · rcases ha rfl with z | z <;> subst z
      · exact Or.inr n1
      · exact Or.inl n2
    · show ev1 w (a :: (K ++ B)) (-22) = _
      rw [ev_not w _ a]
      rfl
  · subst e1 e2
    obtain ⟨b, a, K, rfl, hb1, ha1, hK⟩ := hb.two
    rw [ev_two w K (by omega) (by omega)]
    refine ⟨⟨fun _ => jo_two e (ha1 rfl) (hb1 rfl), hK⟩, fun B => ?_⟩
    show ev1 w (b :: a :: (K ++ B)) x = _
    rw [ev_two w _ (by omega) (by omega)]
    rfl
theorem ty_none : ∀ V : List Int, V.foldl ty1 none = none := by
  intro V
  induction V with
  | nil => rfl
  | cons x V ih => exact ih
/-- a row of signs that fits: its first fits, and the rest -/
theorem ty_split {x : Int} {V : List Int} {D D' : List Bool} (h : (x :: V).foldl ty1 (some D) = some D') : ∃ E : List Bool, ty1 (some D) x = some E ∧ V.foldl ty1 (some E) = some D' := by
  have h2 : V.foldl ty1 (ty1 (some D) x) = some D' := h
  cases e : ty1 (some D) x with
  | none =>
    rw [e, ty_none] at h2
    cases h2
  | some E =>
    rw [e] at h2
    exact ⟨E, rfl, h2⟩
theorem evl_ty {w : Int → Int} : ∀ (V : List Int) (L : List Int) (D D' : List Bool), V.foldl ty1 (some D) = some D' → Bt L D → Bt (evl w L V) D' ∧ ∀ B : List Int, evl w (L ++ B) V = evl w L V ++ B := by
  intro V
  induction V with
  | nil =>
    intro L D D' h hb
    have h2 : some D = some D' := h
    injection h2 with h2
    subst h2
    exact ⟨hb, fun _ => rfl⟩
  | cons x V ih =>
    intro L D D' h hb
    obtain ⟨E, h1, h2⟩ := ty_split h
    obtain ⟨b1, b2⟩ := ev1_ty (w := w) h1 hb
    obtain ⟨c1, c2⟩ := ih _ E D' h2 b1
    refine ⟨c1, fun B => ?_⟩
    show evl w (ev1 w (L ++ B) x) V = evl w (ev1 w L x) V ++ B
    rw [b2 B]
    exact c2 B
def nvs : List Int → Nat
  | [] => 0
  | x :: V => (if -11 ≤ x then 1 else 0) + nvs V
theorem nvs_app : ∀ A B : List Int, nvs (A ++ B) = nvs A + nvs B := by
  intro A B
  induction A with
  | nil => exact (Nat.zero_add _).symm
  | cons x A ih =>
    show (if -11 ≤ x then 1 else 0) + nvs (A ++ B) = (if -11 ≤ x then 1 else 0) + nvs A + nvs B
    rw [ih, Nat.add_assoc]
/-- a row's places from i on hold these -/
def Hs (f : Int → Int) : Int → List Int → Prop
  | _, [] => True
  | i, x :: V => f i = x ∧ Hs f (i + 1) V
theorem Hs.app {f : Int → Int} : ∀ (A B : List Int) (i : Int), Hs f i (A ++ B) → Hs f i A ∧ Hs f (i + (A.length : Int)) B := by
  intro A
  induction A with
  | nil =>
    intro B i h
    refine ⟨trivial, ?_⟩
    show Hs f (i + ((0 : Nat) : Int)) B
    rw [show i + ((0 : Nat) : Int) = i by omega]
    exact h
  | cons x A ih =>
    intro B i h
    obtain ⟨h1, h2⟩ := ih B (i + 1) h.2
    refine ⟨⟨h.1, h1⟩, ?_⟩
    rw [List.length_cons, show i + ((A.length + 1 : Nat) : Int) = i + 1 + (A.length : Int) by omega]
    exact h2
theorem pl_len {f : Int → Int} : ∀ n : Nat, (pl f n).length = n := by
  intro n
  induction n with
  | zero => rfl
  | succ n ih =>
    show (f (n : Int) :: pl f n).length = n + 1
    rw [List.length_cons, ih]
/-- a stack in memory, up to top -/
theorem pl_top {f : Int → Int} {t : Int} {a : Int} {L : List Int} (h0 : -1 ≤ t) (h : pl f (t + 1).toNat = a :: L) : 0 ≤ t ∧ f t = a ∧ pl f (t - 1 + 1).toNat = L := by
  have t0 : 0 ≤ t := by
    by_cases e : t = -1
    · rw [e] at h
      cases h
    · omega
  rw [show (t + 1).toNat = t.toNat + 1 by omega] at h
  have h2 : f ((t.toNat : Nat) : Int) :: pl f t.toNat = a :: L := h
  rw [show ((t.toNat : Nat) : Int) = t by omega] at h2
  injection h2 with e1 e2
  exact ⟨t0, e1, by rw [show (t - 1 + 1).toNat = t.toNat by omega]; exact e2⟩
theorem pl_push {f g : Int → Int} {t a : Int} {L : List Int} (h0 : -1 ≤ t) (h : pl f (t + 1).toNat = L) (e : ∀ j : Int, 0 ≤ j → j ≤ t → g j = f j) (ea : g (t + 1) = a) : pl g (t + 1 + 1).toNat = a :: L := by
  rw [show (t + 1 + 1).toNat = (t + 1).toNat + 1 by omega]
  show g (((t + 1).toNat : Nat) : Int) :: pl g (t + 1).toNat = a :: L
  rw [show (((t + 1).toNat : Nat) : Int) = t + 1 by omega, ea, pl_same (g := f) _ (fun j j0 j1 => e j j0 (by omega)), h]
theorem g_ldrowE {S : Sh} {M : Mm} {x i : Int} {K : Int → Prop} (hr : rowv S x) (h0 : 0 ≤ i) (h1 : i < rlen S x) (h : ∀ v : Int, v = M x i → K v) : wLd S M x 14 i K := by
  rcases hr with q | q
  · rw [rlen, if_pos q] at h1
    omega
  · have e : rlen S x = S.2.2 x := by
      rw [rlen, if_neg]
      have := q.1.1
      omega
    exact ⟨q.1, ⟨h0, by omega⟩, h _ rfl⟩
/-- the class's WORDS -/
def wdC (M : Mm) (j : Int) : Int := if j = 0 then M 55 4 else if j = 1 then M 7 (M 55 4) else if j = 2 then M 55 7 else if j = 3 then M 55 5 else if j = 4 then M 55 6 else if j = 5 then M 55 9 else if j = 6 then M 55 8 else if j = 7 then M 55 10 else if j = 8 then M 55 11 else if M 55 6 < M 4 2 then 0 else 1
theorem zg_valueOf {X : Mm} {S : Sh} {m0 : Mm} {K : Int → Mm → Prop} {x : Int} (hS : Shp S) (hm0 : Inv X S m0) (h1 : -11 ≤ x) (h2 : x ≤ -1) (hk : K (wdC m0 (-2 - x)) m0) : wp_X10_valueOf S m0 55 x K := by
  have b4 := hm0.f_55_4
  have go : ∀ v : Int, v = wdC m0 (-2 - x) → K v m0 := fun v e => by rw [e]; exact hk
  unfold wdC at go
  refine u_X10_valueOf ?_
  refine g_C ?_
  refine g_S (by omega) (by omega) ?_
  refine g_if (fun w0 => ?_) (fun w0 => ?_)
  · rw [if_pos w0] at go
    exact g_getu 4 rfl hS.k55 (fun v ev => g_C (go v ev))
  rw [if_neg w0] at go
  refine g_if (fun w1 => ?_) (fun w1 => ?_)
  · rw [if_pos w1] at go
    refine g_getr 0 4 rfl hS.k55 hm0.f_55_0 (by decide) ?_
    refine g_getr 10 7 rfl hS.k4 hm0.f_4_10 (by decide) ?_
    refine g_getu 4 rfl hS.k55 (fun v ev => ?_)
    exact g_ldu hS.k7 hS.l7 (by omega) (by omega) (fun u eu => g_C (go u (by rw [eu, ev])))
  rw [if_neg w1] at go
  refine g_if (fun w2 => ?_) (fun w2 => ?_)
  · rw [if_pos w2] at go
    exact g_getu 7 rfl hS.k55 (fun v ev => g_C (go v ev))
  rw [if_neg w2] at go
  refine g_if (fun w3 => ?_) (fun w3 => ?_)
  · rw [if_pos w3] at go
    exact g_getu 5 rfl hS.k55 (fun v ev => g_C (go v ev))
  rw [if_neg w3] at go
  refine g_if (fun w4 => ?_) (fun w4 => ?_)
  · rw [if_pos w4] at go
    exact g_getu 6 rfl hS.k55 (fun v ev => g_C (go v ev))
  rw [if_neg w4] at go
  refine g_if (fun w5 => ?_) (fun w5 => ?_)
  · rw [if_pos w5] at go
    exact g_getu 9 rfl hS.k55 (fun v ev => g_C (go v ev))
  rw [if_neg w5] at go
  refine g_if (fun w6 => ?_) (fun w6 => ?_)
  · rw [if_pos w6] at go
    exact g_getu 8 rfl hS.k55 (fun v ev => g_C (go v ev))
  rw [if_neg w6] at go
  refine g_if (fun w7 => ?_) (fun w7 => ?_)
  · rw [if_pos w7] at go
    exact g_getu 10 rfl hS.k55 (fun v ev => g_C (go v ev))
  rw [if_neg w7] at go
  refine g_if (fun w8 => ?_) (fun w8 => ?_)
  · rw [if_pos w8] at go
    exact g_getu 11 rfl hS.k55 (fun v ev => g_C (go v ev))
  rw [if_neg w8] at go
  refine g_getu 6 rfl hS.k55 (fun v ev => ?_)
  refine g_getr 0 4 rfl hS.k55 hm0.f_55_0 (by decide) ?_
  refine g_getu 2 rfl hS.k4 (fun u eu => ?_)
  rw [ev, eu]
  exact g_if (fun w9 => g_C (go 0 (by rw [if_pos w9]))) (fun w9 => g_C (go 1 (by rw [if_neg w9])))
theorem g_divE {f : Int → Int → Int} {a b : Int} {K : Int → Prop} (hb : ¬ b = 0) (h : K (f a b)) : wD f a b K := ⟨hb, h⟩
theorem zg_joined {S : Sh} {m0 : Mm} {K : Int → Mm → Prop} {x a b : Int} (hx : -24 ≤ x ∧ x ≤ -12) (hn : ¬ x = -22) (hk : K (jo x a b) m0) : wp_X10_joined S m0 x a b K := by
  have go : ∀ v : Int, v = jo x a b → K v m0 := fun v e => by rw [e]; exact hk
  clear hk
  refine u_X10_joined ?_
  refine g_if (fun w => ?_) (fun w1 => ?_)
  · subst w
    exact go _ rfl
  refine g_ifF hn ?_
  refine g_if (fun w => ?_) (fun w2 => ?_)
  · subst w
    have go2 : ∀ v : Int, v = (if b < a then 1 else 0) → K v m0 := go
    refine g_cmp (fun z => ?_) (fun z => ?_) (fun z => ?_)
    · exact g_ifT (by decide) (g_C (go2 0 (by rw [if_neg (by omega)])))
    · exact g_ifT (by decide) (g_C (go2 0 (by rw [if_neg (by omega)])))
    · exact g_ifF (by decide) (g_C (go2 1 (by rw [if_pos (by omega)])))
  refine g_if (fun w => ?_) (fun w3 => ?_)
  · subst w
    have go2 : ∀ v : Int, v = (if b ≤ a then 1 else 0) → K v m0 := go
    refine g_cmp (fun z => ?_) (fun z => ?_) (fun z => ?_)
    · exact g_ifT (by decide) (g_C (go2 0 (by rw [if_neg (by omega)])))
    · exact g_ifF (by decide) (g_C (go2 1 (by rw [if_pos (by omega)])))
    · exact g_ifF (by decide) (g_C (go2 1 (by rw [if_pos (by omega)])))
  refine g_if (fun w => ?_) (fun w4 => ?_)
  · subst w
    have go2 : ∀ v : Int, v = (if a = b then 1 else 0) → K v m0 := go
    refine g_cmp (fun z => ?_) (fun z => ?_) (fun z => ?_)
    · exact g_ifT (by decide) (g_C (go2 0 (by rw [if_neg (by omega)])))
    · exact g_ifF (by decide) (g_C (go2 1 (by rw [if_pos (by omega)])))
    · exact g_ifT (by decide) (g_C (go2 0 (by rw [if_neg (by omega)])))
  refine g_if (fun w => ?_) (fun w5 => ?_)
  · subst w
    have go2 : ∀ v : Int, v = (if a ≤ b then 1 else 0) → K v m0 := go
    refine g_cmp (fun z => ?_) (fun z => ?_) (fun z => ?_)
    · exact g_ifF (by decide) (g_C (go2 1 (by rw [if_pos (by omega)])))
    · exact g_ifF (by decide) (g_C (go2 1 (by rw [if_pos (by omega)])))
    · exact g_ifT (by decide) (g_C (go2 0 (by rw [if_neg (by omega)])))
  refine g_if (fun w => ?_) (fun w6 => ?_)
  · subst w
    have go2 : ∀ v : Int, v = (if a < b then 1 else 0) → K v m0 := go
    refine g_cmp (fun z => ?_) (fun z => ?_) (fun z => ?_)
    · exact g_ifF (by decide) (g_C (go2 1 (by rw [if_pos (by omega)])))
    · exact g_ifT (by decide) (g_C (go2 0 (by rw [if_neg (by omega)])))
    · exact g_ifT (by decide) (g_C (go2 0 (by rw [if_neg (by omega)])))
  refine g_if (fun w => ?_) (fun w7 => ?_)
  · subst w
    exact go _ rfl
  refine g_if (fun w => ?_) (fun w8 => ?_)
  · subst w
    exact go _ rfl
  refine g_if (fun w => ?_) (fun w9 => ?_)
  · subst w
    have go2 : ∀ v : Int, v = (if b = 0 then 0 else lRem a b) → K v m0 := go
    refine g_C ?_
    refine g_cmp (fun z => ?_) (fun z => ?_) (fun z => ?_)
    · exact g_ifT (by decide) (g_divE (by omega) (go2 _ (by rw [if_neg (by omega)])))
    · exact g_ifF (by decide) (g_C (go2 0 (by rw [if_pos z])))
    · exact g_ifT (by decide) (g_divE (by omega) (go2 _ (by rw [if_neg (by omega)])))
  refine g_if (fun w => ?_) (fun w10 => ?_)
  · subst w
    have go2 : ∀ v : Int, v = (if b = 0 then 0 else lDiv a b) → K v m0 := go
    refine g_C ?_
    refine g_cmp (fun z => ?_) (fun z => ?_) (fun z => ?_)
    · exact g_ifT (by decide) (g_divE (by omega) (go2 _ (by rw [if_neg (by omega)])))
    · exact g_ifF (by decide) (g_C (go2 0 (by rw [if_pos z])))
    · exact g_ifT (by decide) (g_divE (by omega) (go2 _ (by rw [if_neg (by omega)])))
  refine g_if (fun w => ?_) (fun w11 => ?_)
  · subst w
    exact go _ rfl
  obtain rfl : x = -24 := (by omega)
  exact go _ rfl
