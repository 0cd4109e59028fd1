section
/-! a clause: the signs of its SUM, whether it has a TEST, the signs of that -/
abbrev Cz : Type := List Int × Bool × List Int
def cod1 (c : Cz) : List Int := c.1 ++ (c.2.2 ++ [if c.2.1 then -26 else -25])
def row1 (c : Cz) : List Int := c.1 ++ c.2.2
def codC : List Cz → List Int
  | [] => []
  | c :: l => cod1 c ++ codC l
def rowC : List Cz → List Int
  | [] => []
  | c :: l => row1 c ++ rowC l
theorem codC_snoc : ∀ (l : List Cz) (c : Cz), codC (l ++ [c]) = codC l ++ cod1 c ∧ rowC (l ++ [c]) = rowC l ++ row1 c := by
  intro l c
  induction l with
  | nil => exact ⟨List.append_nil _, List.append_nil _⟩
  | cons d l ih =>
    refine ⟨?_, ?_⟩
    · show cod1 d ++ codC (l ++ [c]) = (cod1 d ++ codC l) ++ cod1 c
      rw [ih.1, List.append_assoc]
    · show row1 d ++ rowC (l ++ [c]) = (row1 d ++ rowC l) ++ row1 c
      rw [ih.2, List.append_assoc]
/-- where clause i of row t lies: from a on -/
def Ent (M : Mm) (t i a : Int) (c : Cz) : Prop := M 340 (48 * t + 4 * i) = a ∧ M 340 (48 * t + 4 * i + 1) = a + (c.1.length : Int) ∧ ((c.2.1 = false ∧ c.2.2 = [] ∧ M 340 (48 * t + 4 * i + 2) = -1) ∨ (c.2.1 = true ∧ M 340 (48 * t + 4 * i + 2) = a + (c.1.length : Int) ∧ M 340 (48 * t + 4 * i + 3) = a + (c.1.length : Int) + (c.2.2.length : Int)))
/-- a SUM is a number, a TEST a test -/
def Tyc (c : Cz) : Prop := tyl c.1 = some [false] ∧ (c.2.1 = true → tyl c.2.2 = some [true])
/-- between clauses -/
def Lx (b : Int → Int) (n : Int) (T : Int → List Int → Prop) (O0 R0 : List Int) (M : Mm) (m : Int) (W V : List Int) (k : Int) : Prop := (∀ (f : Int) (E : List Int), Bcc b n m (M 336 8) (M 336 12) [] (O0 ++ W) k f E → T f E) ∧ M 336 9 = 0 ∧ M 336 8 ≤ n ∧ RQ M (R0 ++ V)
theorem Lx.at {b : Int → Int} {n : Int} {T : Int → List Int → Prop} {O0 R0 : List Int} {M M1 : Mm} {m k q : Int} {W V : List Int} (h : Lx b n T O0 R0 M m W V k) (F : ∀ c p : Int, c = 338 ∨ c = 339 ∨ (c = 336 ∧ p = 11) → M1 c p = M c p) (hs : Sk b n (M 336 8) q) (e8 : M1 336 8 = q) (e12 : M1 336 12 = M 336 12) (e9 : M1 336 9 = M 336 9) (hn : q ≤ n) : Lx b n T O0 R0 M1 m W V k := by
  refine ⟨fun f E hA => h.1 f E (Bcc.back hs ?_), e9.trans h.2.1, by omega, h.2.2.2.same F⟩
  rw [e8, e12] at hA
  exact hA
theorem Lx.eq {b : Int → Int} {n : Int} {T : Int → List Int → Prop} {O0 R0 : List Int} {M M1 : Mm} {m k : Int} {W V : List Int} (h : Lx b n T O0 R0 M m W V k) (F : ∀ c p : Int, c = 338 ∨ c = 339 ∨ (c = 336 ∧ p = 11) → M1 c p = M c p) (e8 : M1 336 8 = M 336 8) (e12 : M1 336 12 = M 336 12) (e9 : M1 336 9 = M 336 9) : Lx b n T O0 R0 M1 m W V k := by
  refine ⟨?_, e9.trans h.2.1, by rw [e8]; exact h.2.2.1, h.2.2.2.same F⟩
  rw [e8, e12]
  exact h.1
theorem Lx.fault {b : Int → Int} {n : Int} {T : Int → List Int → Prop} {O0 R0 : List Int} {M : Mm} {m k q f : Int} {E W V : List Int} (h : Lx b n T O0 R0 M m W V k) (hs : Sk b n (M 336 8) q) (hp : bst b n (Bcc b n) m q (M 336 12) [] (O0 ++ W) k f E) : T f E := h.1 f E (b_step hs hp)
theorem Lx.to {b : Int → Int} {n : Int} {T : Int → List Int → Prop} {O0 R0 : List Int} {M M1 : Mm} {m m' k k' q p c : Int} {W V W' V' : List Int} (h : Lx b n T O0 R0 M m W V k) (hs : Sk b n (M 336 8) q) (e8 : M1 336 8 = p) (e12 : M1 336 12 = c) (e9 : M1 336 9 = M 336 9) (hn : p ≤ n) (hp : ∀ (f : Int) (E : List Int), Bcc b n m' p c [] (O0 ++ W') k' f E → bst b n (Bcc b n) m q (M 336 12) [] (O0 ++ W) k f E) (hr : RQ M1 (R0 ++ V')) : Lx b n T O0 R0 M1 m' W' V' k' := by
  refine ⟨fun f E hA => h.1 f E (b_step hs (hp f E ?_)), e9.trans h.2.1, by omega, hr⟩
  rw [e8, e12] at hA
  exact hA
def Tbl (M : Mm) (t : Int) : Int → Int → List Cz → Prop
  | _, _, [] => True
  | i, a, c :: l => (Tyc c ∧ Ent M t i a c) ∧ Tbl M t (i + 1) (a + ((row1 c).length : Int)) l
theorem Tbl.same {M M1 : Mm} {t : Int} : ∀ (l : List Cz) (i a : Int), (∀ p : Int, p < 48 * t + 4 * (i + (l.length : Int)) → M1 340 p = M 340 p) → Tbl M t i a l → Tbl M1 t i a l := by
  intro l
  induction l with
  | nil => intro i a _ _; exact trivial
  | cons c l ih =>
    intro i a h z
    rw [List.length_cons] at h
    refine ⟨?_, ih (i + 1) _ (fun p hp => h p (by omega)) z.2⟩
    refine ⟨z.1.1, ?_⟩
    have z1 := z.1.2
    unfold Ent at z1 ⊢
    rw [h _ (by omega), h _ (by omega), h _ (by omega), h _ (by omega)]
    exact z1
theorem Tbl.snoc {M : Mm} {t : Int} : ∀ (l : List Cz) (i a : Int) (c : Cz), Tbl M t i a l → Tyc c → Ent M t (i + (l.length : Int)) (a + ((rowC l).length : Int)) c → Tbl M t i a (l ++ [c]) := by
  intro l
  induction l with
  | nil =>
    intro i a c _ hy h
    have h2 : Ent M t (i + ((0 : Nat) : Int)) (a + ((0 : Nat) : Int)) c := h
    rw [show i + ((0 : Nat) : Int) = i by omega, show a + ((0 : Nat) : Int) = a by omega] at h2
    exact ⟨⟨hy, h2⟩, trivial⟩
  | cons d l ih =>
    intro i a c z hy h
    refine ⟨z.1, ih (i + 1) _ c z.2 hy ?_⟩
    have e1 : ((d :: l).length : Int) = (l.length : Int) + 1 := by rw [List.length_cons]; omega
    have e2 : ((rowC (d :: l)).length : Int) = ((row1 d).length : Int) + ((rowC l).length : Int) := by
      show ((row1 d ++ rowC l).length : Int) = _
      rw [List.length_append]; omega
    rw [e1, e2] at h
    rw [show i + 1 + (l.length : Int) = i + ((l.length : Int) + 1) by omega, show a + ((row1 d).length : Int) + ((rowC l).length : Int) = a + (((row1 d).length : Int) + ((rowC l).length : Int)) by omega]
    exact h
theorem rl_len {f : Int → Int} : ∀ n : Nat, (rl f n).length = n := by
  intro n
  induction n with
  | zero => rfl
  | succ n ih =>
    show (rl f n ++ [f (n : Int)]).length = n + 1
    rw [List.length_append, ih]
    rfl
theorem RQ.len {M : Mm} {R : List Int} (h : RQ M R) (h0 : 0 ≤ M 339 (M 336 11)) : M 339 (M 336 11) = (R.length : Int) := by
  have z := congrArg List.length h
  rw [rl_len, List.length_map] at z
  omega
theorem zv_isTurnHere {X : Mm} {S : Sh} {m0 : Mm} {K : Int → Mm → Prop} {tb : Int → Int} {tn kk : Int} {T : Int → List Int → Prop} {O0 R0 : List Int} (hS : Shp S) (hm0 : Inv X S m0) (hR : TR X tb tn) (hr : Rl X m0 1) (wk0 : Wk tb tn 6 (m0 336 8)) (h90 : m0 336 9 = 0) (hrq : RQ m0 R0) (hl0 : ∀ (f : Int) (E : List Int), Bcc tb tn 1 (m0 336 8 + 4) (m0 336 12) [] O0 kk f E → T f E) (hf : ∀ M1 : Mm, Inv X S M1 → T (M1 336 9) [] → ¬ M1 336 9 = 0 → K 0 M1) (hk : ∀ (M1 : Mm) (cl : Cz), Inv X S M1 → Rl X M1 0 → m0 336 8 ≤ M1 336 8 → M1 336 14 = m0 336 14 → Lx tb tn T O0 R0 M1 9 (cod1 cl) (row1 cl) kk → Tyc cl → Ent M1 (X 336 2) (m0 341 (X 336 2)) (R0.length : Int) cl → (∀ p : Int, p < 48 * X 336 2 + 4 * m0 341 (X 336 2) → M1 340 p = m0 340 p) → M1 341 (X 336 2) = m0 341 (X 336 2) + 1 → K 1 M1) : wp_X12_isTurnHere S m0 336 K := by
  obtain ⟨g, rl, rc, ⟨rc0, rc1⟩, rA⟩ := id hr
  obtain ⟨g1, g2, g3⟩ := id g
  have bl := hm0.a_339 (i := X 336 2) (by omega) (by omega)
  obtain ⟨t, ht⟩ : ∃ t : Int, t = X 336 2 := ⟨_, rfl⟩
  obtain ⟨c0, hc0⟩ : ∃ c0 : Int, c0 = m0 341 t := ⟨_, rfl⟩
  rw [← ht] at g1 g2 g3 rl rc rc0 rA bl hk
  rw [← hc0] at rc rc0 rA hk
  have len0 := hrq.len (by rw [g1]; exact bl.1)
  rw [g1] at len0
  have nsp : ∀ q : Int, 0 ≤ q → ¬ spX X 340 (48 * t + 4 * c0 + q) := fun q q0 => by omega
  have fin : ∀ (m' : Mm) (cl : Cz), Lx tb tn T O0 R0 m' 9 (cod1 cl) (row1 cl) kk → Tyc cl → (m' 340 (48 * t + 4 * c0) = (R0.length : Int) ∧ m' 340 (48 * t + 4 * c0 + 1) = (R0.length : Int) + (cl.1.length : Int) ∧ ((cl.2.1 = false ∧ cl.2.2 = [] ∧ m' 340 (48 * t + 4 * c0 + 2) = -1) ∨ (cl.2.1 = true ∧ m' 340 (48 * t + 4 * c0 + 2) = (R0.length : Int) + (cl.1.length : Int)))) → Inv X S m' → GX X m' → m' 339 t ≤ m' 336 8 → (∀ p : Int, m' 341 p = m0 341 p) → m' 336 14 = m0 336 14 → (∀ p : Int, p < 48 * t + 4 * c0 → m' 340 p = m0 340 p) → (∀ j : Int, j < 400 * t + m0 339 t → m' 338 j = m0 338 j) → m0 339 t ≤ m' 339 t → m0 336 8 ≤ m' 336 8 → (0 ≤ m' 340 (48 * t + 4 * c0) ∧ m' 340 (48 * t + 4 * c0) ≤ m' 340 (48 * t + 4 * c0 + 1) ∧ m' 340 (48 * t + 4 * c0 + 1) ≤ m' 339 t ∧ pth m' t (m' 340 (48 * t + 4 * c0 + 1) - m' 340 (48 * t + 4 * c0)).toNat (m' 340 (48 * t + 4 * c0)) 0 1) → (m' 340 (48 * t + 4 * c0 + 2) < 0 ∨ (0 ≤ m' 340 (48 * t + 4 * c0 + 2) ∧ m' 340 (48 * t + 4 * c0 + 2) ≤ m' 339 t ∧ pth m' t (m' 339 t - m' 340 (48 * t + 4 * c0 + 2)).toNat (m' 340 (48 * t + 4 * c0 + 2)) 0 1)) → wp_X12_isTurnHere_110 S K 336 (48 * t + 4 * c0) m' := by
    intro m' cl lx hty hE hm' g' h8 h41 h14 h40 h38 hl h88 hA hB
    have t' : m' 336 11 = t := g'.1.trans ht.symm
    refine u_X12_isTurnHere_110 ?_
    refine g_getr 5 340 rfl hS.k336 hm'.f_336_5 (by decide) ?_
    refine g_C ?_
    refine g_A (by omega) (by omega) ?_
    refine g_getr 4 339 rfl hS.k336 hm'.f_336_4 (by decide) ?_
    refine g_getu 11 rfl hS.k336 (fun v ev => ?_)
    refine g_ldu hS.k339 hS.l339 (by omega) (by omega) (fun l el => ?_)
    rw [ev, t'] at el
    have hw1 : Inv X S (up m' 340 (48 * t + 4 * c0 + 3) l) := hm'.wA (1, 0) (by decide) (by decide +kernel) (okb_n rfl) (nsp 3 (by decide)) (by decide) (by decide)
    refine g_st hS.k340 hS.l340 (by omega) (by omega) hw1 (fun m1 e1 hm1 => ?_)
    have f1 : ∀ c p : Int, ¬ (c = 340 ∧ p = 48 * t + 4 * c0 + 3) → m1 c p = m' c p := fun c p q => (congrFun (congrFun e1 _) _).trans (up_ne q)
    have x1 : m1 340 (48 * t + 4 * c0 + 3) = l := (congrFun (congrFun e1 _) _).trans (up_at _ _ _ _)
    refine g_getr 6 341 rfl hS.k336 hm1.f_336_6 (by decide) ?_
    refine g_getu 11 rfl hS.k336 (fun v2 ev2 => ?_)
    rw [f1 336 11 (by first | decide | exact fun z => absurd z.1 (by decide) | exact ⟨fun z => absurd z.1 (by decide), fun z => absurd z.1 (by decide)⟩ | omega), t'] at ev2
    refine g_ldu hS.k341 hS.l341 (by omega) (by omega) (fun c ec => ?_)
    rw [f1 341 _ (by first | decide | exact fun z => absurd z.1 (by decide) | exact ⟨fun z => absurd z.1 (by decide), fun z => absurd z.1 (by decide)⟩ | omega), h41, ev2, ← hc0] at ec
    refine g_C ?_
    refine g_A (by omega) (by omega) ?_
    have hw2 : Inv X S (up m1 341 v2 (c + 1)) := hm1.wA (0, 12) (by decide) (by decide +kernel) (Or.inr ⟨by show (0 : Int) ≤ c + 1; omega, by show c + 1 ≤ 12; omega⟩) (by omega) (by decide) (by decide)
    refine g_st hS.k341 hS.l341 (by omega) (by omega) hw2 (fun m2 e2 hm2 => ?_)
    have f2 : ∀ c p : Int, ¬ (c = 341 ∧ p = v2) → m2 c p = m1 c p := fun c p q => (congrFun (congrFun e2 _) _).trans (up_ne q)
    have x2 : m2 341 v2 = c + 1 := (congrFun (congrFun e2 _) _).trans (up_at _ _ _ _)
    rw [ev2] at x2
    have F : ∀ c p : Int, ¬ (c = 341 ∧ p = t) ∧ ¬ (c = 340 ∧ p = 48 * t + 4 * c0 + 3) → m2 c p = m' c p := fun c p q => (f2 c p (by first | exact fun y => absurd (y.1 ▸ z) (by decide) | exact fun y => absurd (y.1 ▸ q) (by decide) | exact z | exact q | exact z.1 | exact q.1 | exact z.2 | exact q.2 | omega)).trans (f1 c p (by first | exact fun y => absurd (y.1 ▸ z) (by decide) | exact fun y => absurd (y.1 ▸ q) (by decide) | exact z | exact q | exact z.1 | exact q.1 | exact z.2 | exact q.2 | omega))
    have e39 : m2 339 t = m' 339 t := F 339 t (by first | decide | exact fun z => absurd z.1 (by decide) | exact ⟨fun z => absurd z.1 (by decide), fun z => absurd z.1 (by decide)⟩ | omega)
    have y1 : m2 340 (48 * t + 4 * c0 + 3) = m' 339 t := by rw [f2 _ _ (by omega), x1, el]
    have lm : m' 339 t = (R0.length : Int) + (cl.1.length : Int) + (cl.2.2.length : Int) := by
      have z := lx.2.2.2.len (by rw [t']; omega)
      rw [t'] at z
      rw [z]
      show (((R0 ++ (cl.1 ++ cl.2.2)).length : Nat) : Int) = _
      rw [List.length_append, List.length_append]
      omega
    have en2 : Ent m2 t c0 (R0.length : Int) cl := by
      obtain ⟨E1, E2, E3⟩ := hE
      refine ⟨(F _ _ (by omega)).trans E1, (F _ _ (by omega)).trans E2, ?_⟩
      rcases E3 with ⟨a1, a2, a3⟩ | ⟨a1, a2⟩
      · exact Or.inl ⟨a1, a2, (F _ _ (by omega)).trans a3⟩
      · exact Or.inr ⟨a1, (F _ _ (by omega)).trans a2, by rw [y1]; exact lm⟩
    refine g_C ⟨by decide, hk m2 cl hm2 ?_ (by rw [F 336 8 (by first | decide | exact fun z => absurd z.1 (by decide) | exact ⟨fun z => absurd z.1 (by decide), fun z => absurd z.1 (by decide)⟩ | omega)]; omega) (by rw [F 336 14 (by first | decide | exact fun z => absurd z.1 (by decide) | exact ⟨fun z => absurd z.1 (by decide), fun z => absurd z.1 (by decide)⟩ | omega)]; exact h14) (lx.eq (fun c p z => F c p (by omega)) (F 336 8 (by first | decide | exact fun z => absurd z.1 (by decide) | exact ⟨fun z => absurd z.1 (by decide), fun z => absurd z.1 (by decide)⟩ | omega)) (F 336 12 (by first | decide | exact fun z => absurd z.1 (by decide) | exact ⟨fun z => absurd z.1 (by decide), fun z => absurd z.1 (by decide)⟩ | omega)) (F 336 9 (by first | decide | exact fun z => absurd z.1 (by decide) | exact ⟨fun z => absurd z.1 (by decide), fun z => absurd z.1 (by decide)⟩ | omega))) hty en2 (fun p hp => (F 340 p (by first | decide | exact fun z => absurd z.1 (by decide) | exact ⟨fun z => absurd z.1 (by decide), fun z => absurd z.1 (by decide)⟩ | omega)).trans (h40 p hp)) (by rw [x2, ec])⟩
    unfold Rl
    rw [← ht]
    refine ⟨⟨(F 336 11 (by first | decide | exact fun z => absurd z.1 (by decide) | exact ⟨fun z => absurd z.1 (by decide), fun z => absurd z.1 (by decide)⟩ | omega)).trans g'.1, g'.2⟩, by rw [e39, F 336 8 (by first | decide | exact fun z => absurd z.1 (by decide) | exact ⟨fun z => absurd z.1 (by decide), fun z => absurd z.1 (by decide)⟩ | omega)]; omega, by rw [x2, F 336 14 (by first | decide | exact fun z => absurd z.1 (by decide) | exact ⟨fun z => absurd z.1 (by decide), fun z => absurd z.1 (by decide)⟩ | omega), h14]; omega, by rw [x2, F 336 14 (by first | decide | exact fun z => absurd z.1 (by decide) | exact ⟨fun z => absurd z.1 (by decide), fun z => absurd z.1 (by decide)⟩ | omega), h14]; omega, fun i i0 i1 => ?_⟩
    rw [x2] at i1
    rw [e39]
    by_cases ei : i = c0
    · rw [ei]
      unfold Cl
      rw [y1, F 340 (48 * t + 4 * c0) (by first | decide | exact fun z => absurd z.1 (by decide) | exact ⟨fun z => absurd z.1 (by decide), fun z => absurd z.1 (by decide)⟩ | omega), F 340 (48 * t + 4 * c0 + 1) (by first | decide | exact fun z => absurd z.1 (by decide) | exact ⟨fun z => absurd z.1 (by decide), fun z => absurd z.1 (by decide)⟩ | omega), F 340 (48 * t + 4 * c0 + 2) (by first | decide | exact fun z => absurd z.1 (by decide) | exact ⟨fun z => absurd z.1 (by decide), fun z => absurd z.1 (by decide)⟩ | omega)]
      obtain ⟨hA1, hA2, hA3, hA4⟩ := hA
      refine ⟨⟨hA1, hA2, hA3, pth_same _ _ _ _ (fun j _ _ => F 338 _ (by first | decide | exact fun z => absurd z.1 (by decide) | exact ⟨fun z => absurd z.1 (by decide), fun z => absurd z.1 (by decide)⟩ | omega)) hA4⟩, ?_⟩
      rcases hB with hB | ⟨hB1, hB2, hB3⟩
      · exact Or.inl hB
      · exact Or.inr ⟨hB1, hB2, Int.le_refl _, pth_same _ _ _ _ (fun j _ _ => F 338 _ (by first | decide | exact fun z => absurd z.1 (by decide) | exact ⟨fun z => absurd z.1 (by decide), fun z => absurd z.1 (by decide)⟩ | omega)) hB3⟩
    · have z : ∀ q : Int, 0 ≤ q → q ≤ 3 → m2 340 (48 * t + 4 * i + q) = m0 340 (48 * t + 4 * i + q) := fun q q0 q3 => (F 340 _ (by first | decide | exact fun z => absurd z.1 (by decide) | exact ⟨fun z => absurd z.1 (by decide), fun z => absurd z.1 (by decide)⟩ | omega)).trans (h40 _ (by omega))
      have z0 : m2 340 (48 * t + 4 * i) = m0 340 (48 * t + 4 * i) := (F 340 _ (by first | decide | exact fun z => absurd z.1 (by decide) | exact ⟨fun z => absurd z.1 (by decide), fun z => absurd z.1 (by decide)⟩ | omega)).trans (h40 _ (by omega))
      exact (rA i i0 (by omega)).same z0 (z 1 (by decide) (by decide)) (z 2 (by decide) (by decide)) (z 3 (by decide) (by decide)) (fun j q => (F 338 j (by first | decide | exact fun z => absurd z.1 (by decide) | exact ⟨fun z => absurd z.1 (by decide), fun z => absurd z.1 (by decide)⟩ | omega)).trans (h38 j q)) hl
  refine u_X12_isTurnHere ?_
  refine ⟨hS.k336, ?_⟩
  have b80 := hm0.f_336_8
  have tls := tl_s
  have tws := tw_s
  have nb' := hR.2.1
  refine zx_passWord 6 hS hm0 hR rfl b80.1 (by decide) wk0 (fun m1 hm1 f1 ep1 rn1 => ?_)
  have y1 : m0 336 8 ≤ m1 336 8 := by omega
  have t1 : m1 336 11 = t := (f1 336 11 (by first | decide | exact fun z => absurd z.1 (by decide) | exact ⟨fun z => absurd z.1 (by decide), fun z => absurd z.1 (by decide)⟩ | omega)).trans g1
  refine g_C ?_
  refine g_getu 11 rfl hS.k336 (fun v1 ev1 => ?_)
  refine g_M (by omega) (by omega) ?_
  refine g_C ?_
  refine g_getr 6 341 rfl hS.k336 hm1.f_336_6 (by decide) ?_
  refine g_getu 11 rfl hS.k336 (fun v2 ev2 => ?_)
  refine g_ldu hS.k341 hS.l341 (by omega) (by omega) (fun v3 ev3 => ?_)
  rw [ev2, t1, f1 341 _ (by first | decide | exact fun z => absurd z.1 (by decide) | exact ⟨fun z => absurd z.1 (by decide), fun z => absurd z.1 (by decide)⟩ | omega), ← hc0] at ev3
  refine g_M (by omega) (by omega) ?_
  refine g_A (by omega) (by omega) ?_
  rw [show 48 * v1 + 4 * v3 = 48 * t + 4 * c0 by omega]
  refine g_getr 5 340 rfl hS.k336 hm1.f_336_5 (by decide) ?_
  refine g_getr 4 339 rfl hS.k336 hm1.f_336_4 (by decide) ?_
  refine g_getu 11 rfl hS.k336 (fun v4 ev4 => ?_)
  refine g_ldu hS.k339 hS.l339 (by omega) (by omega) (fun l1 el1 => ?_)
  rw [ev4, t1, f1 339 _ (by first | decide | exact fun z => absurd z.1 (by decide) | exact ⟨fun z => absurd z.1 (by decide), fun z => absurd z.1 (by decide)⟩ | omega)] at el1
  have hw2 : Inv X S (up m1 340 (48 * t + 4 * c0) l1) := hm1.wA (1, 0) (by decide) (by decide +kernel) (okb_n rfl) (by omega) (by decide) (by decide)
  refine g_st hS.k340 hS.l340 (by omega) (by omega) hw2 (fun m2 e2 hm2 => ?_)
  have f2 : ∀ c p : Int, ¬ (c = 340 ∧ p = 48 * t + 4 * c0) → m2 c p = m1 c p := fun c p q => (congrFun (congrFun e2 _) _).trans (up_ne q)
  have x2 : m2 340 (48 * t + 4 * c0) = l1 := (congrFun (congrFun e2 _) _).trans (up_at _ _ _ _)
  have F2 : ∀ c p : Int, ¬ (c = 340 ∧ p = 48 * t + 4 * c0) ∧ ¬ (c = 336 ∧ p = 8) → m2 c p = m0 c p := fun c p q => (f2 c p (by first | exact fun y => absurd (y.1 ▸ z) (by decide) | exact fun y => absurd (y.1 ▸ q) (by decide) | exact z | exact q | exact z.1 | exact q.1 | exact z.2 | exact q.2 | omega)).trans (f1 c p (by first | exact fun y => absurd (y.1 ▸ z) (by decide) | exact fun y => absurd (y.1 ▸ q) (by decide) | exact z | exact q | exact z.1 | exact q.1 | exact z.2 | exact q.2 | omega))
  have t2 : m2 336 11 = t := (F2 336 11 (by first | decide | exact fun z => absurd z.1 (by decide) | exact ⟨fun z => absurd z.1 (by decide), fun z => absurd z.1 (by decide)⟩ | omega)).trans g1
  have g2' : GX X m2 := ⟨t2.trans ht, by omega, by omega⟩
  have l2 : m2 339 t = m0 339 t := F2 339 t (by first | decide | exact fun z => absurd z.1 (by decide) | exact ⟨fun z => absurd z.1 (by decide), fun z => absurd z.1 (by decide)⟩ | omega)
  have e82 : m2 336 8 = m1 336 8 := f2 336 8 (by first | decide | exact fun z => absurd z.1 (by decide) | exact ⟨fun z => absurd z.1 (by decide), fun z => absurd z.1 (by decide)⟩ | omega)
  have i2 : Ina X m2 0 l1 0 := by
    refine ⟨g2', by decide, ⟨⟨by omega, by rw [t2, l2]; omega⟩, ?_⟩, by decide, (hm2.f_336_12).1, by rw [t2, l2]; omega⟩
    rw [t2, l2, el1, show (m0 339 t - m0 339 t).toNat = 0 by omega]
    rfl
  refine ⟨hS.k336, ?_⟩
  have lr2 : Lw tb tn T O0 R0 m2 1 [] [] [] kk [] := by
    refine ⟨fun f E hA => hl0 f E ?_, by rw [F2 336 9 (by first | decide | exact fun z => absurd z.1 (by decide) | exact ⟨fun z => absurd z.1 (by decide), fun z => absurd z.1 (by decide)⟩ | omega)]; exact h90, by omega, ?_, rfl⟩
    · rw [show m2 336 8 = m0 336 8 + 4 by omega, F2 336 12 (by first | decide | exact fun z => absurd z.1 (by decide) | exact ⟨fun z => absurd z.1 (by decide), fun z => absurd z.1 (by decide)⟩ | omega), List.append_nil] at hA
      exact hA
    · rw [List.append_nil]
      exact hrq.same (fun c p z => F2 c p (by omega))
  refine zv_sum hS hm2 hR i2 (Or.inl rfl) rfl lr2 (fun m3 hm3 n3 t3 => g_ifF (by decide) (g_C ⟨by decide, hf m3 hm3 n3 t3⟩)) (fun m3 hm3 o3 lr3 xn3 => ?_)
  obtain ⟨P3, W3, lw3, zu3⟩ := lr3
  have tys := lw3.2.2.2.2
  have ap3 := uW_app (v := 0) (w := 5) (by decide) P3
  rw [zu3] at ap3
  obtain ⟨sm, hsm⟩ : ∃ sm : List Int, sm = W3 ++ uW 5 P3 := ⟨_, rfl⟩
  have ew0 : W3 ++ uW 0 P3 = sm := by
    rw [hsm, ap3.1]
    show W3 ++ (uW 5 P3 ++ []) = _
    rw [List.append_nil]
  have er0 : uR 0 P3 = [] := ap3.2.symm
  obtain ⟨⟨A3, A3b, A3c⟩, q3, l3, n3, d3⟩ := o3
  obtain ⟨a31, a32, a33, a34, a35, a36, a37⟩ := A3
  rw [t2] at a32 a33 a34
  rw [l2] at a33 a34
  obtain ⟨⟨q31, q32⟩, q33⟩ := q3
  rw [a32] at q32 q33 l3
  refine g_ifT (by decide) ?_
  refine g_getr 5 340 rfl hS.k336 hm3.f_336_5 (by decide) ?_
  refine g_C ?_
  refine g_A (by omega) (by omega) ?_
  refine g_getr 4 339 rfl hS.k336 hm3.f_336_4 (by decide) ?_
  refine g_getu 11 rfl hS.k336 (fun v5 ev5 => ?_)
  refine g_ldu hS.k339 hS.l339 (by omega) (by omega) (fun l4 el4 => ?_)
  rw [ev5, a32] at el4
  have hw4 : Inv X S (up m3 340 (48 * t + 4 * c0 + 1) l4) := hm3.wA (1, 0) (by decide) (by decide +kernel) (okb_n rfl) (nsp 1 (by decide)) (by decide) (by decide)
  refine g_st hS.k340 hS.l340 (by omega) (by omega) hw4 (fun m4 e4 hm4 => ?_)
  have f4 : ∀ c p : Int, ¬ (c = 340 ∧ p = 48 * t + 4 * c0 + 1) → m4 c p = m3 c p := fun c p q => (congrFun (congrFun e4 _) _).trans (up_ne q)
  have x4 : m4 340 (48 * t + 4 * c0 + 1) = l4 := (congrFun (congrFun e4 _) _).trans (up_at _ _ _ _)
  refine g_getr 5 340 rfl hS.k336 hm4.f_336_5 (by decide) ?_
  refine g_C ?_
  refine g_A (by omega) (by omega) ?_
  refine g_C ?_
  have hw5 : Inv X S (up m4 340 (48 * t + 4 * c0 + 2) (-1)) := hm4.wA (1, 0) (by decide) (by decide +kernel) (okb_n rfl) (nsp 2 (by decide)) (by decide) (by decide)
  refine g_st hS.k340 hS.l340 (by omega) (by omega) hw5 (fun m5 e5 hm5 => ?_)
  have f5 : ∀ c p : Int, ¬ (c = 340 ∧ p = 48 * t + 4 * c0 + 2) → m5 c p = m4 c p := fun c p q => (congrFun (congrFun e5 _) _).trans (up_ne q)
  have x5 : m5 340 (48 * t + 4 * c0 + 2) = -1 := (congrFun (congrFun e5 _) _).trans (up_at _ _ _ _)
  have F5 : ∀ c p : Int, ¬ (c = 340 ∧ (p = 48 * t + 4 * c0 + 1 ∨ p = 48 * t + 4 * c0 + 2)) → m5 c p = m3 c p := fun c p q => (f5 c p (by first | exact fun y => absurd (y.1 ▸ z) (by decide) | exact fun y => absurd (y.1 ▸ q) (by decide) | exact z | exact q | exact z.1 | exact q.1 | exact z.2 | exact q.2 | omega)).trans (f4 c p (by first | exact fun y => absurd (y.1 ▸ z) (by decide) | exact fun y => absurd (y.1 ▸ q) (by decide) | exact z | exact q | exact z.1 | exact q.1 | exact z.2 | exact q.2 | omega))
  -- what holds of every memory from here on that only reads on
  have len3 : m3 339 t = (R0.length : Int) + (sm.length : Int) := by
    have z := lw3.2.2.2.1.len (by rw [a32]; omega)
    rw [a32, ← hsm] at z
    rw [z, List.length_append]
    omega
  have keep : ∀ (m' : Mm) (bb : Bool) (tt : List Int), Lx tb tn T O0 R0 m' 9 (cod1 (sm, bb, tt)) (row1 (sm, bb, tt)) kk → (bb = true → tyl tt = some [true]) → ((bb = false ∧ tt = [] ∧ m' 340 (48 * t + 4 * c0 + 2) = -1) ∨ (bb = true ∧ m' 340 (48 * t + 4 * c0 + 2) = (R0.length : Int) + (sm.length : Int))) → (∀ c p : Int, ¬ (c = 336 ∧ 8 ≤ p ∧ p ≤ 16) ∧ ¬ c = 338 ∧ ¬ c = 339 ∧ ¬ c = 343 ∧ ¬ (c = 340 ∧ p = 48 * t + 4 * c0 + 2) → m' c p = m5 c p) → m' 336 11 = t → m' 336 14 = m5 336 14 → (∀ j : Int, j < 400 * t + m3 339 t → m' 338 j = m3 338 j) → m3 339 t ≤ m' 339 t → m' 339 t ≤ m' 336 8 → m3 336 8 ≤ m' 336 8 → Inv X S m' → (m' 340 (48 * t + 4 * c0 + 2) < 0 ∨ (0 ≤ m' 340 (48 * t + 4 * c0 + 2) ∧ m' 340 (48 * t + 4 * c0 + 2) ≤ m' 339 t ∧ pth m' t (m' 339 t - m' 340 (48 * t + 4 * c0 + 2)).toNat (m' 340 (48 * t + 4 * c0 + 2)) 0 1)) → wp_X12_isTurnHere_110 S K 336 (48 * t + 4 * c0) m' := by
    intro m' bb tt lx hty hE hF ht' h14 h38 hl h8 h88 hm' hB
    have z0 : m' 340 (48 * t + 4 * c0) = l1 := by rw [hF _ _ (by omega), F5 _ _ (by omega), a31 _ _ (by omega), x2]
    have z1 : m' 340 (48 * t + 4 * c0 + 1) = m3 339 t := by rw [hF _ _ (by omega), f5 _ _ (by omega), x4, el4]
    refine fin m' (sm, bb, tt) lx ⟨by rw [hsm]; exact tys, hty⟩ ⟨by rw [z0]; omega, by rw [z1]; exact len3, hE⟩ hm' ⟨ht'.trans ht, by omega, by omega⟩ h8 (fun p => ?_) ?_ (fun p q => ?_) (fun j q => ?_) (by omega) (by omega) ?_ hB
    · rw [hF 341 p (by first | decide | exact fun z => absurd z.1 (by decide) | exact ⟨fun z => absurd z.1 (by decide), fun z => absurd z.1 (by decide)⟩ | omega), F5 341 p (by first | decide | exact fun z => absurd z.1 (by decide) | exact ⟨fun z => absurd z.1 (by decide), fun z => absurd z.1 (by decide)⟩ | omega), a31 341 p (by omega), F2 341 p (by first | decide | exact fun z => absurd z.1 (by decide) | exact ⟨fun z => absurd z.1 (by decide), fun z => absurd z.1 (by decide)⟩ | omega)]
    · rw [h14, F5 336 14 (by first | decide | exact fun z => absurd z.1 (by decide) | exact ⟨fun z => absurd z.1 (by decide), fun z => absurd z.1 (by decide)⟩ | omega), a37, F2 336 14 (by first | decide | exact fun z => absurd z.1 (by decide) | exact ⟨fun z => absurd z.1 (by decide), fun z => absurd z.1 (by decide)⟩ | omega)]
    · rw [hF 340 p (by first | decide | exact fun z => absurd z.1 (by decide) | exact ⟨fun z => absurd z.1 (by decide), fun z => absurd z.1 (by decide)⟩ | omega), F5 340 p (by first | decide | exact fun z => absurd z.1 (by decide) | exact ⟨fun z => absurd z.1 (by decide), fun z => absurd z.1 (by decide)⟩ | omega), a31 340 p (by omega), F2 340 p (by first | decide | exact fun z => absurd z.1 (by decide) | exact ⟨fun z => absurd z.1 (by decide), fun z => absurd z.1 (by decide)⟩ | omega)]
    · rw [h38 j (by omega), a33 j q, F2 338 j (by first | decide | exact fun z => absurd z.1 (by decide) | exact ⟨fun z => absurd z.1 (by decide), fun z => absurd z.1 (by decide)⟩ | omega)]
    · rw [z0, z1]
      exact ⟨q31, q32, hl, pth_same _ _ _ _ (fun j _ _ => h38 _ (by omega)) q33⟩
  refine g_C ?_
  refine ⟨hS.k336, ?_⟩
  have e85 : m5 336 8 = m3 336 8 := F5 336 8 (by first | decide | exact fun z => absurd z.1 (by decide) | exact ⟨fun z => absurd z.1 (by decide), fun z => absurd z.1 (by decide)⟩ | omega)
  have b85 := hm5.f_336_8
  have lr5 : Lw tb tn T O0 R0 m5 4 P3 W3 sm kk [false] := by
    rw [hsm]
    exact Lw.eq (M := m3) lw3 (fun c p z => F5 c p (by omega)) e85 (F5 336 12 (by first | decide | exact fun z => absurd z.1 (by decide) | exact ⟨fun z => absurd z.1 (by decide), fun z => absurd z.1 (by decide)⟩ | omega)) (F5 336 9 (by first | decide | exact fun z => absurd z.1 (by decide) | exact ⟨fun z => absurd z.1 (by decide), fun z => absurd z.1 (by decide)⟩ | omega))
  refine zx_takesWord 13 hS hm5 hR lr5.2.2.1 (by decide) pw13 (fun r6 q m6 hm6 f6 sk6 qn6 h6 => ?_)
  have sk61 := sk6.1
  have y6 : m5 336 8 ≤ m6 336 8 := by omega
  have na6 : ¬ (q < tn ∧ Ar (tb q)) := xn3 q (by rw [← e85]; exact sk6)
  have l6 : m6 339 t = m3 339 t := by rw [f6 339 t (by first | decide | exact fun z => absurd z.1 (by decide) | exact ⟨fun z => absurd z.1 (by decide), fun z => absurd z.1 (by decide)⟩ | omega), F5 339 t (by first | decide | exact fun z => absurd z.1 (by decide) | exact ⟨fun z => absurd z.1 (by decide), fun z => absurd z.1 (by decide)⟩ | omega)]
  have t6 : m6 336 11 = t := by rw [f6 336 11 (by first | decide | exact fun z => absurd z.1 (by decide) | exact ⟨fun z => absurd z.1 (by decide), fun z => absurd z.1 (by decide)⟩ | omega), F5 336 11 (by first | decide | exact fun z => absurd z.1 (by decide) | exact ⟨fun z => absurd z.1 (by decide), fun z => absurd z.1 (by decide)⟩ | omega), a32]
  refine g_if (fun w => ?_) (fun w => ?_)
  · have h60 : m6 336 8 = q ∧ ¬ Wk tb tn 13 q := by
      rcases h6 with z | z
      · exact z.2
      · exfalso; have := z.1; omega
    have x62 : m6 340 (48 * t + 4 * c0 + 2) = -1 := by rw [f6 340 _ (by first | decide | exact fun z => absurd z.1 (by decide) | exact ⟨fun z => absurd z.1 (by decide), fun z => absurd z.1 (by decide)⟩ | omega), x5]
    have lx6 : Lx tb tn T O0 R0 m6 9 (cod1 (sm, false, [])) (row1 (sm, false, [])) kk := by
      refine ⟨fun f E hA => ?_, by rw [f6 336 9 (by first | decide | exact fun z => absurd z.1 (by decide) | exact ⟨fun z => absurd z.1 (by decide), fun z => absurd z.1 (by decide)⟩ | omega)]; exact lr5.2.1, by omega, ?_⟩
      · rw [h60.1, f6 336 12 (by first | decide | exact fun z => absurd z.1 (by decide) | exact ⟨fun z => absurd z.1 (by decide), fun z => absurd z.1 (by decide)⟩ | omega)] at hA
        by_cases ee : tn ≤ q ∨ tb q = 59
        · refine lr5.fault sk6 (tb_A0 (g_ifT ee ?_))
          rw [List.append_assoc O0, ew0, List.append_assoc O0]
          exact hA
        · obtain ⟨z1, z2⟩ := bcc9 hA sk6.idem ee
          rw [z1, z2]
          exact lr5.fault sk6 (tb_A0 (g_ifF ee (g_ifF (fun z => na6 ⟨by omega, z⟩) (g_ifF h60.2 ⟨rfl, rfl⟩))))
      · show RQ m6 (R0 ++ (sm ++ []))
        rw [List.append_nil]
        exact lr5.2.2.2.1.same (fun c p z => f6 c p (by first | exact fun y => absurd (y.1 ▸ z) (by decide) | exact fun y => absurd (y.1 ▸ q) (by decide) | exact z | exact q | exact z.1 | exact q.1 | exact z.2 | exact q.2 | omega))
    refine keep m6 false [] lx6 (fun z => by cases z) (Or.inl ⟨rfl, rfl, x62⟩) (fun c p q => f6 c p (by first | exact fun y => absurd (y.1 ▸ z) (by decide) | exact fun y => absurd (y.1 ▸ q) (by decide) | exact z | exact q | exact z.1 | exact q.1 | exact z.2 | exact q.2 | omega)) t6 (f6 336 14 (by first | decide | exact fun z => absurd z.1 (by decide) | exact ⟨fun z => absurd z.1 (by decide), fun z => absurd z.1 (by decide)⟩ | omega)) (fun j _ => by rw [f6 338 j (by first | decide | exact fun z => absurd z.1 (by decide) | exact ⟨fun z => absurd z.1 (by decide), fun z => absurd z.1 (by decide)⟩ | omega), F5 338 j (by first | decide | exact fun z => absurd z.1 (by decide) | exact ⟨fun z => absurd z.1 (by decide), fun z => absurd z.1 (by decide)⟩ | omega)]) (by omega) (by omega) (by omega) hm6 (Or.inl ?_)
    rw [f6 340 _ (by first | decide | exact fun z => absurd z.1 (by decide) | exact ⟨fun z => absurd z.1 (by decide), fun z => absurd z.1 (by decide)⟩ | omega), x5]
    decide
  · refine g_getr 5 340 rfl hS.k336 hm6.f_336_5 (by decide) ?_
    refine g_C ?_
    refine g_A (by omega) (by omega) ?_
    refine g_getr 4 339 rfl hS.k336 hm6.f_336_4 (by decide) ?_
    refine g_getu 11 rfl hS.k336 (fun v6 ev6 => ?_)
    refine g_ldu hS.k339 hS.l339 (by omega) (by omega) (fun l7 el7 => ?_)
    rw [ev6, t6] at el7
    have hw7 : Inv X S (up m6 340 (48 * t + 4 * c0 + 2) l7) := hm6.wA (1, 0) (by decide) (by decide +kernel) (okb_n rfl) (nsp 2 (by decide)) (by decide) (by decide)
    refine g_st hS.k340 hS.l340 (by omega) (by omega) hw7 (fun m7 e7 hm7 => ?_)
    have f7 : ∀ c p : Int, ¬ (c = 340 ∧ p = 48 * t + 4 * c0 + 2) → m7 c p = m6 c p := fun c p q => (congrFun (congrFun e7 _) _).trans (up_ne q)
    have x7 : m7 340 (48 * t + 4 * c0 + 2) = l7 := (congrFun (congrFun e7 _) _).trans (up_at _ _ _ _)
    have t7 : m7 336 11 = t := (f7 336 11 (by first | decide | exact fun z => absurd z.1 (by decide) | exact ⟨fun z => absurd z.1 (by decide), fun z => absurd z.1 (by decide)⟩ | omega)).trans t6
    have l77 : m7 339 t = m3 339 t := (f7 339 t (by first | decide | exact fun z => absurd z.1 (by decide) | exact ⟨fun z => absurd z.1 (by decide), fun z => absurd z.1 (by decide)⟩ | omega)).trans l6
    have e87 : m7 336 8 = m6 336 8 := f7 336 8 (by first | decide | exact fun z => absurd z.1 (by decide) | exact ⟨fun z => absurd z.1 (by decide), fun z => absurd z.1 (by decide)⟩ | omega)
    refine ⟨hS.k336, ?_⟩
    have h61 : m6 336 8 = q + tl 13 ∧ Wk tb tn 13 q ∧ q + tl 13 ≤ tn := by
      rcases h6 with z | z
      · exfalso; have := z.1; omega
      · exact z.2
    have wn := wrd_no h61.2.1 (by decide)
    have wn1 := wn.1
    have wn2 := wn.2
    have h61a := h61.1
    have h61c := h61.2.2
    have rq7 : RQ m7 (R0 ++ sm ++ []) := by
      rw [List.append_nil]
      exact lr5.2.2.2.1.same (fun c p z => (f7 c p (by first | exact fun y => absurd (y.1 ▸ z) (by decide) | exact fun y => absurd (y.1 ▸ q) (by decide) | exact z | exact q | exact z.1 | exact q.1 | exact z.2 | exact q.2 | omega)).trans (f6 c p (by first | exact fun y => absurd (y.1 ▸ z) (by decide) | exact fun y => absurd (y.1 ▸ q) (by decide) | exact z | exact q | exact z.1 | exact q.1 | exact z.2 | exact q.2 | omega)))
    have lr7' : Lw tb tn T O0 R0 m7 8 [] sm sm kk [false] := lr5.to sk6 (p := q + 2) (c := m5 336 12) (by omega) (by rw [f7 336 12 (by first | decide | exact fun z => absurd z.1 (by decide) | exact ⟨fun z => absurd z.1 (by decide), fun z => absurd z.1 (by decide)⟩ | omega), f6 336 12 (by first | decide | exact fun z => absurd z.1 (by decide) | exact ⟨fun z => absurd z.1 (by decide), fun z => absurd z.1 (by decide)⟩ | omega)]) (by rw [f7 336 9 (by first | decide | exact fun z => absurd z.1 (by decide) | exact ⟨fun z => absurd z.1 (by decide), fun z => absurd z.1 (by decide)⟩ | omega), f6 336 9 (by first | decide | exact fun z => absurd z.1 (by decide) | exact ⟨fun z => absurd z.1 (by decide), fun z => absurd z.1 (by decide)⟩ | omega)]) (by omega) (fun f E hA => tb_A0 (g_ifF (by first | decide | omega) (g_ifF (fun z => na6 ⟨wn1, z⟩) (g_ifT h61.2.1 (by rw [er0, List.append_assoc O0, ew0]; exact hA))))) (by rw [List.append_nil] at rq7; exact rq7) lr5.2.2.2.2
    have lr7 : Lw tb tn T (O0 ++ sm) (R0 ++ sm) m7 8 [] [] [] kk [] := ⟨fun f E hA => lr7'.1 f E (by rw [List.append_nil] at hA; exact hA), lr7'.2.1, lr7'.2.2.1, rq7, rfl⟩
    refine zv_tested hS hm7 hR ⟨t7.trans ht, by omega, by omega⟩ (by rw [t7, l77]; omega) lr7 (fun m8 hm8 n8 t8 => g_ifF (by decide) (g_C ⟨by decide, hf m8 hm8 n8 t8⟩)) (fun m8 s8 hm8 A8 q8 l8 lr8 => ?_)
    obtain ⟨a81, a82, a83, a84, a85, a86, a87⟩ := A8
    rw [t7] at a82 a83 a84 q8
    rw [l77] at a83 a84 q8
    obtain ⟨⟨q81, q82⟩, q83⟩ := q8
    rw [a82] at q82 q83 l8
    have x8 : m8 340 (48 * t + 4 * c0 + 2) = m3 339 t := by rw [a81 _ _ (by omega), x7]; omega
    refine g_ifT (by decide) ?_
    have lx8 : Lx tb tn T O0 R0 m8 9 (cod1 (sm, true, s8)) (row1 (sm, true, s8)) kk := by
      refine ⟨fun f E hA => lr8.1 f E ?_, lr8.2.1, lr8.2.2.1, ?_⟩
      · rw [List.append_assoc]
        exact hA
      · show RQ m8 (R0 ++ (sm ++ s8))
        rw [← List.append_assoc]
        exact lr8.2.2.2.1
    refine keep m8 true s8 lx8 (fun _ => lr8.2.2.2.2) (Or.inr ⟨rfl, by rw [x8]; exact len3⟩) (fun c p q => ?_) a82 ?_ (fun j q => ?_) a84 l8 (by omega) hm8 (Or.inr ?_)
    · rw [a81 c p (by omega), f7 c p (by first | exact fun y => absurd (y.1 ▸ z) (by decide) | exact fun y => absurd (y.1 ▸ q) (by decide) | exact z | exact q | exact z.1 | exact q.1 | exact z.2 | exact q.2 | omega), f6 c p (by first | exact fun y => absurd (y.1 ▸ z) (by decide) | exact fun y => absurd (y.1 ▸ q) (by decide) | exact z | exact q | exact z.1 | exact q.1 | exact z.2 | exact q.2 | omega)]
    · rw [a87, f7 336 14 (by first | decide | exact fun z => absurd z.1 (by decide) | exact ⟨fun z => absurd z.1 (by decide), fun z => absurd z.1 (by decide)⟩ | omega), f6 336 14 (by first | decide | exact fun z => absurd z.1 (by decide) | exact ⟨fun z => absurd z.1 (by decide), fun z => absurd z.1 (by decide)⟩ | omega)]
    · rw [a83 j q, f7 338 j (by first | decide | exact fun z => absurd z.1 (by decide) | exact ⟨fun z => absurd z.1 (by decide), fun z => absurd z.1 (by decide)⟩ | omega), f6 338 j (by first | decide | exact fun z => absurd z.1 (by decide) | exact ⟨fun z => absurd z.1 (by decide), fun z => absurd z.1 (by decide)⟩ | omega), F5 338 j (by first | decide | exact fun z => absurd z.1 (by decide) | exact ⟨fun z => absurd z.1 (by decide), fun z => absurd z.1 (by decide)⟩ | omega)]
    · rw [x8]
      exact ⟨q81, q82, q83⟩
theorem zv_clauseR {X : Mm} {S : Sh} {m0 : Mm} {K : Int → Mm → Prop} {tb : Int → Int} {tn : Int} {T : Int → List Int → Prop} {Cs : List Cz} (hS : Shp S) (hm0 : Inv X S m0) (hR : TR X tb tn) (hr : Rl X m0 0) (tbl : Tbl m0 (X 336 2) 0 0 Cs) (cn : m0 341 (X 336 2) = (Cs.length : Int)) (lr : Lx tb tn T (codC Cs) (rowC Cs) m0 0 [] [] (m0 336 14)) (hf : ∀ M1 : Mm, Inv X S M1 → T (M1 336 9) [] → ¬ M1 336 9 = 0 → K 0 M1) (hk : ∀ (M1 : Mm) (Cs : List Cz), Inv X S M1 → Rl X M1 0 → m0 336 8 ≤ M1 336 8 → Tbl M1 (X 336 2) 0 0 Cs → M1 341 (X 336 2) = (Cs.length : Int) → Lx tb tn T (codC Cs) (rowC Cs) M1 9 [] [] (M1 336 14) → K 1 M1) : wp_X12_clauseHere S m0 336 K := by
  obtain ⟨kk, hkk⟩ : ∃ kk : Int, kk = m0 336 14 := ⟨_, rfl⟩
  rw [← hkk] at lr
  have b80 := hm0.f_336_8
  have nb' := hR.2.1
  refine u_X12_clauseHere ?_
  refine ⟨hS.k336, ?_⟩
  refine zx_see hS hm0 hR lr.2.2.1 (fun r1 q m1 hm1 f1 sk e1 qn y1 => ?_)
  have sk1 := sk.1
  have q0 : 0 ≤ q := by omega
  have r1' : Rl X m1 0 := hr.fr (fun c p q => f1 c p (by first | exact fun y => absurd (y.1 ▸ z) (by decide) | exact fun y => absurd (y.1 ▸ q) (by decide) | exact z | exact q | exact z.1 | exact q.1 | exact z.2 | exact q.2 | omega)) (by omega)
  have l1 : Lx tb tn T (codC Cs) (rowC Cs) m1 0 [] [] kk := lr.at (fun c p z => f1 c p (by first | exact fun y => absurd (y.1 ▸ z) (by decide) | exact fun y => absurd (y.1 ▸ q) (by decide) | exact z | exact q | exact z.1 | exact q.1 | exact z.2 | exact q.2 | omega)) sk e1 (f1 336 12 (by first | decide | exact fun z => absurd z.1 (by decide) | exact ⟨fun z => absurd z.1 (by decide), fun z => absurd z.1 (by decide)⟩ | omega)) (f1 336 9 (by first | decide | exact fun z => absurd z.1 (by decide) | exact ⟨fun z => absurd z.1 (by decide), fun z => absurd z.1 (by decide)⟩ | omega)) qn
  have i1 : Sk tb tn (m1 336 8) q := by rw [e1]; exact sk.idem
  obtain ⟨t1, t2, t3⟩ := id r1'.1
  refine g_getu 8 rfl hS.k336 (fun v ev => ?_)
  rw [show v = q by omega]
  refine g_getu 11 rfl hS.k336 (fun t et => ?_)
  refine g_C ?_
  refine g_ifT (by first | decide | omega) ?_
  refine g_C ?_
  refine u_X12_clauseHere_24 ?_
  refine g_ifT rfl ?_
  refine g_C ?_
  refine ⟨hS.k336, ?_⟩
  refine zx_isWord 6 hS hm1 hR l1.2.2.1 (by decide) pw6 (fun q' m2 hm2 f2 sk2 e2 qn2 wk => ?_) (fun q' m2 hm2 f2 sk2 e2 qn2 wk => ?_)
  · have eq := i1.uniq sk2
    rw [← eq] at e2 wk
    have r2' : Rl X m2 0 := r1'.fr (fun c p q => f2 c p (by first | exact fun y => absurd (y.1 ▸ z) (by decide) | exact fun y => absurd (y.1 ▸ q) (by decide) | exact z | exact q | exact z.1 | exact q.1 | exact z.2 | exact q.2 | omega)) (by omega)
    have l2 : Lx tb tn T (codC Cs) (rowC Cs) m2 0 [] [] kk := l1.at (fun c p z => f2 c p (by first | exact fun y => absurd (y.1 ▸ z) (by decide) | exact fun y => absurd (y.1 ▸ q) (by decide) | exact z | exact q | exact z.1 | exact q.1 | exact z.2 | exact q.2 | omega)) i1 e2 (f2 336 12 (by first | decide | exact fun z => absurd z.1 (by decide) | exact ⟨fun z => absurd z.1 (by decide), fun z => absurd z.1 (by decide)⟩ | omega)) (f2 336 9 (by first | decide | exact fun z => absurd z.1 (by decide) | exact ⟨fun z => absurd z.1 (by decide), fun z => absurd z.1 (by decide)⟩ | omega)) qn
    have i2 : Sk tb tn (m2 336 8) q := by rw [e2]; exact sk.idem
    have k2 : m2 336 14 = kk := by rw [f2 336 14 (by first | decide | exact fun z => absurd z.1 (by decide) | exact ⟨fun z => absurd z.1 (by decide), fun z => absurd z.1 (by decide)⟩ | omega), f1 336 14 (by first | decide | exact fun z => absurd z.1 (by decide) | exact ⟨fun z => absurd z.1 (by decide), fun z => absurd z.1 (by decide)⟩ | omega), hkk]
    refine g_ifT (by decide) ?_
    refine u_X12_clauseHere_56 ?_
    refine g_getu 14 rfl hS.k336 (fun l el => ?_)
    refine g_ifT rfl ?_
    refine g_C ?_
    refine u_X12_clauseHere_71 ?_
    obtain ⟨g, ra, rb, rc, re⟩ := id r2'
    refine g_if (fun w2 => ?_) (fun w2 => ?_)
    · refine g_getu 14 rfl hS.k336 (fun l2' el2 => ?_)
      refine g_C ?_
      refine g_A (by omega) (by omega) ?_
      refine g_put 14 rfl hS.k336 (hm2.w_336_14 (by omega) (by omega)) (fun m3 e3 hm3 => ?_)
      have f3 : ∀ c p : Int, ¬ (c = 336 ∧ p = 14) → m3 c p = m2 c p := fun c p q => (congrFun (congrFun e3 _) _).trans (up_ne q)
      have x3 : m3 336 14 = l2' + 1 := (congrFun (congrFun e3 _) _).trans (up_at _ _ _ _)
      have e8 : m3 336 8 = m2 336 8 := f3 336 8 (by first | decide | exact fun z => absurd z.1 (by decide) | exact ⟨fun z => absurd z.1 (by decide), fun z => absurd z.1 (by decide)⟩ | omega)
      have r3 : Rl X m3 1 := by
        refine ⟨⟨(f3 336 11 (by first | decide | exact fun z => absurd z.1 (by decide) | exact ⟨fun z => absurd z.1 (by decide), fun z => absurd z.1 (by decide)⟩ | omega)).trans g.1, g.2⟩, ?_, ?_, ?_, fun i i0 i1 => ?_⟩
        · rw [f3 339 _ (by first | decide | exact fun z => absurd z.1 (by decide) | exact ⟨fun z => absurd z.1 (by decide), fun z => absurd z.1 (by decide)⟩ | omega)]; omega
        · rw [f3 341 _ (by first | decide | exact fun z => absurd z.1 (by decide) | exact ⟨fun z => absurd z.1 (by decide), fun z => absurd z.1 (by decide)⟩ | omega)]; omega
        · rw [f3 341 _ (by first | decide | exact fun z => absurd z.1 (by decide) | exact ⟨fun z => absurd z.1 (by decide), fun z => absurd z.1 (by decide)⟩ | omega)]; omega
        · rw [f3 341 _ (by first | decide | exact fun z => absurd z.1 (by decide) | exact ⟨fun z => absurd z.1 (by decide), fun z => absurd z.1 (by decide)⟩ | omega)] at i1
          exact (re i i0 i1).same (f3 340 _ (by first | decide | exact fun z => absurd z.1 (by decide) | exact ⟨fun z => absurd z.1 (by decide), fun z => absurd z.1 (by decide)⟩ | omega)) (f3 340 _ (by first | decide | exact fun z => absurd z.1 (by decide) | exact ⟨fun z => absurd z.1 (by decide), fun z => absurd z.1 (by decide)⟩ | omega)) (f3 340 _ (by first | decide | exact fun z => absurd z.1 (by decide) | exact ⟨fun z => absurd z.1 (by decide), fun z => absurd z.1 (by decide)⟩ | omega)) (f3 340 _ (by first | decide | exact fun z => absurd z.1 (by decide) | exact ⟨fun z => absurd z.1 (by decide), fun z => absurd z.1 (by decide)⟩ | omega)) (fun j _ => f3 338 j (by first | decide | exact fun z => absurd z.1 (by decide) | exact ⟨fun z => absurd z.1 (by decide), fun z => absurd z.1 (by decide)⟩ | omega)) (by rw [f3 339 _ (by first | decide | exact fun z => absurd z.1 (by decide) | exact ⟨fun z => absurd z.1 (by decide), fun z => absurd z.1 (by decide)⟩ | omega)]; omega)
      refine g_ifT rfl ?_
      refine ⟨hS.k336, ?_⟩
      have rq3 : RQ m3 (rowC Cs) := by
        have z := l2.2.2.2
        rw [List.append_nil] at z
        exact z.same (fun c p z => f3 c p (by first | exact fun y => absurd (y.1 ▸ z) (by decide) | exact fun y => absurd (y.1 ▸ q) (by decide) | exact z | exact q | exact z.1 | exact q.1 | exact z.2 | exact q.2 | omega))
      have G : ∀ p : Int, m3 340 p = m0 340 p := fun p => by rw [f3 340 p (by first | decide | exact fun z => absurd z.1 (by decide) | exact ⟨fun z => absurd z.1 (by decide), fun z => absurd z.1 (by decide)⟩ | omega), f2 340 p (by first | decide | exact fun z => absurd z.1 (by decide) | exact ⟨fun z => absurd z.1 (by decide), fun z => absurd z.1 (by decide)⟩ | omega), f1 340 p (by first | decide | exact fun z => absurd z.1 (by decide) | exact ⟨fun z => absurd z.1 (by decide), fun z => absurd z.1 (by decide)⟩ | omega)]
      have G1 : m3 341 (X 336 2) = m0 341 (X 336 2) := by rw [f3 341 _ (by first | decide | exact fun z => absurd z.1 (by decide) | exact ⟨fun z => absurd z.1 (by decide), fun z => absurd z.1 (by decide)⟩ | omega), f2 341 _ (by first | decide | exact fun z => absurd z.1 (by decide) | exact ⟨fun z => absurd z.1 (by decide), fun z => absurd z.1 (by decide)⟩ | omega), f1 341 _ (by first | decide | exact fun z => absurd z.1 (by decide) | exact ⟨fun z => absurd z.1 (by decide), fun z => absurd z.1 (by decide)⟩ | omega)]
      refine zv_isTurnHere (kk := kk + 1) (T := T) (O0 := codC Cs) (R0 := rowC Cs) hS hm3 hR r3 (by rw [e8, e2]; exact wk) ((f3 336 9 (by first | decide | exact fun z => absurd z.1 (by decide) | exact ⟨fun z => absurd z.1 (by decide), fun z => absurd z.1 (by decide)⟩ | omega)).trans l2.2.1) rq3 (fun f E hA => ?_) (fun m4 hm4 n4 t4 => ⟨by decide, hf m4 hm4 n4 t4⟩) (fun m4 cl hm4 r4 p4 k4 lx ty4 en4 fr4 c4 => ⟨by decide, ?_⟩)
      · rw [e8, e2, f3 336 12 (by first | decide | exact fun z => absurd z.1 (by decide) | exact ⟨fun z => absurd z.1 (by decide), fun z => absurd z.1 (by decide)⟩ | omega)] at hA
        exact l2.fault i2 (tb_0 (g_ifT wk (g_ifF (by first | decide | omega) (by rw [List.append_nil]; exact hA))))
      · have sn := codC_snoc Cs cl
        rw [G1, cn] at en4 fr4 c4
        have t4 : Tbl m4 (X 336 2) 0 0 Cs := Tbl.same _ _ _ (fun p hp => (fr4 p (by omega)).trans (G p)) tbl
        refine hk m4 (Cs ++ [cl]) hm4 r4 (by omega) (Tbl.snoc _ _ _ _ t4 ty4 (by rw [Int.zero_add, Int.zero_add]; exact en4)) (by rw [c4, List.length_append]; rfl) ?_
        rw [show m4 336 14 = kk + 1 by omega, sn.1, sn.2]
        exact ⟨fun f E hA => lx.1 f E (by rw [List.append_nil] at hA; exact hA), lx.2.1, lx.2.2.1, by rw [List.append_nil]; exact lx.2.2.2⟩
    · refine g_C ?_
      refine ⟨hS.k336, ?_⟩
      refine zx_fails hS hm2 l2.2.1 (by decide) (by decide) q0 (by omega) (fun m3 hm3 f3 e9 => ?_)
      refine ⟨by decide, hf m3 hm3 ?_ (by omega)⟩
      rw [e9, show 1 + 8 * q + 4 = 5 + 8 * q by omega]
      exact l2.fault i2 (tb_0 (g_ifT wk (g_ifT (by first | decide | omega) ⟨rfl, rfl⟩)))
  · have eq := i1.uniq sk2
    rw [← eq] at e2 wk
    have l2 : Lx tb tn T (codC Cs) (rowC Cs) m2 0 [] [] kk := l1.at (fun c p z => f2 c p (by first | exact fun y => absurd (y.1 ▸ z) (by decide) | exact fun y => absurd (y.1 ▸ q) (by decide) | exact z | exact q | exact z.1 | exact q.1 | exact z.2 | exact q.2 | omega)) i1 e2 (f2 336 12 (by first | decide | exact fun z => absurd z.1 (by decide) | exact ⟨fun z => absurd z.1 (by decide), fun z => absurd z.1 (by decide)⟩ | omega)) (f2 336 9 (by first | decide | exact fun z => absurd z.1 (by decide) | exact ⟨fun z => absurd z.1 (by decide), fun z => absurd z.1 (by decide)⟩ | omega)) qn
    have i2 : Sk tb tn (m2 336 8) q := by rw [e2]; exact sk.idem
    refine g_ifF (by decide) ?_
    refine u_X12_clauseHere_49 ?_
    refine g_C ?_
    refine ⟨hS.k336, ?_⟩
    refine zx_fails hS hm2 l2.2.1 (by decide) (by decide) q0 (by omega) (fun m3 hm3 f3 e9 => ?_)
    refine ⟨by decide, hf m3 hm3 ?_ (by omega)⟩
    rw [e9, show 1 + 8 * q + 0 = 1 + 8 * q by omega]
    exact l2.fault i2 (tb_0 (g_ifF wk ⟨rfl, rfl⟩))
theorem zv_readsAll {X : Mm} {S : Sh} {m0 : Mm} {K : Int → Mm → Prop} {tb : Int → Int} {tn : Int} {T : Int → List Int → Prop} (hS : Shp S) (hm0 : Inv X S m0) (hR : TR X tb tn) (g0 : GX X m0) (h41 : m0 341 (X 336 2) = 0) (hT : ∀ (f : Int) (E : List Int), Bcc tb tn 0 0 0 [] [] 0 f E → T f E) (hf : ∀ M9 : Mm, Inv X S M9 → T (M9 336 9) [] → ¬ M9 336 9 = 0 → K 0 (up M9 336 1 0)) (hk : ∀ (M9 : Mm) (Cs : List Cz), Inv X S M9 → Rl X M9 0 → T 0 (codC Cs) → RQ M9 (rowC Cs) → Tbl M9 (X 336 2) 0 0 Cs → M9 341 (X 336 2) = (Cs.length : Int) → M9 336 9 = 0 → K 1 (up M9 336 1 0)) : wp_X12_readsAll S m0 336 K := by
  have nb' := hR.2.1
  obtain ⟨ga, gb, gc⟩ := id g0
  have fin : ∀ m : Mm, Inv X S m → ((¬ m 336 9 = 0 ∧ T (m 336 9) []) ∨ (m 336 9 = 0 ∧ ∃ Cs : List Cz, Rl X m 0 ∧ T 0 (codC Cs) ∧ RQ m (rowC Cs) ∧ Tbl m (X 336 2) 0 0 Cs ∧ m 341 (X 336 2) = (Cs.length : Int))) → wp_X12_readsAll_88 S K 336 m := by
    intro m hm hp
    refine u_X12_readsAll_88 ?_
    refine g_C ?_
    refine g_putR 1 rfl hS.k336 (fun m1 e1 => ?_)
    subst e1
    refine g_getu 9 rfl hS.k336 (fun v ev => ?_)
    have e9 : v = m 336 9 := ev.trans (up_ne (by omega))
    rcases hp with ⟨h1, h2⟩ | ⟨h1, Cs, h2, h3, h4, h5, h6⟩
    · exact g_ifT (by first | decide | omega) (g_C ⟨by decide, hf m hm h2 h1⟩)
    · exact g_ifF (by first | decide | omega) (g_C ⟨by decide, hk m Cs hm h2 h3 h4 h5 h6 h1⟩)
  have L : ∀ (n : Nat) (u : Int) (m : Mm), Inv X S m → ((u = 0 ∧ (¬ m 336 9 = 0 ∧ T (m 336 9) []) ∧ 1 ≤ n) ∨ (u = 1 ∧ (Rl X m 0 ∧ ∃ Cs : List Cz, Tbl m (X 336 2) 0 0 Cs ∧ m 341 (X 336 2) = (Cs.length : Int) ∧ Lx tb tn T (codC Cs) (rowC Cs) m 9 [] [] (m 336 14)) ∧ 402 - m 336 8 ≤ (n : Int))) → wp_X12_readsAll_35 S K n 336 u m := by
    intro n
    induction n with
    | zero =>
      intro u m hm h
      have b8 := hm.f_336_8
      exfalso
      rcases h with h | h
      · exact absurd h.2.2 (by decide)
      · have := h.2.2; omega
    | succ n ih =>
      intro u m hm h
      refine u_X12_readsAll_35 ?_
      rcases h with ⟨h1, h2, h3⟩ | ⟨h1, ⟨h2, Cs, tb0, cn0, ls⟩, h3⟩
      · refine g_ifT h1 ?_
        refine u_X12_readsAll_66 ?_
        refine g_ifT h1 ?_
        exact fin m hm (Or.inl h2)
      · refine g_ifF (by first | decide | omega) ?_
        have b80 := hm.f_336_8
        refine ⟨hS.k336, ?_⟩
        refine zx_see hS hm hR ls.2.2.1 (fun r1 q m1 hm1 f1 sk e1 qn y1 => ?_)
        have sk1 := sk.1
        have q0 : 0 ≤ q := by omega
        have p1 : Rl X m1 0 := h2.fr (fun c p q => f1 c p (by first | exact fun y => absurd (y.1 ▸ z) (by decide) | exact fun y => absurd (y.1 ▸ q) (by decide) | exact z | exact q | exact z.1 | exact q.1 | exact z.2 | exact q.2 | omega)) (by omega)
        have l1 : Lx tb tn T (codC Cs) (rowC Cs) m1 9 [] [] (m 336 14) := ls.at (fun c p z => f1 c p (by first | exact fun y => absurd (y.1 ▸ z) (by decide) | exact fun y => absurd (y.1 ▸ q) (by decide) | exact z | exact q | exact z.1 | exact q.1 | exact z.2 | exact q.2 | omega)) sk e1 (f1 336 12 (by first | decide | exact fun z => absurd z.1 (by decide) | exact ⟨fun z => absurd z.1 (by decide), fun z => absurd z.1 (by decide)⟩ | omega)) (f1 336 9 (by first | decide | exact fun z => absurd z.1 (by decide) | exact ⟨fun z => absurd z.1 (by decide), fun z => absurd z.1 (by decide)⟩ | omega)) qn
        have i1 : Sk tb tn (m1 336 8) q := by rw [e1]; exact sk.idem
        have c59 := u8_is hR (v := 59) q0 y1 (by decide) (by decide)
        refine g_C ?_
        refine g_if (fun w => ?_) (fun w => ?_)
        · have n59 : ¬ (q < tn ∧ tb q = 59) := fun z => by have := c59.2 z; omega
          refine u_X12_readsAll_66 ?_
          refine g_ifF (by first | decide | omega) ?_
          refine ⟨hS.k336, ?_⟩
          refine zx_see hS hm1 hR l1.2.2.1 (fun r2 q2 m2 hm2 f2 sk2 e2 qn2 y2 => ?_)
          have eq := i1.uniq sk2
          rw [← eq] at e2 y2
          have p2 : Rl X m2 0 := p1.fr (fun c p q => f2 c p (by first | exact fun y => absurd (y.1 ▸ z) (by decide) | exact fun y => absurd (y.1 ▸ q) (by decide) | exact z | exact q | exact z.1 | exact q.1 | exact z.2 | exact q.2 | omega)) (by omega)
          have l2 : Lx tb tn T (codC Cs) (rowC Cs) m2 9 [] [] (m 336 14) := l1.at (fun c p z => f2 c p (by first | exact fun y => absurd (y.1 ▸ z) (by decide) | exact fun y => absurd (y.1 ▸ q) (by decide) | exact z | exact q | exact z.1 | exact q.1 | exact z.2 | exact q.2 | omega)) i1 e2 (f2 336 12 (by first | decide | exact fun z => absurd z.1 (by decide) | exact ⟨fun z => absurd z.1 (by decide), fun z => absurd z.1 (by decide)⟩ | omega)) (f2 336 9 (by first | decide | exact fun z => absurd z.1 (by decide) | exact ⟨fun z => absurd z.1 (by decide), fun z => absurd z.1 (by decide)⟩ | omega)) qn
          have i2 : Sk tb tn (m2 336 8) q := by rw [e2]; exact sk.idem
          have rr : r2 = -1 ↔ tn ≤ q := by
            rcases y2 with ⟨z1, z2⟩ | ⟨z1, z2⟩
            · have zb := hR.2.2 q q0 z1
              have zu := u8_r zb.2.1 zb.2.2
              exact ⟨fun y => by omega, fun y => by omega⟩
            · exact ⟨fun _ => z1, fun _ => z2⟩
          refine g_C ?_
          refine g_if (fun w2 => fin m2 hm2 (Or.inr ⟨l2.2.1, Cs, p2, l2.fault i2 (tb_E (g_ifT (rr.1 (by omega)) ⟨rfl, (List.append_nil _).symm⟩)), by have z := l2.2.2.2; rw [List.append_nil] at z; exact z, Tbl.same _ _ _ (fun p _ => (f2 340 p (by first | decide | exact fun z => absurd z.1 (by decide) | exact ⟨fun z => absurd z.1 (by decide), fun z => absurd z.1 (by decide)⟩ | omega)).trans (f1 340 p (by first | decide | exact fun z => absurd z.1 (by decide) | exact ⟨fun z => absurd z.1 (by decide), fun z => absurd z.1 (by decide)⟩ | omega))) tb0, by rw [f2 341 _ (by first | decide | exact fun z => absurd z.1 (by decide) | exact ⟨fun z => absurd z.1 (by decide), fun z => absurd z.1 (by decide)⟩ | omega), f1 341 _ (by first | decide | exact fun z => absurd z.1 (by decide) | exact ⟨fun z => absurd z.1 (by decide), fun z => absurd z.1 (by decide)⟩ | omega)]; exact cn0⟩)) (fun w2 => ?_)
          have nq : ¬ tn ≤ q := fun z => by have := rr.2 z; omega
          refine g_C ?_
          refine g_getu 8 rfl hS.k336 (fun v ev => ?_)
          rw [show v = q by omega]
          refine ⟨hS.k336, ?_⟩
          refine zx_fails hS hm2 l2.2.1 (by decide) (by decide) q0 (by omega) (fun m3 hm3 f3 e9 => ?_)
          refine fin m3 hm3 (Or.inl ⟨by omega, ?_⟩)
          rw [e9, show 1 + 8 * q + 0 = 1 + 8 * q by omega]
          exact l2.fault i2 (tb_E (g_ifF nq (g_ifF (fun z => n59 ⟨by omega, z⟩) ⟨rfl, rfl⟩)))
        · have y59 := c59.1 (by omega)
          have y59a := y59.1
          refine g_getu 8 rfl hS.k336 (fun v ev => ?_)
          refine g_C ?_
          refine g_A (by omega) (by omega) ?_
          refine g_put 8 rfl hS.k336 (hm1.w_336_8 (by omega) (by omega)) (fun m2 e2 hm2 => ?_)
          have f2 : ∀ c p : Int, ¬ (c = 336 ∧ p = 8) → m2 c p = m1 c p := fun c p q => (congrFun (congrFun e2 _) _).trans (up_ne q)
          have x2 : m2 336 8 = v + 1 := (congrFun (congrFun e2 _) _).trans (up_at _ _ _ _)
          have p2 : Rl X m2 0 := p1.fr (fun c p q => f2 c p (by first | exact fun y => absurd (y.1 ▸ z) (by decide) | exact fun y => absurd (y.1 ▸ q) (by decide) | exact z | exact q | exact z.1 | exact q.1 | exact z.2 | exact q.2 | omega)) (by omega)
          have k2 : m2 336 14 = m 336 14 := by rw [f2 336 14 (by first | decide | exact fun z => absurd z.1 (by decide) | exact ⟨fun z => absurd z.1 (by decide), fun z => absurd z.1 (by decide)⟩ | omega), f1 336 14 (by first | decide | exact fun z => absurd z.1 (by decide) | exact ⟨fun z => absurd z.1 (by decide), fun z => absurd z.1 (by decide)⟩ | omega)]
          have l2 : Lx tb tn T (codC Cs) (rowC Cs) m2 0 [] [] (m2 336 14) := by
            rw [k2]
            exact l1.to i1 (p := q + 1) (c := m1 336 12) (by omega) (f2 336 12 (by first | decide | exact fun z => absurd z.1 (by decide) | exact ⟨fun z => absurd z.1 (by decide), fun z => absurd z.1 (by decide)⟩ | omega)) (f2 336 9 (by first | decide | exact fun z => absurd z.1 (by decide) | exact ⟨fun z => absurd z.1 (by decide), fun z => absurd z.1 (by decide)⟩ | omega)) (by omega) (fun f E hA => tb_E (g_ifF (by first | decide | omega) (g_ifT y59.2 hA))) (l1.2.2.2.same (fun c p z => f2 c p (by first | exact fun y => absurd (y.1 ▸ z) (by decide) | exact fun y => absurd (y.1 ▸ q) (by decide) | exact z | exact q | exact z.1 | exact q.1 | exact z.2 | exact q.2 | omega)))
          refine ⟨hS.k336, ?_⟩
          refine zv_clauseR hS hm2 hR p2 (Tbl.same _ _ _ (fun p _ => (f2 340 p (by first | decide | exact fun z => absurd z.1 (by decide) | exact ⟨fun z => absurd z.1 (by decide), fun z => absurd z.1 (by decide)⟩ | omega)).trans (f1 340 p (by first | decide | exact fun z => absurd z.1 (by decide) | exact ⟨fun z => absurd z.1 (by decide), fun z => absurd z.1 (by decide)⟩ | omega))) tb0) (by rw [f2 341 _ (by first | decide | exact fun z => absurd z.1 (by decide) | exact ⟨fun z => absurd z.1 (by decide), fun z => absurd z.1 (by decide)⟩ | omega), f1 341 _ (by first | decide | exact fun z => absurd z.1 (by decide) | exact ⟨fun z => absurd z.1 (by decide), fun z => absurd z.1 (by decide)⟩ | omega)]; exact cn0) l2 (fun m3 hm3 n3 t3 => ?_) (fun m3 s3 hm3 p3 y3 tb3 cn3 l3 => ?_)
          · exact ih 0 m3 hm3 (Or.inl ⟨rfl, ⟨t3, n3⟩, by omega⟩)
          · exact ih 1 m3 hm3 (Or.inr ⟨rfl, ⟨p3, s3, tb3, cn3, l3⟩, by omega⟩)
  refine u_X12_readsAll ?_
  refine g_getr 4 339 rfl hS.k336 hm0.f_336_4 (by decide) ?_
  refine g_getu 11 rfl hS.k336 (fun t et => ?_)
  refine g_C ?_
  refine g_st hS.k339 hS.l339 (by omega) (by omega) (hm0.wa_339 (by omega) (by omega) (by omega) (by omega)) (fun m1 e1 hm1 => ?_)
  refine g_C ?_
  refine g_put 14 rfl hS.k336 (hm1.w_336_14 (by omega) (by omega)) (fun m2 e2 hm2 => ?_)
  refine g_C ?_
  refine g_put 8 rfl hS.k336 (hm2.w_336_8 (by omega) (by omega)) (fun m3 e3 hm3 => ?_)
  refine g_C ?_
  refine g_put 9 rfl hS.k336 (hm3.w_336_9 (by omega) (by omega)) (fun m4 e4 hm4 => ?_)
  refine g_C ?_
  refine g_put 12 rfl hS.k336 (hm4.w_336_12 (by omega) (by omega)) (fun m5 e5 hm5 => ?_)
  have f1 : ∀ c p : Int, ¬ (c = 339 ∧ p = t) → m1 c p = m0 c p := fun c p q => (congrFun (congrFun e1 _) _).trans (up_ne q)
  have x1 : m1 339 t = 0 := (congrFun (congrFun e1 _) _).trans (up_at _ _ _ _)
  have f2 : ∀ c p : Int, ¬ (c = 336 ∧ p = 14) → m2 c p = m1 c p := fun c p q => (congrFun (congrFun e2 _) _).trans (up_ne q)
  have x2 : m2 336 14 = 0 := (congrFun (congrFun e2 _) _).trans (up_at _ _ _ _)
  have f3 : ∀ c p : Int, ¬ (c = 336 ∧ p = 8) → m3 c p = m2 c p := fun c p q => (congrFun (congrFun e3 _) _).trans (up_ne q)
  have x3 : m3 336 8 = 0 := (congrFun (congrFun e3 _) _).trans (up_at _ _ _ _)
  have f4 : ∀ c p : Int, ¬ (c = 336 ∧ p = 9) → m4 c p = m3 c p := fun c p q => (congrFun (congrFun e4 _) _).trans (up_ne q)
  have x4 : m4 336 9 = 0 := (congrFun (congrFun e4 _) _).trans (up_at _ _ _ _)
  have f5 : ∀ c p : Int, ¬ (c = 336 ∧ p = 12) → m5 c p = m4 c p := fun c p q => (congrFun (congrFun e5 _) _).trans (up_ne q)
  have x5 : m5 336 12 = 0 := (congrFun (congrFun e5 _) _).trans (up_at _ _ _ _)
  have F : ∀ c p : Int, ¬ (c = 336 ∧ (p = 14 ∨ p = 8 ∨ p = 9 ∨ p = 12)) → m5 c p = m1 c p := fun c p q => by rw [f5 c p (by first | exact fun y => absurd (y.1 ▸ z) (by decide) | exact fun y => absurd (y.1 ▸ q) (by decide) | exact z | exact q | exact z.1 | exact q.1 | exact z.2 | exact q.2 | omega), f4 c p (by first | exact fun y => absurd (y.1 ▸ z) (by decide) | exact fun y => absurd (y.1 ▸ q) (by decide) | exact z | exact q | exact z.1 | exact q.1 | exact z.2 | exact q.2 | omega), f3 c p (by first | exact fun y => absurd (y.1 ▸ z) (by decide) | exact fun y => absurd (y.1 ▸ q) (by decide) | exact z | exact q | exact z.1 | exact q.1 | exact z.2 | exact q.2 | omega), f2 c p (by first | exact fun y => absurd (y.1 ▸ z) (by decide) | exact fun y => absurd (y.1 ▸ q) (by decide) | exact z | exact q | exact z.1 | exact q.1 | exact z.2 | exact q.2 | omega)]
  have z14 : m5 336 14 = 0 := by rw [f5 336 14 (by first | decide | exact fun z => absurd z.1 (by decide) | exact ⟨fun z => absurd z.1 (by decide), fun z => absurd z.1 (by decide)⟩ | omega), f4 336 14 (by first | decide | exact fun z => absurd z.1 (by decide) | exact ⟨fun z => absurd z.1 (by decide), fun z => absurd z.1 (by decide)⟩ | omega), f3 336 14 (by first | decide | exact fun z => absurd z.1 (by decide) | exact ⟨fun z => absurd z.1 (by decide), fun z => absurd z.1 (by decide)⟩ | omega), x2]
  have z8 : m5 336 8 = 0 := by rw [f5 336 8 (by first | decide | exact fun z => absurd z.1 (by decide) | exact ⟨fun z => absurd z.1 (by decide), fun z => absurd z.1 (by decide)⟩ | omega), f4 336 8 (by first | decide | exact fun z => absurd z.1 (by decide) | exact ⟨fun z => absurd z.1 (by decide), fun z => absurd z.1 (by decide)⟩ | omega), x3]
  have z9 : m5 336 9 = 0 := by rw [f5 336 9 (by first | decide | exact fun z => absurd z.1 (by decide) | exact ⟨fun z => absurd z.1 (by decide), fun z => absurd z.1 (by decide)⟩ | omega), x4]
  have z11 : m5 336 11 = X 336 2 := by rw [F 336 11 (by first | decide | exact fun z => absurd z.1 (by decide) | exact ⟨fun z => absurd z.1 (by decide), fun z => absurd z.1 (by decide)⟩ | omega), f1 336 11 (by first | decide | exact fun z => absurd z.1 (by decide) | exact ⟨fun z => absurd z.1 (by decide), fun z => absurd z.1 (by decide)⟩ | omega)]; exact ga
  have z39 : m5 339 (X 336 2) = 0 := by rw [F 339 _ (by first | decide | exact fun z => absurd z.1 (by decide) | exact ⟨fun z => absurd z.1 (by decide), fun z => absurd z.1 (by decide)⟩ | omega), show X 336 2 = t by omega, x1]
  have z41 : m5 341 (X 336 2) = 0 := by rw [F 341 _ (by first | decide | exact fun z => absurd z.1 (by decide) | exact ⟨fun z => absurd z.1 (by decide), fun z => absurd z.1 (by decide)⟩ | omega), f1 341 _ (by first | decide | exact fun z => absurd z.1 (by decide) | exact ⟨fun z => absurd z.1 (by decide), fun z => absurd z.1 (by decide)⟩ | omega)]; exact h41
  have r5 : Rl X m5 0 := ⟨⟨z11, gb, gc⟩, by omega, by omega, by omega, fun c c0 c1 => absurd c1 (by omega)⟩
  have rq5 : RQ m5 [] := by
    unfold RQ
    rw [z11, z39]
    rfl
  have l5 : Lx tb tn T (codC []) (rowC []) m5 0 [] [] (m5 336 14) := by
    refine ⟨fun f E hA => hT f E ?_, z9, by omega, rq5⟩
    rw [z8, x5, z14] at hA
    exact hA
  refine ⟨hS.k336, ?_⟩
  refine zv_clauseR hS hm5 hR r5 (Cs := []) trivial (by rw [z41]; rfl) l5 (fun m6 hm6 t6 n6 => ?_) (fun m6 s6 hm6 p6 y6 tb6 cn6 l6 => ?_)
  · exact ⟨402, L 402 0 m6 hm6 (Or.inl ⟨rfl, ⟨n6, t6⟩, by decide⟩)⟩
  · have b86 := hm6.f_336_8
    exact ⟨402, L 402 1 m6 hm6 (Or.inr ⟨rfl, ⟨p6, s6, tb6, cn6, l6⟩, by omega⟩)⟩
end
section
/-! what the signs say: a stack of numbers of 64 bits -/
def jo (x a b : Int) : Int := if x = -12 then w64 (a * b) else if x = -13 then (if b = 0 then 0 else lDiv a b) else if x = -14 then (if b = 0 then 0 else lRem a b) else if x = -15 then w64 (a + b) else if x = -16 then w64 (a - b) else if x = -17 then (if a < b then 1 else 0) else if x = -18 then (if a ≤ b then 1 else 0) else if x = -19 then (if a = b then 1 else 0) else if x = -20 then (if b ≤ a then 1 else 0) else if x = -21 then (if b < a then 1 else 0) else if x = -23 then lAnd a b else lOr a b
def ev1 (w : Int → Int) (L : List Int) (x : Int) : List Int := if -11 ≤ x then (if 0 ≤ x then x else w (-2 - x)) :: L else if x = -22 then (match L with | a :: L' => w64 (1 - a) :: L' | [] => []) else (match L with | b :: a :: L' => jo x a b :: L' | _ => [])
def evl (w : Int → Int) (L V : List Int) : List Int := V.foldl (ev1 w) L
/-- numbers of these types: tests are 0 or 1 -/
def Bt : List Int → List Bool → Prop
  | [], [] => True
  | a :: L, t :: D => (t = true → a = 0 ∨ a = 1) ∧ Bt L D
  | _, _ => False
theorem Bt.len : ∀ (L : List Int) (D : List Bool), Bt L D → L.length = D.length := by
  intro L
  induction L with
  | nil =>
    intro D h
    cases D with
    | nil => rfl
    | cons t D => exact h.elim
  | cons a L ih =>
    intro D h
    cases D with
    | nil => exact h.elim
    | cons t D => rw [List.length_cons, List.length_cons, ih D h.2]
theorem jo_cm {x a b : Int} (h : -21 ≤ x ∧ x ≤ -17) : jo x a b = 0 ∨ jo x a b = 1 := by
  rcases (show x = -17 ∨ x = -18 ∨ x = -19 ∨ x = -20 ∨ x = -21 by omega) with e | e | e | e | e <;> subst e
  · show (if a < b then (1 : Int) else 0) = 0 ∨ (if a < b then (1 : Int) else 0) = 1
    split <;> omega
  · show (if a ≤ b then (1 : Int) else 0) = 0 ∨ (if a ≤ b then (1 : Int) else 0) = 1
    split <;> omega
  · show (if a = b then (1 : Int) else 0) = 0 ∨ (if a = b then (1 : Int) else 0) = 1
    split <;> omega
  · show (if b ≤ a then (1 : Int) else 0) = 0 ∨ (if b ≤ a then (1 : Int) else 0) = 1
    split <;> omega
  · show (if b < a then (1 : Int) else 0) = 0 ∨ (if b < a then (1 : Int) else 0) = 1
    split <;> omega
theorem bit01 : (lAnd 0 0 = 0 ∧ lAnd 0 1 = 0 ∧ lAnd 1 0 = 0 ∧ lAnd 1 1 = 1) ∧ (lOr 0 0 = 0 ∧ lOr 0 1 = 1 ∧ lOr 1 0 = 1 ∧ lOr 1 1 = 1) ∧ w64 (1 - 0) = 1 ∧ w64 (1 - 1) = 0 := by decide +kernel
theorem jo_two {x a b : Int} (h : x = -23 ∨ x = -24) (ha : a = 0 ∨ a = 1) (hb : b = 0 ∨ b = 1) : jo x a b = 0 ∨ jo x a b = 1 := by
  obtain ⟨⟨a1, a2, a3, a4⟩, ⟨o1, o2, o3, o4⟩, _⟩ := bit01
  rcases h with e | e <;> subst e
  · show lAnd a b = 0 ∨ lAnd a b = 1
    rcases ha with e | e <;> rcases hb with e2 | e2 <;> subst e <;> subst e2
    · exact Or.inl a1
    · exact Or.inl a2
    · exact Or.inl a3
    · exact Or.inr a4
  · show lOr a b = 0 ∨ lOr a b = 1
    rcases ha with e | e <;> rcases hb with e2 | e2 <;> subst e <;> subst e2
    · exact Or.inl o1
    · exact Or.inr o2
    · exact Or.inr o3
    · exact Or.inr o4
theorem ev_val (w : Int → Int) (L : List Int) {x : Int} (h : -11 ≤ x) : ev1 w L x = (if 0 ≤ x then x else w (-2 - x)) :: L := if_pos h
theorem ev_not (w : Int → Int) (L : List Int) (a : Int) : ev1 w (a :: L) (-22) = w64 (1 - a) :: L := rfl
theorem ev_two (w : Int → Int) (L : List Int) {x a b : Int} (h : ¬ -11 ≤ x) (h2 : ¬ x = -22) : ev1 w (b :: a :: L) x = jo x a b :: L := (if_neg h).trans (if_neg h2)
theorem tyA_some : ∀ {D D' : List Bool}, tyA D = some D' → ∃ E : List Bool, D = false :: false :: E ∧ D' = false :: E := by
  intro D D' h
  have no : (none : Option (List Bool)) = some D' → False := fun z => by cases z
  cases D with
  | nil => exact (no h).elim
  | cons a D =>
    cases D with
    | nil => cases a <;> exact (no h).elim
    | cons b E =>
      cases a
      · cases b
        · exact ⟨E, rfl, (Option.some.inj (show some (false :: E) = some D' from h)).symm⟩
        · exact (no h).elim
      · exact (no h).elim
theorem tyC_some : ∀ {D D' : List Bool}, tyC D = some D' → ∃ E : List Bool, D = false :: false :: E ∧ D' = true :: E := by
  intro D D' h
  have no : (none : Option (List Bool)) = some D' → False := fun z => by cases z
  cases D with
  | nil => exact (no h).elim
  | cons a D =>
    cases D with
    | nil => cases a <;> exact (no h).elim
    | cons b E =>
      cases a
      · cases b
        · exact ⟨E, rfl, (Option.some.inj (show some (true :: E) = some D' from h)).symm⟩
        · exact (no h).elim
      · exact (no h).elim
theorem tyB_some : ∀ {D D' : List Bool}, tyB D = some D' → ∃ E : List Bool, D = true :: true :: E ∧ D' = true :: E := by
  intro D D' h
  have no : (none : Option (List Bool)) = some D' → False := fun z => by cases z
  cases D with
  | nil => exact (no h).elim
  | cons a D =>
    cases D with
    | nil => cases a <;> exact (no h).elim
    | cons b E =>
      cases a
      · exact (no h).elim
      · cases b
        · exact (no h).elim
        · exact ⟨E, rfl, (Option.some.inj (show some (true :: E) = some D' from h)).symm⟩
theorem tyN_some : ∀ {D D' : List Bool}, tyN D = some D' → ∃ E : List Bool, D = true :: E ∧ D' = true :: E := by
  intro D D' h
  have no : (none : Option (List Bool)) = some D' → False := fun z => by cases z
  cases D with
  | nil => exact (no h).elim
  | cons a E =>
    cases a
    · exact (no h).elim
    · exact ⟨E, rfl, (Option.some.inj (show some (true :: E) = some D' from h)).symm⟩
/-- how a sign that fits the types is met -/
theorem ty_cases {D D' : List Bool} {x : Int} (h : ty1 (some D) x = some D') : ((-11 ≤ x ∧ x ≤ 99999 ∧ ¬ x = -1) ∧ D' = false :: D) ∨ ((-16 ≤ x ∧ x ≤ -12) ∧ ∃ E : List Bool, D = false :: false :: E ∧ D' = false :: E) ∨ ((-21 ≤ x ∧ x ≤ -17) ∧ ∃ E : List Bool, D = false :: false :: E ∧ D' = true :: E) ∨ (x = -22 ∧ ∃ E : List Bool, D = true :: E ∧ D' = true :: E) ∨ ((x = -23 ∨ x = -24) ∧ ∃ E : List Bool, D = true :: true :: E ∧ D' = true :: E) := by
  have h' : tyD D x = some D' := h
  have no : (none : Option (List Bool)) = some D' → False := fun z => by cases z
  unfold tyD at h'
  by_cases e0 : 99999 < x ∨ x = -1
  · rw [if_pos e0] at h'
    exact (no h').elim
  rw [if_neg e0] at h'
  by_cases e1 : -11 ≤ x
  · rw [if_pos e1] at h'
    exact Or.inl ⟨by omega, (Option.some.inj h').symm⟩
  rw [if_neg e1] at h'
  right
  by_cases e2 : -16 ≤ x
  · rw [if_pos e2] at h'
    exact Or.inl ⟨by omega, tyA_some h'⟩
  rw [if_neg e2] at h'
  right
  by_cases e3 : -21 ≤ x
  · rw [if_pos e3] at h'
    exact Or.inl ⟨by omega, tyC_some h'⟩
  rw [if_neg e3] at h'
  right
  by_cases e4 : x = -22
  · rw [if_pos e4] at h'
    exact Or.inl ⟨e4, tyN_some h'⟩
  rw [if_neg e4] at h'
  right
  by_cases e5 : -24 ≤ x
  · rw [if_pos e5] at h'
    exact ⟨by omega, tyB_some h'⟩
  rw [if_neg e5] at h'
  exact (no h').elim
theorem Bt.two {L : List Int} {s t : Bool} {E : List Bool} (h : Bt L (s :: t :: E)) : ∃ (b a : Int) (K : List Int), L = b :: a :: K ∧ (s = true → b = 0 ∨ b = 1) ∧ (t = true → a = 0 ∨ a = 1) ∧ Bt K E := by
  cases L with
  | nil => exact h.elim
  | cons b L =>
    cases L with
    | nil => exact h.2.elim
    | cons a L => exact ⟨b, a, L, rfl, h.1, h.2.1, h.2.2⟩
theorem Bt.one {L : List Int} {s : Bool} {E : List Bool} (h : Bt L (s :: E)) : ∃ (a : Int) (K : List Int), L = a :: K ∧ (s = true → a = 0 ∨ a = 1) ∧ Bt K E := by
  cases L with
  | nil => exact h.elim
  | cons b L => exact ⟨b, L, rfl, h.1, h.2⟩
theorem ev1_ty {w : Int → Int} {D D' : List Bool} {x : Int} {L : List Int} (h : ty1 (some D) x = some D') (hb : Bt L D) : Bt (ev1 w L x) D' ∧ ∀ B : List Int, ev1 w (L ++ B) x = ev1 w L x ++ B := by
  rcases ty_cases h with ⟨e, e2⟩ | ⟨e, E, e1, e2⟩ | ⟨e, E, e1, e2⟩ | ⟨e, E, e1, e2⟩ | ⟨e, E, e1, e2⟩
  · subst e2
    rw [ev_val w L e.1]
    refine ⟨⟨fun z => absurd z (by decide), hb⟩, fun B => ?_⟩
    rw [ev_val w _ e.1]
    rfl
  · subst e1 e2
    obtain ⟨b, a, K, rfl, _, _, hK⟩ := hb.two
    rw [ev_two w K (by omega) (by omega)]
    refine ⟨⟨fun z => absurd z (by decide), hK⟩, fun B => ?_⟩
    show ev1 w (b :: a :: (K ++ B)) x = _
    rw [ev_two w _ (by omega) (by omega)]
    rfl
  · subst e1 e2
    obtain ⟨b, a, K, rfl, _, _, hK⟩ := hb.two
    rw [ev_two w K (by omega) (by omega)]
    refine ⟨⟨fun _ => jo_cm e, hK⟩, fun B => ?_⟩
    show ev1 w (b :: a :: (K ++ B)) x = _
    rw [ev_two w _ (by omega) (by omega)]
    rfl
  · subst e1 e2 e
    obtain ⟨a, K, rfl, ha, hK⟩ := hb.one
    rw [ev_not w K a]
    obtain ⟨_, _, n1, n2⟩ := bit01
    refine ⟨⟨fun _ => ?_, hK⟩, fun B => ?_⟩
    · rcases ha rfl with z | z <;> subst z
      · exact Or.inr n1
      · exact Or.inl n2
    · show ev1 w (a :: (K ++ B)) (-22) = _
      rw [ev_not w _ a]
      rfl
  · subst e1 e2
    obtain ⟨b, a, K, rfl, hb1, ha1, hK⟩ := hb.two
    rw [ev_two w K (by omega) (by omega)]
    refine ⟨⟨fun _ => jo_two e (ha1 rfl) (hb1 rfl), hK⟩, fun B => ?_⟩
    show ev1 w (b :: a :: (K ++ B)) x = _
    rw [ev_two w _ (by omega) (by omega)]
    rfl
theorem ty_none : ∀ V : List Int, V.foldl ty1 none = none := by
  intro V
  induction V with
  | nil => rfl
  | cons x V ih => exact ih
/-- a row of signs that fits: its first fits, and the rest -/
theorem ty_split {x : Int} {V : List Int} {D D' : List Bool} (h : (x :: V).foldl ty1 (some D) = some D') : ∃ E : List Bool, ty1 (some D) x = some E ∧ V.foldl ty1 (some E) = some D' := by
  have h2 : V.foldl ty1 (ty1 (some D) x) = some D' := h
  cases e : ty1 (some D) x with
  | none =>
    rw [e, ty_none] at h2
    cases h2
  | some E =>
    rw [e] at h2
    exact ⟨E, rfl, h2⟩
theorem evl_ty {w : Int → Int} : ∀ (V : List Int) (L : List Int) (D D' : List Bool), V.foldl ty1 (some D) = some D' → Bt L D → Bt (evl w L V) D' ∧ ∀ B : List Int, evl w (L ++ B) V = evl w L V ++ B := by
  intro V
  induction V with
  | nil =>
    intro L D D' h hb
    have h2 : some D = some D' := h
    injection h2 with h2
    subst h2
    exact ⟨hb, fun _ => rfl⟩
  | cons x V ih =>
    intro L D D' h hb
    obtain ⟨E, h1, h2⟩ := ty_split h
    obtain ⟨b1, b2⟩ := ev1_ty (w := w) h1 hb
    obtain ⟨c1, c2⟩ := ih _ E D' h2 b1
    refine ⟨c1, fun B => ?_⟩
    show evl w (ev1 w (L ++ B) x) V = evl w (ev1 w L x) V ++ B
    rw [b2 B]
    exact c2 B
def nvs : List Int → Nat
  | [] => 0
  | x :: V => (if -11 ≤ x then 1 else 0) + nvs V
theorem nvs_app : ∀ A B : List Int, nvs (A ++ B) = nvs A + nvs B := by
  intro A B
  induction A with
  | nil => exact (Nat.zero_add _).symm
  | cons x A ih =>
    show (if -11 ≤ x then 1 else 0) + nvs (A ++ B) = (if -11 ≤ x then 1 else 0) + nvs A + nvs B
    rw [ih, Nat.add_assoc]
/-- a row's places from i on hold these -/
def Hs (f : Int → Int) : Int → List Int → Prop
  | _, [] => True
  | i, x :: V => f i = x ∧ Hs f (i + 1) V
theorem Hs.app {f : Int → Int} : ∀ (A B : List Int) (i : Int), Hs f i (A ++ B) → Hs f i A ∧ Hs f (i + (A.length : Int)) B := by
  intro A
  induction A with
  | nil =>
    intro B i h
    refine ⟨trivial, ?_⟩
    show Hs f (i + ((0 : Nat) : Int)) B
    rw [show i + ((0 : Nat) : Int) = i by omega]
    exact h
  | cons x A ih =>
    intro B i h
    obtain ⟨h1, h2⟩ := ih B (i + 1) h.2
    refine ⟨⟨h.1, h1⟩, ?_⟩
    rw [List.length_cons, show i + ((A.length + 1 : Nat) : Int) = i + 1 + (A.length : Int) by omega]
    exact h2
theorem pl_len {f : Int → Int} : ∀ n : Nat, (pl f n).length = n := by
  intro n
  induction n with
  | zero => rfl
  | succ n ih =>
    show (f (n : Int) :: pl f n).length = n + 1
    rw [List.length_cons, ih]
/-- a stack in memory, up to top -/
theorem pl_top {f : Int → Int} {t : Int} {a : Int} {L : List Int} (h0 : -1 ≤ t) (h : pl f (t + 1).toNat = a :: L) : 0 ≤ t ∧ f t = a ∧ pl f (t - 1 + 1).toNat = L := by
  have t0 : 0 ≤ t := by
    by_cases e : t = -1
    · rw [e] at h
      cases h
    · omega
  rw [show (t + 1).toNat = t.toNat + 1 by omega] at h
  have h2 : f ((t.toNat : Nat) : Int) :: pl f t.toNat = a :: L := h
  rw [show ((t.toNat : Nat) : Int) = t by omega] at h2
  injection h2 with e1 e2
  exact ⟨t0, e1, by rw [show (t - 1 + 1).toNat = t.toNat by omega]; exact e2⟩
theorem pl_push {f g : Int → Int} {t a : Int} {L : List Int} (h0 : -1 ≤ t) (h : pl f (t + 1).toNat = L) (e : ∀ j : Int, 0 ≤ j → j ≤ t → g j = f j) (ea : g (t + 1) = a) : pl g (t + 1 + 1).toNat = a :: L := by
  rw [show (t + 1 + 1).toNat = (t + 1).toNat + 1 by omega]
  show g (((t + 1).toNat : Nat) : Int) :: pl g (t + 1).toNat = a :: L
  rw [show (((t + 1).toNat : Nat) : Int) = t + 1 by omega, ea, pl_same (g := f) _ (fun j j0 j1 => e j j0 (by omega)), h]
theorem g_ldrowE {S : Sh} {M : Mm} {x i : Int} {K : Int → Prop} (hr : rowv S x) (h0 : 0 ≤ i) (h1 : i < rlen S x) (h : ∀ v : Int, v = M x i → K v) : wLd S M x 14 i K := by
  rcases hr with q | q
  · rw [rlen, if_pos q] at h1
    omega
  · have e : rlen S x = S.2.2 x := by
      rw [rlen, if_neg]
      have := q.1.1
      omega
    exact ⟨q.1, ⟨h0, by omega⟩, h _ rfl⟩
/-- the class's WORDS -/
def wdC (M : Mm) (j : Int) : Int := if j = 0 then M 55 4 else if j = 1 then M 7 (M 55 4) else if j = 2 then M 55 7 else if j = 3 then M 55 5 else if j = 4 then M 55 6 else if j = 5 then M 55 9 else if j = 6 then M 55 8 else if j = 7 then M 55 10 else if j = 8 then M 55 11 else if M 55 6 < M 4 2 then 0 else 1
theorem zg_valueOf {X : Mm} {S : Sh} {m0 : Mm} {K : Int → Mm → Prop} {x : Int} (hS : Shp S) (hm0 : Inv X S m0) (h1 : -11 ≤ x) (h2 : x ≤ -1) (hk : K (wdC m0 (-2 - x)) m0) : wp_X10_valueOf S m0 55 x K := by
  have b4 := hm0.f_55_4
  have go : ∀ v : Int, v = wdC m0 (-2 - x) → K v m0 := fun v e => by rw [e]; exact hk
  unfold wdC at go
  refine u_X10_valueOf ?_
  refine g_C ?_
  refine g_S (by omega) (by omega) ?_
  refine g_if (fun w0 => ?_) (fun w0 => ?_)
  · rw [if_pos w0] at go
    exact g_getu 4 rfl hS.k55 (fun v ev => g_C (go v ev))
  rw [if_neg w0] at go
  refine g_if (fun w1 => ?_) (fun w1 => ?_)
  · rw [if_pos w1] at go
    refine g_getr 0 4 rfl hS.k55 hm0.f_55_0 (by decide) ?_
    refine g_getr 10 7 rfl hS.k4 hm0.f_4_10 (by decide) ?_
    refine g_getu 4 rfl hS.k55 (fun v ev => ?_)
    exact g_ldu hS.k7 hS.l7 (by omega) (by omega) (fun u eu => g_C (go u (by rw [eu, ev])))
  rw [if_neg w1] at go
  refine g_if (fun w2 => ?_) (fun w2 => ?_)
  · rw [if_pos w2] at go
    exact g_getu 7 rfl hS.k55 (fun v ev => g_C (go v ev))
  rw [if_neg w2] at go
  refine g_if (fun w3 => ?_) (fun w3 => ?_)
  · rw [if_pos w3] at go
    exact g_getu 5 rfl hS.k55 (fun v ev => g_C (go v ev))
  rw [if_neg w3] at go
  refine g_if (fun w4 => ?_) (fun w4 => ?_)
  · rw [if_pos w4] at go
    exact g_getu 6 rfl hS.k55 (fun v ev => g_C (go v ev))
  rw [if_neg w4] at go
  refine g_if (fun w5 => ?_) (fun w5 => ?_)
  · rw [if_pos w5] at go
    exact g_getu 9 rfl hS.k55 (fun v ev => g_C (go v ev))
  rw [if_neg w5] at go
  refine g_if (fun w6 => ?_) (fun w6 => ?_)
  · rw [if_pos w6] at go
    exact g_getu 8 rfl hS.k55 (fun v ev => g_C (go v ev))
  rw [if_neg w6] at go
  refine g_if (fun w7 => ?_) (fun w7 => ?_)
  · rw [if_pos w7] at go
    exact g_getu 10 rfl hS.k55 (fun v ev => g_C (go v ev))
  rw [if_neg w7] at go
  refine g_if (fun w8 => ?_) (fun w8 => ?_)
  · rw [if_pos w8] at go
    exact g_getu 11 rfl hS.k55 (fun v ev => g_C (go v ev))
  rw [if_neg w8] at go
  refine g_getu 6 rfl hS.k55 (fun v ev => ?_)
  refine g_getr 0 4 rfl hS.k55 hm0.f_55_0 (by decide) ?_
  refine g_getu 2 rfl hS.k4 (fun u eu => ?_)
  rw [ev, eu]
  exact g_if (fun w9 => g_C (go 0 (by rw [if_pos w9]))) (fun w9 => g_C (go 1 (by rw [if_neg w9])))
theorem g_divE {f : Int → Int → Int} {a b : Int} {K : Int → Prop} (hb : ¬ b = 0) (h : K (f a b)) : wD f a b K := ⟨hb, h⟩
theorem zg_joined {S : Sh} {m0 : Mm} {K : Int → Mm → Prop} {x a b : Int} (hx : -24 ≤ x ∧ x ≤ -12) (hn : ¬ x = -22) (hk : K (jo x a b) m0) : wp_X10_joined S m0 x a b K := by
  have go : ∀ v : Int, v = jo x a b → K v m0 := fun v e => by rw [e]; exact hk
  clear hk
  refine u_X10_joined ?_
  refine g_if (fun w => ?_) (fun w1 => ?_)
  · subst w
    exact go _ rfl
  refine g_ifF hn ?_
  refine g_if (fun w => ?_) (fun w2 => ?_)
  · subst w
    have go2 : ∀ v : Int, v = (if b < a then 1 else 0) → K v m0 := go
    refine g_cmp (fun z => ?_) (fun z => ?_) (fun z => ?_)
    · exact g_ifT (by decide) (g_C (go2 0 (by rw [if_neg (by omega)])))
    · exact g_ifT (by decide) (g_C (go2 0 (by rw [if_neg (by omega)])))
    · exact g_ifF (by decide) (g_C (go2 1 (by rw [if_pos (by omega)])))
  refine g_if (fun w => ?_) (fun w3 => ?_)
  · subst w
    have go2 : ∀ v : Int, v = (if b ≤ a then 1 else 0) → K v m0 := go
    refine g_cmp (fun z => ?_) (fun z => ?_) (fun z => ?_)
    · exact g_ifT (by decide) (g_C (go2 0 (by rw [if_neg (by omega)])))
    · exact g_ifF (by decide) (g_C (go2 1 (by rw [if_pos (by omega)])))
    · exact g_ifF (by decide) (g_C (go2 1 (by rw [if_pos (by omega)])))
  refine g_if (fun w => ?_) (fun w4 => ?_)
  · subst w
    have go2 : ∀ v : Int, v = (if a = b then 1 else 0) → K v m0 := go
    refine g_cmp (fun z => ?_) (fun z => ?_) (fun z => ?_)
    · exact g_ifT (by decide) (g_C (go2 0 (by rw [if_neg (by omega)])))
    · exact g_ifF (by decide) (g_C (go2 1 (by rw [if_pos (by omega)])))
    · exact g_ifT (by decide) (g_C (go2 0 (by rw [if_neg (by omega)])))
  refine g_if (fun w => ?_) (fun w5 => ?_)
  · subst w
    have go2 : ∀ v : Int, v = (if a ≤ b then 1 else 0) → K v m0 := go
    refine g_cmp (fun z => ?_) (fun z => ?_) (fun z => ?_)
    · exact g_ifF (by decide) (g_C (go2 1 (by rw [if_pos (by omega)])))
    · exact g_ifF (by decide) (g_C (go2 1 (by rw [if_pos (by omega)])))
    · exact g_ifT (by decide) (g_C (go2 0 (by rw [if_neg (by omega)])))
  refine g_if (fun w => ?_) (fun w6 => ?_)
  · subst w
    have go2 : ∀ v : Int, v = (if a < b then 1 else 0) → K v m0 := go
    refine g_cmp (fun z => ?_) (fun z => ?_) (fun z => ?_)
    · exact g_ifF (by decide) (g_C (go2 1 (by rw [if_pos (by omega)])))
    · exact g_ifT (by decide) (g_C (go2 0 (by rw [if_neg (by omega)])))
    · exact g_ifT (by decide) (g_C (go2 0 (by rw [if_neg (by omega)])))
  refine g_if (fun w => ?_) (fun w7 => ?_)
  · subst w
    exact go _ rfl
  refine g_if (fun w => ?_) (fun w8 => ?_)
  · subst w
    exact go _ rfl
  refine g_if (fun w => ?_) (fun w9 => ?_)
  · subst w
    have go2 : ∀ v : Int, v = (if b = 0 then 0 else lRem a b) → K v m0 := go
    refine g_C ?_
    refine g_cmp (fun z => ?_) (fun z => ?_) (fun z => ?_)
    · exact g_ifT (by decide) (g_divE (by omega) (go2 _ (by rw [if_neg (by omega)])))
    · exact g_ifF (by decide) (g_C (go2 0 (by rw [if_pos z])))
    · exact g_ifT (by decide) (g_divE (by omega) (go2 _ (by rw [if_neg (by omega)])))
  refine g_if (fun w => ?_) (fun w10 => ?_)
  · subst w
    have go2 : ∀ v : Int, v = (if b = 0 then 0 else lDiv a b) → K v m0 := go
    refine g_C ?_
    refine g_cmp (fun z => ?_) (fun z => ?_) (fun z => ?_)
    · exact g_ifT (by decide) (g_divE (by omega) (go2 _ (by rw [if_neg (by omega)])))
    · exact g_ifF (by decide) (g_C (go2 0 (by rw [if_pos z])))
    · exact g_ifT (by decide) (g_divE (by omega) (go2 _ (by rw [if_neg (by omega)])))
  refine g_if (fun w => ?_) (fun w11 => ?_)
  · subst w
    exact go _ rfl
  obtain rfl : x = -24 := (by omega)
  exact go _ rfl
end
section
/-! the class reckons what the signs say -/
theorem zg_run {X : Mm} {S : Sh} {m0 : Mm} {K : Int → Mm → Prop} {row : Int} (hS : Shp S) (hrow : m0 55 1 = row) (hr : rowv S row) : ∀ (V : List Int) (n : Nat) (top i : Int) (m : Mm) (L B : List Int) (D D' : List Bool), Inv X S m → (∀ c p : Int, ¬ c = 56 → m c p = m0 c p) → Hs (m0 row) i V → i + (V.length : Int) ≤ rlen S row → 0 ≤ i → V.foldl ty1 (some D) = some D' → Bt L D → pl (m 56) (top + 1).toNat = L ++ B → -1 ≤ top → L.length + B.length + nvs V ≤ 64 → (∀ (top' : Int) (m' : Mm), Inv X S m' → (∀ c p : Int, ¬ c = 56 → m' c p = m0 c p) → pl (m' 56) (top' + 1).toNat = evl (wdC m0) L V ++ B → -1 ≤ top' → wp_X10_sumByRule_4 S K n 55 top' (i + (V.length : Int)) m') → wp_X10_sumByRule_4 S K (V.length + n) 55 top i m := by
  intro V
  induction V with
  | nil =>
    intro n top i m L B D D' hm F _ _ _ _ _ hp ht _ hc
    have q := hc top m hm F hp ht
    have q2 : wp_X10_sumByRule_4 S K n 55 top (i + ((0 : Nat) : Int)) m := q
    rw [show i + ((0 : Nat) : Int) = i by omega] at q2
    show wp_X10_sumByRule_4 S K (0 + n) 55 top i m
    rw [Nat.zero_add]
    exact q2
  | cons x V ih =>
    intro n top i m L B D D' hm F hV hl hi hty hb hp ht hn hc
    obtain ⟨E, t1, t2⟩ := ty_split hty
    obtain ⟨b1, b2⟩ := ev1_ty (w := wdC m0) t1 hb
    have r1 : m 55 1 = row := (F 55 1 (by decide)).trans hrow
    have rl1 : ((x :: V).length : Int) = (V.length : Int) + 1 := by rw [List.length_cons]; omega
    rw [rl1] at hl
    have hlen := congrArg List.length hp
    rw [pl_len, List.length_append] at hlen
    have nx : nvs (x :: V) = (if -11 ≤ x then 1 else 0) + nvs V := rfl
    have ex : ∀ v : Int, v = m row i → v = x := fun v ev => by
      rw [ev, show m row i = m0 row i from F row i (by rcases hr with z | z <;> omega)]
      exact hV.1
    have fuel : (x :: V).length + n = (V.length + n) + 1 := by rw [List.length_cons]; omega
    rw [fuel]
    -- the rest, from a memory with the stack one sign further
    have go : ∀ (top' : Int) (m' : Mm), Inv X S m' → (∀ c p : Int, ¬ c = 56 → m' c p = m0 c p) → pl (m' 56) (top' + 1).toNat = ev1 (wdC m0) L x ++ B → -1 ≤ top' → (ev1 (wdC m0) L x).length + B.length + nvs V ≤ 64 → wp_X10_sumByRule_4 S K (V.length + n) 55 top' (i + 1) m' := by
      intro top' m' hm' F' hp' ht' hn'
      refine ih n top' (i + 1) m' (ev1 (wdC m0) L x) B E D' hm' F' hV.2 (by omega) (by omega) t2 b1 hp' ht' hn' (fun top2 m2 hm2 F2 hp2 ht2 => ?_)
      have q := hc top2 m2 hm2 F2 hp2 ht2
      rw [rl1, show i + ((V.length : Int) + 1) = i + 1 + (V.length : Int) by omega] at q
      exact q
    refine u_X10_sumByRule_4 ?_
    refine g_getrow 1 rfl hS.k55 hm.row55 (fun v1 e1 hr1 => ?_)
    have q1 : v1 = row := e1.trans r1
    subst q1
    refine g_lenrow hr1 (fun v2 e2 b2' c2' => ?_)
    refine g_ifF (by omega) ?_
    refine g_getrow 1 rfl hS.k55 hm.row55 (fun v3 e3 hr3 => ?_)
    have q3 : v3 = v1 := e3.trans r1
    subst q3
    refine g_ldrowE hr3 (by omega) (by omega) (fun v4 e4 => ?_)
    have q4 := ex v4 e4
    subst q4
    refine g_C ?_
    rcases ty_cases t1 with ⟨e, _⟩ | ⟨e, E', e1', _⟩ | ⟨e, E', e1', _⟩ | ⟨e, E', e1', _⟩ | ⟨e, E', e1', _⟩
    · -- a value
      rw [if_pos e.1] at nx
      rw [ev_val _ _ e.1, List.length_cons] at go
      refine g_ifF (by omega) ?_
      refine g_C ?_
      refine g_A (by omega) (by omega) ?_
      refine g_C ?_
      refine g_ifT (by omega) ?_
      refine g_A (by omega) (by omega) ?_
      refine g_getr 3 56 rfl hS.k55 hm.f_55_3 (by decide) ?_
      have put : ∀ v : Int, v = (if 0 ≤ v4 then v4 else wdC m0 (-2 - v4)) → wp_X10_sumByRule_58 S (fun a0 a1 a2 M => wp_X10_sumByRule_4 S K (V.length + n) a0 a1 a2 M) K 55 (top + 1) i 56 (top + 1) v m := by
        intro v ev
        refine u_X10_sumByRule_58 ?_
        refine g_st hS.k56 hS.l56 (by omega) (by omega) (hm.wa_56 (by omega) (by omega)) (fun m2 em2 hm2 => ?_)
        have f2 : ∀ c p : Int, ¬ (c = 56 ∧ p = top + 1) → m2 c p = m c p := fun c p q => (congrFun (congrFun em2 _) _).trans (up_ne q)
        have x2 : m2 56 (top + 1) = v := (congrFun (congrFun em2 _) _).trans (up_at _ _ _ _)
        refine u_X10_sumByRule_170 ?_
        refine g_A (by omega) (by omega) ?_
        refine go (top + 1) m2 hm2 (fun c p q => (f2 c p (by omega)).trans (F c p q)) ?_ (by omega) (by omega)
        rw [← ev]
        exact pl_push ht hp (fun j j0 j1 => f2 56 j (by omega)) x2
      refine g_if (fun w => ?_) (fun w => ?_)
      · refine ⟨hS.k55, ?_⟩
        refine zg_valueOf hS hm e.1 (by omega) ?_
        refine put _ ?_
        rw [if_neg (by omega)]
        unfold wdC
        rw [F 55 4 (by decide), F 7 _ (by decide), F 55 7 (by decide), F 55 5 (by decide), F 55 6 (by decide), F 55 9 (by decide), F 55 8 (by decide), F 55 10 (by decide), F 55 11 (by decide), F 4 2 (by decide)]
      · refine g_C ?_
        exact put v4 (by rw [if_pos (by omega)])
    · -- * / % + -
      rw [if_neg (by omega)] at nx
      subst e1'
      obtain ⟨bb, aa, L', rfl, _, _, _⟩ := hb.two
      rw [ev_two _ _ (by omega) (by omega), List.length_cons] at go
      rw [List.length_cons, List.length_cons] at hn hlen
      obtain ⟨p0, p1, p2⟩ := pl_top (L := aa :: (L' ++ B)) ht hp
      obtain ⟨p3, p4, p5⟩ := pl_top (by omega) p2
      refine g_ifT (by omega) ?_
      refine g_ifT (by omega) ?_
      refine g_C ?_
      refine g_ifT (by omega) ?_
      refine g_C ?_
      refine g_ifT (by omega) ?_
      refine g_C ?_
      refine g_ifT (by omega) ?_
      refine g_C ?_
      refine g_ifT (by omega) ?_
      refine g_A (by omega) (by omega) ?_
      refine g_getr 3 56 rfl hS.k55 hm.f_55_3 (by decide) ?_
      refine g_getr 3 56 rfl hS.k55 hm.f_55_3 (by decide) ?_
      refine g_ldu hS.k56 hS.l56 (by omega) (by omega) (fun va ea => ?_)
      refine g_getr 3 56 rfl hS.k55 hm.f_55_3 (by decide) ?_
      refine g_C ?_
      refine g_A (by omega) (by omega) ?_
      refine g_ldu hS.k56 hS.l56 (by omega) (by omega) (fun vb eb => ?_)
      have ea2 : va = aa := by rw [ea, show top + -1 = top - 1 by omega]; exact p4
      have eb2 : vb = bb := by rw [eb, show top + -1 + 1 = top by omega]; exact p1
      subst ea2 eb2
      refine zg_joined (by omega) (by omega) ?_
      refine g_st hS.k56 hS.l56 (by omega) (by omega) (hm.wa_56 (by omega) (by omega)) (fun m2 em2 hm2 => ?_)
      have f2 : ∀ c p : Int, ¬ (c = 56 ∧ p = top + -1) → m2 c p = m c p := fun c p q => (congrFun (congrFun em2 _) _).trans (up_ne q)
      have x2 : m2 56 (top + -1) = jo v4 va vb := (congrFun (congrFun em2 _) _).trans (up_at _ _ _ _)
      refine u_X10_sumByRule_170 ?_
      refine g_A (by omega) (by omega) ?_
      refine go (top + -1) m2 hm2 (fun c p q => (f2 c p (by omega)).trans (F c p q)) ?_ (by omega) (by omega)
      have q := pl_push (g := m2 56) (t := top - 1 - 1) (a := jo v4 va vb) (by omega) p5 (fun j j0 j1 => f2 56 j (by omega)) (by rw [show top - 1 - 1 + 1 = top + -1 by omega]; exact x2)
      rw [show top - 1 - 1 + 1 + 1 = top + -1 + 1 by omega] at q
      exact q
    · -- a comparison
      rw [if_neg (by omega)] at nx
      subst e1'
      obtain ⟨bb, aa, L', rfl, _, _, _⟩ := hb.two
      rw [ev_two _ _ (by omega) (by omega), List.length_cons] at go
      rw [List.length_cons, List.length_cons] at hn hlen
      obtain ⟨p0, p1, p2⟩ := pl_top (L := aa :: (L' ++ B)) ht hp
      obtain ⟨p3, p4, p5⟩ := pl_top (by omega) p2
      refine g_ifT (by omega) ?_
      refine g_ifT (by omega) ?_
      refine g_C ?_
      refine g_ifT (by omega) ?_
      refine g_C ?_
      refine g_ifT (by omega) ?_
      refine g_C ?_
      refine g_ifT (by omega) ?_
      refine g_C ?_
      refine g_ifT (by omega) ?_
      refine g_A (by omega) (by omega) ?_
      refine g_getr 3 56 rfl hS.k55 hm.f_55_3 (by decide) ?_
      refine g_getr 3 56 rfl hS.k55 hm.f_55_3 (by decide) ?_
      refine g_ldu hS.k56 hS.l56 (by omega) (by omega) (fun va ea => ?_)
      refine g_getr 3 56 rfl hS.k55 hm.f_55_3 (by decide) ?_
      refine g_C ?_
      refine g_A (by omega) (by omega) ?_
      refine g_ldu hS.k56 hS.l56 (by omega) (by omega) (fun vb eb => ?_)
      have ea2 : va = aa := by rw [ea, show top + -1 = top - 1 by omega]; exact p4
      have eb2 : vb = bb := by rw [eb, show top + -1 + 1 = top by omega]; exact p1
      subst ea2 eb2
      refine zg_joined (by omega) (by omega) ?_
      refine g_st hS.k56 hS.l56 (by omega) (by omega) (hm.wa_56 (by omega) (by omega)) (fun m2 em2 hm2 => ?_)
      have f2 : ∀ c p : Int, ¬ (c = 56 ∧ p = top + -1) → m2 c p = m c p := fun c p q => (congrFun (congrFun em2 _) _).trans (up_ne q)
      have x2 : m2 56 (top + -1) = jo v4 va vb := (congrFun (congrFun em2 _) _).trans (up_at _ _ _ _)
      refine u_X10_sumByRule_170 ?_
      refine g_A (by omega) (by omega) ?_
      refine go (top + -1) m2 hm2 (fun c p q => (f2 c p (by omega)).trans (F c p q)) ?_ (by omega) (by omega)
      have q := pl_push (g := m2 56) (t := top - 1 - 1) (a := jo v4 va vb) (by omega) p5 (fun j j0 j1 => f2 56 j (by omega)) (by rw [show top - 1 - 1 + 1 = top + -1 by omega]; exact x2)
      rw [show top - 1 - 1 + 1 + 1 = top + -1 + 1 by omega] at q
      exact q
    · -- not
      rw [if_neg (by omega)] at nx
      subst e1'
      obtain ⟨aa, L', rfl, _, _⟩ := hb.one
      rw [e, ev_not, List.length_cons] at go
      rw [List.length_cons] at hn hlen
      obtain ⟨p0, p1, p2⟩ := pl_top (L := L' ++ B) ht hp
      refine g_ifT (by omega) ?_
      refine g_ifT (by omega) ?_
      refine g_C ?_
      refine g_ifT (by omega) ?_
      refine g_C ?_
      refine g_ifF (by omega) ?_
      refine g_getr 3 56 rfl hS.k55 hm.f_55_3 (by decide) ?_
      refine g_C ?_
      refine g_getr 3 56 rfl hS.k55 hm.f_55_3 (by decide) ?_
      refine g_ldu hS.k56 hS.l56 (by omega) (by omega) (fun va ea => ?_)
      have ea2 : va = aa := ea.trans p1
      subst ea2
      show wSt S m 56 16 top (w64 (1 - va)) _
      refine g_st hS.k56 hS.l56 (by omega) (by omega) (hm.wa_56 (by omega) (by omega)) (fun m2 em2 hm2 => ?_)
      have f2 : ∀ c p : Int, ¬ (c = 56 ∧ p = top) → m2 c p = m c p := fun c p q => (congrFun (congrFun em2 _) _).trans (up_ne q)
      have x2 : m2 56 top = w64 (1 - va) := (congrFun (congrFun em2 _) _).trans (up_at _ _ _ _)
      refine u_X10_sumByRule_170 ?_
      refine g_A (by omega) (by omega) ?_
      refine go top m2 hm2 (fun c p q => (f2 c p (by omega)).trans (F c p q)) ?_ (by omega) (by omega)
      have q := pl_push (g := m2 56) (t := top - 1) (a := w64 (1 - va)) (by omega) p2 (fun j j0 j1 => f2 56 j (by omega)) (by rw [show top - 1 + 1 = top by omega]; exact x2)
      rw [show top - 1 + 1 + 1 = top + 1 by omega] at q
      exact q
    · -- and, or
      rw [if_neg (by omega)] at nx
      subst e1'
      obtain ⟨bb, aa, L', rfl, _, _, _⟩ := hb.two
      rw [ev_two _ _ (by omega) (by omega), List.length_cons] at go
      rw [List.length_cons, List.length_cons] at hn hlen
      obtain ⟨p0, p1, p2⟩ := pl_top (L := aa :: (L' ++ B)) ht hp
      obtain ⟨p3, p4, p5⟩ := pl_top (by omega) p2
      refine g_ifT (by omega) ?_
      refine g_ifT (by omega) ?_
      refine g_C ?_
      refine g_ifT (by omega) ?_
      refine g_C ?_
      refine g_ifT (by omega) ?_
      refine g_C ?_
      refine g_ifT (by omega) ?_
      refine g_C ?_
      refine g_ifT (by omega) ?_
      refine g_A (by omega) (by omega) ?_
      refine g_getr 3 56 rfl hS.k55 hm.f_55_3 (by decide) ?_
      refine g_getr 3 56 rfl hS.k55 hm.f_55_3 (by decide) ?_
      refine g_ldu hS.k56 hS.l56 (by omega) (by omega) (fun va ea => ?_)
      refine g_getr 3 56 rfl hS.k55 hm.f_55_3 (by decide) ?_
      refine g_C ?_
      refine g_A (by omega) (by omega) ?_
      refine g_ldu hS.k56 hS.l56 (by omega) (by omega) (fun vb eb => ?_)
      have ea2 : va = aa := by rw [ea, show top + -1 = top - 1 by omega]; exact p4
      have eb2 : vb = bb := by rw [eb, show top + -1 + 1 = top by omega]; exact p1
      subst ea2 eb2
      refine zg_joined (by omega) (by omega) ?_
      refine g_st hS.k56 hS.l56 (by omega) (by omega) (hm.wa_56 (by omega) (by omega)) (fun m2 em2 hm2 => ?_)
      have f2 : ∀ c p : Int, ¬ (c = 56 ∧ p = top + -1) → m2 c p = m c p := fun c p q => (congrFun (congrFun em2 _) _).trans (up_ne q)
      have x2 : m2 56 (top + -1) = jo v4 va vb := (congrFun (congrFun em2 _) _).trans (up_at _ _ _ _)
      refine u_X10_sumByRule_170 ?_
      refine g_A (by omega) (by omega) ?_
      refine go (top + -1) m2 hm2 (fun c p q => (f2 c p (by omega)).trans (F c p q)) ?_ (by omega) (by omega)
      have q := pl_push (g := m2 56) (t := top - 1 - 1) (a := jo v4 va vb) (by omega) p5 (fun j j0 j1 => f2 56 j (by omega)) (by rw [show top - 1 - 1 + 1 = top + -1 by omega]; exact x2)
      rw [show top - 1 - 1 + 1 + 1 = top + -1 + 1 by omega] at q
      exact q
/-- what a RULE says: the SUM of its first CLAUSE without a TEST, or whose TEST holds; 0 without -/
def evC (w : Int → Int) : List Cz → Int
  | [] => 0
  | c :: l => if c.2.1 = true ∧ (evl w [] c.2.2).headD 0 = 0 then evC w l else (evl w [] c.1).headD 0
/-- every clause fits -/
def Tys (l : List Cz) : Prop := ∀ c : Cz, c ∈ l → Tyc c ∧ (c.2.1 = false → c.2.2 = [])
theorem Bt.sing {L : List Int} {t : Bool} (h : Bt L [t]) : ∃ a : Int, L = [a] ∧ (t = true → a = 0 ∨ a = 1) := by
  obtain ⟨a, K, rfl, h1, h2⟩ := h.one
  cases K with
  | nil => exact ⟨a, rfl, h1⟩
  | cons b K => exact h2.elim
theorem zg_sumByRule {X : Mm} {S : Sh} {m0 : Mm} {K : Int → Mm → Prop} {row : Int} {Cs : List Cz} (hS : Shp S) (hm0 : Inv X S m0) (hrow : m0 55 1 = row) (hr : rowv S row) (hH : Hs (m0 row) 0 (codC Cs)) (hl : rlen S row = ((codC Cs).length : Int)) (hty : Tys Cs) (hn : nvs (codC Cs) ≤ 60) (hk : ∀ M1 : Mm, Inv X S M1 → (∀ c p : Int, ¬ c = 56 → M1 c p = m0 c p) → K (evC (wdC m0) Cs) M1) : wp_X10_sumByRule S m0 55 K := by
  have rne : ¬ row = 56 := by rcases hr with z | z <;> omega
  have L : ∀ (l : List Cz) (i : Int) (m : Mm), (∀ M1 : Mm, Inv X S M1 → (∀ c p : Int, ¬ c = 56 → M1 c p = m0 c p) → K (evC (wdC m0) l) M1) → Inv X S m → (∀ c p : Int, ¬ c = 56 → m c p = m0 c p) → Hs (m0 row) i (codC l) → i + ((codC l).length : Int) = rlen S row → 0 ≤ i → Tys l → nvs (codC l) ≤ 60 → wp_X10_sumByRule_4 S K ((codC l).length + 1) 55 (-1) i m := by
    intro l
    induction l with
    | nil =>
      intro i m hk hm F _ hl hi _ _
      have r1 : m 55 1 = row := (F 55 1 (by decide)).trans hrow
      refine u_X10_sumByRule_4 ?_
      refine g_getrow 1 rfl hS.k55 hm.row55 (fun v1 e1 hr1 => ?_)
      have q1 : v1 = row := e1.trans r1
      subst q1
      refine g_lenrow hr1 (fun v2 e2 b2' c2' => ?_)
      have hl2 : i + ((0 : Nat) : Int) = rlen S v1 := hl
      refine g_ifT (by omega) ?_
      exact g_C (hk m hm F)
    | cons c l ih =>
      intro i m hk hm F hH hl hi hty hn
      obtain ⟨⟨ty1', ty2'⟩, ty3'⟩ := hty c (List.mem_cons_self ..)
      have ec : codC (c :: l) = c.1 ++ ((c.2.2 ++ [if c.2.1 then -26 else -25]) ++ codC l) := by
        show (c.1 ++ (c.2.2 ++ [if c.2.1 then -26 else -25])) ++ codC l = _
        rw [List.append_assoc]
      rw [ec] at hH hl hn ⊢
      obtain ⟨h1, h2⟩ := Hs.app _ _ _ hH
      obtain ⟨h3, h4⟩ := Hs.app _ _ _ h2
      obtain ⟨h5, h6⟩ := Hs.app _ _ _ h3
      rw [nvs_app, nvs_app, nvs_app] at hn
      have ln : (c.1 ++ ((c.2.2 ++ [if c.2.1 then (-26 : Int) else -25]) ++ codC l)).length = c.1.length + (c.2.2.length + 1 + (codC l).length) := by
        rw [List.length_append, List.length_append, List.length_append]
        rfl
      have ln2 : (c.2.2 ++ [if c.2.1 then (-26 : Int) else -25]).length = c.2.2.length + 1 := by
        rw [List.length_append]
        rfl
      rw [ln] at hl ⊢
      rw [ln2] at h4
      rw [show c.1.length + (c.2.2.length + 1 + (codC l).length) + 1 = c.1.length + (c.2.2.length + ((codC l).length + 1 + 1)) by omega]
      refine zg_run hS hrow hr c.1 _ (-1) i m [] [] [] [false] hm F h1 (by omega) hi ty1' trivial rfl (by omega) (by show 0 + 0 + nvs c.1 ≤ 64; omega) (fun top1 m1 hm1 F1 hp1 ht1 => ?_)
      obtain ⟨s, es, _⟩ := Bt.sing (evl_ty (w := wdC m0) c.1 [] [] [false] ty1' trivial).1
      rw [es] at hp1
      have tk := h6.1
      by_cases et : c.2.1 = true
      · -- a test
        have ty4 := ty2' et
        rw [et] at tk h6
        refine zg_run hS hrow hr c.2.2 _ top1 _ m1 [] [s] [] [true] hm1 F1 h5 (by omega) (by omega) ty4 trivial hp1 ht1 (by show 0 + 1 + nvs c.2.2 ≤ 64; omega) (fun top2 m2 hm2 F2 hp2 ht2 => ?_)
        obtain ⟨t, et2, _⟩ := Bt.sing (evl_ty (w := wdC m0) c.2.2 [] [] [true] ty4 trivial).1
        rw [et2] at hp2
        obtain ⟨p0, p1, p2⟩ := pl_top (L := [s]) ht2 hp2
        obtain ⟨p3, p4, p5⟩ := pl_top (by omega) p2
        have z2 : top2 - 1 - 1 = -1 := by
          have q := congrArg List.length p5
          rw [pl_len] at q
          have q2 : (top2 - 1 - 1 + 1).toNat = 0 := q
          omega
        have r2 : m2 55 1 = row := (F2 55 1 (by decide)).trans hrow
        have tk2 : m0 row (i + (c.1.length : Int) + (c.2.2.length : Int)) = -26 := tk
        refine u_X10_sumByRule_4 ?_
        refine g_getrow 1 rfl hS.k55 hm2.row55 (fun v1 e1 hr1 => ?_)
        have q1 : v1 = row := e1.trans r2
        subst q1
        refine g_lenrow hr1 (fun v2 e2 b2' c2' => ?_)
        refine g_ifF (by omega) ?_
        refine g_getrow 1 rfl hS.k55 hm2.row55 (fun v3 e3 hr3 => ?_)
        have q3 : v3 = v1 := e3.trans r2
        subst q3
        refine g_ldrowE hr3 (by omega) (by omega) (fun v4 e4 => ?_)
        have q4 : v4 = -26 := by rw [e4, F2 _ _ rne]; exact tk2
        subst q4
        refine g_C ?_
        refine g_ifT (by decide) ?_
        refine g_ifT (by omega) ?_
        refine g_C ?_
        refine g_ifT (by decide) ?_
        refine g_C ?_
        refine g_ifT (by decide) ?_
        refine g_C ?_
        refine g_ifT (by omega) ?_
        refine g_C ?_
        refine g_ifF (by decide) ?_
        refine g_getr 3 56 rfl hS.k55 hm2.f_55_3 (by decide) ?_
        refine g_ldu hS.k56 hS.l56 (by omega) (by omega) (fun v5 e5 => ?_)
        have q5 : v5 = t := e5.trans p1
        subst q5
        have no : ¬ v5 = 0 → wGetR S m2 55 10 3 fun v54 => wC 1 fun v56 => wS top2 v56 fun v58 => wLd S m2 v54 16 v58 fun v60 => K v60 m2 := by
          intro w
          refine g_getr 3 56 rfl hS.k55 hm2.f_55_3 (by decide) ?_
          refine g_C ?_
          refine g_S (by omega) (by omega) ?_
          refine g_ldu hS.k56 hS.l56 (by omega) (by omega) (fun v6 e6 => ?_)
          have q6 : v6 = s := e6.trans p4
          subst q6
          have q := hk m2 hm2 F2
          have e : evC (wdC m0) (c :: l) = v6 := by
            show (if c.2.1 = true ∧ (evl (wdC m0) [] c.2.2).headD 0 = 0 then evC (wdC m0) l else (evl (wdC m0) [] c.1).headD 0) = v6
            rw [es, et2, if_neg (fun z => w z.2)]
            rfl
          rw [e] at q
          exact q
        refine g_C ?_
        refine g_cmp (fun w => ?_) (fun w => ?_) (fun w => ?_)
        · exact g_ifF (by decide) (no (by omega))
        · refine g_ifT (by decide) ?_
          refine g_A (by omega) (by omega) ?_
          refine u_X10_sumByRule_170 ?_
          refine g_A (by omega) (by omega) ?_
          rw [show top2 + -2 = -1 by omega]
          have e : evC (wdC m0) (c :: l) = evC (wdC m0) l := by
            show (if c.2.1 = true ∧ (evl (wdC m0) [] c.2.2).headD 0 = 0 then evC (wdC m0) l else (evl (wdC m0) [] c.1).headD 0) = _
            rw [et2, if_pos ⟨et, w⟩]
          rw [e] at hk
          rw [show i + (c.1.length : Int) + ((c.2.2.length + 1 : Nat) : Int) = i + (c.1.length : Int) + (c.2.2.length : Int) + 1 by omega] at h4
          exact ih _ m2 hk hm2 F2 h4 (by omega) (by omega) (fun d hd => hty d (List.mem_cons_of_mem _ hd)) (by omega)
        · exact g_ifF (by decide) (no (by omega))
      · -- without a test
        have ef : c.2.1 = false := by
          cases h : c.2.1
          · rfl
          · exact absurd h et
        have e22 := ty3' ef
        rw [e22] at tk ⊢
        rw [ef] at tk
        have tk2 : m0 row (i + (c.1.length : Int) + ((0 : Nat) : Int)) = -25 := tk
        rw [show i + (c.1.length : Int) + ((0 : Nat) : Int) = i + (c.1.length : Int) by omega] at tk2
        obtain ⟨p0, p1, p2⟩ := pl_top (L := []) ht1 hp1
        have r1 : m1 55 1 = row := (F1 55 1 (by decide)).trans hrow
        show wp_X10_sumByRule_4 S K (0 + ((codC l).length + 1 + 1)) 55 top1 (i + (c.1.length : Int)) m1
        rw [Nat.zero_add]
        refine u_X10_sumByRule_4 ?_
        refine g_getrow 1 rfl hS.k55 hm1.row55 (fun v1 e1 hr1 => ?_)
        have q1 : v1 = row := e1.trans r1
        subst q1
        refine g_lenrow hr1 (fun v2 e2 b2' c2' => ?_)
        refine g_ifF (by omega) ?_
        refine g_getrow 1 rfl hS.k55 hm1.row55 (fun v3 e3 hr3 => ?_)
        have q3 : v3 = v1 := e3.trans r1
        subst q3
        refine g_ldrowE hr3 (by omega) (by omega) (fun v4 e4 => ?_)
        have q4 : v4 = -25 := by rw [e4, F1 _ _ rne]; exact tk2
        subst q4
        refine g_C ?_
        refine g_ifT (by decide) ?_
        refine g_ifT (by omega) ?_
        refine g_C ?_
        refine g_ifF (by decide) ?_
        refine g_getr 3 56 rfl hS.k55 hm1.f_55_3 (by decide) ?_
        have t63 : top1 < 64 := by
          have q := congrArg List.length hp1
          rw [pl_len] at q
          have q2 : (top1 + 1).toNat = 1 := q
          omega
        refine g_ldu hS.k56 hS.l56 (by omega) (by omega) (fun v5 e5 => ?_)
        have q5 : v5 = s := e5.trans p1
        subst q5
        have q := hk m1 hm1 F1
        have e : evC (wdC m0) (c :: l) = v5 := by
          show (if c.2.1 = true ∧ (evl (wdC m0) [] c.2.2).headD 0 = 0 then evC (wdC m0) l else (evl (wdC m0) [] c.1).headD 0) = v5
          rw [es, if_neg (fun z => et z.1)]
          rfl
        rw [e] at q
        exact q
  refine u_X10_sumByRule ?_
  refine g_C ?_
  refine g_C ?_
  exact ⟨_, L Cs 0 m0 hk hm0 (fun _ _ _ => rfl) hH (by omega) (by decide) hty hn⟩
end
