/-! the dairy language over a tape: bytes b, length n; what was told so far is a row D, laid out as the reference's row `read` (200: PLACES, till their clause is read) -/
abbrev Dd : Type := Int → Int
def ud (D : Dd) (c v : Int) : Dd := fun p => if p = c then v else D p
theorem ud_at (D : Dd) (c v : Int) : ud D c v c = v := if_pos rfl
theorem ud_ne {D : Dd} {c v p : Int} (h : ¬ p = c) : ud D c v p = D p := if_neg h
def dz : Dd := fun _ => 0
/-- the number that the first i digits from q on spell -/
def nvl (b : Int → Int) (q : Int) : Nat → Int
  | 0 => 0
  | i + 1 => 10 * nvl b q i + (b (q + (i : Int)) - 48)
def nv (b : Int → Int) (q r : Int) : Int := nvl b q (r - q).toNat
def dLo (D : Dd) : Nat → Nat → Int
  | 0, 0 => 2
  | 0, 2 => 10
  | 1, 2 => 1
  | 4, 1 => D (81 + 3 * D 9)
  | 4, 2 => 1
  | 5, 2 => D (93 + 4 * D 6 + 1)
  | 5, 3 => 1
  | _, _ => 0
def dHi (D : Dd) : Nat → Nat → Int
  | 0, 0 => 6
  | 0, 1 => 9
  | 1, 0 => D 0 - 1
  | 1, 1 => D 0 - 1
  | 1, 2 => 5
  | 2, 0 => D 0 - 1
  | 2, 1 => 20
  | 2, 2 => 5
  | 3, 0 => D 0 - 1
  | 4, 2 => 5
  | 5, 0 => D 0 - 1
  | 5, 3 => 50
  | _, _ => 99
def dCl (D : Dd) : Nat → Nat → Int
  | 0, 0 => 200
  | 0, 1 => 1
  | 0, _ => 2
  | 1, j => 57 + 3 * D 3 + j
  | 2, 0 => 10 + 5 * D 4
  | 2, 1 => 10 + 5 * D 4 + 3
  | 2, _ => 10 + 5 * D 4 + 4
  | 3, 0 => 35 + 4 * D 5
  | 3, _ => 35 + 4 * D 5 + 2
  | 4, j => 81 + 3 * D 9 + j
  | _, j => 93 + 4 * D 6 + j
def dEnd : Nat → Nat
  | 3 => 1
  | 5 => 3
  | _ => 2
def dFin (D : Dd) : Nat → Dd
  | 0 => ud D 0 (D 200)
  | 1 => ud D 3 (D 3 + 1)
  | 2 => ud (ud (ud D (10 + 5 * D 4 + 1) 0) (10 + 5 * D 4 + 2) 0) 4 (D 4 + 1)
  | 3 => ud (ud (ud D (35 + 4 * D 5 + 1) (-1)) (35 + 4 * D 5 + 3) 0) 5 (D 5 + 1)
  | 4 => ud D 9 (D 9 + 1)
  | _ => ud (ud D (51 + D 6) (-1)) 6 (D 6 + 1)
def dFull (D : Dd) : Nat → Prop
  | 0 => False
  | 1 => D 3 = 8
  | 2 => D 4 = 5
  | 3 => D 5 = 4
  | 4 => D 9 = 4
  | _ => D 6 = 6
/-- a ROAD between a and c is told already -/
def Rt (D : Dd) (a c : Int) : Prop := ∃ k : Int, 0 ≤ k ∧ k < D 3 ∧ ((D (57 + 3 * k) = a ∧ D (57 + 3 * k + 1) = c) ∨ (D (57 + 3 * k) = c ∧ D (57 + 3 * k + 1) = a))
def dBad (D : Dd) (h j : Nat) (v : Int) : Prop := h = 1 ∧ j = 1 ∧ (D (57 + 3 * D 3) = v ∨ Rt D (D (57 + 3 * D 3)) v)
abbrev Da : Type := Nat → Nat → Nat → Int → Int → Dd → Int → Dd → Prop
def dch (b : Int → Int) (n : Int) (A : Da) (q k : Int) (D : Dd) (f : Int) (E : Dd) : List Nat → Prop
  | [] => f = 1 + 8 * q ∧ E = dz
  | h :: l => wIf (Wk b n h q) (wIf (k = 40 ∨ (h = 0 ∧ ¬ D 0 = 0) ∨ (¬ h = 0 ∧ D 0 = 0) ∨ dFull D h) (f = 5 + 8 * q ∧ E = dz) (A 1 h 0 (q + tl h) (k + 1) D f E)) (dch b n A q k D f E l)
def dNx (A : Da) (h j : Nat) (r k : Int) (D : Dd) (f : Int) (E : Dd) : Prop := wIf (j = dEnd h) (A 2 0 0 r k (dFin D h) f E) (A 1 h (j + 1) r k D f E)
def sN (b : Int → Int) (n : Int) (A : Da) (h j : Nat) (q k : Int) (D : Dd) (f : Int) (E : Dd) : Prop := wIf (q < n ∧ Dg (b q)) (∃ r : Int, Dr b n q r ∧ wIf (5 < r - q ∨ nv b q r < dLo D h j ∨ dHi D h j < nv b q r ∨ dBad D h j (nv b q r)) (f = 2 + 8 * q ∧ E = dz) (dNx A h j r k (ud D (dCl D h j) (nv b q r)) f E)) (f = 1 + 8 * q ∧ E = dz)
def sE (b : Int → Int) (n : Int) (A : Da) (q k : Int) (D : Dd) (f : Int) (E : Dd) : Prop := wIf (n ≤ q) (f = 0 ∧ E = D) (wIf (b q = 59) (A 0 0 0 (q + 1) k D f E) (f = 1 + 8 * q ∧ E = dz))
def dst (b : Int → Int) (n : Int) (A : Da) (m h j : Nat) (q k : Int) (D : Dd) (f : Int) (E : Dd) : Prop := wIf (m = 0) (dch b n A q k D f E [0, 1, 2, 3, 4, 5]) (wIf (m = 1) (sN b n A h j q k D f E) (sE b n A q k D f E))
def da (b : Int → Int) (n : Int) : Nat → Da
  | 0 => fun _ _ _ _ _ _ _ _ => False
  | N + 1 => fun m h j p k D f E => ∃ q : Int, Sk b n p q ∧ dst b n (da b n N) m h j q k D f E
/-- how the reading of a DAIRY ends: 0 and what is told, or its FAULT -/
def DA (b : Int → Int) (n : Int) : Da := fun m h j p k D f E => ∃ N : Nat, da b n N m h j p k D f E
theorem d_dch {b : Int → Int} {n q k : Int} {D : Dd} {f : Int} {E : Dd} : ∀ l : List Nat, dch b n (DA b n) q k D f E l → ∃ N : Nat, dch b n (da b n N) q k D f E l := by
  intro l
  induction l with
  | nil => intro h; exact ⟨0, h⟩
  | cons j js ih =>
    intro h
    exact ex_if (fun e => ex_if (fun e2 => ⟨0, (h.1 e).1 e2⟩) (fun e2 => (h.1 e).2 e2)) (fun e => ih (h.2 e))
theorem d_step {b : Int → Int} {n : Int} {m h j : Nat} {p q k : Int} {D : Dd} {f : Int} {E : Dd} (hs : Sk b n p q) (g : dst b n (DA b n) m h j q k D f E) : DA b n m h j p k D f E := by
  have z : ∃ N : Nat, dst b n (da b n N) m h j q k D f E := by
    refine ex_if (fun e => d_dch _ (g.1 e)) (fun e0 => ex_if (fun e => ?_) (fun e1 => ?_))
    · have g1 := (g.2 e0).1 e
      refine ex_if (fun a => ?_) (fun a => ⟨0, g1.2 a⟩)
      obtain ⟨r, hr, g2⟩ := g1.1 a
      obtain ⟨N, hN⟩ : ∃ N : Nat, wIf (5 < r - q ∨ nv b q r < dLo D h j ∨ dHi D h j < nv b q r ∨ dBad D h j (nv b q r)) (f = 2 + 8 * q ∧ E = dz) (dNx (da b n N) h j r k (ud D (dCl D h j) (nv b q r)) f E) := ex_if (fun a2 => ⟨0, g2.1 a2⟩) (fun a2 => ex_if (fun a3 => (g2.2 a2).1 a3) (fun a3 => (g2.2 a2).2 a3))
      exact ⟨N, r, hr, hN⟩
    · have g1 := (g.2 e0).2 e1
      exact ex_if (fun a => ⟨0, g1.1 a⟩) (fun a => ex_if (fun a2 => (g1.2 a).1 a2) (fun a2 => ⟨0, (g1.2 a).2 a2⟩))
  obtain ⟨N, hN⟩ := z
  exact ⟨N + 1, q, hs, hN⟩
theorem if_dt {c P Q P' Q' R : Prop} (h : wIf c P Q) (h' : wIf c P' Q') (h1 : P → P' → R) (h2 : Q → Q' → R) : R := by
  by_cases e : c
  · exact h1 (h.1 e) (h'.1 e)
  · exact h2 (h.2 e) (h'.2 e)
def Dtt (A B : Da) : Prop := ∀ m h j p k D f E g F, A m h j p k D f E → B m h j p k D g F → f = g ∧ E = F
theorem eq_dt {a f g : Int} {E F G : Dd} (h : f = a ∧ E = G) (h' : g = a ∧ F = G) : f = g ∧ E = F := ⟨h.1.trans h'.1.symm, h.2.trans h'.2.symm⟩
theorem dch_det {b : Int → Int} {n q k : Int} {D : Dd} {f g : Int} {E F : Dd} {A B : Da} (d : Dtt A B) : ∀ l : List Nat, dch b n A q k D f E l → dch b n B q k D g F l → f = g ∧ E = F := by
  intro l
  induction l with
  | nil => intro h h'; exact eq_dt h h'
  | cons j js ih =>
    intro h h'
    exact if_dt h h' (fun h h' => if_dt h h' eq_dt (fun h h' => d _ _ _ _ _ _ _ _ _ _ h h')) ih
theorem da_det {b : Int → Int} {n : Int} : ∀ N N' : Nat, Dtt (da b n N) (da b n N') := by
  intro N
  induction N with
  | zero => intro N' m h j p k D f E g F a; exact a.elim
  | succ N ih =>
    intro N'
    cases N' with
    | zero => intro m h j p k D f E g F _ a; exact a.elim
    | succ N' =>
      intro m h j p k D f E g F a a'
      have d := ih N'
      obtain ⟨q, hs, a⟩ := a
      obtain ⟨q', hs', a'⟩ := a'
      have e := hs.uniq hs'
      subst e
      have L : ∀ {m h j p k D}, da b n N m h j p k D f E → da b n N' m h j p k D g F → f = g ∧ E = F := fun h h' => d _ _ _ _ _ _ _ _ _ _ h h'
      refine if_dt a a' (dch_det d _) (fun a a' => if_dt a a' (fun a a' => if_dt a a' (fun a a' => ?_) eq_dt) (fun a a' => if_dt a a' eq_dt (fun a a' => if_dt a a' L eq_dt)))
      obtain ⟨r, hr, a⟩ := a
      obtain ⟨r', hr', a'⟩ := a'
      have e := hr.uniq hr'
      subst e
      exact if_dt a a' eq_dt (fun a a' => if_dt a a' L L)
theorem DA.det {b : Int → Int} {n : Int} {m h j : Nat} {p k : Int} {D : Dd} {f g : Int} {E F : Dd} (x : DA b n m h j p k D f E) (x' : DA b n m h j p k D g F) : f = g ∧ E = F := by
  obtain ⟨N, x⟩ := x
  obtain ⟨N', x'⟩ := x'
  exact da_det N N' _ _ _ _ _ _ _ _ _ _ x x'
/-- what the rest of the reading ends with, the whole ends with -/
def Ld (b : Int → Int) (n : Int) (T : Int → Dd → Prop) (m h j : Nat) (p k : Int) (D : Dd) : Prop := ∀ (f : Int) (E : Dd), DA b n m h j p k D f E → T f E
theorem Ld.bad0 {b : Int → Int} {n : Int} {T : Int → Dd → Prop} {h j : Nat} {p q k : Int} {D : Dd} (l : Ld b n T 1 h j p k D) (hs : Sk b n p q) (hn : ¬ (q < n ∧ Dg (b q))) : T (1 + 8 * q) dz := l _ _ (d_step hs (g_ifF (by decide) (g_ifT rfl (g_ifF hn ⟨rfl, rfl⟩))))
theorem Ld.bad1 {b : Int → Int} {n : Int} {T : Int → Dd → Prop} {h j : Nat} {p q r k : Int} {D : Dd} (l : Ld b n T 1 h j p k D) (hs : Sk b n p q) (hn : q < n ∧ Dg (b q)) (hr : Dr b n q r) (hb : 5 < r - q ∨ nv b q r < dLo D h j ∨ dHi D h j < nv b q r ∨ dBad D h j (nv b q r)) : T (2 + 8 * q) dz := l _ _ (d_step hs (g_ifF (by decide) (g_ifT rfl (g_ifT hn ⟨r, hr, g_ifT hb ⟨rfl, rfl⟩⟩))))
theorem Ld.nx {b : Int → Int} {n : Int} {T : Int → Dd → Prop} {h j : Nat} {p q r k : Int} {D : Dd} (l : Ld b n T 1 h j p k D) (hs : Sk b n p q) (hn : q < n ∧ Dg (b q)) (hr : Dr b n q r) (hb : ¬ (5 < r - q ∨ nv b q r < dLo D h j ∨ dHi D h j < nv b q r ∨ dBad D h j (nv b q r))) (hj : ¬ j = dEnd h) : Ld b n T 1 h (j + 1) r k (ud D (dCl D h j) (nv b q r)) := fun f E z => l _ _ (d_step hs (g_ifF (by decide) (g_ifT rfl (g_ifT hn ⟨r, hr, g_ifF hb (g_ifF hj z)⟩))))
theorem Ld.end {b : Int → Int} {n : Int} {T : Int → Dd → Prop} {h j : Nat} {p q r k : Int} {D : Dd} (l : Ld b n T 1 h j p k D) (hs : Sk b n p q) (hn : q < n ∧ Dg (b q)) (hr : Dr b n q r) (hb : ¬ (5 < r - q ∨ nv b q r < dLo D h j ∨ dHi D h j < nv b q r ∨ dBad D h j (nv b q r))) (hj : j = dEnd h) : Ld b n T 2 0 0 r k (dFin (ud D (dCl D h j) (nv b q r)) h) := fun f E z => l _ _ (d_step hs (g_ifF (by decide) (g_ifT rfl (g_ifT hn ⟨r, hr, g_ifF hb (g_ifT hj z)⟩))))
