/-! the rule language over a tape, with what is written: P the pile of signs that wait (its top first), O what is written, both as the class has them (numbers; words -2 and on; * / % + - -12 .. -16; < <= = >= > -17 .. -21; not and or -22 .. -24; turn, turn if -25, -26; [ -27) -/
def bnS (x : Int) : Int := if x = -24 then 1 else if x = -23 then 2 else if x = -22 then 3 else if -21 ≤ x ∧ x ≤ -17 then 4 else if x = -16 ∨ x = -15 then 5 else if -14 ≤ x ∧ x ≤ -12 then 6 else 4
/-- what is written of a pile, down to what binds less than u, or a bracket -/
def uW (u : Int) : List Int → List Int
  | [] => []
  | x :: P => if x = -27 ∨ bnS x < u then [] else x :: uW u P
/-- what stays -/
def uR (u : Int) : List Int → List Int
  | [] => []
  | x :: P => if x = -27 ∨ bnS x < u then x :: P else uR u P
def nOp : List Int → Nat
  | [] => 0
  | x :: P => (if x = -27 then 1 else 0) + nOp P
def nDp : List Int → Nat
  | [] => 0
  | x :: P => (if x = -27 ∨ x = -22 then 1 else 0) + nDp P
/-- the sign of a byte: * / % + - -/
def arS (x : Int) : Int := if x = 42 then -12 else if x = 47 then -13 else if x = 37 then -14 else if x = 43 then -15 else -16
/-- the sign of a comparison: its byte, and whether = comes behind -/
def cmS (x : Int) (e : Bool) : Int := if x = 61 then -19 else if x = 60 then (if e then -18 else -17) else (if e then -20 else -21)
abbrev Bc : Type := Int → Int → Int → List Int → List Int → Int → Int → List Int → Prop
def bV (b : Int → Int) (n : Int) (A : Bc) (m q c : Int) (P O : List Int) (k f : Int) (E : List Int) : List (Nat × Int) → Prop
  | [] => f = 1 + 8 * q ∧ E = []
  | (j, t) :: js => wIf (Wk b n j q) (wIf (c = 60) (f = 4 + 8 * q ∧ E = []) (A (m + 3) (q + tl j) (c + 1) P (O ++ [t]) k f E)) (bV b n A m q c P O k f E js)
def bws : List (Nat × Int) := [(2, -2), (7, -3), (8, -4), (3, -5), (9, -6), (4, -7), (10, -8), (1, -9), (11, -10), (12, -11)]
def b0 (b : Int → Int) (n : Int) (A : Bc) (q c : Int) (O : List Int) (k f : Int) (E : List Int) : Prop := wIf (Wk b n 6 q) (wIf (k = 12) (f = 5 + 8 * q ∧ E = []) (A 1 (q + 4) c [] O (k + 1) f E)) (f = 1 + 8 * q ∧ E = [])
def bVal (b : Int → Int) (n : Int) (A : Bc) (m q c : Int) (P O : List Int) (k f : Int) (E : List Int) : Prop := wIf (q < n ∧ Dg (b q)) (∃ r : Int, Dr b n q r ∧ wIf (5 < r - q) (f = 2 + 8 * q ∧ E = []) (wIf (c = 60) (f = 4 + 8 * q ∧ E = []) (A (m + 3) r (c + 1) P (O ++ [nv b q r]) k f E))) (bV b n A m q c P O k f E bws)
/-- a sign is piled up: what binds as close is written first -/
def bPile (A : Bc) (m p c s : Int) (P O : List Int) (k f : Int) (E : List Int) : Prop := A m p c (s :: uR (bnS s) P) (O ++ uW (bnS s) P) k f E
def bA0 (b : Int → Int) (n : Int) (A : Bc) (q c : Int) (P O : List Int) (k f : Int) (E : List Int) : Prop := wIf (n ≤ q ∨ b q = 59) (A 9 q c [] (O ++ uW 0 P ++ [-25]) k f E) (wIf (Ar (b q)) (bPile A 1 (q + 1) c (arS (b q)) P O k f E) (wIf (Wk b n 13 q) (A 8 (q + 2) c (uR 0 P) (O ++ uW 0 P) k f E) (f = 1 + 8 * q ∧ E = [])))
def bA1 (b : Int → Int) (n : Int) (A : Bc) (q c : Int) (P O : List Int) (k f : Int) (E : List Int) : Prop := wIf (q < n ∧ Ar (b q)) (bPile A 2 (q + 1) c (arS (b q)) P O k f E) (wIf (q < n ∧ Cm (b q)) (wIf (c = 60) (f = 4 + 8 * q ∧ E = []) (wIf (¬ b q = 61 ∧ q + 1 < n ∧ b (q + 1) = 61) (bPile A 3 (q + 2) (c + 1) (cmS (b q) true) P O k f E) (bPile A 3 (q + 1) (c + 1) (cmS (b q) false) P O k f E))) (f = 1 + 8 * q ∧ E = []))
def bB (b : Int → Int) (n : Int) (A : Bc) (q c : Int) (P O : List Int) (k f : Int) (E : List Int) : Prop := wIf (Wk b n 15 q) (bPile A 8 (q + 3) c (-23) P O k f E) (wIf (Wk b n 16 q) (bPile A 8 (q + 2) c (-24) P O k f E) (f = 1 + 8 * q ∧ E = []))
/-- a bracket closes, or the clause ends -/
def bC (b : Int → Int) (n : Int) (A : Bc) (q c : Int) (P O : List Int) (k f : Int) (E : List Int) (Z : Prop) : Prop := wIf (q < n ∧ b q = 93 ∧ ¬ nOp P = 0) (A 7 (q + 1) c (uR 0 P).tail (O ++ uW 0 P) k f E) (wIf (nOp P = 0 ∧ (n ≤ q ∨ b q = 59)) (A 9 q c [] (O ++ uW 0 P ++ [-26]) k f E) Z)
def bA2 (b : Int → Int) (n : Int) (A : Bc) (q c : Int) (P O : List Int) (k f : Int) (E : List Int) : Prop := bC b n A q c P O k f E (wIf (q < n ∧ Ar (b q)) (bPile A 3 (q + 1) c (arS (b q)) P O k f E) (bB b n A q c P O k f E))
def bA3 (b : Int → Int) (n : Int) (A : Bc) (q c : Int) (P O : List Int) (k f : Int) (E : List Int) : Prop := bC b n A q c P O k f E (bB b n A q c P O k f E)
def bO (b : Int → Int) (n : Int) (A : Bc) (q c : Int) (P O : List Int) (k f : Int) (E : List Int) : Prop := wIf (q < n ∧ b q = 91) (wIf (nDp P = 10) (f = 3 + 8 * q ∧ E = []) (A 8 (q + 1) c (-27 :: P) O k f E)) (wIf (Wk b n 14 q) (wIf (nDp P = 10) (f = 3 + 8 * q ∧ E = []) (A 8 (q + 3) c (-22 :: P) O k f E)) (A 2 q c P O k f E))
def bE (b : Int → Int) (n : Int) (A : Bc) (q c : Int) (O : List Int) (k f : Int) (E : List Int) : Prop := wIf (n ≤ q) (f = 0 ∧ E = O) (wIf (b q = 59) (A 0 (q + 1) c [] O k f E) (f = 1 + 8 * q ∧ E = []))
def bst (b : Int → Int) (n : Int) (A : Bc) (m q c : Int) (P O : List Int) (k f : Int) (E : List Int) : Prop := wIf (m = 0) (b0 b n A q c O k f E) (wIf (m = 1 ∨ m = 2 ∨ m = 3) (bVal b n A m q c P O k f E) (wIf (m = 4) (bA0 b n A q c P O k f E) (wIf (m = 5) (bA1 b n A q c P O k f E) (wIf (m = 6) (bA2 b n A q c P O k f E) (wIf (m = 7) (bA3 b n A q c P O k f E) (wIf (m = 8) (bO b n A q c P O k f E) (bE b n A q c O k f E)))))))
def bcc (b : Int → Int) (n : Int) : Nat → Bc
  | 0 => fun _ _ _ _ _ _ _ _ => False
  | N + 1 => fun m p c P O k f E => ∃ q : Int, Sk b n p q ∧ bst b n (bcc b n N) m q c P O k f E
/-- how the reading of a RULE ends: its FAULT, or 0 and the signs -/
def Bcc (b : Int → Int) (n : Int) : Bc := fun m p c P O k f E => ∃ N : Nat, bcc b n N m p c P O k f E
theorem b_bV {b : Int → Int} {n m q c : Int} {P O : List Int} {k f : Int} {E : List Int} : ∀ l : List (Nat × Int), bV b n (Bcc b n) m q c P O k f E l → ∃ N : Nat, bV b n (bcc b n N) m q c P O k f E l := by
  intro l
  induction l with
  | nil => intro h; exact ⟨0, h⟩
  | cons j js ih =>
    intro h
    exact ex_if (fun e => ex_if (fun e2 => ⟨0, (h.1 e).1 e2⟩) (fun e2 => (h.1 e).2 e2)) (fun e => ih (h.2 e))
theorem b_bB {b : Int → Int} {n q c : Int} {P O : List Int} {k f : Int} {E : List Int} (h : bB b n (Bcc b n) q c P O k f E) : ∃ N : Nat, bB b n (bcc b n N) q c P O k f E := ex_if (fun a => h.1 a) (fun a => ex_if (fun a2 => (h.2 a).1 a2) (fun a2 => ⟨0, (h.2 a).2 a2⟩))
theorem b_step {b : Int → Int} {n m p q c : Int} {P O : List Int} {k f : Int} {E : List Int} (hs : Sk b n p q) (h : bst b n (Bcc b n) m q c P O k f E) : Bcc b n m p c P O k f E := by
  have z : ∃ N : Nat, bst b n (bcc b n N) m q c P O k f E := by
    refine ex_if (fun e => ?_) (fun e0 => ex_if (fun e => ?_) (fun e1 => ex_if (fun e => ?_) (fun e2 => ex_if (fun e => ?_) (fun e3 => ex_if (fun e => ?_) (fun e4 => ex_if (fun e => ?_) (fun e5 => ex_if (fun e => ?_) (fun e6 => ?_)))))))
    · have g := h.1 e
      exact ex_if (fun a => ex_if (fun a2 => ⟨0, (g.1 a).1 a2⟩) (fun a2 => (g.1 a).2 a2)) (fun a => ⟨0, g.2 a⟩)
    · have g := (h.2 e0).1 e
      refine ex_if (fun a => ?_) (fun a => b_bV _ (g.2 a))
      obtain ⟨r, hr, g2⟩ := g.1 a
      obtain ⟨N, hN⟩ : ∃ N : Nat, wIf (5 < r - q) (f = 2 + 8 * q ∧ E = []) (wIf (c = 60) (f = 4 + 8 * q ∧ E = []) (bcc b n N (m + 3) r (c + 1) P (O ++ [nv b q r]) k f E)) := ex_if (fun a2 => ⟨0, g2.1 a2⟩) (fun a2 => ex_if (fun a3 => ⟨0, (g2.2 a2).1 a3⟩) (fun a3 => (g2.2 a2).2 a3))
      exact ⟨N, r, hr, hN⟩
    · have g := ((h.2 e0).2 e1).1 e
      exact ex_if (fun a => g.1 a) (fun a => ex_if (fun a2 => (g.2 a).1 a2) (fun a2 => ex_if (fun a3 => ((g.2 a).2 a2).1 a3) (fun a3 => ⟨0, ((g.2 a).2 a2).2 a3⟩)))
    · have g := (((h.2 e0).2 e1).2 e2).1 e
      exact ex_if (fun a => g.1 a) (fun a => ex_if (fun a2 => ex_if (fun a3 => ⟨0, ((g.2 a).1 a2).1 a3⟩) (fun a3 => ex_if (fun a4 => (((g.2 a).1 a2).2 a3).1 a4) (fun a4 => (((g.2 a).1 a2).2 a3).2 a4))) (fun a2 => ⟨0, (g.2 a).2 a2⟩))
    · have g := ((((h.2 e0).2 e1).2 e2).2 e3).1 e
      exact ex_if (fun a => g.1 a) (fun a => ex_if (fun a2 => (g.2 a).1 a2) (fun a2 => ex_if (fun a3 => ((g.2 a).2 a2).1 a3) (fun a3 => b_bB (((g.2 a).2 a2).2 a3))))
    · have g := (((((h.2 e0).2 e1).2 e2).2 e3).2 e4).1 e
      exact ex_if (fun a => g.1 a) (fun a => ex_if (fun a2 => (g.2 a).1 a2) (fun a2 => b_bB ((g.2 a).2 a2)))
    · have g := ((((((h.2 e0).2 e1).2 e2).2 e3).2 e4).2 e5).1 e
      exact ex_if (fun a => ex_if (fun a2 => ⟨0, (g.1 a).1 a2⟩) (fun a2 => (g.1 a).2 a2)) (fun a => ex_if (fun a2 => ex_if (fun a3 => ⟨0, ((g.2 a).1 a2).1 a3⟩) (fun a3 => ((g.2 a).1 a2).2 a3)) (fun a2 => (g.2 a).2 a2))
    · have g := ((((((h.2 e0).2 e1).2 e2).2 e3).2 e4).2 e5).2 e6
      exact ex_if (fun a => ⟨0, g.1 a⟩) (fun a => ex_if (fun a2 => (g.2 a).1 a2) (fun a2 => ⟨0, (g.2 a).2 a2⟩))
  obtain ⟨N, hN⟩ := z
  exact ⟨N + 1, q, hs, hN⟩
def Btt (A B : Bc) : Prop := ∀ m p c P O k f E g F, A m p c P O k f E → B m p c P O k g F → f = g ∧ E = F
theorem eq_bt {a f g : Int} {E F G : List Int} (h : f = a ∧ E = G) (h' : g = a ∧ F = G) : f = g ∧ E = F := ⟨h.1.trans h'.1.symm, h.2.trans h'.2.symm⟩
theorem bV_det {b : Int → Int} {n m q c : Int} {P O : List Int} {k f g : Int} {E F : List Int} {A B : Bc} (d : Btt A B) : ∀ l : List (Nat × Int), bV b n A m q c P O k f E l → bV b n B m q c P O k g F l → f = g ∧ E = F := by
  intro l
  induction l with
  | nil => intro h h'; exact eq_bt h h'
  | cons j js ih =>
    intro h h'
    exact if_dt h h' (fun h h' => if_dt h h' eq_bt (fun h h' => d _ _ _ _ _ _ _ _ _ _ h h')) ih
theorem bcc_det {b : Int → Int} {n : Int} : ∀ N N' : Nat, Btt (bcc b n N) (bcc b n N') := by
  intro N
  induction N with
  | zero => intro N' m p c P O k f E g F a; exact a.elim
  | succ N ih =>
    intro N'
    cases N' with
    | zero => intro m p c P O k f E g F _ a; exact a.elim
    | succ N' =>
      intro m p c P O k f E g F a a'
      have d := ih N'
      obtain ⟨q, hs, a⟩ := a
      obtain ⟨q', hs', a'⟩ := a'
      have e := hs.uniq hs'
      subst e
      have L : ∀ {m p c P O k}, bcc b n N m p c P O k f E → bcc b n N' m p c P O k g F → f = g ∧ E = F := fun h h' => d _ _ _ _ _ _ _ _ _ _ h h'
      have dB : bB b n (bcc b n N) q c P O k f E → bB b n (bcc b n N') q c P O k g F → f = g ∧ E = F := fun h h' => if_dt h h' L (fun h h' => if_dt h h' L eq_bt)
      refine if_dt a a' (fun h h' => if_dt h h' (fun h h' => if_dt h h' eq_bt L) eq_bt) (fun h h' => if_dt h h' (fun h h' => if_dt h h' (fun h h' => ?_) (bV_det d _)) (fun h h' => if_dt h h' (fun h h' => if_dt h h' L (fun h h' => if_dt h h' L (fun h h' => if_dt h h' L eq_bt))) (fun h h' => if_dt h h' (fun h h' => if_dt h h' L (fun h h' => if_dt h h' (fun h h' => if_dt h h' eq_bt (fun h h' => if_dt h h' L L)) eq_bt)) (fun h h' => if_dt h h' (fun h h' => if_dt h h' L (fun h h' => if_dt h h' L (fun h h' => if_dt h h' L dB))) (fun h h' => if_dt h h' (fun h h' => if_dt h h' L (fun h h' => if_dt h h' L dB)) (fun h h' => if_dt h h' (fun h h' => if_dt h h' (fun h h' => if_dt h h' eq_bt L) (fun h h' => if_dt h h' (fun h h' => if_dt h h' eq_bt L) L)) (fun h h' => if_dt h h' (fun h h' => ⟨h.1.trans h'.1.symm, h.2.trans h'.2.symm⟩) (fun h h' => if_dt h h' L eq_bt))))))))
      obtain ⟨r, hr, h⟩ := h
      obtain ⟨r', hr', h'⟩ := h'
      have e := hr.uniq hr'
      subst e
      exact if_dt h h' eq_bt (fun h h' => if_dt h h' eq_bt L)
theorem Bcc.det {b : Int → Int} {n m p c : Int} {P O : List Int} {k f g : Int} {E F : List Int} (x : Bcc b n m p c P O k f E) (x' : Bcc b n m p c P O k g F) : f = g ∧ E = F := by
  obtain ⟨N, x⟩ := x
  obtain ⟨N', x'⟩ := x'
  exact bcc_det N N' _ _ _ _ _ _ _ _ _ _ x x'
theorem uW_27 (u : Int) (P : List Int) : uW u (-27 :: P) = [] ∧ uR u (-27 :: P) = -27 :: P := ⟨if_pos (Or.inl rfl), if_pos (Or.inl rfl)⟩
theorem nOp_uR (u : Int) : ∀ P : List Int, nOp (uR u P) = nOp P := by
  intro P
  induction P with
  | nil => rfl
  | cons x P ih =>
    show nOp (if x = -27 ∨ bnS x < u then x :: P else uR u P) = (if x = -27 then 1 else 0) + nOp P
    by_cases e : x = -27 ∨ bnS x < u
    · rw [if_pos e]; rfl
    · rw [if_neg e, ih, if_neg (fun z => e (Or.inl z)), Nat.zero_add]
theorem nDp_uR (u : Int) : ∀ P : List Int, nDp (uR u P) ≤ nDp P := by
  intro P
  induction P with
  | nil => exact Nat.le_refl _
  | cons x P ih =>
    show nDp (if x = -27 ∨ bnS x < u then x :: P else uR u P) ≤ (if x = -27 ∨ x = -22 then 1 else 0) + nDp P
    by_cases e : x = -27 ∨ bnS x < u
    · rw [if_pos e]; exact Nat.le_refl _
    · rw [if_neg e]; omega
