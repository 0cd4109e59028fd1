/-! the rule language over a tape: bytes b, length n -/
def u8 (x : Int) : Int := if 0 ≤ x then x else x + 256
theorem u8_eq {x v : Int} (h1 : -128 ≤ x) (h2 : x ≤ 127) (h3 : 0 ≤ v) (h4 : v ≤ 127) : u8 x = v ↔ x = v := by
  unfold u8
  split <;> omega
theorem u8_r {x : Int} (h1 : -128 ≤ x) (h2 : x ≤ 127) : 0 ≤ u8 x ∧ u8 x ≤ 255 := by
  unfold u8
  split <;> omega
theorem and255 : ∀ k : Nat, k < 256 → iAnd ((k : Int) - 128) 255 = u8 ((k : Int) - 128) := by decide +kernel
theorem iAnd_u8 {x : Int} (h1 : -128 ≤ x) (h2 : x ≤ 127) : iAnd x 255 = u8 x := by
  have q := and255 (x + 128).toNat (by omega)
  rw [show (((x + 128).toNat : Nat) : Int) - 128 = x by omega] at q
  exact q
def Sk (b : Int → Int) (n p q : Int) : Prop := p ≤ q ∧ (∀ j : Int, p ≤ j → j < q → j < n ∧ b j = 32) ∧ (n ≤ q ∨ ¬ b q = 32)
theorem Sk.uniq {b : Int → Int} {n p q r : Int} (h : Sk b n p q) (k : Sk b n p r) : q = r := by
  obtain ⟨h1, h2, h3⟩ := h
  obtain ⟨k1, k2, k3⟩ := k
  by_cases e : q < r
  · have z := k2 q h1 e
    omega
  · by_cases e2 : r < q
    · have z := h2 r k1 e2
      omega
    · omega
theorem Sk.self {b : Int → Int} {n q : Int} (h : n ≤ q ∨ ¬ b q = 32) : Sk b n q q := ⟨Int.le_refl _, fun j a c => absurd c (by omega), h⟩
theorem Sk.idem {b : Int → Int} {n p q : Int} (h : Sk b n p q) : Sk b n q q := Sk.self h.2.2
theorem Sk.le {b : Int → Int} {n p q : Int} (h : Sk b n p q) (hp : p ≤ n) : q ≤ n := by
  by_cases e : q ≤ p
  · omega
  · have z := h.2.1 (q - 1) (by omega) (by omega)
    omega
theorem Sk.cons {b : Int → Int} {n p q : Int} (h : Sk b n (p + 1) q) (h1 : p < n) (h2 : b p = 32) : Sk b n p q := by
  obtain ⟨a1, a2, a3⟩ := h
  refine ⟨by omega, fun j j1 j2 => ?_, a3⟩
  by_cases e : j = p
  · rw [e]; exact ⟨h1, h2⟩
  · exact a2 j (by omega) j2
def tl (k : Nat) : Int := txL.getD k 0
def tw (k : Nat) (i : Nat) : Int := ((txB.getD k []).getD i 0).toInt
def Wk (b : Int → Int) (n : Int) (k : Nat) (q : Int) : Prop := (∀ i : Int, 0 ≤ i → i < tl k → q + i < n ∧ b (q + i) = tw k i.toNat) ∧ ¬ (q + tl k < n ∧ 97 ≤ b (q + tl k) ∧ b (q + tl k) ≤ 122)
def Dg (x : Int) : Prop := 48 ≤ x ∧ x ≤ 57
def Dr (b : Int → Int) (n q r : Int) : Prop := q ≤ r ∧ (∀ j : Int, q ≤ j → j < r → j < n ∧ Dg (b j)) ∧ ¬ (r < n ∧ Dg (b r))
theorem Dr.uniq {b : Int → Int} {n p q r : Int} (h : Dr b n p q) (k : Dr b n p r) : q = r := by
  obtain ⟨h1, h2, h3⟩ := h
  obtain ⟨k1, k2, k3⟩ := k
  by_cases e : q < r
  · exact absurd (k2 q h1 e) h3
  · by_cases e2 : r < q
    · exact absurd (h2 r k1 e2) k3
    · omega
def Ar (x : Int) : Prop := x = 42 ∨ x = 47 ∨ x = 37 ∨ x = 43 ∨ x = 45
def Cm (x : Int) : Prop := x = 60 ∨ x = 61 ∨ x = 62
abbrev Ac : Type := Int → Int → Int → List Bool → Int → Int → Prop
/-- without the nots on top -/
def dropN : List Bool → List Bool
  | [] => []
  | true :: s => true :: s
  | false :: s => dropN s
/-- down through the first bracket -/
def clos : List Bool → List Bool
  | [] => []
  | true :: s => s
  | false :: s => clos s
def st0 (b : Int → Int) (n : Int) (A : Ac) (q c k f : Int) : Prop := wIf (Wk b n 6 q) (wIf (k = 12) (f = 5 + 8 * q) (A 1 (q + 4) c [] (k + 1) f)) (f = 1 + 8 * q)
def vch (b : Int → Int) (n : Int) (A : Ac) (m q c : Int) (st : List Bool) (k f : Int) : List Nat → Prop
  | [] => f = 1 + 8 * q
  | j :: js => wIf (Wk b n j q) (wIf (c = 60) (f = 4 + 8 * q) (A (m + 3) (q + tl j) (c + 1) st k f)) (vch b n A m q c st k f js)
def vws : List Nat := [2, 7, 8, 3, 9, 4, 10, 1, 11, 12]
def stV (b : Int → Int) (n : Int) (A : Ac) (m q c : Int) (st : List Bool) (k f : Int) : Prop := wIf (q < n ∧ Dg (b q)) (∃ r : Int, Dr b n q r ∧ wIf (5 < r - q) (f = 2 + 8 * q) (wIf (c = 60) (f = 4 + 8 * q) (A (m + 3) r (c + 1) st k f))) (vch b n A m q c st k f vws)
def stA0 (b : Int → Int) (n : Int) (A : Ac) (q c : Int) (st : List Bool) (k f : Int) : Prop := wIf (n ≤ q ∨ b q = 59) (A 9 q c st k f) (wIf (Ar (b q)) (A 1 (q + 1) c st k f) (wIf (Wk b n 13 q) (A 8 (q + 2) c [] k f) (f = 1 + 8 * q)))
def stA1 (b : Int → Int) (n : Int) (A : Ac) (q c : Int) (st : List Bool) (k f : Int) : Prop := wIf (q < n ∧ Ar (b q)) (A 2 (q + 1) c st k f) (wIf (q < n ∧ Cm (b q)) (wIf (c = 60) (f = 4 + 8 * q) (wIf (¬ b q = 61 ∧ q + 1 < n ∧ b (q + 1) = 61) (A 3 (q + 2) (c + 1) st k f) (A 3 (q + 1) (c + 1) st k f))) (f = 1 + 8 * q))
def stB (b : Int → Int) (n : Int) (A : Ac) (q c : Int) (st : List Bool) (k f : Int) : Prop := wIf (Wk b n 15 q) (A 8 (q + 3) c (dropN st) k f) (wIf (Wk b n 16 q) (A 8 (q + 2) c (dropN st) k f) (f = 1 + 8 * q))
def stA2 (b : Int → Int) (n : Int) (A : Ac) (q c : Int) (st : List Bool) (k f : Int) : Prop := wIf (q < n ∧ b q = 93 ∧ true ∈ st) (A 7 (q + 1) c (clos st) k f) (wIf (¬ true ∈ st ∧ (n ≤ q ∨ b q = 59)) (A 9 q c st k f) (wIf (q < n ∧ Ar (b q)) (A 3 (q + 1) c st k f) (stB b n A q c st k f)))
def stA3 (b : Int → Int) (n : Int) (A : Ac) (q c : Int) (st : List Bool) (k f : Int) : Prop := wIf (q < n ∧ b q = 93 ∧ true ∈ st) (A 7 (q + 1) c (clos st) k f) (wIf (¬ true ∈ st ∧ (n ≤ q ∨ b q = 59)) (A 9 q c st k f) (stB b n A q c st k f))
def stO (b : Int → Int) (n : Int) (A : Ac) (q c : Int) (st : List Bool) (k f : Int) : Prop := wIf (q < n ∧ b q = 91) (wIf (st.length = 10) (f = 3 + 8 * q) (A 8 (q + 1) c (true :: st) k f)) (wIf (Wk b n 14 q) (wIf (st.length = 10) (f = 3 + 8 * q) (A 8 (q + 3) c (false :: st) k f)) (A 2 q c st k f))
def stE (b : Int → Int) (n : Int) (A : Ac) (q c k f : Int) : Prop := wIf (n ≤ q) (f = 0) (wIf (b q = 59) (A 0 (q + 1) c [] k f) (f = 1 + 8 * q))
def stp (b : Int → Int) (n : Int) (A : Ac) (m q c : Int) (st : List Bool) (k f : Int) : Prop := wIf (m = 0) (st0 b n A q c k f) (wIf (m = 1 ∨ m = 2 ∨ m = 3) (stV b n A m q c st k f) (wIf (m = 4) (stA0 b n A q c st k f) (wIf (m = 5) (stA1 b n A q c st k f) (wIf (m = 6) (stA2 b n A q c st k f) (wIf (m = 7) (stA3 b n A q c st k f) (wIf (m = 8) (stO b n A q c st k f) (stE b n A q c k f)))))))
def acc (b : Int → Int) (n : Int) : Nat → Ac
  | 0 => fun _ _ _ _ _ _ => False
  | N + 1 => fun m p c st k f => ∃ q : Int, Sk b n p q ∧ stp b n (acc b n N) m q c st k f
/-- how a reading ends: 0 if well, else its FAULT -/
def Acc (b : Int → Int) (n : Int) : Ac := fun m p c st k f => ∃ N : Nat, acc b n N m p c st k f
theorem ex_if {c : Prop} {P Q : Nat → Prop} (h1 : c → ∃ N : Nat, P N) (h2 : ¬ c → ∃ N : Nat, Q N) : ∃ N : Nat, wIf c (P N) (Q N) := by
  by_cases e : c
  · obtain ⟨N, h⟩ := h1 e
    exact ⟨N, fun _ => h, fun z => absurd e z⟩
  · obtain ⟨N, h⟩ := h2 e
    exact ⟨N, fun z => absurd z e, fun _ => h⟩
theorem a_vch {b : Int → Int} {n m q c : Int} {st : List Bool} {k f : Int} : ∀ l : List Nat, vch b n (Acc b n) m q c st k f l → ∃ N : Nat, vch b n (acc b n N) m q c st k f l := by
  intro l
  induction l with
  | nil => intro h; exact ⟨0, h⟩
  | cons j js ih =>
    intro h
    exact ex_if (fun e => ex_if (fun e2 => ⟨0, (h.1 e).1 e2⟩) (fun e2 => (h.1 e).2 e2)) (fun e => ih (h.2 e))
theorem a_step {b : Int → Int} {n m p q c : Int} {st : List Bool} {k f : Int} (hs : Sk b n p q) (h : stp b n (Acc b n) m q c st k f) : Acc b n m p c st k f := by
  have z : ∃ N : Nat, stp b n (acc b n N) m q c st k f := by
    refine ex_if (fun e => ?_) (fun e0 => ex_if (fun e => ?_) (fun e1 => ex_if (fun e => ?_) (fun e2 => ex_if (fun e => ?_) (fun e3 => ex_if (fun e => ?_) (fun e4 => ex_if (fun e => ?_) (fun e5 => ex_if (fun e => ?_) (fun e6 => ?_)))))))
    · have g := h.1 e
      exact ex_if (fun a => ex_if (fun a2 => ⟨0, (g.1 a).1 a2⟩) (fun a2 => (g.1 a).2 a2)) (fun a => ⟨0, g.2 a⟩)
    · have g := (h.2 e0).1 e
      refine ex_if (fun a => ?_) (fun a => a_vch _ (g.2 a))
      obtain ⟨r, hr, g2⟩ := g.1 a
      obtain ⟨N, hN⟩ : ∃ N : Nat, wIf (5 < r - q) (f = 2 + 8 * q) (wIf (c = 60) (f = 4 + 8 * q) (acc b n N (m + 3) r (c + 1) st k f)) := ex_if (fun a2 => ⟨0, g2.1 a2⟩) (fun a2 => ex_if (fun a3 => ⟨0, (g2.2 a2).1 a3⟩) (fun a3 => (g2.2 a2).2 a3))
      exact ⟨N, r, hr, hN⟩
    · have g := ((h.2 e0).2 e1).1 e
      exact ex_if (fun a => g.1 a) (fun a => ex_if (fun a2 => (g.2 a).1 a2) (fun a2 => ex_if (fun a3 => ((g.2 a).2 a2).1 a3) (fun a3 => ⟨0, ((g.2 a).2 a2).2 a3⟩)))
    · have g := (((h.2 e0).2 e1).2 e2).1 e
      exact ex_if (fun a => g.1 a) (fun a => ex_if (fun a2 => ex_if (fun a3 => ⟨0, ((g.2 a).1 a2).1 a3⟩) (fun a3 => ex_if (fun a4 => (((g.2 a).1 a2).2 a3).1 a4) (fun a4 => (((g.2 a).1 a2).2 a3).2 a4))) (fun a2 => ⟨0, (g.2 a).2 a2⟩))
    · have g := ((((h.2 e0).2 e1).2 e2).2 e3).1 e
      exact ex_if (fun a => g.1 a) (fun a => ex_if (fun a2 => (g.2 a).1 a2) (fun a2 => ex_if (fun a3 => ((g.2 a).2 a2).1 a3) (fun a3 => ex_if (fun a4 => (((g.2 a).2 a2).2 a3).1 a4) (fun a4 => ex_if (fun a5 => ((((g.2 a).2 a2).2 a3).2 a4).1 a5) (fun a5 => ⟨0, ((((g.2 a).2 a2).2 a3).2 a4).2 a5⟩)))))
    · have g := (((((h.2 e0).2 e1).2 e2).2 e3).2 e4).1 e
      exact ex_if (fun a => g.1 a) (fun a => ex_if (fun a2 => (g.2 a).1 a2) (fun a2 => ex_if (fun a4 => ((g.2 a).2 a2).1 a4) (fun a4 => ex_if (fun a5 => (((g.2 a).2 a2).2 a4).1 a5) (fun a5 => ⟨0, (((g.2 a).2 a2).2 a4).2 a5⟩))))
    · have g := ((((((h.2 e0).2 e1).2 e2).2 e3).2 e4).2 e5).1 e
      exact ex_if (fun a => ex_if (fun a2 => ⟨0, (g.1 a).1 a2⟩) (fun a2 => (g.1 a).2 a2)) (fun a => ex_if (fun a2 => ex_if (fun a3 => ⟨0, ((g.2 a).1 a2).1 a3⟩) (fun a3 => ((g.2 a).1 a2).2 a3)) (fun a2 => (g.2 a).2 a2))
    · have g := ((((((h.2 e0).2 e1).2 e2).2 e3).2 e4).2 e5).2 e6
      exact ex_if (fun a => ⟨0, g.1 a⟩) (fun a => ex_if (fun a2 => (g.2 a).1 a2) (fun a2 => ⟨0, (g.2 a).2 a2⟩))
  obtain ⟨N, hN⟩ := z
  exact ⟨N + 1, q, hs, hN⟩
def Dt (A B : Ac) : Prop := ∀ m p c st k f g, A m p c st k f → B m p c st k g → f = g
theorem if_det {c P Q P' Q' : Prop} {f g : Int} (h : wIf c P Q) (h' : wIf c P' Q') (h1 : P → P' → f = g) (h2 : Q → Q' → f = g) : f = g := by
  by_cases e : c
  · exact h1 (h.1 e) (h'.1 e)
  · exact h2 (h.2 e) (h'.2 e)
theorem eq_det {a f g : Int} (h : f = a) (h' : g = a) : f = g := h.trans h'.symm
theorem vch_det {b : Int → Int} {n m q c : Int} {st : List Bool} {k f g : Int} {A B : Ac} (d : Dt A B) : ∀ l : List Nat, vch b n A m q c st k f l → vch b n B m q c st k g l → f = g := by
  intro l
  induction l with
  | nil => intro h h'; exact eq_det h h'
  | cons j js ih =>
    intro h h'
    exact if_det h h' (fun h h' => if_det h h' eq_det (fun h h' => d _ _ _ _ _ _ _ h h')) ih
theorem acc_det {b : Int → Int} {n : Int} : ∀ N N' : Nat, Dt (acc b n N) (acc b n N') := by
  intro N
  induction N with
  | zero => intro N' m p c st k f g h; exact h.elim
  | succ N ih =>
    intro N'
    cases N' with
    | zero => intro m p c st k f g _ h; exact h.elim
    | succ N' =>
      intro m p c st k f g h h'
      have d := ih N'
      obtain ⟨q, hs, h⟩ := h
      obtain ⟨q', hs', h'⟩ := h'
      have e := hs.uniq hs'
      subst e
      have L : ∀ {m p c st k}, acc b n N m p c st k f → acc b n N' m p c st k g → f = g := fun h h' => d _ _ _ _ _ _ _ h h'
      refine if_det h h' (fun h h' => if_det h h' (fun h h' => if_det h h' eq_det L) eq_det) (fun h h' => if_det h h' (fun h h' => if_det h h' (fun h h' => ?_) (vch_det d _)) (fun h h' => if_det h h' (fun h h' => if_det h h' L (fun h h' => if_det h h' L (fun h h' => if_det h h' L eq_det))) (fun h h' => if_det h h' (fun h h' => if_det h h' L (fun h h' => if_det h h' (fun h h' => if_det h h' eq_det (fun h h' => if_det h h' L L)) eq_det)) (fun h h' => if_det h h' (fun h h' => if_det h h' L (fun h h' => if_det h h' L (fun h h' => if_det h h' L (fun h h' => if_det h h' L (fun h h' => if_det h h' L eq_det))))) (fun h h' => if_det h h' (fun h h' => if_det h h' L (fun h h' => if_det h h' L (fun h h' => if_det h h' L (fun h h' => if_det h h' L eq_det)))) (fun h h' => if_det h h' (fun h h' => if_det h h' (fun h h' => if_det h h' eq_det L) (fun h h' => if_det h h' (fun h h' => if_det h h' eq_det L) L)) (fun h h' => if_det h h' eq_det (fun h h' => if_det h h' L eq_det))))))))
      obtain ⟨r, hr, h⟩ := h
      obtain ⟨r', hr', h'⟩ := h'
      have e := hr.uniq hr'
      subst e
      exact if_det h h' eq_det (fun h h' => if_det h h' eq_det L)
theorem Acc.det {b : Int → Int} {n m p c : Int} {st : List Bool} {k f g : Int} (h : Acc b n m p c st k f) (h' : Acc b n m p c st k g) : f = g := by
  obtain ⟨N, h⟩ := h
  obtain ⟨N', h'⟩ := h'
  exact acc_det N N' _ _ _ _ _ _ _ h h'
