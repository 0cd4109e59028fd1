section
theorem sc_in : ∀ c ∈ lSc, (c + 1) ∈ lTo ∧ (c + 13) ∈ lSt ∧ (c = 3 ∨ c = 76 ∨ c = 101 ∨ c = 126 ∨ c = 151) := by decide +kernel
theorem sc_sp : ∀ c ∈ lSc, spP c 2 ∧ spP c 3 ∧ spP c 9 := by
  intro c hc
  rcases (sc_in c hc).2.2 with e | e | e | e | e <;> subst e <;> exact ⟨by decide, by decide, by decide⟩
theorem sc_no : ∀ c ∈ lSc, 0 ≤ c ∧ (¬ c.toNat = 30 ∧ ¬ (c.toNat = 55 ∧ (2 : Nat) = 1)) ∧ (¬ c.toNat = 30 ∧ ¬ (c.toNat = 55 ∧ (3 : Nat) = 1)) ∧ ¬ (c.toNat = 346 ∨ c.toNat = 347 ∨ c.toNat = 354 ∨ (c.toNat = 336 ∧ (2 : Nat) = 25)) ∧ ¬ (c.toNat = 346 ∨ c.toNat = 347 ∨ c.toNat = 354 ∨ (c.toNat = 336 ∧ (3 : Nat) = 25)) ∧ ¬ (336 : Int) = c ∧ ¬ ((355 : Int) = c ∨ (357 : Int) = c ∨ (341 : Int) = c ∨ (340 : Int) = c ∨ (338 : Int) = c) := by decide +kernel
theorem spP_ne {c p : Int} (h : spP c p) : ¬ c = -1 := by omega
theorem no5 {c d : Int} (h : ¬ ((355 : Int) = d ∨ (357 : Int) = d ∨ (341 : Int) = d ∨ (340 : Int) = d ∨ (338 : Int) = d)) (q : c = 355 ∨ c = 357 ∨ c = 341 ∨ c = 340 ∨ c = 338) : ¬ c = d := by omega
theorem im_cell : ∀ p : Nat, p < 4 → p < pT.getD 28 0 ∧ bd 28 p = (76 + 25 * (p : Int), 76 + 25 * (p : Int)) ∧ (76 + 25 * (p : Int)) ∈ lSc := by decide +kernel
theorem Inv.im {X : Mm} {S : Sh} {M : Mm} (h : Inv X S M) {i : Int} (h0 : 0 ≤ i) (h1 : i ≤ 3) : M 28 i = 76 + 25 * i := by
  obtain ⟨q0, q1, -⟩ := im_cell i.toNat (by omega)
  have q := h.rd 28 i.toNat _ _ (by decide) q0 q1 (Int.le_refl _)
  rw [Int.toNat_of_nonneg h0] at q
  exact Int.le_antisymm q.2 q.1
theorem im_sc {i : Int} (h0 : 0 ≤ i) (h1 : i ≤ 3) : isSc (76 + 25 * i) := by
  have q := (im_cell i.toNat (by omega)).2.2
  rw [Int.toNat_of_nonneg h0] at q
  exact q
end
section
/-- a letter stands at next -/
def LtC (M : Mm) : Prop := M 336 8 < M 336 1 ∧ 97 ≤ M 337 (M 336 8) ∧ M 337 (M 336 8) ≤ 122
/-- no blank stands at next -/
def NSp (M : Mm) : Prop := M 336 8 < M 336 1 ∧ ¬ M 337 (M 336 8) = 32
theorem LtC.ns {M : Mm} (h : LtC M) : NSp M := ⟨h.1, by have := h.2.1; omega⟩
theorem LtC.same {M M1 : Mm} (h : LtC M) (h1 : M1 336 8 = M 336 8) (h2 : M1 336 1 = M 336 1) (h3 : ∀ p : Int, M1 337 p = M 337 p) : LtC M1 := by
  unfold LtC at h ⊢
  rw [h1, h2, h3]
  exact h
end
section
/-- hands and jugs that are being told stand at places that are told -/
def PR (M : Mm) : Prop := PlOK (M 342) (M 342 0) (M 342 4) (M 342 5)
theorem PR.same {m m' : Mm} (h : PR m) (f : ∀ p : Int, m' 342 p = m 342 p) : PR m' := by
  have e : m' 342 = m 342 := funext f
  unfold PR
  rw [e]
  exact h
theorem PR.hand {m m' : Mm} (h : PR m) {n : Int} (hn : n = m 342 4) (b : 0 ≤ n ∧ n ≤ 4) (f : ∀ p : Int, ¬ (10 + 5 * n ≤ p ∧ p < 15 + 5 * n) → ¬ p = 4 → m' 342 p = m 342 p) (h4 : m' 342 4 = n + 1) (hp : m' 342 (10 + 5 * n) < m 342 0) : PR m' := by
  unfold PR at h ⊢
  obtain ⟨h1, h2⟩ := h
  rw [h4, f 0 (by omega) (by first | decide | exact fun z => absurd z.1 (by decide) | exact ⟨fun z => absurd z.1 (by decide), fun z => absurd z.1 (by decide)⟩ | omega), f 5 (by omega) (by first | decide | exact fun z => absurd z.1 (by decide) | exact ⟨fun z => absurd z.1 (by decide), fun z => absurd z.1 (by decide)⟩ | omega)]
  refine ⟨fun a a0 a1 => ?_, fun a a0 a1 => ?_⟩
  · by_cases e : a = n
    · rw [e]; exact hp
    · rw [f _ (by omega) (by omega)]; exact h1 a a0 (by omega)
  · rw [f _ (by omega) (by omega)]; exact h2 a a0 a1
theorem PR.jug {m m' : Mm} (h : PR m) {n : Int} (hn : n = m 342 5) (b : 0 ≤ n ∧ n ≤ 3) (b4 : m 342 4 ≤ 5) (f : ∀ p : Int, ¬ (35 + 4 * n ≤ p ∧ p < 39 + 4 * n) → ¬ p = 5 → m' 342 p = m 342 p) (h5 : m' 342 5 = n + 1) (hp : m' 342 (35 + 4 * n) < m 342 0) : PR m' := by
  unfold PR at h ⊢
  obtain ⟨h1, h2⟩ := h
  rw [h5, f 0 (by omega) (by first | decide | exact fun z => absurd z.1 (by decide) | exact ⟨fun z => absurd z.1 (by decide), fun z => absurd z.1 (by decide)⟩ | omega), f 4 (by omega) (by first | decide | exact fun z => absurd z.1 (by decide) | exact ⟨fun z => absurd z.1 (by decide), fun z => absurd z.1 (by decide)⟩ | omega)]
  refine ⟨fun a a0 a1 => ?_, fun a a0 a1 => ?_⟩
  · rw [f _ (by omega) (by omega)]; exact h1 a a0 a1
  · by_cases e : a = n
    · rw [e]; exact hp
    · rw [f _ (by omega) (by omega)]; exact h2 a a0 (by omega)
theorem PR.oth {m m' : Mm} (h : PR m) (b4 : m 342 4 ≤ 5) (b5 : m 342 5 ≤ 4) (f : ∀ p : Int, (p = 0 ∨ p = 4 ∨ p = 5 ∨ (10 ≤ p ∧ p ≤ 50)) → m' 342 p = m 342 p) : PR m' := by
  unfold PR at h ⊢
  obtain ⟨h1, h2⟩ := h
  rw [f 0 (by omega), f 4 (by omega), f 5 (by omega)]
  refine ⟨fun a a0 a1 => ?_, fun a a0 a1 => ?_⟩
  · rw [f _ (by omega)]; exact h1 a a0 a1
  · rw [f _ (by omega)]; exact h2 a a0 a1
theorem Inv.w342 {X : Mm} {S : Sh} {M : Mm} (h : Inv X S M) {i v : Int} (h0 : 0 ≤ i) (hb : okb (bd 342 i.toNat) v) : Inv X S (up M 342 i v) := by
  have q := h.wl 342 i.toNat (v := v) (h.pl.put (by omega) (fun e => absurd e (by decide))) hb (by omega) (by decide) (by omega)
  rw [show ((342 : Nat) : Int) = 342 from rfl, Int.toNat_of_nonneg h0] at q
  exact q
theorem rq_51 : ∀ a : Nat, a < 6 → bd 342 (51 + 1 * a) = (-2147483648, 2147483647) := by decide +kernel
theorem rq_10 : ∀ a : Nat, a < 5 → bd 342 (10 + 5 * a) = (0, 5) := by decide +kernel
theorem rq_13 : ∀ a : Nat, a < 5 → bd 342 (13 + 5 * a) = (0, 20) := by decide +kernel
theorem rq_14 : ∀ a : Nat, a < 5 → bd 342 (14 + 5 * a) = (0, 5) := by decide +kernel
theorem rq_11 : ∀ a : Nat, a < 5 → bd 342 (11 + 5 * a) = (0, 5) := by decide +kernel
theorem rq_12 : ∀ a : Nat, a < 5 → bd 342 (12 + 5 * a) = (0, 99) := by decide +kernel
theorem rq_35 : ∀ a : Nat, a < 4 → bd 342 (35 + 4 * a) = (0, 5) := by decide +kernel
theorem rq_37 : ∀ a : Nat, a < 4 → bd 342 (37 + 4 * a) = (-2147483648, 2147483647) := by decide +kernel
theorem rq_36 : ∀ a : Nat, a < 4 → bd 342 (36 + 4 * a) = (-1, 4) := by decide +kernel
theorem rq_38 : ∀ a : Nat, a < 4 → bd 342 (38 + 4 * a) = (0, 1) := by decide +kernel
theorem rq_81 : ∀ a : Nat, a < 4 → bd 342 (81 + 3 * a) = (0, 99) := by decide +kernel
theorem rq_82 : ∀ a : Nat, a < 4 → bd 342 (82 + 3 * a) = (0, 99) := by decide +kernel
theorem rq_83 : ∀ a : Nat, a < 4 → bd 342 (83 + 3 * a) = (0, 5) := by decide +kernel
theorem rq_93 : ∀ a : Nat, a < 6 → bd 342 (93 + 4 * a) = (0, 5) := by decide +kernel
theorem rq_94 : ∀ a : Nat, a < 6 → bd 342 (94 + 4 * a) = (0, 99) := by decide +kernel
theorem rq_95 : ∀ a : Nat, a < 6 → bd 342 (95 + 4 * a) = (0, 99) := by decide +kernel
theorem rq_96 : ∀ a : Nat, a < 6 → bd 342 (96 + 4 * a) = (0, 50) := by decide +kernel
end
section
theorem rq_57 : ∀ a : Nat, a < 8 → bd 342 (57 + 3 * a) = (0, 5) ∧ bd 342 (57 + 3 * a + 1) = (0, 5) ∧ bd 342 (57 + 3 * a + 2) = (0, 5) := by decide +kernel
theorem rq_hp : ∀ a : Nat, a < 5 → 10 + 5 * a < pT.getD 342 0 ∧ bd 342 (10 + 5 * a) = (0, 5) := by decide +kernel
theorem rq_jp : ∀ a : Nat, a < 4 → 35 + 4 * a < pT.getD 342 0 ∧ bd 342 (35 + 4 * a) = (0, 5) := by decide +kernel
end
section
theorem bq_342 : ∀ p : Nat, p < 117 → bd 342 p = bd 346 p := by decide +kernel
theorem bq_0 : ∀ p : Nat, p < 158 → 117 ≤ p → (bd 346 p).1 ≤ 0 ∧ 0 ≤ (bd 346 p).2 := by decide +kernel
theorem bq_342z : ∀ p : Nat, p < 10 → (bd 342 p).1 ≤ 0 ∧ 0 ≤ (bd 342 p).2 := by decide +kernel
theorem JX.tape2 {S S1 : Sh} {m0 m2 : Mm} (h : JX S m0) (j : Jc S1 m2) (F : ∀ c p : Int, spP c p → ¬ c = 346 → ¬ (c = 1 ∧ p = 1) → ¬ (c = 336 ∧ (p = 1 ∨ p = 2)) → ¬ (c = 0 ∧ p = 7) → m2 c p = m0 c p) (e1 : m2 1 1 = m2 336 1) (e2 : m2 0 7 = m2 336 2) : JX S1 m2 := by
  obtain ⟨jc, xr, ⟨⟨a1, a2, a3⟩, a4, a5⟩⟩ := h
  refine ⟨j, ?_, ?_⟩
  · unfold Xr at xr ⊢
    rw [F 3 3 (by decide) (by omega) (by omega) (by omega) (by omega), F 336 22 (by decide) (by omega) (by omega) (by omega) (by omega), F 76 3 (by decide) (by omega) (by omega) (by omega) (by omega), F 356 0 (by decide) (by omega) (by omega) (by omega) (by omega), F 76 9 (by decide) (by omega) (by omega) (by omega) (by omega), F 357 0 (by decide) (by omega) (by omega) (by omega) (by omega), F 101 3 (by decide) (by omega) (by omega) (by omega) (by omega), F 356 1 (by decide) (by omega) (by omega) (by omega) (by omega), F 101 9 (by decide) (by omega) (by omega) (by omega) (by omega), F 357 1 (by decide) (by omega) (by omega) (by omega) (by omega), F 126 3 (by decide) (by omega) (by omega) (by omega) (by omega), F 356 2 (by decide) (by omega) (by omega) (by omega) (by omega), F 126 9 (by decide) (by omega) (by omega) (by omega) (by omega), F 357 2 (by decide) (by omega) (by omega) (by omega) (by omega), F 151 3 (by decide) (by omega) (by omega) (by omega) (by omega), F 356 3 (by decide) (by omega) (by omega) (by omega) (by omega), F 151 9 (by decide) (by omega) (by omega) (by omega) (by omega), F 357 3 (by decide) (by omega) (by omega) (by omega) (by omega)]
    exact xr
  · unfold Ya
    rw [F 3 2 (by decide) (by omega) (by omega) (by omega) (by omega), F 336 21 (by decide) (by omega) (by omega) (by omega) (by omega), F 76 2 (by decide) (by omega) (by omega) (by omega) (by omega), F 355 0 (by decide) (by omega) (by omega) (by omega) (by omega), F 357 0 (by decide) (by omega) (by omega) (by omega) (by omega), F 101 2 (by decide) (by omega) (by omega) (by omega) (by omega), F 355 1 (by decide) (by omega) (by omega) (by omega) (by omega), F 357 1 (by decide) (by omega) (by omega) (by omega) (by omega), F 126 2 (by decide) (by omega) (by omega) (by omega) (by omega), F 355 2 (by decide) (by omega) (by omega) (by omega) (by omega), F 357 2 (by decide) (by omega) (by omega) (by omega) (by omega), F 151 2 (by decide) (by omega) (by omega) (by omega) (by omega), F 355 3 (by decide) (by omega) (by omega) (by omega) (by omega), F 357 3 (by decide) (by omega) (by omega) (by omega) (by omega)]
    refine ⟨⟨e1, fun p p0 p1 => ?_, e2⟩, a4, a5⟩
    rw [F 2 p (by omega) (by omega) (by omega) (by omega) (by omega), F 337 p (by omega) (by omega) (by omega) (by omega) (by omega)]
    exact a2 p p0 p1
end
section
theorem zl_spot {S : Sh} {m : Mm} {K : Int → Mm → Prop} {a b : Int} (a0 : 0 ≤ a) (a1 : a ≤ 12) (b0 : -400 ≤ b) (b1 : b ≤ 400) (h : K (301 * a + b) m) : wp_X12_spot S m a b K := by
  refine u_X12_spot ?_
  refine g_C ?_
  refine g_M (by omega) (by omega) ?_
  refine g_A (by omega) (by omega) ?_
  exact h
theorem zl_speed {X : Mm} {S : Sh} {m : Mm} {K : Int → Mm → Prop} {h : Int} (hS : Shp S) (hm : Inv X S m) (h0 : 0 ≤ h) (h1 : h ≤ 4) (hk : 0 ≤ m 346 (13 + 5 * h) → m 346 (13 + 5 * h) ≤ 20 → K (m 346 (13 + 5 * h)) m) : wp_X12_handOf S m 336 h 3 K := by
  have q : ∀ n : Nat, n < 5 → 13 + 5 * n < pT.getD 346 0 ∧ bd 346 (13 + 5 * n) = (0, 20) := by decide +kernel
  obtain ⟨q1, q2⟩ := q h.toNat (by omega)
  have q3 := hm.rd 346 (13 + 5 * h.toNat) 0 20 (by decide) q1 q2 (by decide)
  rw [show ((346 : Nat) : Int) = 346 from rfl, show ((13 + 5 * h.toNat : Nat) : Int) = 13 + 5 * h by omega] at q3
  refine u_X12_handOf ?_
  refine g_getr 20 346 rfl hS.k336 hm.f_336_20 (by decide) ?_
  refine g_C ?_
  refine g_C ?_
  refine g_M (by omega) (by omega) ?_
  refine g_A (by omega) (by omega) ?_
  refine g_A (by omega) (by omega) ?_
  refine g_ldu hS.k346 hS.l346 (by omega) (by omega) (fun v ev => ?_)
  rw [ev, show 10 + 5 * h + 3 = 13 + 5 * h by omega]
  exact hk q3.1 q3.2
end
section
/-! the dairy language over a tape: bytes b, length n; what was told so far is a row D, laid out as the reference's row `read` (200: PLACES, till their clause is read) -/
abbrev Dd : Type := Int → Int
def ud (D : Dd) (c v : Int) : Dd := fun p => if p = c then v else D p
theorem ud_at (D : Dd) (c v : Int) : ud D c v c = v := if_pos rfl
theorem ud_ne {D : Dd} {c v p : Int} (h : ¬ p = c) : ud D c v p = D p := if_neg h
def dz : Dd := fun _ => 0
/-- the number that the first i digits from q on spell -/
def nvl (b : Int → Int) (q : Int) : Nat → Int
  | 0 => 0
  | i + 1 => 10 * nvl b q i + (b (q + (i : Int)) - 48)
def nv (b : Int → Int) (q r : Int) : Int := nvl b q (r - q).toNat
def dLo (D : Dd) : Nat → Nat → Int
  | 0, 0 => 2
  | 0, 2 => 10
  | 1, 2 => 1
  | 4, 1 => D (81 + 3 * D 9)
  | 4, 2 => 1
  | 5, 2 => D (93 + 4 * D 6 + 1)
  | 5, 3 => 1
  | _, _ => 0
def dHi (D : Dd) : Nat → Nat → Int
  | 0, 0 => 6
  | 0, 1 => 9
  | 1, 0 => D 0 - 1
  | 1, 1 => D 0 - 1
  | 1, 2 => 5
  | 2, 0 => D 0 - 1
  | 2, 1 => 20
  | 2, 2 => 5
  | 3, 0 => D 0 - 1
  | 4, 2 => 5
  | 5, 0 => D 0 - 1
  | 5, 3 => 50
  | _, _ => 99
def dCl (D : Dd) : Nat → Nat → Int
  | 0, 0 => 200
  | 0, 1 => 1
  | 0, _ => 2
  | 1, j => 57 + 3 * D 3 + j
  | 2, 0 => 10 + 5 * D 4
  | 2, 1 => 10 + 5 * D 4 + 3
  | 2, _ => 10 + 5 * D 4 + 4
  | 3, 0 => 35 + 4 * D 5
  | 3, _ => 35 + 4 * D 5 + 2
  | 4, j => 81 + 3 * D 9 + j
  | _, j => 93 + 4 * D 6 + j
def dEnd : Nat → Nat
  | 3 => 1
  | 5 => 3
  | _ => 2
def dFin (D : Dd) : Nat → Dd
  | 0 => ud D 0 (D 200)
  | 1 => ud D 3 (D 3 + 1)
  | 2 => ud (ud (ud D (10 + 5 * D 4 + 1) 0) (10 + 5 * D 4 + 2) 0) 4 (D 4 + 1)
  | 3 => ud (ud (ud D (35 + 4 * D 5 + 1) (-1)) (35 + 4 * D 5 + 3) 0) 5 (D 5 + 1)
  | 4 => ud D 9 (D 9 + 1)
  | _ => ud (ud D (51 + D 6) (-1)) 6 (D 6 + 1)
def dFull (D : Dd) : Nat → Prop
  | 0 => False
  | 1 => D 3 = 8
  | 2 => D 4 = 5
  | 3 => D 5 = 4
  | 4 => D 9 = 4
  | _ => D 6 = 6
/-- a ROAD between a and c is told already -/
def Rt (D : Dd) (a c : Int) : Prop := ∃ k : Int, 0 ≤ k ∧ k < D 3 ∧ ((D (57 + 3 * k) = a ∧ D (57 + 3 * k + 1) = c) ∨ (D (57 + 3 * k) = c ∧ D (57 + 3 * k + 1) = a))
def dBad (D : Dd) (h j : Nat) (v : Int) : Prop := h = 1 ∧ j = 1 ∧ (D (57 + 3 * D 3) = v ∨ Rt D (D (57 + 3 * D 3)) v)
abbrev Da : Type := Nat → Nat → Nat → Int → Int → Dd → Int → Dd → Prop
def dch (b : Int → Int) (n : Int) (A : Da) (q k : Int) (D : Dd) (f : Int) (E : Dd) : List Nat → Prop
  | [] => f = 1 + 8 * q ∧ E = dz
  | h :: l => wIf (Wk b n h q) (wIf (k = 40 ∨ (h = 0 ∧ ¬ D 0 = 0) ∨ (¬ h = 0 ∧ D 0 = 0) ∨ dFull D h) (f = 5 + 8 * q ∧ E = dz) (A 1 h 0 (q + tl h) (k + 1) D f E)) (dch b n A q k D f E l)
def dNx (A : Da) (h j : Nat) (r k : Int) (D : Dd) (f : Int) (E : Dd) : Prop := wIf (j = dEnd h) (A 2 0 0 r k (dFin D h) f E) (A 1 h (j + 1) r k D f E)
def sN (b : Int → Int) (n : Int) (A : Da) (h j : Nat) (q k : Int) (D : Dd) (f : Int) (E : Dd) : Prop := wIf (q < n ∧ Dg (b q)) (∃ r : Int, Dr b n q r ∧ wIf (5 < r - q ∨ nv b q r < dLo D h j ∨ dHi D h j < nv b q r ∨ dBad D h j (nv b q r)) (f = 2 + 8 * q ∧ E = dz) (dNx A h j r k (ud D (dCl D h j) (nv b q r)) f E)) (f = 1 + 8 * q ∧ E = dz)
def sE (b : Int → Int) (n : Int) (A : Da) (q k : Int) (D : Dd) (f : Int) (E : Dd) : Prop := wIf (n ≤ q) (f = 0 ∧ E = D) (wIf (b q = 59) (A 0 0 0 (q + 1) k D f E) (f = 1 + 8 * q ∧ E = dz))
def dst (b : Int → Int) (n : Int) (A : Da) (m h j : Nat) (q k : Int) (D : Dd) (f : Int) (E : Dd) : Prop := wIf (m = 0) (dch b n A q k D f E [0, 1, 2, 3, 4, 5]) (wIf (m = 1) (sN b n A h j q k D f E) (sE b n A q k D f E))
def da (b : Int → Int) (n : Int) : Nat → Da
  | 0 => fun _ _ _ _ _ _ _ _ => False
  | N + 1 => fun m h j p k D f E => ∃ q : Int, Sk b n p q ∧ dst b n (da b n N) m h j q k D f E
/-- how the reading of a DAIRY ends: 0 and what is told, or its FAULT -/
def DA (b : Int → Int) (n : Int) : Da := fun m h j p k D f E => ∃ N : Nat, da b n N m h j p k D f E
theorem d_dch {b : Int → Int} {n q k : Int} {D : Dd} {f : Int} {E : Dd} : ∀ l : List Nat, dch b n (DA b n) q k D f E l → ∃ N : Nat, dch b n (da b n N) q k D f E l := by
  intro l
  induction l with
  | nil => intro h; exact ⟨0, h⟩
  | cons j js ih =>
    intro h
    exact ex_if (fun e => ex_if (fun e2 => ⟨0, (h.1 e).1 e2⟩) (fun e2 => (h.1 e).2 e2)) (fun e => ih (h.2 e))
theorem d_step {b : Int → Int} {n : Int} {m h j : Nat} {p q k : Int} {D : Dd} {f : Int} {E : Dd} (hs : Sk b n p q) (g : dst b n (DA b n) m h j q k D f E) : DA b n m h j p k D f E := by
  have z : ∃ N : Nat, dst b n (da b n N) m h j q k D f E := by
    refine ex_if (fun e => d_dch _ (g.1 e)) (fun e0 => ex_if (fun e => ?_) (fun e1 => ?_))
    · have g1 := (g.2 e0).1 e
      refine ex_if (fun a => ?_) (fun a => ⟨0, g1.2 a⟩)
      obtain ⟨r, hr, g2⟩ := g1.1 a
      obtain ⟨N, hN⟩ : ∃ N : Nat, wIf (5 < r - q ∨ nv b q r < dLo D h j ∨ dHi D h j < nv b q r ∨ dBad D h j (nv b q r)) (f = 2 + 8 * q ∧ E = dz) (dNx (da b n N) h j r k (ud D (dCl D h j) (nv b q r)) f E) := ex_if (fun a2 => ⟨0, g2.1 a2⟩) (fun a2 => ex_if (fun a3 => (g2.2 a2).1 a3) (fun a3 => (g2.2 a2).2 a3))
      exact ⟨N, r, hr, hN⟩
    · have g1 := (g.2 e0).2 e1
      exact ex_if (fun a => ⟨0, g1.1 a⟩) (fun a => ex_if (fun a2 => (g1.2 a).1 a2) (fun a2 => ⟨0, (g1.2 a).2 a2⟩))
  obtain ⟨N, hN⟩ := z
  exact ⟨N + 1, q, hs, hN⟩
theorem if_dt {c P Q P' Q' R : Prop} (h : wIf c P Q) (h' : wIf c P' Q') (h1 : P → P' → R) (h2 : Q → Q' → R) : R := by
  by_cases e : c
  · exact h1 (h.1 e) (h'.1 e)
  · exact h2 (h.2 e) (h'.2 e)
def Dtt (A B : Da) : Prop := ∀ m h j p k D f E g F, A m h j p k D f E → B m h j p k D g F → f = g ∧ E = F
theorem eq_dt {a f g : Int} {E F G : Dd} (h : f = a ∧ E = G) (h' : g = a ∧ F = G) : f = g ∧ E = F := ⟨h.1.trans h'.1.symm, h.2.trans h'.2.symm⟩
theorem dch_det {b : Int → Int} {n q k : Int} {D : Dd} {f g : Int} {E F : Dd} {A B : Da} (d : Dtt A B) : ∀ l : List Nat, dch b n A q k D f E l → dch b n B q k D g F l → f = g ∧ E = F := by
  intro l
  induction l with
  | nil => intro h h'; exact eq_dt h h'
  | cons j js ih =>
    intro h h'
    exact if_dt h h' (fun h h' => if_dt h h' eq_dt (fun h h' => d _ _ _ _ _ _ _ _ _ _ h h')) ih
theorem da_det {b : Int → Int} {n : Int} : ∀ N N' : Nat, Dtt (da b n N) (da b n N') := by
  intro N
  induction N with
  | zero => intro N' m h j p k D f E g F a; exact a.elim
  | succ N ih =>
    intro N'
    cases N' with
    | zero => intro m h j p k D f E g F _ a; exact a.elim
    | succ N' =>
      intro m h j p k D f E g F a a'
      have d := ih N'
      obtain ⟨q, hs, a⟩ := a
      obtain ⟨q', hs', a'⟩ := a'
      have e := hs.uniq hs'
      subst e
      have L : ∀ {m h j p k D}, da b n N m h j p k D f E → da b n N' m h j p k D g F → f = g ∧ E = F := fun h h' => d _ _ _ _ _ _ _ _ _ _ h h'
      refine if_dt a a' (dch_det d _) (fun a a' => if_dt a a' (fun a a' => if_dt a a' (fun a a' => ?_) eq_dt) (fun a a' => if_dt a a' eq_dt (fun a a' => if_dt a a' L eq_dt)))
      obtain ⟨r, hr, a⟩ := a
      obtain ⟨r', hr', a'⟩ := a'
      have e := hr.uniq hr'
      subst e
      exact if_dt a a' eq_dt (fun a a' => if_dt a a' L L)
theorem DA.det {b : Int → Int} {n : Int} {m h j : Nat} {p k : Int} {D : Dd} {f g : Int} {E F : Dd} (x : DA b n m h j p k D f E) (x' : DA b n m h j p k D g F) : f = g ∧ E = F := by
  obtain ⟨N, x⟩ := x
  obtain ⟨N', x'⟩ := x'
  exact da_det N N' _ _ _ _ _ _ _ _ _ _ x x'
/-- what the rest of the reading ends with, the whole ends with -/
def Ld (b : Int → Int) (n : Int) (T : Int → Dd → Prop) (m h j : Nat) (p k : Int) (D : Dd) : Prop := ∀ (f : Int) (E : Dd), DA b n m h j p k D f E → T f E
theorem Ld.bad0 {b : Int → Int} {n : Int} {T : Int → Dd → Prop} {h j : Nat} {p q k : Int} {D : Dd} (l : Ld b n T 1 h j p k D) (hs : Sk b n p q) (hn : ¬ (q < n ∧ Dg (b q))) : T (1 + 8 * q) dz := l _ _ (d_step hs (g_ifF (by decide) (g_ifT rfl (g_ifF hn ⟨rfl, rfl⟩))))
theorem Ld.bad1 {b : Int → Int} {n : Int} {T : Int → Dd → Prop} {h j : Nat} {p q r k : Int} {D : Dd} (l : Ld b n T 1 h j p k D) (hs : Sk b n p q) (hn : q < n ∧ Dg (b q)) (hr : Dr b n q r) (hb : 5 < r - q ∨ nv b q r < dLo D h j ∨ dHi D h j < nv b q r ∨ dBad D h j (nv b q r)) : T (2 + 8 * q) dz := l _ _ (d_step hs (g_ifF (by decide) (g_ifT rfl (g_ifT hn ⟨r, hr, g_ifT hb ⟨rfl, rfl⟩⟩))))
theorem Ld.nx {b : Int → Int} {n : Int} {T : Int → Dd → Prop} {h j : Nat} {p q r k : Int} {D : Dd} (l : Ld b n T 1 h j p k D) (hs : Sk b n p q) (hn : q < n ∧ Dg (b q)) (hr : Dr b n q r) (hb : ¬ (5 < r - q ∨ nv b q r < dLo D h j ∨ dHi D h j < nv b q r ∨ dBad D h j (nv b q r))) (hj : ¬ j = dEnd h) : Ld b n T 1 h (j + 1) r k (ud D (dCl D h j) (nv b q r)) := fun f E z => l _ _ (d_step hs (g_ifF (by decide) (g_ifT rfl (g_ifT hn ⟨r, hr, g_ifF hb (g_ifF hj z)⟩))))
theorem Ld.end {b : Int → Int} {n : Int} {T : Int → Dd → Prop} {h j : Nat} {p q r k : Int} {D : Dd} (l : Ld b n T 1 h j p k D) (hs : Sk b n p q) (hn : q < n ∧ Dg (b q)) (hr : Dr b n q r) (hb : ¬ (5 < r - q ∨ nv b q r < dLo D h j ∨ dHi D h j < nv b q r ∨ dBad D h j (nv b q r))) (hj : j = dEnd h) : Ld b n T 2 0 0 r k (dFin (ud D (dCl D h j) (nv b q r)) h) := fun f E z => l _ _ (d_step hs (g_ifF (by decide) (g_ifT rfl (g_ifT hn ⟨r, hr, g_ifF hb (g_ifT hj z)⟩))))
end
section
theorem nvl_s {b : Int → Int} {q a : Int} (h : q ≤ a) : nvl b q (a + 1 - q).toNat = 10 * nvl b q (a - q).toNat + (b a - 48) := by
  rw [show (a + 1 - q).toNat = (a - q).toNat + 1 by omega]
  show 10 * nvl b q (a - q).toNat + (b (q + (((a - q).toNat : Nat) : Int)) - 48) = _
  rw [show q + (((a - q).toNat : Nat) : Int) = a by omega]
theorem nvl_0 {b : Int → Int} {q : Int} : nvl b q (q - q).toNat = 0 := by
  rw [show (q - q).toNat = 0 by omega]
  rfl
theorem zl_av {a q v r t : Int} (av : (a = q ∧ v = 0) ∨ (a = q + 1 ∧ v ≤ 9) ∨ (a = q + 2 ∧ v ≤ 99) ∨ (a = q + 3 ∧ v ≤ 999) ∨ (a = q + 4 ∧ v ≤ 9999) ∨ q + 5 ≤ a) (h1 : 48 ≤ r) (h2 : r ≤ 57) (e : t = v * 10 + r - 48) : (a + 1 = q + 1 ∧ t ≤ 9) ∨ (a + 1 = q + 2 ∧ t ≤ 99) ∨ (a + 1 = q + 3 ∧ t ≤ 999) ∨ (a + 1 = q + 4 ∧ t ≤ 9999) ∨ q + 5 ≤ a + 1 := by
  rcases av with z | z | z | z | z | z
  · exact Or.inl ⟨by rw [z.1], by omega⟩
  · exact Or.inr (Or.inl ⟨by omega, by omega⟩)
  · exact Or.inr (Or.inr (Or.inl ⟨by omega, by omega⟩))
  · exact Or.inr (Or.inr (Or.inr (Or.inl ⟨by omega, by omega⟩)))
  · exact Or.inr (Or.inr (Or.inr (Or.inr (by omega))))
  · exact Or.inr (Or.inr (Or.inr (Or.inr (by omega))))
/-- a NUMBER of the class, to the letter -/
theorem ze_num {X : Mm} {S : Sh} {m0 : Mm} {K : Int → Mm → Prop} {b : Int → Int} {n lo hi : Int} (hS : Shp S) (hm0 : Inv X S m0) (ht : TC X b n) (hp : m0 1 2 ≤ n) (h14 : m0 1 4 = 0) (h1 : ∀ (q r : Int) (M1 : Mm), Inv X S M1 → (∀ c p : Int, ¬ (c = 1 ∧ 2 ≤ p ∧ p ≤ 3) → M1 c p = m0 c p) → Sk b n (m0 1 2) q → (q < n ∧ Dg (b q)) → Dr b n q r → ¬ 5 < r - q → ¬ nv b q r < lo → ¬ hi < nv b q r → 0 ≤ nv b q r → M1 1 2 = r → M1 1 3 = q → r ≤ n → K (nv b q r) M1) (h0 : ∀ (q : Int) (M1 : Mm), Inv X S M1 → (∀ c p : Int, ¬ (c = 1 ∧ 2 ≤ p ∧ p ≤ 4) → M1 c p = m0 c p) → Sk b n (m0 1 2) q → 0 ≤ q → ¬ (q < n ∧ Dg (b q)) → M1 1 4 = 1 + 8 * q → K (-1) M1) (h2 : ∀ (q r : Int) (M1 : Mm), Inv X S M1 → (∀ c p : Int, ¬ (c = 1 ∧ 2 ≤ p ∧ p ≤ 4) → M1 c p = m0 c p) → Sk b n (m0 1 2) q → 0 ≤ q → (q < n ∧ Dg (b q)) → Dr b n q r → (5 < r - q ∨ nv b q r < lo ∨ hi < nv b q r) → M1 1 4 = 2 + 8 * q → K (-1) M1) : wp_X7_takeNumber S m0 1 lo hi K := by
  have t2 := ht.2.1
  have b20 := hm0.f_1_2
  refine u_X7_takeNumber ?_
  refine ⟨hS.k1, ?_⟩
  refine ze_look hS hm0 ht hp (fun r0 q m1 hm1 f1 sk x1 x2 hq' hr => ?_)
  have sk1 := sk.1
  have y4 : m1 1 4 = 0 := (f1 1 4 (by first | decide | exact fun z => absurd z.1 (by decide) | exact ⟨fun z => absurd z.1 (by decide), fun z => absurd z.1 (by decide)⟩ | omega)).trans h14
  have dr : (48 ≤ r0 ∧ r0 ≤ 57) ↔ (q < n ∧ Dg (b q)) := by
    unfold Dg
    rcases hr with ⟨z1, z2⟩ | ⟨z1, z2⟩
    · have tb := ht.2.2 q (by omega) z1
      rw [z2]
      unfold u8
      split <;> omega
    · omega
  refine zl_dig (fun d1 d2 => ?_) (fun a => ?_)
  rotate_left
  · refine g_ifF (by decide) ?_
    refine g_C ?_
    refine ⟨hS.k1, ?_⟩
    refine ze_refuse hS hm1 (by decide) (by decide) (fun m2 hm2 f2 y2 => ?_)
    refine g_C ?_
    exact h0 q m2 hm2 (fun c p z => (f2 c p (by first | exact fun y => absurd (y.1 ▸ z) (by decide) | exact fun y => absurd (y.1 ▸ q) (by decide) | exact z | exact q | exact z.1 | exact q.1 | exact z.2 | exact q.2 | omega)).trans (f1 c p (by first | exact fun y => absurd (y.1 ▸ z) (by decide) | exact fun y => absurd (y.1 ▸ q) (by decide) | exact z | exact q | exact z.1 | exact q.1 | exact z.2 | exact q.2 | omega))) sk (by omega) (fun z => a (dr.mpr z)) (by omega)
  have hqd := dr.mp ⟨d1, d2⟩
  obtain ⟨hqn, hd⟩ := hqd
  refine g_ifT (by decide) ?_
  refine g_C ?_
  have L : ∀ (k : Nat) (v : Int) (m : Mm), Inv X S m → (∀ c p : Int, ¬ (c = 1 ∧ 2 ≤ p ∧ p ≤ 3) → m c p = m0 c p) → m 1 3 = q → q ≤ m 1 2 → m 1 2 ≤ n → (∀ j : Int, q ≤ j → j < m 1 2 → j < n ∧ Dg (b j)) → 0 ≤ v → v ≤ 99999 → ((m 1 2 = q ∧ v = 0) ∨ (m 1 2 = q + 1 ∧ v ≤ 9) ∨ (m 1 2 = q + 2 ∧ v ≤ 99) ∨ (m 1 2 = q + 3 ∧ v ≤ 999) ∨ (m 1 2 = q + 4 ∧ v ≤ 9999) ∨ q + 5 ≤ m 1 2) → (m 1 2 - q ≤ 5 → v = nvl b q (m 1 2 - q).toNat) → 401 - m 1 2 ≤ (k : Int) → wp_X7_takeNumber_20 S K k 1 lo hi v m := by
    intro k
    induction k with
    | zero => intro v m _ _ _ _ _ _ _ _ _ _ h; exfalso; omega
    | succ k ih =>
      intro v m hm F a1 a2 a3 a4 v0 v1 av hv h
      have g1 : m 1 1 = n := (hm.g (by decide)).trans ht.1
      have fin : ¬ (m 1 2 < n ∧ Dg (b (m 1 2))) → wp_X7_takeNumber_92 S K 1 lo hi v m := by
        intro hn
        have hD : Dr b n q (m 1 2) := ⟨a2, a4, hn⟩
        have bad : (5 < m 1 2 - q ∨ nv b q (m 1 2) < lo ∨ hi < nv b q (m 1 2)) → wp_X7_takeNumber_115 S K 1 m := by
          intro h5
          refine u_X7_takeNumber_115 ?_
          refine g_C ?_
          refine ⟨hS.k1, ?_⟩
          refine ze_refuse hS hm (by decide) (by decide) (fun m2 hm2 f2 y2 => ?_)
          refine g_C ?_
          refine h2 q (m 1 2) m2 hm2 (fun c p z => (f2 c p (by first | exact fun y => absurd (y.1 ▸ z) (by decide) | exact fun y => absurd (y.1 ▸ q) (by decide) | exact z | exact q | exact z.1 | exact q.1 | exact z.2 | exact q.2 | omega)).trans (F c p (by omega))) sk (by omega) ⟨hqn, hd⟩ hD h5 ?_
          rw [F 1 4 (by first | decide | exact fun z => absurd z.1 (by decide) | exact ⟨fun z => absurd z.1 (by decide), fun z => absurd z.1 (by decide)⟩ | omega)] at y2
          omega
        refine u_X7_takeNumber_92 ?_
        refine g_getu 2 rfl hS.k1 (fun a ea => ?_)
        refine g_getu 3 rfl hS.k1 (fun s es => ?_)
        refine g_S (by omega) (by omega) ?_
        refine g_C ?_
        refine g_if (fun w => bad (Or.inl (by omega))) (fun w => ?_)
        have ev : v = nv b q (m 1 2) := hv (by omega)
        refine g_if (fun w2 => bad (Or.inr (Or.inl (by omega)))) (fun w2 => ?_)
        refine g_if (fun w3 => ?_) (fun w3 => bad (Or.inr (Or.inr (by omega))))
        rw [ev]
        exact h1 q (m 1 2) m hm F sk ⟨hqn, hd⟩ hD (by omega) (by omega) (by omega) (by omega) rfl a1 a3
      refine u_X7_takeNumber_20 ?_
      refine g_getu 2 rfl hS.k1 (fun a ea => ?_)
      refine g_getu 1 rfl hS.k1 (fun l el => ?_)
      rw [g1] at el
      refine g_if (fun w => fin (by omega)) (fun w => ?_)
      refine g_getu 2 rfl hS.k1 (fun a' ea' => ?_)
      refine ⟨hS.k1, ?_⟩
      refine ze_byteAt hS hm ht (fun r2 hr2 => ?_)
      rw [ea'] at hr2
      have hr3 : r2 = u8 (b (m 1 2)) := by
        rcases hr2 with z | z
        · exact z.2.2
        · exfalso; omega
      have tb2 := ht.2.2 (m 1 2) (by omega) (by omega)
      refine zl_dig (fun c1 c2 => ?_) (fun c1 => ?_)
      · have d2 : 48 ≤ b (m 1 2) ∧ b (m 1 2) ≤ 57 ∧ r2 = b (m 1 2) := by
          rw [hr3] at c1 c2 ⊢
          unfold u8 at c1 c2 ⊢
          revert c1 c2
          split <;> omega
        have nx : ∀ v' : Int, 0 ≤ v' → v' ≤ 99999 → ((m 1 2 + 1 = q + 1 ∧ v' ≤ 9) ∨ (m 1 2 + 1 = q + 2 ∧ v' ≤ 99) ∨ (m 1 2 + 1 = q + 3 ∧ v' ≤ 999) ∨ (m 1 2 + 1 = q + 4 ∧ v' ≤ 9999) ∨ q + 5 ≤ m 1 2 + 1) → (m 1 2 + 1 - q ≤ 5 → v' = nvl b q (m 1 2 + 1 - q).toNat) → wp_X7_takeNumber_78 S (fun a0 a1 a2 a3 M => wp_X7_takeNumber_20 S K k a0 a1 a2 a3 M) K 1 lo hi v' m := by
          intro v' w0 w1 w2 w3
          refine u_X7_takeNumber_78 ?_
          refine g_getu 2 rfl hS.k1 (fun a2' ea2 => ?_)
          refine g_C ?_
          refine g_A (by omega) (by omega) ?_
          refine g_put 2 rfl hS.k1 (hm.w_1_2 (by omega) (by omega)) (fun m2 e2 hm2 => ?_)
          have f2 : ∀ c p : Int, ¬ (c = 1 ∧ p = 2) → m2 c p = m c p := fun c p q => (congrFun (congrFun e2 _) _).trans (up_ne q)
          have y2 : m2 1 2 = a2' + 1 := (congrFun (congrFun e2 _) _).trans (up_at _ _ _ _)
          have y3 : m2 1 2 = m 1 2 + 1 := by omega
          refine ih v' m2 hm2 (fun c p z => (f2 c p (by first | exact fun y => absurd (y.1 ▸ z) (by decide) | exact fun y => absurd (y.1 ▸ q) (by decide) | exact z | exact q | exact z.1 | exact q.1 | exact z.2 | exact q.2 | omega)).trans (F c p z)) ((f2 1 3 (by first | decide | exact fun z => absurd z.1 (by decide) | exact ⟨fun z => absurd z.1 (by decide), fun z => absurd z.1 (by decide)⟩ | omega)).trans a1) (by omega) (by omega) (fun j j0 j1 => ?_) w0 w1 (by omega) (by rw [y3]; exact w3) (by omega)
          by_cases e : j = m 1 2
          · rw [e]; exact ⟨by omega, d2.1, d2.2.1⟩
          · exact a4 j j0 (by omega)
        refine g_ifF (by decide) ?_
        refine g_getu 2 rfl hS.k1 (fun a3' ea3 => ?_)
        refine g_getu 3 rfl hS.k1 (fun s es => ?_)
        refine g_S (by omega) (by omega) ?_
        refine g_C ?_
        refine g_if (fun w5 => nx v v0 v1 (by omega) (fun z => by exfalso; omega)) (fun w5 => ?_)
        refine g_C ?_
        refine g_M (by omega) (by omega) ?_
        refine g_getu 2 rfl hS.k1 (fun a4' ea4 => ?_)
        refine ⟨hS.k1, ?_⟩
        refine ze_byteAt hS hm ht (fun r4 hr4 => ?_)
        rw [ea4] at hr4
        have hr5 : r4 = r2 := by
          rcases hr4 with z | z
          · rw [z.2.2, hr3]
          · exfalso; omega
        refine g_A (by omega) (by omega) ?_
        refine g_C ?_
        refine g_S (by omega) (by omega) ?_
        refine nx _ (by omega) (by omega) (zl_av av (by first | exact hr5 ▸ c1 | omega) (by first | exact hr5 ▸ c2 | omega) (by first | rfl | omega)) (fun _ => ?_)
        have hv' := hv (by omega)
        rw [nvl_s a2, ← hv']
        omega
      · refine g_ifT rfl ?_
        refine fin (fun z => c1 ?_)
        have z2 := z.2
        unfold Dg at z2
        rw [hr3]
        unfold u8
        split <;> omega
  exact ⟨401, L 401 0 m1 hm1 f1 x2 (by omega) (by omega) (fun j j0 j1 => absurd j1 (by omega)) (by decide) (by decide) (Or.inl ⟨x1, rfl⟩) (fun _ => by rw [x1, nvl_0]) (by omega)⟩
/-- a NUMBER of the reference, to the letter -/
theorem zx_num {X : Mm} {S : Sh} {m0 : Mm} {K : Int → Mm → Prop} {b : Int → Int} {n lo hi : Int} (hS : Shp S) (hm0 : Inv X S m0) (ht : TR X b n) (h9 : m0 336 9 = 0) (hp : m0 336 8 ≤ n) (h1 : ∀ (q r : Int) (M1 : Mm), Inv X S M1 → (∀ c p : Int, ¬ (c = 336 ∧ (p = 8 ∨ p = 10)) → M1 c p = m0 c p) → Sk b n (m0 336 8) q → (q < n ∧ Dg (b q)) → Dr b n q r → ¬ 5 < r - q → ¬ nv b q r < lo → ¬ hi < nv b q r → 0 ≤ nv b q r → M1 336 10 = nv b q r → M1 336 8 = r → r ≤ n → K 1 M1) (h0 : ∀ (q : Int) (M1 : Mm), Inv X S M1 → Sk b n (m0 336 8) q → 0 ≤ q → ¬ (q < n ∧ Dg (b q)) → M1 336 9 = 1 + 8 * q → K 0 M1) (h2 : ∀ (q r : Int) (M1 : Mm), Inv X S M1 → Sk b n (m0 336 8) q → 0 ≤ q → (q < n ∧ Dg (b q)) → Dr b n q r → (5 < r - q ∨ nv b q r < lo ∨ hi < nv b q r) → M1 336 9 = 2 + 8 * q → K 0 M1) : wp_X12_numberHere S m0 336 lo hi K := by
  have nb := ht.2.1
  have b80 := hm0.f_336_8
  refine u_X12_numberHere ?_
  refine ⟨hS.k336, ?_⟩
  refine zx_see hS hm0 ht hp (fun r q m1 hm1 f1 sk x1 hq' hr => ?_)
  have sk1 := sk.1
  have y9 : m1 336 9 = 0 := (f1 336 9 (by first | decide | exact fun z => absurd z.1 (by decide) | exact ⟨fun z => absurd z.1 (by decide), fun z => absurd z.1 (by decide)⟩ | omega)).trans h9
  refine g_getu 8 rfl hS.k336 (fun v ev => ?_)
  have evq : v = q := by omega
  refine ⟨hS.k336, ?_⟩
  refine zx_isDigit hS hm1 ht (by omega) (fun d1 d2 => ?_) (fun z => ?_)
  rotate_left
  · refine g_ifF (by decide) ?_
    refine g_C ?_
    refine g_getu 8 rfl hS.k336 (fun a ea => ?_)
    refine ⟨hS.k336, ?_⟩
    refine zx_fails hS hm1 y9 (by decide) (by decide) (by omega) (by omega) (fun m3 hm3 f3 y3 => ?_)
    exact ⟨by decide, h0 q m3 hm3 sk (by omega) (by rw [evq] at z; exact z) (by omega)⟩
  rw [evq] at d1 d2
  have hqn := d1
  have hd := d2
  refine g_ifT (by decide) ?_
  refine g_getu 8 rfl hS.k336 (fun at' eat => ?_)
  refine g_C ?_
  have ea : at' = q := by omega
  subst ea
  have L : ∀ (k : Nat) (v : Int) (m : Mm), Inv X S m → (∀ c p : Int, ¬ (c = 336 ∧ p = 8) → m c p = m0 c p) → at' ≤ m 336 8 → m 336 8 ≤ n → (∀ j : Int, at' ≤ j → j < m 336 8 → j < n ∧ Dg (b j)) → 0 ≤ v → v ≤ 99999 → ((m 336 8 = at' ∧ v = 0) ∨ (m 336 8 = at' + 1 ∧ v ≤ 9) ∨ (m 336 8 = at' + 2 ∧ v ≤ 99) ∨ (m 336 8 = at' + 3 ∧ v ≤ 999) ∨ (m 336 8 = at' + 4 ∧ v ≤ 9999) ∨ at' + 5 ≤ m 336 8) → (m 336 8 - at' ≤ 5 → v = nvl b at' (m 336 8 - at').toNat) → 401 - m 336 8 ≤ (k : Int) → wp_X12_numberHere_34 S K k 336 lo hi at' v m := by
    intro k
    induction k with
    | zero => intro v m _ _ _ _ _ _ _ _ _ h; exfalso; omega
    | succ k ih =>
      intro v m hm F a2 a3 a4 v0 v1 av hv h
      refine u_X12_numberHere_34 ?_
      refine g_getu 8 rfl hS.k336 (fun a ea => ?_)
      refine ⟨hS.k336, ?_⟩
      refine zx_isDigit hS hm ht (by omega) (fun c1 c2 => ?_) (fun c1 => ?_)
      · rw [ea] at c1 c2
        have nx : ∀ v' : Int, 0 ≤ v' → v' ≤ 99999 → ((m 336 8 + 1 = at' + 1 ∧ v' ≤ 9) ∨ (m 336 8 + 1 = at' + 2 ∧ v' ≤ 99) ∨ (m 336 8 + 1 = at' + 3 ∧ v' ≤ 999) ∨ (m 336 8 + 1 = at' + 4 ∧ v' ≤ 9999) ∨ at' + 5 ≤ m 336 8 + 1) → (m 336 8 + 1 - at' ≤ 5 → v' = nvl b at' (m 336 8 + 1 - at').toNat) → wp_X12_numberHere_75 S (fun a0 a1 a2 a3 a4 M => wp_X12_numberHere_34 S K k a0 a1 a2 a3 a4 M) K 336 lo hi at' v' m := by
          intro v' w0 w1 w2 w3
          refine u_X12_numberHere_75 ?_
          refine g_getu 8 rfl hS.k336 (fun a2' ea2 => ?_)
          refine g_C ?_
          refine g_A (by omega) (by omega) ?_
          refine g_put 8 rfl hS.k336 (hm.w_336_8 (by omega) (by omega)) (fun m2 e2 hm2 => ?_)
          have f2 : ∀ c p : Int, ¬ (c = 336 ∧ p = 8) → m2 c p = m c p := fun c p q => (congrFun (congrFun e2 _) _).trans (up_ne q)
          have y2 : m2 336 8 = a2' + 1 := (congrFun (congrFun e2 _) _).trans (up_at _ _ _ _)
          have y3 : m2 336 8 = m 336 8 + 1 := by omega
          refine ih v' m2 hm2 (fun c p z => (f2 c p z).trans (F c p z)) (by omega) (by omega) (fun j j0 j1 => ?_) w0 w1 (by omega) (by rw [y3]; exact w3) (by omega)
          by_cases e : j = m 336 8
          · rw [e]; exact ⟨c1, c2⟩
          · exact a4 j j0 (by omega)
        refine g_ifF (by decide) ?_
        refine g_getu 8 rfl hS.k336 (fun a3' ea3 => ?_)
        refine g_S (by omega) (by omega) ?_
        refine g_C ?_
        refine g_if (fun w5 => nx v v0 v1 (by omega) (fun z => by exfalso; omega)) (fun w5 => ?_)
        refine g_C ?_
        refine g_M (by omega) (by omega) ?_
        refine g_getr 0 337 rfl hS.k336 hm.f_336_0 (by decide) ?_
        refine g_getu 8 rfl hS.k336 (fun a4' ea4 => ?_)
        refine g_ldu hS.k337 hS.l337 (by omega) (by omega) (fun x ex => ?_)
        rw [ea4, ht.b hm (by omega) c1] at ex
        unfold Dg at c2
        refine g_A (by omega) (by omega) ?_
        refine g_C ?_
        refine g_S (by omega) (by omega) ?_
        refine nx _ (by omega) (by omega) (by omega) (fun _ => ?_)
        have hv' := hv (by omega)
        rw [nvl_s a2, ← hv']
        omega
      · rw [ea] at c1
        have hD : Dr b n at' (m 336 8) := ⟨a2, a4, c1⟩
        refine g_ifT rfl ?_
        refine g_put 10 rfl hS.k336 (hm.w_336_10 (by omega) (by omega)) (fun m2 e2 hm2 => ?_)
        have f2 : ∀ c p : Int, ¬ (c = 336 ∧ p = 10) → m2 c p = m c p := fun c p q => (congrFun (congrFun e2 _) _).trans (up_ne q)
        have y2 : m2 336 10 = v := (congrFun (congrFun e2 _) _).trans (up_at _ _ _ _)
        have e28 : m2 336 8 = m 336 8 := f2 336 8 (by first | decide | exact fun z => absurd z.1 (by decide) | exact ⟨fun z => absurd z.1 (by decide), fun z => absurd z.1 (by decide)⟩ | omega)
        have e29 : m2 336 9 = 0 := by rw [f2 336 9 (by first | decide | exact fun z => absurd z.1 (by decide) | exact ⟨fun z => absurd z.1 (by decide), fun z => absurd z.1 (by decide)⟩ | omega), F 336 9 (by first | decide | exact fun z => absurd z.1 (by decide) | exact ⟨fun z => absurd z.1 (by decide), fun z => absurd z.1 (by decide)⟩ | omega)]; exact h9
        have bad : (5 < m 336 8 - at' ∨ nv b at' (m 336 8) < lo ∨ hi < nv b at' (m 336 8)) → wp_X12_numberHere_117 S K 336 at' m2 := by
          intro h5
          refine u_X12_numberHere_117 ?_
          refine g_C ?_
          refine ⟨hS.k336, ?_⟩
          refine zx_fails hS hm2 e29 (by decide) (by decide) (by omega) (by omega) (fun m3 hm3 f3 y3 => ?_)
          exact g_ifT rfl (g_C ⟨by decide, h2 at' (m 336 8) m3 hm3 sk (by omega) ⟨hqn, hd⟩ hD h5 (by omega)⟩)
        refine g_getu 8 rfl hS.k336 (fun a5 ea5 => ?_)
        refine g_S (by omega) (by omega) ?_
        refine g_C ?_
        refine g_if (fun w5 => bad (Or.inl (by omega))) (fun w5 => ?_)
        have ev2 : v = nv b at' (m 336 8) := hv (by omega)
        refine g_C ?_
        refine g_C ?_
        refine g_C ?_
        refine z_in (fun i1 i2 => g_ifT (by decide) ?_) (fun z => g_ifF (by decide) (bad (Or.inr (by omega))))
        refine u_X12_numberHere_126 ?_
        exact g_C ⟨by decide, h1 at' (m 336 8) m2 hm2 (fun c p z => (f2 c p (by first | exact fun y => absurd (y.1 ▸ z) (by decide) | exact fun y => absurd (y.1 ▸ q) (by decide) | exact z | exact q | exact z.1 | exact q.1 | exact z.2 | exact q.2 | omega)).trans (F c p (by omega))) sk ⟨hqn, hd⟩ hD (by omega) (by omega) (by omega) (by omega) (by omega) e28 a3⟩
  exact ⟨401, L 401 0 m1 hm1 (fun c p z => f1 c p (by first | exact fun y => absurd (y.1 ▸ z) (by decide) | exact fun y => absurd (y.1 ▸ q) (by decide) | exact z | exact q | exact z.1 | exact q.1 | exact z.2 | exact q.2 | omega)) (by omega) (by omega) (fun j j0 j1 => absurd j1 (by omega)) (by decide) (by decide) (Or.inl ⟨x1, rfl⟩) (fun _ => by rw [x1, nvl_0]) (by omega)⟩
end
section
/-- the reference's row `read` is as told -/
def Rd (D : Dd) (M : Mm) : Prop := ∀ p : Int, 0 ≤ p → p < 117 → M 342 p = D p
theorem Rd.same {D : Dd} {m m' : Mm} (h : Rd D m) (f : ∀ p : Int, m' 342 p = m 342 p) : Rd D m' := fun p p0 p1 => (f p).trans (h p p0 p1)
theorem Rd.up {D : Dd} {m m' : Mm} {c v : Int} (h : Rd D m) (f : ∀ p : Int, ¬ p = c → m' 342 p = m 342 p) (x : m' 342 c = v) : Rd (ud D c v) m' := by
  intro p p0 p1
  by_cases e : p = c
  · rw [e, x, ud_at]
  · rw [f p e, ud_ne e]
    exact h p p0 p1
theorem zc_cell {X : Mm} {S : Sh} {m0 : Mm} {K : Int → Mm → Prop} {b : Int → Int} {n k u1 lo hi : Int} {T : Int → Dd → Prop} {D : Dd} (h j : Nat) (hS : Shp S) (hm0 : Inv X S m0) (ht : TR X b n) (rd : Rd D m0) (h9 : m0 336 9 = 0) (hp : m0 336 8 ≤ n) (l : Ld b n T 1 h j (m0 336 8) k D) (hu : dCl D h j = u1) (h1 : 0 ≤ u1) (h1' : u1 ≤ 116) (hlo : dLo D h j = lo) (hhi : dHi D h j = hi) (hb : ∀ v : Int, lo ≤ v → v ≤ hi → okb (bd 342 u1.toNat) v) (hf : ∀ M1 : Mm, Inv X S M1 → ¬ M1 336 9 = 0 → T (M1 336 9) dz → K 0 M1) (hk : ∀ (q v : Int) (M1 : Mm), Inv X S M1 → (∀ c p : Int, ¬ (c = 336 ∧ 8 ≤ p ∧ p ≤ 10) ∧ ¬ (c = 342 ∧ p = u1) → M1 c p = m0 c p) → lo ≤ v → v ≤ hi → 0 ≤ q → q ≤ n → Sk b n (m0 336 8) q → M1 342 u1 = v → Rd (ud D u1 v) M1 → M1 336 9 = 0 → M1 336 8 ≤ n → m0 336 8 ≤ M1 336 8 → (¬ dBad D h j v → ¬ j = dEnd h → Ld b n T 1 h (j + 1) (M1 336 8) k (ud D u1 v)) → (¬ dBad D h j v → j = dEnd h → Ld b n T 2 0 0 (M1 336 8) k (dFin (ud D u1 v) h)) → (dBad D h j v → T (2 + 8 * q) dz) → K 1 M1) : wp_X12_cellHere S m0 336 u1 lo hi K := by
  have b8 := hm0.f_336_8
  subst hu hlo hhi
  refine u_X12_cellHere ?_
  refine ⟨hS.k336, ?_⟩
  refine zx_num hS hm0 ht h9 hp (fun q r m2 hm2 f2 sk qd dr a5 al ah nn x10 x8 rn => ?_) (fun q m2 hm2 sk q0 nd x9 => ?_) (fun q r m2 hm2 sk q0 qd dr bad x9 => ?_)
  · have sk1 := sk.1
    have dr1 := dr.1
    refine g_ifT (by decide) ?_
    refine g_getr 7 342 rfl hS.k336 hm2.f_336_7 (by decide) ?_
    refine g_getu 10 rfl hS.k336 (fun v ev => ?_)
    rw [x10] at ev
    refine g_st hS.k342 hS.l342 (by omega) (by omega) (hm2.w342 (by omega) (hb v (by omega) (by omega))) (fun m3 e3 hm3 => ?_)
    have f3 : ∀ c p : Int, ¬ (c = 342 ∧ p = dCl D h j) → m3 c p = m2 c p := fun c p q => (congrFun (congrFun e3 _) _).trans (up_ne q)
    have x3 : m3 342 (dCl D h j) = v := (congrFun (congrFun e3 _) _).trans (up_at _ _ _ _)
    have e8 : m3 336 8 = r := (f3 336 8 (by first | decide | exact fun z => absurd z.1 (by decide) | exact ⟨fun z => absurd z.1 (by decide), fun z => absurd z.1 (by decide)⟩ | omega)).trans x8
    refine g_C ⟨by decide, hk q v m3 hm3 (fun c p z => (f3 c p (by first | exact fun y => absurd (y.1 ▸ z) (by decide) | exact fun y => absurd (y.1 ▸ q) (by decide) | exact z | exact q | exact z.1 | exact q.1 | exact z.2 | exact q.2 | omega)).trans (f2 c p (by first | exact fun y => absurd (y.1 ▸ z) (by decide) | exact fun y => absurd (y.1 ▸ q) (by decide) | exact z | exact q | exact z.1 | exact q.1 | exact z.2 | exact q.2 | omega))) (by omega) (by omega) (by omega) (by omega) sk x3 (rd.up (fun p z => (f3 342 p (fun y => z y.2)).trans (f2 342 p (by first | decide | exact fun z => absurd z.1 (by decide) | exact ⟨fun z => absurd z.1 (by decide), fun z => absurd z.1 (by decide)⟩ | omega))) x3) ?_ (by omega) (by omega) (fun nb ne => ?_) (fun nb ee => ?_) (fun yb => ?_)⟩
    · rw [f3 336 9 (by first | decide | exact fun z => absurd z.1 (by decide) | exact ⟨fun z => absurd z.1 (by decide), fun z => absurd z.1 (by decide)⟩ | omega), f2 336 9 (by first | decide | exact fun z => absurd z.1 (by decide) | exact ⟨fun z => absurd z.1 (by decide), fun z => absurd z.1 (by decide)⟩ | omega)]
      exact h9
    · rw [e8, ev]
      rw [ev] at nb
      exact l.nx sk qd dr (fun z => by rcases z with z | z | z | z; exact a5 z; exact al z; exact ah z; exact nb z) ne
    · rw [e8, ev]
      rw [ev] at nb
      exact l.end sk qd dr (fun z => by rcases z with z | z | z | z; exact a5 z; exact al z; exact ah z; exact nb z) ee
    · rw [ev] at yb
      exact l.bad1 sk qd dr (Or.inr (Or.inr (Or.inr yb)))
  · refine g_ifF (by decide) (g_C ⟨by decide, hf m2 hm2 (by omega) ?_⟩)
    rw [x9]
    exact l.bad0 sk nd
  · refine g_ifF (by decide) (g_C ⟨by decide, hf m2 hm2 (by omega) ?_⟩)
    rw [x9]
    refine l.bad1 sk qd dr ?_
    rcases bad with z | z | z
    · exact Or.inl z
    · exact Or.inr (Or.inl z)
    · exact Or.inr (Or.inr (Or.inl z))

theorem zc_isHandHere {X : Mm} {S : Sh} {m0 : Mm} {K : Int → Mm → Prop} {b : Int → Int} {n k u1 : Int} {T : Int → Dd → Prop} {D : Dd} (hS : Shp S) (hm0 : Inv X S m0) (ht : TR X b n) (rd : Rd D m0) (h9 : m0 336 9 = 0) (hq : m0 336 8 = u1) (h1 : 0 ≤ u1) (h1' : u1 ≤ n) (wk : Wk b n 2 u1) (hp : PR m0) (d0 : 2 ≤ D 0) (hF : dFull D 2 → T (5 + 8 * u1) dz) (hL : ¬ dFull D 2 → Ld b n T 1 2 0 (u1 + tl 2) k D) (hf : ∀ M1 : Mm, Inv X S M1 → ¬ M1 336 9 = 0 → T (M1 336 9) dz → K 0 M1) (hk : ∀ (M1 : Mm) (D' : Dd), Inv X S M1 → PR M1 → Rd D' M1 → 2 ≤ D' 0 → (∀ p : Int, (p = 11 ∨ p = 14) → M1 336 p = m0 336 p) → u1 ≤ M1 336 8 → M1 336 8 ≤ n → M1 336 9 = 0 → Ld b n T 2 0 0 (M1 336 8) k D' → K 1 M1) : wp_X12_isHandHere S m0 336 u1 K := by
  have nb := ht.2.1
  have c0 := hm0.f_342_0
  have c4 := hm0.f_342_4
  have c5 := hm0.f_342_5
  have cc := hm0.f_342_4
  have r0 := rd 0 (by decide) (by decide)
  have rc := rd 4 (by decide) (by decide)
  refine u_X12_isHandHere ?_
  refine g_getr 7 342 rfl hS.k336 hm0.f_336_7 (by decide) ?_
  refine g_C ?_
  refine g_ldu hS.k342 hS.l342 (by omega) (by omega) (fun v0 ev0 => ?_)
  refine g_C ?_
  refine g_if (fun w => ?_) (fun w => ?_)
  · have l0 := hL (fun z => w (by have z2 : D 4 = 5 := z; omega))
    refine ⟨hS.k336, ?_⟩
    refine zx_passWord 2 hS hm0 ht hq h1 (by decide) wk (fun m1 hm1 f1 x1 le1 => ?_)
    have tk := tl_r 2 (by decide)
    have r1 : Rd D m1 := rd.same (fun p => f1 342 p (by first | decide | exact fun z => absurd z.1 (by decide) | exact ⟨fun z => absurd z.1 (by decide), fun z => absurd z.1 (by decide)⟩ | omega))
    have y1 : m1 336 9 = 0 := (f1 336 9 (by first | decide | exact fun z => absurd z.1 (by decide) | exact ⟨fun z => absurd z.1 (by decide), fun z => absurd z.1 (by decide)⟩ | omega)).trans h9
    rw [← x1] at l0
    refine g_C ?_
    refine g_C ?_
    refine g_getr 7 342 rfl hS.k336 hm1.f_336_7 (by decide) ?_
    refine g_C ?_
    refine g_ldu hS.k342 hS.l342 (by omega) (by omega) (fun n0 en => ?_)
    rw [f1 342 _ (by first | decide | exact fun z => absurd z.1 (by decide) | exact ⟨fun z => absurd z.1 (by decide), fun z => absurd z.1 (by decide)⟩ | omega)] at en
    have dn : D 4 = n0 := by omega
    refine g_M (by omega) (by omega) ?_
    refine g_A (by omega) (by omega) ?_
    refine g_C ?_
    refine g_getr 7 342 rfl hS.k336 hm1.f_336_7 (by decide) ?_
    refine g_C ?_
    refine g_ldu hS.k342 hS.l342 (by omega) (by omega) (fun pp epp => ?_)
    rw [f1 342 _ (by first | decide | exact fun z => absurd z.1 (by decide) | exact ⟨fun z => absurd z.1 (by decide), fun z => absurd z.1 (by decide)⟩ | omega)] at epp
    refine g_C ?_
    refine g_S (by omega) (by omega) ?_
    refine ⟨hS.k336, ?_⟩
    refine zc_cell 2 0 hS hm1 ht r1 y1 (by omega) l0 (lo := 0) (hi := pp - 1) (by show 10 + 5 * D 4 = _; omega) (by omega) (by omega) rfl (by show D 0 - 1 = _; omega) (fun v lv uv => okb_of (l := 0) (u := 5) (by rw [show (10 + 5 * n0).toNat = 10 + 5 * n0.toNat by omega]; exact rq_10 _ (by omega)) (by omega) (by omega)) (fun m8 hm8 n8 t8 => g_ifT rfl (g_C ⟨by decide, hf m8 hm8 n8 t8⟩)) (fun q2 v2 m2 hm2 f2 lo_2 hi_2 q0_2 qn_2 sk2 xv2 r2 y2 n2' p2 ln2 le2 _ => ?_)
    refine g_ifF (by decide) ?_
    obtain ⟨D2, eD2⟩ : ∃ z : Dd, z = ud D (10 + 5 * n0) v2 := ⟨_, rfl⟩
    have gD2 : ∀ p : Int, ¬ p = 10 + 5 * n0 → D2 p = D p := fun p z => by rw [eD2]; exact ud_ne z
    have xD2 : D2 (10 + 5 * n0) = v2 := by rw [eD2]; exact ud_at _ _ _
    rw [← eD2] at r2 ln2 le2
    have dn2 : D2 4 = n0 := (gD2 4 (by omega)).trans dn
    have d02 : D2 0 = D 0 := (gD2 0 (by omega))
    have l2 := ln2 (fun z => absurd z.1 (by decide)) (by decide)
    refine g_C ?_
    refine g_A (by omega) (by omega) ?_
    refine g_C ?_
    refine g_C ?_
    refine ⟨hS.k336, ?_⟩
    refine zc_cell 2 1 hS hm2 ht r2 y2 (by omega) l2 (lo := 0) (hi := 20) (by show 10 + 5 * D2 4 + 3 = _; omega) (by omega) (by omega) rfl rfl (fun v lv uv => okb_of (l := 0) (u := 20) (by rw [show (10 + 5 * n0 + 3).toNat = 13 + 5 * n0.toNat by omega]; exact rq_13 _ (by omega)) (by omega) (by omega)) (fun m8 hm8 n8 t8 => g_ifT rfl (g_C ⟨by decide, hf m8 hm8 n8 t8⟩)) (fun q3 v3 m3 hm3 f3 lo_3 hi_3 q0_3 qn_3 sk3 xv3 r3 y3 n3' p3 ln3 le3 _ => ?_)
    refine g_ifF (by decide) ?_
    obtain ⟨D3, eD3⟩ : ∃ z : Dd, z = ud D2 (10 + 5 * n0 + 3) v3 := ⟨_, rfl⟩
    have gD3 : ∀ p : Int, ¬ p = 10 + 5 * n0 + 3 → D3 p = D2 p := fun p z => by rw [eD3]; exact ud_ne z
    have xD3 : D3 (10 + 5 * n0 + 3) = v3 := by rw [eD3]; exact ud_at _ _ _
    rw [← eD3] at r3 ln3 le3
    have dn3 : D3 4 = n0 := (gD3 4 (by omega)).trans dn2
    have d03 : D3 0 = D 0 := (gD3 0 (by omega)).trans d02
    have l3 := ln3 (fun z => absurd z.1 (by decide)) (by decide)
    refine g_C ?_
    refine g_A (by omega) (by omega) ?_
    refine g_C ?_
    refine g_C ?_
    refine ⟨hS.k336, ?_⟩
    refine zc_cell 2 2 hS hm3 ht r3 y3 (by omega) l3 (lo := 0) (hi := 5) (by show 10 + 5 * D3 4 + 4 = _; omega) (by omega) (by omega) rfl rfl (fun v lv uv => okb_of (l := 0) (u := 5) (by rw [show (10 + 5 * n0 + 4).toNat = 14 + 5 * n0.toNat by omega]; exact rq_14 _ (by omega)) (by omega) (by omega)) (fun m8 hm8 n8 t8 => g_ifF (by decide) (g_C ⟨by decide, hf m8 hm8 n8 t8⟩)) (fun q4 v4 m4 hm4 f4 lo_4 hi_4 q0_4 qn_4 sk4 xv4 r4 y4 n4' p4 ln4 le4 _ => ?_)
    refine g_ifT (by decide) ?_
    obtain ⟨D4, eD4⟩ : ∃ z : Dd, z = ud D3 (10 + 5 * n0 + 4) v4 := ⟨_, rfl⟩
    have gD4 : ∀ p : Int, ¬ p = 10 + 5 * n0 + 4 → D4 p = D3 p := fun p z => by rw [eD4]; exact ud_ne z
    have xD4 : D4 (10 + 5 * n0 + 4) = v4 := by rw [eD4]; exact ud_at _ _ _
    rw [← eD4] at r4 ln4 le4
    have dn4 : D4 4 = n0 := (gD4 4 (by omega)).trans dn3
    have d04 : D4 0 = D 0 := (gD4 0 (by omega)).trans d03
    have l4 := le4 (fun z => absurd z.1 (by decide)) rfl
    refine g_getr 7 342 rfl hS.k336 hm4.f_336_7 (by decide) ?_
    refine g_C ?_
    refine g_A (by omega) (by omega) ?_
    refine g_C ?_
    refine g_st hS.k342 hS.l342 (by omega) (by omega) (hm4.w342 (by omega) (okb_of (l := 0) (u := 5) (by rw [show (10 + 5 * n0 + 1).toNat = 11 + 5 * n0.toNat by omega]; exact rq_11 _ (by omega)) (by omega) (by omega))) (fun m5 e5 hm5 => ?_)
    have f5 : ∀ c p : Int, ¬ (c = 342 ∧ p = 10 + 5 * n0 + 1) → m5 c p = m4 c p := fun c p q => (congrFun (congrFun e5 _) _).trans (up_ne q)
    have x5 : m5 342 (10 + 5 * n0 + 1) = 0 := (congrFun (congrFun e5 _) _).trans (up_at _ _ _ _)
    have r5 : Rd (ud D4 (10 + 5 * n0 + 1) 0) m5 := r4.up (fun p z => f5 342 p (fun y => z y.2)) x5
    refine g_getr 7 342 rfl hS.k336 hm5.f_336_7 (by decide) ?_
    refine g_C ?_
    refine g_A (by omega) (by omega) ?_
    refine g_C ?_
    refine g_st hS.k342 hS.l342 (by omega) (by omega) (hm5.w342 (by omega) (okb_of (l := 0) (u := 99) (by rw [show (10 + 5 * n0 + 2).toNat = 12 + 5 * n0.toNat by omega]; exact rq_12 _ (by omega)) (by omega) (by omega))) (fun m6 e6 hm6 => ?_)
    have f6 : ∀ c p : Int, ¬ (c = 342 ∧ p = 10 + 5 * n0 + 2) → m6 c p = m5 c p := fun c p q => (congrFun (congrFun e6 _) _).trans (up_ne q)
    have x6 : m6 342 (10 + 5 * n0 + 2) = 0 := (congrFun (congrFun e6 _) _).trans (up_at _ _ _ _)
    have r6 : Rd (ud (ud D4 (10 + 5 * n0 + 1) 0) (10 + 5 * n0 + 2) 0) m6 := r5.up (fun p z => f6 342 p (fun y => z y.2)) x6
    refine g_getr 7 342 rfl hS.k336 hm6.f_336_7 (by decide) ?_
    refine g_C ?_
    refine g_ldu hS.k342 hS.l342 (by omega) (by omega) (fun q1 eq1 => ?_)
    rw [f6 342 _ (by first | decide | exact fun z => absurd z.1 (by decide) | exact ⟨fun z => absurd z.1 (by decide), fun z => absurd z.1 (by decide)⟩ | omega), f5 342 _ (by first | decide | exact fun z => absurd z.1 (by decide) | exact ⟨fun z => absurd z.1 (by decide), fun z => absurd z.1 (by decide)⟩ | omega), f4 342 _ (by first | decide | exact fun z => absurd z.1 (by decide) | exact ⟨fun z => absurd z.1 (by decide), fun z => absurd z.1 (by decide)⟩ | omega), f3 342 _ (by first | decide | exact fun z => absurd z.1 (by decide) | exact ⟨fun z => absurd z.1 (by decide), fun z => absurd z.1 (by decide)⟩ | omega), f2 342 _ (by first | decide | exact fun z => absurd z.1 (by decide) | exact ⟨fun z => absurd z.1 (by decide), fun z => absurd z.1 (by decide)⟩ | omega), f1 342 _ (by first | decide | exact fun z => absurd z.1 (by decide) | exact ⟨fun z => absurd z.1 (by decide), fun z => absurd z.1 (by decide)⟩ | omega)] at eq1
    have eqn1 : q1 = n0 := by omega
    refine g_C ?_
    refine g_A (by omega) (by omega) ?_
    refine g_st hS.k342 hS.l342 (by omega) (by omega) (hm6.w342 (by omega) (okb_of (l := 0) (u := 5) (by decide +kernel) (by omega) (by omega))) (fun m7 e7 hm7 => ?_)
    have f7 : ∀ c p : Int, ¬ (c = 342 ∧ p = 4) → m7 c p = m6 c p := fun c p q => (congrFun (congrFun e7 _) _).trans (up_ne q)
    have x7 : m7 342 (4) = q1 + 1 := (congrFun (congrFun e7 _) _).trans (up_at _ _ _ _)
    have r7 : Rd (ud (ud (ud D4 (10 + 5 * n0 + 1) 0) (10 + 5 * n0 + 2) 0) (4) (n0 + 1)) m7 := r6.up (fun p z => f7 342 p (fun y => z y.2)) (by rw [x7]; omega)
    have F : ∀ c p : Int, ¬ (c = 336 ∧ 8 ≤ p ∧ p ≤ 10) ∧ ¬ (c = 342 ∧ p = 10 + 5 * n0) ∧ ¬ (c = 342 ∧ p = 10 + 5 * n0 + 3) ∧ ¬ (c = 342 ∧ p = 10 + 5 * n0 + 4) ∧ ¬ (c = 342 ∧ p = 10 + 5 * n0 + 1) ∧ ¬ (c = 342 ∧ p = 10 + 5 * n0 + 2) ∧ ¬ (c = 342 ∧ p = 4) → m7 c p = m0 c p := fun c p q => by rw [f7 c p (by first | exact q.2.2.2.2.2.2 | omega), f6 c p (by first | exact q.2.2.2.2.2.1 | omega), f5 c p (by first | exact q.2.2.2.2.1 | omega), f4 c p (by first | exact ⟨q.1, q.2.2.2.1⟩ | omega), f3 c p (by first | exact ⟨q.1, q.2.2.1⟩ | omega), f2 c p (by first | exact ⟨q.1, q.2.1⟩ | omega), f1 c p (by first | exact fun z => q.1 ⟨z.1, z.2.1, Int.le_trans z.2.2 (by decide)⟩ | omega)]
    have eF : dFin D4 2 = (ud (ud (ud D4 (10 + 5 * n0 + 1) 0) (10 + 5 * n0 + 2) 0) (4) (n0 + 1)) := by
      show ud (ud (ud D4 (10 + 5 * D4 4 + 1) 0) (10 + 5 * D4 4 + 2) 0) 4 (D4 4 + 1) = _
      rw [dn4]
    rw [eF] at l4
    have e8 : m7 336 8 = m4 336 8 := by rw [f7 336 8 (by first | decide | exact fun z => absurd z.1 (by decide) | exact ⟨fun z => absurd z.1 (by decide), fun z => absurd z.1 (by decide)⟩ | omega), f6 336 8 (by first | decide | exact fun z => absurd z.1 (by decide) | exact ⟨fun z => absurd z.1 (by decide), fun z => absurd z.1 (by decide)⟩ | omega), f5 336 8 (by first | decide | exact fun z => absurd z.1 (by decide) | exact ⟨fun z => absurd z.1 (by decide), fun z => absurd z.1 (by decide)⟩ | omega)]
    rw [← e8] at l4
    have z0 : (ud (ud (ud D4 (10 + 5 * n0 + 1) 0) (10 + 5 * n0 + 2) 0) (4) (n0 + 1)) 0 = D 0 := ((ud_ne (by omega)).trans ((ud_ne (by omega)).trans ((ud_ne (by omega)).trans (d04))))
    refine g_C ⟨by decide, hk m7 (ud (ud (ud D4 (10 + 5 * n0 + 1) 0) (10 + 5 * n0 + 2) 0) (4) (n0 + 1)) hm7 ?_ r7 (by omega) (fun p q => F 336 p ⟨fun z => by omega, fun z => absurd z.1 (by decide), fun z => absurd z.1 (by decide), fun z => absurd z.1 (by decide), fun z => absurd z.1 (by decide), fun z => absurd z.1 (by decide), fun z => absurd z.1 (by decide)⟩) (by omega) (by omega) (by rw [f7 336 9 (by first | decide | exact fun z => absurd z.1 (by decide) | exact ⟨fun z => absurd z.1 (by decide), fun z => absurd z.1 (by decide)⟩ | omega), f6 336 9 (by first | decide | exact fun z => absurd z.1 (by decide) | exact ⟨fun z => absurd z.1 (by decide), fun z => absurd z.1 (by decide)⟩ | omega), f5 336 9 (by first | decide | exact fun z => absurd z.1 (by decide) | exact ⟨fun z => absurd z.1 (by decide), fun z => absurd z.1 (by decide)⟩ | omega)]; exact y4) l4⟩
    refine hp.hand (n := n0) en (by omega) (fun p q1 q2 => F 342 p ⟨fun z => absurd z.1 (by decide), fun z => by omega, fun z => by omega, fun z => by omega, fun z => by omega, fun z => by omega, fun z => by omega⟩) (by omega) ?_
    rw [f7 342 _ (by first | decide | exact fun z => absurd z.1 (by decide) | exact ⟨fun z => absurd z.1 (by decide), fun z => absurd z.1 (by decide)⟩ | omega), f6 342 _ (by first | decide | exact fun z => absurd z.1 (by decide) | exact ⟨fun z => absurd z.1 (by decide), fun z => absurd z.1 (by decide)⟩ | omega), f5 342 _ (by first | decide | exact fun z => absurd z.1 (by decide) | exact ⟨fun z => absurd z.1 (by decide), fun z => absurd z.1 (by decide)⟩ | omega), f4 342 _ (by first | decide | exact fun z => absurd z.1 (by decide) | exact ⟨fun z => absurd z.1 (by decide), fun z => absurd z.1 (by decide)⟩ | omega), f3 342 _ (by first | decide | exact fun z => absurd z.1 (by decide) | exact ⟨fun z => absurd z.1 (by decide), fun z => absurd z.1 (by decide)⟩ | omega)]
    omega
  · refine g_C ?_
    refine ⟨hS.k336, ?_⟩
    refine zx_fails hS hm0 h9 (by decide) (by decide) (by omega) (by omega) (fun m9 hm9 f9 y9 => ?_)
    refine ⟨by decide, hf m9 hm9 (by omega) ?_⟩
    rw [y9, show 1 + 8 * u1 + 4 = 5 + 8 * u1 by omega]
    exact hF (by show D 4 = 5; omega)
theorem zc_isJugHere {X : Mm} {S : Sh} {m0 : Mm} {K : Int → Mm → Prop} {b : Int → Int} {n k u1 : Int} {T : Int → Dd → Prop} {D : Dd} (hS : Shp S) (hm0 : Inv X S m0) (ht : TR X b n) (rd : Rd D m0) (h9 : m0 336 9 = 0) (hq : m0 336 8 = u1) (h1 : 0 ≤ u1) (h1' : u1 ≤ n) (wk : Wk b n 3 u1) (hp : PR m0) (d0 : 2 ≤ D 0) (hF : dFull D 3 → T (5 + 8 * u1) dz) (hL : ¬ dFull D 3 → Ld b n T 1 3 0 (u1 + tl 3) k D) (hf : ∀ M1 : Mm, Inv X S M1 → ¬ M1 336 9 = 0 → T (M1 336 9) dz → K 0 M1) (hk : ∀ (M1 : Mm) (D' : Dd), Inv X S M1 → PR M1 → Rd D' M1 → 2 ≤ D' 0 → (∀ p : Int, (p = 11 ∨ p = 14) → M1 336 p = m0 336 p) → u1 ≤ M1 336 8 → M1 336 8 ≤ n → M1 336 9 = 0 → Ld b n T 2 0 0 (M1 336 8) k D' → K 1 M1) : wp_X12_isJugHere S m0 336 u1 K := by
  have nb := ht.2.1
  have c0 := hm0.f_342_0
  have c4 := hm0.f_342_4
  have c5 := hm0.f_342_5
  have cc := hm0.f_342_5
  have r0 := rd 0 (by decide) (by decide)
  have rc := rd 5 (by decide) (by decide)
  refine u_X12_isJugHere ?_
  refine g_getr 7 342 rfl hS.k336 hm0.f_336_7 (by decide) ?_
  refine g_C ?_
  refine g_ldu hS.k342 hS.l342 (by omega) (by omega) (fun v0 ev0 => ?_)
  refine g_C ?_
  refine g_if (fun w => ?_) (fun w => ?_)
  · have l0 := hL (fun z => w (by have z2 : D 5 = 4 := z; omega))
    refine ⟨hS.k336, ?_⟩
    refine zx_passWord 3 hS hm0 ht hq h1 (by decide) wk (fun m1 hm1 f1 x1 le1 => ?_)
    have tk := tl_r 3 (by decide)
    have r1 : Rd D m1 := rd.same (fun p => f1 342 p (by first | decide | exact fun z => absurd z.1 (by decide) | exact ⟨fun z => absurd z.1 (by decide), fun z => absurd z.1 (by decide)⟩ | omega))
    have y1 : m1 336 9 = 0 := (f1 336 9 (by first | decide | exact fun z => absurd z.1 (by decide) | exact ⟨fun z => absurd z.1 (by decide), fun z => absurd z.1 (by decide)⟩ | omega)).trans h9
    rw [← x1] at l0
    refine g_C ?_
    refine g_C ?_
    refine g_getr 7 342 rfl hS.k336 hm1.f_336_7 (by decide) ?_
    refine g_C ?_
    refine g_ldu hS.k342 hS.l342 (by omega) (by omega) (fun n0 en => ?_)
    rw [f1 342 _ (by first | decide | exact fun z => absurd z.1 (by decide) | exact ⟨fun z => absurd z.1 (by decide), fun z => absurd z.1 (by decide)⟩ | omega)] at en
    have dn : D 5 = n0 := by omega
    refine g_M (by omega) (by omega) ?_
    refine g_A (by omega) (by omega) ?_
    refine g_C ?_
    refine g_getr 7 342 rfl hS.k336 hm1.f_336_7 (by decide) ?_
    refine g_C ?_
    refine g_ldu hS.k342 hS.l342 (by omega) (by omega) (fun pp epp => ?_)
    rw [f1 342 _ (by first | decide | exact fun z => absurd z.1 (by decide) | exact ⟨fun z => absurd z.1 (by decide), fun z => absurd z.1 (by decide)⟩ | omega)] at epp
    refine g_C ?_
    refine g_S (by omega) (by omega) ?_
    refine ⟨hS.k336, ?_⟩
    refine zc_cell 3 0 hS hm1 ht r1 y1 (by omega) l0 (lo := 0) (hi := pp - 1) (by show 35 + 4 * D 5 = _; omega) (by omega) (by omega) rfl (by show D 0 - 1 = _; omega) (fun v lv uv => okb_of (l := 0) (u := 5) (by rw [show (35 + 4 * n0).toNat = 35 + 4 * n0.toNat by omega]; exact rq_35 _ (by omega)) (by omega) (by omega)) (fun m8 hm8 n8 t8 => g_ifT rfl (g_C ⟨by decide, hf m8 hm8 n8 t8⟩)) (fun q2 v2 m2 hm2 f2 lo_2 hi_2 q0_2 qn_2 sk2 xv2 r2 y2 n2' p2 ln2 le2 _ => ?_)
    refine g_ifF (by decide) ?_
    obtain ⟨D2, eD2⟩ : ∃ z : Dd, z = ud D (35 + 4 * n0) v2 := ⟨_, rfl⟩
    have gD2 : ∀ p : Int, ¬ p = 35 + 4 * n0 → D2 p = D p := fun p z => by rw [eD2]; exact ud_ne z
    have xD2 : D2 (35 + 4 * n0) = v2 := by rw [eD2]; exact ud_at _ _ _
    rw [← eD2] at r2 ln2 le2
    have dn2 : D2 5 = n0 := (gD2 5 (by omega)).trans dn
    have d02 : D2 0 = D 0 := (gD2 0 (by omega))
    have l2 := ln2 (fun z => absurd z.1 (by decide)) (by decide)
    refine g_C ?_
    refine g_A (by omega) (by omega) ?_
    refine g_C ?_
    refine g_C ?_
    refine ⟨hS.k336, ?_⟩
    refine zc_cell 3 1 hS hm2 ht r2 y2 (by omega) l2 (lo := 0) (hi := 99) (by show 35 + 4 * D2 5 + 2 = _; omega) (by omega) (by omega) rfl rfl (fun v lv uv => okb_of (l := -2147483648) (u := 2147483647) (by rw [show (35 + 4 * n0 + 2).toNat = 37 + 4 * n0.toNat by omega]; exact rq_37 _ (by omega)) (by omega) (by omega)) (fun m8 hm8 n8 t8 => g_ifF (by decide) (g_C ⟨by decide, hf m8 hm8 n8 t8⟩)) (fun q3 v3 m3 hm3 f3 lo_3 hi_3 q0_3 qn_3 sk3 xv3 r3 y3 n3' p3 ln3 le3 _ => ?_)
    refine g_ifT (by decide) ?_
    obtain ⟨D3, eD3⟩ : ∃ z : Dd, z = ud D2 (35 + 4 * n0 + 2) v3 := ⟨_, rfl⟩
    have gD3 : ∀ p : Int, ¬ p = 35 + 4 * n0 + 2 → D3 p = D2 p := fun p z => by rw [eD3]; exact ud_ne z
    have xD3 : D3 (35 + 4 * n0 + 2) = v3 := by rw [eD3]; exact ud_at _ _ _
    rw [← eD3] at r3 ln3 le3
    have dn3 : D3 5 = n0 := (gD3 5 (by omega)).trans dn2
    have d03 : D3 0 = D 0 := (gD3 0 (by omega)).trans d02
    have l3 := le3 (fun z => absurd z.1 (by decide)) rfl
    refine g_getr 7 342 rfl hS.k336 hm3.f_336_7 (by decide) ?_
    refine g_C ?_
    refine g_A (by omega) (by omega) ?_
    refine g_C ?_
    refine g_st hS.k342 hS.l342 (by omega) (by omega) (hm3.w342 (by omega) (okb_of (l := -1) (u := 4) (by rw [show (35 + 4 * n0 + 1).toNat = 36 + 4 * n0.toNat by omega]; exact rq_36 _ (by omega)) (by omega) (by omega))) (fun m4 e4 hm4 => ?_)
    have f4 : ∀ c p : Int, ¬ (c = 342 ∧ p = 35 + 4 * n0 + 1) → m4 c p = m3 c p := fun c p q => (congrFun (congrFun e4 _) _).trans (up_ne q)
    have x4 : m4 342 (35 + 4 * n0 + 1) = (-1) := (congrFun (congrFun e4 _) _).trans (up_at _ _ _ _)
    have r4 : Rd (ud D3 (35 + 4 * n0 + 1) (-1)) m4 := r3.up (fun p z => f4 342 p (fun y => z y.2)) x4
    refine g_getr 7 342 rfl hS.k336 hm4.f_336_7 (by decide) ?_
    refine g_C ?_
    refine g_A (by omega) (by omega) ?_
    refine g_C ?_
    refine g_st hS.k342 hS.l342 (by omega) (by omega) (hm4.w342 (by omega) (okb_of (l := 0) (u := 1) (by rw [show (35 + 4 * n0 + 3).toNat = 38 + 4 * n0.toNat by omega]; exact rq_38 _ (by omega)) (by omega) (by omega))) (fun m5 e5 hm5 => ?_)
    have f5 : ∀ c p : Int, ¬ (c = 342 ∧ p = 35 + 4 * n0 + 3) → m5 c p = m4 c p := fun c p q => (congrFun (congrFun e5 _) _).trans (up_ne q)
    have x5 : m5 342 (35 + 4 * n0 + 3) = 0 := (congrFun (congrFun e5 _) _).trans (up_at _ _ _ _)
    have r5 : Rd (ud (ud D3 (35 + 4 * n0 + 1) (-1)) (35 + 4 * n0 + 3) 0) m5 := r4.up (fun p z => f5 342 p (fun y => z y.2)) x5
    refine g_getr 7 342 rfl hS.k336 hm5.f_336_7 (by decide) ?_
    refine g_C ?_
    refine g_ldu hS.k342 hS.l342 (by omega) (by omega) (fun q1 eq1 => ?_)
    rw [f5 342 _ (by first | decide | exact fun z => absurd z.1 (by decide) | exact ⟨fun z => absurd z.1 (by decide), fun z => absurd z.1 (by decide)⟩ | omega), f4 342 _ (by first | decide | exact fun z => absurd z.1 (by decide) | exact ⟨fun z => absurd z.1 (by decide), fun z => absurd z.1 (by decide)⟩ | omega), f3 342 _ (by first | decide | exact fun z => absurd z.1 (by decide) | exact ⟨fun z => absurd z.1 (by decide), fun z => absurd z.1 (by decide)⟩ | omega), f2 342 _ (by first | decide | exact fun z => absurd z.1 (by decide) | exact ⟨fun z => absurd z.1 (by decide), fun z => absurd z.1 (by decide)⟩ | omega), f1 342 _ (by first | decide | exact fun z => absurd z.1 (by decide) | exact ⟨fun z => absurd z.1 (by decide), fun z => absurd z.1 (by decide)⟩ | omega)] at eq1
    have eqn1 : q1 = n0 := by omega
    refine g_C ?_
    refine g_A (by omega) (by omega) ?_
    refine g_st hS.k342 hS.l342 (by omega) (by omega) (hm5.w342 (by omega) (okb_of (l := 0) (u := 4) (by decide +kernel) (by omega) (by omega))) (fun m6 e6 hm6 => ?_)
    have f6 : ∀ c p : Int, ¬ (c = 342 ∧ p = 5) → m6 c p = m5 c p := fun c p q => (congrFun (congrFun e6 _) _).trans (up_ne q)
    have x6 : m6 342 (5) = q1 + 1 := (congrFun (congrFun e6 _) _).trans (up_at _ _ _ _)
    have r6 : Rd (ud (ud (ud D3 (35 + 4 * n0 + 1) (-1)) (35 + 4 * n0 + 3) 0) (5) (n0 + 1)) m6 := r5.up (fun p z => f6 342 p (fun y => z y.2)) (by rw [x6]; omega)
    have F : ∀ c p : Int, ¬ (c = 336 ∧ 8 ≤ p ∧ p ≤ 10) ∧ ¬ (c = 342 ∧ p = 35 + 4 * n0) ∧ ¬ (c = 342 ∧ p = 35 + 4 * n0 + 2) ∧ ¬ (c = 342 ∧ p = 35 + 4 * n0 + 1) ∧ ¬ (c = 342 ∧ p = 35 + 4 * n0 + 3) ∧ ¬ (c = 342 ∧ p = 5) → m6 c p = m0 c p := fun c p q => by rw [f6 c p (by first | exact q.2.2.2.2.2 | omega), f5 c p (by first | exact q.2.2.2.2.1 | omega), f4 c p (by first | exact q.2.2.2.1 | omega), f3 c p (by first | exact ⟨q.1, q.2.2.1⟩ | omega), f2 c p (by first | exact ⟨q.1, q.2.1⟩ | omega), f1 c p (by first | exact fun z => q.1 ⟨z.1, z.2.1, Int.le_trans z.2.2 (by decide)⟩ | omega)]
    have eF : dFin D3 3 = (ud (ud (ud D3 (35 + 4 * n0 + 1) (-1)) (35 + 4 * n0 + 3) 0) (5) (n0 + 1)) := by
      show ud (ud (ud D3 (35 + 4 * D3 5 + 1) (-1)) (35 + 4 * D3 5 + 3) 0) 5 (D3 5 + 1) = _
      rw [dn3]
    rw [eF] at l3
    have e8 : m6 336 8 = m3 336 8 := by rw [f6 336 8 (by first | decide | exact fun z => absurd z.1 (by decide) | exact ⟨fun z => absurd z.1 (by decide), fun z => absurd z.1 (by decide)⟩ | omega), f5 336 8 (by first | decide | exact fun z => absurd z.1 (by decide) | exact ⟨fun z => absurd z.1 (by decide), fun z => absurd z.1 (by decide)⟩ | omega), f4 336 8 (by first | decide | exact fun z => absurd z.1 (by decide) | exact ⟨fun z => absurd z.1 (by decide), fun z => absurd z.1 (by decide)⟩ | omega)]
    rw [← e8] at l3
    have z0 : (ud (ud (ud D3 (35 + 4 * n0 + 1) (-1)) (35 + 4 * n0 + 3) 0) (5) (n0 + 1)) 0 = D 0 := ((ud_ne (by omega)).trans ((ud_ne (by omega)).trans ((ud_ne (by omega)).trans (d03))))
    refine g_C ⟨by decide, hk m6 (ud (ud (ud D3 (35 + 4 * n0 + 1) (-1)) (35 + 4 * n0 + 3) 0) (5) (n0 + 1)) hm6 ?_ r6 (by omega) (fun p q => F 336 p ⟨fun z => by omega, fun z => absurd z.1 (by decide), fun z => absurd z.1 (by decide), fun z => absurd z.1 (by decide), fun z => absurd z.1 (by decide), fun z => absurd z.1 (by decide)⟩) (by omega) (by omega) (by rw [f6 336 9 (by first | decide | exact fun z => absurd z.1 (by decide) | exact ⟨fun z => absurd z.1 (by decide), fun z => absurd z.1 (by decide)⟩ | omega), f5 336 9 (by first | decide | exact fun z => absurd z.1 (by decide) | exact ⟨fun z => absurd z.1 (by decide), fun z => absurd z.1 (by decide)⟩ | omega), f4 336 9 (by first | decide | exact fun z => absurd z.1 (by decide) | exact ⟨fun z => absurd z.1 (by decide), fun z => absurd z.1 (by decide)⟩ | omega)]; exact y3) l3⟩
    refine hp.jug (n := n0) en (by omega) (by omega) (fun p q1 q2 => F 342 p ⟨fun z => absurd z.1 (by decide), fun z => by omega, fun z => by omega, fun z => by omega, fun z => by omega, fun z => by omega⟩) (by omega) ?_
    rw [f6 342 _ (by first | decide | exact fun z => absurd z.1 (by decide) | exact ⟨fun z => absurd z.1 (by decide), fun z => absurd z.1 (by decide)⟩ | omega), f5 342 _ (by first | decide | exact fun z => absurd z.1 (by decide) | exact ⟨fun z => absurd z.1 (by decide), fun z => absurd z.1 (by decide)⟩ | omega), f4 342 _ (by first | decide | exact fun z => absurd z.1 (by decide) | exact ⟨fun z => absurd z.1 (by decide), fun z => absurd z.1 (by decide)⟩ | omega), f3 342 _ (by first | decide | exact fun z => absurd z.1 (by decide) | exact ⟨fun z => absurd z.1 (by decide), fun z => absurd z.1 (by decide)⟩ | omega)]
    omega
  · refine g_C ?_
    refine ⟨hS.k336, ?_⟩
    refine zx_fails hS hm0 h9 (by decide) (by decide) (by omega) (by omega) (fun m9 hm9 f9 y9 => ?_)
    refine ⟨by decide, hf m9 hm9 (by omega) ?_⟩
    rw [y9, show 1 + 8 * u1 + 4 = 5 + 8 * u1 by omega]
    exact hF (by show D 5 = 4; omega)
theorem zc_isHeatHere {X : Mm} {S : Sh} {m0 : Mm} {K : Int → Mm → Prop} {b : Int → Int} {n k u1 : Int} {T : Int → Dd → Prop} {D : Dd} (hS : Shp S) (hm0 : Inv X S m0) (ht : TR X b n) (rd : Rd D m0) (h9 : m0 336 9 = 0) (hq : m0 336 8 = u1) (h1 : 0 ≤ u1) (h1' : u1 ≤ n) (wk : Wk b n 4 u1) (hp : PR m0) (d0 : 2 ≤ D 0) (hF : dFull D 4 → T (5 + 8 * u1) dz) (hL : ¬ dFull D 4 → Ld b n T 1 4 0 (u1 + tl 4) k D) (hf : ∀ M1 : Mm, Inv X S M1 → ¬ M1 336 9 = 0 → T (M1 336 9) dz → K 0 M1) (hk : ∀ (M1 : Mm) (D' : Dd), Inv X S M1 → PR M1 → Rd D' M1 → 2 ≤ D' 0 → (∀ p : Int, (p = 11 ∨ p = 14) → M1 336 p = m0 336 p) → u1 ≤ M1 336 8 → M1 336 8 ≤ n → M1 336 9 = 0 → Ld b n T 2 0 0 (M1 336 8) k D' → K 1 M1) : wp_X12_isHeatHere S m0 336 u1 K := by
  have nb := ht.2.1
  have c0 := hm0.f_342_0
  have c4 := hm0.f_342_4
  have c5 := hm0.f_342_5
  have cc := hm0.f_342_9
  have r0 := rd 0 (by decide) (by decide)
  have rc := rd 9 (by decide) (by decide)
  refine u_X12_isHeatHere ?_
  refine g_getr 7 342 rfl hS.k336 hm0.f_336_7 (by decide) ?_
  refine g_C ?_
  refine g_ldu hS.k342 hS.l342 (by omega) (by omega) (fun v0 ev0 => ?_)
  refine g_C ?_
  refine g_if (fun w => ?_) (fun w => ?_)
  · have l0 := hL (fun z => w (by have z2 : D 9 = 4 := z; omega))
    refine ⟨hS.k336, ?_⟩
    refine zx_passWord 4 hS hm0 ht hq h1 (by decide) wk (fun m1 hm1 f1 x1 le1 => ?_)
    have tk := tl_r 4 (by decide)
    have r1 : Rd D m1 := rd.same (fun p => f1 342 p (by first | decide | exact fun z => absurd z.1 (by decide) | exact ⟨fun z => absurd z.1 (by decide), fun z => absurd z.1 (by decide)⟩ | omega))
    have y1 : m1 336 9 = 0 := (f1 336 9 (by first | decide | exact fun z => absurd z.1 (by decide) | exact ⟨fun z => absurd z.1 (by decide), fun z => absurd z.1 (by decide)⟩ | omega)).trans h9
    rw [← x1] at l0
    refine g_C ?_
    refine g_C ?_
    refine g_getr 7 342 rfl hS.k336 hm1.f_336_7 (by decide) ?_
    refine g_C ?_
    refine g_ldu hS.k342 hS.l342 (by omega) (by omega) (fun n0 en => ?_)
    rw [f1 342 _ (by first | decide | exact fun z => absurd z.1 (by decide) | exact ⟨fun z => absurd z.1 (by decide), fun z => absurd z.1 (by decide)⟩ | omega)] at en
    have dn : D 9 = n0 := by omega
    refine g_M (by omega) (by omega) ?_
    refine g_A (by omega) (by omega) ?_
    refine g_C ?_
    refine g_C ?_
    refine ⟨hS.k336, ?_⟩
    refine zc_cell 4 0 hS hm1 ht r1 y1 (by omega) l0 (lo := 0) (hi := 99) (by show 81 + 3 * D 9 + ((0 : Nat) : Int) = _; omega) (by omega) (by omega) rfl rfl (fun v lv uv => okb_of (l := 0) (u := 99) (by rw [show (81 + 3 * n0).toNat = 81 + 3 * n0.toNat by omega]; exact rq_81 _ (by omega)) (by omega) (by omega)) (fun m8 hm8 n8 t8 => g_ifT rfl (g_C ⟨by decide, hf m8 hm8 n8 t8⟩)) (fun q2 v2 m2 hm2 f2 lo_2 hi_2 q0_2 qn_2 sk2 xv2 r2 y2 n2' p2 ln2 le2 _ => ?_)
    refine g_ifF (by decide) ?_
    obtain ⟨D2, eD2⟩ : ∃ z : Dd, z = ud D (81 + 3 * n0) v2 := ⟨_, rfl⟩
    have gD2 : ∀ p : Int, ¬ p = 81 + 3 * n0 → D2 p = D p := fun p z => by rw [eD2]; exact ud_ne z
    have xD2 : D2 (81 + 3 * n0) = v2 := by rw [eD2]; exact ud_at _ _ _
    rw [← eD2] at r2 ln2 le2
    have dn2 : D2 9 = n0 := (gD2 9 (by omega)).trans dn
    have d02 : D2 0 = D 0 := (gD2 0 (by omega))
    have l2 := ln2 (fun z => absurd z.1 (by decide)) (by decide)
    refine g_C ?_
    refine g_A (by omega) (by omega) ?_
    refine g_getr 7 342 rfl hS.k336 hm2.f_336_7 (by decide) ?_
    refine g_ldu hS.k342 hS.l342 (by omega) (by omega) (fun lo1 elo1 => ?_)
    have elo1' : D2 (81 + 3 * n0) = lo1 := ((r2 _ (by omega) (by omega)).symm.trans elo1.symm)
    refine g_C ?_
    refine ⟨hS.k336, ?_⟩
    refine zc_cell 4 1 hS hm2 ht r2 y2 (by omega) l2 (lo := lo1) (hi := 99) (by show 81 + 3 * D2 9 + ((1 : Nat) : Int) = _; omega) (by omega) (by omega) (by show D2 (81 + 3 * D2 9) = _; rw [dn2]; exact elo1') rfl (fun v lv uv => okb_of (l := 0) (u := 99) (by rw [show (81 + 3 * n0 + 1).toNat = 82 + 3 * n0.toNat by omega]; exact rq_82 _ (by omega)) (by omega) (by omega)) (fun m8 hm8 n8 t8 => g_ifT rfl (g_C ⟨by decide, hf m8 hm8 n8 t8⟩)) (fun q3 v3 m3 hm3 f3 lo_3 hi_3 q0_3 qn_3 sk3 xv3 r3 y3 n3' p3 ln3 le3 _ => ?_)
    refine g_ifF (by decide) ?_
    obtain ⟨D3, eD3⟩ : ∃ z : Dd, z = ud D2 (81 + 3 * n0 + 1) v3 := ⟨_, rfl⟩
    have gD3 : ∀ p : Int, ¬ p = 81 + 3 * n0 + 1 → D3 p = D2 p := fun p z => by rw [eD3]; exact ud_ne z
    have xD3 : D3 (81 + 3 * n0 + 1) = v3 := by rw [eD3]; exact ud_at _ _ _
    rw [← eD3] at r3 ln3 le3
    have dn3 : D3 9 = n0 := (gD3 9 (by omega)).trans dn2
    have d03 : D3 0 = D 0 := (gD3 0 (by omega)).trans d02
    have l3 := ln3 (fun z => absurd z.1 (by decide)) (by decide)
    refine g_C ?_
    refine g_A (by omega) (by omega) ?_
    refine g_C ?_
    refine g_C ?_
    refine ⟨hS.k336, ?_⟩
    refine zc_cell 4 2 hS hm3 ht r3 y3 (by omega) l3 (lo := 1) (hi := 5) (by show 81 + 3 * D3 9 + ((2 : Nat) : Int) = _; omega) (by omega) (by omega) rfl rfl (fun v lv uv => okb_of (l := 0) (u := 5) (by rw [show (81 + 3 * n0 + 2).toNat = 83 + 3 * n0.toNat by omega]; exact rq_83 _ (by omega)) (by omega) (by omega)) (fun m8 hm8 n8 t8 => g_ifF (by decide) (g_C ⟨by decide, hf m8 hm8 n8 t8⟩)) (fun q4 v4 m4 hm4 f4 lo_4 hi_4 q0_4 qn_4 sk4 xv4 r4 y4 n4' p4 ln4 le4 _ => ?_)
    refine g_ifT (by decide) ?_
    obtain ⟨D4, eD4⟩ : ∃ z : Dd, z = ud D3 (81 + 3 * n0 + 2) v4 := ⟨_, rfl⟩
    have gD4 : ∀ p : Int, ¬ p = 81 + 3 * n0 + 2 → D4 p = D3 p := fun p z => by rw [eD4]; exact ud_ne z
    have xD4 : D4 (81 + 3 * n0 + 2) = v4 := by rw [eD4]; exact ud_at _ _ _
    rw [← eD4] at r4 ln4 le4
    have dn4 : D4 9 = n0 := (gD4 9 (by omega)).trans dn3
    have d04 : D4 0 = D 0 := (gD4 0 (by omega)).trans d03
    have l4 := le4 (fun z => absurd z.1 (by decide)) rfl
    refine g_getr 7 342 rfl hS.k336 hm4.f_336_7 (by decide) ?_
    refine g_C ?_
    refine g_ldu hS.k342 hS.l342 (by omega) (by omega) (fun q1 eq1 => ?_)
    rw [f4 342 _ (by first | decide | exact fun z => absurd z.1 (by decide) | exact ⟨fun z => absurd z.1 (by decide), fun z => absurd z.1 (by decide)⟩ | omega), f3 342 _ (by first | decide | exact fun z => absurd z.1 (by decide) | exact ⟨fun z => absurd z.1 (by decide), fun z => absurd z.1 (by decide)⟩ | omega), f2 342 _ (by first | decide | exact fun z => absurd z.1 (by decide) | exact ⟨fun z => absurd z.1 (by decide), fun z => absurd z.1 (by decide)⟩ | omega), f1 342 _ (by first | decide | exact fun z => absurd z.1 (by decide) | exact ⟨fun z => absurd z.1 (by decide), fun z => absurd z.1 (by decide)⟩ | omega)] at eq1
    have eqn1 : q1 = n0 := by omega
    refine g_C ?_
    refine g_A (by omega) (by omega) ?_
    refine g_st hS.k342 hS.l342 (by omega) (by omega) (hm4.w342 (by omega) (okb_of (l := 0) (u := 4) (by decide +kernel) (by omega) (by omega))) (fun m5 e5 hm5 => ?_)
    have f5 : ∀ c p : Int, ¬ (c = 342 ∧ p = 9) → m5 c p = m4 c p := fun c p q => (congrFun (congrFun e5 _) _).trans (up_ne q)
    have x5 : m5 342 (9) = q1 + 1 := (congrFun (congrFun e5 _) _).trans (up_at _ _ _ _)
    have r5 : Rd (ud D4 (9) (n0 + 1)) m5 := r4.up (fun p z => f5 342 p (fun y => z y.2)) (by rw [x5]; omega)
    have F : ∀ c p : Int, ¬ (c = 336 ∧ 8 ≤ p ∧ p ≤ 10) ∧ ¬ (c = 342 ∧ p = 81 + 3 * n0) ∧ ¬ (c = 342 ∧ p = 81 + 3 * n0 + 1) ∧ ¬ (c = 342 ∧ p = 81 + 3 * n0 + 2) ∧ ¬ (c = 342 ∧ p = 9) → m5 c p = m0 c p := fun c p q => by rw [f5 c p (by first | exact q.2.2.2.2 | omega), f4 c p (by first | exact ⟨q.1, q.2.2.2.1⟩ | omega), f3 c p (by first | exact ⟨q.1, q.2.2.1⟩ | omega), f2 c p (by first | exact ⟨q.1, q.2.1⟩ | omega), f1 c p (by first | exact fun z => q.1 ⟨z.1, z.2.1, Int.le_trans z.2.2 (by decide)⟩ | omega)]
    have eF : dFin D4 4 = (ud D4 (9) (n0 + 1)) := by
      show ud D4 9 (D4 9 + 1) = _
      rw [dn4]
    rw [eF] at l4
    have e8 : m5 336 8 = m4 336 8 := by rw [f5 336 8 (by first | decide | exact fun z => absurd z.1 (by decide) | exact ⟨fun z => absurd z.1 (by decide), fun z => absurd z.1 (by decide)⟩ | omega)]
    rw [← e8] at l4
    have z0 : (ud D4 (9) (n0 + 1)) 0 = D 0 := ((ud_ne (by omega)).trans (d04))
    refine g_C ⟨by decide, hk m5 (ud D4 (9) (n0 + 1)) hm5 ?_ r5 (by omega) (fun p q => F 336 p ⟨fun z => by omega, fun z => absurd z.1 (by decide), fun z => absurd z.1 (by decide), fun z => absurd z.1 (by decide), fun z => absurd z.1 (by decide)⟩) (by omega) (by omega) (by rw [f5 336 9 (by first | decide | exact fun z => absurd z.1 (by decide) | exact ⟨fun z => absurd z.1 (by decide), fun z => absurd z.1 (by decide)⟩ | omega)]; exact y4) l4⟩
    exact hp.oth (by omega) (by omega) (fun p q => F 342 p ⟨fun z => absurd z.1 (by decide), fun z => by omega, fun z => by omega, fun z => by omega, fun z => by omega⟩)
  · refine g_C ?_
    refine ⟨hS.k336, ?_⟩
    refine zx_fails hS hm0 h9 (by decide) (by decide) (by omega) (by omega) (fun m9 hm9 f9 y9 => ?_)
    refine ⟨by decide, hf m9 hm9 (by omega) ?_⟩
    rw [y9, show 1 + 8 * u1 + 4 = 5 + 8 * u1 by omega]
    exact hF (by show D 9 = 4; omega)
theorem zc_isWantHere {X : Mm} {S : Sh} {m0 : Mm} {K : Int → Mm → Prop} {b : Int → Int} {n k u1 : Int} {T : Int → Dd → Prop} {D : Dd} (hS : Shp S) (hm0 : Inv X S m0) (ht : TR X b n) (rd : Rd D m0) (h9 : m0 336 9 = 0) (hq : m0 336 8 = u1) (h1 : 0 ≤ u1) (h1' : u1 ≤ n) (wk : Wk b n 5 u1) (hp : PR m0) (d0 : 2 ≤ D 0) (hF : dFull D 5 → T (5 + 8 * u1) dz) (hL : ¬ dFull D 5 → Ld b n T 1 5 0 (u1 + tl 5) k D) (hf : ∀ M1 : Mm, Inv X S M1 → ¬ M1 336 9 = 0 → T (M1 336 9) dz → K 0 M1) (hk : ∀ (M1 : Mm) (D' : Dd), Inv X S M1 → PR M1 → Rd D' M1 → 2 ≤ D' 0 → (∀ p : Int, (p = 11 ∨ p = 14) → M1 336 p = m0 336 p) → u1 ≤ M1 336 8 → M1 336 8 ≤ n → M1 336 9 = 0 → Ld b n T 2 0 0 (M1 336 8) k D' → K 1 M1) : wp_X12_isWantHere S m0 336 u1 K := by
  have nb := ht.2.1
  have c0 := hm0.f_342_0
  have c4 := hm0.f_342_4
  have c5 := hm0.f_342_5
  have cc := hm0.f_342_6
  have r0 := rd 0 (by decide) (by decide)
  have rc := rd 6 (by decide) (by decide)
  refine u_X12_isWantHere ?_
  refine g_getr 7 342 rfl hS.k336 hm0.f_336_7 (by decide) ?_
  refine g_C ?_
  refine g_ldu hS.k342 hS.l342 (by omega) (by omega) (fun v0 ev0 => ?_)
  refine g_C ?_
  refine g_if (fun w => ?_) (fun w => ?_)
  · have l0 := hL (fun z => w (by have z2 : D 6 = 6 := z; omega))
    refine ⟨hS.k336, ?_⟩
    refine zx_passWord 5 hS hm0 ht hq h1 (by decide) wk (fun m1 hm1 f1 x1 le1 => ?_)
    have tk := tl_r 5 (by decide)
    have r1 : Rd D m1 := rd.same (fun p => f1 342 p (by first | decide | exact fun z => absurd z.1 (by decide) | exact ⟨fun z => absurd z.1 (by decide), fun z => absurd z.1 (by decide)⟩ | omega))
    have y1 : m1 336 9 = 0 := (f1 336 9 (by first | decide | exact fun z => absurd z.1 (by decide) | exact ⟨fun z => absurd z.1 (by decide), fun z => absurd z.1 (by decide)⟩ | omega)).trans h9
    rw [← x1] at l0
    refine g_C ?_
    refine g_C ?_
    refine g_getr 7 342 rfl hS.k336 hm1.f_336_7 (by decide) ?_
    refine g_C ?_
    refine g_ldu hS.k342 hS.l342 (by omega) (by omega) (fun n0 en => ?_)
    rw [f1 342 _ (by first | decide | exact fun z => absurd z.1 (by decide) | exact ⟨fun z => absurd z.1 (by decide), fun z => absurd z.1 (by decide)⟩ | omega)] at en
    have dn : D 6 = n0 := by omega
    refine g_M (by omega) (by omega) ?_
    refine g_A (by omega) (by omega) ?_
    refine g_C ?_
    refine g_getr 7 342 rfl hS.k336 hm1.f_336_7 (by decide) ?_
    refine g_C ?_
    refine g_ldu hS.k342 hS.l342 (by omega) (by omega) (fun pp epp => ?_)
    rw [f1 342 _ (by first | decide | exact fun z => absurd z.1 (by decide) | exact ⟨fun z => absurd z.1 (by decide), fun z => absurd z.1 (by decide)⟩ | omega)] at epp
    refine g_C ?_
    refine g_S (by omega) (by omega) ?_
    refine ⟨hS.k336, ?_⟩
    refine zc_cell 5 0 hS hm1 ht r1 y1 (by omega) l0 (lo := 0) (hi := pp - 1) (by show 93 + 4 * D 6 + ((0 : Nat) : Int) = _; omega) (by omega) (by omega) rfl (by show D 0 - 1 = _; omega) (fun v lv uv => okb_of (l := 0) (u := 5) (by rw [show (93 + 4 * n0).toNat = 93 + 4 * n0.toNat by omega]; exact rq_93 _ (by omega)) (by omega) (by omega)) (fun m8 hm8 n8 t8 => g_ifT rfl (g_C ⟨by decide, hf m8 hm8 n8 t8⟩)) (fun q2 v2 m2 hm2 f2 lo_2 hi_2 q0_2 qn_2 sk2 xv2 r2 y2 n2' p2 ln2 le2 _ => ?_)
    refine g_ifF (by decide) ?_
    obtain ⟨D2, eD2⟩ : ∃ z : Dd, z = ud D (93 + 4 * n0) v2 := ⟨_, rfl⟩
    have gD2 : ∀ p : Int, ¬ p = 93 + 4 * n0 → D2 p = D p := fun p z => by rw [eD2]; exact ud_ne z
    have xD2 : D2 (93 + 4 * n0) = v2 := by rw [eD2]; exact ud_at _ _ _
    rw [← eD2] at r2 ln2 le2
    have dn2 : D2 6 = n0 := (gD2 6 (by omega)).trans dn
    have d02 : D2 0 = D 0 := (gD2 0 (by omega))
    have l2 := ln2 (fun z => absurd z.1 (by decide)) (by decide)
    refine g_C ?_
    refine g_A (by omega) (by omega) ?_
    refine g_C ?_
    refine g_C ?_
    refine ⟨hS.k336, ?_⟩
    refine zc_cell 5 1 hS hm2 ht r2 y2 (by omega) l2 (lo := 0) (hi := 99) (by show 93 + 4 * D2 6 + ((1 : Nat) : Int) = _; omega) (by omega) (by omega) rfl rfl (fun v lv uv => okb_of (l := 0) (u := 99) (by rw [show (93 + 4 * n0 + 1).toNat = 94 + 4 * n0.toNat by omega]; exact rq_94 _ (by omega)) (by omega) (by omega)) (fun m8 hm8 n8 t8 => g_ifT rfl (g_C ⟨by decide, hf m8 hm8 n8 t8⟩)) (fun q3 v3 m3 hm3 f3 lo_3 hi_3 q0_3 qn_3 sk3 xv3 r3 y3 n3' p3 ln3 le3 _ => ?_)
    refine g_ifF (by decide) ?_
    obtain ⟨D3, eD3⟩ : ∃ z : Dd, z = ud D2 (93 + 4 * n0 + 1) v3 := ⟨_, rfl⟩
    have gD3 : ∀ p : Int, ¬ p = 93 + 4 * n0 + 1 → D3 p = D2 p := fun p z => by rw [eD3]; exact ud_ne z
    have xD3 : D3 (93 + 4 * n0 + 1) = v3 := by rw [eD3]; exact ud_at _ _ _
    rw [← eD3] at r3 ln3 le3
    have dn3 : D3 6 = n0 := (gD3 6 (by omega)).trans dn2
    have d03 : D3 0 = D 0 := (gD3 0 (by omega)).trans d02
    have l3 := ln3 (fun z => absurd z.1 (by decide)) (by decide)
    refine g_C ?_
    refine g_A (by omega) (by omega) ?_
    refine g_getr 7 342 rfl hS.k336 hm3.f_336_7 (by decide) ?_
    refine g_C ?_
    refine g_A (by omega) (by omega) ?_
    refine g_ldu hS.k342 hS.l342 (by omega) (by omega) (fun lo2 elo2 => ?_)
    have elo2' : D3 (93 + 4 * n0 + 1) = lo2 := ((r3 _ (by omega) (by omega)).symm.trans elo2.symm)
    refine g_C ?_
    refine ⟨hS.k336, ?_⟩
    refine zc_cell 5 2 hS hm3 ht r3 y3 (by omega) l3 (lo := lo2) (hi := 99) (by show 93 + 4 * D3 6 + ((2 : Nat) : Int) = _; omega) (by omega) (by omega) (by show D3 (93 + 4 * D3 6 + 1) = _; rw [dn3]; exact elo2') rfl (fun v lv uv => okb_of (l := 0) (u := 99) (by rw [show (93 + 4 * n0 + 2).toNat = 95 + 4 * n0.toNat by omega]; exact rq_95 _ (by omega)) (by omega) (by omega)) (fun m8 hm8 n8 t8 => g_ifT rfl (g_C ⟨by decide, hf m8 hm8 n8 t8⟩)) (fun q4 v4 m4 hm4 f4 lo_4 hi_4 q0_4 qn_4 sk4 xv4 r4 y4 n4' p4 ln4 le4 _ => ?_)
    refine g_ifF (by decide) ?_
    obtain ⟨D4, eD4⟩ : ∃ z : Dd, z = ud D3 (93 + 4 * n0 + 2) v4 := ⟨_, rfl⟩
    have gD4 : ∀ p : Int, ¬ p = 93 + 4 * n0 + 2 → D4 p = D3 p := fun p z => by rw [eD4]; exact ud_ne z
    have xD4 : D4 (93 + 4 * n0 + 2) = v4 := by rw [eD4]; exact ud_at _ _ _
    rw [← eD4] at r4 ln4 le4
    have dn4 : D4 6 = n0 := (gD4 6 (by omega)).trans dn3
    have d04 : D4 0 = D 0 := (gD4 0 (by omega)).trans d03
    have l4 := ln4 (fun z => absurd z.1 (by decide)) (by decide)
    refine g_C ?_
    refine g_A (by omega) (by omega) ?_
    refine g_C ?_
    refine g_C ?_
    refine ⟨hS.k336, ?_⟩
    refine zc_cell 5 3 hS hm4 ht r4 y4 (by omega) l4 (lo := 1) (hi := 50) (by show 93 + 4 * D4 6 + ((3 : Nat) : Int) = _; omega) (by omega) (by omega) rfl rfl (fun v lv uv => okb_of (l := 0) (u := 50) (by rw [show (93 + 4 * n0 + 3).toNat = 96 + 4 * n0.toNat by omega]; exact rq_96 _ (by omega)) (by omega) (by omega)) (fun m8 hm8 n8 t8 => g_ifF (by decide) (g_C ⟨by decide, hf m8 hm8 n8 t8⟩)) (fun q5 v5 m5 hm5 f5 lo_5 hi_5 q0_5 qn_5 sk5 xv5 r5 y5 n5' p5 ln5 le5 _ => ?_)
    refine g_ifT (by decide) ?_
    obtain ⟨D5, eD5⟩ : ∃ z : Dd, z = ud D4 (93 + 4 * n0 + 3) v5 := ⟨_, rfl⟩
    have gD5 : ∀ p : Int, ¬ p = 93 + 4 * n0 + 3 → D5 p = D4 p := fun p z => by rw [eD5]; exact ud_ne z
    have xD5 : D5 (93 + 4 * n0 + 3) = v5 := by rw [eD5]; exact ud_at _ _ _
    rw [← eD5] at r5 ln5 le5
    have dn5 : D5 6 = n0 := (gD5 6 (by omega)).trans dn4
    have d05 : D5 0 = D 0 := (gD5 0 (by omega)).trans d04
    have l5 := le5 (fun z => absurd z.1 (by decide)) rfl
    refine g_getr 7 342 rfl hS.k336 hm5.f_336_7 (by decide) ?_
    refine g_C ?_
    refine g_getr 7 342 rfl hS.k336 hm5.f_336_7 (by decide) ?_
    refine g_C ?_
    refine g_ldu hS.k342 hS.l342 (by omega) (by omega) (fun q0 eq0 => ?_)
    rw [f5 342 _ (by first | decide | exact fun z => absurd z.1 (by decide) | exact ⟨fun z => absurd z.1 (by decide), fun z => absurd z.1 (by decide)⟩ | omega), f4 342 _ (by first | decide | exact fun z => absurd z.1 (by decide) | exact ⟨fun z => absurd z.1 (by decide), fun z => absurd z.1 (by decide)⟩ | omega), f3 342 _ (by first | decide | exact fun z => absurd z.1 (by decide) | exact ⟨fun z => absurd z.1 (by decide), fun z => absurd z.1 (by decide)⟩ | omega), f2 342 _ (by first | decide | exact fun z => absurd z.1 (by decide) | exact ⟨fun z => absurd z.1 (by decide), fun z => absurd z.1 (by decide)⟩ | omega), f1 342 _ (by first | decide | exact fun z => absurd z.1 (by decide) | exact ⟨fun z => absurd z.1 (by decide), fun z => absurd z.1 (by decide)⟩ | omega)] at eq0
    have eqn : q0 = n0 := by omega
    subst eqn
    refine g_A (by omega) (by omega) ?_
    refine g_C ?_
    refine g_st hS.k342 hS.l342 (by omega) (by omega) (hm5.w342 (by omega) (okb_of (l := -2147483648) (u := 2147483647) (by rw [show (51 + q0).toNat = 51 + 1 * q0.toNat by omega]; exact rq_51 _ (by omega)) (by omega) (by omega))) (fun m6 e6 hm6 => ?_)
    have f6 : ∀ c p : Int, ¬ (c = 342 ∧ p = 51 + q0) → m6 c p = m5 c p := fun c p q => (congrFun (congrFun e6 _) _).trans (up_ne q)
    have x6 : m6 342 (51 + q0) = (-1) := (congrFun (congrFun e6 _) _).trans (up_at _ _ _ _)
    have r6 : Rd (ud D5 (51 + q0) (-1)) m6 := r5.up (fun p z => f6 342 p (fun y => z y.2)) x6
    refine g_getr 7 342 rfl hS.k336 hm6.f_336_7 (by decide) ?_
    refine g_C ?_
    refine g_ldu hS.k342 hS.l342 (by omega) (by omega) (fun q1 eq1 => ?_)
    rw [f6 342 _ (by first | decide | exact fun z => absurd z.1 (by decide) | exact ⟨fun z => absurd z.1 (by decide), fun z => absurd z.1 (by decide)⟩ | omega), f5 342 _ (by first | decide | exact fun z => absurd z.1 (by decide) | exact ⟨fun z => absurd z.1 (by decide), fun z => absurd z.1 (by decide)⟩ | omega), f4 342 _ (by first | decide | exact fun z => absurd z.1 (by decide) | exact ⟨fun z => absurd z.1 (by decide), fun z => absurd z.1 (by decide)⟩ | omega), f3 342 _ (by first | decide | exact fun z => absurd z.1 (by decide) | exact ⟨fun z => absurd z.1 (by decide), fun z => absurd z.1 (by decide)⟩ | omega), f2 342 _ (by first | decide | exact fun z => absurd z.1 (by decide) | exact ⟨fun z => absurd z.1 (by decide), fun z => absurd z.1 (by decide)⟩ | omega), f1 342 _ (by first | decide | exact fun z => absurd z.1 (by decide) | exact ⟨fun z => absurd z.1 (by decide), fun z => absurd z.1 (by decide)⟩ | omega)] at eq1
    have eqn1 : q1 = q0 := by omega
    refine g_C ?_
    refine g_A (by omega) (by omega) ?_
    refine g_st hS.k342 hS.l342 (by omega) (by omega) (hm6.w342 (by omega) (okb_of (l := 0) (u := 6) (by decide +kernel) (by omega) (by omega))) (fun m7 e7 hm7 => ?_)
    have f7 : ∀ c p : Int, ¬ (c = 342 ∧ p = 6) → m7 c p = m6 c p := fun c p q => (congrFun (congrFun e7 _) _).trans (up_ne q)
    have x7 : m7 342 (6) = q1 + 1 := (congrFun (congrFun e7 _) _).trans (up_at _ _ _ _)
    have r7 : Rd (ud (ud D5 (51 + q0) (-1)) (6) (q0 + 1)) m7 := r6.up (fun p z => f7 342 p (fun y => z y.2)) (by rw [x7]; omega)
    have F : ∀ c p : Int, ¬ (c = 336 ∧ 8 ≤ p ∧ p ≤ 10) ∧ ¬ (c = 342 ∧ p = 93 + 4 * q0) ∧ ¬ (c = 342 ∧ p = 93 + 4 * q0 + 1) ∧ ¬ (c = 342 ∧ p = 93 + 4 * q0 + 2) ∧ ¬ (c = 342 ∧ p = 93 + 4 * q0 + 3) ∧ ¬ (c = 342 ∧ p = 51 + q0) ∧ ¬ (c = 342 ∧ p = 6) → m7 c p = m0 c p := fun c p q => by rw [f7 c p (by first | exact q.2.2.2.2.2.2 | omega), f6 c p (by first | exact q.2.2.2.2.2.1 | omega), f5 c p (by first | exact ⟨q.1, q.2.2.2.2.1⟩ | omega), f4 c p (by first | exact ⟨q.1, q.2.2.2.1⟩ | omega), f3 c p (by first | exact ⟨q.1, q.2.2.1⟩ | omega), f2 c p (by first | exact ⟨q.1, q.2.1⟩ | omega), f1 c p (by first | exact fun z => q.1 ⟨z.1, z.2.1, Int.le_trans z.2.2 (by decide)⟩ | omega)]
    have eF : dFin D5 5 = (ud (ud D5 (51 + q0) (-1)) (6) (q0 + 1)) := by
      show ud (ud D5 (51 + D5 6) (-1)) 6 (D5 6 + 1) = _
      rw [dn5]
    rw [eF] at l5
    have e8 : m7 336 8 = m5 336 8 := by rw [f7 336 8 (by first | decide | exact fun z => absurd z.1 (by decide) | exact ⟨fun z => absurd z.1 (by decide), fun z => absurd z.1 (by decide)⟩ | omega), f6 336 8 (by first | decide | exact fun z => absurd z.1 (by decide) | exact ⟨fun z => absurd z.1 (by decide), fun z => absurd z.1 (by decide)⟩ | omega)]
    rw [← e8] at l5
    have z0 : (ud (ud D5 (51 + q0) (-1)) (6) (q0 + 1)) 0 = D 0 := ((ud_ne (by omega)).trans ((ud_ne (by omega)).trans (d05)))
    refine g_C ⟨by decide, hk m7 (ud (ud D5 (51 + q0) (-1)) (6) (q0 + 1)) hm7 ?_ r7 (by omega) (fun p q => F 336 p ⟨fun z => by omega, fun z => absurd z.1 (by decide), fun z => absurd z.1 (by decide), fun z => absurd z.1 (by decide), fun z => absurd z.1 (by decide), fun z => absurd z.1 (by decide), fun z => absurd z.1 (by decide)⟩) (by omega) (by omega) (by rw [f7 336 9 (by first | decide | exact fun z => absurd z.1 (by decide) | exact ⟨fun z => absurd z.1 (by decide), fun z => absurd z.1 (by decide)⟩ | omega), f6 336 9 (by first | decide | exact fun z => absurd z.1 (by decide) | exact ⟨fun z => absurd z.1 (by decide), fun z => absurd z.1 (by decide)⟩ | omega)]; exact y5) l5⟩
    exact hp.oth (by omega) (by omega) (fun p q => F 342 p ⟨fun z => absurd z.1 (by decide), fun z => by omega, fun z => by omega, fun z => by omega, fun z => by omega, fun z => by omega, fun z => by omega⟩)
  · refine g_C ?_
    refine ⟨hS.k336, ?_⟩
    refine zx_fails hS hm0 h9 (by decide) (by decide) (by omega) (by omega) (fun m9 hm9 f9 y9 => ?_)
    refine ⟨by decide, hf m9 hm9 (by omega) ?_⟩
    rw [y9, show 1 + 8 * u1 + 4 = 5 + 8 * u1 by omega]
    exact hF (by show D 6 = 6; omega)
end
