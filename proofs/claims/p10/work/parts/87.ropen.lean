section
/-! the reference's open row, as a stack -/
def rsk (f : Int → Int) : Nat → List Bool
  | 0 => []
  | n + 1 => if f n = 91 then true :: rsk f n else if f n = 11 then false :: rsk f n else rsk f n
def hNr (f : Int → Int) : Nat → Prop
  | 0 => False
  | n + 1 => ¬ f n = 91 ∧ (f n = 11 ∨ hNr f n)
def okr (f : Int → Int) : Nat → Prop
  | 0 => True
  | n + 1 => okr f n ∧ ((f n = 12 ∨ f n = 13) → ¬ hNr f n)
theorem rsk_same {f g : Int → Int} : ∀ n : Nat, (∀ j : Int, 0 ≤ j → j < n → f j = g j) → rsk f n = rsk g n ∧ hNr f n = hNr g n ∧ okr f n = okr g n := by
  intro n
  induction n with
  | zero => intro _; exact ⟨rfl, rfl, rfl⟩
  | succ n ih =>
    intro h
    obtain ⟨h1, h2, h3⟩ := ih (fun j a c => h j a (by omega))
    have e := h n (by omega) (by omega)
    refine ⟨?_, ?_, ?_⟩
    · simp only [rsk, e, h1]
    · simp only [hNr, e, h2]
    · simp only [okr, e, h2, h3]
theorem rsk_mem {f : Int → Int} : ∀ n : Nat, true ∈ rsk f n ↔ ∃ j : Int, 0 ≤ j ∧ j < n ∧ f j = 91 := by
  intro n
  induction n with
  | zero => exact ⟨fun h => (by cases h), fun h => (by obtain ⟨j, h1, h2, h3⟩ := h; exfalso; omega)⟩
  | succ n ih =>
    have down : ¬ f n = 91 → ((∃ j : Int, 0 ≤ j ∧ j < ((n + 1 : Nat) : Int) ∧ f j = 91) ↔ ∃ j : Int, 0 ≤ j ∧ j < n ∧ f j = 91) := by
      intro e
      refine ⟨fun h => ?_, fun h => ?_⟩
      · obtain ⟨j, h1, h2, h3⟩ := h
        by_cases ej : j = n
        · rw [ej] at h3; exact absurd h3 e
        · exact ⟨j, h1, by omega, h3⟩
      · obtain ⟨j, h1, h2, h3⟩ := h
        exact ⟨j, h1, by omega, h3⟩
    show true ∈ (if f n = 91 then true :: rsk f n else if f n = 11 then false :: rsk f n else rsk f n) ↔ _
    by_cases e : f n = 91
    · rw [if_pos e]
      exact ⟨fun _ => ⟨n, by omega, by omega, e⟩, fun _ => List.mem_cons_self⟩
    · rw [if_neg e, down e, ← ih]
      by_cases e2 : f n = 11
      · rw [if_pos e2]
        exact ⟨fun h => (by cases h; assumption), fun h => List.mem_cons_of_mem _ h⟩
      · rw [if_neg e2]
def RS (M : Mm) (s : List Bool) : Prop := rsk (M 343) (M 336 16).toNat = s ∧ M 336 13 = (s.length : Int) ∧ s.length ≤ 10 ∧ okr (M 343) (M 336 16).toNat
def Top (M : Mm) : Prop := ¬ hNr (M 343) (M 336 16).toNat
theorem RS.same {m m1 : Mm} {s : List Bool} (h : RS m s) (f : ∀ p : Int, m1 343 p = m 343 p) (o : m1 336 16 = m 336 16) (d : m1 336 13 = m 336 13) : RS m1 s := by
  have e : m1 343 = m 343 := funext f
  unfold RS
  rw [e, o, d]
  exact h
theorem Top.same {m m1 : Mm} (h : Top m) (f : ∀ p : Int, m1 343 p = m 343 p) (o : m1 336 16 = m 336 16) : Top m1 := by
  have e : m1 343 = m 343 := funext f
  unfold Top
  rw [e, o]
  exact h
theorem RS.in {m : Mm} {s : List Bool} (h : RS m s) : true ∈ s ↔ ∃ j : Int, 0 ≤ j ∧ j < m 336 16 ∧ m 343 j = 91 := by
  rw [← h.1, rsk_mem]
  refine ⟨fun z => ?_, fun z => ?_⟩
  · obtain ⟨j, h1, h2, h3⟩ := z
    exact ⟨j, h1, by omega, h3⟩
  · obtain ⟨j, h1, h2, h3⟩ := z
    exact ⟨j, h1, by omega, h3⟩
theorem RS.push {m m1 : Mm} {s : List Bool} {x : Int} (h : RS m s) (h0 : 0 ≤ m 336 16) (f : ∀ j : Int, 0 ≤ j → j < m 336 16 → m1 343 j = m 343 j) (o : m1 336 16 = m 336 16 + 1) (hx : m1 343 (m 336 16) = x) : rsk (m1 343) (m1 336 16).toNat = (if x = 91 then true :: s else if x = 11 then false :: s else s) ∧ (((x = 12 ∨ x = 13) → Top m) → okr (m1 343) (m1 336 16).toNat) := by
  obtain ⟨p1, p2, p3, p4⟩ := h
  have en : (m1 336 16).toNat = (m 336 16).toNat + 1 := by omega
  have ct : (((m 336 16).toNat : Nat) : Int) = m 336 16 := by omega
  obtain ⟨q1, q2, q3⟩ := rsk_same (f := m1 343) (g := m 343) (m 336 16).toNat (fun j j0 j1 => f j j0 (by omega))
  refine ⟨?_, fun hh => ?_⟩
  · rw [en]
    show (if m1 343 (((m 336 16).toNat : Nat) : Int) = 91 then true :: rsk (m1 343) (m 336 16).toNat else if m1 343 (((m 336 16).toNat : Nat) : Int) = 11 then false :: rsk (m1 343) (m 336 16).toNat else rsk (m1 343) (m 336 16).toNat) = _
    rw [ct, hx, q1, p1]
  · rw [en]
    refine ⟨by rw [q3]; exact p4, fun z => ?_⟩
    rw [ct, hx] at z
    rw [q2]
    exact hh z
/-- the top taken away -/
theorem RS.pop {m m1 : Mm} {s : List Bool} (h : RS m s) (h0 : 1 ≤ m 336 16) (f : ∀ p : Int, m1 343 p = m 343 p) (o : m1 336 16 = m 336 16 - 1) : s = (if m 343 (m 336 16 - 1) = 91 then true :: rsk (m1 343) (m1 336 16).toNat else if m 343 (m 336 16 - 1) = 11 then false :: rsk (m1 343) (m1 336 16).toNat else rsk (m1 343) (m1 336 16).toNat) ∧ okr (m1 343) (m1 336 16).toNat ∧ ((m 343 (m 336 16 - 1) = 12 ∨ m 343 (m 336 16 - 1) = 13) → Top m1) := by
  have e : m1 343 = m 343 := funext f
  obtain ⟨p1, p2, p3, p4⟩ := h
  have en : (m 336 16).toNat = (m1 336 16).toNat + 1 := by omega
  have ct : (((m1 336 16).toNat : Nat) : Int) = m 336 16 - 1 := by omega
  rw [en] at p1 p4
  unfold Top
  rw [e]
  refine ⟨?_, p4.1, fun z => p4.2 (by rw [ct]; exact z)⟩
  rw [← p1]
  show (if m 343 (((m1 336 16).toNat : Nat) : Int) = 91 then true :: rsk (m 343) (m1 336 16).toNat else if m 343 (((m1 336 16).toNat : Nat) : Int) = 11 then false :: rsk (m 343) (m1 336 16).toNat else rsk (m 343) (m1 336 16).toNat) = _
  rw [ct]
theorem zo_isInside {X : Mm} {S : Sh} {m : Mm} {K : Int → Mm → Prop} (hS : Shp S) (hm : Inv X S m) (k1 : ∀ j : Int, 0 ≤ j → j < m 336 16 → m 343 j = 91 → K 1 m) (k0 : (∀ j : Int, 0 ≤ j → j < m 336 16 → ¬ m 343 j = 91) → K 0 m) : wp_X12_isInside S m 336 K := by
  have b16 := hm.f_336_16
  refine u_X12_isInside ?_
  refine g_C ?_
  have L : ∀ (n : Nat) (i : Int), 0 ≤ i → i ≤ m 336 16 → (∀ j : Int, 0 ≤ j → j < i → ¬ m 343 j = 91) → 401 - i ≤ (n : Int) → wp_X12_isInside_2 S K n 336 i m := by
    intro n
    induction n with
    | zero => intro i _ _ _ h; exfalso; omega
    | succ n ih =>
      intro i i0 i1 hn h
      refine u_X12_isInside_2 ?_
      refine g_getu 16 rfl hS.k336 (fun v ev => ?_)
      refine g_if (fun w => ?_) (fun w => ?_)
      · exact g_C ⟨by decide, k0 (fun j a b => hn j a (by omega))⟩
      · refine g_getr 15 343 rfl hS.k336 hm.f_336_15 (by decide) ?_
        refine g_ldu hS.k343 hS.l343 (by omega) (by omega) (fun x ex => ?_)
        refine g_C ?_
        refine g_if (fun w2 => ?_) (fun w2 => ?_)
        · refine g_A (by omega) (by omega) ?_
          refine ih (i + 1) (by omega) (by omega) (fun j a b => ?_) (by omega)
          by_cases e : j = i
          · rw [e, ← ex]; exact w2
          · exact hn j a (by omega)
        · exact g_C ⟨by decide, k1 i i0 (by omega) (by omega)⟩
  exact ⟨401, L 401 0 (by omega) (by omega) (fun j a b => absurd b (by omega)) (by omega)⟩
/-- how many of the first n are AND or OR -/
def nbf (f : Int → Int) : Nat → Int
  | 0 => 0
  | n + 1 => nbf f n + (if f n = 12 ∨ f n = 13 then 1 else 0)
theorem nbf_nn (f : Int → Int) : ∀ n : Nat, 0 ≤ nbf f n := by
  intro n
  induction n with
  | zero => exact Int.le_refl 0
  | succ n ih =>
    show 0 ≤ nbf f n + (if f n = 12 ∨ f n = 13 then 1 else 0)
    split <;> omega
theorem nbf_same {f g : Int → Int} : ∀ n : Nat, (∀ j : Int, 0 ≤ j → j < n → f j = g j) → nbf f n = nbf g n := by
  intro n
  induction n with
  | zero => intro _; rfl
  | succ n ih =>
    intro h
    show nbf f n + (if f n = 12 ∨ f n = 13 then 1 else 0) = nbf g n + (if g n = 12 ∨ g n = 13 then 1 else 0)
    rw [ih (fun j a b => h j a (by omega)), h n (by omega) (by omega)]
def nb (M : Mm) : Int := nbf (M 343) (M 336 16).toNat
theorem nbf_top {f : Int → Int} {o : Int} (h : 0 ≤ o) : nbf f (o + 1).toNat = nbf f o.toNat + (if f o = 12 ∨ f o = 13 then 1 else 0) := by
  rw [show (o + 1).toNat = o.toNat + 1 by omega]
  show nbf f o.toNat + (if f (o.toNat : Int) = 12 ∨ f (o.toNat : Int) = 13 then 1 else 0) = _
  rw [Int.toNat_of_nonneg h]
/-- amid a test: k to spare, e: a fact stands behind the last AND, OR -/
def Ts (X M : Mm) (k b e : Int) : Prop := GX X M ∧ Qs M b (nb M + e) ∧ (0 ≤ e ∧ e ≤ 1) ∧ nb M + e ≤ M 336 12 ∧ M 339 (M 336 11) + M 336 16 + k ≤ M 336 8 ∧ ∀ j : Int, 0 ≤ j → j < M 336 16 → M 343 j = 11 ∨ M 343 j = 12 ∨ M 343 j = 13 ∨ M 343 j = 91
theorem Ts.fr {X m m1 : Mm} {k b e : Int} (h : Ts X m k b e) (f : ∀ c p : Int, ¬ (c = 336 ∧ 8 ≤ p ∧ p ≤ 13 ∧ ¬ p = 11) → m1 c p = m c p) (h8 : m 336 8 ≤ m1 336 8) (h12 : m 336 12 ≤ m1 336 12) : Ts X m1 k b e ∧ Adv m m1 := by
  obtain ⟨g, hq, he, hn, hl, ho⟩ := h
  have A : Adv m m1 ∧ True := ⟨Adv.of (fun c p q => f c p (by omega)) h8 h12, trivial⟩
  have e43 : m1 343 = m 343 := funext (fun p => f 343 p (by first | decide | exact fun z => absurd z.1 (by decide) | exact ⟨fun z => absurd z.1 (by decide), fun z => absurd z.1 (by decide)⟩ | omega))
  have e16 : m1 336 16 = m 336 16 := f 336 16 (by first | decide | exact fun z => absurd z.1 (by decide) | exact ⟨fun z => absurd z.1 (by decide), fun z => absurd z.1 (by decide)⟩ | omega)
  have en : nb m1 = nb m := by unfold nb; rw [e43, e16]
  have el : m1 339 (m1 336 11) = m 339 (m 336 11) := by rw [f 336 11 (by first | decide | exact fun z => absurd z.1 (by decide) | exact ⟨fun z => absurd z.1 (by decide), fun z => absurd z.1 (by decide)⟩ | omega), f 339 _ (by first | decide | exact fun z => absurd z.1 (by decide) | exact ⟨fun z => absurd z.1 (by decide), fun z => absurd z.1 (by decide)⟩ | omega)]
  refine ⟨⟨g.adv A.1, ?_, he, by omega, by omega, ?_⟩, A.1⟩
  · rw [en]
    exact hq.same (fun p => f 338 p (by first | decide | exact fun z => absurd z.1 (by decide) | exact ⟨fun z => absurd z.1 (by decide), fun z => absurd z.1 (by decide)⟩ | omega)) (fun p => f 339 p (by first | decide | exact fun z => absurd z.1 (by decide) | exact ⟨fun z => absurd z.1 (by decide), fun z => absurd z.1 (by decide)⟩ | omega)) (f 336 11 (by first | decide | exact fun z => absurd z.1 (by decide) | exact ⟨fun z => absurd z.1 (by decide), fun z => absurd z.1 (by decide)⟩ | omega))
  · rw [e43, e16]
    exact ho
theorem Ts.slack {X m : Mm} {k k1 b e : Int} (h : Ts X m k b e) (h1 : m 339 (m 336 11) + m 336 16 + k1 ≤ m 336 8) : Ts X m k1 b e := ⟨h.1, h.2.1, h.2.2.1, h.2.2.2.1, h1, h.2.2.2.2.2⟩
theorem Adv.rfl' (m : Mm) : Adv m m := (AdvS.rfl' m).1
def strn (x : Int) : Int := if x = 13 then 1 else if x = 12 then 2 else if x = 11 then 3 else 0
theorem zl_strength {S : Sh} {m : Mm} {K : Int → Mm → Prop} {x : Int} (h : K (strn x) m) : wp_X12_strength S m x K := by
  refine u_X12_strength ?_
  unfold strn at h
  refine g_C ?_
  refine g_if (fun w => ?_) (fun w => ?_)
  · rw [if_neg w] at h
    refine g_C ?_
    refine g_if (fun w2 => ?_) (fun w2 => ?_)
    · rw [if_neg w2] at h
      refine g_C ?_
      refine g_if (fun w3 => ?_) (fun w3 => ?_)
      · rw [if_neg w3] at h
        exact g_C h
      · rw [if_pos (by omega)] at h
        exact g_C h
    · rw [if_pos (by omega)] at h
      exact g_C h
  · rw [if_pos (by omega)] at h
    exact g_C h
theorem strn_c (x : Int) : (x = 13 ∧ strn x = 1) ∨ (x = 12 ∧ strn x = 2) ∨ (x = 11 ∧ strn x = 3) ∨ (¬ x = 11 ∧ ¬ x = 12 ∧ ¬ x = 13 ∧ strn x = 0) := by
  unfold strn
  split
  · omega
  · split
    · omega
    · split <;> omega
theorem Ts.pushop {X m m1 : Mm} {k b e s k1 e1 : Int} (h : Ts X m k b e) (h0 : 0 ≤ m 336 16) (f : ∀ c p : Int, ¬ (c = 336 ∧ (p = 13 ∨ p = 16 ∨ p = 8)) ∧ ¬ (c = 343 ∧ p = m 336 16) → m1 c p = m c p) (o : m1 336 16 = m 336 16 + 1) (x : m1 343 (m 336 16) = s) (hs : s = 11 ∨ s = 12 ∨ s = 13 ∨ s = 91) (h8 : m 336 8 ≤ m1 336 8) (hl : m 339 (m 336 11) + m 336 16 + 1 + k1 ≤ m1 336 8) (he : e = e1 + (if s = 12 ∨ s = 13 then 1 else 0)) (he1 : 0 ≤ e1) : Ts X m1 k1 b e1 ∧ Adv m m1 := by
  obtain ⟨g, hq, he0, hn, hl0, ho⟩ := h
  have A : Adv m m1 := ⟨fun c p q => f c p (by omega), f 336 11 (by first | decide | exact fun z => absurd z.1 (by decide) | exact ⟨fun z => absurd z.1 (by decide), fun z => absurd z.1 (by decide)⟩ | omega), fun j _ => f 338 j (by first | decide | exact fun z => absurd z.1 (by decide) | exact ⟨fun z => absurd z.1 (by decide), fun z => absurd z.1 (by decide)⟩ | omega), by rw [f 339 _ (by first | decide | exact fun z => absurd z.1 (by decide) | exact ⟨fun z => absurd z.1 (by decide), fun z => absurd z.1 (by decide)⟩ | omega)]; omega, h8, by rw [f 336 12 (by first | decide | exact fun z => absurd z.1 (by decide) | exact ⟨fun z => absurd z.1 (by decide), fun z => absurd z.1 (by decide)⟩ | omega)]; omega, f 336 14 (by first | decide | exact fun z => absurd z.1 (by decide) | exact ⟨fun z => absurd z.1 (by decide), fun z => absurd z.1 (by decide)⟩ | omega)⟩
  have el : m1 339 (m1 336 11) = m 339 (m 336 11) := by rw [f 336 11 (by first | decide | exact fun z => absurd z.1 (by decide) | exact ⟨fun z => absurd z.1 (by decide), fun z => absurd z.1 (by decide)⟩ | omega), f 339 _ (by first | decide | exact fun z => absurd z.1 (by decide) | exact ⟨fun z => absurd z.1 (by decide), fun z => absurd z.1 (by decide)⟩ | omega)]
  have en : nb m1 = nb m + (if s = 12 ∨ s = 13 then 1 else 0) := by
    unfold nb
    rw [o, nbf_top h0, x, nbf_same (f := m1 343) (g := m 343) _ (fun j j0 j1 => f 343 j (by first | decide | exact fun z => absurd z.1 (by decide) | exact ⟨fun z => absurd z.1 (by decide), fun z => absurd z.1 (by decide)⟩ | omega))]
  have e12 : m1 336 12 = m 336 12 := f 336 12 (by first | decide | exact fun z => absurd z.1 (by decide) | exact ⟨fun z => absurd z.1 (by decide), fun z => absurd z.1 (by decide)⟩ | omega)
  refine ⟨⟨g.adv A, ?_, ?_, ?_, by omega, fun j j0 j1 => ?_⟩, A⟩
  · rw [show nb m1 + e1 = nb m + e by rw [en, he]; omega]
    exact hq.same (fun p => f 338 p (by first | decide | exact fun z => absurd z.1 (by decide) | exact ⟨fun z => absurd z.1 (by decide), fun z => absurd z.1 (by decide)⟩ | omega)) (fun p => f 339 p (by first | decide | exact fun z => absurd z.1 (by decide) | exact ⟨fun z => absurd z.1 (by decide), fun z => absurd z.1 (by decide)⟩ | omega)) (f 336 11 (by first | decide | exact fun z => absurd z.1 (by decide) | exact ⟨fun z => absurd z.1 (by decide), fun z => absurd z.1 (by decide)⟩ | omega))
  · refine ⟨he1, ?_⟩
    revert he
    split <;> omega
  · rw [show nb m1 + e1 = nb m + e by rw [en, he]; omega]
    omega
  · by_cases ej : j = m 336 16
    · rw [ej, x]
      exact hs
    · rw [f 343 j (by first | decide | exact fun z => absurd z.1 (by decide) | exact ⟨fun z => absurd z.1 (by decide), fun z => absurd z.1 (by decide)⟩ | omega)]
      exact ho j j0 (by omega)
end
section
theorem pw6 : (1953854062 : Int) = pw 6 := by decide +kernel
theorem pw13 : (26982 : Int) = pw 13 := by decide +kernel
theorem pw14 : (7237492 : Int) = pw 14 := by decide +kernel
theorem pw15 : (6385252 : Int) = pw 15 := by decide +kernel
theorem pw16 : (28530 : Int) = pw 16 := by decide +kernel
theorem tl_s : tl 6 = 4 ∧ tl 13 = 2 ∧ tl 14 = 3 ∧ tl 15 = 3 ∧ tl 16 = 2 := by decide +kernel
theorem tw_s : tw 6 0 = 116 ∧ tw 13 0 = 105 ∧ tw 14 0 = 110 ∧ tw 15 0 = 97 ∧ tw 16 0 = 111 := by decide +kernel
/-- behind a fact, its closing brackets read -/
def Tl (b : Int → Int) (n : Int) (T : Int → Prop) (M : Mm) (mo : Int) (s : List Bool) (k : Int) : Prop := Lr b n T M mo s k ∧ RS M (dropN s) ∧ Top M ∧ (mo = 6 ∨ mo = 7) ∧ (mo = 6 → Nar b n M) ∧ Sk b n (M 336 8) (M 336 8) ∧ ¬ (M 336 8 < n ∧ b (M 336 8) = 93 ∧ true ∈ s)
theorem Tl.same {b : Int → Int} {n mo k : Int} {T : Int → Prop} {M M1 : Mm} {s : List Bool} (h : Tl b n T M mo s k) (e8 : M1 336 8 = M 336 8) (f : ∀ c p : Int, ¬ (c = 336 ∧ p = 8) → M1 c p = M c p) : Tl b n T M1 mo s k := by
  obtain ⟨h1, h2, h3, h4, h5, h6, h7⟩ := h
  refine ⟨h1.eq e8 (f 336 12 (by first | decide | exact fun z => absurd z.1 (by decide) | exact ⟨fun z => absurd z.1 (by decide), fun z => absurd z.1 (by decide)⟩ | omega)) (f 336 9 (by first | decide | exact fun z => absurd z.1 (by decide) | exact ⟨fun z => absurd z.1 (by decide), fun z => absurd z.1 (by decide)⟩ | omega)), h2.same (fun p => f 343 p (by first | decide | exact fun z => absurd z.1 (by decide) | exact ⟨fun z => absurd z.1 (by decide), fun z => absurd z.1 (by decide)⟩ | omega)) (f 336 16 (by first | decide | exact fun z => absurd z.1 (by decide) | exact ⟨fun z => absurd z.1 (by decide), fun z => absurd z.1 (by decide)⟩ | omega)) (f 336 13 (by first | decide | exact fun z => absurd z.1 (by decide) | exact ⟨fun z => absurd z.1 (by decide), fun z => absurd z.1 (by decide)⟩ | omega)), h3.same (fun p => f 343 p (by first | decide | exact fun z => absurd z.1 (by decide) | exact ⟨fun z => absurd z.1 (by decide), fun z => absurd z.1 (by decide)⟩ | omega)) (f 336 16 (by first | decide | exact fun z => absurd z.1 (by decide) | exact ⟨fun z => absurd z.1 (by decide), fun z => absurd z.1 (by decide)⟩ | omega)), h4, fun z q hq => h5 z q ?_, ?_, ?_⟩
  · rw [e8] at hq; exact hq
  · rw [e8]; exact h6
  · rw [e8]; exact h7
end
section
/-- clause c of row t is good, within the first l signs -/
def Cl (M : Mm) (t c l : Int) : Prop := (0 ≤ M 340 (48 * t + 4 * c) ∧ M 340 (48 * t + 4 * c) ≤ M 340 (48 * t + 4 * c + 1) ∧ M 340 (48 * t + 4 * c + 1) ≤ l ∧ pth M t (M 340 (48 * t + 4 * c + 1) - M 340 (48 * t + 4 * c)).toNat (M 340 (48 * t + 4 * c)) 0 1) ∧ (M 340 (48 * t + 4 * c + 2) < 0 ∨ (0 ≤ M 340 (48 * t + 4 * c + 2) ∧ M 340 (48 * t + 4 * c + 2) ≤ M 340 (48 * t + 4 * c + 3) ∧ M 340 (48 * t + 4 * c + 3) ≤ l ∧ pth M t (M 340 (48 * t + 4 * c + 3) - M 340 (48 * t + 4 * c + 2)).toNat (M 340 (48 * t + 4 * c + 2)) 0 1))
theorem Cl.same {M M1 : Mm} {t c l l1 : Int} (h : Cl M t c l) (a0 : M1 340 (48 * t + 4 * c) = M 340 (48 * t + 4 * c)) (a1 : M1 340 (48 * t + 4 * c + 1) = M 340 (48 * t + 4 * c + 1)) (a2 : M1 340 (48 * t + 4 * c + 2) = M 340 (48 * t + 4 * c + 2)) (a3 : M1 340 (48 * t + 4 * c + 3) = M 340 (48 * t + 4 * c + 3)) (hs : ∀ j : Int, j < 400 * t + l → M1 338 j = M 338 j) (hl : l ≤ l1) : Cl M1 t c l1 := by
  unfold Cl at h ⊢
  rw [a0, a1, a2, a3]
  obtain ⟨⟨h1, h2, h3, h4⟩, h5⟩ := h
  refine ⟨⟨h1, h2, by omega, pth_same _ _ _ _ (fun j _ _ => hs _ (by omega)) h4⟩, ?_⟩
  rcases h5 with h5 | ⟨h5, h6, h7, h8⟩
  · exact Or.inl h5
  · exact Or.inr ⟨h5, h6, by omega, pth_same _ _ _ _ (fun j _ _ => hs _ (by omega)) h8⟩
theorem pfr_of {M : Mm} {t a b : Int} (h1 : 0 ≤ a) (h2 : a ≤ b) (h3 : b ≤ 400) (h4 : pth M t (b - a).toNat a 0 1) : pfr M t a b := by
  refine ⟨h1, ?_, h3, pfx_of _ _ _ h4⟩
  by_cases e : a = b
  · rw [e, show (b - b).toNat = 0 by omega] at h4
    exact absurd (show (0 : Int) = 1 from h4) (by decide)
  · omega
theorem Cl.ok {M : Mm} {t c l : Int} (h : Cl M t c l) (hl : l ≤ 400) : pfr M t (M 340 (48 * t + 4 * c)) (M 340 (48 * t + 4 * c + 1)) ∧ (M 340 (48 * t + 4 * c + 2) < 0 ∨ pfr M t (M 340 (48 * t + 4 * c + 2)) (M 340 (48 * t + 4 * c + 3))) := by
  obtain ⟨⟨h1, h2, h3, h4⟩, h5⟩ := h
  refine ⟨pfr_of h1 h2 (by omega) h4, ?_⟩
  rcases h5 with h5 | ⟨h5, h6, h7, h8⟩
  · exact Or.inl h5
  · exact Or.inr (pfr_of h5 h6 (by omega) h8)
/-- a rule's row, so far (d: how many more lines than clauses) -/
def Rl (X M : Mm) (d : Int) : Prop := GX X M ∧ M 339 (X 336 2) ≤ M 336 8 ∧ M 341 (X 336 2) + d = M 336 14 ∧ (0 ≤ M 341 (X 336 2) ∧ M 336 14 ≤ 12) ∧ ∀ c : Int, 0 ≤ c → c < M 341 (X 336 2) → Cl M (X 336 2) c (M 339 (X 336 2))
theorem Rl.fr {X m m1 : Mm} {d : Int} (h : Rl X m d) (f : ∀ c p : Int, ¬ (c = 336 ∧ ¬ p = 11 ∧ ¬ p = 14) → m1 c p = m c p) (h8 : m 336 8 ≤ m1 336 8) : Rl X m1 d := by
  obtain ⟨g, a, b, c, e⟩ := h
  refine ⟨⟨(f 336 11 (by first | decide | exact fun z => absurd z.1 (by decide) | exact ⟨fun z => absurd z.1 (by decide), fun z => absurd z.1 (by decide)⟩ | omega)).trans g.1, g.2⟩, ?_, ?_, ?_, fun i i0 i1 => ?_⟩
  · rw [f 339 _ (by first | decide | exact fun z => absurd z.1 (by decide) | exact ⟨fun z => absurd z.1 (by decide), fun z => absurd z.1 (by decide)⟩ | omega)]; omega
  · rw [f 341 _ (by first | decide | exact fun z => absurd z.1 (by decide) | exact ⟨fun z => absurd z.1 (by decide), fun z => absurd z.1 (by decide)⟩ | omega), f 336 14 (by first | decide | exact fun z => absurd z.1 (by decide) | exact ⟨fun z => absurd z.1 (by decide), fun z => absurd z.1 (by decide)⟩ | omega)]; exact b
  · rw [f 341 _ (by first | decide | exact fun z => absurd z.1 (by decide) | exact ⟨fun z => absurd z.1 (by decide), fun z => absurd z.1 (by decide)⟩ | omega), f 336 14 (by first | decide | exact fun z => absurd z.1 (by decide) | exact ⟨fun z => absurd z.1 (by decide), fun z => absurd z.1 (by decide)⟩ | omega)]; exact c
  · rw [f 341 _ (by first | decide | exact fun z => absurd z.1 (by decide) | exact ⟨fun z => absurd z.1 (by decide), fun z => absurd z.1 (by decide)⟩ | omega)] at i1
    exact (e i i0 i1).same (f 340 _ (by first | decide | exact fun z => absurd z.1 (by decide) | exact ⟨fun z => absurd z.1 (by decide), fun z => absurd z.1 (by decide)⟩ | omega)) (f 340 _ (by first | decide | exact fun z => absurd z.1 (by decide) | exact ⟨fun z => absurd z.1 (by decide), fun z => absurd z.1 (by decide)⟩ | omega)) (f 340 _ (by first | decide | exact fun z => absurd z.1 (by decide) | exact ⟨fun z => absurd z.1 (by decide), fun z => absurd z.1 (by decide)⟩ | omega)) (f 340 _ (by first | decide | exact fun z => absurd z.1 (by decide) | exact ⟨fun z => absurd z.1 (by decide), fun z => absurd z.1 (by decide)⟩ | omega)) (fun j _ => f 338 j (by first | decide | exact fun z => absurd z.1 (by decide) | exact ⟨fun z => absurd z.1 (by decide), fun z => absurd z.1 (by decide)⟩ | omega)) (by rw [f 339 _ (by first | decide | exact fun z => absurd z.1 (by decide) | exact ⟨fun z => absurd z.1 (by decide), fun z => absurd z.1 (by decide)⟩ | omega)]; omega)
theorem zx_takesWord {X : Mm} {S : Sh} {m0 : Mm} {K : Int → Mm → Prop} {b : Int → Int} {n u : Int} (k : Nat) (hS : Shp S) (hm0 : Inv X S m0) (ht : TR X b n) (hp : m0 336 8 ≤ n) (hk17 : k < 17) (hu : u = pw k) (hk : ∀ (r q : Int) (M1 : Mm), Inv X S M1 → (∀ c p : Int, ¬ (c = 336 ∧ 8 ≤ p ∧ p ≤ 8) → M1 c p = m0 c p) → Sk b n (m0 336 8) q → q ≤ n → ((r = 0 ∧ M1 336 8 = q ∧ ¬ Wk b n k q) ∨ (r = 1 ∧ M1 336 8 = q + tl k ∧ Wk b n k q ∧ q + tl k ≤ n)) → K r M1) : wp_X12_takesWord S m0 336 u K := by
  have b8 := hm0.f_336_8
  refine u_X12_takesWord ?_
  refine ⟨hS.k336, ?_⟩
  refine zx_isWord k hS hm0 ht hp hk17 hu (fun q m1 hm1 f1 sk e1 qn wk => ?_) (fun q m1 hm1 f1 sk e1 qn wk => ?_)
  · refine g_ifT (by decide) ?_
    refine ⟨hS.k336, ?_⟩
    refine zx_passWord k hS hm1 ht e1 (by have := sk.1; omega) hk17 wk (fun m2 hm2 f2 e2 rn => ?_)
    exact g_C ⟨by decide, hk 1 q m2 hm2 (fun c p z => (f2 c p z).trans (f1 c p z)) sk qn (Or.inr ⟨rfl, e2, wk, rn⟩)⟩
  · exact g_ifF (by decide) (g_C ⟨by decide, hk 0 q m1 hm1 f1 sk qn (Or.inl ⟨rfl, e1, wk⟩)⟩)
end
section
theorem pfx_same {X Y : Mm} {t : Int} : ∀ (n : Nat) (i d : Int), (∀ j : Int, i ≤ j → j < i + n → Y 338 (400 * t + j) = X 338 (400 * t + j)) → pfx X t n i d → pfx Y t n i d := by
  intro n
  induction n with
  | zero => intro i d _ h; exact h
  | succ n ih =>
    intro i d hs h
    have e := hs i (by omega) (by omega)
    have k := fun d' => ih (i + 1) d' (fun j a b => hs j (by omega) (by omega))
    unfold pfx at h ⊢
    rw [e]
    rcases h with h | h | h | h
    · exact Or.inl ⟨h.1, h.2.1, k _ h.2.2⟩
    · exact Or.inr (Or.inl ⟨h.1, h.2.1, h.2.2.1, h.2.2.2.1, k _ h.2.2.2.2⟩)
    · exact Or.inr (Or.inr (Or.inl ⟨h.1, h.2.1, k _ h.2.2⟩))
    · exact Or.inr (Or.inr (Or.inr ⟨h.1, h.2.1, h.2.2.1, h.2.2.2.1, k _ h.2.2.2.2⟩))
theorem pfr_same {X Y : Mm} {t a b : Int} (h : pfr X t a b) (hs : ∀ p : Int, 400 * t ≤ p → p < 400 * t + 400 → Y 338 p = X 338 p) : pfr Y t a b := ⟨h.1, h.2.1, h.2.2.1, pfx_same _ _ _ (fun j j0 j1 => hs _ (by have := h.1; omega) (by have := h.1; have := h.2.1; have := h.2.2.1; omega)) h.2.2.2⟩
theorem rulOK_same {X Y : Mm} {t : Int} (h : rulOK X t) (h1 : Y 341 t = X 341 t) (h2 : ∀ p : Int, 48 * t ≤ p → p < 48 * t + 48 → Y 340 p = X 340 p) (h3 : ∀ p : Int, 400 * t ≤ p → p < 400 * t + 400 → Y 338 p = X 338 p) : rulOK Y t := by
  obtain ⟨a, b⟩ := h
  unfold rulOK
  rw [h1]
  refine ⟨a, fun c c0 c1 => ?_⟩
  obtain ⟨q1, q2⟩ := b c c0 c1
  rw [h2 (48 * t + 4 * c) (by omega) (by omega), h2 (48 * t + 4 * c + 1) (by omega) (by omega), h2 (48 * t + 4 * c + 2) (by omega) (by omega), h2 (48 * t + 4 * c + 3) (by omega) (by omega)]
  refine ⟨pfr_same q1 h3, ?_⟩
  rcases q2 with q2 | q2
  · exact Or.inl q2
  · exact Or.inr (pfr_same q2 h3)
theorem Good.same {X Y : Mm} (h : Good X) (h1 : Y 336 21 = X 336 21) (h2 : Y 336 2 = X 336 2) (h3 : ∀ c k : Int, (c = 355 ∨ c = 357) → Y c k = X c k) (h4 : ∀ p : Int, p < X 336 2 → Y 341 p = X 341 p) (h5 : ∀ p : Int, p < 48 * X 336 2 → Y 340 p = X 340 p) (h6 : ∀ p : Int, p < 400 * X 336 2 → Y 338 p = X 338 p) : Good Y := by
  obtain ⟨a, b, c, d⟩ := h
  unfold Good
  rw [h1, h2]
  refine ⟨a, fun k k0 k1 => by rw [h3 355 k (by first | decide | exact fun z => absurd z.1 (by decide) | exact ⟨fun z => absurd z.1 (by decide), fun z => absurd z.1 (by decide)⟩ | omega), h3 357 k (by first | decide | exact fun z => absurd z.1 (by decide) | exact ⟨fun z => absurd z.1 (by decide), fun z => absurd z.1 (by decide)⟩ | omega)]; exact b k k0 k1, c, fun t t0 t1 => ?_⟩
  exact rulOK_same (d t t0 t1) (h4 t t1) (fun p _ p1 => h5 p (by omega)) (fun p _ p1 => h6 p (by omega))
/-- places that are: said, what was said, images -/
def PL3 (M : Mm) : Prop := PlOK (M 346) (M 346 0) (M 346 4) (M 346 5) ∧ (∀ r : Int, 0 ≤ r → r < M 336 25 → PlOK (fun p => M 347 (57 * r + p)) (M 347 (57 * r)) (M 347 (57 * r + 4)) (M 347 (57 * r + 5))) ∧ (∀ k : Int, 0 ≤ k → k < 4 → PlOK (fun p => M 354 (158 * k + p)) (M 354 (158 * k)) (M 354 (158 * k + 4)) (M 354 (158 * k + 5)))
def Jc (S : Sh) (M : Mm) : Prop := (∀ c p : Nat, c < 358 → p < pT.getD c 0 → okb (bd c p) (M c p)) ∧ (∀ i : Int, 0 ≤ i → i < 6 → rowv S (M 30 i)) ∧ rowv S (M 55 1) ∧ Good M ∧ PL3 M
/-- the seeds of both sides are alike -/
def Xr (M : Mm) : Prop := M 3 3 = M 336 22 ∧ (M 76 3 = M 356 0 ∧ M 76 9 = M 357 0) ∧ (M 101 3 = M 356 1 ∧ M 101 9 = M 357 1) ∧ (M 126 3 = M 356 2 ∧ M 126 9 = M 357 2) ∧ (M 151 3 = M 356 3 ∧ M 151 9 = M 357 3)
abbrev sf (M : Mm) : Mm := up M (-1) 0 0
theorem sf_e (M : Mm) {c p : Int} (h : ¬ c = -1) : sf M c p = M c p := up_ne (fun z => h z.1)
theorem Jc.inv {S : Sh} {M : Mm} (h : Jc S M) : Inv (sf M) S M := by
  obtain ⟨h1, h2, h3, h4, h5⟩ := h
  refine ⟨h1, fun c p hs => (sf_e M (by omega)).symm, h2, h3, h4.same (sf_e M (by decide)) (sf_e M (by decide)) (fun c k q => sf_e M (by omega)) (fun p _ => sf_e M (by decide)) (fun p _ => sf_e M (by decide)) (fun p _ => sf_e M (by decide)), fun hx => ?_, ?_⟩
  · have z : sf M (-1) 0 = 0 := up_at _ _ _ _
    rw [z] at hx
    exact absurd hx (by decide)
  · unfold PLi
    rw [sf_e M (c := 346) (p := 0) (by decide), sf_e M (c := 346) (p := 4) (by decide), sf_e M (c := 346) (p := 5) (by decide)]
    refine ⟨h5.1, fun hx => ?_, h5.2⟩
    have z : sf M (-1) 0 = 0 := up_at _ _ _ _
    rw [z] at hx
    exact absurd hx (by decide)
theorem Jc.of {X : Mm} {S : Sh} {M : Mm} (h : Inv X S M) : Jc S M := by
  refine ⟨h.1, h.2.2.1, h.row55, ?_, ?_⟩
  · exact h.good.same (h.g (by decide)) (h.g (by decide)) (fun c k q => h.g (by omega)) (fun p q => h.2.1 _ _ (Or.inr (Or.inr (Or.inr ⟨rfl, q⟩)))) (fun p q => h.2.1 _ _ (Or.inr (Or.inr (Or.inl ⟨rfl, q⟩)))) (fun p q => h.2.1 _ _ (Or.inr (Or.inl ⟨rfl, q⟩)))
  · have q := h.pl
    unfold PLi at q
    rw [← h.g (c := 346) (p := 0) (by decide), ← h.g (c := 346) (p := 4) (by decide), ← h.g (c := 346) (p := 5) (by decide)] at q
    exact ⟨q.1, q.2.2⟩
theorem Xr.same {M M1 : Mm} (h : Xr M) (hs : ∀ c p : Int, spP c p → M1 c p = M c p) : Xr M1 := by
  unfold Xr at h ⊢
  rw [hs 3 3 (by decide), hs 336 22 (by decide), hs 76 3 (by decide), hs 356 0 (by decide), hs 76 9 (by decide), hs 357 0 (by decide), hs 101 3 (by decide), hs 356 1 (by decide), hs 101 9 (by decide), hs 357 1 (by decide), hs 126 3 (by decide), hs 356 2 (by decide), hs 126 9 (by decide), hs 357 2 (by decide), hs 151 3 (by decide), hs 356 3 (by decide), hs 151 9 (by decide), hs 357 3 (by decide)]
  exact h
/-- the tapes, the numbers of rules, the forces of both sides are alike -/
def Ya (M : Mm) : Prop := (M 1 1 = M 336 1 ∧ (∀ p : Int, 0 ≤ p → p < 400 → M 2 p = M 337 p) ∧ M 0 7 = M 336 2) ∧ M 3 2 = M 336 21 ∧ (M 357 0 = 0 ∨ M 76 2 = M 355 0) ∧ (M 357 1 = 0 ∨ M 101 2 = M 355 1) ∧ (M 357 2 = 0 ∨ M 126 2 = M 355 2) ∧ (M 357 3 = 0 ∨ M 151 2 = M 355 3)
theorem Ya.same {M M1 : Mm} (h : Ya M) (hs : ∀ c p : Int, spP c p → M1 c p = M c p) : Ya M1 := by
  obtain ⟨⟨a1, a2, a3⟩, a4, a5⟩ := h
  unfold Ya
  rw [hs 1 1 (by decide), hs 336 1 (by decide), hs 0 7 (by decide), hs 336 2 (by decide), hs 3 2 (by decide), hs 336 21 (by decide), hs 76 2 (by decide), hs 355 0 (by decide), hs 357 0 (by decide), hs 101 2 (by decide), hs 355 1 (by decide), hs 357 1 (by decide), hs 126 2 (by decide), hs 355 2 (by decide), hs 357 2 (by decide), hs 151 2 (by decide), hs 355 3 (by decide), hs 357 3 (by decide)]
  exact ⟨⟨a1, fun p p0 p1 => by rw [hs 2 p (by first | decide | exact fun z => absurd z.1 (by decide) | exact ⟨fun z => absurd z.1 (by decide), fun z => absurd z.1 (by decide)⟩ | omega), hs 337 p (by first | decide | exact fun z => absurd z.1 (by decide) | exact ⟨fun z => absurd z.1 (by decide), fun z => absurd z.1 (by decide)⟩ | omega)]; exact a2 p p0 p1, a3⟩, a4, a5⟩
def JX (S : Sh) (M : Mm) : Prop := Jc S M ∧ Xr M ∧ Ya M
theorem JX.inv {S : Sh} {M : Mm} (h : JX S M) : Inv (sf M) S M := h.1.inv
theorem JX.of {S : Sh} {M M1 : Mm} (h : JX S M) (h1 : Inv (sf M) S M1) : JX S M1 := ⟨Jc.of h1, h.2.1.same (fun c p q => (h1.g q).trans (sf_e M (by omega))), h.2.2.same (fun c p q => (h1.g q).trans (sf_e M (by omega)))⟩
theorem Jc.put {S : Sh} {M : Mm} {c p v : Int} (h : Jc S M) (hb : ∀ c' p' : Nat, (c' : Int) = c → (p' : Int) = p → okb (bd c' p') v) (hn : ¬ c = 30 ∧ ¬ (c = 55 ∧ p = 1) ∧ ¬ (c = 336 ∧ (p = 21 ∨ p = 2 ∨ p = 25)) ∧ ¬ c = 355 ∧ ¬ c = 357 ∧ ¬ c = 341 ∧ ¬ c = 340 ∧ ¬ c = 338 ∧ ¬ c = 346 ∧ ¬ c = 347 ∧ ¬ c = 354) : Jc S (up M c p v) := by
  have F : ∀ c' p' : Int, ¬ (c' = c ∧ p' = p) → up M c p v c' p' = M c' p' := fun c' p' q => up_ne q
  obtain ⟨k1, k2, k3, k4, k5⟩ := h
  refine ⟨fun c' p' hc hp => ?_, fun i i0 i1 => ?_, ?_, ?_, ?_⟩
  · by_cases e : (c' : Int) = c ∧ (p' : Int) = p
    · rw [e.1, e.2, up_at]
      exact hb c' p' e.1 e.2
    · rw [F _ _ e]
      exact k1 c' p' hc hp
  · rw [F 30 i (by first | decide | exact fun z => absurd z.1 (by decide) | exact ⟨fun z => absurd z.1 (by decide), fun z => absurd z.1 (by decide)⟩ | omega)]; exact k2 i i0 i1
  · rw [F 55 1 (by first | decide | exact fun z => absurd z.1 (by decide) | exact ⟨fun z => absurd z.1 (by decide), fun z => absurd z.1 (by decide)⟩ | omega)]; exact k3
  · exact k4.same (F 336 21 (by first | decide | exact fun z => absurd z.1 (by decide) | exact ⟨fun z => absurd z.1 (by decide), fun z => absurd z.1 (by decide)⟩ | omega)) (F 336 2 (by first | decide | exact fun z => absurd z.1 (by decide) | exact ⟨fun z => absurd z.1 (by decide), fun z => absurd z.1 (by decide)⟩ | omega)) (fun c' k q => F c' k (by omega)) (fun p' _ => F 341 p' (by first | decide | exact fun z => absurd z.1 (by decide) | exact ⟨fun z => absurd z.1 (by decide), fun z => absurd z.1 (by decide)⟩ | omega)) (fun p' _ => F 340 p' (by first | decide | exact fun z => absurd z.1 (by decide) | exact ⟨fun z => absurd z.1 (by decide), fun z => absurd z.1 (by decide)⟩ | omega)) (fun p' _ => F 338 p' (by first | decide | exact fun z => absurd z.1 (by decide) | exact ⟨fun z => absurd z.1 (by decide), fun z => absurd z.1 (by decide)⟩ | omega))
  · unfold PL3 at k5 ⊢
    have e6 : up M c p v 346 = M 346 := funext (fun p' => F 346 p' (by first | decide | exact fun z => absurd z.1 (by decide) | exact ⟨fun z => absurd z.1 (by decide), fun z => absurd z.1 (by decide)⟩ | omega))
    have e7 : up M c p v 347 = M 347 := funext (fun p' => F 347 p' (by first | decide | exact fun z => absurd z.1 (by decide) | exact ⟨fun z => absurd z.1 (by decide), fun z => absurd z.1 (by decide)⟩ | omega))
    have e8 : up M c p v 354 = M 354 := funext (fun p' => F 354 p' (by first | decide | exact fun z => absurd z.1 (by decide) | exact ⟨fun z => absurd z.1 (by decide), fun z => absurd z.1 (by decide)⟩ | omega))
    rw [e6, e7, e8, F 336 25 (by first | decide | exact fun z => absurd z.1 (by decide) | exact ⟨fun z => absurd z.1 (by decide), fun z => absurd z.1 (by decide)⟩ | omega)]
    exact k5
theorem Jc.len12 {S : Sh} {M : Mm} {v : Int} (h : Jc S M) (h0 : 0 ≤ v) (h1 : v ≤ 400) : Jc S (up M 336 1 v) := by
  refine h.put (fun c p e1 e2 => ?_) (by decide)
  have e1 : c = 336 := by omega
  have e2 : p = 1 := by omega
  subst e1 e2
  exact okb_of (l := 0) (u := 400) (by decide +kernel) h0 h1
end
section
theorem Shp.new {S : Sh} (h : Shp S) (ci n : Nat) : Shp (newS S ci n) := by
  refine ⟨by show 358 ≤ S.1 + 1; have := h.1; omega, fun a ha => ?_⟩
  have h1 := h.1
  have e : ¬ (a : Int) = (S.1 : Int) := by omega
  show (if (a : Int) = (S.1 : Int) then ci else S.2.1 a) = _ ∧ (if (a : Int) = (S.1 : Int) then n else S.2.2 a) = _
  rw [if_neg e, if_neg e]
  exact h.2 a ha
theorem rowv.new {S : Sh} {v : Int} (h : rowv S v) (ci n : Nat) : rowv (newS S ci n) v := by
  rcases h with h | ⟨h1, h2, h3⟩
  · exact Or.inl h
  · obtain ⟨q0, q1, q2⟩ := h1
    have e : ¬ v = (S.1 : Int) := by omega
    refine Or.inr ⟨⟨q0, by show v.toNat < S.1 + 1; omega, ?_⟩, ?_, h3⟩
    · show (if v = (S.1 : Int) then ci else S.2.1 v) = 14
      rw [if_neg e]; exact q2
    · show (if v = (S.1 : Int) then n else S.2.2 v) ≤ 399
      rw [if_neg e]; exact h2
end
section
theorem g_i2be {a : Int} {K : Int → Prop} (h : ∀ v : Int, v = i2b a → K v) : wO1 i2b a K := h _ rfl
theorem g_stbR {S : Sh} {M : Mm} {x : Int} {ci n : Nat} {i v : Int} {K : Mm → Prop} (hk : isK S x ci) (hn : S.2.2 x = n) (h0 : 0 ≤ i) (h1 : i < n) (hz : -128 ≤ v ∧ v ≤ 127) (h : ∀ M' : Mm, M' = up M x i v → K M') : wStB S M x ci i v K := ⟨hk, ⟨h0, by rw [hn]; exact h1⟩, hz, h _ rfl⟩
theorem Jc.byte {S : Sh} {M : Mm} {c i v : Int} (h : Jc S M) (hc : c = 337 ∨ c = 2) (v0 : -128 ≤ v) (v1 : v ≤ 127) : Jc S (up M c i v) := by
  refine h.put (fun c' p' e1 e2 => ?_) (by omega)
  rcases hc with e | e
  · have e3 : c' = 337 := by omega
    rw [e3, bd_u (b := (-128, 127)) (by decide +kernel)]
    exact Or.inr ⟨v0, v1⟩
  · have e3 : c' = 2 := by omega
    rw [e3, bd_u (b := (-128, 127)) (by decide +kernel)]
    exact Or.inr ⟨v0, v1⟩
theorem Jc.len11 {S : Sh} {M : Mm} {v : Int} (h : Jc S M) (h0 : 0 ≤ v) (h1 : v ≤ 400) : Jc S (up M 1 1 v) := by
  refine h.put (fun c p e1 e2 => ?_) (by decide)
  have e1 : c = 1 := by omega
  have e2 : p = 1 := by omega
  subst e1 e2
  exact okb_of (l := 0) (u := 400) (by decide +kernel) h0 h1
theorem zk_four {S : Sh} {m0 : Mm} {K : Mm → Prop} {u l : Int} (hS : Shp S) (hj : Jc S m0) (hl : m0 336 1 = l) (l0 : 0 ≤ l) (l1 : l + 4 ≤ 400) (hk : ∀ M1 : Mm, Jc S M1 → (∀ c p : Int, ¬ (c = 336 ∧ p = 1) → ¬ (c = 337 ∧ l ≤ p ∧ p < l + 4) → M1 c p = m0 c p) → M1 336 1 = l + 4 → (∀ j : Int, 0 ≤ j → j < 4 → M1 337 (l + j) = i2b (iShr u (24 - 8 * j))) → K M1) : wp_X12_four S m0 336 u K := by
  refine u_X12_four ?_
  refine g_C ?_
  have L : ∀ (n : Nat) (j s : Int) (m : Mm), Jc S m → 0 ≤ j → j ≤ 4 → s = 24 - 8 * j → m 336 1 = l + j → (∀ c p : Int, ¬ (c = 336 ∧ p = 1) → ¬ (c = 337 ∧ l ≤ p ∧ p < l + 4) → m c p = m0 c p) → (∀ i : Int, 0 ≤ i → i < j → m 337 (l + i) = i2b (iShr u (24 - 8 * i))) → 5 - j ≤ (n : Int) → wp_X12_four_3 S K n 336 u s m := by
    intro n
    induction n with
    | zero => intro j s m _ _ _ _ _ _ _ h; exfalso; omega
    | succ n ih =>
      intro j s m jm j0 j4 es e1 F B h
      have hm := jm.inv
      refine u_X12_four_3 ?_
      refine g_if (fun w => hk m jm F (by omega) (fun i i0 i1 => B i i0 (by omega))) (fun w => ?_)
      refine g_getr 0 337 rfl hS.k336 hm.f_336_0 (by decide) ?_
      refine g_getu 1 rfl hS.k336 (fun v ev => ?_)
      refine g_Oe (fun x ex => ?_)
      refine g_i2be (fun y ey => ?_)
      have yr : -128 ≤ y ∧ y ≤ 127 := by rw [ey]; exact i2b_r _
      refine g_stbR hS.k337 hS.l337 (by omega) (by omega) yr (fun m1 e1' => ?_)
      have f1 : ∀ c p : Int, ¬ (c = 337 ∧ p = v) → m1 c p = m c p := fun c p q => (congrFun (congrFun e1' _) _).trans (up_ne q)
      have x1 : m1 337 v = y := (congrFun (congrFun e1' _) _).trans (up_at _ _ _ _)
      have j1 : Jc S m1 := by rw [e1']; exact jm.byte (by decide) yr.1 yr.2
      refine g_getu 1 rfl hS.k336 (fun v2 ev2 => ?_)
      rw [f1 336 1 (by omega)] at ev2
      refine g_C ?_
      refine g_A (by omega) (by omega) ?_
      refine g_putR 1 rfl hS.k336 (fun m2 e2 => ?_)
      have f2 : ∀ c p : Int, ¬ (c = 336 ∧ p = 1) → m2 c p = m1 c p := fun c p q => (congrFun (congrFun e2 _) _).trans (up_ne q)
      have x2 : m2 336 1 = v2 + 1 := (congrFun (congrFun e2 _) _).trans (up_at _ _ _ _)
      have j2 : Jc S m2 := by rw [e2]; exact j1.len12 (by omega) (by omega)
      refine g_A (by omega) (by omega) ?_
      refine ih (j + 1) _ m2 j2 (by omega) (by omega) (by omega) (by omega) (fun c p q1 q2 => ?_) (fun i i0 i1 => ?_) (by omega)
      · rw [f2 c p q1, f1 c p (by omega)]
        exact F c p q1 q2
      · by_cases ei : i = j
        · rw [f2 _ _ (by omega), show l + i = v by omega, x1, ey, ex, es, ei]
        · rw [f2 _ _ (by omega), f1 _ _ (by omega)]
          exact B i i0 (by omega)
  exact ⟨5, L 5 0 24 m0 hj (by decide) (by decide) (by decide) (by omega) (fun _ _ _ _ => rfl) (fun i i0 i1 => absurd i1 (by omega)) (by decide)⟩
theorem zk_add {S : Sh} {m0 : Mm} {K : Mm → Prop} {u l : Int} (hS : Shp S) (hj : Jc S m0) (hl : m0 1 1 = l) (l0 : 0 ≤ l) (l1 : l + 4 ≤ 400) (hk : ∀ M1 : Mm, Jc S M1 → (∀ c p : Int, ¬ (c = 1 ∧ p = 1) → ¬ (c = 2 ∧ l ≤ p ∧ p < l + 4) → M1 c p = m0 c p) → M1 1 1 = l + 4 → (∀ j : Int, 0 ≤ j → j < 4 → M1 2 (l + j) = i2b (iShr u (24 - 8 * j))) → K M1) : wp_X7_add S m0 1 u K := by
  refine u_X7_add ?_
  refine g_C ?_
  have L : ∀ (n : Nat) (j s : Int) (m : Mm), Jc S m → 0 ≤ j → j ≤ 4 → s = 24 - 8 * j → m 1 1 = l + j → (∀ c p : Int, ¬ (c = 1 ∧ p = 1) → ¬ (c = 2 ∧ l ≤ p ∧ p < l + 4) → m c p = m0 c p) → (∀ i : Int, 0 ≤ i → i < j → m 2 (l + i) = i2b (iShr u (24 - 8 * i))) → 5 - j ≤ (n : Int) → wp_X7_add_3 S K n 1 u s m := by
    intro n
    induction n with
    | zero => intro j s m _ _ _ _ _ _ _ h; exfalso; omega
    | succ n ih =>
      intro j s m jm j0 j4 es e1 F B h
      have hm := jm.inv
      refine u_X7_add_3 ?_
      refine g_if (fun w => hk m jm F (by omega) (fun i i0 i1 => B i i0 (by omega))) (fun w => ?_)
      refine g_getu 1 rfl hS.k1 (fun v0 ev0 => ?_)
      refine g_C ?_
      refine g_ifF (by omega) ?_
      refine g_getr 0 2 rfl hS.k1 hm.f_1_0 (by decide) ?_
      refine g_getu 1 rfl hS.k1 (fun v ev => ?_)
      refine g_Oe (fun x ex => ?_)
      refine g_i2be (fun y ey => ?_)
      have yr : -128 ≤ y ∧ y ≤ 127 := by rw [ey]; exact i2b_r _
      refine g_stbR hS.k2 hS.l2 (by omega) (by omega) yr (fun m1 e1' => ?_)
      have f1 : ∀ c p : Int, ¬ (c = 2 ∧ p = v) → m1 c p = m c p := fun c p q => (congrFun (congrFun e1' _) _).trans (up_ne q)
      have x1 : m1 2 v = y := (congrFun (congrFun e1' _) _).trans (up_at _ _ _ _)
      have j1 : Jc S m1 := by rw [e1']; exact jm.byte (by decide) yr.1 yr.2
      refine g_getu 1 rfl hS.k1 (fun v2 ev2 => ?_)
      rw [f1 1 1 (by omega)] at ev2
      refine g_C ?_
      refine g_A (by omega) (by omega) ?_
      refine g_putR 1 rfl hS.k1 (fun m2 e2 => ?_)
      have f2 : ∀ c p : Int, ¬ (c = 1 ∧ p = 1) → m2 c p = m1 c p := fun c p q => (congrFun (congrFun e2 _) _).trans (up_ne q)
      have x2 : m2 1 1 = v2 + 1 := (congrFun (congrFun e2 _) _).trans (up_at _ _ _ _)
      have j2 : Jc S m2 := by rw [e2]; exact j1.len11 (by omega) (by omega)
      refine u_X7_add_40 ?_
      refine g_A (by omega) (by omega) ?_
      refine ih (j + 1) _ m2 j2 (by omega) (by omega) (by omega) (by omega) (fun c p q1 q2 => ?_) (fun i i0 i1 => ?_) (by omega)
      · rw [f2 c p q1, f1 c p (by omega)]
        exact F c p q1 q2
      · by_cases ei : i = j
        · rw [f2 _ _ (by omega), show l + i = v by omega, x1, ey, ex, es, ei]
        · rw [f2 _ _ (by omega), f1 _ _ (by omega)]
          exact B i i0 (by omega)
  exact ⟨5, L 5 0 24 m0 hj (by decide) (by decide) (by decide) (by omega) (fun _ _ _ _ => rfl) (fun i i0 i1 => absurd i1 (by omega)) (by decide)⟩
end
section
theorem zk_feed12 {S : Sh} {m0 : Mm} {K : Int → Mm → Prop} {u1 u2 u3 u4 u5 l : Int} (hS : Shp S) (hj : Jc S m0) (hl : m0 336 1 = l) (h0 : ¬ l + 20 ≤ 400 → K (-1) m0) (hk : ∀ M1 : Mm, Jc S M1 → 0 ≤ l → l + 20 ≤ 400 → (∀ c p : Int, ¬ (c = 336 ∧ p = 1) → ¬ (c = 337 ∧ l ≤ p ∧ p < l + 20) → M1 c p = m0 c p) → M1 336 1 = l + 20 → ((∀ j : Int, 0 ≤ j → j < 4 → M1 337 (l + j) = i2b (iShr u1 (24 - 8 * j))) ∧ (∀ j : Int, 0 ≤ j → j < 4 → M1 337 (l + 4 + j) = i2b (iShr u2 (24 - 8 * j))) ∧ (∀ j : Int, 0 ≤ j → j < 4 → M1 337 (l + 8 + j) = i2b (iShr u3 (24 - 8 * j))) ∧ (∀ j : Int, 0 ≤ j → j < 4 → M1 337 (l + 12 + j) = i2b (iShr u4 (24 - 8 * j))) ∧ (∀ j : Int, 0 ≤ j → j < 4 → M1 337 (l + 16 + j) = i2b (iShr u5 (24 - 8 * j)))) → K (l + 20) M1) : wp_X12_feed S m0 336 u1 u2 u3 u4 u5 K := by
  have hm0 := hj.inv
  have b1 := hm0.f_336_1
  refine u_X12_feed ?_
  refine g_getu 1 rfl hS.k336 (fun v ev => ?_)
  refine g_C ?_
  refine g_A (by omega) (by omega) ?_
  refine g_C ?_
  refine g_if (fun w => ?_) (fun w => g_C (h0 (by omega)))
  refine ⟨hS.k336, ?_⟩
  refine zk_four (l := l) hS hj hl (by omega) (by omega) (fun m1 j1 f1 e1' w1 => ?_)
  have e1 : m1 336 1 = l + 4 := by omega
  refine ⟨hS.k336, ?_⟩
  refine zk_four (l := l + 4) hS j1 e1 (by omega) (by omega) (fun m2 j2 f2 e2' w2 => ?_)
  have e2 : m2 336 1 = l + 8 := by omega
  refine ⟨hS.k336, ?_⟩
  refine zk_four (l := l + 8) hS j2 e2 (by omega) (by omega) (fun m3 j3 f3 e3' w3 => ?_)
  have e3 : m3 336 1 = l + 12 := by omega
  refine ⟨hS.k336, ?_⟩
  refine zk_four (l := l + 12) hS j3 e3 (by omega) (by omega) (fun m4 j4 f4 e4' w4 => ?_)
  have e4 : m4 336 1 = l + 16 := by omega
  refine ⟨hS.k336, ?_⟩
  refine zk_four (l := l + 16) hS j4 e4 (by omega) (by omega) (fun m5 j5 f5 e5' w5 => ?_)
  have e5 : m5 336 1 = l + 20 := by omega
  refine g_getu 1 rfl hS.k336 (fun r er => ?_)
  rw [show r = l + 20 by omega]
  refine hk m5 j5 (by omega) (by omega) (fun c p q1 q2 => ?_) (by omega) ⟨fun j j0 j1 => ?_, fun j j0 j1 => ?_, fun j j0 j1 => ?_, fun j j0 j1 => ?_, fun j j0 j1 => ?_⟩
  · rw [f5 c p q1 (by omega), f4 c p q1 (by omega), f3 c p q1 (by omega), f2 c p q1 (by omega), f1 c p q1 (by omega)]
  · rw [f5 _ _ (by omega) (by omega), f4 _ _ (by omega) (by omega), f3 _ _ (by omega) (by omega), f2 _ _ (by omega) (by omega)]; exact w1 j j0 j1
  · rw [f5 _ _ (by omega) (by omega), f4 _ _ (by omega) (by omega), f3 _ _ (by omega) (by omega)]; exact w2 j j0 j1
  · rw [f5 _ _ (by omega) (by omega), f4 _ _ (by omega) (by omega)]; exact w3 j j0 j1
  · rw [f5 _ _ (by omega) (by omega)]; exact w4 j j0 j1
  · exact w5 j j0 j1
theorem zk_feed11 {S : Sh} {m0 : Mm} {K : Int → Mm → Prop} {u1 u2 u3 u4 u5 l : Int} (hS : Shp S) (hj : Jc S m0) (hl : m0 1 1 = l) (h0 : ¬ l + 20 ≤ 400 → K (-1) m0) (hk : ∀ M1 : Mm, Jc S M1 → 0 ≤ l → l + 20 ≤ 400 → (∀ c p : Int, ¬ (c = 1 ∧ p = 1) → ¬ (c = 2 ∧ l ≤ p ∧ p < l + 20) → M1 c p = m0 c p) → M1 1 1 = l + 20 → ((∀ j : Int, 0 ≤ j → j < 4 → M1 2 (l + j) = i2b (iShr u1 (24 - 8 * j))) ∧ (∀ j : Int, 0 ≤ j → j < 4 → M1 2 (l + 4 + j) = i2b (iShr u2 (24 - 8 * j))) ∧ (∀ j : Int, 0 ≤ j → j < 4 → M1 2 (l + 8 + j) = i2b (iShr u3 (24 - 8 * j))) ∧ (∀ j : Int, 0 ≤ j → j < 4 → M1 2 (l + 12 + j) = i2b (iShr u4 (24 - 8 * j))) ∧ (∀ j : Int, 0 ≤ j → j < 4 → M1 2 (l + 16 + j) = i2b (iShr u5 (24 - 8 * j)))) → K (l + 20) M1) : wp_X11_feed S m0 0 u1 u2 u3 u4 u5 K := by
  have hm0 := hj.inv
  have b1 := hm0.f_1_1
  refine u_X11_feed ?_
  refine g_getr 0 1 rfl hS.k0 hm0.f_0_0 (by decide) ?_
  refine g_C ?_
  refine ⟨hS.k1, ?_⟩
  refine u_X7_hasRoomFor ?_
  refine g_getu 1 rfl hS.k1 (fun v ev => ?_)
  refine g_A (by omega) (by omega) ?_
  refine g_C ?_
  refine g_if (fun w => g_C ⟨by decide, g_ifF (by decide) (g_C (h0 (by omega)))⟩) (fun w => g_C ⟨by decide, g_ifT (by decide) ?_⟩)
  refine g_getr 0 1 rfl hS.k0 hj.inv.f_0_0 (by decide) ?_
  refine ⟨hS.k1, ?_⟩
  refine zk_add (l := l) hS hj hl (by omega) (by omega) (fun m1 j1 f1 e1' w1 => ?_)
  have e1 : m1 1 1 = l + 4 := by omega
  refine g_getr 0 1 rfl hS.k0 j1.inv.f_0_0 (by decide) ?_
  refine ⟨hS.k1, ?_⟩
  refine zk_add (l := l + 4) hS j1 e1 (by omega) (by omega) (fun m2 j2 f2 e2' w2 => ?_)
  have e2 : m2 1 1 = l + 8 := by omega
  refine g_getr 0 1 rfl hS.k0 j2.inv.f_0_0 (by decide) ?_
  refine ⟨hS.k1, ?_⟩
  refine zk_add (l := l + 8) hS j2 e2 (by omega) (by omega) (fun m3 j3 f3 e3' w3 => ?_)
  have e3 : m3 1 1 = l + 12 := by omega
  refine g_getr 0 1 rfl hS.k0 j3.inv.f_0_0 (by decide) ?_
  refine ⟨hS.k1, ?_⟩
  refine zk_add (l := l + 12) hS j3 e3 (by omega) (by omega) (fun m4 j4 f4 e4' w4 => ?_)
  have e4 : m4 1 1 = l + 16 := by omega
  refine g_getr 0 1 rfl hS.k0 j4.inv.f_0_0 (by decide) ?_
  refine ⟨hS.k1, ?_⟩
  refine zk_add (l := l + 16) hS j4 e4 (by omega) (by omega) (fun m5 j5 f5 e5' w5 => ?_)
  have e5 : m5 1 1 = l + 20 := by omega
  refine g_getr 0 1 rfl hS.k0 j5.inv.f_0_0 (by decide) ?_
  refine g_getu 1 rfl hS.k1 (fun r er => ?_)
  rw [show r = l + 20 by omega]
  refine hk m5 j5 (by omega) (by omega) (fun c p q1 q2 => ?_) (by omega) ⟨fun j j0 j1 => ?_, fun j j0 j1 => ?_, fun j j0 j1 => ?_, fun j j0 j1 => ?_, fun j j0 j1 => ?_⟩
  · rw [f5 c p q1 (by omega), f4 c p q1 (by omega), f3 c p q1 (by omega), f2 c p q1 (by omega), f1 c p q1 (by omega)]
  · rw [f5 _ _ (by omega) (by omega), f4 _ _ (by omega) (by omega), f3 _ _ (by omega) (by omega), f2 _ _ (by omega) (by omega)]; exact w1 j j0 j1
  · rw [f5 _ _ (by omega) (by omega), f4 _ _ (by omega) (by omega), f3 _ _ (by omega) (by omega)]; exact w2 j j0 j1
  · rw [f5 _ _ (by omega) (by omega), f4 _ _ (by omega) (by omega)]; exact w3 j j0 j1
  · rw [f5 _ _ (by omega) (by omega)]; exact w4 j j0 j1
  · exact w5 j j0 j1
end
section
theorem JX.tape {S S1 : Sh} {m0 m2 : Mm} (h : JX S m0) (j : Jc S1 m2) (F : ∀ c p : Int, spP c p → ¬ (c = 1 ∧ p = 1) → ¬ (c = 336 ∧ (p = 1 ∨ p = 2)) → ¬ (c = 0 ∧ p = 7) → m2 c p = m0 c p) (e1 : m2 1 1 = m2 336 1) (e2 : m2 0 7 = m2 336 2) : JX S1 m2 := by
  obtain ⟨jc, xr, ⟨⟨a1, a2, a3⟩, a4, a5⟩⟩ := h
  refine ⟨j, ?_, ?_⟩
  · unfold Xr at xr ⊢
    rw [F 3 3 (by decide) (by omega) (by omega) (by omega), F 336 22 (by decide) (by omega) (by omega) (by omega), F 76 3 (by decide) (by omega) (by omega) (by omega), F 356 0 (by decide) (by omega) (by omega) (by omega), F 76 9 (by decide) (by omega) (by omega) (by omega), F 357 0 (by decide) (by omega) (by omega) (by omega), F 101 3 (by decide) (by omega) (by omega) (by omega), F 356 1 (by decide) (by omega) (by omega) (by omega), F 101 9 (by decide) (by omega) (by omega) (by omega), F 357 1 (by decide) (by omega) (by omega) (by omega), F 126 3 (by decide) (by omega) (by omega) (by omega), F 356 2 (by decide) (by omega) (by omega) (by omega), F 126 9 (by decide) (by omega) (by omega) (by omega), F 357 2 (by decide) (by omega) (by omega) (by omega), F 151 3 (by decide) (by omega) (by omega) (by omega), F 356 3 (by decide) (by omega) (by omega) (by omega), F 151 9 (by decide) (by omega) (by omega) (by omega), F 357 3 (by decide) (by omega) (by omega) (by omega)]
    exact xr
  · unfold Ya
    rw [F 3 2 (by decide) (by omega) (by omega) (by omega), F 336 21 (by decide) (by omega) (by omega) (by omega), F 76 2 (by decide) (by omega) (by omega) (by omega), F 355 0 (by decide) (by omega) (by omega) (by omega), F 357 0 (by decide) (by omega) (by omega) (by omega), F 101 2 (by decide) (by omega) (by omega) (by omega), F 355 1 (by decide) (by omega) (by omega) (by omega), F 357 1 (by decide) (by omega) (by omega) (by omega), F 126 2 (by decide) (by omega) (by omega) (by omega), F 355 2 (by decide) (by omega) (by omega) (by omega), F 357 2 (by decide) (by omega) (by omega) (by omega), F 151 2 (by decide) (by omega) (by omega) (by omega), F 355 3 (by decide) (by omega) (by omega) (by omega), F 357 3 (by decide) (by omega) (by omega) (by omega)]
    refine ⟨⟨e1, fun p p0 p1 => ?_, e2⟩, a4, a5⟩
    rw [F 2 p (by omega) (by omega) (by omega) (by omega), F 337 p (by omega) (by omega) (by omega) (by omega)]
    exact a2 p p0 p1
end
section
theorem JX.forced {S : Sh} {m0 m2 : Mm} (h : JX S m0) (j : Jc S m2) (F : ∀ c p : Int, spP c p → ¬ (c = 3 ∧ p = 2) → ¬ (c = 336 ∧ p = 21) → m2 c p = m0 c p) (e1 : m2 3 2 = m2 336 21) : JX S m2 := by
  obtain ⟨jc, xr, ⟨⟨a1, a2, a3⟩, a4, a5⟩⟩ := h
  refine ⟨j, ?_, ?_⟩
  · unfold Xr at xr ⊢
    rw [F 3 3 (by decide) (by omega) (by omega), F 336 22 (by decide) (by omega) (by omega), F 76 3 (by decide) (by omega) (by omega), F 356 0 (by decide) (by omega) (by omega), F 76 9 (by decide) (by omega) (by omega), F 357 0 (by decide) (by omega) (by omega), F 101 3 (by decide) (by omega) (by omega), F 356 1 (by decide) (by omega) (by omega), F 101 9 (by decide) (by omega) (by omega), F 357 1 (by decide) (by omega) (by omega), F 126 3 (by decide) (by omega) (by omega), F 356 2 (by decide) (by omega) (by omega), F 126 9 (by decide) (by omega) (by omega), F 357 2 (by decide) (by omega) (by omega), F 151 3 (by decide) (by omega) (by omega), F 356 3 (by decide) (by omega) (by omega), F 151 9 (by decide) (by omega) (by omega), F 357 3 (by decide) (by omega) (by omega)]
    exact xr
  · unfold Ya
    rw [F 1 1 (by decide) (by omega) (by omega), F 336 1 (by decide) (by omega) (by omega), F 0 7 (by decide) (by omega) (by omega), F 336 2 (by decide) (by omega) (by omega), F 76 2 (by decide) (by omega) (by omega), F 355 0 (by decide) (by omega) (by omega), F 357 0 (by decide) (by omega) (by omega), F 101 2 (by decide) (by omega) (by omega), F 355 1 (by decide) (by omega) (by omega), F 357 1 (by decide) (by omega) (by omega), F 126 2 (by decide) (by omega) (by omega), F 355 2 (by decide) (by omega) (by omega), F 357 2 (by decide) (by omega) (by omega), F 151 2 (by decide) (by omega) (by omega), F 355 3 (by decide) (by omega) (by omega), F 357 3 (by decide) (by omega) (by omega)]
    refine ⟨⟨a1, fun p p0 p1 => ?_, a3⟩, e1, a5⟩
    rw [F 2 p (by omega) (by omega) (by omega), F 337 p (by omega) (by omega) (by omega)]
    exact a2 p p0 p1
end
