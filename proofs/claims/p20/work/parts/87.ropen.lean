/-! the reference's open row, as a stack -/
def rsk (f : Int → Int) : Nat → List Bool
  | 0 => []
  | n + 1 => if f n = 91 then true :: rsk f n else if f n = 11 then false :: rsk f n else rsk f n
def hNr (f : Int → Int) : Nat → Prop
  | 0 => False
  | n + 1 => ¬ f n = 91 ∧ (f n = 11 ∨ hNr f n)
def okr (f : Int → Int) : Nat → Prop
  | 0 => True
  | n + 1 => okr f n ∧ ((f n = 12 ∨ f n = 13) → ¬ hNr f n)
theorem rsk_same {f g : Int → Int} : ∀ n : Nat, (∀ j : Int, 0 ≤ j → j < n → f j = g j) → rsk f n = rsk g n ∧ hNr f n = hNr g n ∧ okr f n = okr g n := by
  intro n
  induction n with
  | zero => intro _; exact ⟨rfl, rfl, rfl⟩
  | succ n ih =>
    intro h
    obtain ⟨h1, h2, h3⟩ := ih (fun j a c => h j a (by omega))
    have e := h n (by omega) (by omega)
    refine ⟨?_, ?_, ?_⟩
    · simp only [rsk, e, h1]
    · simp only [hNr, e, h2]
    · simp only [okr, e, h2, h3]
theorem rsk_mem {f : Int → Int} : ∀ n : Nat, true ∈ rsk f n ↔ ∃ j : Int, 0 ≤ j ∧ j < n ∧ f j = 91 := by
  intro n
  induction n with
  | zero => exact ⟨fun h => (by cases h), fun h => (by obtain ⟨j, h1, h2, h3⟩ := h; exfalso; omega)⟩
  | succ n ih =>
    have down : ¬ f n = 91 → ((∃ j : Int, 0 ≤ j ∧ j < ((n + 1 : Nat) : Int) ∧ f j = 91) ↔ ∃ j : Int, 0 ≤ j ∧ j < n ∧ f j = 91) := by
      intro e
      refine ⟨fun h => ?_, fun h => ?_⟩
      · obtain ⟨j, h1, h2, h3⟩ := h
        by_cases ej : j = n
        · rw [ej] at h3; exact absurd h3 e
        · exact ⟨j, h1, by omega, h3⟩
      · obtain ⟨j, h1, h2, h3⟩ := h
        exact ⟨j, h1, by omega, h3⟩
    show true ∈ (if f n = 91 then true :: rsk f n else if f n = 11 then false :: rsk f n else rsk f n) ↔ _
    by_cases e : f n = 91
    · rw [if_pos e]
      exact ⟨fun _ => ⟨n, by omega, by omega, e⟩, fun _ => List.mem_cons_self⟩
    · rw [if_neg e, down e, ← ih]
      by_cases e2 : f n = 11
      · rw [if_pos e2]
        exact ⟨fun h => (by cases h; assumption), fun h => List.mem_cons_of_mem _ h⟩
      · rw [if_neg e2]
def RS (M : Mm) (s : List Bool) : Prop := rsk (M 343) (M 336 16).toNat = s ∧ M 336 13 = (s.length : Int) ∧ s.length ≤ 10 ∧ okr (M 343) (M 336 16).toNat
def Top (M : Mm) : Prop := ¬ hNr (M 343) (M 336 16).toNat
theorem RS.same {m m1 : Mm} {s : List Bool} (h : RS m s) (f : ∀ p : Int, m1 343 p = m 343 p) (o : m1 336 16 = m 336 16) (d : m1 336 13 = m 336 13) : RS m1 s := by
  have e : m1 343 = m 343 := funext f
  unfold RS
  rw [e, o, d]
  exact h
theorem Top.same {m m1 : Mm} (h : Top m) (f : ∀ p : Int, m1 343 p = m 343 p) (o : m1 336 16 = m 336 16) : Top m1 := by
  have e : m1 343 = m 343 := funext f
  unfold Top
  rw [e, o]
  exact h
theorem RS.in {m : Mm} {s : List Bool} (h : RS m s) : true ∈ s ↔ ∃ j : Int, 0 ≤ j ∧ j < m 336 16 ∧ m 343 j = 91 := by
  rw [← h.1, rsk_mem]
  refine ⟨fun z => ?_, fun z => ?_⟩
  · obtain ⟨j, h1, h2, h3⟩ := z
    exact ⟨j, h1, by omega, h3⟩
  · obtain ⟨j, h1, h2, h3⟩ := z
    exact ⟨j, h1, by omega, h3⟩
theorem RS.push {m m1 : Mm} {s : List Bool} {x : Int} (h : RS m s) (h0 : 0 ≤ m 336 16) (f : ∀ j : Int, 0 ≤ j → j < m 336 16 → m1 343 j = m 343 j) (o : m1 336 16 = m 336 16 + 1) (hx : m1 343 (m 336 16) = x) : rsk (m1 343) (m1 336 16).toNat = (if x = 91 then true :: s else if x = 11 then false :: s else s) ∧ (((x = 12 ∨ x = 13) → Top m) → okr (m1 343) (m1 336 16).toNat) := by
  obtain ⟨p1, p2, p3, p4⟩ := h
  have en : (m1 336 16).toNat = (m 336 16).toNat + 1 := by omega
  have ct : (((m 336 16).toNat : Nat) : Int) = m 336 16 := by omega
  obtain ⟨q1, q2, q3⟩ := rsk_same (f := m1 343) (g := m 343) (m 336 16).toNat (fun j j0 j1 => f j j0 (by omega))
  refine ⟨?_, fun hh => ?_⟩
  · rw [en]
    show (if m1 343 (((m 336 16).toNat : Nat) : Int) = 91 then true :: rsk (m1 343) (m 336 16).toNat else if m1 343 (((m 336 16).toNat : Nat) : Int) = 11 then false :: rsk (m1 343) (m 336 16).toNat else rsk (m1 343) (m 336 16).toNat) = _
    rw [ct, hx, q1, p1]
  · rw [en]
    refine ⟨by rw [q3]; exact p4, fun z => ?_⟩
    rw [ct, hx] at z
    rw [q2]
    exact hh z
/-- the top taken away -/
theorem RS.pop {m m1 : Mm} {s : List Bool} (h : RS m s) (h0 : 1 ≤ m 336 16) (f : ∀ p : Int, m1 343 p = m 343 p) (o : m1 336 16 = m 336 16 - 1) : s = (if m 343 (m 336 16 - 1) = 91 then true :: rsk (m1 343) (m1 336 16).toNat else if m 343 (m 336 16 - 1) = 11 then false :: rsk (m1 343) (m1 336 16).toNat else rsk (m1 343) (m1 336 16).toNat) ∧ okr (m1 343) (m1 336 16).toNat ∧ ((m 343 (m 336 16 - 1) = 12 ∨ m 343 (m 336 16 - 1) = 13) → Top m1) := by
  have e : m1 343 = m 343 := funext f
  obtain ⟨p1, p2, p3, p4⟩ := h
  have en : (m 336 16).toNat = (m1 336 16).toNat + 1 := by omega
  have ct : (((m1 336 16).toNat : Nat) : Int) = m 336 16 - 1 := by omega
  rw [en] at p1 p4
  unfold Top
  rw [e]
  refine ⟨?_, p4.1, fun z => p4.2 (by rw [ct]; exact z)⟩
  rw [← p1]
  show (if m 343 (((m1 336 16).toNat : Nat) : Int) = 91 then true :: rsk (m 343) (m1 336 16).toNat else if m 343 (((m1 336 16).toNat : Nat) : Int) = 11 then false :: rsk (m 343) (m1 336 16).toNat else rsk (m 343) (m1 336 16).toNat) = _
  rw [ct]
theorem zo_isInside {X : Mm} {S : Sh} {m : Mm} {K : Int → Mm → Prop} (hS : Shp S) (hm : Inv X S m) (k1 : ∀ j : Int, 0 ≤ j → j < m 336 16 → m 343 j = 91 → K 1 m) (k0 : (∀ j : Int, 0 ≤ j → j < m 336 16 → ¬ m 343 j = 91) → K 0 m) : wp_X12_isInside S m 336 K := by
  have b16 := hm.f_336_16
  refine u_X12_isInside ?_
  refine g_C ?_
  have L : ∀ (n : Nat) (i : Int), 0 ≤ i → i ≤ m 336 16 → (∀ j : Int, 0 ≤ j → j < i → ¬ m 343 j = 91) → 401 - i ≤ (n : Int) → wp_X12_isInside_2 S K n 336 i m := by
    intro n
    induction n with
    | zero => intro i _ _ _ h; exfalso; omega
    | succ n ih =>
      intro i i0 i1 hn h
      refine u_X12_isInside_2 ?_
      refine g_getu 16 rfl hS.k336 (fun v ev => ?_)
      refine g_if (fun w => ?_) (fun w => ?_)
      · exact g_C ⟨by decide, k0 (fun j a b => hn j a (by omega))⟩
      · refine g_getr 15 343 rfl hS.k336 hm.f_336_15 (by decide) ?_
        refine g_ldu hS.k343 hS.l343 (by omega) (by omega) (fun x ex => ?_)
        refine g_C ?_
        refine g_if (fun w2 => ?_) (fun w2 => ?_)
        · refine g_A (by omega) (by omega) ?_
          refine ih (i + 1) (by omega) (by omega) (fun j a b => ?_) (by omega)
          by_cases e : j = i
          · rw [e, ← ex]; exact w2
          · exact hn j a (by omega)
        · exact g_C ⟨by decide, k1 i i0 (by omega) (by omega)⟩
  exact ⟨401, L 401 0 (by omega) (by omega) (fun j a b => absurd b (by omega)) (by omega)⟩
/-- how many of the first n are AND or OR -/
def nbf (f : Int → Int) : Nat → Int
  | 0 => 0
  | n + 1 => nbf f n + (if f n = 12 ∨ f n = 13 then 1 else 0)
theorem nbf_nn (f : Int → Int) : ∀ n : Nat, 0 ≤ nbf f n := by
  intro n
  induction n with
  | zero => exact Int.le_refl 0
  | succ n ih =>
    show 0 ≤ nbf f n + (if f n = 12 ∨ f n = 13 then 1 else 0)
    split <;> omega
theorem nbf_same {f g : Int → Int} : ∀ n : Nat, (∀ j : Int, 0 ≤ j → j < n → f j = g j) → nbf f n = nbf g n := by
  intro n
  induction n with
  | zero => intro _; rfl
  | succ n ih =>
    intro h
    show nbf f n + (if f n = 12 ∨ f n = 13 then 1 else 0) = nbf g n + (if g n = 12 ∨ g n = 13 then 1 else 0)
    rw [ih (fun j a b => h j a (by omega)), h n (by omega) (by omega)]
def nb (M : Mm) : Int := nbf (M 343) (M 336 16).toNat
theorem nbf_top {f : Int → Int} {o : Int} (h : 0 ≤ o) : nbf f (o + 1).toNat = nbf f o.toNat + (if f o = 12 ∨ f o = 13 then 1 else 0) := by
  rw [show (o + 1).toNat = o.toNat + 1 by omega]
  show nbf f o.toNat + (if f (o.toNat : Int) = 12 ∨ f (o.toNat : Int) = 13 then 1 else 0) = _
  rw [Int.toNat_of_nonneg h]
/-- amid a test: k to spare, e: a fact stands behind the last AND, OR -/
def Ts (X M : Mm) (k b e : Int) : Prop := GX X M ∧ Qs M b (nb M + e) ∧ (0 ≤ e ∧ e ≤ 1) ∧ nb M + e ≤ M 336 12 ∧ M 339 (M 336 11) + M 336 16 + k ≤ M 336 8 ∧ ∀ j : Int, 0 ≤ j → j < M 336 16 → M 343 j = 11 ∨ M 343 j = 12 ∨ M 343 j = 13 ∨ M 343 j = 91
theorem Ts.fr {X m m1 : Mm} {k b e : Int} (h : Ts X m k b e) (f : ∀ c p : Int, ¬ (c = 336 ∧ 8 ≤ p ∧ p ≤ 13 ∧ ¬ p = 11) → m1 c p = m c p) (h8 : m 336 8 ≤ m1 336 8) (h12 : m 336 12 ≤ m1 336 12) : Ts X m1 k b e ∧ Adv m m1 := by
  obtain ⟨g, hq, he, hn, hl, ho⟩ := h
  have A : Adv m m1 ∧ True := ⟨Adv.of (fun c p q => f c p (by omega)) h8 h12, trivial⟩
  have e43 : m1 343 = m 343 := funext (fun p => f 343 p (by omega))
  have e16 : m1 336 16 = m 336 16 := f 336 16 (by omega)
  have en : nb m1 = nb m := by unfold nb; rw [e43, e16]
  have el : m1 339 (m1 336 11) = m 339 (m 336 11) := by rw [f 336 11 (by omega), f 339 _ (by omega)]
  refine ⟨⟨g.adv A.1, ?_, he, by omega, by omega, ?_⟩, A.1⟩
  · rw [en]
    exact hq.same (fun p => f 338 p (by omega)) (fun p => f 339 p (by omega)) (f 336 11 (by omega))
  · rw [e43, e16]
    exact ho
theorem Ts.slack {X m : Mm} {k k1 b e : Int} (h : Ts X m k b e) (h1 : m 339 (m 336 11) + m 336 16 + k1 ≤ m 336 8) : Ts X m k1 b e := ⟨h.1, h.2.1, h.2.2.1, h.2.2.2.1, h1, h.2.2.2.2.2⟩
theorem Adv.rfl' (m : Mm) : Adv m m := (AdvS.rfl' m).1
def strn (x : Int) : Int := if x = 13 then 1 else if x = 12 then 2 else if x = 11 then 3 else 0
theorem zl_strength {S : Sh} {m : Mm} {K : Int → Mm → Prop} {x : Int} (h : K (strn x) m) : wp_X12_strength S m x K := by
  refine u_X12_strength ?_
  unfold strn at h
  refine g_C ?_
  refine g_if (fun w => ?_) (fun w => ?_)
  · rw [if_neg w] at h
    refine g_C ?_
    refine g_if (fun w2 => ?_) (fun w2 => ?_)
    · rw [if_neg w2] at h
      refine g_C ?_
      refine g_if (fun w3 => ?_) (fun w3 => ?_)
      · rw [if_neg w3] at h
        exact g_C h
      · rw [if_pos (by omega)] at h
        exact g_C h
    · rw [if_pos (by omega)] at h
      exact g_C h
  · rw [if_pos (by omega)] at h
    exact g_C h
theorem strn_c (x : Int) : (x = 13 ∧ strn x = 1) ∨ (x = 12 ∧ strn x = 2) ∨ (x = 11 ∧ strn x = 3) ∨ (¬ x = 11 ∧ ¬ x = 12 ∧ ¬ x = 13 ∧ strn x = 0) := by
  unfold strn
  split
  · omega
  · split
    · omega
    · split <;> omega
theorem Ts.pushop {X m m1 : Mm} {k b e s k1 e1 : Int} (h : Ts X m k b e) (h0 : 0 ≤ m 336 16) (f : ∀ c p : Int, ¬ (c = 336 ∧ (p = 13 ∨ p = 16 ∨ p = 8)) ∧ ¬ (c = 343 ∧ p = m 336 16) → m1 c p = m c p) (o : m1 336 16 = m 336 16 + 1) (x : m1 343 (m 336 16) = s) (hs : s = 11 ∨ s = 12 ∨ s = 13 ∨ s = 91) (h8 : m 336 8 ≤ m1 336 8) (hl : m 339 (m 336 11) + m 336 16 + 1 + k1 ≤ m1 336 8) (he : e = e1 + (if s = 12 ∨ s = 13 then 1 else 0)) (he1 : 0 ≤ e1) : Ts X m1 k1 b e1 ∧ Adv m m1 := by
  obtain ⟨g, hq, he0, hn, hl0, ho⟩ := h
  have A : Adv m m1 := ⟨fun c p q => f c p (by omega), f 336 11 (by omega), fun j _ => f 338 j (by omega), by rw [f 339 _ (by omega)]; omega, h8, by rw [f 336 12 (by omega)]; omega, f 336 14 (by omega)⟩
  have el : m1 339 (m1 336 11) = m 339 (m 336 11) := by rw [f 336 11 (by omega), f 339 _ (by omega)]
  have en : nb m1 = nb m + (if s = 12 ∨ s = 13 then 1 else 0) := by
    unfold nb
    rw [o, nbf_top h0, x, nbf_same (f := m1 343) (g := m 343) _ (fun j j0 j1 => f 343 j (by omega))]
  have e12 : m1 336 12 = m 336 12 := f 336 12 (by omega)
  refine ⟨⟨g.adv A, ?_, ?_, ?_, by omega, fun j j0 j1 => ?_⟩, A⟩
  · rw [show nb m1 + e1 = nb m + e by rw [en, he]; omega]
    exact hq.same (fun p => f 338 p (by omega)) (fun p => f 339 p (by omega)) (f 336 11 (by omega))
  · refine ⟨he1, ?_⟩
    revert he
    split <;> omega
  · rw [show nb m1 + e1 = nb m + e by rw [en, he]; omega]
    omega
  · by_cases ej : j = m 336 16
    · rw [ej, x]
      exact hs
    · rw [f 343 j (by omega)]
      exact ho j j0 (by omega)
