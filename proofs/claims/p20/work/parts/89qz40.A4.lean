/-! how warm it is -/
def htF (a b c : Int → Int) (t : Int) : Nat → Int
  | 0 => 0
  | n + 1 => if a n ≤ t ∧ t ≤ b n then htF a b c t n + c n else htF a b c t n
theorem htF_b {a b c : Int → Int} {t : Int} : ∀ n : Nat, (∀ k : Int, 0 ≤ k → k < n → 0 ≤ c k ∧ c k ≤ 5) → 0 ≤ htF a b c t n ∧ htF a b c t n ≤ 5 * n := by
  intro n
  induction n with
  | zero => intro _; exact ⟨Int.le_refl 0, by show (0 : Int) ≤ 5 * ((0 : Nat) : Int); omega⟩
  | succ n ih =>
    intro h
    have q := ih (fun k k0 k1 => h k k0 (by omega))
    have z := h (n : Int) (by omega) (by omega)
    show 0 ≤ (if a n ≤ t ∧ t ≤ b n then htF a b c t n + c n else htF a b c t n) ∧ (if a n ≤ t ∧ t ≤ b n then htF a b c t n + c n else htF a b c t n) ≤ 5 * ((n + 1 : Nat) : Int)
    by_cases e : a n ≤ t ∧ t ≤ b n
    · rw [if_pos e]; omega
    · rw [if_neg e]; omega
theorem htF_same {a b c a' b' c' : Int → Int} {t : Int} : ∀ n : Nat, (∀ k : Int, 0 ≤ k → k < n → a' k = a k ∧ b' k = b k ∧ c' k = c k) → htF a' b' c' t n = htF a b c t n := by
  intro n
  induction n with
  | zero => intro _; rfl
  | succ n ih =>
    intro h
    obtain ⟨e1, e2, e3⟩ := h (n : Int) (by omega) (by omega)
    show (if a' n ≤ t ∧ t ≤ b' n then htF a' b' c' t n + c' n else htF a' b' c' t n) = (if a n ≤ t ∧ t ≤ b n then htF a b c t n + c n else htF a b c t n)
    rw [ih (fun k k0 k1 => h k k0 (by omega)), e1, e2, e3]
def ht8 (m : Mm) (t : Int) : Int := htF (m 9) (m 10) (m 11) t (m 4 6).toNat
theorem zh_heat8 {X : Mm} {S : Sh} {m : Mm} {K : Int → Mm → Prop} {t : Int} (hS : Shp S) (hm : Inv X S m) (hk : 0 ≤ ht8 m t → ht8 m t ≤ 20 → K (ht8 m t) m) : wp_X8_heatIn S m 4 t K := by
  have b6 := hm.f_4_6
  have bn : ∀ n : Nat, n ≤ 4 → 0 ≤ htF (m 9) (m 10) (m 11) t n ∧ htF (m 9) (m 10) (m 11) t n ≤ 5 * n := fun n hn => htF_b n (fun k k0 k1 => hm.a_11 (i := k) k0 (by omega))
  refine u_X8_heatIn ?_
  refine g_C ?_
  refine g_C ?_
  have L : ∀ (n i : Nat), (i : Int) ≤ m 4 6 → 5 - (i : Int) ≤ (n : Int) → wp_X8_heatIn_4 S K n 4 t (htF (m 9) (m 10) (m 11) t i) (i : Int) m := by
    intro n
    induction n with
    | zero => intro i hi hn; exfalso; omega
    | succ n ih =>
      intro i hi hn
      have bi := bn i (by omega)
      refine u_X8_heatIn_4 ?_
      refine g_getu 6 rfl hS.k4 (fun v ev => ?_)
      refine g_if (fun w => ?_) (fun w => ?_)
      · have e : i = (m 4 6).toNat := by omega
        subst e
        exact hk bi.1 (by have := bi.2; unfold ht8; omega)
      have e1 : htF (m 9) (m 10) (m 11) t (i + 1) = (if m 9 (i : Int) ≤ t ∧ t ≤ m 10 (i : Int) then htF (m 9) (m 10) (m 11) t i + m 11 (i : Int) else htF (m 9) (m 10) (m 11) t i) := rfl
      have nx : ∀ u : Int, u = htF (m 9) (m 10) (m 11) t (i + 1) → wp_X8_heatIn_41 S (fun a0 a1 a2 a3 M => wp_X8_heatIn_4 S K n a0 a1 a2 a3 M) K 4 t u (i : Int) m := by
        intro u eu
        rw [eu]
        refine u_X8_heatIn_41 ?_
        refine g_A (by omega) (by omega) ?_
        rw [show (i : Int) + 1 = ((i + 1 : Nat) : Int) by omega]
        exact ih (i + 1) (by omega) (by omega)
      refine g_getr 12 9 rfl hS.k4 hm.f_4_12 (by decide) ?_
      refine g_ldu hS.k9 hS.l9 (by omega) (by omega) (fun v2 ev2 => ?_)
      refine g_if (fun w2 => nx _ (by rw [e1, if_neg (fun z => by have := z.1; omega)])) (fun w2 => ?_)
      refine g_getr 13 10 rfl hS.k4 hm.f_4_13 (by decide) ?_
      refine g_ldu hS.k10 hS.l10 (by omega) (by omega) (fun v3 ev3 => ?_)
      refine g_if (fun w3 => nx _ (by rw [e1, if_neg (fun z => by have := z.2; omega)])) (fun w3 => ?_)
      refine g_getr 14 11 rfl hS.k4 hm.f_4_14 (by decide) ?_
      refine g_ldu hS.k11 hS.l11 (by omega) (by omega) (fun v4 ev4 => ?_)
      have bc := hm.a_11 (i := (i : Int)) (by omega) (by omega)
      refine g_A (by omega) (by omega) (nx _ ?_)
      rw [e1, if_pos ⟨by omega, by omega⟩, ev4]
  exact ⟨5, L 5 0 (by omega) (by omega)⟩
def htR (D : Int → Int) (t : Int) : Int := htF (fun k => D (81 + 3 * k)) (fun k => D (81 + 3 * k + 1)) (fun k => D (81 + 3 * k + 2)) t (D 9).toNat
theorem zh_heat12 {X : Mm} {S : Sh} {m : Mm} {K : Int → Mm → Prop} {t : Int} (hS : Shp S) (hm : Inv X S m) (hk : 0 ≤ (if m 336 23 = 0 then htR (m 346) t else 0) → (if m 336 23 = 0 then htR (m 346) t else 0) ≤ 20 → K (if m 336 23 = 0 then htR (m 346) t else 0) m) : wp_X12_heatIn S m 336 t K := by
  have b9 := hm.f_346_9
  have bc : ∀ k : Int, 0 ≤ k → k ≤ 3 → 0 ≤ m 346 (81 + 3 * k + 2) ∧ m 346 (81 + 3 * k + 2) ≤ 5 := fun k k0 k1 => fam_346_83_3_0_3 hm (a := k) (by omega) k0 k1
  have bn : ∀ n : Nat, n ≤ 4 → 0 ≤ htF (fun k => m 346 (81 + 3 * k)) (fun k => m 346 (81 + 3 * k + 1)) (fun k => m 346 (81 + 3 * k + 2)) t n ∧ htF (fun k => m 346 (81 + 3 * k)) (fun k => m 346 (81 + 3 * k + 1)) (fun k => m 346 (81 + 3 * k + 2)) t n ≤ 5 * n := fun n hn => htF_b n (fun k k0 k1 => bc k k0 (by omega))
  refine u_X12_heatIn ?_
  refine g_C ?_
  refine g_C ?_
  by_cases ic : m 336 23 = 0
  · rw [if_pos ic] at hk
    have L : ∀ (n i : Nat), (i : Int) ≤ m 346 9 → 5 - (i : Int) ≤ (n : Int) → wp_X12_heatIn_4 S K n 336 t (htF (fun k => m 346 (81 + 3 * k)) (fun k => m 346 (81 + 3 * k + 1)) (fun k => m 346 (81 + 3 * k + 2)) t i) (i : Int) m := by
      intro n
      induction n with
      | zero => intro i hi hn; exfalso; omega
      | succ n ih =>
        intro i hi hn
        have bi := bn i (by omega)
        refine u_X12_heatIn_4 ?_
        refine g_getr 20 346 rfl hS.k336 hm.f_336_20 (by decide) ?_
        refine g_C ?_
        refine g_ldu hS.k346 hS.l346 (by omega) (by omega) (fun v ev => ?_)
        refine g_if (fun w => ?_) (fun w => ?_)
        · have e : i = (m 346 9).toNat := by omega
          subst e
          exact hk bi.1 (by have := bi.2; unfold htR; omega)
        refine g_getu 23 rfl hS.k336 (fun v1 ev1 => ?_)
        refine g_if (fun w1 => absurd (ev1.trans ic) w1) (fun w1 => ?_)
        have e1 : htF (fun k => m 346 (81 + 3 * k)) (fun k => m 346 (81 + 3 * k + 1)) (fun k => m 346 (81 + 3 * k + 2)) t (i + 1) = (if m 346 (81 + 3 * (i : Int)) ≤ t ∧ t ≤ m 346 (81 + 3 * (i : Int) + 1) then htF (fun k => m 346 (81 + 3 * k)) (fun k => m 346 (81 + 3 * k + 1)) (fun k => m 346 (81 + 3 * k + 2)) t i + m 346 (81 + 3 * (i : Int) + 2) else htF (fun k => m 346 (81 + 3 * k)) (fun k => m 346 (81 + 3 * k + 1)) (fun k => m 346 (81 + 3 * k + 2)) t i) := rfl
        have nx : ∀ u v : Int, u + v = htF (fun k => m 346 (81 + 3 * k)) (fun k => m 346 (81 + 3 * k + 1)) (fun k => m 346 (81 + 3 * k + 2)) t (i + 1) → wp_X12_heatIn_68 S (fun a0 a1 a2 a3 M => wp_X12_heatIn_4 S K n a0 a1 a2 a3 M) K 336 t (i : Int) u v m := by
          intro u v eu
          have b2 := bn (i + 1) (by omega)
          refine u_X12_heatIn_68 ?_
          refine g_A (by omega) (by omega) ?_
          rw [eu]
          refine g_A (by omega) (by omega) ?_
          rw [show (i : Int) + 1 = ((i + 1 : Nat) : Int) by omega]
          exact ih (i + 1) (by omega) (by omega)
        have nz : htF (fun k => m 346 (81 + 3 * k)) (fun k => m 346 (81 + 3 * k + 1)) (fun k => m 346 (81 + 3 * k + 2)) t i = htF (fun k => m 346 (81 + 3 * k)) (fun k => m 346 (81 + 3 * k + 1)) (fun k => m 346 (81 + 3 * k + 2)) t (i + 1) → wp_X12_heatIn_67 S (fun a0 a1 a2 a3 M => wp_X12_heatIn_4 S K n a0 a1 a2 a3 M) K 336 t (i : Int) (htF (fun k => m 346 (81 + 3 * k)) (fun k => m 346 (81 + 3 * k + 1)) (fun k => m 346 (81 + 3 * k + 2)) t i) m := by
          intro eu
          refine u_X12_heatIn_67 ?_
          refine g_C ?_
          exact nx _ _ (by omega)
        refine g_C ?_
        refine g_C ?_
        refine g_M (by omega) (by omega) ?_
        refine g_A (by omega) (by omega) ?_
        refine g_getr 20 346 rfl hS.k336 hm.f_336_20 (by decide) ?_
        refine g_ldu hS.k346 hS.l346 (by omega) (by omega) (fun v2 ev2 => ?_)
        refine g_if (fun w2 => nz (by rw [e1, if_neg (fun z => by have := z.1; omega)])) (fun w2 => ?_)
        refine g_getr 20 346 rfl hS.k336 hm.f_336_20 (by decide) ?_
        refine g_C ?_
        refine g_A (by omega) (by omega) ?_
        refine g_ldu hS.k346 hS.l346 (by omega) (by omega) (fun v3 ev3 => ?_)
        refine g_if (fun w3 => nz (by rw [e1, if_neg (fun z => by have := z.2; omega)])) (fun w3 => ?_)
        refine g_getr 20 346 rfl hS.k336 hm.f_336_20 (by decide) ?_
        refine g_C ?_
        refine g_A (by omega) (by omega) ?_
        refine g_ldu hS.k346 hS.l346 (by omega) (by omega) (fun v4 ev4 => ?_)
        refine nx _ _ ?_
        rw [e1, if_pos ⟨by omega, by omega⟩, ev4]
    exact ⟨5, L 5 0 (by omega) (by omega)⟩
  · rw [if_neg ic] at hk
    refine ⟨1, ?_⟩
    refine u_X12_heatIn_4 ?_
    refine g_getr 20 346 rfl hS.k336 hm.f_336_20 (by decide) ?_
    refine g_C ?_
    refine g_ldu hS.k346 hS.l346 (by omega) (by omega) (fun v ev => ?_)
    refine g_if (fun w => hk (by omega) (by omega)) (fun w => ?_)
    refine g_getu 23 rfl hS.k336 (fun v1 ev1 => ?_)
    exact g_if (fun w1 => hk (by omega) (by omega)) (fun w1 => absurd (ev1.symm.trans (by omega)) ic)
theorem ht_eq {M : Mm} {D : Int → Int} {t : Int} (h : TL 4 D M) : ht8 M t = htR D t := by
  obtain ⟨⟨c0, c1, c2, c3, c4, c5, c6, c7⟩, r, hs, ts, ws⟩ := h
  unfold ht8 htR
  rw [c6]
  exact htF_same _ (fun k k0 k1 => ts k k0 (by omega))
theorem zh_heat10 {X : Mm} {S : Sh} {m : Mm} {K : Int → Mm → Prop} {t : Int} (hS : Shp S) (hm : Inv X S m) (hk : 0 ≤ (if m 55 2 = 0 then ht8 m t else 0) → (if m 55 2 = 0 then ht8 m t else 0) ≤ 20 → K (if m 55 2 = 0 then ht8 m t else 0) m) : wp_X10_heatIn S m 55 t K := by
  refine u_X10_heatIn ?_
  refine g_getu 2 rfl hS.k55 (fun v ev => ?_)
  by_cases ic : m 55 2 = 0
  · rw [if_pos ic] at hk
    refine g_ifT (ev.trans ic) ?_
    refine g_getr 0 4 rfl hS.k55 hm.f_55_0 (by decide) ?_
    refine ⟨hS.k4, ?_⟩
    exact zh_heat8 hS hm hk
  · rw [if_neg ic] at hk
    exact g_ifF (fun z => ic (ev.symm.trans z)) (g_C (hk (by omega) (by omega)))
