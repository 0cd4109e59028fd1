theorem zo_opens {X : Mm} {S : Sh} {m : Mm} {K : Int → Mm → Prop} {s : Int} (hS : Shp S) (hm : Inv X S m) (h16 : m 336 16 ≤ 399) (hf : ∀ M1 : Mm, Inv X S M1 → ¬ M1 336 9 = 0 → K 0 M1) (hk : ∀ M1 : Mm, Inv X S M1 → (∀ c p : Int, ¬ (c = 336 ∧ (p = 13 ∨ p = 16)) ∧ ¬ (c = 343 ∧ p = m 336 16) → M1 c p = m c p) → M1 336 16 = m 336 16 + 1 → M1 343 (m 336 16) = s → K 1 M1) : wp_X12_opens S m 336 s K := by
  have b16 := hm.f_336_16
  have b8 := hm.f_336_8
  refine u_X12_opens ?_
  refine g_get 13 (-2147483648) (2147483647) rfl hS.k336 hm.f_336_13 (fun v ev bv cv => ?_)
  refine g_C ?_
  refine g_if (fun w => ?_) (fun w => ?_)
  · refine g_get 13 (-2147483648) (2147483647) rfl hS.k336 hm.f_336_13 (fun v2 ev2 bv2 cv2 => ?_)
    refine g_C ?_
    refine g_Aw (fun d bd' cd => ?_)
    refine g_put 13 rfl hS.k336 (hm.w_336_13 bd' cd) (fun m1 e1 hm1 => ?_)
    have f1 : ∀ c p : Int, ¬ (c = 336 ∧ p = 13) → m1 c p = m c p := fun c p q => (congrFun (congrFun e1 _) _).trans (up_ne q)
    refine g_getr 15 343 rfl hS.k336 hm1.f_336_15 (by decide) ?_
    refine g_getu 16 rfl hS.k336 (fun o eo => ?_)
    rw [f1 336 16 (by omega)] at eo
    refine g_st hS.k343 hS.l343 (by omega) (by omega) (hm1.wa_343 (by omega) (by omega)) (fun m2 e2 hm2 => ?_)
    have f2 : ∀ c p : Int, ¬ (c = 343 ∧ p = o) → m2 c p = m1 c p := fun c p q => (congrFun (congrFun e2 _) _).trans (up_ne q)
    have x2 : m2 343 o = s := (congrFun (congrFun e2 _) _).trans (up_at _ _ _ _)
    refine g_getu 16 rfl hS.k336 (fun o2 eo2 => ?_)
    rw [f2 336 16 (by omega), f1 336 16 (by omega)] at eo2
    refine g_C ?_
    refine g_A (by omega) (by omega) ?_
    refine g_put 16 rfl hS.k336 (hm2.w_336_16 (by omega) (by omega)) (fun m3 e3 hm3 => ?_)
    have f3 : ∀ c p : Int, ¬ (c = 336 ∧ p = 16) → m3 c p = m2 c p := fun c p q => (congrFun (congrFun e3 _) _).trans (up_ne q)
    have x3 : m3 336 16 = o2 + 1 := (congrFun (congrFun e3 _) _).trans (up_at _ _ _ _)
    refine g_C ⟨by decide, hk m3 hm3 (fun c p q => ?_) (by omega) ?_⟩
    · rw [f3 c p (by omega), f2 c p (by omega), f1 c p (by omega)]
    · rw [f3 343 _ (by omega), ← eo]
      exact x2
  · refine g_C ?_
    refine g_get 8 (0) (400) rfl hS.k336 hm.f_336_8 (fun v2 ev2 bv2 cv2 => ?_)
    refine ⟨hS.k336, ?_⟩
    refine z_X12_fails hS hm (by decide) (by decide) (by omega) (by omega) (fun r3 m3 hm3 f3 b3 c3 y6 => ?_)
    obtain rfl : r3 = 0 := by omega
    exact ⟨by decide, hf m3 hm3 y6⟩
theorem zo_isInside {X : Mm} {S : Sh} {m : Mm} {K : Int → Mm → Prop} (hS : Shp S) (hm : Inv X S m) (k1 : ∀ j : Int, 0 ≤ j → j < m 336 16 → m 343 j = 91 → K 1 m) (k0 : (∀ j : Int, 0 ≤ j → j < m 336 16 → ¬ m 343 j = 91) → K 0 m) : wp_X12_isInside S m 336 K := by
  have b16 := hm.f_336_16
  refine u_X12_isInside ?_
  refine g_C ?_
  have L : ∀ (n : Nat) (i : Int), 0 ≤ i → i ≤ m 336 16 → (∀ j : Int, 0 ≤ j → j < i → ¬ m 343 j = 91) → 401 - i ≤ (n : Int) → wp_X12_isInside_2 S K n 336 i m := by
    intro n
    induction n with
    | zero => intro i _ _ _ h; exfalso; omega
    | succ n ih =>
      intro i i0 i1 hn h
      refine u_X12_isInside_2 ?_
      refine g_getu 16 rfl hS.k336 (fun v ev => ?_)
      refine g_if (fun w => ?_) (fun w => ?_)
      · exact g_C ⟨by decide, k0 (fun j a b => hn j a (by omega))⟩
      · refine g_getr 15 343 rfl hS.k336 hm.f_336_15 (by decide) ?_
        refine g_ldu hS.k343 hS.l343 (by omega) (by omega) (fun x ex => ?_)
        refine g_C ?_
        refine g_if (fun w2 => ?_) (fun w2 => ?_)
        · refine g_A (by omega) (by omega) ?_
          refine ih (i + 1) (by omega) (by omega) (fun j a b => ?_) (by omega)
          by_cases e : j = i
          · rw [e, ← ex]; exact w2
          · exact hn j a (by omega)
        · exact g_C ⟨by decide, k1 i i0 (by omega) (by omega)⟩
  exact ⟨401, L 401 0 (by omega) (by omega) (fun j a b => absurd b (by omega)) (by omega)⟩
/-- how many of the first n are AND or OR -/
def nbf (f : Int → Int) : Nat → Int
  | 0 => 0
  | n + 1 => nbf f n + (if f n = 12 ∨ f n = 13 then 1 else 0)
theorem nbf_nn (f : Int → Int) : ∀ n : Nat, 0 ≤ nbf f n := by
  intro n
  induction n with
  | zero => exact Int.le_refl 0
  | succ n ih =>
    show 0 ≤ nbf f n + (if f n = 12 ∨ f n = 13 then 1 else 0)
    split <;> omega
theorem nbf_same {f g : Int → Int} : ∀ n : Nat, (∀ j : Int, 0 ≤ j → j < n → f j = g j) → nbf f n = nbf g n := by
  intro n
  induction n with
  | zero => intro _; rfl
  | succ n ih =>
    intro h
    show nbf f n + (if f n = 12 ∨ f n = 13 then 1 else 0) = nbf g n + (if g n = 12 ∨ g n = 13 then 1 else 0)
    rw [ih (fun j a b => h j a (by omega)), h n (by omega) (by omega)]
def nb (M : Mm) : Int := nbf (M 343) (M 336 16).toNat
theorem nbf_top {f : Int → Int} {o : Int} (h : 0 ≤ o) : nbf f (o + 1).toNat = nbf f o.toNat + (if f o = 12 ∨ f o = 13 then 1 else 0) := by
  rw [show (o + 1).toNat = o.toNat + 1 by omega]
  show nbf f o.toNat + (if f (o.toNat : Int) = 12 ∨ f (o.toNat : Int) = 13 then 1 else 0) = _
  rw [Int.toNat_of_nonneg h]
/-- amid a test: k to spare, e: a fact stands behind the last AND, OR -/
def Ts (X M : Mm) (k b e : Int) : Prop := GX X M ∧ Qs M b (nb M + e) ∧ (0 ≤ e ∧ e ≤ 1) ∧ nb M + e ≤ M 336 12 ∧ M 339 (M 336 11) + M 336 16 + k ≤ M 336 8 ∧ ∀ j : Int, 0 ≤ j → j < M 336 16 → M 343 j = 11 ∨ M 343 j = 12 ∨ M 343 j = 13 ∨ M 343 j = 91
theorem Ts.fr {X m m1 : Mm} {k b e : Int} (h : Ts X m k b e) (f : ∀ c p : Int, ¬ (c = 336 ∧ 8 ≤ p ∧ p ≤ 13 ∧ ¬ p = 11) → m1 c p = m c p) (h8 : m 336 8 ≤ m1 336 8) (h12 : m 336 12 ≤ m1 336 12) : Ts X m1 k b e ∧ Adv m m1 := by
  obtain ⟨g, hq, he, hn, hl, ho⟩ := h
  have A := AdvS.of f h8 h12
  have e43 : m1 343 = m 343 := funext (fun p => f 343 p (by omega))
  have e16 : m1 336 16 = m 336 16 := f 336 16 (by omega)
  have en : nb m1 = nb m := by unfold nb; rw [e43, e16]
  have el : m1 339 (m1 336 11) = m 339 (m 336 11) := by rw [f 336 11 (by omega), f 339 _ (by omega)]
  refine ⟨⟨g.adv A.1, ?_, he, by omega, by omega, ?_⟩, A.1⟩
  · rw [en]
    exact hq.same (fun p => f 338 p (by omega)) (fun p => f 339 p (by omega)) (f 336 11 (by omega))
  · rw [e43, e16]
    exact ho
theorem Ts.slack {X m : Mm} {k k1 b e : Int} (h : Ts X m k b e) (h1 : m 339 (m 336 11) + m 336 16 + k1 ≤ m 336 8) : Ts X m k1 b e := ⟨h.1, h.2.1, h.2.2.1, h.2.2.2.1, h1, h.2.2.2.2.2⟩
theorem Adv.rfl' (m : Mm) : Adv m m := (AdvS.rfl' m).1
def strn (x : Int) : Int := if x = 13 then 1 else if x = 12 then 2 else if x = 11 then 3 else 0
theorem zl_strength {S : Sh} {m : Mm} {K : Int → Mm → Prop} {x : Int} (h : K (strn x) m) : wp_X12_strength S m x K := by
  refine u_X12_strength ?_
  unfold strn at h
  refine g_C ?_
  refine g_if (fun w => ?_) (fun w => ?_)
  · rw [if_neg w] at h
    refine g_C ?_
    refine g_if (fun w2 => ?_) (fun w2 => ?_)
    · rw [if_neg w2] at h
      refine g_C ?_
      refine g_if (fun w3 => ?_) (fun w3 => ?_)
      · rw [if_neg w3] at h
        exact g_C h
      · rw [if_pos (by omega)] at h
        exact g_C h
    · rw [if_pos (by omega)] at h
      exact g_C h
  · rw [if_pos (by omega)] at h
    exact g_C h
theorem strn_c (x : Int) : (x = 13 ∧ strn x = 1) ∨ (x = 12 ∧ strn x = 2) ∨ (x = 11 ∧ strn x = 3) ∨ (¬ x = 11 ∧ ¬ x = 12 ∧ ¬ x = 13 ∧ strn x = 0) := by
  unfold strn
  split
  · omega
  · split
    · omega
    · split <;> omega
theorem zo_settles {X : Mm} {S : Sh} {m0 : Mm} {K : Mm → Prop} {k b u : Int} (hS : Shp S) (hm0 : Inv X S m0) (ht : Ts X m0 k b 1) (hk0 : 0 ≤ k) (hu : 1 ≤ u) (hk : ∀ M1 : Mm, Inv X S M1 → Ts X M1 k b 1 → Adv m0 M1 → M1 336 8 = m0 336 8 → (∀ p : Int, M1 343 p = m0 343 p) → M1 336 16 ≤ m0 336 16 → (∀ j : Int, 0 ≤ j → j < m0 336 16 → m0 343 j = 91 → j < M1 336 16) → (M1 336 16 = 0 ∨ ¬ u = 1 ∨ M1 343 (M1 336 16 - 1) = 91) → K M1) : wp_X12_settles S m0 336 u K := by
  refine u_X12_settles ?_
  have L : ∀ (n : Nat) (m : Mm), Inv X S m → Ts X m k b 1 → Adv m0 m → m 336 8 = m0 336 8 → (∀ p : Int, m 343 p = m0 343 p) → m 336 16 ≤ m0 336 16 → (∀ j : Int, 0 ≤ j → j < m0 336 16 → m0 343 j = 91 → j < m 336 16) → m 336 16 + 1 ≤ (n : Int) → wp_X12_settles_0 S K n 336 u m := by
    intro n
    induction n with
    | zero =>
      intro m hm _ _ _ _ _ _ h
      have b16 := hm.f_336_16
      exfalso; omega
    | succ n ih =>
      intro m hm t A e8 e43 l16 br h
      have b16 := hm.f_336_16
      have b8 := hm.f_336_8
      obtain ⟨g, hq, he, hn, hl, ho⟩ := id t
      refine u_X12_settles_0 ?_
      refine g_getu 16 rfl hS.k336 (fun v ev => ?_)
      refine g_if (fun w => ?_) (fun w => ?_)
      · exact hk m hm t A e8 e43 l16 br (Or.inl (by omega))
      · refine g_getr 15 343 rfl hS.k336 hm.f_336_15 (by decide) ?_
        refine g_getu 16 rfl hS.k336 (fun v2 ev2 => ?_)
        refine g_C ?_
        refine g_S (by omega) (by omega) ?_
        refine g_ldu hS.k343 hS.l343 (by omega) (by omega) (fun x ex => ?_)
        rw [ev2] at ex
        refine zl_strength ?_
        have sc := strn_c x
        have ox := ho (m 336 16 - 1) (by omega) (by omega)
        rw [← ex] at ox
        refine g_if (fun w2 => ?_) (fun w2 => ?_)
        · refine hk m hm t A e8 e43 l16 br ?_
          by_cases eu : u = 1
          · refine Or.inr (Or.inr ?_)
            omega
          · exact Or.inr (Or.inl eu)
        · refine g_getu 16 rfl hS.k336 (fun v3 ev3 => ?_)
          refine g_C ?_
          refine g_S (by omega) (by omega) ?_
          refine g_put 16 rfl hS.k336 (hm.w_336_16 (by omega) (by omega)) (fun m2 e2 hm2 => ?_)
          have f2 : ∀ c p : Int, ¬ (c = 336 ∧ p = 16) → m2 c p = m c p := fun c p q => (congrFun (congrFun e2 _) _).trans (up_ne q)
          have x2 : m2 336 16 = v3 - 1 := (congrFun (congrFun e2 _) _).trans (up_at _ _ _ _)
          have t2 : m2 336 11 = m 336 11 := f2 336 11 (by omega)
          have l2 : m2 339 (m2 336 11) = m 339 (m 336 11) := by rw [t2, f2 339 _ (by omega)]
          have q2 : Qs m2 b (nb m + 1) := hq.same (fun p => f2 338 p (by omega)) (fun p => f2 339 p (by omega)) t2
          refine g_getr 15 343 rfl hS.k336 hm2.f_336_15 (by decide) ?_
          refine g_getu 16 rfl hS.k336 (fun v4 ev4 => ?_)
          refine g_ldu hS.k343 hS.l343 (by omega) (by omega) (fun y ey => ?_)
          have exy : y = x := by
            rw [ey, ex, f2 343 _ (by omega)]
            congr 1
            omega
          rw [exy]
          refine g_C ?_
          refine ⟨hS.k336, ?_⟩
          have g2 : GX X m2 := ⟨t2.trans g.1, g.2⟩
          refine zp_puts hS hm2 g2 (by omega) (by omega) (by decide) (by decide) (by omega) (fun m3 hm3 f3 h3 s3 => ?_)
          have A3 := puts_adv f3 h3
          have o3 : m3 336 16 = m 336 16 - 1 := by rw [f3 336 16 (by omega)]; omega
          have e433 : ∀ p : Int, m3 343 p = m0 343 p := fun p => by rw [f3 343 p (by omega), f2 343 p (by omega), e43]
          have f43 : m3 343 = m 343 := funext (fun p => by rw [e433, e43])
          have nb3 : nb m = nb m3 + (if x = 12 ∨ x = 13 then 1 else 0) := by
            unfold nb
            rw [o3, f43, show m 336 16 = m 336 16 - 1 + 1 by omega, nbf_top (by omega), show m 336 16 - 1 + 1 - 1 = m 336 16 - 1 by omega, ← ex]
          have nn := nbf_nn (m3 343) (m3 336 16).toNat
          have nn' : 0 ≤ nb m3 := nn
          have q3 : Qs m3 b (nb m3 + 1) := by
            by_cases z : x = 12 ∨ x = 13
            · rw [if_pos z] at nb3
              have zz := ps_two (s := x) (d := nb m + 1) (by omega) (by omega) (by omega) (by omega)
              rw [show nb m + 1 - 1 = nb m3 + 1 by omega] at zz
              exact q2.push A3.1.2.1 h3 s3 A3.1.2.2.1 zz
            · rw [if_neg z] at nb3
              have x11 : x = 11 := by omega
              rw [x11] at s3
              have zz := ps_not (d := nb m + 1) (by omega)
              rw [show nb m + 1 = nb m3 + 1 by omega] at zz q2
              exact q2.push A3.1.2.1 h3 s3 A3.1.2.2.1 zz
          have e83 : m3 336 8 = m 336 8 := by rw [f3 336 8 (by omega), f2 336 8 (by omega)]
          have e12 : m3 336 12 = m 336 12 := by rw [f3 336 12 (by omega), f2 336 12 (by omega)]
          have l3 : m3 339 (m3 336 11) = m 339 (m 336 11) + 1 := by rw [A3.1.2.1, h3]; omega
          have nle : nb m3 ≤ nb m := by
            rw [nb3]
            split <;> omega
          have t3 : Ts X m3 k b 1 := ⟨g2.adv A3.1, q3, he, by omega, by omega, fun j j0 j1 => by rw [e433, ← e43]; exact ho j j0 (by omega)⟩
          have A2 : Adv m m2 := Adv.of (fun c p q => f2 c p (by omega)) (by rw [f2 336 8 (by omega)]; omega) (by rw [f2 336 12 (by omega)]; omega)
          have A03 : Adv m0 m3 := (A.trans A2).trans A3.1
          have br3 : ∀ j : Int, 0 ≤ j → j < m0 336 16 → m0 343 j = 91 → j < m3 336 16 := by
            intro j j0 j1 j2
            have z := br j j0 j1 j2
            by_cases ej : j = m 336 16 - 1
            · rw [← ej, e43, j2] at ex
              omega
            · omega
          refine g_getr 15 343 rfl hS.k336 hm3.f_336_15 (by decide) ?_
          refine g_getu 16 rfl hS.k336 (fun v5 ev5 => ?_)
          refine g_ldu hS.k343 hS.l343 (by omega) (by omega) (fun z ez => ?_)
          refine g_C ?_
          refine g_if (fun w3 => ?_) (fun w3 => ?_)
          · exact ih m3 hm3 t3 A03 (by omega) e433 (by omega) br3 (by omega)
          · refine g_getu 13 rfl hS.k336 (fun v6 ev6 => ?_)
            refine g_C ?_
            refine g_Sw (fun dd bdd cdd => ?_)
            refine g_put 13 rfl hS.k336 (hm3.w_336_13 bdd cdd) (fun m4 e4 hm4 => ?_)
            have f4 : ∀ c p : Int, ¬ (c = 336 ∧ p = 13) → m4 c p = m3 c p := fun c p q => (congrFun (congrFun e4 _) _).trans (up_ne q)
            obtain ⟨t4, A4⟩ := t3.fr (m1 := m4) (fun c p q => f4 c p (by omega)) (by rw [f4 336 8 (by omega)]; omega) (by rw [f4 336 12 (by omega)]; omega)
            have o4 : m4 336 16 = m3 336 16 := f4 336 16 (by omega)
            exact ih m4 hm4 t4 (A03.trans A4) (by rw [f4 336 8 (by omega)]; omega) (fun p => by rw [f4 343 p (by omega), e433]) (by omega) (fun j j0 j1 j2 => by rw [o4]; exact br3 j j0 j1 j2) (by omega)
  have b16 := hm0.f_336_16
  exact ⟨401, L 401 m0 hm0 ht (Adv.rfl' m0) rfl (fun _ => rfl) (by omega) (fun j _ j1 _ => j1) (by omega)⟩
