/-! the reference's row of what waits, as the pile -/
def OQ (M : Mm) (P : List Int) : Prop := pl (M 343) (M 336 16).toNat = P.map en ∧ M 336 13 = (nDp P : Int) ∧ nDp P ≤ 10 ∧ ∀ x : Int, x ∈ P → x = -27 ∨ x = -22 ∨ x = -23 ∨ x = -24
theorem OQ.same {m m1 : Mm} {P : List Int} (h : OQ m P) (f : ∀ p : Int, m1 343 p = m 343 p) (o : m1 336 16 = m 336 16) (d : m1 336 13 = m 336 13) : OQ m1 P := by
  have e : m1 343 = m 343 := funext f
  unfold OQ
  rw [e, o, d]
  exact h
def nbP : List Int → Nat
  | [] => 0
  | x :: P => (if x = -23 ∨ x = -24 then 1 else 0) + nbP P
def rpt (n : Nat) : List Bool := List.replicate n true
theorem rpt_s (n : Nat) : rpt (n + 1) = true :: rpt n := rfl
/-- what is put of it keeps the types -/
theorem ty_settle {u : Int} : ∀ (P V : List Int), (∀ x : Int, x ∈ P → x = -27 ∨ x = -22 ∨ x = -23 ∨ x = -24) → tyl V = some (true :: rpt (nbP P)) → tyl (V ++ uW u P) = some (true :: rpt (nbP (uR u P))) := by
  intro P
  induction P with
  | nil =>
    intro V _ h
    show tyl (V ++ []) = _
    rw [List.append_nil]
    exact h
  | cons x P ih =>
    intro V hx h
    by_cases e : x = -27 ∨ bnS x < u
    · rw [(uW_low e).1, (uW_low e).2, List.append_nil]
      exact h
    · rw [(uW_top e).1, (uW_top e).2, show V ++ x :: uW u P = (V ++ [x]) ++ uW u P by rw [List.append_assoc]; rfl]
      refine ih (V ++ [x]) (fun y hy => hx y (List.mem_cons_of_mem _ hy)) ?_
      have h' : tyl V = some (true :: rpt ((if x = -23 ∨ x = -24 then 1 else 0) + nbP P)) := h
      rw [tyl_snoc, h']
      rcases hx x (List.mem_cons_self ..) with z | z | z
      · exact absurd (Or.inl z) e
      · rw [z]
        show ty1 (some (true :: rpt (0 + nbP P))) (-22) = _
        rw [Nat.zero_add]
        exact ty_not
      · rw [if_pos z, Nat.add_comm, rpt_s]
        exact ty_two z
theorem pl_in {f : Int → Int} : ∀ (n : Nat) (v : Int), v ∈ pl f n ↔ ∃ j : Int, 0 ≤ j ∧ j < n ∧ f j = v := by
  intro n v
  induction n with
  | zero => exact ⟨fun h => (by cases h), fun h => (by obtain ⟨j, h1, h2, h3⟩ := h; exfalso; omega)⟩
  | succ n ih =>
    show v ∈ f (n : Int) :: pl f n ↔ _
    rw [List.mem_cons, ih]
    refine ⟨fun h => ?_, fun h => ?_⟩
    · rcases h with h | ⟨j, h1, h2, h3⟩
      · exact ⟨n, by omega, by omega, h.symm⟩
      · exact ⟨j, h1, by omega, h3⟩
    · obtain ⟨j, h1, h2, h3⟩ := h
      by_cases e : j = n
      · left; rw [← h3, e]
      · right; exact ⟨j, h1, by omega, h3⟩
theorem nOp_in : ∀ P : List Int, ¬ nOp P = 0 ↔ (-27 : Int) ∈ P := by
  intro P
  induction P with
  | nil => exact ⟨fun h => absurd rfl h, fun h => (by cases h)⟩
  | cons x P ih =>
    show ¬ (if x = -27 then 1 else 0) + nOp P = 0 ↔ _
    rw [List.mem_cons, ← ih]
    by_cases e : x = -27
    · rw [if_pos e]
      exact ⟨fun _ => Or.inl e.symm, fun _ => by omega⟩
    · rw [if_neg e]
      exact ⟨fun h => Or.inr (by omega), fun h => by rcases h with h | h; exact absurd h.symm e; omega⟩
theorem en_91 {x : Int} (h : x = -27 ∨ x = -22 ∨ x = -23 ∨ x = -24) : (en x = 91 ↔ x = -27) ∧ (en x = 11 ↔ x = -22) ∧ (en x = 12 ↔ x = -23) ∧ (en x = 13 ↔ x = -24) := by
  rcases h with h | h | h | h <;> subst h <;> decide
theorem OQ.in {m : Mm} {P : List Int} (h : OQ m P) : ¬ nOp P = 0 ↔ ∃ j : Int, 0 ≤ j ∧ j < m 336 16 ∧ m 343 j = 91 := by
  obtain ⟨h1, h2, h3, h4⟩ := h
  have q := pl_in (f := m 343) (m 336 16).toNat 91
  rw [h1] at q
  have q2 : (91 : Int) ∈ P.map en ↔ (-27 : Int) ∈ P := by
    refine ⟨fun z => ?_, fun z => ?_⟩
    · obtain ⟨x, x1, x2⟩ := List.mem_map.mp z
      have e := ((en_91 (h4 x x1)).1).mp x2
      rw [← e]; exact x1
    · exact List.mem_map.mpr ⟨-27, z, rfl⟩
  rw [nOp_in, ← q2, q]
  refine ⟨fun z => ?_, fun z => ?_⟩
  · obtain ⟨j, j0, j1, j2⟩ := z
    exact ⟨j, j0, by omega, j2⟩
  · obtain ⟨j, j0, j1, j2⟩ := z
    exact ⟨j, j0, by omega, j2⟩
theorem OQ.push {m m1 : Mm} {P : List Int} {x : Int} (h : OQ m P) (h0 : 0 ≤ m 336 16) (f : ∀ j : Int, 0 ≤ j → j < m 336 16 → m1 343 j = m 343 j) (o : m1 336 16 = m 336 16 + 1) (hx : m1 343 (m 336 16) = en x) (hd : m1 336 13 = m 336 13 + (if x = -27 ∨ x = -22 then 1 else 0)) (hl : nDp (x :: P) ≤ 10) (hv : x = -27 ∨ x = -22 ∨ x = -23 ∨ x = -24) : OQ m1 (x :: P) := by
  obtain ⟨h1, h2, h3, h4⟩ := h
  refine ⟨?_, ?_, hl, fun y hy => ?_⟩
  · rw [o, show (m 336 16 + 1).toNat = (m 336 16).toNat + 1 by omega]
    show m1 343 (((m 336 16).toNat : Nat) : Int) :: pl (m1 343) (m 336 16).toNat = en x :: P.map en
    rw [Int.toNat_of_nonneg h0, hx, pl_same (g := m 343) _ (fun j j0 j1 => f j j0 (by omega)), h1]
  · rw [hd, h2]
    show _ = (((if x = -27 ∨ x = -22 then 1 else 0) + nDp P : Nat) : Int)
    split <;> omega
  · rcases List.mem_cons.mp hy with e | e
    · rw [e]; exact hv
    · exact h4 y e
/-- the top: what it is, what is left without it -/
theorem OQ.top {m : Mm} {P : List Int} (h : OQ m P) (h0 : 1 ≤ m 336 16) : ∃ (x : Int) (Q : List Int), P = x :: Q ∧ m 343 (m 336 16 - 1) = en x ∧ pl (m 343) (m 336 16 - 1).toNat = Q.map en ∧ (x = -27 ∨ x = -22 ∨ x = -23 ∨ x = -24) ∧ ∀ y : Int, y ∈ Q → y = -27 ∨ y = -22 ∨ y = -23 ∨ y = -24 := by
  obtain ⟨h1, h2, h3, h4⟩ := h
  rw [show (m 336 16).toNat = (m 336 16 - 1).toNat + 1 by omega] at h1
  have h1' : m 343 (((m 336 16 - 1).toNat : Nat) : Int) :: pl (m 343) (m 336 16 - 1).toNat = P.map en := h1
  rw [show (((m 336 16 - 1).toNat : Nat) : Int) = m 336 16 - 1 by omega] at h1'
  cases P with
  | nil => cases h1'
  | cons x Q =>
    have h1'' : m 343 (m 336 16 - 1) :: pl (m 343) (m 336 16 - 1).toNat = en x :: Q.map en := h1'
    injection h1'' with e1 e2
    exact ⟨x, Q, rfl, e1, e2, h4 x (List.mem_cons_self ..), fun y hy => h4 y (List.mem_cons_of_mem _ hy)⟩
theorem OQ.nil {m : Mm} {P : List Int} (h : OQ m P) (h0 : m 336 16 = 0) : P = [] := by
  have h1 := h.1
  rw [h0] at h1
  cases P with
  | nil => rfl
  | cons x Q => cases h1
theorem zv_opens {X : Mm} {S : Sh} {m : Mm} {K : Int → Mm → Prop} {s x : Int} {P : List Int} (hS : Shp S) (hm : Inv X S m) (h16 : m 336 16 ≤ 399) (h9 : m 336 9 = 0) (rs : OQ m P) (hs : (s = 11 ∧ x = -22) ∨ (s = 91 ∧ x = -27)) (hf : ∀ M1 : Mm, Inv X S M1 → nDp P = 10 → M1 336 9 = 3 + 8 * m 336 8 → K 0 M1) (hk : ∀ M1 : Mm, Inv X S M1 → (∀ c p : Int, ¬ (c = 336 ∧ (p = 13 ∨ p = 16)) ∧ ¬ (c = 343 ∧ p = m 336 16) → M1 c p = m c p) → M1 336 16 = m 336 16 + 1 → M1 343 (m 336 16) = s → ¬ nDp P = 10 → OQ M1 (x :: P) → K 1 M1) : wp_X12_opens S m 336 s K := by
  have b16 := hm.f_336_16
  have b8 := hm.f_336_8
  have r13 := rs.2.1
  have r10 := rs.2.2.1
  refine u_X12_opens ?_
  refine g_get 13 (-2147483648) (2147483647) rfl hS.k336 hm.f_336_13 (fun v ev bv cv => ?_)
  refine g_C ?_
  refine g_if (fun w => ?_) (fun w => ?_)
  · refine g_get 13 (-2147483648) (2147483647) rfl hS.k336 hm.f_336_13 (fun v2 ev2 bv2 cv2 => ?_)
    refine g_C ?_
    refine g_A (by omega) (by omega) ?_
    refine g_put 13 rfl hS.k336 (hm.w_336_13 (by omega) (by omega)) (fun m1 e1 hm1 => ?_)
    have f1 : ∀ c p : Int, ¬ (c = 336 ∧ p = 13) → m1 c p = m c p := fun c p q => (congrFun (congrFun e1 _) _).trans (up_ne q)
    have x1 : m1 336 13 = v2 + 1 := (congrFun (congrFun e1 _) _).trans (up_at _ _ _ _)
    refine g_getr 15 343 rfl hS.k336 hm1.f_336_15 (by decide) ?_
    refine g_getu 16 rfl hS.k336 (fun o eo => ?_)
    rw [f1 336 16 (by first | decide | exact fun z => absurd z.1 (by decide) | exact ⟨fun z => absurd z.1 (by decide), fun z => absurd z.1 (by decide)⟩ | omega)] at eo
    refine g_st hS.k343 hS.l343 (by omega) (by omega) (hm1.wa_343 (by omega) (by omega)) (fun m2 e2 hm2 => ?_)
    have f2 : ∀ c p : Int, ¬ (c = 343 ∧ p = o) → m2 c p = m1 c p := fun c p q => (congrFun (congrFun e2 _) _).trans (up_ne q)
    have x2 : m2 343 o = s := (congrFun (congrFun e2 _) _).trans (up_at _ _ _ _)
    refine g_getu 16 rfl hS.k336 (fun o2 eo2 => ?_)
    rw [f2 336 16 (by first | decide | exact fun z => absurd z.1 (by decide) | exact ⟨fun z => absurd z.1 (by decide), fun z => absurd z.1 (by decide)⟩ | omega), f1 336 16 (by first | decide | exact fun z => absurd z.1 (by decide) | exact ⟨fun z => absurd z.1 (by decide), fun z => absurd z.1 (by decide)⟩ | omega)] at eo2
    refine g_C ?_
    refine g_A (by omega) (by omega) ?_
    refine g_put 16 rfl hS.k336 (hm2.w_336_16 (by omega) (by omega)) (fun m3 e3 hm3 => ?_)
    have f3 : ∀ c p : Int, ¬ (c = 336 ∧ p = 16) → m3 c p = m2 c p := fun c p q => (congrFun (congrFun e3 _) _).trans (up_ne q)
    have x3 : m3 336 16 = o2 + 1 := (congrFun (congrFun e3 _) _).trans (up_at _ _ _ _)
    have F : ∀ c p : Int, ¬ (c = 336 ∧ (p = 13 ∨ p = 16)) ∧ ¬ (c = 343 ∧ p = m 336 16) → m3 c p = m c p := fun c p q => by rw [f3 c p (by first | exact fun y => absurd (y.1 ▸ z) (by decide) | exact fun y => absurd (y.1 ▸ q) (by decide) | exact z | exact q | exact z.1 | exact q.1 | exact z.2 | exact q.2 | omega), f2 c p (by first | exact fun y => absurd (y.1 ▸ z) (by decide) | exact fun y => absurd (y.1 ▸ q) (by decide) | exact z | exact q | exact z.1 | exact q.1 | exact z.2 | exact q.2 | omega), f1 c p (by first | exact fun y => absurd (y.1 ▸ z) (by decide) | exact fun y => absurd (y.1 ▸ q) (by decide) | exact z | exact q | exact z.1 | exact q.1 | exact z.2 | exact q.2 | omega)]
    have xs : m3 343 (m 336 16) = s := by
      rw [f3 343 _ (by first | decide | exact fun z => absurd z.1 (by decide) | exact ⟨fun z => absurd z.1 (by decide), fun z => absurd z.1 (by decide)⟩ | omega), ← eo]
      exact x2
    have x13 : m3 336 13 = m 336 13 + 1 := by rw [f3 336 13 (by first | decide | exact fun z => absurd z.1 (by decide) | exact ⟨fun z => absurd z.1 (by decide), fun z => absurd z.1 (by decide)⟩ | omega), f2 336 13 (by first | decide | exact fun z => absurd z.1 (by decide) | exact ⟨fun z => absurd z.1 (by decide), fun z => absurd z.1 (by decide)⟩ | omega)]; omega
    have nd : nDp (x :: P) = 1 + nDp P := by
      show (if x = -27 ∨ x = -22 then 1 else 0) + nDp P = _
      rw [if_pos (by omega)]
    have es : s = en x := by
      rcases hs with ⟨e1, e2⟩ | ⟨e1, e2⟩
      · rw [e1, e2]; rfl
      · rw [e1, e2]; rfl
    refine g_C ⟨by decide, hk m3 hm3 F (by omega) xs (by omega) (rs.push b16.1 (fun j j0 j1 => F 343 j (by first | decide | exact fun z => absurd z.1 (by decide) | exact ⟨fun z => absurd z.1 (by decide), fun z => absurd z.1 (by decide)⟩ | omega)) (by omega) (xs.trans es) (by rw [if_pos (by omega)]; exact x13) (by omega) (by omega))⟩
  · refine g_C ?_
    refine g_get 8 (0) (400) rfl hS.k336 hm.f_336_8 (fun v2 ev2 bv2 cv2 => ?_)
    refine ⟨hS.k336, ?_⟩
    refine zx_fails hS hm h9 (by decide) (by decide) (by omega) (by omega) (fun m3 hm3 f3 y6 => ?_)
    exact ⟨by decide, hf m3 hm3 (by omega) (by omega)⟩
theorem zv_settles {X : Mm} {S : Sh} {m0 : Mm} {K : Mm → Prop} {k b u : Int} {P R : List Int} (hS : Shp S) (hm0 : Inv X S m0) (ht : Ts X m0 k b 1) (hk0 : 0 ≤ k) (hu : 1 ≤ u) (hu3 : u ≤ 3) (rs0 : OQ m0 P) (rq0 : RQ m0 R) (hk : ∀ M1 : Mm, Inv X S M1 → Ts X M1 k b 1 → Adv m0 M1 → M1 336 8 = m0 336 8 → M1 336 12 = m0 336 12 → M1 336 9 = m0 336 9 → OQ M1 (uR u P) → RQ M1 (R ++ uW u P) → K M1) : wp_X12_settles S m0 336 u K := by
  refine u_X12_settles ?_
  have L : ∀ (n : Nat) (m : Mm) (s r : List Int), Inv X S m → Ts X m k b 1 → Adv m0 m → m 336 8 = m0 336 8 → m 336 12 = m0 336 12 → m 336 9 = m0 336 9 → OQ m s → RQ m r → uR u s = uR u P → r ++ uW u s = R ++ uW u P → m 336 16 + 1 ≤ (n : Int) → wp_X12_settles_0 S K n 336 u m := by
    intro n
    induction n with
    | zero =>
      intro m s r hm _ _ _ _ _ _ _ _ _ h
      have b16 := hm.f_336_16
      exfalso; omega
    | succ n ih =>
      intro m s r hm t A e8 e12' e9 rs rq ds dr h
      have b16 := hm.f_336_16
      have b8 := hm.f_336_8
      obtain ⟨g, hq, he, hn, hl, ho⟩ := id t
      have fin : uW u s = [] → K m := fun z => hk m hm t A e8 e12' e9 (by rw [← ds, uW_nil _ z]; exact rs) (by rw [← dr, z, List.append_nil]; exact rq)
      refine u_X12_settles_0 ?_
      refine g_getu 16 rfl hS.k336 (fun v ev => ?_)
      refine g_if (fun w => ?_) (fun w => ?_)
      · refine fin ?_
        rw [rs.nil (by omega)]
        rfl
      · refine g_getr 15 343 rfl hS.k336 hm.f_336_15 (by decide) ?_
        refine g_getu 16 rfl hS.k336 (fun v2 ev2 => ?_)
        refine g_C ?_
        refine g_S (by omega) (by omega) ?_
        refine g_ldu hS.k343 hS.l343 (by omega) (by omega) (fun x ex => ?_)
        rw [ev2] at ex
        refine zl_strength ?_
        have sc := strn_c x
        obtain ⟨y0, Q, exs, ex0, plQ, yv, Qv⟩ := rs.top (by omega)
        rw [← ex] at ex0
        have y91 := en_91 yv
        rw [← ex0] at y91
        have ybn : (y0 = -27 ∧ x = 91) ∨ (y0 = -22 ∧ x = 11 ∧ bnS y0 = 3) ∨ (y0 = -23 ∧ x = 12 ∧ bnS y0 = 2) ∨ (y0 = -24 ∧ x = 13 ∧ bnS y0 = 1) := by
          rcases yv with e | e | e | e
          · exact Or.inl ⟨e, y91.1.mpr e⟩
          · exact Or.inr (Or.inl ⟨e, y91.2.1.mpr e, by rw [e]; rfl⟩)
          · exact Or.inr (Or.inr (Or.inl ⟨e, y91.2.2.1.mpr e, by rw [e]; rfl⟩))
          · exact Or.inr (Or.inr (Or.inr ⟨e, y91.2.2.2.mpr e, by rw [e]; rfl⟩))
        clear y91
        have ox := ho (m 336 16 - 1) (by omega) (by omega)
        rw [← ex] at ox
        refine g_if (fun w2 => ?_) (fun w2 => ?_)
        · refine fin ?_
          rw [exs]
          exact (uW_low (by omega)).1
        · refine g_getu 16 rfl hS.k336 (fun v3 ev3 => ?_)
          refine g_C ?_
          refine g_S (by omega) (by omega) ?_
          refine g_put 16 rfl hS.k336 (hm.w_336_16 (by omega) (by omega)) (fun m2 e2 hm2 => ?_)
          have f2 : ∀ c p : Int, ¬ (c = 336 ∧ p = 16) → m2 c p = m c p := fun c p q => (congrFun (congrFun e2 _) _).trans (up_ne q)
          have x2 : m2 336 16 = v3 - 1 := (congrFun (congrFun e2 _) _).trans (up_at _ _ _ _)
          have t2 : m2 336 11 = m 336 11 := f2 336 11 (by first | decide | exact fun z => absurd z.1 (by decide) | exact ⟨fun z => absurd z.1 (by decide), fun z => absurd z.1 (by decide)⟩ | omega)
          have l2 : m2 339 (m2 336 11) = m 339 (m 336 11) := by rw [t2, f2 339 _ (by first | decide | exact fun z => absurd z.1 (by decide) | exact ⟨fun z => absurd z.1 (by decide), fun z => absurd z.1 (by decide)⟩ | omega)]
          have q2 : Qs m2 b (nb m + 1) := hq.same (fun p => f2 338 p (by first | decide | exact fun z => absurd z.1 (by decide) | exact ⟨fun z => absurd z.1 (by decide), fun z => absurd z.1 (by decide)⟩ | omega)) (fun p => f2 339 p (by first | decide | exact fun z => absurd z.1 (by decide) | exact ⟨fun z => absurd z.1 (by decide), fun z => absurd z.1 (by decide)⟩ | omega)) t2
          refine g_getr 15 343 rfl hS.k336 hm2.f_336_15 (by decide) ?_
          refine g_getu 16 rfl hS.k336 (fun v4 ev4 => ?_)
          refine g_ldu hS.k343 hS.l343 (by omega) (by omega) (fun y ey => ?_)
          have exy : y = x := by
            rw [ey, ex, f2 343 _ (by first | decide | exact fun z => absurd z.1 (by decide) | exact ⟨fun z => absurd z.1 (by decide), fun z => absurd z.1 (by decide)⟩ | omega)]
            congr 1
            omega
          rw [exy]
          refine g_C ?_
          refine ⟨hS.k336, ?_⟩
          have g2 : GX X m2 := ⟨t2.trans g.1, g.2⟩
          refine zp_puts hS hm2 g2 (by omega) (by omega) (by decide) (by decide) (by omega) (fun m3 hm3 f3 h3 s3 => ?_)
          have A3 := puts_adv f3 h3
          have o3 : m3 336 16 = m 336 16 - 1 := by rw [f3 336 16 (by first | decide | exact fun z => absurd z.1 (by decide) | exact ⟨fun z => absurd z.1 (by decide), fun z => absurd z.1 (by decide)⟩ | omega)]; omega
          have e433 : ∀ p : Int, m3 343 p = m 343 p := fun p => by rw [f3 343 p (by first | decide | exact fun z => absurd z.1 (by decide) | exact ⟨fun z => absurd z.1 (by decide), fun z => absurd z.1 (by decide)⟩ | omega), f2 343 p (by first | decide | exact fun z => absurd z.1 (by decide) | exact ⟨fun z => absurd z.1 (by decide), fun z => absurd z.1 (by decide)⟩ | omega)]
          have f43 : m3 343 = m 343 := funext e433
          have nb3 : nb m = nb m3 + (if x = 12 ∨ x = 13 then 1 else 0) := by
            unfold nb
            rw [o3, f43, show m 336 16 = m 336 16 - 1 + 1 by omega, nbf_top (by omega), show m 336 16 - 1 + 1 - 1 = m 336 16 - 1 by omega, ← ex]
          have nn := nbf_nn (m3 343) (m3 336 16).toNat
          have nn' : 0 ≤ nb m3 := nn
          have q3 : Qs m3 b (nb m3 + 1) := by
            by_cases z : x = 12 ∨ x = 13
            · rw [if_pos z] at nb3
              have zz := ps_two (s := x) (d := nb m + 1) (by omega) (by omega) (by omega) (by omega)
              rw [show nb m + 1 - 1 = nb m3 + 1 by omega] at zz
              exact q2.push A3.1.2.1 h3 s3 A3.1.2.2.1 zz
            · rw [if_neg z] at nb3
              have x11 : x = 11 := by omega
              rw [x11] at s3
              have zz := ps_not (d := nb m + 1) (by omega)
              rw [show nb m + 1 = nb m3 + 1 by omega] at zz q2
              exact q2.push A3.1.2.1 h3 s3 A3.1.2.2.1 zz
          have e83 : m3 336 8 = m 336 8 := by rw [f3 336 8 (by first | decide | exact fun z => absurd z.1 (by decide) | exact ⟨fun z => absurd z.1 (by decide), fun z => absurd z.1 (by decide)⟩ | omega), f2 336 8 (by first | decide | exact fun z => absurd z.1 (by decide) | exact ⟨fun z => absurd z.1 (by decide), fun z => absurd z.1 (by decide)⟩ | omega)]
          have e12 : m3 336 12 = m 336 12 := by rw [f3 336 12 (by first | decide | exact fun z => absurd z.1 (by decide) | exact ⟨fun z => absurd z.1 (by decide), fun z => absurd z.1 (by decide)⟩ | omega), f2 336 12 (by first | decide | exact fun z => absurd z.1 (by decide) | exact ⟨fun z => absurd z.1 (by decide), fun z => absurd z.1 (by decide)⟩ | omega)]
          have e93 : m3 336 9 = m 336 9 := by rw [f3 336 9 (by first | decide | exact fun z => absurd z.1 (by decide) | exact ⟨fun z => absurd z.1 (by decide), fun z => absurd z.1 (by decide)⟩ | omega), f2 336 9 (by first | decide | exact fun z => absurd z.1 (by decide) | exact ⟨fun z => absurd z.1 (by decide), fun z => absurd z.1 (by decide)⟩ | omega)]
          have e13 : m3 336 13 = m 336 13 := by rw [f3 336 13 (by first | decide | exact fun z => absurd z.1 (by decide) | exact ⟨fun z => absurd z.1 (by decide), fun z => absurd z.1 (by decide)⟩ | omega), f2 336 13 (by first | decide | exact fun z => absurd z.1 (by decide) | exact ⟨fun z => absurd z.1 (by decide), fun z => absurd z.1 (by decide)⟩ | omega)]
          have l3 : m3 339 (m3 336 11) = m 339 (m 336 11) + 1 := by rw [A3.1.2.1, h3]; omega
          have nle : nb m3 ≤ nb m := by
            rw [nb3]
            split <;> omega
          have t3 : Ts X m3 k b 1 := ⟨g2.adv A3.1, q3, he, by omega, by omega, fun j j0 j1 => by rw [e433]; exact ho j j0 (by omega)⟩
          have A2 : Adv m m2 := Adv.of (fun c p q => f2 c p (by first | exact fun y => absurd (y.1 ▸ z) (by decide) | exact fun y => absurd (y.1 ▸ q) (by decide) | exact z | exact q | exact z.1 | exact q.1 | exact z.2 | exact q.2 | omega)) (by rw [f2 336 8 (by first | decide | exact fun z => absurd z.1 (by decide) | exact ⟨fun z => absurd z.1 (by decide), fun z => absurd z.1 (by decide)⟩ | omega)]; omega) (by rw [f2 336 12 (by first | decide | exact fun z => absurd z.1 (by decide) | exact ⟨fun z => absurd z.1 (by decide), fun z => absurd z.1 (by decide)⟩ | omega)]; omega)
          have A03 : Adv m0 m3 := (A.trans A2).trans A3.1
          have r2 := rs.2.1
          have r3 := rs.2.2.1
          have bl2 := hm2.a_339 (i := m2 336 11) (by have := g2.1; have := g2.2; omega) (by have := g2.1; have := g2.2; omega)
          have rq2 : RQ m2 r := rq.same (fun c p z => f2 c p (by first | exact fun y => absurd (y.1 ▸ z) (by decide) | exact fun y => absurd (y.1 ▸ q) (by decide) | exact z | exact q | exact z.1 | exact q.1 | exact z.2 | exact q.2 | omega))
          have rq3 : RQ m3 (r ++ [y0]) := rq2.push bl2.1 f3 h3 s3 (by rw [← ex0]; omega)
          have ty := uW_top (u := u) (s := y0) (P := Q) (by omega)
          have ds3 : uR u Q = uR u P := by rw [← ds, exs]; exact ty.2.symm
          have dr3 : (r ++ [y0]) ++ uW u Q = R ++ uW u P := by
            rw [← dr, exs, ty.1, List.append_assoc]
            rfl
          have nd : nDp s = (if y0 = -27 ∨ y0 = -22 then 1 else 0) + nDp Q := by rw [exs]; rfl
          have pl3 : pl (m3 343) (m3 336 16).toNat = Q.map en := by rw [f43, o3]; exact plQ
          refine g_getr 15 343 rfl hS.k336 hm3.f_336_15 (by decide) ?_
          refine g_getu 16 rfl hS.k336 (fun v5 ev5 => ?_)
          refine g_ldu hS.k343 hS.l343 (by omega) (by omega) (fun z ez => ?_)
          have ezx : z = x := by
            rw [ez, ex, e433]
            congr 1
            omega
          refine g_C ?_
          refine g_if (fun w3 => ?_) (fun w3 => ?_)
          · rw [if_neg (by omega)] at nd
            exact ih m3 Q (r ++ [y0]) hm3 t3 A03 (by omega) (by omega) (by omega) ⟨pl3, by omega, by omega, Qv⟩ rq3 ds3 dr3 (by omega)
          · rw [if_pos (by omega)] at nd
            refine g_getu 13 rfl hS.k336 (fun v6 ev6 => ?_)
            refine g_C ?_
            refine g_S (by omega) (by omega) ?_
            refine g_put 13 rfl hS.k336 (hm3.w_336_13 (by omega) (by omega)) (fun m4 e4 hm4 => ?_)
            have f4 : ∀ c p : Int, ¬ (c = 336 ∧ p = 13) → m4 c p = m3 c p := fun c p q => (congrFun (congrFun e4 _) _).trans (up_ne q)
            have x4 : m4 336 13 = v6 - 1 := (congrFun (congrFun e4 _) _).trans (up_at _ _ _ _)
            obtain ⟨t4, A4⟩ := t3.fr (m1 := m4) (fun c p q => f4 c p (by first | exact fun y => absurd (y.1 ▸ z) (by decide) | exact fun y => absurd (y.1 ▸ q) (by decide) | exact z | exact q | exact z.1 | exact q.1 | exact z.2 | exact q.2 | omega)) (by rw [f4 336 8 (by first | decide | exact fun z => absurd z.1 (by decide) | exact ⟨fun z => absurd z.1 (by decide), fun z => absurd z.1 (by decide)⟩ | omega)]; omega) (by rw [f4 336 12 (by first | decide | exact fun z => absurd z.1 (by decide) | exact ⟨fun z => absurd z.1 (by decide), fun z => absurd z.1 (by decide)⟩ | omega)]; omega)
            have o4 : m4 336 16 = m3 336 16 := f4 336 16 (by first | decide | exact fun z => absurd z.1 (by decide) | exact ⟨fun z => absurd z.1 (by decide), fun z => absurd z.1 (by decide)⟩ | omega)
            have f44 : m4 343 = m3 343 := funext (fun p => f4 343 p (by first | decide | exact fun z => absurd z.1 (by decide) | exact ⟨fun z => absurd z.1 (by decide), fun z => absurd z.1 (by decide)⟩ | omega))
            refine ih m4 Q (r ++ [y0]) hm4 t4 (A03.trans A4) (by rw [f4 336 8 (by first | decide | exact fun z => absurd z.1 (by decide) | exact ⟨fun z => absurd z.1 (by decide), fun z => absurd z.1 (by decide)⟩ | omega)]; omega) (by rw [f4 336 12 (by first | decide | exact fun z => absurd z.1 (by decide) | exact ⟨fun z => absurd z.1 (by decide), fun z => absurd z.1 (by decide)⟩ | omega)]; omega) (by rw [f4 336 9 (by first | decide | exact fun z => absurd z.1 (by decide) | exact ⟨fun z => absurd z.1 (by decide), fun z => absurd z.1 (by decide)⟩ | omega)]; omega) ⟨by rw [f44, o4]; exact pl3, by omega, by omega, Qv⟩ (rq3.same (fun c p z => f4 c p (by first | exact fun y => absurd (y.1 ▸ z) (by decide) | exact fun y => absurd (y.1 ▸ q) (by decide) | exact z | exact q | exact z.1 | exact q.1 | exact z.2 | exact q.2 | omega))) ds3 dr3 (by omega)
  have b16 := hm0.f_336_16
  exact ⟨401, L 401 m0 P R hm0 ht (Adv.rfl' m0) rfl rfl rfl rs0 rq0 rfl rfl (by omega)⟩
theorem zv_fact {X : Mm} {S : Sh} {m0 : Mm} {K : Int → Mm → Prop} {b : Int} {tb : Int → Int} {tn kk : Int} {T : Int → List Int → Prop} {O0 R0 P0 W0 : List Int} (hS : Shp S) (hm0 : Inv X S m0) (hR : TR X tb tn) (ht : Ts X m0 0 b 0) (lr : Lw tb tn T O0 R0 m0 8 P0 W0 W0 kk (rpt (nbP P0))) (rs0 : OQ m0 P0) (hf : ∀ M1 : Mm, Inv X S M1 → T (M1 336 9) [] → ¬ M1 336 9 = 0 → K 0 M1) (hk : ∀ (M1 : Mm) (Q : List Int), Inv X S M1 → Ts X M1 0 b 1 → Adv m0 M1 → m0 336 8 + 1 ≤ M1 336 8 → Sv tb tn T O0 R0 M1 6 4 Q kk (true :: rpt (nbP Q)) → OQ M1 Q → Nar tb tn M1 → K 1 M1) : wp_X12_fact S m0 336 K := by
  have nb' := hR.2.1
  refine u_X12_fact ?_
  refine g_C ?_
  have L : ∀ (n : Nat) (more : Int) (m : Mm) (s : List Int), Inv X S m → Ts X m 0 b 0 → Adv m0 m → 0 ≤ more → more ≤ 1 → OQ m s → (more = 1 → Lw tb tn T O0 R0 m 8 s W0 W0 kk (rpt (nbP s))) → (more = 0 → Lw tb tn T O0 R0 m 2 s W0 W0 kk (rpt (nbP s))) → 2 * (401 - m 336 8) + more + 1 ≤ (n : Int) → wp_X12_fact_2 S K n 336 more m := by
    intro n
    induction n with
    | zero =>
      intro more m s hm _ _ _ _ _ _ _ h
      have b8 := hm.f_336_8
      exfalso; omega
    | succ n ih =>
      intro more m s hm t A r0 r1 rs ll1 ll0 h
      have b8 := hm.f_336_8
      have b16 := hm.f_336_16
      have a8 : m0 336 8 ≤ m 336 8 := A.2.2.2.2.1
      refine u_X12_fact_2 ?_
      refine g_if (fun w => ?_) (fun w => ?_)
      · refine ⟨hS.k336, ?_⟩
        obtain ⟨g, hq, he, hn, hl, ho⟩ := id t
        have ii : Ina X m (m 336 16) b (nb m) := ⟨g, by omega, by rw [show nb m + 0 = nb m by omega] at hq; exact hq, nbf_nn _ _, by omega, by omega⟩
        have top4 : uW 4 s = [] := by
          have v4 := rs.2.2.2
          cases s with
          | nil => rfl
          | cons x Q =>
            have vx := v4 x (List.mem_cons_self ..)
            refine (uW_low ?_).1
            rcases vx with e | e | e | e
            · exact Or.inl e
            · right; rw [e]; decide
            · right; rw [e]; decide
            · right; rw [e]; decide
        refine zv_compare hS hm hR ii top4 (ll0 w) (fun m1 hm1 n1 t1 => ⟨by decide, hf m1 hm1 n1 t1⟩) (fun m1 hm1 o1 lo xo => ⟨by decide, ?_⟩)
        obtain ⟨A1, q1, l1, p1, d1⟩ := o1
        obtain ⟨A1a, A1b, A1c, A1d⟩ := A1
        have e43 : m1 343 = m 343 := funext A1c
        have en : nb m1 = nb m := by unfold nb; rw [e43, A1b]
        refine hk m1 s hm1 ⟨g.adv A1a, by rw [en]; exact q1, by omega, by omega, by omega, fun j j0 j1 => ?_⟩ (A.trans A1a) (by omega) lo (rs.same A1c A1b A1d) xo
        rw [e43]
        exact ho j j0 (by omega)
      · have l := ll1 (by omega)
        refine g_C ?_
        refine ⟨hS.k336, ?_⟩
        refine zx_see hS hm hR l.2.2.1 (fun r1 q m1 hm1 f1 sk e1 qn y1 => ?_)
        have sk1 := sk.1
        have q0 : 0 ≤ q := by omega
        have c91 := u8_is hR (v := 91) q0 y1 (by decide) (by decide)
        obtain ⟨t1, A1⟩ := t.fr (m1 := m1) (fun c p q => f1 c p (by first | exact fun y => absurd (y.1 ▸ z) (by decide) | exact fun y => absurd (y.1 ▸ q) (by decide) | exact z | exact q | exact z.1 | exact q.1 | exact z.2 | exact q.2 | omega)) (by omega) (by rw [f1 336 12 (by first | decide | exact fun z => absurd z.1 (by decide) | exact ⟨fun z => absurd z.1 (by decide), fun z => absurd z.1 (by decide)⟩ | omega)]; omega)
        have l1 : Lw tb tn T O0 R0 m1 8 s W0 W0 kk (rpt (nbP s)) := l.at (fun c p z => f1 c p (by first | exact fun y => absurd (y.1 ▸ z) (by decide) | exact fun y => absurd (y.1 ▸ q) (by decide) | exact z | exact q | exact z.1 | exact q.1 | exact z.2 | exact q.2 | omega)) sk e1 (f1 336 12 (by first | decide | exact fun z => absurd z.1 (by decide) | exact ⟨fun z => absurd z.1 (by decide), fun z => absurd z.1 (by decide)⟩ | omega)) (f1 336 9 (by first | decide | exact fun z => absurd z.1 (by decide) | exact ⟨fun z => absurd z.1 (by decide), fun z => absurd z.1 (by decide)⟩ | omega)) qn
        have rs1 : OQ m1 s := rs.same (fun p => f1 343 p (by first | decide | exact fun z => absurd z.1 (by decide) | exact ⟨fun z => absurd z.1 (by decide), fun z => absurd z.1 (by decide)⟩ | omega)) (f1 336 16 (by first | decide | exact fun z => absurd z.1 (by decide) | exact ⟨fun z => absurd z.1 (by decide), fun z => absurd z.1 (by decide)⟩ | omega)) (f1 336 13 (by first | decide | exact fun z => absurd z.1 (by decide) | exact ⟨fun z => absurd z.1 (by decide), fun z => absurd z.1 (by decide)⟩ | omega))
        have i1 : Sk tb tn (m1 336 8) q := by rw [e1]; exact sk.idem
        refine g_C ?_
        refine ⟨hS.k336, ?_⟩
        refine zx_isWord 14 hS hm1 hR l1.2.2.1 (by decide) pw14 (fun q' m2 hm2 f2 sk2 e2 qn2 wk => ?_) (fun q' m2 hm2 f2 sk2 e2 qn2 wk => ?_)
        · have eq := i1.uniq sk2
          rw [← eq] at e2 wk
          obtain ⟨t2, A2⟩ := t1.fr (m1 := m2) (fun c p q => f2 c p (by first | exact fun y => absurd (y.1 ▸ z) (by decide) | exact fun y => absurd (y.1 ▸ q) (by decide) | exact z | exact q | exact z.1 | exact q.1 | exact z.2 | exact q.2 | omega)) (by omega) (by rw [f2 336 12 (by first | decide | exact fun z => absurd z.1 (by decide) | exact ⟨fun z => absurd z.1 (by decide), fun z => absurd z.1 (by decide)⟩ | omega)]; omega)
          have l2 : Lw tb tn T O0 R0 m2 8 s W0 W0 kk (rpt (nbP s)) := l1.at (fun c p z => f2 c p (by first | exact fun y => absurd (y.1 ▸ z) (by decide) | exact fun y => absurd (y.1 ▸ q) (by decide) | exact z | exact q | exact z.1 | exact q.1 | exact z.2 | exact q.2 | omega)) i1 e2 (f2 336 12 (by first | decide | exact fun z => absurd z.1 (by decide) | exact ⟨fun z => absurd z.1 (by decide), fun z => absurd z.1 (by decide)⟩ | omega)) (f2 336 9 (by first | decide | exact fun z => absurd z.1 (by decide) | exact ⟨fun z => absurd z.1 (by decide), fun z => absurd z.1 (by decide)⟩ | omega)) qn
          have rs2 : OQ m2 s := rs1.same (fun p => f2 343 p (by first | decide | exact fun z => absurd z.1 (by decide) | exact ⟨fun z => absurd z.1 (by decide), fun z => absurd z.1 (by decide)⟩ | omega)) (f2 336 16 (by first | decide | exact fun z => absurd z.1 (by decide) | exact ⟨fun z => absurd z.1 (by decide), fun z => absurd z.1 (by decide)⟩ | omega)) (f2 336 13 (by first | decide | exact fun z => absurd z.1 (by decide) | exact ⟨fun z => absurd z.1 (by decide), fun z => absurd z.1 (by decide)⟩ | omega))
          have i2 : Sk tb tn (m2 336 8) q := by rw [e2]; exact sk.idem
          have b162 := hm2.f_336_16
          have hl2 := t2.2.2.2.2.1
          have bl2 := t2.2.1.1
          have wn := wrd_no wk (by decide)
          have tls := tl_s.2.2.1
          have tws := tw_s.2.2.1
          have n91 : ¬ (q < tn ∧ tb q = 91) := fun z => by have := z.2; have := wn.2; omega
          refine g_ifF (by decide) ?_
          refine g_C ?_
          refine ⟨hS.k336, ?_⟩
          refine zv_opens (x := -22) hS hm2 (by omega) l2.2.1 rs2 (Or.inl ⟨rfl, rfl⟩) (fun m3 hm3 len e9 => ?_) (fun m3 hm3 f3 o3 x3 nl r11 => ?_)
          · refine g_ifF (by decide) (g_C ⟨by decide, hf m3 hm3 ?_ (by omega)⟩)
            rw [e9, e2]
            exact l2.fault i2 (tb_O (g_ifF n91 (g_ifT wk (g_ifT len ⟨rfl, rfl⟩))))
          · have e3 : m3 336 8 = m2 336 8 := f3 336 8 (by first | decide | exact fun z => absurd z.1 (by decide) | exact ⟨fun z => absurd z.1 (by decide), fun z => absurd z.1 (by decide)⟩ | omega)
            refine g_ifT (by decide) ?_
            refine ⟨hS.k336, ?_⟩
            refine zx_passWord 14 hS hm3 hR (e3.trans e2) q0 (by decide) wk (fun m4 hm4 f4 e4 rn => ?_)
            obtain ⟨t4, A4⟩ := t2.pushop (m1 := m4) (k1 := 0) (e1 := 0) (s := 11) b162.1 (fun c p q => (f4 c p (by first | exact fun y => absurd (y.1 ▸ z) (by decide) | exact fun y => absurd (y.1 ▸ q) (by decide) | exact z | exact q | exact z.1 | exact q.1 | exact z.2 | exact q.2 | omega)).trans (f3 c p (by first | exact fun y => absurd (y.1 ▸ z) (by decide) | exact fun y => absurd (y.1 ▸ q) (by decide) | exact z | exact q | exact z.1 | exact q.1 | exact z.2 | exact q.2 | omega))) (by rw [f4 336 16 (by first | decide | exact fun z => absurd z.1 (by decide) | exact ⟨fun z => absurd z.1 (by decide), fun z => absurd z.1 (by decide)⟩ | omega)]; exact o3) (by rw [f4 343 _ (by first | decide | exact fun z => absurd z.1 (by decide) | exact ⟨fun z => absurd z.1 (by decide), fun z => absurd z.1 (by decide)⟩ | omega)]; exact x3) (by decide) (by omega) (by omega) (by decide) (by decide)
            refine g_C ?_
            refine u_X12_fact_72 ?_
            refine ih 1 m4 (-22 :: s) hm4 t4 (((A.trans A1).trans A2).trans A4) (by decide) (by decide) (r11.same (fun p => f4 343 p (by first | decide | exact fun z => absurd z.1 (by decide) | exact ⟨fun z => absurd z.1 (by decide), fun z => absurd z.1 (by decide)⟩ | omega)) (f4 336 16 (by first | decide | exact fun z => absurd z.1 (by decide) | exact ⟨fun z => absurd z.1 (by decide), fun z => absurd z.1 (by decide)⟩ | omega)) (f4 336 13 (by first | decide | exact fun z => absurd z.1 (by decide) | exact ⟨fun z => absurd z.1 (by decide), fun z => absurd z.1 (by decide)⟩ | omega))) (fun _ => ?_) (fun z => absurd z (by decide)) (by omega)
            exact l2.to i2 (p := q + 3) (c := m2 336 12) (by omega) (by rw [f4 336 12 (by first | decide | exact fun z => absurd z.1 (by decide) | exact ⟨fun z => absurd z.1 (by decide), fun z => absurd z.1 (by decide)⟩ | omega), f3 336 12 (by first | decide | exact fun z => absurd z.1 (by decide) | exact ⟨fun z => absurd z.1 (by decide), fun z => absurd z.1 (by decide)⟩ | omega)]) (by rw [f4 336 9 (by first | decide | exact fun z => absurd z.1 (by decide) | exact ⟨fun z => absurd z.1 (by decide), fun z => absurd z.1 (by decide)⟩ | omega), f3 336 9 (by first | decide | exact fun z => absurd z.1 (by decide) | exact ⟨fun z => absurd z.1 (by decide), fun z => absurd z.1 (by decide)⟩ | omega)]) (by omega) (fun f E hA => tb_O (g_ifF n91 (g_ifT wk (g_ifF nl hA)))) (l2.2.2.2.1.same (fun c p z => (f4 c p (by first | exact fun y => absurd (y.1 ▸ z) (by decide) | exact fun y => absurd (y.1 ▸ q) (by decide) | exact z | exact q | exact z.1 | exact q.1 | exact z.2 | exact q.2 | omega)).trans (f3 c p (by first | exact fun y => absurd (y.1 ▸ z) (by decide) | exact fun y => absurd (y.1 ▸ q) (by decide) | exact z | exact q | exact z.1 | exact q.1 | exact z.2 | exact q.2 | omega)))) (by rw [l2.2.2.2.2]; show some (rpt (nbP s)) = some (rpt (0 + nbP s)); rw [Nat.zero_add])
        · have eq := i1.uniq sk2
          rw [← eq] at e2 wk
          obtain ⟨t2, A2⟩ := t1.fr (m1 := m2) (fun c p q => f2 c p (by first | exact fun y => absurd (y.1 ▸ z) (by decide) | exact fun y => absurd (y.1 ▸ q) (by decide) | exact z | exact q | exact z.1 | exact q.1 | exact z.2 | exact q.2 | omega)) (by omega) (by rw [f2 336 12 (by first | decide | exact fun z => absurd z.1 (by decide) | exact ⟨fun z => absurd z.1 (by decide), fun z => absurd z.1 (by decide)⟩ | omega)]; omega)
          have l2 : Lw tb tn T O0 R0 m2 8 s W0 W0 kk (rpt (nbP s)) := l1.at (fun c p z => f2 c p (by first | exact fun y => absurd (y.1 ▸ z) (by decide) | exact fun y => absurd (y.1 ▸ q) (by decide) | exact z | exact q | exact z.1 | exact q.1 | exact z.2 | exact q.2 | omega)) i1 e2 (f2 336 12 (by first | decide | exact fun z => absurd z.1 (by decide) | exact ⟨fun z => absurd z.1 (by decide), fun z => absurd z.1 (by decide)⟩ | omega)) (f2 336 9 (by first | decide | exact fun z => absurd z.1 (by decide) | exact ⟨fun z => absurd z.1 (by decide), fun z => absurd z.1 (by decide)⟩ | omega)) qn
          have rs2 : OQ m2 s := rs1.same (fun p => f2 343 p (by first | decide | exact fun z => absurd z.1 (by decide) | exact ⟨fun z => absurd z.1 (by decide), fun z => absurd z.1 (by decide)⟩ | omega)) (f2 336 16 (by first | decide | exact fun z => absurd z.1 (by decide) | exact ⟨fun z => absurd z.1 (by decide), fun z => absurd z.1 (by decide)⟩ | omega)) (f2 336 13 (by first | decide | exact fun z => absurd z.1 (by decide) | exact ⟨fun z => absurd z.1 (by decide), fun z => absurd z.1 (by decide)⟩ | omega))
          have i2 : Sk tb tn (m2 336 8) q := by rw [e2]; exact sk.idem
          have b162 := hm2.f_336_16
          have hl2 := t2.2.2.2.2.1
          have bl2 := t2.2.1.1
          refine g_ifT rfl ?_
          refine g_C ?_
          refine g_if (fun w3 => ?_) (fun w3 => ?_)
          · have n91 : ¬ (q < tn ∧ tb q = 91) := fun z => by have := c91.2 z; omega
            refine u_X12_fact_72 ?_
            refine ih 0 m2 s hm2 t2 ((A.trans A1).trans A2) (by decide) (by decide) rs2 (fun z => absurd z (by decide)) (fun _ => ?_) (by omega)
            exact l2.to i2 (p := q) (c := m2 336 12) e2 rfl rfl qn (fun f E hA => tb_O (g_ifF n91 (g_ifF wk hA))) l2.2.2.2.1 l2.2.2.2.2
          · have y91 := c91.1 (by omega)
            have lt91 := y91.1
            refine g_C ?_
            refine ⟨hS.k336, ?_⟩
            refine zv_opens (x := -27) hS hm2 (by omega) l2.2.1 rs2 (Or.inr ⟨rfl, rfl⟩) (fun m3 hm3 len e9 => ?_) (fun m3 hm3 f3 o3 x3 nl r91 => ?_)
            · refine g_ifF (by decide) (g_C ⟨by decide, hf m3 hm3 ?_ (by omega)⟩)
              rw [e9, e2]
              exact l2.fault i2 (tb_O (g_ifT y91 (g_ifT len ⟨rfl, rfl⟩)))
            · have e3 : m3 336 8 = m2 336 8 := f3 336 8 (by first | decide | exact fun z => absurd z.1 (by decide) | exact ⟨fun z => absurd z.1 (by decide), fun z => absurd z.1 (by decide)⟩ | omega)
              refine g_ifT (by decide) ?_
              refine g_getu 8 rfl hS.k336 (fun v ev => ?_)
              refine g_C ?_
              refine g_A (by omega) (by omega) ?_
              refine g_put 8 rfl hS.k336 (hm3.w_336_8 (by omega) (by omega)) (fun m4 e4 hm4 => ?_)
              have f4 : ∀ c p : Int, ¬ (c = 336 ∧ p = 8) → m4 c p = m3 c p := fun c p q => (congrFun (congrFun e4 _) _).trans (up_ne q)
              have x4 : m4 336 8 = v + 1 := (congrFun (congrFun e4 _) _).trans (up_at _ _ _ _)
              obtain ⟨t4, A4⟩ := t2.pushop (m1 := m4) (k1 := 0) (e1 := 0) (s := 91) b162.1 (fun c p q => (f4 c p (by first | exact fun y => absurd (y.1 ▸ z) (by decide) | exact fun y => absurd (y.1 ▸ q) (by decide) | exact z | exact q | exact z.1 | exact q.1 | exact z.2 | exact q.2 | omega)).trans (f3 c p (by first | exact fun y => absurd (y.1 ▸ z) (by decide) | exact fun y => absurd (y.1 ▸ q) (by decide) | exact z | exact q | exact z.1 | exact q.1 | exact z.2 | exact q.2 | omega))) (by rw [f4 336 16 (by first | decide | exact fun z => absurd z.1 (by decide) | exact ⟨fun z => absurd z.1 (by decide), fun z => absurd z.1 (by decide)⟩ | omega)]; exact o3) (by rw [f4 343 _ (by first | decide | exact fun z => absurd z.1 (by decide) | exact ⟨fun z => absurd z.1 (by decide), fun z => absurd z.1 (by decide)⟩ | omega)]; exact x3) (by decide) (by omega) (by omega) (by decide) (by decide)
              refine g_C ?_
              refine u_X12_fact_72 ?_
              refine ih 1 m4 (-27 :: s) hm4 t4 (((A.trans A1).trans A2).trans A4) (by decide) (by decide) (r91.same (fun p => f4 343 p (by first | decide | exact fun z => absurd z.1 (by decide) | exact ⟨fun z => absurd z.1 (by decide), fun z => absurd z.1 (by decide)⟩ | omega)) (f4 336 16 (by first | decide | exact fun z => absurd z.1 (by decide) | exact ⟨fun z => absurd z.1 (by decide), fun z => absurd z.1 (by decide)⟩ | omega)) (f4 336 13 (by first | decide | exact fun z => absurd z.1 (by decide) | exact ⟨fun z => absurd z.1 (by decide), fun z => absurd z.1 (by decide)⟩ | omega))) (fun _ => ?_) (fun z => absurd z (by decide)) (by omega)
              exact l2.to i2 (p := q + 1) (c := m2 336 12) (by omega) (by rw [f4 336 12 (by first | decide | exact fun z => absurd z.1 (by decide) | exact ⟨fun z => absurd z.1 (by decide), fun z => absurd z.1 (by decide)⟩ | omega), f3 336 12 (by first | decide | exact fun z => absurd z.1 (by decide) | exact ⟨fun z => absurd z.1 (by decide), fun z => absurd z.1 (by decide)⟩ | omega)]) (by rw [f4 336 9 (by first | decide | exact fun z => absurd z.1 (by decide) | exact ⟨fun z => absurd z.1 (by decide), fun z => absurd z.1 (by decide)⟩ | omega), f3 336 9 (by first | decide | exact fun z => absurd z.1 (by decide) | exact ⟨fun z => absurd z.1 (by decide), fun z => absurd z.1 (by decide)⟩ | omega)]) (by omega) (fun f E hA => tb_O (g_ifT y91 (g_ifF nl hA))) (l2.2.2.2.1.same (fun c p z => (f4 c p (by first | exact fun y => absurd (y.1 ▸ z) (by decide) | exact fun y => absurd (y.1 ▸ q) (by decide) | exact z | exact q | exact z.1 | exact q.1 | exact z.2 | exact q.2 | omega)).trans (f3 c p (by first | exact fun y => absurd (y.1 ▸ z) (by decide) | exact fun y => absurd (y.1 ▸ q) (by decide) | exact z | exact q | exact z.1 | exact q.1 | exact z.2 | exact q.2 | omega)))) (by rw [l2.2.2.2.2]; show some (rpt (nbP s)) = some (rpt (0 + nbP s)); rw [Nat.zero_add])
  have b8 := hm0.f_336_8
  exact ⟨804, L 804 1 m0 P0 hm0 ht (Adv.rfl' m0) (by decide) (by decide) rs0 (fun _ => lr) (fun z => absurd z (by decide)) (by omega)⟩
theorem tb_B {b : Int → Int} {n mo q c k f : Int} {E P O : List Int} (hmo : mo = 6 ∨ mo = 7) (n93 : ¬ (q < n ∧ b q = 93 ∧ ¬ nOp P = 0)) (ne : ¬ (nOp P = 0 ∧ (n ≤ q ∨ b q = 59))) (na : mo = 6 → ¬ (q < n ∧ Ar (b q))) (h : bB b n (Bcc b n) q c P O k f E) : bst b n (Bcc b n) mo q c P O k f E := by
  rcases hmo with e | e
  · subst e
    exact tb_A2 (g_ifF n93 (g_ifF ne (g_ifF (na rfl) h)))
  · subst e
    exact tb_A3 (g_ifF n93 (g_ifF ne h))
theorem tb_B9 {b : Int → Int} {n mo q c k f : Int} {E P O : List Int} (hmo : mo = 6 ∨ mo = 7) (n93 : ¬ (q < n ∧ b q = 93 ∧ ¬ nOp P = 0)) (ye : nOp P = 0 ∧ (n ≤ q ∨ b q = 59)) (h : Bcc b n 9 q c [] (O ++ uW 0 P ++ [-26]) k f E) : bst b n (Bcc b n) mo q c P O k f E := by
  rcases hmo with e | e
  · subst e
    exact tb_A2 (g_ifF n93 (g_ifT ye h))
  · subst e
    exact tb_A3 (g_ifF n93 (g_ifT ye h))
theorem tb_B7 {b : Int → Int} {n mo q c k f : Int} {E P O : List Int} (hmo : mo = 6 ∨ mo = 7) (y93 : q < n ∧ b q = 93 ∧ ¬ nOp P = 0) (h : Bcc b n 7 (q + 1) c (uR 0 P).tail (O ++ uW 0 P) k f E) : bst b n (Bcc b n) mo q c P O k f E := by
  rcases hmo with e | e
  · subst e
    exact tb_A2 (g_ifT y93 h)
  · subst e
    exact tb_A3 (g_ifT y93 h)
theorem bcc9 {b : Int → Int} {n p q c k f : Int} {E P O : List Int} (h : Bcc b n 9 p c P O k f E) (hs : Sk b n p q) (hn : ¬ (n ≤ q ∨ b q = 59)) : f = 1 + 8 * q ∧ E = [] := by
  obtain ⟨N, h⟩ := h
  cases N with
  | zero => exact h.elim
  | succ N =>
    obtain ⟨q', h1, h2⟩ := h
    rw [← hs.uniq h1] at h2
    have h3 := ((((((h2.2 (by decide)).2 (by decide)).2 (by decide)).2 (by decide)).2 (by decide)).2 (by decide)).2 (by decide)
    exact (h3.2 (by omega)).2 (by omega)
theorem bnS_1 (x : Int) : ¬ bnS x < 1 := by
  unfold bnS
  repeat' split
  all_goals decide
theorem uW_10 : ∀ P : List Int, uW 1 P = uW 0 P ∧ uR 1 P = uR 0 P := by
  intro P
  induction P with
  | nil => exact ⟨rfl, rfl⟩
  | cons x P ih =>
    have n1 := bnS_1 x
    by_cases e : x = -27
    · have a := uW_low (u := 1) (s := x) (P := P) (Or.inl e)
      have c := uW_low (u := 0) (s := x) (P := P) (Or.inl e)
      rw [a.1, a.2, c.1, c.2]
      exact ⟨rfl, rfl⟩
    · have a := uW_top (u := 1) (s := x) (P := P) (by omega)
      have c := uW_top (u := 0) (s := x) (P := P) (by omega)
      rw [a.1, a.2, c.1, c.2, ih.1, ih.2]
      exact ⟨rfl, rfl⟩
/-- behind a fact, its closing brackets read -/
def Tw (b : Int → Int) (n : Int) (T : Int → List Int → Prop) (O0 R0 : List Int) (M : Mm) (mo : Int) (P W : List Int) (k : Int) : Prop := Lw b n T O0 R0 M mo P W (W ++ uW 3 P) k (true :: rpt (nbP (uR 3 P))) ∧ OQ M (uR 3 P) ∧ (mo = 6 ∨ mo = 7) ∧ (mo = 6 → Nar b n M) ∧ Sk b n (M 336 8) (M 336 8) ∧ ¬ (M 336 8 < n ∧ b (M 336 8) = 93 ∧ ¬ nOp P = 0)
theorem Tw.same {b : Int → Int} {n mo k : Int} {T : Int → List Int → Prop} {O0 R0 : List Int} {M M1 : Mm} {P W : List Int} (h : Tw b n T O0 R0 M mo P W k) (e8 : M1 336 8 = M 336 8) (f : ∀ c p : Int, ¬ (c = 336 ∧ p = 8) → M1 c p = M c p) : Tw b n T O0 R0 M1 mo P W k := by
  obtain ⟨h1, h2, h4, h5, h6, h7⟩ := h
  refine ⟨h1.eq (fun c p z => f c p (by omega)) e8 (f 336 12 (by first | decide | exact fun z => absurd z.1 (by decide) | exact ⟨fun z => absurd z.1 (by decide), fun z => absurd z.1 (by decide)⟩ | omega)) (f 336 9 (by first | decide | exact fun z => absurd z.1 (by decide) | exact ⟨fun z => absurd z.1 (by decide), fun z => absurd z.1 (by decide)⟩ | omega)), h2.same (fun p => f 343 p (by first | decide | exact fun z => absurd z.1 (by decide) | exact ⟨fun z => absurd z.1 (by decide), fun z => absurd z.1 (by decide)⟩ | omega)) (f 336 16 (by first | decide | exact fun z => absurd z.1 (by decide) | exact ⟨fun z => absurd z.1 (by decide), fun z => absurd z.1 (by decide)⟩ | omega)) (f 336 13 (by first | decide | exact fun z => absurd z.1 (by decide) | exact ⟨fun z => absurd z.1 (by decide), fun z => absurd z.1 (by decide)⟩ | omega)), h4, fun z q hq => h5 z q ?_, ?_, ?_⟩
  · rw [e8] at hq; exact hq
  · rw [e8]; exact h6
  · rw [e8]; exact h7
theorem zv_closes {X : Mm} {S : Sh} {m0 : Mm} {K : Mm → Prop} {b : Int} {tb : Int → Int} {tn kk : Int} {T : Int → List Int → Prop} {O0 R0 Q0 : List Int} (hS : Shp S) (hm0 : Inv X S m0) (hR : TR X tb tn) (ht : Ts X m0 0 b 1) (lr : Sv tb tn T O0 R0 m0 6 4 Q0 kk (true :: rpt (nbP Q0))) (rs0 : OQ m0 Q0) (na0 : Nar tb tn m0) (hk : ∀ (M1 : Mm) (mo : Int) (P W : List Int), Inv X S M1 → Ts X M1 0 b 1 → Adv m0 M1 → Tw tb tn T O0 R0 M1 mo P W kk → K M1) : wp_X12_closes S m0 336 K := by
  have nb' := hR.2.1
  obtain ⟨P1, W1, lr, zu⟩ := lr
  have ap1 := uW_app (v := 3) (w := 4) (by decide) P1
  rw [zu] at ap1
  refine u_X12_closes ?_
  refine g_C ?_
  refine ⟨hS.k336, ?_⟩
  refine zv_settles hS hm0 ht (by decide) (by decide) (by decide) rs0 lr.2.2.2.1 (fun m1 hm1 t1 A1 e18 e112 e19 rs1 rq1 => ?_)
  rw [ap1.2] at rs1
  have l1 : Lw tb tn T O0 R0 m1 6 P1 W1 (W1 ++ uW 3 P1) kk (true :: rpt (nbP (uR 3 P1))) := by
    refine ⟨?_, e19.trans lr.2.1, by rw [e18]; exact lr.2.2.1, ?_, ?_⟩
    · rw [e18, e112]; exact lr.1
    · rw [ap1.1, ← List.append_assoc W1, ← List.append_assoc R0]
      exact rq1
    · have z := ty_settle (u := 3) Q0 (W1 ++ uW 4 P1) rs0.2.2.2 lr.2.2.2.2
      rw [List.append_assoc, ← ap1.1, ap1.2] at z
      exact z
  have L : ∀ (n : Nat) (m : Mm) (mo : Int) (s W : List Int), Inv X S m → Ts X m 0 b 1 → Adv m0 m → (mo = 6 ∨ mo = 7) → Lw tb tn T O0 R0 m mo s W (W ++ uW 3 s) kk (true :: rpt (nbP (uR 3 s))) → OQ m (uR 3 s) → (mo = 6 → Nar tb tn m) → 401 - m 336 8 ≤ (n : Int) → wp_X12_closes_5 S K n 336 m := by
    intro n
    induction n with
    | zero =>
      intro m mo s W hm _ _ _ _ _ _ h
      have b8 := hm.f_336_8
      exfalso; omega
    | succ n ih =>
      intro m mo s W hm t A hmo l rs na h
      have b8m := hm.f_336_8
      refine u_X12_closes_5 ?_
      refine ⟨hS.k336, ?_⟩
      refine zx_see hS hm hR l.2.2.1 (fun r2 q m2 hm2 f2 sk e2 qn y2 => ?_)
      have sk1 := sk.1
      have q0 : 0 ≤ q := by omega
      have c93 := u8_is hR (v := 93) q0 y2 (by decide) (by decide)
      obtain ⟨t2, A2⟩ := t.fr (m1 := m2) (fun c p q => f2 c p (by first | exact fun y => absurd (y.1 ▸ z) (by decide) | exact fun y => absurd (y.1 ▸ q) (by decide) | exact z | exact q | exact z.1 | exact q.1 | exact z.2 | exact q.2 | omega)) (by omega) (by rw [f2 336 12 (by first | decide | exact fun z => absurd z.1 (by decide) | exact ⟨fun z => absurd z.1 (by decide), fun z => absurd z.1 (by decide)⟩ | omega)]; omega)
      have l2 : Lw tb tn T O0 R0 m2 mo s W (W ++ uW 3 s) kk (true :: rpt (nbP (uR 3 s))) := l.at (fun c p z => f2 c p (by first | exact fun y => absurd (y.1 ▸ z) (by decide) | exact fun y => absurd (y.1 ▸ q) (by decide) | exact z | exact q | exact z.1 | exact q.1 | exact z.2 | exact q.2 | omega)) sk e2 (f2 336 12 (by first | decide | exact fun z => absurd z.1 (by decide) | exact ⟨fun z => absurd z.1 (by decide), fun z => absurd z.1 (by decide)⟩ | omega)) (f2 336 9 (by first | decide | exact fun z => absurd z.1 (by decide) | exact ⟨fun z => absurd z.1 (by decide), fun z => absurd z.1 (by decide)⟩ | omega)) qn
      have rs2 : OQ m2 (uR 3 s) := rs.same (fun p => f2 343 p (by first | decide | exact fun z => absurd z.1 (by decide) | exact ⟨fun z => absurd z.1 (by decide), fun z => absurd z.1 (by decide)⟩ | omega)) (f2 336 16 (by first | decide | exact fun z => absurd z.1 (by decide) | exact ⟨fun z => absurd z.1 (by decide), fun z => absurd z.1 (by decide)⟩ | omega)) (f2 336 13 (by first | decide | exact fun z => absurd z.1 (by decide) | exact ⟨fun z => absurd z.1 (by decide), fun z => absurd z.1 (by decide)⟩ | omega))
      have no3 := nOp_uR 3 s
      have in2 := rs2.in
      rw [no3] at in2
      have i2 : Sk tb tn (m2 336 8) q := by rw [e2]; exact sk.idem
      have na2 : mo = 6 → Nar tb tn m2 := fun z q' hq' => by
        have e := i2.uniq hq'
        rw [← e]
        exact na z q sk
      have out : ¬ (q < tn ∧ tb q = 93 ∧ ¬ nOp s = 0) → K m2 := fun z => hk m2 mo s W hm2 t2 (A.trans A2) ⟨l2, rs2, hmo, na2, by rw [e2]; exact sk.idem, by rw [e2]; exact z⟩
      refine g_C ?_
      refine g_if (fun w => out (fun z => by have := c93.2 ⟨z.1, z.2.1⟩; omega)) (fun w => ?_)
      have y93 := c93.1 (by omega)
      have lt93 := y93.1
      refine ⟨hS.k336, ?_⟩
      refine zo_isInside hS hm2 (fun j j0 j1 j2 => ?_) (fun hn => g_ifT rfl (out (fun z => ?_)))
      · have mem : ¬ nOp s = 0 := in2.2 ⟨j, j0, j1, j2⟩
        refine g_ifF (by decide) ?_
        refine g_C ?_
        refine ⟨hS.k336, ?_⟩
        refine zv_settles hS hm2 t2 (by decide) (by decide) (by decide) rs2 l2.2.2.2.1 (fun m3 hm3 t3 A3 e38 e312 e39 rs3 rq3 => ?_)
        have ap3 := uW_app (v := 1) (w := 3) (by decide) s
        rw [ap3.2, (uW_10 s).2] at rs3
        obtain ⟨s1, hs1⟩ := uR_open s mem
        have ty3 := ty_settle (u := 1) (uR 3 s) (W ++ uW 3 s) rs2.2.2.2 l2.2.2.2.2
        rw [List.append_assoc, ← ap3.1, ap3.2, (uW_10 s).1, (uW_10 s).2, hs1] at ty3
        have ty6 : tyl (W ++ uW 0 s) = some (true :: rpt (nbP s1)) := by
          rw [ty3]
          show some (true :: rpt (0 + nbP s1)) = _
          rw [Nat.zero_add]
        rw [hs1] at rs3
        have b16 := hm3.f_336_16
        have pos3 : 1 ≤ m3 336 16 := by
          by_cases e : m3 336 16 = 0
          · have z := rs3.nil e
            cases z
          · omega
        obtain ⟨y3, Q3, eQ, top', plQ, _, Qv⟩ := rs3.top pos3
        injection eQ with ey eQ2
        subst ey
        subst eQ2
        have top : m3 343 (m3 336 16 - 1) = 91 := top'
        refine g_getu 16 rfl hS.k336 (fun v ev => ?_)
        refine g_C ?_
        refine g_S (by omega) (by omega) ?_
        refine g_put 16 rfl hS.k336 (hm3.w_336_16 (by omega) (by omega)) (fun m4 e4 hm4 => ?_)
        have f4 : ∀ c p : Int, ¬ (c = 336 ∧ p = 16) → m4 c p = m3 c p := fun c p q => (congrFun (congrFun e4 _) _).trans (up_ne q)
        have x4 : m4 336 16 = v - 1 := (congrFun (congrFun e4 _) _).trans (up_at _ _ _ _)
        have d3 := rs3.2.1
        have d3b := rs3.2.2.1
        have nd3 : nDp (-27 :: s1) = 1 + nDp s1 := rfl
        refine g_getu 13 rfl hS.k336 (fun v5 ev5 => ?_)
        rw [f4 336 13 (by first | decide | exact fun z => absurd z.1 (by decide) | exact ⟨fun z => absurd z.1 (by decide), fun z => absurd z.1 (by decide)⟩ | omega)] at ev5
        refine g_C ?_
        refine g_S (by omega) (by omega) ?_
        refine g_put 13 rfl hS.k336 (hm4.w_336_13 (by omega) (by omega)) (fun m5 e5 hm5 => ?_)
        have f5 : ∀ c p : Int, ¬ (c = 336 ∧ p = 13) → m5 c p = m4 c p := fun c p q => (congrFun (congrFun e5 _) _).trans (up_ne q)
        have x5 : m5 336 13 = v5 - 1 := (congrFun (congrFun e5 _) _).trans (up_at _ _ _ _)
        refine g_getu 8 rfl hS.k336 (fun v6 ev6 => ?_)
        rw [f5 336 8 (by first | decide | exact fun z => absurd z.1 (by decide) | exact ⟨fun z => absurd z.1 (by decide), fun z => absurd z.1 (by decide)⟩ | omega), f4 336 8 (by first | decide | exact fun z => absurd z.1 (by decide) | exact ⟨fun z => absurd z.1 (by decide), fun z => absurd z.1 (by decide)⟩ | omega)] at ev6
        have b83 := hm3.f_336_8
        refine g_C ?_
        refine g_A (by omega) (by omega) ?_
        refine g_put 8 rfl hS.k336 (hm5.w_336_8 (by omega) (by omega)) (fun m6 e6 hm6 => ?_)
        have f6 : ∀ c p : Int, ¬ (c = 336 ∧ p = 8) → m6 c p = m5 c p := fun c p q => (congrFun (congrFun e6 _) _).trans (up_ne q)
        have x6 : m6 336 8 = v6 + 1 := (congrFun (congrFun e6 _) _).trans (up_at _ _ _ _)
        have F6 : ∀ c p : Int, ¬ (c = 336 ∧ (p = 16 ∨ p = 13 ∨ p = 8)) → m6 c p = m3 c p := fun c p q => by rw [f6 c p (by first | exact fun y => absurd (y.1 ▸ z) (by decide) | exact fun y => absurd (y.1 ▸ q) (by decide) | exact z | exact q | exact z.1 | exact q.1 | exact z.2 | exact q.2 | omega), f5 c p (by first | exact fun y => absurd (y.1 ▸ z) (by decide) | exact fun y => absurd (y.1 ▸ q) (by decide) | exact z | exact q | exact z.1 | exact q.1 | exact z.2 | exact q.2 | omega), f4 c p (by first | exact fun y => absurd (y.1 ▸ z) (by decide) | exact fun y => absurd (y.1 ▸ q) (by decide) | exact z | exact q | exact z.1 | exact q.1 | exact z.2 | exact q.2 | omega)]
        have o6 : m6 336 16 = m3 336 16 - 1 := by rw [f6 336 16 (by first | decide | exact fun z => absurd z.1 (by decide) | exact ⟨fun z => absurd z.1 (by decide), fun z => absurd z.1 (by decide)⟩ | omega), f5 336 16 (by first | decide | exact fun z => absurd z.1 (by decide) | exact ⟨fun z => absurd z.1 (by decide), fun z => absurd z.1 (by decide)⟩ | omega)]; omega
        have o13 : m6 336 13 = m3 336 13 - 1 := by rw [f6 336 13 (by first | decide | exact fun z => absurd z.1 (by decide) | exact ⟨fun z => absurd z.1 (by decide), fun z => absurd z.1 (by decide)⟩ | omega)]; omega
        have A6 : Adv m3 m6 := Adv.of (fun c p q => F6 c p (by omega)) (by omega) (by rw [F6 336 12 (by first | decide | exact fun z => absurd z.1 (by decide) | exact ⟨fun z => absurd z.1 (by decide), fun z => absurd z.1 (by decide)⟩ | omega)]; omega)
        have e436 : m6 343 = m3 343 := funext (fun p => F6 343 p (by first | decide | exact fun z => absurd z.1 (by decide) | exact ⟨fun z => absurd z.1 (by decide), fun z => absurd z.1 (by decide)⟩ | omega))
        have rs6 : OQ m6 s1 := ⟨by rw [e436, o6]; exact plQ, by omega, by omega, Qv⟩
        have rq6 : RQ m6 (R0 ++ (W ++ uW 0 s)) := by
          rw [← (uW_10 s).1, ap3.1, ← List.append_assoc W, ← List.append_assoc R0]
          exact rq3.same (fun c p z => F6 c p (by omega))
        have l6 : Lw tb tn T O0 R0 m6 7 s1 (W ++ uW 0 s) (W ++ uW 0 s) kk (true :: rpt (nbP s1)) := l2.to i2 (p := q + 1) (c := m2 336 12) (by omega) (by rw [F6 336 12 (by first | decide | exact fun z => absurd z.1 (by decide) | exact ⟨fun z => absurd z.1 (by decide), fun z => absurd z.1 (by decide)⟩ | omega)]; exact e312) (by rw [F6 336 9 (by first | decide | exact fun z => absurd z.1 (by decide) | exact ⟨fun z => absurd z.1 (by decide), fun z => absurd z.1 (by decide)⟩ | omega)]; exact e39) (by omega) (fun f E hA => tb_B7 hmo ⟨y93.1, y93.2, mem⟩ (by rw [hs1, List.append_assoc]; exact hA)) rq6 ty6
        have t6 : Ts X m6 0 b 1 := by
          obtain ⟨g, hq, he, hn, hl, ho⟩ := t3
          have e43' : m6 343 = m3 343 := funext (fun p => F6 343 p (by first | decide | exact fun z => absurd z.1 (by decide) | exact ⟨fun z => absurd z.1 (by decide), fun z => absurd z.1 (by decide)⟩ | omega))
          have en : nb m6 = nb m3 := by
            unfold nb
            rw [o6, e43', show m3 336 16 = m3 336 16 - 1 + 1 by omega, nbf_top (by omega), show m3 336 16 - 1 + 1 - 1 = m3 336 16 - 1 by omega, top, if_neg (by decide)]
            omega
          have el : m6 339 (m6 336 11) = m3 339 (m3 336 11) := by rw [F6 336 11 (by first | decide | exact fun z => absurd z.1 (by decide) | exact ⟨fun z => absurd z.1 (by decide), fun z => absurd z.1 (by decide)⟩ | omega), F6 339 _ (by first | decide | exact fun z => absurd z.1 (by decide) | exact ⟨fun z => absurd z.1 (by decide), fun z => absurd z.1 (by decide)⟩ | omega)]
          have e12 : m6 336 12 = m3 336 12 := F6 336 12 (by first | decide | exact fun z => absurd z.1 (by decide) | exact ⟨fun z => absurd z.1 (by decide), fun z => absurd z.1 (by decide)⟩ | omega)
          refine ⟨g.adv A6, ?_, he, by omega, by omega, fun i i0 i1 => ?_⟩
          · rw [en]
            exact hq.same (fun p => F6 338 p (by first | decide | exact fun z => absurd z.1 (by decide) | exact ⟨fun z => absurd z.1 (by decide), fun z => absurd z.1 (by decide)⟩ | omega)) (fun p => F6 339 p (by first | decide | exact fun z => absurd z.1 (by decide) | exact ⟨fun z => absurd z.1 (by decide), fun z => absurd z.1 (by decide)⟩ | omega)) (F6 336 11 (by first | decide | exact fun z => absurd z.1 (by decide) | exact ⟨fun z => absurd z.1 (by decide), fun z => absurd z.1 (by decide)⟩ | omega))
          · rw [e43']
            exact ho i i0 (by omega)
        refine g_C ?_
        refine ⟨hS.k336, ?_⟩
        refine zv_settles hS hm6 t6 (by decide) (by decide) (by decide) rs6 l6.2.2.2.1 (fun m7 hm7 t7 A7 e87 e712 e79 rs7 rq7 => ?_)
        refine ih m7 7 s1 (W ++ uW 0 s) hm7 t7 ((((A.trans A2).trans A3).trans A6).trans A7) (Or.inr rfl) ⟨?_, e79.trans l6.2.1, by rw [e87]; exact l6.2.2.1, by rw [← List.append_assoc R0]; exact rq7, ty_settle (u := 3) s1 _ rs6.2.2.2 ty6⟩ rs7 (fun z => absurd z (by decide)) (by omega)
        rw [e87, e712]
        exact l6.1
      · obtain ⟨j, j0, j1, j2⟩ := in2.1 z.2.2
        exact hn j j0 j1 j2
  have b8 := hm1.f_336_8
  exact ⟨401, L 401 m1 6 P1 W1 hm1 t1 A1 (Or.inl rfl) l1 rs1 (fun _ q hq => na0 q (by rw [e18] at hq; exact hq)) (by omega)⟩
theorem zv_tested {X : Mm} {S : Sh} {m0 : Mm} {K : Int → Mm → Prop} {tb : Int → Int} {tn kk : Int} {T : Int → List Int → Prop} {O0 R0 W0 : List Int} (hS : Shp S) (hm0 : Inv X S m0) (hR : TR X tb tn) (g0 : GX X m0) (hl0 : m0 339 (m0 336 11) ≤ m0 336 8) (lr0 : Lw tb tn T O0 R0 m0 8 [] W0 W0 kk []) (hf : ∀ M1 : Mm, Inv X S M1 → T (M1 336 9) [] → ¬ M1 336 9 = 0 → K 0 M1) (hk : ∀ (M1 : Mm) (W : List Int), Inv X S M1 → Adv m0 M1 → Qs M1 (m0 339 (m0 336 11)) 1 → M1 339 (M1 336 11) ≤ M1 336 8 → Lw tb tn T O0 R0 M1 9 [] (W ++ [-26]) W kk [true] → K 1 M1) : wp_X12_tested S m0 336 K := by
  have nb' := hR.2.1
  have bl := hm0.a_339 (i := m0 336 11) (by have := g0.1; have := g0.2; omega) (by have := g0.1; have := g0.2; omega)
  refine u_X12_tested ?_
  refine g_C ?_
  refine g_put 16 rfl hS.k336 (hm0.w_336_16 (by omega) (by omega)) (fun m1 e1 hm1 => ?_)
  refine g_C ?_
  refine g_put 13 rfl hS.k336 (hm1.w_336_13 (by omega) (by omega)) (fun m2 e2 hm2 => ?_)
  have f1 : ∀ c p : Int, ¬ (c = 336 ∧ p = 16) → m1 c p = m0 c p := fun c p q => (congrFun (congrFun e1 _) _).trans (up_ne q)
  have x1 : m1 336 16 = 0 := (congrFun (congrFun e1 _) _).trans (up_at _ _ _ _)
  have f2 : ∀ c p : Int, ¬ (c = 336 ∧ p = 13) → m2 c p = m1 c p := fun c p q => (congrFun (congrFun e2 _) _).trans (up_ne q)
  have x2 : m2 336 16 = 0 := (f2 336 16 (by first | decide | exact fun z => absurd z.1 (by decide) | exact ⟨fun z => absurd z.1 (by decide), fun z => absurd z.1 (by decide)⟩ | omega)).trans x1
  have x13 : m2 336 13 = 0 := (congrFun (congrFun e2 _) _).trans (up_at _ _ _ _)
  have F2 : ∀ c p : Int, ¬ (c = 336 ∧ (p = 16 ∨ p = 13)) → m2 c p = m0 c p := fun c p q => (f2 c p (by first | exact fun y => absurd (y.1 ▸ z) (by decide) | exact fun y => absurd (y.1 ▸ q) (by decide) | exact z | exact q | exact z.1 | exact q.1 | exact z.2 | exact q.2 | omega)).trans (f1 c p (by first | exact fun y => absurd (y.1 ▸ z) (by decide) | exact fun y => absurd (y.1 ▸ q) (by decide) | exact z | exact q | exact z.1 | exact q.1 | exact z.2 | exact q.2 | omega))
  have A2 : Adv m0 m2 := Adv.of (fun c p q => F2 c p (by omega)) (by rw [F2 336 8 (by first | decide | exact fun z => absurd z.1 (by decide) | exact ⟨fun z => absurd z.1 (by decide), fun z => absurd z.1 (by decide)⟩ | omega)]; omega) (by rw [F2 336 12 (by first | decide | exact fun z => absurd z.1 (by decide) | exact ⟨fun z => absurd z.1 (by decide), fun z => absurd z.1 (by decide)⟩ | omega)]; omega)
  have l2 : Lw tb tn T O0 R0 m2 8 [] W0 W0 kk [] := lr0.eq (fun c p z => F2 c p (by omega)) (F2 336 8 (by first | decide | exact fun z => absurd z.1 (by decide) | exact ⟨fun z => absurd z.1 (by decide), fun z => absurd z.1 (by decide)⟩ | omega)) (F2 336 12 (by first | decide | exact fun z => absurd z.1 (by decide) | exact ⟨fun z => absurd z.1 (by decide), fun z => absurd z.1 (by decide)⟩ | omega)) (F2 336 9 (by first | decide | exact fun z => absurd z.1 (by decide) | exact ⟨fun z => absurd z.1 (by decide), fun z => absurd z.1 (by decide)⟩ | omega))
  have rs2 : OQ m2 [] := by
    unfold OQ
    rw [x2, x13]
    exact ⟨rfl, rfl, by decide, fun x hx => absurd hx (List.not_mem_nil)⟩
  have t2 : Ts X m2 0 (m0 339 (m0 336 11)) 0 := by
    have en : nb m2 = 0 := by unfold nb; rw [x2]; rfl
    have el : m2 339 (m2 336 11) = m0 339 (m0 336 11) := by rw [F2 336 11 (by first | decide | exact fun z => absurd z.1 (by decide) | exact ⟨fun z => absurd z.1 (by decide), fun z => absurd z.1 (by decide)⟩ | omega), F2 339 _ (by first | decide | exact fun z => absurd z.1 (by decide) | exact ⟨fun z => absurd z.1 (by decide), fun z => absurd z.1 (by decide)⟩ | omega)]
    have e8 : m2 336 8 = m0 336 8 := F2 336 8 (by first | decide | exact fun z => absurd z.1 (by decide) | exact ⟨fun z => absurd z.1 (by decide), fun z => absurd z.1 (by decide)⟩ | omega)
    have b12 := hm2.f_336_12
    refine ⟨g0.adv A2, ⟨⟨by omega, by omega⟩, ?_⟩, by decide, by omega, by omega, fun j j0 j1 => absurd j1 (by omega)⟩
    rw [el, en, show (m0 339 (m0 336 11) - m0 339 (m0 336 11)).toNat = 0 by omega]
    rfl
  refine g_C ?_
  have L : ∀ (n : Nat) (more : Int) (m : Mm) (mo : Int) (s W : List Int), Inv X S m → 0 ≤ more → more ≤ 1 → Ts X m 0 (m0 339 (m0 336 11)) (1 - more) → Adv m0 m → (more = 1 → Lw tb tn T O0 R0 m 8 s W W kk (rpt (nbP s)) ∧ OQ m s) → (more = 0 → Tw tb tn T O0 R0 m mo s W kk ∧ ¬ Wk tb tn 15 (m 336 8) ∧ ¬ Wk tb tn 16 (m 336 8)) → 2 * (401 - m 336 8) + more + 1 ≤ (n : Int) → wp_X12_tested_12 S K n 336 more m := by
    intro n
    induction n with
    | zero =>
      intro more m mo s W hm _ _ _ _ _ _ h
      have b8 := hm.f_336_8
      exfalso; omega
    | succ n ih =>
      intro more m mo s W hm r0 r1 t A h1 h0 h
      refine u_X12_tested_12 ?_
      refine g_if (fun w => ?_) (fun w => ?_)
      · rw [w] at t
        have t' : Ts X m 0 (m0 339 (m0 336 11)) 1 := t
        obtain ⟨⟨l, rs, hmo, na, sks, n93⟩, n15, n16⟩ := h0 w
        have inn := rs.in
        rw [nOp_uR] at inn
        have b8m := hm.f_336_8
        have bad : ¬ (nOp s = 0 ∧ (tn ≤ m 336 8 ∨ tb (m 336 8) = 59)) → T (1 + 8 * m 336 8) [] := fun z => l.fault sks (tb_B hmo n93 z (fun y => na y _ sks) (g_ifF n15 (g_ifF n16 ⟨rfl, rfl⟩)))
        refine ⟨hS.k336, ?_⟩
        refine zo_isInside hS hm (fun j j0 j1 j2 => ?_) (fun hn => ?_)
        · have mem : ¬ nOp s = 0 := inn.2 ⟨j, j0, j1, j2⟩
          refine g_ifF (by decide) ?_
          refine ⟨hS.k336, ?_⟩
          refine zx_see hS hm hR l.2.2.1 (fun r2 q m2 hm2 f2 sk e2 qn y2 => ?_)
          have eq := sks.uniq sk
          refine g_C ?_
          refine g_getu 8 rfl hS.k336 (fun v ev => ?_)
          refine ⟨hS.k336, ?_⟩
          refine zx_fails hS hm2 ((f2 336 9 (by first | decide | exact fun z => absurd z.1 (by decide) | exact ⟨fun z => absurd z.1 (by decide), fun z => absurd z.1 (by decide)⟩ | omega)).trans l.2.1) (by decide) (by decide) (by omega) (by omega) (fun m3 hm3 f3 e9 => ?_)
          refine ⟨by decide, hf m3 hm3 ?_ (by omega)⟩
          rw [e9, show 1 + 8 * v + 0 = 1 + 8 * m 336 8 by omega]
          exact bad (fun z => mem z.1)
        · have nin : nOp s = 0 := by
            by_cases z : nOp s = 0
            · exact z
            · obtain ⟨j, j0, j1, j2⟩ := inn.1 z
              exact absurd j2 (hn j j0 j1)
          refine g_ifT rfl ?_
          refine g_C ?_
          refine ⟨hS.k336, ?_⟩
          refine zv_settles hS hm t' (by decide) (by decide) (by decide) rs l.2.2.2.1 (fun m3 hm3 t3 A3 e8 e12 e9 rs3 rq3 => ?_)
          have b16 := hm3.f_336_16
          have ap3 := uW_app (v := 1) (w := 3) (by decide) s
          have ty3 := ty_settle (u := 1) (uR 3 s) (W ++ uW 3 s) rs.2.2.2 l.2.2.2.2
          rw [List.append_assoc, ← ap3.1, ap3.2, (uW_10 s).1, (uW_10 s).2, uR_none s nin] at ty3
          rw [ap3.2, (uW_10 s).2, uR_none s nin] at rs3
          have z16 : m3 336 16 = 0 := by
            by_cases q : m3 336 16 = 0
            · exact q
            · obtain ⟨y3, Q3, eQ, _⟩ := rs3.top (by omega)
              cases eQ
          have rq4 : RQ m3 (R0 ++ (W ++ uW 0 s)) := by
            rw [← (uW_10 s).1, ap3.1, ← List.append_assoc W, ← List.append_assoc R0]
            exact rq3
          obtain ⟨g3, q3, d3, n3, l3, o3⟩ := t3
          have en : nb m3 = 0 := by unfold nb; rw [z16]; rfl
          rw [en] at q3
          refine g_C ⟨by decide, hk m3 (W ++ uW 0 s) hm3 (A.trans A3) q3 (by omega) ⟨fun f E hA => ?_, e9.trans l.2.1, by rw [e8]; exact l.2.2.1, rq4, ty3⟩⟩
          rw [e8, e12] at hA
          by_cases ee : tn ≤ m 336 8 ∨ tb (m 336 8) = 59
          · refine l.fault sks (tb_B9 hmo n93 ⟨nin, ee⟩ ?_)
            rw [List.append_assoc O0, List.append_assoc O0]
            exact hA
          · obtain ⟨z1, z2⟩ := bcc9 hA sks ee
            rw [z1, z2]
            exact bad (fun z => ee z.2)
      · have w1 : more = 1 := by omega
        rw [w1] at t
        have t' : Ts X m 0 (m0 339 (m0 336 11)) 0 := t
        obtain ⟨lf, rf⟩ := h1 w1
        refine ⟨hS.k336, ?_⟩
        refine zv_fact hS hm hR t' lf rf (fun m1 hm1 n1 t1 => g_ifF (by decide) (g_C ⟨by decide, hf m1 hm1 n1 t1⟩)) (fun m1 s1 hm1 t1 A1 p1 la ra na1 => ?_)
        refine g_ifT (by decide) ?_
        refine ⟨hS.k336, ?_⟩
        refine zv_closes hS hm1 hR t1 la ra na1 (fun m2 mo s W hm2 t2 A2 tl2 => ?_)
        have a82 : m1 336 8 ≤ m2 336 8 := A2.2.2.2.2.1
        have go : ∀ (op : Int) (k : Nat) (m' : Mm), ((op = 12 ∧ k = 15) ∨ (op = 13 ∧ k = 16 ∧ ¬ Wk tb tn 15 (m' 336 8))) → Inv X S m' → Ts X m' 0 (m0 339 (m0 336 11)) 1 → Adv m0 m' → m1 336 8 ≤ m' 336 8 → Tw tb tn T O0 R0 m' mo s W kk → Wk tb tn k (m' 336 8) → wp_X12_tested_76 S (fun a0 a1 M => wp_X12_tested_12 S K n a0 a1 M) K 336 1 op m' := by
          intro op k m' hs hm' t'' A' p' tl' wk
          obtain ⟨l', rs', hmo, na', sks, n93⟩ := tl'
          have b8' := hm'.f_336_8
          have k17 : k < 17 := by omega
          have tk := tl_r k k17
          have wn := wrd_no wk tk.1
          have tws := tw_s
          have tls := tl_s
          have nend : ¬ (nOp s = 0 ∧ (tn ≤ m' 336 8 ∨ tb (m' 336 8) = 59)) := by
            intro z
            have z2 := z.2
            have wn2 := wn.2
            rcases hs with ⟨_, e⟩ | ⟨_, e, _⟩
            · rw [e] at wn2; omega
            · rw [e] at wn2; omega
          refine u_X12_tested_76 ?_
          refine ⟨hS.k336, ?_⟩
          refine zx_passWord k hS hm' hR rfl b8'.1 k17 wk (fun m4 hm4 f4 e4 rn => ?_)
          obtain ⟨t4, A4⟩ := t''.fr (m1 := m4) (fun c p q => f4 c p (by first | exact fun y => absurd (y.1 ▸ z) (by decide) | exact fun y => absurd (y.1 ▸ q) (by decide) | exact z | exact q | exact z.1 | exact q.1 | exact z.2 | exact q.2 | omega)) (by omega) (by rw [f4 336 12 (by first | decide | exact fun z => absurd z.1 (by decide) | exact ⟨fun z => absurd z.1 (by decide), fun z => absurd z.1 (by decide)⟩ | omega)]; omega)
          have t4' : Ts X m4 1 (m0 339 (m0 336 11)) 1 := by
            refine t4.slack ?_
            have l0 := t''.2.2.2.2.1
            rw [f4 336 11 (by first | decide | exact fun z => absurd z.1 (by decide) | exact ⟨fun z => absurd z.1 (by decide), fun z => absurd z.1 (by decide)⟩ | omega), f4 339 _ (by first | decide | exact fun z => absurd z.1 (by decide) | exact ⟨fun z => absurd z.1 (by decide), fun z => absurd z.1 (by decide)⟩ | omega), f4 336 16 (by first | decide | exact fun z => absurd z.1 (by decide) | exact ⟨fun z => absurd z.1 (by decide), fun z => absurd z.1 (by decide)⟩ | omega)]
            omega
          have rs4 : OQ m4 (uR 3 s) := rs'.same (fun p => f4 343 p (by first | decide | exact fun z => absurd z.1 (by decide) | exact ⟨fun z => absurd z.1 (by decide), fun z => absurd z.1 (by decide)⟩ | omega)) (f4 336 16 (by first | decide | exact fun z => absurd z.1 (by decide) | exact ⟨fun z => absurd z.1 (by decide), fun z => absurd z.1 (by decide)⟩ | omega)) (f4 336 13 (by first | decide | exact fun z => absurd z.1 (by decide) | exact ⟨fun z => absurd z.1 (by decide), fun z => absurd z.1 (by decide)⟩ | omega))
          refine zl_strength ?_
          have sc := strn_c op
          refine ⟨hS.k336, ?_⟩
          have rq4 : RQ m4 (R0 ++ (W ++ uW 3 s)) := l'.2.2.2.1.same (fun c p z => f4 c p (by first | exact fun y => absurd (y.1 ▸ z) (by decide) | exact fun y => absurd (y.1 ▸ q) (by decide) | exact z | exact q | exact z.1 | exact q.1 | exact z.2 | exact q.2 | omega))
          obtain ⟨x, hx⟩ : ∃ x : Int, (op = 12 ∧ x = -23 ∧ strn op = 2 ∧ bnS x = 2) ∨ (op = 13 ∧ x = -24 ∧ strn op = 1 ∧ bnS x = 1) := by
            rcases hs with ⟨e, _⟩ | ⟨e, _, _⟩
            · exact ⟨-23, Or.inl ⟨e, rfl, by omega, rfl⟩⟩
            · exact ⟨-24, Or.inr ⟨e, rfl, by omega, rfl⟩⟩
          refine zv_settles hS hm4 t4' (by decide) (by omega) (by omega) rs4 rq4 (fun m5 hm5 t5 A5 e8 e12 e9 rs5 rq5 => ?_)
          have sb : strn op = bnS x := by omega
          have ap5 := uW_app (v := bnS x) (w := 3) (by omega) s
          rw [sb, ap5.2] at rs5
          rw [sb] at rq5
          have ty5 := ty_settle (u := bnS x) (uR 3 s) (W ++ uW 3 s) rs'.2.2.2 l'.2.2.2.2
          rw [List.append_assoc, ← ap5.1, ap5.2] at ty5
          have b16 := hm5.f_336_16
          have b85 := hm5.f_336_8
          have l5 := t5.2.2.2.2.1
          have bl5 := t5.2.1.1
          refine g_getr 15 343 rfl hS.k336 hm5.f_336_15 (by decide) ?_
          refine g_getu 16 rfl hS.k336 (fun v ev => ?_)
          refine g_st hS.k343 hS.l343 (by omega) (by omega) (hm5.wa_343 (by omega) (by omega)) (fun m6 e6 hm6 => ?_)
          have f6 : ∀ c p : Int, ¬ (c = 343 ∧ p = v) → m6 c p = m5 c p := fun c p q => (congrFun (congrFun e6 _) _).trans (up_ne q)
          have x6 : m6 343 v = op := (congrFun (congrFun e6 _) _).trans (up_at _ _ _ _)
          refine g_getu 16 rfl hS.k336 (fun v7 ev7 => ?_)
          rw [f6 336 16 (by first | decide | exact fun z => absurd z.1 (by decide) | exact ⟨fun z => absurd z.1 (by decide), fun z => absurd z.1 (by decide)⟩ | omega)] at ev7
          refine g_C ?_
          refine g_A (by omega) (by omega) ?_
          refine g_put 16 rfl hS.k336 (hm6.w_336_16 (by omega) (by omega)) (fun m7 e7 hm7 => ?_)
          have f7 : ∀ c p : Int, ¬ (c = 336 ∧ p = 16) → m7 c p = m6 c p := fun c p q => (congrFun (congrFun e7 _) _).trans (up_ne q)
          have x7 : m7 336 16 = v7 + 1 := (congrFun (congrFun e7 _) _).trans (up_at _ _ _ _)
          have xo : m7 343 (m5 336 16) = op := by rw [f7 343 _ (by first | decide | exact fun z => absurd z.1 (by decide) | exact ⟨fun z => absurd z.1 (by decide), fun z => absurd z.1 (by decide)⟩ | omega), ← ev]; exact x6
          have ops : op = 12 ∨ op = 13 := by omega
          obtain ⟨t7, A7⟩ := t5.pushop (m1 := m7) (k1 := 0) (e1 := 0) (s := op) b16.1 (fun c p q => (f7 c p (by first | exact fun y => absurd (y.1 ▸ z) (by decide) | exact fun y => absurd (y.1 ▸ q) (by decide) | exact z | exact q | exact z.1 | exact q.1 | exact z.2 | exact q.2 | omega)).trans (f6 c p (by first | exact fun y => absurd (y.1 ▸ z) (by decide) | exact fun y => absurd (y.1 ▸ q) (by decide) | exact z | exact q | exact z.1 | exact q.1 | exact z.2 | exact q.2 | omega))) (by omega) xo (by omega) (by rw [f7 336 8 (by first | decide | exact fun z => absurd z.1 (by decide) | exact ⟨fun z => absurd z.1 (by decide), fun z => absurd z.1 (by decide)⟩ | omega), f6 336 8 (by first | decide | exact fun z => absurd z.1 (by decide) | exact ⟨fun z => absurd z.1 (by decide), fun z => absurd z.1 (by decide)⟩ | omega)]; omega) (by rw [f7 336 8 (by first | decide | exact fun z => absurd z.1 (by decide) | exact ⟨fun z => absurd z.1 (by decide), fun z => absurd z.1 (by decide)⟩ | omega), f6 336 8 (by first | decide | exact fun z => absurd z.1 (by decide) | exact ⟨fun z => absurd z.1 (by decide), fun z => absurd z.1 (by decide)⟩ | omega)]; omega) (by rw [if_pos ops]; rfl) (by decide)
          have e87 : m7 336 8 = m5 336 8 := by rw [f7 336 8 (by first | decide | exact fun z => absurd z.1 (by decide) | exact ⟨fun z => absurd z.1 (by decide), fun z => absurd z.1 (by decide)⟩ | omega), f6 336 8 (by first | decide | exact fun z => absurd z.1 (by decide) | exact ⟨fun z => absurd z.1 (by decide), fun z => absurd z.1 (by decide)⟩ | omega)]
          have ex : op = en x := by
            rcases hx with ⟨e1, e2, _⟩ | ⟨e1, e2, _⟩
            · rw [e1, e2]; rfl
            · rw [e1, e2]; rfl
          have nd7 : nDp (x :: uR (bnS x) s) = nDp (uR (bnS x) s) := by
            show (if x = -27 ∨ x = -22 then 1 else 0) + nDp (uR (bnS x) s) = _
            rw [if_neg (by omega), Nat.zero_add]
          have rs7 : OQ m7 (x :: uR (bnS x) s) := rs5.push (m1 := m7) (x := x) b16.1 (fun j j0 j1 => by rw [f7 343 j (by first | decide | exact fun z => absurd z.1 (by decide) | exact ⟨fun z => absurd z.1 (by decide), fun z => absurd z.1 (by decide)⟩ | omega), f6 343 j (by first | decide | exact fun z => absurd z.1 (by decide) | exact ⟨fun z => absurd z.1 (by decide), fun z => absurd z.1 (by decide)⟩ | omega)]) (by omega) (xo.trans ex) (by rw [if_neg (by omega), f7 336 13 (by first | decide | exact fun z => absurd z.1 (by decide) | exact ⟨fun z => absurd z.1 (by decide), fun z => absurd z.1 (by decide)⟩ | omega), f6 336 13 (by first | decide | exact fun z => absurd z.1 (by decide) | exact ⟨fun z => absurd z.1 (by decide), fun z => absurd z.1 (by decide)⟩ | omega)]; omega) (by rw [nd7]; exact rs5.2.2.1) (by omega)
          have rq7 : RQ m7 (R0 ++ (W ++ uW (bnS x) s)) := by
            rw [ap5.1, ← List.append_assoc W, ← List.append_assoc R0]
            exact rq5.same (fun c p z => (f7 c p (by first | exact fun y => absurd (y.1 ▸ z) (by decide) | exact fun y => absurd (y.1 ▸ q) (by decide) | exact z | exact q | exact z.1 | exact q.1 | exact z.2 | exact q.2 | omega)).trans (f6 c p (by first | exact fun y => absurd (y.1 ▸ z) (by decide) | exact fun y => absurd (y.1 ▸ q) (by decide) | exact z | exact q | exact z.1 | exact q.1 | exact z.2 | exact q.2 | omega)))
          have l7 : Lw tb tn T O0 R0 m7 8 (x :: uR (bnS x) s) (W ++ uW (bnS x) s) (W ++ uW (bnS x) s) kk (rpt (nbP (x :: uR (bnS x) s))) := l'.to sks (p := m' 336 8 + tl k) (c := m' 336 12) (by omega) (by rw [f7 336 12 (by first | decide | exact fun z => absurd z.1 (by decide) | exact ⟨fun z => absurd z.1 (by decide), fun z => absurd z.1 (by decide)⟩ | omega), f6 336 12 (by first | decide | exact fun z => absurd z.1 (by decide) | exact ⟨fun z => absurd z.1 (by decide), fun z => absurd z.1 (by decide)⟩ | omega), e12, f4 336 12 (by first | decide | exact fun z => absurd z.1 (by decide) | exact ⟨fun z => absurd z.1 (by decide), fun z => absurd z.1 (by decide)⟩ | omega)]) (by rw [f7 336 9 (by first | decide | exact fun z => absurd z.1 (by decide) | exact ⟨fun z => absurd z.1 (by decide), fun z => absurd z.1 (by decide)⟩ | omega), f6 336 9 (by first | decide | exact fun z => absurd z.1 (by decide) | exact ⟨fun z => absurd z.1 (by decide), fun z => absurd z.1 (by decide)⟩ | omega), e9, f4 336 9 (by first | decide | exact fun z => absurd z.1 (by decide) | exact ⟨fun z => absurd z.1 (by decide), fun z => absurd z.1 (by decide)⟩ | omega)]) rn (fun f E hA => by
            rw [← List.append_assoc] at hA
            refine tb_B hmo n93 nend (fun y => na' y _ sks) ?_
            rcases hs with ⟨_, e⟩ | ⟨_, e, n15⟩
            · rw [e, tls.2.2.2.1, show x = -23 by omega] at hA
              rw [e] at wk
              exact g_ifT wk hA
            · rw [e, tls.2.2.2.2, show x = -24 by omega] at hA
              rw [e] at wk
              exact g_ifF n15 (g_ifT wk hA)) rq7 (by
            rw [ty5]
            show _ = some (rpt ((if x = -23 ∨ x = -24 then 1 else 0) + nbP (uR (bnS x) s)))
            rw [if_pos (by omega), Nat.add_comm, rpt_s])
          exact ih 1 m7 6 _ _ hm7 (by decide) (by decide) t7 (((A'.trans A4).trans A5).trans A7) (fun _ => ⟨l7, rs7⟩) (fun z => absurd z (by decide)) (by omega)
        have yes : ∀ m' : Mm, Inv X S m' → Ts X m' 0 (m0 339 (m0 336 11)) 1 → Adv m0 m' → m1 336 8 ≤ m' 336 8 → Tw tb tn T O0 R0 m' mo s W kk → (¬ Wk tb tn 15 (m' 336 8) → Wk tb tn 16 (m' 336 8)) → wp_X12_tested_49 S (fun a0 a1 M => wp_X12_tested_12 S K n a0 a1 M) K 336 m' := by
          intro m' hm' t'' A' p' tl' hw
          have sks := tl'.2.2.2.2.1
          refine u_X12_tested_49 ?_
          refine g_C ?_
          refine u_X12_tested_54 ?_
          refine g_ifF (by decide) ?_
          refine g_C ?_
          refine ⟨hS.k336, ?_⟩
          refine zx_isWord 15 hS hm' hR tl'.1.2.2.1 (by decide) pw15 (fun q m5 hm5 f5 sk e5 qn wk => ?_) (fun q m5 hm5 f5 sk e5 qn wk => ?_)
          · have eq := sks.uniq sk
            obtain ⟨t5, A5⟩ := t''.fr (m1 := m5) (fun c p q => f5 c p (by first | exact fun y => absurd (y.1 ▸ z) (by decide) | exact fun y => absurd (y.1 ▸ q) (by decide) | exact z | exact q | exact z.1 | exact q.1 | exact z.2 | exact q.2 | omega)) (by omega) (by rw [f5 336 12 (by first | decide | exact fun z => absurd z.1 (by decide) | exact ⟨fun z => absurd z.1 (by decide), fun z => absurd z.1 (by decide)⟩ | omega)]; omega)
            exact g_ifF (by decide) (g_C (go 12 15 m5 (Or.inl ⟨rfl, rfl⟩) hm5 t5 (A'.trans A5) (by omega) (tl'.same (by omega) (fun c p q => f5 c p (by first | exact fun y => absurd (y.1 ▸ z) (by decide) | exact fun y => absurd (y.1 ▸ q) (by decide) | exact z | exact q | exact z.1 | exact q.1 | exact z.2 | exact q.2 | omega))) (by rw [e5]; exact wk)))
          · have eq := sks.uniq sk
            obtain ⟨t5, A5⟩ := t''.fr (m1 := m5) (fun c p q => f5 c p (by first | exact fun y => absurd (y.1 ▸ z) (by decide) | exact fun y => absurd (y.1 ▸ q) (by decide) | exact z | exact q | exact z.1 | exact q.1 | exact z.2 | exact q.2 | omega)) (by omega) (by rw [f5 336 12 (by first | decide | exact fun z => absurd z.1 (by decide) | exact ⟨fun z => absurd z.1 (by decide), fun z => absurd z.1 (by decide)⟩ | omega)]; omega)
            exact g_ifT rfl (g_C (go 13 16 m5 (Or.inr ⟨rfl, rfl, by rw [e5]; exact wk⟩) hm5 t5 (A'.trans A5) (by omega) (tl'.same (by omega) (fun c p q => f5 c p (by first | exact fun y => absurd (y.1 ▸ z) (by decide) | exact fun y => absurd (y.1 ▸ q) (by decide) | exact z | exact q | exact z.1 | exact q.1 | exact z.2 | exact q.2 | omega))) (by rw [e5, ← eq]; exact hw (by rw [eq]; exact wk))))
        have sks := tl2.2.2.2.2.1
        refine g_C ?_
        refine ⟨hS.k336, ?_⟩
        refine zx_isWord 15 hS hm2 hR tl2.1.2.2.1 (by decide) pw15 (fun q m3 hm3 f3 sk e3 qn wk => ?_) (fun q m3 hm3 f3 sk e3 qn wk => ?_)
        · have eq := sks.uniq sk
          obtain ⟨t3, A3⟩ := t2.fr (m1 := m3) (fun c p q => f3 c p (by first | exact fun y => absurd (y.1 ▸ z) (by decide) | exact fun y => absurd (y.1 ▸ q) (by decide) | exact z | exact q | exact z.1 | exact q.1 | exact z.2 | exact q.2 | omega)) (by omega) (by rw [f3 336 12 (by first | decide | exact fun z => absurd z.1 (by decide) | exact ⟨fun z => absurd z.1 (by decide), fun z => absurd z.1 (by decide)⟩ | omega)]; omega)
          exact g_ifT (by decide) (yes m3 hm3 t3 (((A.trans A1).trans A2).trans A3) (by omega) (tl2.same (by omega) (fun c p q => f3 c p (by first | exact fun y => absurd (y.1 ▸ z) (by decide) | exact fun y => absurd (y.1 ▸ q) (by decide) | exact z | exact q | exact z.1 | exact q.1 | exact z.2 | exact q.2 | omega))) (fun z => absurd (by rw [e3]; exact wk) z))
        · have eq := sks.uniq sk
          obtain ⟨t3, A3⟩ := t2.fr (m1 := m3) (fun c p q => f3 c p (by first | exact fun y => absurd (y.1 ▸ z) (by decide) | exact fun y => absurd (y.1 ▸ q) (by decide) | exact z | exact q | exact z.1 | exact q.1 | exact z.2 | exact q.2 | omega)) (by omega) (by rw [f3 336 12 (by first | decide | exact fun z => absurd z.1 (by decide) | exact ⟨fun z => absurd z.1 (by decide), fun z => absurd z.1 (by decide)⟩ | omega)]; omega)
          have tl3 : Tw tb tn T O0 R0 m3 mo s W kk := tl2.same (by omega) (fun c p q => f3 c p (by first | exact fun y => absurd (y.1 ▸ z) (by decide) | exact fun y => absurd (y.1 ▸ q) (by decide) | exact z | exact q | exact z.1 | exact q.1 | exact z.2 | exact q.2 | omega))
          have n15 : ¬ Wk tb tn 15 (m3 336 8) := by rw [e3]; exact wk
          have sks3 := tl3.2.2.2.2.1
          refine g_ifF (by decide) ?_
          refine g_C ?_
          refine ⟨hS.k336, ?_⟩
          refine zx_isWord 16 hS hm3 hR tl3.1.2.2.1 (by decide) pw16 (fun q4 m4 hm4 f4 sk4 e4 qn4 wk4 => ?_) (fun q4 m4 hm4 f4 sk4 e4 qn4 wk4 => ?_)
          · have eq4 := sks3.uniq sk4
            obtain ⟨t4, A4⟩ := t3.fr (m1 := m4) (fun c p q => f4 c p (by first | exact fun y => absurd (y.1 ▸ z) (by decide) | exact fun y => absurd (y.1 ▸ q) (by decide) | exact z | exact q | exact z.1 | exact q.1 | exact z.2 | exact q.2 | omega)) (by omega) (by rw [f4 336 12 (by first | decide | exact fun z => absurd z.1 (by decide) | exact ⟨fun z => absurd z.1 (by decide), fun z => absurd z.1 (by decide)⟩ | omega)]; omega)
            exact g_ifF (by decide) (yes m4 hm4 t4 ((((A.trans A1).trans A2).trans A3).trans A4) (by omega) (tl3.same (by omega) (fun c p q => f4 c p (by first | exact fun y => absurd (y.1 ▸ z) (by decide) | exact fun y => absurd (y.1 ▸ q) (by decide) | exact z | exact q | exact z.1 | exact q.1 | exact z.2 | exact q.2 | omega))) (fun _ => by rw [e4]; exact wk4))
          · have eq4 := sks3.uniq sk4
            obtain ⟨t4, A4⟩ := t3.fr (m1 := m4) (fun c p q => f4 c p (by first | exact fun y => absurd (y.1 ▸ z) (by decide) | exact fun y => absurd (y.1 ▸ q) (by decide) | exact z | exact q | exact z.1 | exact q.1 | exact z.2 | exact q.2 | omega)) (by omega) (by rw [f4 336 12 (by first | decide | exact fun z => absurd z.1 (by decide) | exact ⟨fun z => absurd z.1 (by decide), fun z => absurd z.1 (by decide)⟩ | omega)]; omega)
            refine g_ifT rfl ?_
            refine g_C ?_
            refine u_X12_tested_54 ?_
            refine g_ifT rfl ?_
            exact ih 0 m4 mo s W hm4 (by decide) (by decide) t4 ((((A.trans A1).trans A2).trans A3).trans A4) (fun z => absurd z (by decide)) (fun _ => ⟨tl3.same (by omega) (fun c p q => f4 c p (by first | exact fun y => absurd (y.1 ▸ z) (by decide) | exact fun y => absurd (y.1 ▸ q) (by decide) | exact z | exact q | exact z.1 | exact q.1 | exact z.2 | exact q.2 | omega)), by rw [e4, ← eq4]; exact n15, by rw [e4]; exact wk4⟩) (by omega)
  have b8 := hm2.f_336_8
  exact ⟨804, L 804 1 m2 6 [] W0 hm2 (by decide) (by decide) t2 A2 (fun _ => ⟨l2, rs2⟩) (fun z => absurd z (by decide)) (by omega)⟩
