/-- hands and jugs that are being told stand at places that are told -/
def PR (M : Mm) : Prop := PlOK (M 342) (M 342 0) (M 342 4) (M 342 5)
theorem PR.same {m m' : Mm} (h : PR m) (f : ∀ p : Int, m' 342 p = m 342 p) : PR m' := by
  have e : m' 342 = m 342 := funext f
  unfold PR
  rw [e]
  exact h
theorem PR.hand {m m' : Mm} (h : PR m) {n : Int} (hn : n = m 342 4) (b : 0 ≤ n ∧ n ≤ 4) (f : ∀ p : Int, ¬ (10 + 5 * n ≤ p ∧ p < 15 + 5 * n) → ¬ p = 4 → m' 342 p = m 342 p) (h4 : m' 342 4 = n + 1) (hp : m' 342 (10 + 5 * n) < m 342 0) : PR m' := by
  unfold PR at h ⊢
  obtain ⟨h1, h2⟩ := h
  rw [h4, f 0 (by omega) (by omega), f 5 (by omega) (by omega)]
  refine ⟨fun a a0 a1 => ?_, fun a a0 a1 => ?_⟩
  · by_cases e : a = n
    · rw [e]; exact hp
    · rw [f _ (by omega) (by omega)]; exact h1 a a0 (by omega)
  · rw [f _ (by omega) (by omega)]; exact h2 a a0 a1
theorem PR.jug {m m' : Mm} (h : PR m) {n : Int} (hn : n = m 342 5) (b : 0 ≤ n ∧ n ≤ 3) (b4 : m 342 4 ≤ 5) (f : ∀ p : Int, ¬ (35 + 4 * n ≤ p ∧ p < 39 + 4 * n) → ¬ p = 5 → m' 342 p = m 342 p) (h5 : m' 342 5 = n + 1) (hp : m' 342 (35 + 4 * n) < m 342 0) : PR m' := by
  unfold PR at h ⊢
  obtain ⟨h1, h2⟩ := h
  rw [h5, f 0 (by omega) (by omega), f 4 (by omega) (by omega)]
  refine ⟨fun a a0 a1 => ?_, fun a a0 a1 => ?_⟩
  · rw [f _ (by omega) (by omega)]; exact h1 a a0 a1
  · by_cases e : a = n
    · rw [e]; exact hp
    · rw [f _ (by omega) (by omega)]; exact h2 a a0 (by omega)
theorem PR.oth {m m' : Mm} (h : PR m) (b4 : m 342 4 ≤ 5) (b5 : m 342 5 ≤ 4) (f : ∀ p : Int, (p = 0 ∨ p = 4 ∨ p = 5 ∨ (10 ≤ p ∧ p ≤ 50)) → m' 342 p = m 342 p) : PR m' := by
  unfold PR at h ⊢
  obtain ⟨h1, h2⟩ := h
  rw [f 0 (by omega), f 4 (by omega), f 5 (by omega)]
  refine ⟨fun a a0 a1 => ?_, fun a a0 a1 => ?_⟩
  · rw [f _ (by omega)]; exact h1 a a0 a1
  · rw [f _ (by omega)]; exact h2 a a0 a1
theorem Inv.w342 {X : Mm} {S : Sh} {M : Mm} (h : Inv X S M) {i v : Int} (h0 : 0 ≤ i) (hb : okb (bd 342 i.toNat) v) : Inv X S (up M 342 i v) := by
  have q := h.wl 342 i.toNat (v := v) (h.pl.put (by omega) (fun e => absurd e (by decide))) hb (by omega) (by decide) (by omega)
  rw [show ((342 : Nat) : Int) = 342 from rfl, Int.toNat_of_nonneg h0] at q
  exact q
theorem zd_cell {X : Mm} {S : Sh} {m0 : Mm} {K : Int → Mm → Prop} {u1 u2 u3 : Int} (hS : Shp S) (hm0 : Inv X S m0) (h1 : 0 ≤ u1) (h1' : u1 ≤ 116) (h2 : 0 ≤ u2) (h2' : u2 ≤ 99) (h3 : -1 ≤ u3) (h3' : u3 ≤ 99999) (hb : ∀ v : Int, u2 ≤ v → v ≤ u3 → okb (bd 342 u1.toNat) v) (hf : ∀ M1 : Mm, Inv X S M1 → ¬ M1 336 9 = 0 → K 0 M1) (hk : ∀ M1 : Mm, Inv X S M1 → (∀ c p : Int, ¬ (c = 336 ∧ 8 ≤ p ∧ p ≤ 10) ∧ ¬ (c = 342 ∧ p = u1) → M1 c p = m0 c p) → u2 ≤ M1 342 u1 → M1 342 u1 ≤ u3 → m0 336 8 ≤ M1 336 8 → K 1 M1) : wp_X12_cellHere S m0 336 u1 u2 u3 K := by
  refine u_X12_cellHere ?_
  refine ⟨hS.k336, ?_⟩
  refine z_X12_numberHere hS hm0 h2 h2' h3 h3' (fun r2 m2 hm2 f2 b2 c2 y2 y3 y4 y5 => ?_)
  refine g_if (fun w => ?_) (fun w => g_C ⟨by decide, hf m2 hm2 (y4.resolve_left (by omega))⟩)
  refine g_getr 7 342 rfl hS.k336 hm2.f_336_7 (by decide) ?_
  refine g_getu 10 rfl hS.k336 (fun v ev => ?_)
  obtain ⟨z1, z2⟩ := y5.resolve_left w
  refine g_st hS.k342 hS.l342 (by omega) (by omega) (hm2.w342 (by omega) (hb v (by omega) (by omega))) (fun m3 e3 hm3 => ?_)
  have f3 : ∀ c p : Int, ¬ (c = 342 ∧ p = u1) → m3 c p = m2 c p := fun c p q => (congrFun (congrFun e3 _) _).trans (up_ne q)
  have x3 : m3 342 u1 = v := (congrFun (congrFun e3 _) _).trans (up_at _ _ _ _)
  refine g_C ⟨by decide, hk m3 hm3 (fun c p q => (f3 c p (by omega)).trans (f2 c p (by omega))) (by omega) (by omega) (by rw [f3 336 8 (by omega)]; exact y2)⟩

theorem rq_51 : ∀ a : Nat, a < 6 → bd 342 (51 + 1 * a) = (-2147483648, 2147483647) := by decide +kernel
theorem rq_10 : ∀ a : Nat, a < 5 → bd 342 (10 + 5 * a) = (0, 5) := by decide +kernel
theorem rq_13 : ∀ a : Nat, a < 5 → bd 342 (13 + 5 * a) = (0, 20) := by decide +kernel
theorem rq_14 : ∀ a : Nat, a < 5 → bd 342 (14 + 5 * a) = (0, 5) := by decide +kernel
theorem rq_11 : ∀ a : Nat, a < 5 → bd 342 (11 + 5 * a) = (0, 5) := by decide +kernel
theorem rq_12 : ∀ a : Nat, a < 5 → bd 342 (12 + 5 * a) = (0, 99) := by decide +kernel
theorem zd_isHandHere {X : Mm} {S : Sh} {m0 : Mm} {K : Int → Mm → Prop} {u1 : Int} (hS : Shp S) (hm0 : Inv X S m0) (h1 : 0 ≤ u1) (h1' : u1 ≤ 400) (hp : PR m0) (hf : ∀ M1 : Mm, Inv X S M1 → ¬ M1 336 9 = 0 → K 0 M1) (hk : ∀ M1 : Mm, Inv X S M1 → PR M1 → (∀ p : Int, (p = 11 ∨ p = 14) → M1 336 p = m0 336 p) → m0 336 8 ≤ M1 336 8 → K 1 M1) : wp_X12_isHandHere S m0 336 u1 K := by
  have c0 := hm0.f_342_0
  have c4 := hm0.f_342_4
  have c5 := hm0.f_342_5
  have cc := hm0.f_342_4
  refine u_X12_isHandHere ?_
  refine g_getr 7 342 rfl hS.k336 hm0.f_336_7 (by decide) ?_
  refine g_C ?_
  refine g_ldu hS.k342 hS.l342 (by omega) (by omega) (fun v0 ev0 => ?_)
  refine g_C ?_
  refine g_if (fun w => ?_) (fun w => ?_)
  · refine ⟨hS.k336, ?_⟩
    refine z_X12_passWord hS hm0 (fun m1 hm1 f1 y1 _ => ?_)
    refine g_C ?_
    refine g_C ?_
    refine g_getr 7 342 rfl hS.k336 hm1.f_336_7 (by decide) ?_
    refine g_C ?_
    refine g_ldu hS.k342 hS.l342 (by omega) (by omega) (fun n en => ?_)
    rw [f1 342 _ (by omega)] at en
    refine g_M (by omega) (by omega) ?_
    refine g_A (by omega) (by omega) ?_
    refine g_C ?_
    refine g_getr 7 342 rfl hS.k336 hm1.f_336_7 (by decide) ?_
    refine g_C ?_
    refine g_ldu hS.k342 hS.l342 (by omega) (by omega) (fun pp epp => ?_)
    rw [f1 342 _ (by omega)] at epp
    refine g_C ?_
    refine g_S (by omega) (by omega) ?_
    refine ⟨hS.k336, ?_⟩
    refine zd_cell hS hm1 (by omega) (by omega) (by omega) (by omega) (by omega) (by omega) (fun v lv uv => okb_of (l := 0) (u := 5) (by rw [show (10 + 5 * n).toNat = 10 + 5 * n.toNat by omega]; exact rq_10 _ (by omega)) (by omega) (by omega)) (fun m8 hm8 n8 => g_ifT rfl (g_C ⟨by decide, hf m8 hm8 n8⟩)) (fun m2 hm2 f2 lo_2 hi_2 y2 => ?_)
    refine g_ifF (by decide) ?_
    refine g_C ?_
    refine g_A (by omega) (by omega) ?_
    refine g_C ?_
    refine g_C ?_
    refine ⟨hS.k336, ?_⟩
    refine zd_cell hS hm2 (by omega) (by omega) (by omega) (by omega) (by omega) (by omega) (fun v lv uv => okb_of (l := 0) (u := 20) (by rw [show (10 + 5 * n + 3).toNat = 13 + 5 * n.toNat by omega]; exact rq_13 _ (by omega)) (by omega) (by omega)) (fun m8 hm8 n8 => g_ifT rfl (g_C ⟨by decide, hf m8 hm8 n8⟩)) (fun m3 hm3 f3 lo_3 hi_3 y3 => ?_)
    refine g_ifF (by decide) ?_
    refine g_C ?_
    refine g_A (by omega) (by omega) ?_
    refine g_C ?_
    refine g_C ?_
    refine ⟨hS.k336, ?_⟩
    refine zd_cell hS hm3 (by omega) (by omega) (by omega) (by omega) (by omega) (by omega) (fun v lv uv => okb_of (l := 0) (u := 5) (by rw [show (10 + 5 * n + 4).toNat = 14 + 5 * n.toNat by omega]; exact rq_14 _ (by omega)) (by omega) (by omega)) (fun m8 hm8 n8 => g_ifF (by decide) (g_C ⟨by decide, hf m8 hm8 n8⟩)) (fun m4 hm4 f4 lo_4 hi_4 y4 => ?_)
    refine g_ifT (by decide) ?_
    refine g_getr 7 342 rfl hS.k336 hm4.f_336_7 (by decide) ?_
    refine g_C ?_
    refine g_A (by omega) (by omega) ?_
    refine g_C ?_
    refine g_st hS.k342 hS.l342 (by omega) (by omega) (hm4.w342 (by omega) (okb_of (l := 0) (u := 5) (by rw [show (10 + 5 * n + 1).toNat = 11 + 5 * n.toNat by omega]; exact rq_11 _ (by omega)) (by omega) (by omega))) (fun m5 e5 hm5 => ?_)
    have f5 : ∀ c p : Int, ¬ (c = 342 ∧ p = 10 + 5 * n + 1) → m5 c p = m4 c p := fun c p q => (congrFun (congrFun e5 _) _).trans (up_ne q)
    refine g_getr 7 342 rfl hS.k336 hm5.f_336_7 (by decide) ?_
    refine g_C ?_
    refine g_A (by omega) (by omega) ?_
    refine g_C ?_
    refine g_st hS.k342 hS.l342 (by omega) (by omega) (hm5.w342 (by omega) (okb_of (l := 0) (u := 99) (by rw [show (10 + 5 * n + 2).toNat = 12 + 5 * n.toNat by omega]; exact rq_12 _ (by omega)) (by omega) (by omega))) (fun m6 e6 hm6 => ?_)
    have f6 : ∀ c p : Int, ¬ (c = 342 ∧ p = 10 + 5 * n + 2) → m6 c p = m5 c p := fun c p q => (congrFun (congrFun e6 _) _).trans (up_ne q)
    refine g_getr 7 342 rfl hS.k336 hm6.f_336_7 (by decide) ?_
    refine g_C ?_
    refine g_ldu hS.k342 hS.l342 (by omega) (by omega) (fun q1 eq1 => ?_)
    rw [f6 342 _ (by omega), f5 342 _ (by omega), f4 342 _ (by omega), f3 342 _ (by omega), f2 342 _ (by omega), f1 342 _ (by omega)] at eq1
    refine g_C ?_
    refine g_A (by omega) (by omega) ?_
    refine g_st hS.k342 hS.l342 (by omega) (by omega) (hm6.w342 (by omega) (okb_of (l := 0) (u := 5) (by decide +kernel) (by omega) (by omega))) (fun m7 e7 hm7 => ?_)
    have f7 : ∀ c p : Int, ¬ (c = 342 ∧ p = 4) → m7 c p = m6 c p := fun c p q => (congrFun (congrFun e7 _) _).trans (up_ne q)
    have x7 : m7 342 4 = q1 + 1 := (congrFun (congrFun e7 _) _).trans (up_at _ _ _ _)
    have F : ∀ c p : Int, ¬ (c = 336 ∧ 8 ≤ p ∧ p ≤ 10) ∧ ¬ (c = 342 ∧ p = 10 + 5 * n) ∧ ¬ (c = 342 ∧ p = 10 + 5 * n + 3) ∧ ¬ (c = 342 ∧ p = 10 + 5 * n + 4) ∧ ¬ (c = 342 ∧ p = 10 + 5 * n + 1) ∧ ¬ (c = 342 ∧ p = 10 + 5 * n + 2) ∧ ¬ (c = 342 ∧ p = 4) → m7 c p = m0 c p := fun c p q => by rw [f7 c p (by omega), f6 c p (by omega), f5 c p (by omega), f4 c p (by omega), f3 c p (by omega), f2 c p (by omega), f1 c p (by omega)]
    refine g_C ⟨by decide, hk m7 hm7 ?_ (fun p q => F 336 p (by omega)) (by rw [f7 336 8 (by omega), f6 336 8 (by omega), f5 336 8 (by omega)]; omega)⟩
    refine hp.hand (n := n) en (by omega) (fun p q1 q2 => F 342 p (by omega)) (by omega) ?_
    rw [f7 342 _ (by omega), f6 342 _ (by omega), f5 342 _ (by omega), f4 342 _ (by omega), f3 342 _ (by omega)]
    omega
  · refine g_C ?_
    refine ⟨hS.k336, ?_⟩
    refine z_X12_fails hS hm0 (by decide) (by decide) (by omega) (by omega) (fun r9 m9 hm9 f9 b9 c9 y9 => ?_)
    obtain rfl : r9 = 0 := by omega
    exact ⟨by decide, hf m9 hm9 y9⟩
theorem rq_35 : ∀ a : Nat, a < 4 → bd 342 (35 + 4 * a) = (0, 5) := by decide +kernel
theorem rq_37 : ∀ a : Nat, a < 4 → bd 342 (37 + 4 * a) = (-2147483648, 2147483647) := by decide +kernel
theorem rq_36 : ∀ a : Nat, a < 4 → bd 342 (36 + 4 * a) = (-1, 4) := by decide +kernel
theorem rq_38 : ∀ a : Nat, a < 4 → bd 342 (38 + 4 * a) = (0, 1) := by decide +kernel
theorem zd_isJugHere {X : Mm} {S : Sh} {m0 : Mm} {K : Int → Mm → Prop} {u1 : Int} (hS : Shp S) (hm0 : Inv X S m0) (h1 : 0 ≤ u1) (h1' : u1 ≤ 400) (hp : PR m0) (hf : ∀ M1 : Mm, Inv X S M1 → ¬ M1 336 9 = 0 → K 0 M1) (hk : ∀ M1 : Mm, Inv X S M1 → PR M1 → (∀ p : Int, (p = 11 ∨ p = 14) → M1 336 p = m0 336 p) → m0 336 8 ≤ M1 336 8 → K 1 M1) : wp_X12_isJugHere S m0 336 u1 K := by
  have c0 := hm0.f_342_0
  have c4 := hm0.f_342_4
  have c5 := hm0.f_342_5
  have cc := hm0.f_342_5
  refine u_X12_isJugHere ?_
  refine g_getr 7 342 rfl hS.k336 hm0.f_336_7 (by decide) ?_
  refine g_C ?_
  refine g_ldu hS.k342 hS.l342 (by omega) (by omega) (fun v0 ev0 => ?_)
  refine g_C ?_
  refine g_if (fun w => ?_) (fun w => ?_)
  · refine ⟨hS.k336, ?_⟩
    refine z_X12_passWord hS hm0 (fun m1 hm1 f1 y1 _ => ?_)
    refine g_C ?_
    refine g_C ?_
    refine g_getr 7 342 rfl hS.k336 hm1.f_336_7 (by decide) ?_
    refine g_C ?_
    refine g_ldu hS.k342 hS.l342 (by omega) (by omega) (fun n en => ?_)
    rw [f1 342 _ (by omega)] at en
    refine g_M (by omega) (by omega) ?_
    refine g_A (by omega) (by omega) ?_
    refine g_C ?_
    refine g_getr 7 342 rfl hS.k336 hm1.f_336_7 (by decide) ?_
    refine g_C ?_
    refine g_ldu hS.k342 hS.l342 (by omega) (by omega) (fun pp epp => ?_)
    rw [f1 342 _ (by omega)] at epp
    refine g_C ?_
    refine g_S (by omega) (by omega) ?_
    refine ⟨hS.k336, ?_⟩
    refine zd_cell hS hm1 (by omega) (by omega) (by omega) (by omega) (by omega) (by omega) (fun v lv uv => okb_of (l := 0) (u := 5) (by rw [show (35 + 4 * n).toNat = 35 + 4 * n.toNat by omega]; exact rq_35 _ (by omega)) (by omega) (by omega)) (fun m8 hm8 n8 => g_ifT rfl (g_C ⟨by decide, hf m8 hm8 n8⟩)) (fun m2 hm2 f2 lo_2 hi_2 y2 => ?_)
    refine g_ifF (by decide) ?_
    refine g_C ?_
    refine g_A (by omega) (by omega) ?_
    refine g_C ?_
    refine g_C ?_
    refine ⟨hS.k336, ?_⟩
    refine zd_cell hS hm2 (by omega) (by omega) (by omega) (by omega) (by omega) (by omega) (fun v lv uv => okb_of (l := -2147483648) (u := 2147483647) (by rw [show (35 + 4 * n + 2).toNat = 37 + 4 * n.toNat by omega]; exact rq_37 _ (by omega)) (by omega) (by omega)) (fun m8 hm8 n8 => g_ifF (by decide) (g_C ⟨by decide, hf m8 hm8 n8⟩)) (fun m3 hm3 f3 lo_3 hi_3 y3 => ?_)
    refine g_ifT (by decide) ?_
    refine g_getr 7 342 rfl hS.k336 hm3.f_336_7 (by decide) ?_
    refine g_C ?_
    refine g_A (by omega) (by omega) ?_
    refine g_C ?_
    refine g_st hS.k342 hS.l342 (by omega) (by omega) (hm3.w342 (by omega) (okb_of (l := -1) (u := 4) (by rw [show (35 + 4 * n + 1).toNat = 36 + 4 * n.toNat by omega]; exact rq_36 _ (by omega)) (by omega) (by omega))) (fun m4 e4 hm4 => ?_)
    have f4 : ∀ c p : Int, ¬ (c = 342 ∧ p = 35 + 4 * n + 1) → m4 c p = m3 c p := fun c p q => (congrFun (congrFun e4 _) _).trans (up_ne q)
    refine g_getr 7 342 rfl hS.k336 hm4.f_336_7 (by decide) ?_
    refine g_C ?_
    refine g_A (by omega) (by omega) ?_
    refine g_C ?_
    refine g_st hS.k342 hS.l342 (by omega) (by omega) (hm4.w342 (by omega) (okb_of (l := 0) (u := 1) (by rw [show (35 + 4 * n + 3).toNat = 38 + 4 * n.toNat by omega]; exact rq_38 _ (by omega)) (by omega) (by omega))) (fun m5 e5 hm5 => ?_)
    have f5 : ∀ c p : Int, ¬ (c = 342 ∧ p = 35 + 4 * n + 3) → m5 c p = m4 c p := fun c p q => (congrFun (congrFun e5 _) _).trans (up_ne q)
    refine g_getr 7 342 rfl hS.k336 hm5.f_336_7 (by decide) ?_
    refine g_C ?_
    refine g_ldu hS.k342 hS.l342 (by omega) (by omega) (fun q1 eq1 => ?_)
    rw [f5 342 _ (by omega), f4 342 _ (by omega), f3 342 _ (by omega), f2 342 _ (by omega), f1 342 _ (by omega)] at eq1
    refine g_C ?_
    refine g_A (by omega) (by omega) ?_
    refine g_st hS.k342 hS.l342 (by omega) (by omega) (hm5.w342 (by omega) (okb_of (l := 0) (u := 4) (by decide +kernel) (by omega) (by omega))) (fun m6 e6 hm6 => ?_)
    have f6 : ∀ c p : Int, ¬ (c = 342 ∧ p = 5) → m6 c p = m5 c p := fun c p q => (congrFun (congrFun e6 _) _).trans (up_ne q)
    have x6 : m6 342 5 = q1 + 1 := (congrFun (congrFun e6 _) _).trans (up_at _ _ _ _)
    have F : ∀ c p : Int, ¬ (c = 336 ∧ 8 ≤ p ∧ p ≤ 10) ∧ ¬ (c = 342 ∧ p = 35 + 4 * n) ∧ ¬ (c = 342 ∧ p = 35 + 4 * n + 2) ∧ ¬ (c = 342 ∧ p = 35 + 4 * n + 1) ∧ ¬ (c = 342 ∧ p = 35 + 4 * n + 3) ∧ ¬ (c = 342 ∧ p = 5) → m6 c p = m0 c p := fun c p q => by rw [f6 c p (by omega), f5 c p (by omega), f4 c p (by omega), f3 c p (by omega), f2 c p (by omega), f1 c p (by omega)]
    refine g_C ⟨by decide, hk m6 hm6 ?_ (fun p q => F 336 p (by omega)) (by rw [f6 336 8 (by omega), f5 336 8 (by omega), f4 336 8 (by omega)]; omega)⟩
    refine hp.jug (n := n) en (by omega) (by omega) (fun p q1 q2 => F 342 p (by omega)) (by omega) ?_
    rw [f6 342 _ (by omega), f5 342 _ (by omega), f4 342 _ (by omega), f3 342 _ (by omega)]
    omega
  · refine g_C ?_
    refine ⟨hS.k336, ?_⟩
    refine z_X12_fails hS hm0 (by decide) (by decide) (by omega) (by omega) (fun r9 m9 hm9 f9 b9 c9 y9 => ?_)
    obtain rfl : r9 = 0 := by omega
    exact ⟨by decide, hf m9 hm9 y9⟩
theorem rq_81 : ∀ a : Nat, a < 4 → bd 342 (81 + 3 * a) = (0, 99) := by decide +kernel
theorem rq_82 : ∀ a : Nat, a < 4 → bd 342 (82 + 3 * a) = (0, 99) := by decide +kernel
theorem rq_83 : ∀ a : Nat, a < 4 → bd 342 (83 + 3 * a) = (0, 5) := by decide +kernel
theorem zd_isHeatHere {X : Mm} {S : Sh} {m0 : Mm} {K : Int → Mm → Prop} {u1 : Int} (hS : Shp S) (hm0 : Inv X S m0) (h1 : 0 ≤ u1) (h1' : u1 ≤ 400) (hp : PR m0) (hf : ∀ M1 : Mm, Inv X S M1 → ¬ M1 336 9 = 0 → K 0 M1) (hk : ∀ M1 : Mm, Inv X S M1 → PR M1 → (∀ p : Int, (p = 11 ∨ p = 14) → M1 336 p = m0 336 p) → m0 336 8 ≤ M1 336 8 → K 1 M1) : wp_X12_isHeatHere S m0 336 u1 K := by
  have c0 := hm0.f_342_0
  have c4 := hm0.f_342_4
  have c5 := hm0.f_342_5
  have cc := hm0.f_342_9
  refine u_X12_isHeatHere ?_
  refine g_getr 7 342 rfl hS.k336 hm0.f_336_7 (by decide) ?_
  refine g_C ?_
  refine g_ldu hS.k342 hS.l342 (by omega) (by omega) (fun v0 ev0 => ?_)
  refine g_C ?_
  refine g_if (fun w => ?_) (fun w => ?_)
  · refine ⟨hS.k336, ?_⟩
    refine z_X12_passWord hS hm0 (fun m1 hm1 f1 y1 _ => ?_)
    refine g_C ?_
    refine g_C ?_
    refine g_getr 7 342 rfl hS.k336 hm1.f_336_7 (by decide) ?_
    refine g_C ?_
    refine g_ldu hS.k342 hS.l342 (by omega) (by omega) (fun n en => ?_)
    rw [f1 342 _ (by omega)] at en
    refine g_M (by omega) (by omega) ?_
    refine g_A (by omega) (by omega) ?_
    refine g_C ?_
    refine g_C ?_
    refine ⟨hS.k336, ?_⟩
    refine zd_cell hS hm1 (by omega) (by omega) (by omega) (by omega) (by omega) (by omega) (fun v lv uv => okb_of (l := 0) (u := 99) (by rw [show (81 + 3 * n).toNat = 81 + 3 * n.toNat by omega]; exact rq_81 _ (by omega)) (by omega) (by omega)) (fun m8 hm8 n8 => g_ifT rfl (g_C ⟨by decide, hf m8 hm8 n8⟩)) (fun m2 hm2 f2 lo_2 hi_2 y2 => ?_)
    refine g_ifF (by decide) ?_
    refine g_C ?_
    refine g_A (by omega) (by omega) ?_
    refine g_getr 7 342 rfl hS.k336 hm2.f_336_7 (by decide) ?_
    refine g_ldu hS.k342 hS.l342 (by omega) (by omega) (fun lo1 elo1 => ?_)
    refine g_C ?_
    refine ⟨hS.k336, ?_⟩
    refine zd_cell hS hm2 (by omega) (by omega) (by omega) (by omega) (by omega) (by omega) (fun v lv uv => okb_of (l := 0) (u := 99) (by rw [show (81 + 3 * n + 1).toNat = 82 + 3 * n.toNat by omega]; exact rq_82 _ (by omega)) (by omega) (by omega)) (fun m8 hm8 n8 => g_ifT rfl (g_C ⟨by decide, hf m8 hm8 n8⟩)) (fun m3 hm3 f3 lo_3 hi_3 y3 => ?_)
    refine g_ifF (by decide) ?_
    refine g_C ?_
    refine g_A (by omega) (by omega) ?_
    refine g_C ?_
    refine g_C ?_
    refine ⟨hS.k336, ?_⟩
    refine zd_cell hS hm3 (by omega) (by omega) (by omega) (by omega) (by omega) (by omega) (fun v lv uv => okb_of (l := 0) (u := 5) (by rw [show (81 + 3 * n + 2).toNat = 83 + 3 * n.toNat by omega]; exact rq_83 _ (by omega)) (by omega) (by omega)) (fun m8 hm8 n8 => g_ifF (by decide) (g_C ⟨by decide, hf m8 hm8 n8⟩)) (fun m4 hm4 f4 lo_4 hi_4 y4 => ?_)
    refine g_ifT (by decide) ?_
    refine g_getr 7 342 rfl hS.k336 hm4.f_336_7 (by decide) ?_
    refine g_C ?_
    refine g_ldu hS.k342 hS.l342 (by omega) (by omega) (fun q1 eq1 => ?_)
    rw [f4 342 _ (by omega), f3 342 _ (by omega), f2 342 _ (by omega), f1 342 _ (by omega)] at eq1
    refine g_C ?_
    refine g_A (by omega) (by omega) ?_
    refine g_st hS.k342 hS.l342 (by omega) (by omega) (hm4.w342 (by omega) (okb_of (l := 0) (u := 4) (by decide +kernel) (by omega) (by omega))) (fun m5 e5 hm5 => ?_)
    have f5 : ∀ c p : Int, ¬ (c = 342 ∧ p = 9) → m5 c p = m4 c p := fun c p q => (congrFun (congrFun e5 _) _).trans (up_ne q)
    have x5 : m5 342 9 = q1 + 1 := (congrFun (congrFun e5 _) _).trans (up_at _ _ _ _)
    have F : ∀ c p : Int, ¬ (c = 336 ∧ 8 ≤ p ∧ p ≤ 10) ∧ ¬ (c = 342 ∧ p = 81 + 3 * n) ∧ ¬ (c = 342 ∧ p = 81 + 3 * n + 1) ∧ ¬ (c = 342 ∧ p = 81 + 3 * n + 2) ∧ ¬ (c = 342 ∧ p = 9) → m5 c p = m0 c p := fun c p q => by rw [f5 c p (by omega), f4 c p (by omega), f3 c p (by omega), f2 c p (by omega), f1 c p (by omega)]
    refine g_C ⟨by decide, hk m5 hm5 ?_ (fun p q => F 336 p (by omega)) (by rw [f5 336 8 (by omega)]; omega)⟩
    exact hp.oth (by omega) (by omega) (fun p q => F 342 p (by omega))
  · refine g_C ?_
    refine ⟨hS.k336, ?_⟩
    refine z_X12_fails hS hm0 (by decide) (by decide) (by omega) (by omega) (fun r9 m9 hm9 f9 b9 c9 y9 => ?_)
    obtain rfl : r9 = 0 := by omega
    exact ⟨by decide, hf m9 hm9 y9⟩
theorem rq_93 : ∀ a : Nat, a < 6 → bd 342 (93 + 4 * a) = (0, 5) := by decide +kernel
theorem rq_94 : ∀ a : Nat, a < 6 → bd 342 (94 + 4 * a) = (0, 99) := by decide +kernel
theorem rq_95 : ∀ a : Nat, a < 6 → bd 342 (95 + 4 * a) = (0, 99) := by decide +kernel
theorem rq_96 : ∀ a : Nat, a < 6 → bd 342 (96 + 4 * a) = (0, 50) := by decide +kernel
theorem zd_isWantHere {X : Mm} {S : Sh} {m0 : Mm} {K : Int → Mm → Prop} {u1 : Int} (hS : Shp S) (hm0 : Inv X S m0) (h1 : 0 ≤ u1) (h1' : u1 ≤ 400) (hp : PR m0) (hf : ∀ M1 : Mm, Inv X S M1 → ¬ M1 336 9 = 0 → K 0 M1) (hk : ∀ M1 : Mm, Inv X S M1 → PR M1 → (∀ p : Int, (p = 11 ∨ p = 14) → M1 336 p = m0 336 p) → m0 336 8 ≤ M1 336 8 → K 1 M1) : wp_X12_isWantHere S m0 336 u1 K := by
  have c0 := hm0.f_342_0
  have c4 := hm0.f_342_4
  have c5 := hm0.f_342_5
  have cc := hm0.f_342_6
  refine u_X12_isWantHere ?_
  refine g_getr 7 342 rfl hS.k336 hm0.f_336_7 (by decide) ?_
  refine g_C ?_
  refine g_ldu hS.k342 hS.l342 (by omega) (by omega) (fun v0 ev0 => ?_)
  refine g_C ?_
  refine g_if (fun w => ?_) (fun w => ?_)
  · refine ⟨hS.k336, ?_⟩
    refine z_X12_passWord hS hm0 (fun m1 hm1 f1 y1 _ => ?_)
    refine g_C ?_
    refine g_C ?_
    refine g_getr 7 342 rfl hS.k336 hm1.f_336_7 (by decide) ?_
    refine g_C ?_
    refine g_ldu hS.k342 hS.l342 (by omega) (by omega) (fun n en => ?_)
    rw [f1 342 _ (by omega)] at en
    refine g_M (by omega) (by omega) ?_
    refine g_A (by omega) (by omega) ?_
    refine g_C ?_
    refine g_getr 7 342 rfl hS.k336 hm1.f_336_7 (by decide) ?_
    refine g_C ?_
    refine g_ldu hS.k342 hS.l342 (by omega) (by omega) (fun pp epp => ?_)
    rw [f1 342 _ (by omega)] at epp
    refine g_C ?_
    refine g_S (by omega) (by omega) ?_
    refine ⟨hS.k336, ?_⟩
    refine zd_cell hS hm1 (by omega) (by omega) (by omega) (by omega) (by omega) (by omega) (fun v lv uv => okb_of (l := 0) (u := 5) (by rw [show (93 + 4 * n).toNat = 93 + 4 * n.toNat by omega]; exact rq_93 _ (by omega)) (by omega) (by omega)) (fun m8 hm8 n8 => g_ifT rfl (g_C ⟨by decide, hf m8 hm8 n8⟩)) (fun m2 hm2 f2 lo_2 hi_2 y2 => ?_)
    refine g_ifF (by decide) ?_
    refine g_C ?_
    refine g_A (by omega) (by omega) ?_
    refine g_C ?_
    refine g_C ?_
    refine ⟨hS.k336, ?_⟩
    refine zd_cell hS hm2 (by omega) (by omega) (by omega) (by omega) (by omega) (by omega) (fun v lv uv => okb_of (l := 0) (u := 99) (by rw [show (93 + 4 * n + 1).toNat = 94 + 4 * n.toNat by omega]; exact rq_94 _ (by omega)) (by omega) (by omega)) (fun m8 hm8 n8 => g_ifT rfl (g_C ⟨by decide, hf m8 hm8 n8⟩)) (fun m3 hm3 f3 lo_3 hi_3 y3 => ?_)
    refine g_ifF (by decide) ?_
    refine g_C ?_
    refine g_A (by omega) (by omega) ?_
    refine g_getr 7 342 rfl hS.k336 hm3.f_336_7 (by decide) ?_
    refine g_C ?_
    refine g_A (by omega) (by omega) ?_
    refine g_ldu hS.k342 hS.l342 (by omega) (by omega) (fun lo2 elo2 => ?_)
    refine g_C ?_
    refine ⟨hS.k336, ?_⟩
    refine zd_cell hS hm3 (by omega) (by omega) (by omega) (by omega) (by omega) (by omega) (fun v lv uv => okb_of (l := 0) (u := 99) (by rw [show (93 + 4 * n + 2).toNat = 95 + 4 * n.toNat by omega]; exact rq_95 _ (by omega)) (by omega) (by omega)) (fun m8 hm8 n8 => g_ifT rfl (g_C ⟨by decide, hf m8 hm8 n8⟩)) (fun m4 hm4 f4 lo_4 hi_4 y4 => ?_)
    refine g_ifF (by decide) ?_
    refine g_C ?_
    refine g_A (by omega) (by omega) ?_
    refine g_C ?_
    refine g_C ?_
    refine ⟨hS.k336, ?_⟩
    refine zd_cell hS hm4 (by omega) (by omega) (by omega) (by omega) (by omega) (by omega) (fun v lv uv => okb_of (l := 0) (u := 50) (by rw [show (93 + 4 * n + 3).toNat = 96 + 4 * n.toNat by omega]; exact rq_96 _ (by omega)) (by omega) (by omega)) (fun m8 hm8 n8 => g_ifF (by decide) (g_C ⟨by decide, hf m8 hm8 n8⟩)) (fun m5 hm5 f5 lo_5 hi_5 y5 => ?_)
    refine g_ifT (by decide) ?_
    refine g_getr 7 342 rfl hS.k336 hm5.f_336_7 (by decide) ?_
    refine g_C ?_
    refine g_getr 7 342 rfl hS.k336 hm5.f_336_7 (by decide) ?_
    refine g_C ?_
    refine g_ldu hS.k342 hS.l342 (by omega) (by omega) (fun q0 eq0 => ?_)
    rw [f5 342 _ (by omega), f4 342 _ (by omega), f3 342 _ (by omega), f2 342 _ (by omega), f1 342 _ (by omega)] at eq0
    refine g_A (by omega) (by omega) ?_
    refine g_C ?_
    refine g_st hS.k342 hS.l342 (by omega) (by omega) (hm5.w342 (by omega) (okb_of (l := -2147483648) (u := 2147483647) (by rw [show (51 + q0).toNat = 51 + 1 * q0.toNat by omega]; exact rq_51 _ (by omega)) (by omega) (by omega))) (fun m6 e6 hm6 => ?_)
    have f6 : ∀ c p : Int, ¬ (c = 342 ∧ p = 51 + q0) → m6 c p = m5 c p := fun c p q => (congrFun (congrFun e6 _) _).trans (up_ne q)
    refine g_getr 7 342 rfl hS.k336 hm6.f_336_7 (by decide) ?_
    refine g_C ?_
    refine g_ldu hS.k342 hS.l342 (by omega) (by omega) (fun q1 eq1 => ?_)
    rw [f6 342 _ (by omega), f5 342 _ (by omega), f4 342 _ (by omega), f3 342 _ (by omega), f2 342 _ (by omega), f1 342 _ (by omega)] at eq1
    refine g_C ?_
    refine g_A (by omega) (by omega) ?_
    refine g_st hS.k342 hS.l342 (by omega) (by omega) (hm6.w342 (by omega) (okb_of (l := 0) (u := 6) (by decide +kernel) (by omega) (by omega))) (fun m7 e7 hm7 => ?_)
    have f7 : ∀ c p : Int, ¬ (c = 342 ∧ p = 6) → m7 c p = m6 c p := fun c p q => (congrFun (congrFun e7 _) _).trans (up_ne q)
    have x7 : m7 342 6 = q1 + 1 := (congrFun (congrFun e7 _) _).trans (up_at _ _ _ _)
    have F : ∀ c p : Int, ¬ (c = 336 ∧ 8 ≤ p ∧ p ≤ 10) ∧ ¬ (c = 342 ∧ p = 93 + 4 * n) ∧ ¬ (c = 342 ∧ p = 93 + 4 * n + 1) ∧ ¬ (c = 342 ∧ p = 93 + 4 * n + 2) ∧ ¬ (c = 342 ∧ p = 93 + 4 * n + 3) ∧ ¬ (c = 342 ∧ p = 51 + q0) ∧ ¬ (c = 342 ∧ p = 6) → m7 c p = m0 c p := fun c p q => by rw [f7 c p (by omega), f6 c p (by omega), f5 c p (by omega), f4 c p (by omega), f3 c p (by omega), f2 c p (by omega), f1 c p (by omega)]
    refine g_C ⟨by decide, hk m7 hm7 ?_ (fun p q => F 336 p (by omega)) (by rw [f7 336 8 (by omega), f6 336 8 (by omega)]; omega)⟩
    exact hp.oth (by omega) (by omega) (fun p q => F 342 p (by omega))
  · refine g_C ?_
    refine ⟨hS.k336, ?_⟩
    refine z_X12_fails hS hm0 (by decide) (by decide) (by omega) (by omega) (fun r9 m9 hm9 f9 b9 c9 y9 => ?_)
    obtain rfl : r9 = 0 := by omega
    exact ⟨by decide, hf m9 hm9 y9⟩
