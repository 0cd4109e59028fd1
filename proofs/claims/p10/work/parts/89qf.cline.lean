/-! what the class's reader holds, beside what was told -/
def LAh (D : Dd) (M : Mm) : Prop := ∀ i : Int, 0 ≤ i → i < D 4 → M 45 i = D (10 + 5 * i) ∧ M 35 i = D (10 + 5 * i + 3) ∧ M 36 i = D (10 + 5 * i + 4)
def LAj (D : Dd) (M : Mm) : Prop := ∀ i : Int, 0 ≤ i → i < D 5 → M 48 i = D (35 + 4 * i) ∧ M 50 i = D (35 + 4 * i + 2)
def LAt (D : Dd) (M : Mm) : Prop := ∀ i : Int, 0 ≤ i → i < D 9 → M 37 i = D (81 + 3 * i) ∧ M 38 i = D (81 + 3 * i + 1) ∧ M 39 i = D (81 + 3 * i + 2)
def LAw (D : Dd) (M : Mm) : Prop := ∀ i : Int, 0 ≤ i → i < D 6 → M 40 i = D (93 + 4 * i) ∧ M 41 i = D (93 + 4 * i + 1) ∧ M 42 i = D (93 + 4 * i + 2) ∧ M 43 i = D (93 + 4 * i + 3)
/-- the ROAD's HOURS between two PLACES, 0 if there is none -/
def LAr (D : Dd) (M : Mm) : Prop := ∀ a c : Int, 0 ≤ a → a ≤ 5 → 0 ≤ c → c ≤ 5 → (M 33 (6 * a + c) = 0 ∧ ¬ Rt D a c) ∨ (1 ≤ M 33 (6 * a + c) ∧ ∃ k : Int, 0 ≤ k ∧ k < D 3 ∧ ((D (57 + 3 * k) = a ∧ D (57 + 3 * k + 1) = c) ∨ (D (57 + 3 * k) = c ∧ D (57 + 3 * k + 1) = a)) ∧ M 33 (6 * a + c) = D (57 + 3 * k + 2))
def LAc (D : Dd) (M : Mm) : Prop := M 32 0 = D 0 ∧ M 32 1 = D 1 ∧ M 32 2 = D 2 ∧ M 32 3 = D 3 ∧ M 32 4 = D 4 ∧ M 32 5 = D 5 ∧ M 32 6 = D 9 ∧ M 32 7 = D 6
/-- what a STATE holds beside what is told: all at its begin -/
def LAs (D : Dd) (M : Mm) : Prop := (M 44 0 = 0 ∧ M 44 1 = 0) ∧ (∀ i : Int, 0 ≤ i → i < 5 → M 46 i = 0 ∧ M 47 i = 0) ∧ (∀ i : Int, 0 ≤ i → i < 4 → M 49 i = -1) ∧ (∀ i : Int, 0 ≤ i → i < 6 → M 51 i = -1) ∧ (∀ i : Int, 0 ≤ i → D 5 ≤ i → i < 4 → M 48 i = -1)
def LC (D : Dd) (M : Mm) : Prop := LAc D M ∧ LAr D M ∧ LAh D M ∧ LAj D M ∧ LAt D M ∧ LAw D M ∧ LAs D M
theorem LAs.keep {D D' : Dd} {M M' : Mm} (h : LAs D M) (f : ∀ c p : Int, (c = 44 ∨ c = 46 ∨ c = 47 ∨ c = 49 ∨ c = 51) → M' c p = M c p) (g : ∀ i : Int, 0 ≤ i → D' 5 ≤ i → M' 48 i = M 48 i) (hD : D 5 ≤ D' 5) : LAs D' M' := by
  obtain ⟨⟨a1, a2⟩, b, c, d, e⟩ := h
  refine ⟨⟨by rw [f 44 0 (by first | decide | exact fun z => absurd z.1 (by decide) | exact ⟨fun z => absurd z.1 (by decide), fun z => absurd z.1 (by decide)⟩ | omega)]; exact a1, by rw [f 44 1 (by first | decide | exact fun z => absurd z.1 (by decide) | exact ⟨fun z => absurd z.1 (by decide), fun z => absurd z.1 (by decide)⟩ | omega)]; exact a2⟩, fun i i0 i1 => by rw [f 46 i (by first | decide | exact fun z => absurd z.1 (by decide) | exact ⟨fun z => absurd z.1 (by decide), fun z => absurd z.1 (by decide)⟩ | omega), f 47 i (by first | decide | exact fun z => absurd z.1 (by decide) | exact ⟨fun z => absurd z.1 (by decide), fun z => absurd z.1 (by decide)⟩ | omega)]; exact b i i0 i1, fun i i0 i1 => by rw [f 49 i (by first | decide | exact fun z => absurd z.1 (by decide) | exact ⟨fun z => absurd z.1 (by decide), fun z => absurd z.1 (by decide)⟩ | omega)]; exact c i i0 i1, fun i i0 i1 => by rw [f 51 i (by first | decide | exact fun z => absurd z.1 (by decide) | exact ⟨fun z => absurd z.1 (by decide), fun z => absurd z.1 (by decide)⟩ | omega)]; exact d i i0 i1, fun i i0 i1 i2 => by rw [g i i0 i1]; exact e i i0 (by omega) i2⟩
theorem LAh.keep {D D' : Dd} {M M' : Mm} (h : LAh D M) (hb : D 4 ≤ 5) (f : ∀ c p : Int, (c = 45 ∨ c = 35 ∨ c = 36) → M' c p = M c p) (g : ∀ p : Int, (p = 4 ∨ (10 ≤ p ∧ p < 35)) → D' p = D p) : LAh D' M' := by
  intro i i0 i1
  rw [g 4 (by omega)] at i1
  rw [f 45 i (by first | decide | exact fun z => absurd z.1 (by decide) | exact ⟨fun z => absurd z.1 (by decide), fun z => absurd z.1 (by decide)⟩ | omega), f 35 i (by first | decide | exact fun z => absurd z.1 (by decide) | exact ⟨fun z => absurd z.1 (by decide), fun z => absurd z.1 (by decide)⟩ | omega), f 36 i (by first | decide | exact fun z => absurd z.1 (by decide) | exact ⟨fun z => absurd z.1 (by decide), fun z => absurd z.1 (by decide)⟩ | omega), g _ (by omega), g _ (by omega), g _ (by omega)]
  exact h i i0 i1
theorem LAj.keep {D D' : Dd} {M M' : Mm} (h : LAj D M) (hb : D 5 ≤ 4) (f : ∀ c p : Int, (c = 48 ∨ c = 50) → M' c p = M c p) (g : ∀ p : Int, (p = 5 ∨ (35 ≤ p ∧ p < 51)) → D' p = D p) : LAj D' M' := by
  intro i i0 i1
  rw [g 5 (by omega)] at i1
  rw [f 48 i (by first | decide | exact fun z => absurd z.1 (by decide) | exact ⟨fun z => absurd z.1 (by decide), fun z => absurd z.1 (by decide)⟩ | omega), f 50 i (by first | decide | exact fun z => absurd z.1 (by decide) | exact ⟨fun z => absurd z.1 (by decide), fun z => absurd z.1 (by decide)⟩ | omega), g _ (by omega), g _ (by omega)]
  exact h i i0 i1
theorem LAt.keep {D D' : Dd} {M M' : Mm} (h : LAt D M) (hb : D 9 ≤ 4) (f : ∀ c p : Int, (c = 37 ∨ c = 38 ∨ c = 39) → M' c p = M c p) (g : ∀ p : Int, (p = 9 ∨ (81 ≤ p ∧ p < 93)) → D' p = D p) : LAt D' M' := by
  intro i i0 i1
  rw [g 9 (by omega)] at i1
  rw [f 37 i (by first | decide | exact fun z => absurd z.1 (by decide) | exact ⟨fun z => absurd z.1 (by decide), fun z => absurd z.1 (by decide)⟩ | omega), f 38 i (by first | decide | exact fun z => absurd z.1 (by decide) | exact ⟨fun z => absurd z.1 (by decide), fun z => absurd z.1 (by decide)⟩ | omega), f 39 i (by first | decide | exact fun z => absurd z.1 (by decide) | exact ⟨fun z => absurd z.1 (by decide), fun z => absurd z.1 (by decide)⟩ | omega), g _ (by omega), g _ (by omega), g _ (by omega)]
  exact h i i0 i1
theorem LAw.keep {D D' : Dd} {M M' : Mm} (h : LAw D M) (hb : D 6 ≤ 6) (f : ∀ c p : Int, (c = 40 ∨ c = 41 ∨ c = 42 ∨ c = 43) → M' c p = M c p) (g : ∀ p : Int, (p = 6 ∨ (93 ≤ p ∧ p < 117)) → D' p = D p) : LAw D' M' := by
  intro i i0 i1
  rw [g 6 (by omega)] at i1
  rw [f 40 i (by first | decide | exact fun z => absurd z.1 (by decide) | exact ⟨fun z => absurd z.1 (by decide), fun z => absurd z.1 (by decide)⟩ | omega), f 41 i (by first | decide | exact fun z => absurd z.1 (by decide) | exact ⟨fun z => absurd z.1 (by decide), fun z => absurd z.1 (by decide)⟩ | omega), f 42 i (by first | decide | exact fun z => absurd z.1 (by decide) | exact ⟨fun z => absurd z.1 (by decide), fun z => absurd z.1 (by decide)⟩ | omega), f 43 i (by first | decide | exact fun z => absurd z.1 (by decide) | exact ⟨fun z => absurd z.1 (by decide), fun z => absurd z.1 (by decide)⟩ | omega), g _ (by omega), g _ (by omega), g _ (by omega), g _ (by omega)]
  exact h i i0 i1
theorem Rt_keep {D D' : Dd} {a c : Int} (hb : D 3 ≤ 8) (g : ∀ p : Int, (p = 3 ∨ (57 ≤ p ∧ p < 81)) → D' p = D p) : Rt D' a c ↔ Rt D a c := by
  constructor
  · rintro ⟨k, k0, k1, h⟩
    rw [g 3 (by omega)] at k1
    rw [g _ (by omega), g _ (by omega)] at h
    exact ⟨k, k0, k1, h⟩
  · rintro ⟨k, k0, k1, h⟩
    refine ⟨k, k0, by rw [g 3 (by omega)]; exact k1, ?_⟩
    rw [g _ (by omega), g _ (by omega)]
    exact h
theorem LAr.keep {D D' : Dd} {M M' : Mm} (h : LAr D M) (hb : D 3 ≤ 8) (f : ∀ p : Int, M' 33 p = M 33 p) (g : ∀ p : Int, (p = 3 ∨ (57 ≤ p ∧ p < 81)) → D' p = D p) : LAr D' M' := by
  intro a c a0 a1 c0 c1
  rw [f _]
  rcases h a c a0 a1 c0 c1 with ⟨h1, h2⟩ | ⟨h1, k, k0, k1, h2, h3⟩
  · exact Or.inl ⟨h1, fun z => h2 ((Rt_keep hb g).mp z)⟩
  · refine Or.inr ⟨h1, k, k0, by rw [g 3 (by omega)]; exact k1, ?_, ?_⟩
    · rw [g _ (by omega), g _ (by omega)]; exact h2
    · rw [g _ (by omega)]; exact h3
theorem zn_num {X : Mm} {S : Sh} {m0 : Mm} {K : Int → Mm → Prop} {b : Int → Int} {n k lo hi : Int} {T : Int → Dd → Prop} {D : Dd} (h j : Nat) (hS : Shp S) (hm0 : Inv X S m0) (ht : TC X b n) (h14 : m0 1 4 = 0) (hp : m0 1 2 ≤ n) (l : Ld b n T 1 h j (m0 1 2) k D) (hlo : dLo D h j = lo) (hhi : dHi D h j = hi) (hf : ∀ M1 : Mm, Inv X S M1 → (∀ c p : Int, ¬ (c = 1 ∧ 2 ≤ p ∧ p ≤ 4) → M1 c p = m0 c p) → ¬ M1 1 4 = 0 → T (M1 1 4) dz → K (-1) M1) (hk : ∀ (q v : Int) (M1 : Mm), Inv X S M1 → (∀ c p : Int, ¬ (c = 1 ∧ 2 ≤ p ∧ p ≤ 3) → M1 c p = m0 c p) → lo ≤ v → v ≤ hi → 0 ≤ v → M1 1 3 = q → 0 ≤ q → M1 1 2 ≤ n → M1 1 4 = 0 → (¬ dBad D h j v → ¬ j = dEnd h → Ld b n T 1 h (j + 1) (M1 1 2) k (ud D (dCl D h j) v)) → (¬ dBad D h j v → j = dEnd h → Ld b n T 2 0 0 (M1 1 2) k (dFin (ud D (dCl D h j) v) h)) → (dBad D h j v → T (2 + 8 * q) dz) → K v M1) : wp_X7_takeNumber S m0 1 lo hi K := by
  have b2 := hm0.f_1_2
  subst hlo hhi
  refine ze_num hS hm0 ht hp h14 (fun q r m2 hm2 f2 sk qd dr a5 al ah nn x2 x3 rn => ?_) (fun q m2 hm2 f2 sk q0 nd x4 => ?_) (fun q r m2 hm2 f2 sk q0 qd dr bad x4 => ?_)
  · have sk1 := sk.1
    refine hk q _ m2 hm2 f2 (by omega) (by omega) nn x3 (by omega) (by omega) ((f2 1 4 (by first | decide | exact fun z => absurd z.1 (by decide) | exact ⟨fun z => absurd z.1 (by decide), fun z => absurd z.1 (by decide)⟩ | omega)).trans h14) (fun nb ne => ?_) (fun nb ee => ?_) (fun yb => ?_)
    · rw [x2]
      exact l.nx sk qd dr (fun z => by rcases z with z | z | z | z; exact a5 z; exact al z; exact ah z; exact nb z) ne
    · rw [x2]
      exact l.end sk qd dr (fun z => by rcases z with z | z | z | z; exact a5 z; exact al z; exact ah z; exact nb z) ee
    · exact l.bad1 sk qd dr (Or.inr (Or.inr (Or.inr yb)))
  · refine hf m2 hm2 f2 (by omega) ?_
    rw [x4]
    exact l.bad0 sk nd
  · refine hf m2 hm2 f2 (by omega) ?_
    rw [x4]
    refine l.bad1 sk qd dr ?_
    rcases bad with z | z | z
    · exact Or.inl z
    · exact Or.inr (Or.inl z)
    · exact Or.inr (Or.inr (Or.inl z))
theorem zn_place {X : Mm} {S : Sh} {m0 : Mm} {K : Int → Mm → Prop} {b : Int → Int} {n k : Int} {T : Int → Dd → Prop} {D : Dd} (h j : Nat) (hS : Shp S) (hm0 : Inv X S m0) (ht : TC X b n) (h14 : m0 1 4 = 0) (hp : m0 1 2 ≤ n) (l : Ld b n T 1 h j (m0 1 2) k D) (e0 : m0 32 0 = D 0) (hlo : dLo D h j = 0) (hhi : dHi D h j = D 0 - 1) (hf : ∀ M1 : Mm, Inv X S M1 → (∀ c p : Int, ¬ (c = 1 ∧ 2 ≤ p ∧ p ≤ 4) → M1 c p = m0 c p) → ¬ M1 1 4 = 0 → T (M1 1 4) dz → K (-1) M1) (hk : ∀ (q v : Int) (M1 : Mm), Inv X S M1 → (∀ c p : Int, ¬ (c = 1 ∧ 2 ≤ p ∧ p ≤ 3) → M1 c p = m0 c p) → v ≤ D 0 - 1 → 0 ≤ v → M1 1 3 = q → 0 ≤ q → M1 1 2 ≤ n → M1 1 4 = 0 → (¬ dBad D h j v → ¬ j = dEnd h → Ld b n T 1 h (j + 1) (M1 1 2) k (ud D (dCl D h j) v)) → (dBad D h j v → T (2 + 8 * q) dz) → K v M1) : wp_X0_takePlace S m0 31 K := by
  have c0 := hm0.f_32_0
  refine u_X0_takePlace ?_
  refine g_getr 0 1 rfl hS.k31 hm0.f_31_0 (by decide) ?_
  refine g_C ?_
  refine g_getr 1 32 rfl hS.k31 hm0.f_31_1 (by decide) ?_
  refine g_get 0 (0) (6) rfl hS.k32 hm0.f_32_0 (fun v ev bv cv => ?_)
  refine g_C ?_
  refine g_S (by omega) (by omega) ?_
  refine ⟨hS.k1, ?_⟩
  exact zn_num h j hS hm0 ht h14 hp l hlo (by rw [hhi]; omega) hf (fun q v1 m1 hm1 f1 a1 a2 a3 a4 a5 a6 a7 a8 a9 a10 => hk q v1 m1 hm1 f1 (by omega) a3 a4 a5 a6 a7 a8 a10)
theorem LC.readHand {D Dz : Dd} {M M' : Mm} {v1 v2 v3 : Int} (lc : LC D M) (h3 : D 3 ≤ 8) (h4 : 0 ≤ D 4 ∧ D 4 ≤ 5) (h5 : 0 ≤ D 5 ∧ D 5 ≤ 4) (h9 : 0 ≤ D 9 ∧ D 9 ≤ 4) (h6 : 0 ≤ D 6 ∧ D 6 ≤ 6) (hc : D 4 < 5) (F : ∀ c p : Int, ¬ (c = 1 ∧ 2 ≤ p ∧ p ≤ 3) ∧ ¬ (c = 32 ∧ p = 4) ∧ ¬ (c = 45 ∧ p = D 4) ∧ ¬ (c = 35 ∧ p = D 4) ∧ ¬ (c = 36 ∧ p = D 4) → M' c p = M c p) (sc : M' 32 4 = D 4 + 1) (s0 : M' 45 (D 4) = v1) (s1 : M' 35 (D 4) = v2) (s2 : M' 36 (D 4) = v3) (G : ∀ p : Int, ¬ p = 4 ∧ ¬ (10 + 5 * D 4 ≤ p ∧ p < 10 + 5 * D 4 + 5) → Dz p = D p) (xc : Dz 4 = D 4 + 1) (x0 : Dz (10 + 5 * D 4) = v1) (x1 : Dz (10 + 5 * D 4 + 3) = v2) (x2 : Dz (10 + 5 * D 4 + 4) = v3) : LC Dz M' := by
  obtain ⟨⟨q0, q1, q2, q3, q4, q5, q6, q7⟩, lr, lh, lj, lt, lw, ls⟩ := lc
  refine ⟨⟨by rw [F 32 0 (by first | decide | exact fun z => absurd z.1 (by decide) | exact ⟨fun z => absurd z.1 (by decide), fun z => absurd z.1 (by decide)⟩ | omega), G 0 (by omega)]; exact q0, by rw [F 32 1 (by first | decide | exact fun z => absurd z.1 (by decide) | exact ⟨fun z => absurd z.1 (by decide), fun z => absurd z.1 (by decide)⟩ | omega), G 1 (by omega)]; exact q1, by rw [F 32 2 (by first | decide | exact fun z => absurd z.1 (by decide) | exact ⟨fun z => absurd z.1 (by decide), fun z => absurd z.1 (by decide)⟩ | omega), G 2 (by omega)]; exact q2, by rw [F 32 3 (by first | decide | exact fun z => absurd z.1 (by decide) | exact ⟨fun z => absurd z.1 (by decide), fun z => absurd z.1 (by decide)⟩ | omega), G 3 (by omega)]; exact q3, by rw [sc, xc], by rw [F 32 5 (by first | decide | exact fun z => absurd z.1 (by decide) | exact ⟨fun z => absurd z.1 (by decide), fun z => absurd z.1 (by decide)⟩ | omega), G 5 (by omega)]; exact q5, by rw [F 32 6 (by first | decide | exact fun z => absurd z.1 (by decide) | exact ⟨fun z => absurd z.1 (by decide), fun z => absurd z.1 (by decide)⟩ | omega), G 9 (by omega)]; exact q6, by rw [F 32 7 (by first | decide | exact fun z => absurd z.1 (by decide) | exact ⟨fun z => absurd z.1 (by decide), fun z => absurd z.1 (by decide)⟩ | omega), G 6 (by omega)]; exact q7⟩, ?_, ?_, ?_, ?_, ?_, ?_⟩
  · exact lr.keep h3 (fun p => F 33 p (by first | decide | exact fun z => absurd z.1 (by decide) | exact ⟨fun z => absurd z.1 (by decide), fun z => absurd z.1 (by decide)⟩ | omega)) (fun p z => G p (by omega))
  · intro i i0 i1
    rw [xc] at i1
    by_cases e : i = D 4
    · subst e
      exact ⟨s0.trans x0.symm, s1.trans x1.symm, s2.trans x2.symm⟩
    · have hh := lh i i0 (by omega)
      rw [F 45 i (by first | decide | exact fun z => absurd z.1 (by decide) | exact ⟨fun z => absurd z.1 (by decide), fun z => absurd z.1 (by decide)⟩ | omega), F 35 i (by first | decide | exact fun z => absurd z.1 (by decide) | exact ⟨fun z => absurd z.1 (by decide), fun z => absurd z.1 (by decide)⟩ | omega), F 36 i (by first | decide | exact fun z => absurd z.1 (by decide) | exact ⟨fun z => absurd z.1 (by decide), fun z => absurd z.1 (by decide)⟩ | omega)]
      rw [G (10 + 5 * i) (by omega), G (10 + 5 * i + 3) (by omega), G (10 + 5 * i + 4) (by omega)]
      exact hh
  · exact lj.keep h5.2 (fun c p z => F c p (by omega)) (fun p z => G p (by omega))
  · exact lt.keep h9.2 (fun c p z => F c p (by omega)) (fun p z => G p (by omega))
  · exact lw.keep h6.2 (fun c p z => F c p (by omega)) (fun p z => G p (by omega))
  · exact ls.keep (fun c p z => F c p (by omega)) (fun i i0 i1 => F 48 i (by first | decide | exact fun z => absurd z.1 (by decide) | exact ⟨fun z => absurd z.1 (by decide), fun z => absurd z.1 (by decide)⟩ | omega)) (by rw [G 5 (by omega)]; exact Int.le_refl _)
theorem fr_readHand {m0 m1 m2 m3 m4 m5 m6 m7 : Mm} {i4 i5 i6 d : Int} (f1 : ∀ c p : Int, ¬ (c = 1 ∧ 2 ≤ p ∧ p ≤ 3) → m1 c p = m0 c p) (f2 : ∀ c p : Int, ¬ (c = 1 ∧ 2 ≤ p ∧ p ≤ 3) → m2 c p = m1 c p) (f3 : ∀ c p : Int, ¬ (c = 1 ∧ 2 ≤ p ∧ p ≤ 3) → m3 c p = m2 c p) (f4 : ∀ c p : Int, ¬ (c = 45 ∧ p = i4) → m4 c p = m3 c p) (f5 : ∀ c p : Int, ¬ (c = 35 ∧ p = i5) → m5 c p = m4 c p) (f6 : ∀ c p : Int, ¬ (c = 36 ∧ p = i6) → m6 c p = m5 c p) (f7 : ∀ c p : Int, ¬ (c = 32 ∧ p = 4) → m7 c p = m6 c p) (e4 : i4 = d) (e5 : i5 = d) (e6 : i6 = d) : ∀ c p : Int, ¬ (c = 1 ∧ 2 ≤ p ∧ p ≤ 3) ∧ ¬ (c = 32 ∧ p = 4) ∧ ¬ (c = 45 ∧ p = d) ∧ ¬ (c = 35 ∧ p = d) ∧ ¬ (c = 36 ∧ p = d) → m7 c p = m0 c p := fun c p z => by rw [f7 c p (by first | exact fun y => absurd (y.1 ▸ z) (by decide) | exact fun y => absurd (y.1 ▸ q) (by decide) | exact z | exact q | exact z.1 | exact q.1 | exact z.2 | exact q.2 | omega), f6 c p (by first | exact fun y => absurd (y.1 ▸ z) (by decide) | exact fun y => absurd (y.1 ▸ q) (by decide) | exact z | exact q | exact z.1 | exact q.1 | exact z.2 | exact q.2 | omega), f5 c p (by first | exact fun y => absurd (y.1 ▸ z) (by decide) | exact fun y => absurd (y.1 ▸ q) (by decide) | exact z | exact q | exact z.1 | exact q.1 | exact z.2 | exact q.2 | omega), f4 c p (by first | exact fun y => absurd (y.1 ▸ z) (by decide) | exact fun y => absurd (y.1 ▸ q) (by decide) | exact z | exact q | exact z.1 | exact q.1 | exact z.2 | exact q.2 | omega), f3 c p (by first | exact fun y => absurd (y.1 ▸ z) (by decide) | exact fun y => absurd (y.1 ▸ q) (by decide) | exact z | exact q | exact z.1 | exact q.1 | exact z.2 | exact q.2 | omega), f2 c p (by first | exact fun y => absurd (y.1 ▸ z) (by decide) | exact fun y => absurd (y.1 ▸ q) (by decide) | exact z | exact q | exact z.1 | exact q.1 | exact z.2 | exact q.2 | omega), f1 c p (by first | exact fun y => absurd (y.1 ▸ z) (by decide) | exact fun y => absurd (y.1 ▸ q) (by decide) | exact z | exact q | exact z.1 | exact q.1 | exact z.2 | exact q.2 | omega)]
theorem gg_readHand {D D1 D2 D3 Dz : Dd} (gD1 : ∀ p : Int, ¬ p = 10 + 5 * D 4 → D1 p = D p) (gD2 : ∀ p : Int, ¬ p = 10 + 5 * D 4 + 3 → D2 p = D1 p) (gD3 : ∀ p : Int, ¬ p = 10 + 5 * D 4 + 4 → D3 p = D2 p) (gz : ∀ p : Int, ¬ p = 4 → ¬ p = 10 + 5 * D 4 + 1 → ¬ p = 10 + 5 * D 4 + 2 → Dz p = D3 p) : ∀ p : Int, ¬ p = 4 ∧ ¬ (10 + 5 * D 4 ≤ p ∧ p < 10 + 5 * D 4 + 5) → Dz p = D p := fun p z => by rw [gz p (by omega) (by omega) (by omega), gD3 p (by omega), gD2 p (by omega), gD1 p (by omega)]
theorem zn_readHand {X : Mm} {S : Sh} {m0 : Mm} {K : Int → Mm → Prop} {b : Int → Int} {n k : Int} {T : Int → Dd → Prop} {D : Dd} (hS : Shp S) (hm0 : Inv X S m0) (ht : TC X b n) (h14 : m0 1 4 = 0) (hp : m0 1 2 ≤ n) (lc : LC D m0) (l : Ld b n T 1 2 0 (m0 1 2) k D) (d0 : 2 ≤ D 0) (nf : D 4 < 5) (hf : ∀ M1 : Mm, Inv X S M1 → (∀ c p : Int, 336 ≤ c → M1 c p = m0 c p) → ¬ M1 1 4 = 0 → T (M1 1 4) dz → K 0 M1) (hk : ∀ (M1 : Mm) (D' : Dd), Inv X S M1 → (∀ c p : Int, 336 ≤ c → M1 c p = m0 c p) → LC D' M1 → 2 ≤ D' 0 → M1 1 4 = 0 → M1 1 2 ≤ n → Ld b n T 2 0 0 (M1 1 2) k D' → K 1 M1) : wp_X0_readHand S m0 31 K := by
  obtain ⟨⟨q0, q1, q2, q3, q4, q5, q6, q7⟩, lr, lh, lj, lt, lw, ls⟩ := id lc
  have c0 := hm0.f_32_0
  have c3 := hm0.f_32_3
  have c4 := hm0.f_32_4
  have c5 := hm0.f_32_5
  have c6 := hm0.f_32_6
  have c7 := hm0.f_32_7
  refine u_X0_readHand ?_
  refine ⟨hS.k31, ?_⟩
  refine zn_place 2 0 hS hm0 ht h14 hp l q0 rfl rfl (fun m8 hm8 f8 n8 t8 => ?_) (fun q1x v1 m1 hm1 f1 u1 g1 x1 xq1 n1 y1 ln1 _ => ?_)
  · refine g_C ?_
    refine g_ifF (by first | decide | omega) ?_
    refine g_C ?_
    refine u_X0_readHand_24 ?_
    refine g_C ?_
    refine g_ifF (by first | decide | omega) ?_
    refine g_C ?_
    refine u_X0_readHand_43 ?_
    refine g_C ?_
    refine g_ifF (by first | decide | omega) ?_
    refine g_C ?_
    exact ⟨by decide, hf m8 hm8 (fun c p z => by rw [f8 c p (by first | exact fun y => absurd (y.1 ▸ z) (by decide) | exact fun y => absurd (y.1 ▸ q) (by decide) | exact z | exact q | exact z.1 | exact q.1 | exact z.2 | exact q.2 | omega)]) n8 t8⟩
  obtain ⟨D1, eD1⟩ : ∃ z : Dd, z = ud D (dCl D 2 0) v1 := ⟨_, rfl⟩
  have ec1 : dCl D 2 0 = 10 + 5 * D 4 := by
    show 10 + 5 * D 4 = _
    omega
  rw [← eD1] at ln1
  rw [ec1] at eD1
  have gD1 : ∀ p : Int, ¬ p = 10 + 5 * D 4 → D1 p = D p := fun p z => by rw [eD1]; exact ud_ne z
  have xD1 : D1 (10 + 5 * D 4) = v1 := by rw [eD1]; exact ud_at _ _ _
  have dn1 : D1 4 = D 4 := gD1 4 (by omega)
  have l1 := ln1 (fun z => absurd z.1 (by decide)) (by decide)
  refine g_C ?_
  refine g_ifT (by first | decide | omega) ?_
  refine g_getr 0 1 rfl hS.k31 hm1.f_31_0 (by decide) ?_
  refine g_C ?_
  refine g_C ?_
  refine ⟨hS.k1, ?_⟩
  refine zn_num 2 1 hS hm1 ht y1 n1 l1 (lo := 0) (hi := 20) rfl rfl (fun m8 hm8 f8 n8 t8 => ?_) (fun q2x v2 m2 hm2 f2 lo2 hi2 g2 x2 xq2 n2 y2 ln2 le2 _ => ?_)
  · refine u_X0_readHand_24 ?_
    refine g_C ?_
    refine g_ifF (by first | decide | omega) ?_
    refine g_C ?_
    refine u_X0_readHand_43 ?_
    refine g_C ?_
    refine g_ifF (by first | decide | omega) ?_
    refine g_C ?_
    exact ⟨by decide, hf m8 hm8 (fun c p z => by rw [f8 c p (by first | exact fun y => absurd (y.1 ▸ z) (by decide) | exact fun y => absurd (y.1 ▸ q) (by decide) | exact z | exact q | exact z.1 | exact q.1 | exact z.2 | exact q.2 | omega), f1 c p (by first | exact fun y => absurd (y.1 ▸ z) (by decide) | exact fun y => absurd (y.1 ▸ q) (by decide) | exact z | exact q | exact z.1 | exact q.1 | exact z.2 | exact q.2 | omega)]) n8 t8⟩
  obtain ⟨D2, eD2⟩ : ∃ z : Dd, z = ud D1 (dCl D1 2 1) v2 := ⟨_, rfl⟩
  have ec2 : dCl D1 2 1 = 10 + 5 * D 4 + 3 := by
    show 10 + 5 * D1 4 + 3 = _
    omega
  rw [← eD2] at ln2 le2
  rw [ec2] at eD2
  have gD2 : ∀ p : Int, ¬ p = 10 + 5 * D 4 + 3 → D2 p = D1 p := fun p z => by rw [eD2]; exact ud_ne z
  have xD2 : D2 (10 + 5 * D 4 + 3) = v2 := by rw [eD2]; exact ud_at _ _ _
  have dn2 : D2 4 = D 4 := (gD2 4 (by omega)).trans dn1
  have l2 := ln2 (fun z => absurd z.1 (by decide)) (by decide)
  refine u_X0_readHand_24 ?_
  refine g_C ?_
  refine g_ifT (by first | decide | omega) ?_
  refine g_getr 0 1 rfl hS.k31 hm2.f_31_0 (by decide) ?_
  refine g_C ?_
  refine g_C ?_
  refine ⟨hS.k1, ?_⟩
  refine zn_num 2 2 hS hm2 ht y2 n2 l2 (lo := 0) (hi := 5) rfl rfl (fun m8 hm8 f8 n8 t8 => ?_) (fun q3x v3 m3 hm3 f3 lo3 hi3 g3 x3 xq3 n3 y3 ln3 le3 _ => ?_)
  · refine u_X0_readHand_43 ?_
    refine g_C ?_
    refine g_ifF (by first | decide | omega) ?_
    refine g_C ?_
    exact ⟨by decide, hf m8 hm8 (fun c p z => by rw [f8 c p (by first | exact fun y => absurd (y.1 ▸ z) (by decide) | exact fun y => absurd (y.1 ▸ q) (by decide) | exact z | exact q | exact z.1 | exact q.1 | exact z.2 | exact q.2 | omega), f2 c p (by first | exact fun y => absurd (y.1 ▸ z) (by decide) | exact fun y => absurd (y.1 ▸ q) (by decide) | exact z | exact q | exact z.1 | exact q.1 | exact z.2 | exact q.2 | omega), f1 c p (by first | exact fun y => absurd (y.1 ▸ z) (by decide) | exact fun y => absurd (y.1 ▸ q) (by decide) | exact z | exact q | exact z.1 | exact q.1 | exact z.2 | exact q.2 | omega)]) n8 t8⟩
  obtain ⟨D3, eD3⟩ : ∃ z : Dd, z = ud D2 (dCl D2 2 2) v3 := ⟨_, rfl⟩
  have ec3 : dCl D2 2 2 = 10 + 5 * D 4 + 4 := by
    show 10 + 5 * D2 4 + 4 = _
    omega
  rw [← eD3] at ln3 le3
  rw [ec3] at eD3
  have gD3 : ∀ p : Int, ¬ p = 10 + 5 * D 4 + 4 → D3 p = D2 p := fun p z => by rw [eD3]; exact ud_ne z
  have xD3 : D3 (10 + 5 * D 4 + 4) = v3 := by rw [eD3]; exact ud_at _ _ _
  have dn3 : D3 4 = D 4 := (gD3 4 (by omega)).trans dn2
  have l3 := le3 (fun z => absurd z.1 (by decide)) rfl
  refine u_X0_readHand_43 ?_
  refine g_C ?_
  refine g_ifT (by first | decide | omega) ?_
  refine g_getr 2 44 rfl hS.k31 hm3.f_31_2 (by decide) ?_
  refine g_getr 2 45 rfl hS.k44 hm3.f_44_2 (by decide) ?_
  refine g_getr 1 32 rfl hS.k31 hm3.f_31_1 (by decide) ?_
  refine g_getu 4 rfl hS.k32 (fun i4 ei4 => ?_)
  rw [f3 32 4 (by first | decide | exact fun z => absurd z.1 (by decide) | exact ⟨fun z => absurd z.1 (by decide), fun z => absurd z.1 (by decide)⟩ | omega), f2 32 4 (by first | decide | exact fun z => absurd z.1 (by decide) | exact ⟨fun z => absurd z.1 (by decide), fun z => absurd z.1 (by decide)⟩ | omega), f1 32 4 (by first | decide | exact fun z => absurd z.1 (by decide) | exact ⟨fun z => absurd z.1 (by decide), fun z => absurd z.1 (by decide)⟩ | omega), q4] at ei4
  refine g_st hS.k45 hS.l45 (by omega) (by omega) (hm3.wa_45 (by omega) (by omega) (by omega) (by omega)) (fun m4 e4 hm4 => ?_)
  have f4 : ∀ c p : Int, ¬ (c = 45 ∧ p = i4) → m4 c p = m3 c p := fun c p q => (congrFun (congrFun e4 _) _).trans (up_ne q)
  have s4 : m4 45 i4 = v1 := (congrFun (congrFun e4 _) _).trans (up_at _ _ _ _)
  refine g_getr 1 32 rfl hS.k31 hm4.f_31_1 (by decide) ?_
  refine g_getr 10 35 rfl hS.k32 hm4.f_32_10 (by decide) ?_
  refine g_getr 1 32 rfl hS.k31 hm4.f_31_1 (by decide) ?_
  refine g_getu 4 rfl hS.k32 (fun i5 ei5 => ?_)
  rw [f4 32 4 (by first | decide | exact fun z => absurd z.1 (by decide) | exact ⟨fun z => absurd z.1 (by decide), fun z => absurd z.1 (by decide)⟩ | omega), f3 32 4 (by first | decide | exact fun z => absurd z.1 (by decide) | exact ⟨fun z => absurd z.1 (by decide), fun z => absurd z.1 (by decide)⟩ | omega), f2 32 4 (by first | decide | exact fun z => absurd z.1 (by decide) | exact ⟨fun z => absurd z.1 (by decide), fun z => absurd z.1 (by decide)⟩ | omega), f1 32 4 (by first | decide | exact fun z => absurd z.1 (by decide) | exact ⟨fun z => absurd z.1 (by decide), fun z => absurd z.1 (by decide)⟩ | omega), q4] at ei5
  refine g_st hS.k35 hS.l35 (by omega) (by omega) (hm4.wa_35 (by omega) (by omega) (by omega) (by omega)) (fun m5 e5 hm5 => ?_)
  have f5 : ∀ c p : Int, ¬ (c = 35 ∧ p = i5) → m5 c p = m4 c p := fun c p q => (congrFun (congrFun e5 _) _).trans (up_ne q)
  have s5 : m5 35 i5 = v2 := (congrFun (congrFun e5 _) _).trans (up_at _ _ _ _)
  refine g_getr 1 32 rfl hS.k31 hm5.f_31_1 (by decide) ?_
  refine g_getr 11 36 rfl hS.k32 hm5.f_32_11 (by decide) ?_
  refine g_getr 1 32 rfl hS.k31 hm5.f_31_1 (by decide) ?_
  refine g_getu 4 rfl hS.k32 (fun i6 ei6 => ?_)
  rw [f5 32 4 (by first | decide | exact fun z => absurd z.1 (by decide) | exact ⟨fun z => absurd z.1 (by decide), fun z => absurd z.1 (by decide)⟩ | omega), f4 32 4 (by first | decide | exact fun z => absurd z.1 (by decide) | exact ⟨fun z => absurd z.1 (by decide), fun z => absurd z.1 (by decide)⟩ | omega), f3 32 4 (by first | decide | exact fun z => absurd z.1 (by decide) | exact ⟨fun z => absurd z.1 (by decide), fun z => absurd z.1 (by decide)⟩ | omega), f2 32 4 (by first | decide | exact fun z => absurd z.1 (by decide) | exact ⟨fun z => absurd z.1 (by decide), fun z => absurd z.1 (by decide)⟩ | omega), f1 32 4 (by first | decide | exact fun z => absurd z.1 (by decide) | exact ⟨fun z => absurd z.1 (by decide), fun z => absurd z.1 (by decide)⟩ | omega), q4] at ei6
  refine g_st hS.k36 hS.l36 (by omega) (by omega) (hm5.wa_36 (by omega) (by omega) (by omega) (by omega)) (fun m6 e6 hm6 => ?_)
  have f6 : ∀ c p : Int, ¬ (c = 36 ∧ p = i6) → m6 c p = m5 c p := fun c p q => (congrFun (congrFun e6 _) _).trans (up_ne q)
  have s6 : m6 36 i6 = v3 := (congrFun (congrFun e6 _) _).trans (up_at _ _ _ _)
  refine g_getr 1 32 rfl hS.k31 hm6.f_31_1 (by decide) ?_
  refine g_getu 4 rfl hS.k32 (fun i7 ei7 => ?_)
  rw [f6 32 4 (by first | decide | exact fun z => absurd z.1 (by decide) | exact ⟨fun z => absurd z.1 (by decide), fun z => absurd z.1 (by decide)⟩ | omega), f5 32 4 (by first | decide | exact fun z => absurd z.1 (by decide) | exact ⟨fun z => absurd z.1 (by decide), fun z => absurd z.1 (by decide)⟩ | omega), f4 32 4 (by first | decide | exact fun z => absurd z.1 (by decide) | exact ⟨fun z => absurd z.1 (by decide), fun z => absurd z.1 (by decide)⟩ | omega), f3 32 4 (by first | decide | exact fun z => absurd z.1 (by decide) | exact ⟨fun z => absurd z.1 (by decide), fun z => absurd z.1 (by decide)⟩ | omega), f2 32 4 (by first | decide | exact fun z => absurd z.1 (by decide) | exact ⟨fun z => absurd z.1 (by decide), fun z => absurd z.1 (by decide)⟩ | omega), f1 32 4 (by first | decide | exact fun z => absurd z.1 (by decide) | exact ⟨fun z => absurd z.1 (by decide), fun z => absurd z.1 (by decide)⟩ | omega), q4] at ei7
  refine g_C ?_
  refine g_A (by omega) (by omega) ?_
  refine g_put 4 rfl hS.k32 (hm6.w_32_4 (by omega) (by omega)) (fun m7 e7 hm7 => ?_)
  have f7 : ∀ c p : Int, ¬ (c = 32 ∧ p = 4) → m7 c p = m6 c p := fun c p q => (congrFun (congrFun e7 _) _).trans (up_ne q)
  have s7 : m7 32 4 = i7 + 1 := (congrFun (congrFun e7 _) _).trans (up_at _ _ _ _)
  have F := fr_readHand f1 f2 f3 f4 f5 f6 f7 ei4 ei5 ei6
  obtain ⟨Dz, eDz⟩ : ∃ z : Dd, z = dFin D3 2 := ⟨_, rfl⟩
  rw [← eDz] at l3
  have eF : Dz = ud (ud (ud D3 (10 + 5 * D3 4 + 1) 0) (10 + 5 * D3 4 + 2) 0) 4 (D3 4 + 1) := eDz
  rw [dn3] at eF
  have gz : ∀ p : Int, ¬ p = 4 → ¬ p = 10 + 5 * D 4 + 1 → ¬ p = 10 + 5 * D 4 + 2 → Dz p = D3 p := fun p z0 z1 z2 => by rw [eF, ud_ne z0, ud_ne z2, ud_ne z1]
  have xz : Dz 4 = D 4 + 1 := by rw [eF]; exact ud_at _ _ _
  have e12 : m7 1 2 = m3 1 2 := by rw [f7 1 2 (by first | decide | exact fun z => absurd z.1 (by decide) | exact ⟨fun z => absurd z.1 (by decide), fun z => absurd z.1 (by decide)⟩ | omega), f6 1 2 (by first | decide | exact fun z => absurd z.1 (by decide) | exact ⟨fun z => absurd z.1 (by decide), fun z => absurd z.1 (by decide)⟩ | omega), f5 1 2 (by first | decide | exact fun z => absurd z.1 (by decide) | exact ⟨fun z => absurd z.1 (by decide), fun z => absurd z.1 (by decide)⟩ | omega), f4 1 2 (by first | decide | exact fun z => absurd z.1 (by decide) | exact ⟨fun z => absurd z.1 (by decide), fun z => absurd z.1 (by decide)⟩ | omega)]
  have e14 : m7 1 4 = 0 := by rw [f7 1 4 (by first | decide | exact fun z => absurd z.1 (by decide) | exact ⟨fun z => absurd z.1 (by decide), fun z => absurd z.1 (by decide)⟩ | omega), f6 1 4 (by first | decide | exact fun z => absurd z.1 (by decide) | exact ⟨fun z => absurd z.1 (by decide), fun z => absurd z.1 (by decide)⟩ | omega), f5 1 4 (by first | decide | exact fun z => absurd z.1 (by decide) | exact ⟨fun z => absurd z.1 (by decide), fun z => absurd z.1 (by decide)⟩ | omega), f4 1 4 (by first | decide | exact fun z => absurd z.1 (by decide) | exact ⟨fun z => absurd z.1 (by decide), fun z => absurd z.1 (by decide)⟩ | omega)]; exact y3
  rw [← e12] at l3
  have S0 : m7 45 (D 4) = v1 := by rw [f7 45 _ (by first | decide | exact fun z => absurd z.1 (by decide) | exact ⟨fun z => absurd z.1 (by decide), fun z => absurd z.1 (by decide)⟩ | omega), f6 45 _ (by first | decide | exact fun z => absurd z.1 (by decide) | exact ⟨fun z => absurd z.1 (by decide), fun z => absurd z.1 (by decide)⟩ | omega), f5 45 _ (by first | decide | exact fun z => absurd z.1 (by decide) | exact ⟨fun z => absurd z.1 (by decide), fun z => absurd z.1 (by decide)⟩ | omega), ← ei4]; exact s4
  have Z0 : Dz (10 + 5 * D 4) = v1 := by rw [gz _ (by omega) (by omega) (by omega), gD3 _ (by omega), gD2 _ (by omega)]; exact xD1
  have S1 : m7 35 (D 4) = v2 := by rw [f7 35 _ (by first | decide | exact fun z => absurd z.1 (by decide) | exact ⟨fun z => absurd z.1 (by decide), fun z => absurd z.1 (by decide)⟩ | omega), f6 35 _ (by first | decide | exact fun z => absurd z.1 (by decide) | exact ⟨fun z => absurd z.1 (by decide), fun z => absurd z.1 (by decide)⟩ | omega), ← ei5]; exact s5
  have Z1 : Dz (10 + 5 * D 4 + 3) = v2 := by rw [gz _ (by omega) (by omega) (by omega), gD3 _ (by omega)]; exact xD2
  have S2 : m7 36 (D 4) = v3 := by rw [f7 36 _ (by first | decide | exact fun z => absurd z.1 (by decide) | exact ⟨fun z => absurd z.1 (by decide), fun z => absurd z.1 (by decide)⟩ | omega), ← ei6]; exact s6
  have Z2 : Dz (10 + 5 * D 4 + 4) = v3 := by rw [gz _ (by omega) (by omega) (by omega)]; exact xD3
  have G := gg_readHand gD1 gD2 gD3 gz
  have lz : LC Dz m7 := LC.readHand lc (by omega) (by omega) (by omega) (by omega) (by omega) nf F (by rw [s7]; omega) S0 S1 S2 G xz Z0 Z1 Z2
  have dz0 : 2 ≤ Dz 0 := by rw [G 0 (by omega)]; exact d0
  have nz : m7 1 2 ≤ n := by omega
  exact g_C ⟨by decide, hk m7 Dz hm7 (fun c p z => F c p (by omega)) lz dz0 e14 nz l3⟩
theorem LC.readJug {D Dz : Dd} {M M' : Mm} {v1 v2 : Int} (lc : LC D M) (h3 : D 3 ≤ 8) (h4 : 0 ≤ D 4 ∧ D 4 ≤ 5) (h5 : 0 ≤ D 5 ∧ D 5 ≤ 4) (h9 : 0 ≤ D 9 ∧ D 9 ≤ 4) (h6 : 0 ≤ D 6 ∧ D 6 ≤ 6) (hc : D 5 < 4) (F : ∀ c p : Int, ¬ (c = 1 ∧ 2 ≤ p ∧ p ≤ 3) ∧ ¬ (c = 32 ∧ p = 5) ∧ ¬ (c = 48 ∧ p = D 5) ∧ ¬ (c = 50 ∧ p = D 5) → M' c p = M c p) (sc : M' 32 5 = D 5 + 1) (s0 : M' 48 (D 5) = v1) (s1 : M' 50 (D 5) = v2) (G : ∀ p : Int, ¬ p = 5 ∧ ¬ (35 + 4 * D 5 ≤ p ∧ p < 35 + 4 * D 5 + 4) → Dz p = D p) (xc : Dz 5 = D 5 + 1) (x0 : Dz (35 + 4 * D 5) = v1) (x1 : Dz (35 + 4 * D 5 + 2) = v2) : LC Dz M' := by
  obtain ⟨⟨q0, q1, q2, q3, q4, q5, q6, q7⟩, lr, lh, lj, lt, lw, ls⟩ := lc
  refine ⟨⟨by rw [F 32 0 (by first | decide | exact fun z => absurd z.1 (by decide) | exact ⟨fun z => absurd z.1 (by decide), fun z => absurd z.1 (by decide)⟩ | omega), G 0 (by omega)]; exact q0, by rw [F 32 1 (by first | decide | exact fun z => absurd z.1 (by decide) | exact ⟨fun z => absurd z.1 (by decide), fun z => absurd z.1 (by decide)⟩ | omega), G 1 (by omega)]; exact q1, by rw [F 32 2 (by first | decide | exact fun z => absurd z.1 (by decide) | exact ⟨fun z => absurd z.1 (by decide), fun z => absurd z.1 (by decide)⟩ | omega), G 2 (by omega)]; exact q2, by rw [F 32 3 (by first | decide | exact fun z => absurd z.1 (by decide) | exact ⟨fun z => absurd z.1 (by decide), fun z => absurd z.1 (by decide)⟩ | omega), G 3 (by omega)]; exact q3, by rw [F 32 4 (by first | decide | exact fun z => absurd z.1 (by decide) | exact ⟨fun z => absurd z.1 (by decide), fun z => absurd z.1 (by decide)⟩ | omega), G 4 (by omega)]; exact q4, by rw [sc, xc], by rw [F 32 6 (by first | decide | exact fun z => absurd z.1 (by decide) | exact ⟨fun z => absurd z.1 (by decide), fun z => absurd z.1 (by decide)⟩ | omega), G 9 (by omega)]; exact q6, by rw [F 32 7 (by first | decide | exact fun z => absurd z.1 (by decide) | exact ⟨fun z => absurd z.1 (by decide), fun z => absurd z.1 (by decide)⟩ | omega), G 6 (by omega)]; exact q7⟩, ?_, ?_, ?_, ?_, ?_, ?_⟩
  · exact lr.keep h3 (fun p => F 33 p (by first | decide | exact fun z => absurd z.1 (by decide) | exact ⟨fun z => absurd z.1 (by decide), fun z => absurd z.1 (by decide)⟩ | omega)) (fun p z => G p (by omega))
  · exact lh.keep h4.2 (fun c p z => F c p (by omega)) (fun p z => G p (by omega))
  · intro i i0 i1
    rw [xc] at i1
    by_cases e : i = D 5
    · subst e
      exact ⟨s0.trans x0.symm, s1.trans x1.symm⟩
    · have hh := lj i i0 (by omega)
      rw [F 48 i (by first | decide | exact fun z => absurd z.1 (by decide) | exact ⟨fun z => absurd z.1 (by decide), fun z => absurd z.1 (by decide)⟩ | omega), F 50 i (by first | decide | exact fun z => absurd z.1 (by decide) | exact ⟨fun z => absurd z.1 (by decide), fun z => absurd z.1 (by decide)⟩ | omega)]
      rw [G (35 + 4 * i) (by omega), G (35 + 4 * i + 2) (by omega)]
      exact hh
  · exact lt.keep h9.2 (fun c p z => F c p (by omega)) (fun p z => G p (by omega))
  · exact lw.keep h6.2 (fun c p z => F c p (by omega)) (fun p z => G p (by omega))
  · exact ls.keep (fun c p z => F c p (by omega)) (fun i i0 i1 => F 48 i (by first | decide | exact fun z => absurd z.1 (by decide) | exact ⟨fun z => absurd z.1 (by decide), fun z => absurd z.1 (by decide)⟩ | omega)) (by omega)
theorem fr_readJug {m0 m1 m2 m3 m4 m5 : Mm} {i3 i4 d : Int} (f1 : ∀ c p : Int, ¬ (c = 1 ∧ 2 ≤ p ∧ p ≤ 3) → m1 c p = m0 c p) (f2 : ∀ c p : Int, ¬ (c = 1 ∧ 2 ≤ p ∧ p ≤ 3) → m2 c p = m1 c p) (f3 : ∀ c p : Int, ¬ (c = 48 ∧ p = i3) → m3 c p = m2 c p) (f4 : ∀ c p : Int, ¬ (c = 50 ∧ p = i4) → m4 c p = m3 c p) (f5 : ∀ c p : Int, ¬ (c = 32 ∧ p = 5) → m5 c p = m4 c p) (e3 : i3 = d) (e4 : i4 = d) : ∀ c p : Int, ¬ (c = 1 ∧ 2 ≤ p ∧ p ≤ 3) ∧ ¬ (c = 32 ∧ p = 5) ∧ ¬ (c = 48 ∧ p = d) ∧ ¬ (c = 50 ∧ p = d) → m5 c p = m0 c p := fun c p z => by rw [f5 c p (by first | exact fun y => absurd (y.1 ▸ z) (by decide) | exact fun y => absurd (y.1 ▸ q) (by decide) | exact z | exact q | exact z.1 | exact q.1 | exact z.2 | exact q.2 | omega), f4 c p (by first | exact fun y => absurd (y.1 ▸ z) (by decide) | exact fun y => absurd (y.1 ▸ q) (by decide) | exact z | exact q | exact z.1 | exact q.1 | exact z.2 | exact q.2 | omega), f3 c p (by first | exact fun y => absurd (y.1 ▸ z) (by decide) | exact fun y => absurd (y.1 ▸ q) (by decide) | exact z | exact q | exact z.1 | exact q.1 | exact z.2 | exact q.2 | omega), f2 c p (by first | exact fun y => absurd (y.1 ▸ z) (by decide) | exact fun y => absurd (y.1 ▸ q) (by decide) | exact z | exact q | exact z.1 | exact q.1 | exact z.2 | exact q.2 | omega), f1 c p (by first | exact fun y => absurd (y.1 ▸ z) (by decide) | exact fun y => absurd (y.1 ▸ q) (by decide) | exact z | exact q | exact z.1 | exact q.1 | exact z.2 | exact q.2 | omega)]
theorem gg_readJug {D D1 D2 Dz : Dd} (gD1 : ∀ p : Int, ¬ p = 35 + 4 * D 5 → D1 p = D p) (gD2 : ∀ p : Int, ¬ p = 35 + 4 * D 5 + 2 → D2 p = D1 p) (gz : ∀ p : Int, ¬ p = 5 → ¬ p = 35 + 4 * D 5 + 1 → ¬ p = 35 + 4 * D 5 + 3 → Dz p = D2 p) : ∀ p : Int, ¬ p = 5 ∧ ¬ (35 + 4 * D 5 ≤ p ∧ p < 35 + 4 * D 5 + 4) → Dz p = D p := fun p z => by rw [gz p (by omega) (by omega) (by omega), gD2 p (by omega), gD1 p (by omega)]
theorem zn_readJug {X : Mm} {S : Sh} {m0 : Mm} {K : Int → Mm → Prop} {b : Int → Int} {n k : Int} {T : Int → Dd → Prop} {D : Dd} (hS : Shp S) (hm0 : Inv X S m0) (ht : TC X b n) (h14 : m0 1 4 = 0) (hp : m0 1 2 ≤ n) (lc : LC D m0) (l : Ld b n T 1 3 0 (m0 1 2) k D) (d0 : 2 ≤ D 0) (nf : D 5 < 4) (hf : ∀ M1 : Mm, Inv X S M1 → (∀ c p : Int, 336 ≤ c → M1 c p = m0 c p) → ¬ M1 1 4 = 0 → T (M1 1 4) dz → K 0 M1) (hk : ∀ (M1 : Mm) (D' : Dd), Inv X S M1 → (∀ c p : Int, 336 ≤ c → M1 c p = m0 c p) → LC D' M1 → 2 ≤ D' 0 → M1 1 4 = 0 → M1 1 2 ≤ n → Ld b n T 2 0 0 (M1 1 2) k D' → K 1 M1) : wp_X0_readJug S m0 31 K := by
  obtain ⟨⟨q0, q1, q2, q3, q4, q5, q6, q7⟩, lr, lh, lj, lt, lw, ls⟩ := id lc
  have c0 := hm0.f_32_0
  have c3 := hm0.f_32_3
  have c4 := hm0.f_32_4
  have c5 := hm0.f_32_5
  have c6 := hm0.f_32_6
  have c7 := hm0.f_32_7
  refine u_X0_readJug ?_
  refine ⟨hS.k31, ?_⟩
  refine zn_place 3 0 hS hm0 ht h14 hp l q0 rfl rfl (fun m8 hm8 f8 n8 t8 => ?_) (fun q1x v1 m1 hm1 f1 u1 g1 x1 xq1 n1 y1 ln1 _ => ?_)
  · refine g_C ?_
    refine g_ifF (by first | decide | omega) ?_
    refine g_C ?_
    refine u_X0_readJug_24 ?_
    refine g_C ?_
    refine g_ifF (by first | decide | omega) ?_
    refine g_C ?_
    exact ⟨by decide, hf m8 hm8 (fun c p z => by rw [f8 c p (by first | exact fun y => absurd (y.1 ▸ z) (by decide) | exact fun y => absurd (y.1 ▸ q) (by decide) | exact z | exact q | exact z.1 | exact q.1 | exact z.2 | exact q.2 | omega)]) n8 t8⟩
  obtain ⟨D1, eD1⟩ : ∃ z : Dd, z = ud D (dCl D 3 0) v1 := ⟨_, rfl⟩
  have ec1 : dCl D 3 0 = 35 + 4 * D 5 := by
    show 35 + 4 * D 5 = _
    omega
  rw [← eD1] at ln1
  rw [ec1] at eD1
  have gD1 : ∀ p : Int, ¬ p = 35 + 4 * D 5 → D1 p = D p := fun p z => by rw [eD1]; exact ud_ne z
  have xD1 : D1 (35 + 4 * D 5) = v1 := by rw [eD1]; exact ud_at _ _ _
  have dn1 : D1 5 = D 5 := gD1 5 (by omega)
  have l1 := ln1 (fun z => absurd z.1 (by decide)) (by decide)
  refine g_C ?_
  refine g_ifT (by first | decide | omega) ?_
  refine g_getr 0 1 rfl hS.k31 hm1.f_31_0 (by decide) ?_
  refine g_C ?_
  refine g_C ?_
  refine ⟨hS.k1, ?_⟩
  refine zn_num 3 1 hS hm1 ht y1 n1 l1 (lo := 0) (hi := 99) rfl rfl (fun m8 hm8 f8 n8 t8 => ?_) (fun q2x v2 m2 hm2 f2 lo2 hi2 g2 x2 xq2 n2 y2 ln2 le2 _ => ?_)
  · refine u_X0_readJug_24 ?_
    refine g_C ?_
    refine g_ifF (by first | decide | omega) ?_
    refine g_C ?_
    exact ⟨by decide, hf m8 hm8 (fun c p z => by rw [f8 c p (by first | exact fun y => absurd (y.1 ▸ z) (by decide) | exact fun y => absurd (y.1 ▸ q) (by decide) | exact z | exact q | exact z.1 | exact q.1 | exact z.2 | exact q.2 | omega), f1 c p (by first | exact fun y => absurd (y.1 ▸ z) (by decide) | exact fun y => absurd (y.1 ▸ q) (by decide) | exact z | exact q | exact z.1 | exact q.1 | exact z.2 | exact q.2 | omega)]) n8 t8⟩
  obtain ⟨D2, eD2⟩ : ∃ z : Dd, z = ud D1 (dCl D1 3 1) v2 := ⟨_, rfl⟩
  have ec2 : dCl D1 3 1 = 35 + 4 * D 5 + 2 := by
    show 35 + 4 * D1 5 + 2 = _
    omega
  rw [← eD2] at ln2 le2
  rw [ec2] at eD2
  have gD2 : ∀ p : Int, ¬ p = 35 + 4 * D 5 + 2 → D2 p = D1 p := fun p z => by rw [eD2]; exact ud_ne z
  have xD2 : D2 (35 + 4 * D 5 + 2) = v2 := by rw [eD2]; exact ud_at _ _ _
  have dn2 : D2 5 = D 5 := (gD2 5 (by omega)).trans dn1
  have l2 := le2 (fun z => absurd z.1 (by decide)) rfl
  refine u_X0_readJug_24 ?_
  refine g_C ?_
  refine g_ifT (by first | decide | omega) ?_
  refine g_getr 2 44 rfl hS.k31 hm2.f_31_2 (by decide) ?_
  refine g_getr 5 48 rfl hS.k44 hm2.f_44_5 (by decide) ?_
  refine g_getr 1 32 rfl hS.k31 hm2.f_31_1 (by decide) ?_
  refine g_getu 5 rfl hS.k32 (fun i3 ei3 => ?_)
  rw [f2 32 5 (by first | decide | exact fun z => absurd z.1 (by decide) | exact ⟨fun z => absurd z.1 (by decide), fun z => absurd z.1 (by decide)⟩ | omega), f1 32 5 (by first | decide | exact fun z => absurd z.1 (by decide) | exact ⟨fun z => absurd z.1 (by decide), fun z => absurd z.1 (by decide)⟩ | omega), q5] at ei3
  refine g_st hS.k48 hS.l48 (by omega) (by omega) (hm2.wa_48 (by omega) (by omega) (by omega) (by omega)) (fun m3 e3 hm3 => ?_)
  have f3 : ∀ c p : Int, ¬ (c = 48 ∧ p = i3) → m3 c p = m2 c p := fun c p q => (congrFun (congrFun e3 _) _).trans (up_ne q)
  have s3 : m3 48 i3 = v1 := (congrFun (congrFun e3 _) _).trans (up_at _ _ _ _)
  refine g_getr 2 44 rfl hS.k31 hm3.f_31_2 (by decide) ?_
  refine g_getr 7 50 rfl hS.k44 hm3.f_44_7 (by decide) ?_
  refine g_getr 1 32 rfl hS.k31 hm3.f_31_1 (by decide) ?_
  refine g_getu 5 rfl hS.k32 (fun i4 ei4 => ?_)
  rw [f3 32 5 (by first | decide | exact fun z => absurd z.1 (by decide) | exact ⟨fun z => absurd z.1 (by decide), fun z => absurd z.1 (by decide)⟩ | omega), f2 32 5 (by first | decide | exact fun z => absurd z.1 (by decide) | exact ⟨fun z => absurd z.1 (by decide), fun z => absurd z.1 (by decide)⟩ | omega), f1 32 5 (by first | decide | exact fun z => absurd z.1 (by decide) | exact ⟨fun z => absurd z.1 (by decide), fun z => absurd z.1 (by decide)⟩ | omega), q5] at ei4
  refine g_st hS.k50 hS.l50 (by omega) (by omega) (hm3.wa_50 (by omega) (by omega) (by omega) (by omega)) (fun m4 e4 hm4 => ?_)
  have f4 : ∀ c p : Int, ¬ (c = 50 ∧ p = i4) → m4 c p = m3 c p := fun c p q => (congrFun (congrFun e4 _) _).trans (up_ne q)
  have s4 : m4 50 i4 = v2 := (congrFun (congrFun e4 _) _).trans (up_at _ _ _ _)
  refine g_getr 1 32 rfl hS.k31 hm4.f_31_1 (by decide) ?_
  refine g_getu 5 rfl hS.k32 (fun i5 ei5 => ?_)
  rw [f4 32 5 (by first | decide | exact fun z => absurd z.1 (by decide) | exact ⟨fun z => absurd z.1 (by decide), fun z => absurd z.1 (by decide)⟩ | omega), f3 32 5 (by first | decide | exact fun z => absurd z.1 (by decide) | exact ⟨fun z => absurd z.1 (by decide), fun z => absurd z.1 (by decide)⟩ | omega), f2 32 5 (by first | decide | exact fun z => absurd z.1 (by decide) | exact ⟨fun z => absurd z.1 (by decide), fun z => absurd z.1 (by decide)⟩ | omega), f1 32 5 (by first | decide | exact fun z => absurd z.1 (by decide) | exact ⟨fun z => absurd z.1 (by decide), fun z => absurd z.1 (by decide)⟩ | omega), q5] at ei5
  refine g_C ?_
  refine g_A (by omega) (by omega) ?_
  refine g_put 5 rfl hS.k32 (hm4.w_32_5 (by omega) (by omega)) (fun m5 e5 hm5 => ?_)
  have f5 : ∀ c p : Int, ¬ (c = 32 ∧ p = 5) → m5 c p = m4 c p := fun c p q => (congrFun (congrFun e5 _) _).trans (up_ne q)
  have s5 : m5 32 5 = i5 + 1 := (congrFun (congrFun e5 _) _).trans (up_at _ _ _ _)
  have F := fr_readJug f1 f2 f3 f4 f5 ei3 ei4
  obtain ⟨Dz, eDz⟩ : ∃ z : Dd, z = dFin D2 3 := ⟨_, rfl⟩
  rw [← eDz] at l2
  have eF : Dz = ud (ud (ud D2 (35 + 4 * D2 5 + 1) (-1)) (35 + 4 * D2 5 + 3) 0) 5 (D2 5 + 1) := eDz
  rw [dn2] at eF
  have gz : ∀ p : Int, ¬ p = 5 → ¬ p = 35 + 4 * D 5 + 1 → ¬ p = 35 + 4 * D 5 + 3 → Dz p = D2 p := fun p z0 z1 z2 => by rw [eF, ud_ne z0, ud_ne z2, ud_ne z1]
  have xz : Dz 5 = D 5 + 1 := by rw [eF]; exact ud_at _ _ _
  have e12 : m5 1 2 = m2 1 2 := by rw [f5 1 2 (by first | decide | exact fun z => absurd z.1 (by decide) | exact ⟨fun z => absurd z.1 (by decide), fun z => absurd z.1 (by decide)⟩ | omega), f4 1 2 (by first | decide | exact fun z => absurd z.1 (by decide) | exact ⟨fun z => absurd z.1 (by decide), fun z => absurd z.1 (by decide)⟩ | omega), f3 1 2 (by first | decide | exact fun z => absurd z.1 (by decide) | exact ⟨fun z => absurd z.1 (by decide), fun z => absurd z.1 (by decide)⟩ | omega)]
  have e14 : m5 1 4 = 0 := by rw [f5 1 4 (by first | decide | exact fun z => absurd z.1 (by decide) | exact ⟨fun z => absurd z.1 (by decide), fun z => absurd z.1 (by decide)⟩ | omega), f4 1 4 (by first | decide | exact fun z => absurd z.1 (by decide) | exact ⟨fun z => absurd z.1 (by decide), fun z => absurd z.1 (by decide)⟩ | omega), f3 1 4 (by first | decide | exact fun z => absurd z.1 (by decide) | exact ⟨fun z => absurd z.1 (by decide), fun z => absurd z.1 (by decide)⟩ | omega)]; exact y2
  rw [← e12] at l2
  have S0 : m5 48 (D 5) = v1 := by rw [f5 48 _ (by first | decide | exact fun z => absurd z.1 (by decide) | exact ⟨fun z => absurd z.1 (by decide), fun z => absurd z.1 (by decide)⟩ | omega), f4 48 _ (by first | decide | exact fun z => absurd z.1 (by decide) | exact ⟨fun z => absurd z.1 (by decide), fun z => absurd z.1 (by decide)⟩ | omega), ← ei3]; exact s3
  have Z0 : Dz (35 + 4 * D 5) = v1 := by rw [gz _ (by omega) (by omega) (by omega), gD2 _ (by omega)]; exact xD1
  have S1 : m5 50 (D 5) = v2 := by rw [f5 50 _ (by first | decide | exact fun z => absurd z.1 (by decide) | exact ⟨fun z => absurd z.1 (by decide), fun z => absurd z.1 (by decide)⟩ | omega), ← ei4]; exact s4
  have Z1 : Dz (35 + 4 * D 5 + 2) = v2 := by rw [gz _ (by omega) (by omega) (by omega)]; exact xD2
  have G := gg_readJug gD1 gD2 gz
  have lz : LC Dz m5 := LC.readJug lc (by omega) (by omega) (by omega) (by omega) (by omega) nf F (by rw [s5]; omega) S0 S1 G xz Z0 Z1
  have dz0 : 2 ≤ Dz 0 := by rw [G 0 (by omega)]; exact d0
  have nz : m5 1 2 ≤ n := by omega
  exact g_C ⟨by decide, hk m5 Dz hm5 (fun c p z => F c p (by omega)) lz dz0 e14 nz l2⟩
