/-! YEARS of the class -/
theorem land_mod {v : Int} (h0 : 0 ≤ v) (h1 : v ≤ 9223372036854775807) : lAnd v 2147483647 = v % 2147483648 := by
  have e : (Int64.ofInt 2147483647).toBitVec.toInt = 2147483647 := i64o (by decide) (by decide)
  have ex : (Int64.ofInt v).toBitVec.toInt = v := i64o (by omega) h1
  have my : (Int64.ofInt 2147483647).toBitVec.msb = false := msb_of (by omega)
  have mx : (Int64.ofInt v).toBitVec.msb = false := msb_of (by omega)
  have mz : ((Int64.ofInt v).toBitVec &&& (Int64.ofInt 2147483647).toBitVec).msb = false := by rw [BitVec.msb_and, my]; exact Bool.and_false _
  show ((Int64.ofInt v).toBitVec &&& (Int64.ofInt 2147483647).toBitVec).toInt = _
  rw [BitVec.toInt_eq_toNat_of_msb mz, BitVec.toNat_and]
  rw [BitVec.toInt_eq_toNat_of_msb my] at e
  rw [BitVec.toInt_eq_toNat_of_msb mx] at ex
  have ey : (Int64.ofInt 2147483647).toBitVec.toNat = 2 ^ 31 - 1 := by omega
  rw [ey, Nat.and_two_pow_sub_one_eq_mod]
  omega
theorem zy_draw11 {X : Mm} {S : Sh} {m : Mm} {K : Int → Mm → Prop} (hS : Shp S) (hm : Inv X S m) (hk : ∀ M1 : Mm, Inv X S M1 → (∀ c p : Int, ¬ (c = 57 ∧ p = 2) → M1 c p = m c p) → M1 57 2 = nxX (m 57 2) → K (nxX (m 57 2) / 65536) M1) : wp_X1_draw S m 57 K := by
  have b := hm.f_57_2
  refine u_X1_draw ?_
  refine g_getu 2 rfl hS.k57 (fun x ex => ?_)
  refine g_C ?_
  refine g_C ?_
  refine g_LM (by omega) (by omega) ?_
  refine g_C ?_
  refine g_LA (by omega) (by omega) ?_
  refine g_C ?_
  refine g_Oe (fun v ev => ?_)
  rw [land_mod (by omega) (by omega)] at ev
  have nb := nxX_b x
  have en : v = nxX x := ev
  refine g_w32 (by omega) (by omega) ?_
  refine g_put 2 rfl hS.k57 (hm.w_57_2 (by omega) (by omega)) (fun m1 e1 hm1 => ?_)
  have f1 : ∀ c p : Int, ¬ (c = 57 ∧ p = 2) → m1 c p = m c p := fun c p q => (congrFun (congrFun e1 _) _).trans (up_ne q)
  have y1 : m1 57 2 = v := (congrFun (congrFun e1 _) _).trans (up_at _ _ _ _)
  refine g_getu 2 rfl hS.k57 (fun v2 ev2 => ?_)
  refine g_C ?_
  refine ⟨by decide, ?_⟩
  rw [div32 (by omega) (by omega) (by omega) (by omega), ev2, y1, en, ex]
  exact hk m1 hm1 f1 (by rw [y1, en, ex])
theorem zy_roadFor {X : Mm} {S : Sh} {m : Mm} {K : Int → Mm → Prop} {c h p : Int} (hS : Shp S) (hm : Inv X S m) (hb : isSt c) (i0 : 0 ≤ h) (i1 : h ≤ 4) (p0 : 0 ≤ p) (p1 : p ≤ 5) (at0 : m (c + 2) h = 0) (hk : 0 ≤ m (c + 1) h → m (c + 1) h ≤ 5 → K (m 5 (6 * m (c + 1) h + p)) m) : wp_X5_roadFor S m c 4 h p K := by
  refine u_X5_roadFor ?_
  refine ⟨hS.kB_5_0 hb, ?_⟩
  refine zt_atPlace hS hm hb i0 i1 (fun c3 => g_ifF (by decide) ?_) (fun c3 => absurd at0 c3)
  refine g_getr 2 (c + 1) rfl (hS.kB_5_0 hb) (hm.fB_5_2 hb) (hS.nB_5_1 hb) ?_
  refine g_ldu (hS.kB_5_1 hb) (hS.lB_5_1 hb) i0 (by omega) (fun v ev => ?_)
  have q17 := hm.aB_5_1 hb (i := h) (by omega) (by omega)
  refine ⟨hS.k4, ?_⟩
  refine u_X8_roadHours ?_
  refine g_getr 8 5 rfl hS.k4 hm.f_4_8 (by decide) ?_
  refine u_X8_pair ?_
  refine g_C ?_
  refine g_M (by omega) (by omega) ?_
  refine g_A (by omega) (by omega) ?_
  refine g_ldu hS.k5 hS.l5 (by omega) (by omega) (fun v2 ev2 => ?_)
  rw [ev2, show v * 6 + p = 6 * m (c + 1) h + p by omega]
  exact hk q17.1 q17.2
theorem zy_setOut {X : Mm} {S : Sh} {m : Mm} {K : Mm → Prop} {c h p v : Int} (hS : Shp S) (hm : Inv X S m) (hb : isSt c) (i0 : 0 ≤ h) (i1 : h ≤ 4) (p0 : 0 ≤ p) (p1 : p ≤ 5) (v0 : 0 ≤ v) (v1 : v ≤ 5) (hk : ∀ M1 : Mm, Inv X S M1 → (∀ c' q : Int, ¬ (q = h ∧ (c' = c + 1 ∨ c' = c + 2)) → M1 c' q = m c' q) → M1 (c + 1) h = p → M1 (c + 2) h = v → K M1) : wp_X5_setOut S m c h p v K := by
  refine u_X5_setOut ?_
  refine g_getr 2 (c + 1) rfl (hS.kB_5_0 hb) (hm.fB_5_2 hb) (hS.nB_5_1 hb) ?_
  refine g_st (hS.kB_5_1 hb) (hS.lB_5_1 hb) i0 (by omega) (hm.waB_5_1 hb i0 (by omega) p0 p1) (fun m1 e1 hm1 => ?_)
  have f1 : ∀ c' q : Int, ¬ (c' = c + 1 ∧ q = h) → m1 c' q = m c' q := fun c q w => (congrFun (congrFun e1 _) _).trans (up_ne w)
  have y1 : m1 (c + 1) h = p := (congrFun (congrFun e1 _) _).trans (up_at _ _ _ _)
  refine g_getr 3 (c + 2) rfl (hS.kB_5_0 hb) (hm1.fB_5_3 hb) (hS.nB_5_2 hb) ?_
  refine g_st (hS.kB_5_2 hb) (hS.lB_5_2 hb) i0 (by omega) (hm1.waB_5_2 hb i0 (by omega) v0 v1) (fun m2 e2 hm2 => ?_)
  have f2 : ∀ c' q : Int, ¬ (c' = c + 2 ∧ q = h) → m2 c' q = m1 c' q := fun c q w => (congrFun (congrFun e2 _) _).trans (up_ne w)
  have y2 : m2 (c + 2) h = v := (congrFun (congrFun e2 _) _).trans (up_at _ _ _ _)
  exact hk m2 hm2 (fun c' q w => by rw [f2 c' q (by omega), f1 c' q (by omega)]) (by rw [f2 _ h (by omega), y1]) y2
theorem zy_giveTo {X : Mm} {S : Sh} {m : Mm} {K : Mm → Prop} {c h j : Int} (hS : Shp S) (hm : Inv X S m) (hb : isSt c) (i0 : 0 ≤ h) (i1 : h ≤ 4) (j0 : 0 ≤ j) (j1 : j ≤ 3) (hk : ∀ M1 : Mm, Inv X S M1 → (∀ c' p : Int, ¬ (p = j ∧ (c' = c + 4 ∨ c' = c + 5)) → M1 c' p = m c' p) → M1 (c + 5) j = h → M1 (c + 4) j = -1 → K M1) : wp_X5_giveTo S m c h j K := by
  refine u_X5_giveTo ?_
  refine g_getr 6 (c + 5) rfl (hS.kB_5_0 hb) (hm.fB_5_6 hb) (hS.nB_5_5 hb) ?_
  refine g_st (hS.kB_5_5 hb) (hS.lB_5_5 hb) j0 (by omega) (hm.waB_5_5 hb j0 (by omega) (by omega) (by omega)) (fun m1 e1 hm1 => ?_)
  have f1 : ∀ c' p : Int, ¬ (c' = c + 5 ∧ p = j) → m1 c' p = m c' p := fun c p q => (congrFun (congrFun e1 _) _).trans (up_ne q)
  have y1 : m1 (c + 5) j = h := (congrFun (congrFun e1 _) _).trans (up_at _ _ _ _)
  refine g_getr 5 (c + 4) rfl (hS.kB_5_0 hb) (hm1.fB_5_5 hb) (hS.nB_5_4 hb) ?_
  refine g_C ?_
  refine g_st (hS.kB_5_4 hb) (hS.lB_5_4 hb) j0 (by omega) (hm1.waB_5_4 hb j0 (by omega) (by omega) (by omega)) (fun m2 e2 hm2 => ?_)
  have f2 : ∀ c' p : Int, ¬ (c' = c + 4 ∧ p = j) → m2 c' p = m1 c' p := fun c p q => (congrFun (congrFun e2 _) _).trans (up_ne q)
  have y2 : m2 (c + 4) j = -1 := (congrFun (congrFun e2 _) _).trans (up_at _ _ _ _)
  exact hk m2 hm2 (fun c p q => by rw [f2 c p (by omega), f1 c p (by omega)]) (by rw [f2 _ j (by omega), y1]) y2
theorem zy_roads11 {X : Mm} {S : Sh} {m0 : Mm} {K : Mm → Prop} {D : Dd} {s : Dd × Int} (hS : Shp S) (hm : Inv X S m0) (e : eM D s.1) (db : DB D) (tl : TL 4 D m0) (p0 : 0 < D 0) (sr : SR m0 68 s.1) (ex : m0 57 2 = s.2) (hk : ∀ M1 : Mm, Inv X S M1 → (∀ c p : Int, ¬ (68 ≤ c ∧ c ≤ 75) → ¬ (c = 57 ∧ p = 2) → M1 c p = m0 c p) → SR M1 68 (goN (m0 5) s (s.1 4).toNat).1 → M1 57 2 = (goN (m0 5) s (s.1 4).toNat).2 → K M1) : wp_X1_drawRoads S m0 57 68 K := by
  have hb : isSt 68 := by decide
  obtain ⟨b4, b5, b6, _⟩ := id db
  have t0 : m0 4 0 = D 0 := tl.1.1
  have t4 : m0 4 4 = D 4 := tl.1.2.2.2.2.1
  have b0 := hm.f_4_0
  have s4 := e 4 (by unfold mu; omega)
  have L : ∀ (l k : Nat) (M : Mm), (k : Int) ≤ D 4 → Inv X S M → (∀ c p : Int, ¬ (68 ≤ c ∧ c ≤ 75) → ¬ (c = 57 ∧ p = 2) → M c p = m0 c p) → SR M 68 (goN (m0 5) s k).1 → M 57 2 = (goN (m0 5) s k).2 → 6 - k ≤ l → wp_X1_drawRoads_2 S K l 57 68 k M := by
    intro l
    induction l with
    | zero => intro k M _ _ _ _ _ h; exfalso; omega
    | succ l ih =>
      intro k M k1 hM F R x2 hl
      obtain ⟨E, eE⟩ : ∃ E : Dd × Int, E = goN (m0 5) s k := ⟨_, rfl⟩
      have eN : goN (m0 5) s (k + 1) = goD (m0 5) E k := by rw [eE]; rfl
      rw [← eE] at R x2
      have q : eM D E.1 := by rw [eE]; exact e.goN k (by omega)
      have q0 := q 0 (by unfold mu; omega)
      have q4 := q 4 (by unfold mu; omega)
      have q5 := q 5 (by unfold mu; omega)
      have q6 := q 6 (by unfold mu; omega)
      refine u_X1_drawRoads_2 ?_
      refine g_getr 1 4 rfl hS.k57 hM.f_57_1 (by decide) ?_
      refine g_getu 4 rfl hS.k4 (fun v ev => ?_)
      rw [F 4 4 (by omega) (by omega)] at ev
      refine g_if (fun w => ?_) (fun w => ?_)
      · have ek : (s.1 4).toNat = k := by omega
        rw [ek, ← eE] at hk
        exact hk M hM F R x2
      have sh := R.2.1 k (by omega) (by omega)
      have nx : ∀ M' : Mm, Inv X S M' → (∀ c p : Int, ¬ (68 ≤ c ∧ c ≤ 75) → ¬ (c = 57 ∧ p = 2) → M' c p = m0 c p) → SR M' 68 (goD (m0 5) E k).1 → M' 57 2 = (goD (m0 5) E k).2 → wp_X1_drawRoads_69 S (fun a0 a1 a2 M => wp_X1_drawRoads_2 S K l a0 a1 a2 M) K 57 68 k M' := by
        intro M' hM' F' R' x'
        refine u_X1_drawRoads_69 ?_
        refine g_A (by omega) (by omega) ?_
        exact ih (k + 1) M' (by omega) hM' F' (by rw [eN]; exact R') (by rw [eN]; exact x') (by omega)
      refine ⟨hS.k68, ?_⟩
      refine zt_atPlace hS hM hb (by omega) (by omega) (fun a => g_ifF (by decide) ?_) (fun a => g_ifT rfl (nx M hM F ?_ ?_))
      · have a' : E.1 (10 + 5 * (k : Int) + 1) = 0 := by rw [← sh.2.1]; exact a
        refine g_getr 1 4 rfl hS.k57 hM.f_57_1 (by decide) ?_
        refine g_getu 0 rfl hS.k4 (fun v0 ev0 => ?_)
        rw [F 4 0 (by omega) (by omega)] at ev0
        refine g_ifF (by omega) ?_
        refine ⟨hS.k57, ?_⟩
        refine zy_draw11 hS hM (fun m1 hm1 f1 y1 => ?_)
        rw [x2] at y1 ⊢
        have F1 : ∀ c p : Int, ¬ (68 ≤ c ∧ c ≤ 75) → ¬ (c = 57 ∧ p = 2) → m1 c p = m0 c p := fun c p a b => by rw [f1 c p b, F c p a b]
        have R1 : SR m1 68 E.1 := R.mv (by omega) (by omega) (by omega) (by omega) (fun p _ _ => f1 _ p (by omega)) (fun c p z => f1 _ p (by unfold inS at z; omega)) (fun _ _ _ => rfl)
        refine g_getr 1 4 rfl hS.k57 hm1.f_57_1 (by decide) ?_
        refine g_getu 0 rfl hS.k4 (fun v1 ev1 => ?_)
        rw [F1 4 0 (by omega) (by omega)] at ev1
        have nb := nxX_b E.2
        refine ⟨by omega, ?_⟩
        rw [rem32e (by omega) (by omega) (by omega) (by omega), show v1 = E.1 0 by omega]
        have et : nxX E.2 / 65536 % E.1 0 = drw E.2 (E.1 0) := rfl
        have c1 := Int.emod_nonneg (nxX E.2 / 65536) (show E.1 0 ≠ 0 by omega)
        have c2 := Int.emod_lt_of_pos (nxX E.2 / 65536) (show 0 < E.1 0 by omega)
        rw [et] at c1 c2 ⊢
        refine g_getr 1 4 rfl hS.k57 hm1.f_57_1 (by decide) ?_
        refine ⟨hS.k68, ?_⟩
        have sh1 := R1.2.1 k (by omega) (by omega)
        refine zy_roadFor hS hm1 hb (by omega) (by omega) c1 (by omega) (by rw [sh1.2.1]; exact a') (fun g0 g5 => ?_)
        have e17 : m1 (68 + 1) k = E.1 (10 + 5 * (k : Int) + 0) := by rw [Int.add_zero]; exact sh1.1
        have br := hm1.a_5 (i := 6 * m1 (68 + 1) k + drw E.2 (E.1 0)) (by omega) (by omega)
        rw [show m1 5 = m0 5 from funext (fun p => F1 5 p (by omega) (by omega)), e17] at br ⊢
        refine g_if (fun w2 => nx m1 hm1 F1 ?_ ?_) (fun w2 => ?_)
        · unfold goD
          rw [if_pos a', if_neg (by omega)]
          exact R1
        · unfold goD
          rw [if_pos a', if_neg (by omega)]
          exact y1
        · refine ⟨hS.k68, ?_⟩
          refine zy_setOut hS hm1 hb (by omega) (by omega) c1 (by omega) br.1 br.2 (fun m2 hm2 f2 y2 y3 => ?_)
          have eG : goD (m0 5) E k = (ud (ud E.1 (10 + 5 * (k : Int) + 1) (m0 5 (6 * E.1 (10 + 5 * (k : Int) + 0) + drw E.2 (E.1 0)))) (10 + 5 * (k : Int)) (drw E.2 (E.1 0)), nxX E.2) := by
            unfold goD
            rw [if_pos a', if_pos (by omega)]
          refine nx m2 hm2 (fun c p a b => by rw [f2 c p (by omega), F1 c p a b]) ?_ ?_
          · rw [eG]
            refine R1.hand (i := k) (by omega) (by omega) (by omega) ⟨by omega, by omega⟩ (fun c p z z2 => f2 c p (by omega)) (fun p z => ?_) ⟨?_, ?_, ?_⟩
            · show ud (ud E.1 _ _) _ _ p = _
              rw [ud_ne (by omega), ud_ne (by omega)]
            · show m2 (68 + 1) k = ud (ud E.1 _ _) _ _ _
              rw [y2, ud_at]
            · show m2 (68 + 2) k = ud (ud E.1 _ _) _ _ _
              rw [y3, ud_ne (by omega), ud_at]
            · show m2 (68 + 3) k = ud (ud E.1 _ _) _ _ _
              rw [f2 _ _ (by omega), ud_ne (by omega), ud_ne (by omega)]
              exact sh1.2.2
          · rw [eG, f2 57 2 (by omega)]
            exact y1
      · have a' : ¬ E.1 (10 + 5 * (k : Int) + 1) = 0 := by rw [← sh.2.1]; exact a
        unfold goD
        rw [if_neg a']
        exact R
      · have a' : ¬ E.1 (10 + 5 * (k : Int) + 1) = 0 := by rw [← sh.2.1]; exact a
        unfold goD
        rw [if_neg a']
        exact x2
  refine u_X1_drawRoads ?_
  refine g_C ?_
  exact ⟨6, L 6 0 m0 (by omega) hm (fun _ _ _ _ => rfl) sr ex (by omega)⟩
theorem zy_holders11 {X : Mm} {S : Sh} {m0 : Mm} {K : Mm → Prop} {D : Dd} {s : Dd × Int} (hS : Shp S) (hm : Inv X S m0) (e : eM D s.1) (db : DB D) (tl : TL 4 D m0) (sr : SR m0 68 s.1) (ex : m0 57 2 = s.2) (hk : ∀ M1 : Mm, Inv X S M1 → (∀ c p : Int, ¬ (68 ≤ c ∧ c ≤ 75) → ¬ (c = 57 ∧ p = 2) → M1 c p = m0 c p) → SR M1 68 (if 0 < s.1 4 then tkN s (s.1 5).toNat else s).1 → M1 57 2 = (if 0 < s.1 4 then tkN s (s.1 5).toNat else s).2 → K M1) : wp_X1_drawHolders S m0 57 68 K := by
  have hb : isSt 68 := by decide
  obtain ⟨b4, b5, b6, _⟩ := id db
  have t5 : m0 4 5 = D 5 := tl.1.2.2.2.2.2.1
  have t4 : m0 4 4 = D 4 := tl.1.2.2.2.2.1
  have s4 := e 4 (by unfold mu; omega)
  have s5 := e 5 (by unfold mu; omega)
  obtain ⟨T, eT⟩ : ∃ T : Nat → Dd × Int, T = fun k => if 0 < s.1 4 then tkN s k else s := ⟨_, rfl⟩
  have eT0 : T 0 = s := by
    rw [eT]
    show (if 0 < s.1 4 then tkN s 0 else s) = s
    split <;> rfl
  have eTq : ∀ k : Nat, k ≤ 4 → eM D (T k).1 := by
    intro k k4
    rw [eT]
    show eM D (if 0 < s.1 4 then tkN s k else s).1
    split
    · exact e.tkN k k4
    · exact e
  have hk : ∀ M1 : Mm, Inv X S M1 → (∀ c p : Int, ¬ (68 ≤ c ∧ c ≤ 75) → ¬ (c = 57 ∧ p = 2) → M1 c p = m0 c p) → SR M1 68 (T (s.1 5).toNat).1 → M1 57 2 = (T (s.1 5).toNat).2 → K M1 := by
    rw [eT]
    exact hk
  have L : ∀ (l k : Nat) (M : Mm), (k : Int) ≤ D 5 → Inv X S M → (∀ c p : Int, ¬ (68 ≤ c ∧ c ≤ 75) → ¬ (c = 57 ∧ p = 2) → M c p = m0 c p) → SR M 68 (T k).1 → M 57 2 = (T k).2 → 5 - k ≤ l → wp_X1_drawHolders_2 S K l 57 68 k M := by
    intro l
    induction l with
    | zero => intro k M _ _ _ _ _ h; exfalso; omega
    | succ l ih =>
      intro k M k1 hM F R x2 hl
      obtain ⟨E, eE⟩ : ∃ E : Dd × Int, E = T k := ⟨_, rfl⟩
      rw [← eE] at R x2
      have q : eM D E.1 := by rw [eE]; exact eTq k (by omega)
      have q4 := q 4 (by unfold mu; omega)
      have q5 := q 5 (by unfold mu; omega)
      have q6 := q 6 (by unfold mu; omega)
      have eN1 : 0 < s.1 4 → T (k + 1) = tkD E k := fun z => by
        rw [eE, eT]
        show (if 0 < s.1 4 then tkN s (k + 1) else s) = tkD (if 0 < s.1 4 then tkN s k else s) k
        rw [if_pos z, if_pos z]
        rfl
      have eN0 : ¬ 0 < s.1 4 → T (k + 1) = E := fun z => by
        rw [eE, eT]
        show (if 0 < s.1 4 then tkN s (k + 1) else s) = (if 0 < s.1 4 then tkN s k else s)
        rw [if_neg z, if_neg z]
      refine u_X1_drawHolders_2 ?_
      refine g_getr 1 4 rfl hS.k57 hM.f_57_1 (by decide) ?_
      refine g_getu 5 rfl hS.k4 (fun v ev => ?_)
      rw [F 4 5 (by omega) (by omega)] at ev
      refine g_if (fun w => ?_) (fun w => ?_)
      · have ek : (s.1 5).toNat = k := by omega
        rw [ek, ← eE] at hk
        exact hk M hM F R x2
      have sj := R.2.2.1 k (by omega) (by omega)
      have nx : ∀ M' : Mm, Inv X S M' → (∀ c p : Int, ¬ (68 ≤ c ∧ c ≤ 75) → ¬ (c = 57 ∧ p = 2) → M' c p = m0 c p) → SR M' 68 (T (k + 1)).1 → M' 57 2 = (T (k + 1)).2 → wp_X1_drawHolders_59 S (fun a0 a1 a2 M => wp_X1_drawHolders_2 S K l a0 a1 a2 M) K 57 68 k M' := by
        intro M' hM' F' R' x'
        refine u_X1_drawHolders_59 ?_
        refine g_A (by omega) (by omega) ?_
        exact ih (k + 1) M' (by omega) hM' F' R' x' (by omega)
      have same : (0 < s.1 4 → ¬ (E.1 (35 + 4 * (k : Int) + 1) < 0 ∧ E.1 (35 + 4 * (k : Int) + 3) = 0)) → T (k + 1) = E := by
        intro z
        by_cases y : 0 < s.1 4
        · rw [eN1 y]
          unfold tkD
          rw [if_neg (z y)]
        · exact eN0 y
      refine ⟨hS.k68, ?_⟩
      refine zt_jug0 hS hM hb (by omega) (by omega) (fun st => g_ifF (by decide) ?_) (fun st => g_ifT rfl (nx M hM F ?_ ?_))
      · have st' : E.1 (35 + 4 * (k : Int) + 1) < 0 ∧ E.1 (35 + 4 * (k : Int) + 3) = 0 := by
          obtain ⟨z1, z2, z3⟩ := sj
          omega
        refine g_getr 1 4 rfl hS.k57 hM.f_57_1 (by decide) ?_
        refine g_getu 4 rfl hS.k4 (fun v0 ev0 => ?_)
        rw [F 4 4 (by omega) (by omega)] at ev0
        refine g_if (fun w0 => nx M hM F ?_ ?_) (fun w0 => ?_)
        · rw [eN0 (by omega)]; exact R
        · rw [eN0 (by omega)]; exact x2
        have p4 : 0 < s.1 4 := by omega
        refine ⟨hS.k57, ?_⟩
        refine zy_draw11 hS hM (fun m1 hm1 f1 y1 => ?_)
        rw [x2] at y1 ⊢
        have F1 : ∀ c p : Int, ¬ (68 ≤ c ∧ c ≤ 75) → ¬ (c = 57 ∧ p = 2) → m1 c p = m0 c p := fun c p a b => by rw [f1 c p b, F c p a b]
        have R1 : SR m1 68 E.1 := R.mv (by omega) (by omega) (by omega) (by omega) (fun p _ _ => f1 _ p (by omega)) (fun c p z => f1 _ p (by unfold inS at z; omega)) (fun _ _ _ => rfl)
        refine g_getr 1 4 rfl hS.k57 hm1.f_57_1 (by decide) ?_
        refine g_getu 4 rfl hS.k4 (fun v1 ev1 => ?_)
        rw [F1 4 4 (by omega) (by omega)] at ev1
        have nb := nxX_b E.2
        refine ⟨by omega, ?_⟩
        rw [rem32e (by omega) (by omega) (by omega) (by omega), show v1 = E.1 4 by omega]
        have et : nxX E.2 / 65536 % E.1 4 = drw E.2 (E.1 4) := rfl
        have c1 := Int.emod_nonneg (nxX E.2 / 65536) (show E.1 4 ≠ 0 by omega)
        have c2 := Int.emod_lt_of_pos (nxX E.2 / 65536) (show 0 < E.1 4 by omega)
        rw [et] at c1 c2 ⊢
        obtain ⟨h, eh⟩ : ∃ h : Int, h = drw E.2 (E.1 4) := ⟨_, rfl⟩
        rw [← eh] at c1 c2 ⊢
        have sh := R1.2.1 h c1 c2
        have sj1 := R1.2.2.1 k (by omega) (by omega)
        have iff : (¬ m1 (68 + 4) k = -1 ∧ m1 (68 + 4) k = m1 (68 + 1) h ∧ m1 (68 + 2) h = 0 ∧ bcF (hbt (m1 (68 + 5)) h 4) < 2) ↔ cT E.1 h k := by
          rw [R1.heldD (by omega) c1, sh.1, sh.2.1]
          unfold cT
          rw [Int.add_zero, Int.add_zero]
          obtain ⟨z1, z2, z3⟩ := sj1
          constructor
          · rintro ⟨w1, w2, w3, w4⟩
            exact ⟨w3, st', by omega, w4⟩
          · rintro ⟨w1, w2, w3, w4⟩
            exact ⟨by omega, by omega, w1, w4⟩
        refine ⟨hS.k68, ?_⟩
        refine zt_canTake hS hm1 hb c1 (by omega) (by omega) (by omega) (fun ca => g_ifF (by decide) ?_) (fun ca => g_ifT rfl (nx m1 hm1 F1 ?_ ?_))
        · have ca' := iff.1 ca
          have eK : T (k + 1) = (ud E.1 (35 + 4 * (k : Int) + 1) h, nxX E.2) := by
            rw [eN1 p4]
            unfold tkD
            rw [if_pos st', ← eh, if_pos ca']
          refine ⟨hS.k68, ?_⟩
          refine zy_giveTo hS hm1 hb c1 (by omega) (by omega) (by omega) (fun m2 hm2 f2 y2 y3 => ?_)
          refine nx m2 hm2 (fun c p a b => by rw [f2 c p (by omega), F1 c p a b]) ?_ ?_
          · rw [eK]
            refine R1.jug (j := k) ⟨by omega, by omega⟩ (by omega) (by omega) ⟨by omega, by omega⟩ (fun c p z z2 => f2 c p (by omega)) (fun p z => ?_) ⟨?_, ?_, Or.inr (Or.inl ⟨y3, ?_, ?_, ?_⟩)⟩
            · show ud E.1 _ _ p = _
              rw [ud_ne (by omega)]
            · show m2 (68 + 5) k = ud E.1 _ _ _
              rw [y2, ud_at]
            · show m2 (68 + 6) k = ud E.1 _ _ _
              rw [f2 _ _ (by omega), ud_ne (by omega)]
              exact sj1.2.1
            · show 0 ≤ ud E.1 _ _ _
              rw [ud_at]; exact c1
            · show ud E.1 _ _ _ < ud E.1 _ _ 4
              rw [ud_at, ud_ne (by omega)]; exact c2
            · show ud E.1 _ _ _ = 0
              rw [ud_ne (by omega)]; exact st'.2
          · rw [eK, f2 57 2 (by omega)]
            exact y1
        · rw [eN1 p4]
          unfold tkD
          rw [if_pos st', ← eh, if_neg (fun z => ca (iff.2 z))]
          exact R1
        · rw [eN1 p4]
          unfold tkD
          rw [if_pos st', ← eh, if_neg (fun z => ca (iff.2 z))]
          exact y1
      · rw [same (fun _ z => by obtain ⟨z1, z2, z3⟩ := sj; omega)]; exact R
      · rw [same (fun _ z => by obtain ⟨z1, z2, z3⟩ := sj; omega)]; exact x2
  refine u_X1_drawHolders ?_
  refine g_C ?_
  exact ⟨5, L 5 0 m0 (by omega) hm (fun _ _ _ _ => rfl) (by rw [eT0]; exact sr) (by rw [eT0]; exact ex) (by omega)⟩
