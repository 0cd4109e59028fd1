/-! MATCH of the class: the table -/
theorem zq_payWith {S : Sh} {m : Mm} {K : Int → Mm → Prop} {n w u c : Int} {D : Int → Int} {r : Nat} (hS : Shp S) (hz : RZ S m n) (eD : m 346 = D) (ew : D 6 - 1 - (r : Int) = w) (w0 : 0 ≤ w) (u0 : 0 ≤ u) (u1 : u ≤ 15) (c0 : -1 ≤ c) (c1 : c < D 5) (hp : ∀ r : Nat, (r : Int) < D 6 → 0 ≤ pyD D r ∧ pyD D r ≤ 50) (hg : ∀ v : Int, 0 ≤ v → v ≤ 15 → m 64 ((w + 1) * 16 + v) = mW (D 5).toNat (kkD D) (pyD D) r v) (hk : K (pwF (D 5).toNat (kkD D) (pyD D) r u c) m) : wp_X6_payWith S m 63 16 w u c K := by
  have hm := hz.inv
  have db := hz.db
  rw [eD] at db
  have w5 : w < D 6 := by omega
  have hr : (r : Int) < D 6 := by omega
  refine u_X6_payWith ?_
  refine g_C ?_
  refine g_A (by omega) (by omega) ?_
  refine g_C ?_
  refine g_M (by omega) (by omega) ?_
  refine g_C ?_
  refine g_if (fun c3 => ?_) (fun c3 => ?_)
  · have cn : ¬ c = -1 := c3
    have ep : pwF (D 5).toNat (kkD D) (pyD D) r u c = jwF (kkD D) (pyD D) r (mW (D 5).toNat (kkD D) (pyD D) r) u c := if_neg cn
    rw [ep] at hk
    have zj := hz.jg (j := c) (by omega) (by rw [eD]; exact c1)
    have zw := hz.wd (i := w) w0 (by rw [eD]; exact w5)
    have zt := hz.wt (w := w) w0 (by rw [eD]; exact w5)
    rw [eD] at zj zw zt
    have ki := kkD_iff (D := D) (r := r) (j := c) ew
    have bad : ¬ (¬ btF u c = 1 ∧ kkD D r c = true) → K (-1) m := fun q => by
      have e : jwF (kkD D) (pyD D) r (mW (D 5).toNat (kkD D) (pyD D) r) u c = -1 := if_neg q
      rw [e] at hk
      exact hk
    have no : ¬ (¬ btF u c = 1 ∧ kkD D r c = true) → wp_X6_payWith_46 S K 63 16 w u c ((w + 1) * 16) m := fun q => by
      refine u_X6_payWith_46 ?_
      refine g_C ?_
      refine u_X6_payWith_47 ?_
      exact g_ifT rfl (g_C (bad q))
    refine g_Oe (fun x ex => ?_)
    refine g_C ?_
    refine g_Oe (fun y ey => ?_)
    have eb : y = btF u c := by rw [ey, ex]; rfl
    have b01 := bt_01 u.toNat (by omega) c.toNat (by omega)
    rw [Int.toNat_of_nonneg u0, Int.toNat_of_nonneg (by omega)] at b01
    refine g_if (fun q => no (fun z => by have := z.1; omega)) (fun q => ?_)
    have fr : ¬ btF u c = 1 := by omega
    refine ⟨hS.k16, ?_⟩
    refine zh_gone hS hm (by decide) (by omega) (by omega) (fun a1 a2 => g_ifT (by decide) (no (fun z => ?_))) (fun a => g_ifF (by decide) (g_C ?_))
    · have k := ki.1 z.2
      have a1' : m 20 c = -1 := a1
      have a2' : m 21 c = -1 := a2
      omega
    have a' : ¬ (m 20 c = -1 ∧ m 21 c = -1) := a
    refine u_X6_payWith_47 ?_
    refine g_ifF (by decide) ?_
    refine g_getr 8 23 rfl hS.k16 hm.f_16_8 (by decide) ?_
    refine g_ldu hS.k23 hS.l23 (by omega) (by omega) (fun v1 e1 => ?_)
    have b23 := hm.a_23 (i := w) w0 (by omega)
    refine g_C ?_
    refine g_if (fun q2 => g_C (bad (fun z => by have k := ki.1 z.2; omega))) (fun q2 => ?_)
    refine g_getr 0 4 rfl hS.k63 hm.f_63_0 (by decide) ?_
    refine g_getr 7 22 rfl hS.k16 hm.f_16_7 (by decide) ?_
    refine g_ldu hS.k22 hS.l22 (by omega) (by omega) (fun v2 e2 => ?_)
    refine ⟨hS.k4, ?_⟩
    refine u_X8_suits ?_
    refine g_getr 16 13 rfl hS.k4 hm.f_4_16 (by decide) ?_
    refine g_ldu hS.k13 hS.l13 (by omega) (by omega) (fun v3 e3 => ?_)
    refine g_if (fun q3 => g_C ⟨by decide, g_ifF (by decide) (g_C (bad (fun z => by have k := ki.1 z.2; omega)))⟩) (fun q3 => ?_)
    refine g_getr 17 14 rfl hS.k4 hm.f_4_17 (by decide) ?_
    refine g_ldu hS.k14 hS.l14 (by omega) (by omega) (fun v4 e4 => ?_)
    refine g_if (fun q4 => g_C ⟨by decide, g_ifF (by decide) (g_C (bad (fun z => by have k := ki.1 z.2; omega)))⟩) (fun q4 => ?_)
    refine g_C ⟨by decide, g_ifT (by decide) ?_⟩
    have kt : kkD D r c = true := ki.2 ⟨by omega, by omega, by omega, by omega⟩
    refine g_getr 0 4 rfl hS.k63 hm.f_63_0 (by decide) ?_
    refine g_getr 18 15 rfl hS.k4 hm.f_4_18 (by decide) ?_
    refine g_ldu hS.k15 hS.l15 (by omega) (by omega) (fun v5 e5 => ?_)
    have b15 := hm.a_15 (i := w) w0 (by omega)
    refine g_getr 1 64 rfl hS.k63 hm.f_63_1 (by decide) ?_
    refine g_C ?_
    refine g_Oe (fun x2 ex2 => ?_)
    refine g_Oe (fun y2 ey2 => ?_)
    have ey3 : y2 = iOr u (iShl 1 c) := by rw [ey2, ex2]
    have yb := or_15 u.toNat (by omega) c.toNat (by omega)
    rw [Int.toNat_of_nonneg u0, Int.toNat_of_nonneg (by omega), ← ey3] at yb
    refine g_A (by omega) (by omega) ?_
    refine g_ldu hS.k64 hS.l64 (by omega) (by omega) (fun v6 e6 => ?_)
    rw [hg y2 yb.1 yb.2] at e6
    have b6 := mW_b (J := (D 5).toNat) (kk := kkD D) hp r y2 (by omega)
    have b7 := mW_0 (J := (D 5).toNat) (kk := kkD D) (py := pyD D) r y2
    refine g_A (by omega) (by omega) ?_
    have e : jwF (kkD D) (pyD D) r (mW (D 5).toNat (kkD D) (pyD D) r) u c = v5 + v6 := by
      have z : jwF (kkD D) (pyD D) r (mW (D 5).toNat (kkD D) (pyD D) r) u c = pyD D r + mW (D 5).toNat (kkD D) (pyD D) r (iOr u (iShl 1 c)) := if_pos ⟨fr, kt⟩
      rw [z, pyD_w ew, ← ey3, ← e6]
      omega
    rw [e] at hk
    exact hk
  · have ec : c = -1 := by omega
    refine g_getr 1 64 rfl hS.k63 hm.f_63_1 (by decide) ?_
    refine g_A (by omega) (by omega) ?_
    refine g_ldu hS.k64 hS.l64 (by omega) (by omega) (fun v6 e6 => ?_)
    rw [hg u u0 u1] at e6
    have ep : pwF (D 5).toNat (kkD D) (pyD D) r u c = mW (D 5).toNat (kkD D) (pyD D) r u := if_pos ec
    rw [ep, ← e6] at hk
    exact hk
abbrev mtF (m M : Mm) : Prop := ∀ c p : Int, ¬ c = 64 → M c p = m c p
abbrev mT (D : Int → Int) (w u : Int) (M : Mm) : Prop := ∀ w' v : Int, 0 ≤ v → v ≤ 15 → w' ≤ D 6 → (w < w' ∨ (w' = w ∧ v < u)) → M 64 (w' * 16 + v) = mW (D 5).toNat (kkD D) (pyD D) (D 6 - w').toNat v
theorem zq_matchWants {S : Sh} {m : Mm} {K : Mm → Prop} {n : Int} {D : Int → Int} (hS : Shp S) (hz : RZ S m n) (eD : m 346 = D) (hp : ∀ r : Nat, (r : Int) < D 6 → 0 ≤ pyD D r ∧ pyD D r ≤ 50) (hk : ∀ M1 : Mm, RZ S M1 n → mtF m M1 → mT D (-1) 0 M1 → K M1) : wp_X6_matchWants S m 63 16 K := by
  have hm := hz.inv
  have db := hz.db
  rw [eD] at db
  have ct := hz.ct
  rw [eD] at ct
  have zz : ∀ M : Mm, Inv (sf m) S M → mtF m M → RZ S M n := fun M hM F => hz.keep (hz.1.of hM) (fun c p q => F c p (by unfold KZ at q; omega))
  have L43 : ∀ (r : Nat) (w u : Int) (M : Mm) (g1 : Int → Int → Int → Mm → Prop) (g2 : Int → Int → Int → Int → Mm → Prop), D 6 - 1 - (r : Int) = w → 0 ≤ w → 0 ≤ u → u ≤ 15 → Inv (sf m) S M → mtF m M → mT D w u M → (∀ M' : Mm, Inv (sf m) S M' → mtF m M' → mT D w (u + 1) M' → g2 63 16 w (u + 1) M') → ∀ (l j : Nat), (j : Int) ≤ D 5 → 5 - j ≤ l → wp_X6_matchWants_43 S g1 g2 K l 63 16 w u (mxF (jwF (kkD D) (pyD D) r (mW (D 5).toNat (kkD D) (pyD D) r) u) (mW (D 5).toNat (kkD D) (pyD D) r u) j) j M := by
    intro r w u M g1 g2 ew w0 u0 u1 hM F T hg l
    have zM := zz M hM F
    have rw1 : ∀ v : Int, 0 ≤ v → v ≤ 15 → M 64 ((w + 1) * 16 + v) = mW (D 5).toNat (kkD D) (pyD D) r v := fun v v0 v1 => by
      rw [T (w + 1) v v0 v1 (by omega) (Or.inl (by omega)), show (D 6 - (w + 1)).toNat = r by omega]
    induction l with
    | zero => intro j j1 hl; exfalso; omega
    | succ l ih =>
      intro j j1 hl
      refine u_X6_matchWants_43 ?_
      refine g_getr 0 4 rfl hS.k63 hM.f_63_0 (by decide) ?_
      refine g_getu 5 rfl hS.k4 (fun v ev => ?_)
      rw [F 4 5 (by omega), ct.2.2.2.2.2.1] at ev
      refine g_if (fun q => ?_) (fun q => ?_)
      · have ej : (D 5).toNat = j := by omega
        refine g_getr 1 64 rfl hS.k63 hM.f_63_1 (by decide) ?_
        refine g_C ?_
        refine g_M (by omega) (by omega) ?_
        refine g_A (by omega) (by omega) ?_
        have e : mW (D 5).toNat (kkD D) (pyD D) (r + 1) u = mxF (jwF (kkD D) (pyD D) r (mW (D 5).toNat (kkD D) (pyD D) r) u) (mW (D 5).toNat (kkD D) (pyD D) r u) (D 5).toNat := rfl
        have b6 := mW_b (J := (D 5).toNat) (kk := kkD D) hp (r + 1) u (by omega)
        have b7 := mW_0 (J := (D 5).toNat) (kk := kkD D) (py := pyD D) (r + 1) u
        rw [← ej, ← e]
        refine g_st hS.k64 hS.l64 (by omega) (by omega) (hM.wa_64 (by omega) (by omega) (by omega) (by omega)) (fun m2 e2 hm2 => ?_)
        have f2 : ∀ c p : Int, ¬ (c = 64 ∧ p = w * 16 + u) → m2 c p = M c p := fun c p q => (congrFun (congrFun e2 _) _).trans (up_ne q)
        have y2 : m2 64 (w * 16 + u) = mW (D 5).toNat (kkD D) (pyD D) (r + 1) u := (congrFun (congrFun e2 _) _).trans (up_at _ _ _ _)
        refine g_A (by omega) (by omega) ?_
        refine hg m2 hm2 (fun c p q => by rw [f2 c p (by omega), F c p q]) (fun w' v v0 v1 w1 q2 => ?_)
        by_cases z : w' = w ∧ v = u
        · rw [z.1, z.2, y2, show (D 6 - w).toNat = r + 1 by omega]
        · rw [f2 64 _ (by omega)]
          exact T w' v v0 v1 w1 (by omega)
      · refine ⟨hS.k63, ?_⟩
        refine zq_payWith (D := D) (r := r) hS zM (by rw [← eD]; exact funext (fun p => F 346 p (by omega))) ew w0 u0 u1 (by omega) (by omega) hp rw1 ?_
        have ep : pwF (D 5).toNat (kkD D) (pyD D) r u (j : Int) = jwF (kkD D) (pyD D) r (mW (D 5).toNat (kkD D) (pyD D) r) u (j : Int) := if_neg (by omega)
        rw [ep]
        refine g_Oe (fun x ex => ?_)
        rw [ex]
        refine g_A (by omega) (by omega) ?_
        exact ih (j + 1) (by omega) (by omega)
  have L24 : ∀ (r : Nat) (w : Int) (g : Int → Int → Int → Mm → Prop), D 6 - 1 - (r : Int) = w → 0 ≤ w → (∀ M' : Mm, Inv (sf m) S M' → mtF m M' → mT D (w - 1) 0 M' → g 63 16 (w - 1) M') → ∀ (l u : Nat) (M : Mm), u ≤ 16 → Inv (sf m) S M → mtF m M → mT D w u M → 17 - u ≤ l → wp_X6_matchWants_24 S g K l 63 16 w u M := by
    intro r w g ew w0 hg l
    induction l with
    | zero => intro u M u1 _ _ _ hl; exfalso; omega
    | succ l ih =>
      intro u M u1 hM F T hl
      refine u_X6_matchWants_24 ?_
      refine g_C ?_
      refine g_if (fun q => ?_) (fun q => ?_)
      · refine g_A (by omega) (by omega) ?_
        refine hg M hM F (fun w' v v0 v1 w1 q2 => ?_)
        exact T w' v v0 v1 w1 (by omega)
      · refine g_C ?_
        refine ⟨hS.k63, ?_⟩
        have rw1 : ∀ v : Int, 0 ≤ v → v ≤ 15 → M 64 ((w + 1) * 16 + v) = mW (D 5).toNat (kkD D) (pyD D) r v := fun v v0 v1 => by
          rw [T (w + 1) v v0 v1 (by omega) (Or.inl (by omega)), show (D 6 - (w + 1)).toNat = r by omega]
        refine zq_payWith (D := D) (r := r) hS (zz M hM F) (by rw [← eD]; exact funext (fun p => F 346 p (by omega))) ew w0 (by omega) (by omega) (by decide) (by omega) hp rw1 ?_
        have ep : pwF (D 5).toNat (kkD D) (pyD D) r u (-1) = mW (D 5).toNat (kkD D) (pyD D) r u := if_pos rfl
        rw [ep]
        refine g_C ?_
        exact ⟨5, L43 r w u M g _ ew w0 (by omega) (by omega) hM F T (fun M' hM' F' T' => ih (u + 1) M' (by omega) hM' F' T' (by omega)) 5 0 (by omega) (by omega)⟩
  have L18 : ∀ (l k : Nat) (M : Mm), (k : Int) ≤ D 6 → Inv (sf m) S M → mtF m M → mT D ((k : Int) - 1) 0 M → k + 1 ≤ l → wp_X6_matchWants_18 S K l 63 16 ((k : Int) - 1) M := by
    intro l
    induction l with
    | zero => intro k M k1 _ _ _ hl; exfalso; omega
    | succ l ih =>
      intro k M k1 hM F T hl
      refine u_X6_matchWants_18 ?_
      refine g_if (fun q => ?_) (fun q => ?_)
      · have ek : k = 0 := by omega
        rw [ek] at T
        exact hk M (zz M hM F) F T
      · refine g_C ?_
        obtain ⟨k', ek⟩ : ∃ k' : Nat, k = k' + 1 := ⟨k - 1, by omega⟩
        refine ⟨17, L24 (D 6 - (k : Int)).toNat ((k : Int) - 1) _ (by omega) (by omega) (fun M' hM' F' T' => ?_) 17 0 M (by omega) hM F T (by omega)⟩
        have e : (k : Int) - 1 - 1 = (k' : Int) - 1 := by omega
        rw [e] at T' ⊢
        exact ih k' M' (by omega) hM' F' T' (by omega)
  refine u_X6_matchWants ?_
  refine g_getr 1 64 rfl hS.k63 hm.f_63_1 (by decide) ?_
  refine g_C ?_
  refine s_fillx hm hS.k64 hS.l64 (by decide) (fun M i h0 h1 h2 => h0.wa_64 h1 h2 (by omega) (by omega)) (fun m1 hm1 f1 z1 => ?_)
  refine g_getr 0 4 rfl hS.k63 hm1.f_63_0 (by decide) ?_
  refine g_getu 7 rfl hS.k4 (fun v ev => ?_)
  rw [f1 4 7 (by omega), ct.2.2.2.2.2.2.2] at ev
  refine g_C ?_
  refine g_S (by omega) (by omega) ?_
  have e : v - 1 = ((D 6).toNat : Int) - 1 := by omega
  rw [e]
  refine ⟨(D 6).toNat + 1, L18 ((D 6).toNat + 1) (D 6).toNat m1 (by omega) hm1 f1 (fun w' v v0 v1 w1 q => ?_) (by omega)⟩
  have ew : w' = D 6 := by omega
  rw [z1 _ (by omega) (by omega), show (D 6 - w').toNat = 0 by omega]
  rfl
theorem zq_firstBest {S : Sh} {m : Mm} {K : Int → Mm → Prop} {n w u : Int} {D : Int → Int} {r : Nat} (hS : Shp S) (hz : RZ S m n) (eD : m 346 = D) (ew : D 6 - 1 - (r : Int) = w) (w0 : 0 ≤ w) (u0 : 0 ≤ u) (u1 : u ≤ 15) (hp : ∀ r : Nat, (r : Int) < D 6 → 0 ≤ pyD D r ∧ pyD D r ≤ 50) (T : mT D (-1) 0 m) (hk : K (f1F (D 5).toNat (kkD D) (pyD D) r u) m) : wp_X6_firstBest S m 63 16 w u K := by
  have hm := hz.inv
  have db := hz.db
  rw [eD] at db
  have ct := hz.ct
  rw [eD] at ct
  have rw1 : ∀ v : Int, 0 ≤ v → v ≤ 15 → m 64 ((w + 1) * 16 + v) = mW (D 5).toNat (kkD D) (pyD D) r v := fun v v0 v1 => by
    rw [T (w + 1) v v0 v1 (by omega) (Or.inl (by omega)), show (D 6 - (w + 1)).toNat = r by omega]
  have rw0 : m 64 (w * 16 + u) = mW (D 5).toNat (kkD D) (pyD D) (r + 1) u := by
    rw [T w u u0 u1 (by omega) (Or.inl (by omega)), show (D 6 - w).toNat = r + 1 by omega]
  have L : ∀ (l k : Nat) (c : Int), c = D 5 - (k : Int) → -1 ≤ c → k + 1 ≤ l → K (fsF (pwF (D 5).toNat (kkD D) (pyD D) r u) (mW (D 5).toNat (kkD D) (pyD D) (r + 1) u) k c) m → wp_X6_firstBest_3 S K l 63 16 w u c m := by
    intro l
    induction l with
    | zero => intro k c _ _ hl _; exfalso; omega
    | succ l ih =>
      intro k c ec c0 hl hq
      refine u_X6_firstBest_3 ?_
      refine g_getr 0 4 rfl hS.k63 hm.f_63_0 (by decide) ?_
      refine g_getu 5 rfl hS.k4 (fun v ev => ?_)
      rw [ct.2.2.2.2.2.1] at ev
      refine g_if (fun q => ?_) (fun q => ?_)
      · have ek : k = 0 := by omega
        subst ek
        exact g_C hq
      · obtain ⟨k', ek⟩ : ∃ k' : Nat, k = k' + 1 := ⟨k - 1, by omega⟩
        subst ek
        refine ⟨hS.k63, ?_⟩
        refine zq_payWith (D := D) (r := r) hS hz eD ew w0 u0 u1 c0 (by omega) hp rw1 ?_
        refine g_getr 1 64 rfl hS.k63 hm.f_63_1 (by decide) ?_
        refine g_C ?_
        refine g_M (by omega) (by omega) ?_
        refine g_A (by omega) (by omega) ?_
        refine g_ldu hS.k64 hS.l64 (by omega) (by omega) (fun v2 e2 => ?_)
        rw [rw0] at e2
        rw [e2]
        refine g_if (fun q2 => ?_) (fun q2 => ?_)
        · have e : fsF (pwF (D 5).toNat (kkD D) (pyD D) r u) (mW (D 5).toNat (kkD D) (pyD D) (r + 1) u) (k' + 1) c = fsF (pwF (D 5).toNat (kkD D) (pyD D) r u) (mW (D 5).toNat (kkD D) (pyD D) (r + 1) u) k' (c + 1) := if_neg q2
          rw [e] at hq
          refine g_A (by omega) (by omega) ?_
          exact ih k' (c + 1) (by omega) (by omega) (by omega) hq
        · have e : fsF (pwF (D 5).toNat (kkD D) (pyD D) r u) (mW (D 5).toNat (kkD D) (pyD D) (r + 1) u) (k' + 1) c = c := if_pos (Classical.not_not.mp q2)
          rw [e] at hq
          exact hq
  refine u_X6_firstBest ?_
  refine g_C ?_
  exact ⟨(D 5).toNat + 2, L ((D 5).toNat + 2) ((D 5).toNat + 1) (-1) (by omega) (by decide) (by omega) hk⟩
theorem zq_jugOfWant {S : Sh} {m : Mm} {K : Int → Mm → Prop} {n : Int} {D : Int → Int} {a r W : Nat} (hS : Shp S) (hz : RZ S m n) (eD : m 346 = D) (eW : (W : Int) = D 6) (er : W = a + 1 + r) (hp : ∀ r : Nat, (r : Int) < D 6 → 0 ≤ pyD D r ∧ pyD D r ≤ 50) (T : mT D (-1) 0 m) (hk : K (f1F (D 5).toNat (kkD D) (pyD D) r (usF (D 5).toNat (kkD D) (pyD D) W a)) m) : wp_X6_jugOfWant S m 63 16 a K := by
  have db := hz.db
  rw [eD] at db
  have hJ : (D 5).toNat ≤ 4 := by omega
  have L : ∀ (l w : Nat) (j : Int), w ≤ a + 1 → (w = a + 1 → j = f1F (D 5).toNat (kkD D) (pyD D) r (usF (D 5).toNat (kkD D) (pyD D) W a)) → a + 2 - w ≤ l → wp_X6_jugOfWant_8 S K l 63 16 a (usF (D 5).toNat (kkD D) (pyD D) W w) j w m := by
    intro l
    induction l with
    | zero => intro w j w1 _ hl; exfalso; omega
    | succ l ih =>
      intro w j w1 hj hl
      refine u_X6_jugOfWant_8 ?_
      refine g_if (fun q => ?_) (fun q => ?_)
      · rw [← hj (by omega)] at hk
        exact hk
      have ub := us_b (kk := kkD D) (py := pyD D) (W := W) hJ w
      obtain ⟨s, es⟩ : ∃ s : Nat, s = W - 1 - w := ⟨_, rfl⟩
      have z := f1F_at (J := (D 5).toNat) (kk := kkD D) (py := pyD D) s (usF (D 5).toNat (kkD D) (pyD D) W w)
      have e1 : usF (D 5).toNat (kkD D) (pyD D) W (w + 1) = nuF (usF (D 5).toNat (kkD D) (pyD D) W w) (f1F (D 5).toNat (kkD D) (pyD D) s (usF (D 5).toNat (kkD D) (pyD D) W w)) := by rw [es]; rfl
      have hj2 : w + 1 = a + 1 → f1F (D 5).toNat (kkD D) (pyD D) s (usF (D 5).toNat (kkD D) (pyD D) W w) = f1F (D 5).toNat (kkD D) (pyD D) r (usF (D 5).toNat (kkD D) (pyD D) W a) := fun e => by
        rw [show s = r by omega, show w = a by omega]
      have or0 := or_05 (usF (D 5).toNat (kkD D) (pyD D) W w).toNat (by omega)
      rw [Int.toNat_of_nonneg ub.1] at or0
      obtain ⟨x, ex⟩ : ∃ x : Int, x = f1F (D 5).toNat (kkD D) (pyD D) s (usF (D 5).toNat (kkD D) (pyD D) W w) := ⟨_, rfl⟩
      obtain ⟨u, eu⟩ : ∃ u : Int, u = usF (D 5).toNat (kkD D) (pyD D) W w := ⟨_, rfl⟩
      rw [← ex] at z e1 hj2
      rw [← eu] at e1 ub or0 ⊢
      refine ⟨hS.k63, ?_⟩
      refine zq_firstBest (D := D) (r := s) hS hz eD (by omega) (by omega) ub.1 ub.2 hp T ?_
      rw [eu, ← ex, ← eu]
      refine g_C ?_
      refine g_if (fun q2 => ?_) (fun q2 => ?_)
      · refine g_C ?_
        refine g_Oe (fun y ey => ?_)
        refine u_X6_jugOfWant_39 ?_
        refine g_Oe (fun y2 ey2 => ?_)
        refine g_A (by omega) (by omega) ?_
        have e2 : y2 = usF (D 5).toNat (kkD D) (pyD D) W (w + 1) := by
          have e3 : nuF u x = iOr u (iShl 1 x) := if_neg q2
          rw [e1, e3, ey2, ey]
        rw [e2]
        exact ih (w + 1) x (by omega) hj2 (by omega)
      · refine g_C ?_
        refine u_X6_jugOfWant_39 ?_
        refine g_Oe (fun y2 ey2 => ?_)
        refine g_A (by omega) (by omega) ?_
        have e2 : y2 = usF (D 5).toNat (kkD D) (pyD D) W (w + 1) := by
          have e3 : nuF u x = u := if_pos (Classical.not_not.mp q2)
          rw [e1, e3, ey2, or0]
        rw [e2]
        exact ih (w + 1) x (by omega) hj2 (by omega)
  refine u_X6_jugOfWant ?_
  refine g_C ?_
  refine g_C ?_
  refine g_C ?_
  exact ⟨a + 2, L (a + 2) 0 (-1) (by omega) (fun e => absurd e (by omega)) (by omega)⟩
