/-! MATCH of the reference: all rows one after another -/
theorem pw_b : ∀ b : Nat, b < 6 → ∀ k : Nat, k < 7 → b ^ k ≤ 15625 := by decide +kernel
theorem zq_power {S : Sh} {m : Mm} {K : Int → Mm → Prop} {b n : Int} {B N : Nat} (eb : b = (B : Int)) (en : n = (N : Int)) (hb : B ≤ 5) (hn : N ≤ 6) (hk : K ((B ^ N : Nat) : Int) m) : wp_X12_power S m b n K := by
  subst eb en
  have L : ∀ (l k : Nat), k ≤ N → N + 1 - k ≤ l → wp_X12_power_4 S K l (B : Int) (N : Int) ((B ^ k : Nat) : Int) k m := by
    intro l
    induction l with
    | zero => intro k _ hl; exfalso; omega
    | succ l ih =>
      intro k k1 hl
      refine u_X12_power_4 ?_
      refine g_if (fun q => ?_) (fun q => ?_)
      · have ek : N = k := by omega
        rw [ek] at hk
        exact hk
      · have e : ((B ^ k : Nat) : Int) * (B : Int) = ((B ^ (k + 1) : Nat) : Int) := by rw [Nat.pow_succ, Int.natCast_mul]
        have z := pw_b B (by omega) (k + 1) (by omega)
        refine g_Ml _ e (by omega) (by omega) ?_
        refine g_A (by omega) (by omega) ?_
        exact ih (k + 1) (by omega) (by omega)
  refine u_X12_power ?_
  refine g_C ?_
  refine g_C ?_
  exact ⟨N + 1, L (N + 1) 0 (by omega) (by omega)⟩
theorem zq_jugIn {X : Mm} {S : Sh} {m : Mm} {K : Int → Mm → Prop} {w : Int} {c r J : Nat} (hS : Shp S) (hm : Inv X S m) (eJ : m 346 5 = (J : Int)) (hJ : J ≤ 4) (e6 : m 346 6 - 1 - w = (r : Int)) (r6 : r ≤ 6) (w0 : 0 ≤ w) (hc : c ≤ 15625) (hk : K (((c / (J + 1) ^ r % (J + 1) : Nat) : Int) - 1) m) : wp_X12_jugIn S m 336 c w K := by
  have b6 := hm.f_346_6
  have pp : 0 < (J + 1) ^ r := Nat.pow_pos (Nat.succ_pos J)
  have pz := pw_b (J + 1) (by omega) r (by omega)
  have dl := Nat.div_le_self c ((J + 1) ^ r)
  have d0 := Int.natCast_nonneg (c / (J + 1) ^ r)
  refine u_X12_jugIn ?_
  refine g_getr 20 346 rfl hS.k336 hm.f_336_20 (by decide) ?_
  refine g_C ?_
  refine g_ldu hS.k346 hS.l346 (by decide) (by decide) (fun v1 ev1 => ?_)
  refine g_C ?_
  refine g_A (by omega) (by omega) ?_
  refine g_getr 20 346 rfl hS.k336 hm.f_336_20 (by decide) ?_
  refine g_C ?_
  refine g_ldu hS.k346 hS.l346 (by decide) (by decide) (fun v2 ev2 => ?_)
  refine g_C ?_
  refine g_S (by omega) (by omega) ?_
  refine g_S (by omega) (by omega) ?_
  refine zq_power (B := J + 1) (N := r) (by omega) (by omega) (by omega) r6 ?_
  refine ⟨by omega, ?_⟩
  rw [div32 (by omega) (by omega) (by omega) (by omega), ← Int.natCast_ediv]
  refine g_getr 20 346 rfl hS.k336 hm.f_336_20 (by decide) ?_
  refine g_C ?_
  refine g_ldu hS.k346 hS.l346 (by decide) (by decide) (fun v3 ev3 => ?_)
  refine g_C ?_
  refine g_A (by omega) (by omega) ?_
  have e3 : v3 + 1 = ((J + 1 : Nat) : Int) := by omega
  rw [e3]
  refine ⟨by omega, ?_⟩
  rw [rem32e (by omega) (by omega) (by omega) (by omega), ← Int.natCast_emod]
  refine g_C ?_
  have ml := dg_lt (J := J) (c := c) (r := r)
  refine g_S (by omega) (by omega) ?_
  exact hk
theorem zq_payBy_aux {X : Mm} {S : Sh} {m : Mm} {K : Int → Mm → Prop} {D : Int → Int} {c J : Nat} (hS : Shp S) (hm : Inv X S m) (eD : m 346 = D) (eJ : D 5 = (J : Int)) (hJ : J ≤ 4) (b6 : 0 ≤ D 6 ∧ D 6 ≤ 6) (hc : c ≤ 15625) (hp : ∀ r : Nat, (r : Int) < D 6 → 0 ≤ pyD D r ∧ pyD D r ≤ 50) : ∀ (r : Nat) (w u p : Int), D 6 = w + (r : Int) → 0 ≤ w → 0 ≤ u → u ≤ 15 → 0 ≤ p → p ≤ 50 * w → K (if vlF J (kkD D) (pyD D) r u c < 0 then -1 else p + vlF J (kkD D) (pyD D) r u c) m → wp_X12_payBy_7 S K (r + 1) 336 c u p w m := by
  intro r
  induction r with
  | zero =>
    intro w u p ew w0 u0 u1 p0 p1 hk
    refine u_X12_payBy_7 ?_
    refine g_getr 20 346 rfl hS.k336 hm.f_336_20 (by decide) ?_
    refine g_C ?_
    refine g_ldu hS.k346 hS.l346 (by decide) (by decide) (fun v ev => ?_)
    rw [eD] at ev
    refine g_ifT (by omega) ?_
    have e : vlF J (kkD D) (pyD D) 0 u c = 0 := rfl
    rw [e, if_neg (by decide), Int.add_zero] at hk
    exact hk
  | succ r ih =>
    intro w u p ew w0 u0 u1 p0 p1 hk
    have ew2 : D 6 - 1 - (r : Int) = w := by omega
    have hr := hp r (by omega)
    have ki := fun j => kkD_iff (D := D) (r := r) (j := j) ew2
    refine u_X12_payBy_7 ?_
    refine g_getr 20 346 rfl hS.k336 hm.f_336_20 (by decide) ?_
    refine g_C ?_
    refine g_ldu hS.k346 hS.l346 (by decide) (by decide) (fun v ev => ?_)
    rw [eD] at ev
    refine g_ifF (by omega) ?_
    refine ⟨hS.k336, ?_⟩
    refine zq_jugIn (J := J) (r := r) hS hm (by rw [eD]; exact eJ) hJ (by rw [eD]; omega) (by omega) w0 hc ?_
    have ml := dg_lt (J := J) (c := c) (r := r)
    obtain ⟨d, ed⟩ : ∃ d : Nat, d = c / (J + 1) ^ r % (J + 1) := ⟨_, rfl⟩
    rw [← ed] at ml ⊢
    refine g_if (fun q => ?_) (fun q => ?_)
    · obtain ⟨j, ej⟩ : ∃ j : Int, j = (d : Int) - 1 := ⟨_, rfl⟩
      rw [← ej] at q ⊢
      have dj : ((c / (J + 1) ^ r % (J + 1) : Nat) : Int) = j + 1 := by rw [← ed]; omega
      have bad : ¬ (¬ btF u j = 1 ∧ kkD D r j = true) → K (-1) m := fun g => by
        rw [vlF_x (j := j) dj q g, if_pos (by decide)] at hk
        exact hk
      refine g_getr 20 346 rfl hS.k336 hm.f_336_20 (by decide) ?_
      refine g_C ?_
      refine g_A (by omega) (by omega) ?_
      refine g_ldu hS.k346 hS.l346 (by omega) (by omega) (fun v1 e1 => ?_)
      rw [eD] at e1
      refine g_if (fun q1 => g_C (bad (fun z => by have k := (ki j).1 z.2; omega))) (fun q1 => ?_)
      refine g_C ?_
      refine ⟨hS.k336, ?_⟩
      refine zt_jugOf hS hm q (by omega) (by decide) (by decide) ?_
      rw [eD]
      refine g_C ?_
      refine g_if (fun q2 => g_C (bad (fun z => by have k := (ki j).1 z.2; omega))) (fun q2 => ?_)
      refine zq_isOf (fun b1 => g_ifT (by decide) (g_C (bad (fun z => z.1 b1)))) (fun b0 => g_ifF (by decide) ?_)
      refine g_C ?_
      refine ⟨hS.k336, ?_⟩
      refine zt_jugOf hS hm q (by omega) (by decide) (by decide) ?_
      refine g_C ?_
      refine g_C ?_
      refine ⟨hS.k336, ?_⟩
      refine zt_wantOf hS hm w0 (by omega) (by decide) (by decide) ?_
      refine g_C ?_
      refine g_C ?_
      refine ⟨hS.k336, ?_⟩
      refine zt_wantOf hS hm w0 (by omega) (by decide) (by decide) ?_
      refine g_C ?_
      rw [eD]
      refine zs_in (fun i1 => g_ifT (by decide) ?_) (fun i0 => g_ifF (by decide) (g_C (bad (fun z => by have k := (ki j).1 z.2; omega))))
      have kt : kkD D r j = true := (ki j).2 ⟨by omega, q2, i1.1, i1.2⟩
      refine g_C ?_
      refine g_Oe (fun x ex => ?_)
      refine g_Oe (fun y ey => ?_)
      have ey2 : y = iOr u (iShl 1 j) := by rw [ey, ex]
      have yb := or_15 u.toNat (by omega) j.toNat (by omega)
      rw [Int.toNat_of_nonneg u0, Int.toNat_of_nonneg q, ← ey2] at yb
      refine g_C ?_
      refine ⟨hS.k336, ?_⟩
      refine zt_wantOf hS hm w0 (by omega) (by decide) (by decide) ?_
      rw [eD]
      have pe := pyD_w (D := D) (r := r) ew2
      rw [← pe]
      refine g_A (by omega) (by omega) ?_
      refine u_X12_payBy_118 ?_
      refine g_A (by omega) (by omega) ?_
      refine ih (w + 1) y (p + pyD D r) (by omega) (by omega) yb.1 yb.2 (by omega) (by omega) ?_
      rw [vlF_j (j := j) dj q ⟨b0, kt⟩, ← ey2] at hk
      by_cases n : vlF J (kkD D) (pyD D) r y c < 0
      · rw [if_pos n] at hk ⊢
        rw [if_pos (by decide)] at hk
        exact hk
      · rw [if_neg n] at hk ⊢
        rw [if_neg (by omega)] at hk
        rw [Int.add_assoc]
        exact hk
    · refine u_X12_payBy_118 ?_
      refine g_A (by omega) (by omega) ?_
      rw [vlF_n (by rw [← ed]; omega)] at hk
      exact ih (w + 1) u p (by omega) (by omega) u0 u1 p0 (by omega) hk
theorem zq_match12 {X : Mm} {S : Sh} {m : Mm} {K : Int → Mm → Prop} {D : Int → Int} {what : Int} {J W : Nat} (hS : Shp S) (hm : Inv X S m) (eD : m 346 = D) (eJ : D 5 = (J : Int)) (hJ : J ≤ 4) (eW : D 6 = (W : Int)) (hW : W ≤ 6) (hp : ∀ r : Nat, (r : Int) < D 6 → 0 ≤ pyD D r ∧ pyD D r ≤ 50) (w0 : 0 ≤ what) (w9 : what ≤ 2147483647) (h0 : what = 0 → K (mW J (kkD D) (pyD D) W 0) m) (h1 : ∀ a r : Nat, what = (a : Int) + 1 → W = a + 1 + r → K (f1F J (kkD D) (pyD D) r (usF J (kkD D) (pyD D) W a)) m) (h2 : (W : Int) < what → K (-2) m) : ∃ n9 : Nat, wp_X12_match_29 S K n9 336 what 0 0 1 m := by
  have pz := pw_b (J + 1) (by omega) W (by omega)
  have pp : 0 < (J + 1) ^ W := Nat.pow_pos (Nat.succ_pos J)
  have L : ∀ (l c b : Nat) (t : Int), c ≤ (J + 1) ^ W → 0 < c → b < c → 0 ≤ t → (∀ x : Nat, x < c → vlF J (kkD D) (pyD D) W 0 x ≤ t) → vlF J (kkD D) (pyD D) W 0 b = t → (∀ x : Nat, x < b → vlF J (kkD D) (pyD D) W 0 x < t) → (J + 1) ^ W + 1 - c ≤ l → wp_X12_match_29 S K l 336 what b t c m := by
    intro l
    induction l with
    | zero => intro c b t c1 _ _ _ _ _ _ hl; exfalso; omega
    | succ l ih =>
      intro c b t c1 c0 bc t0 i1 i2 i3 hl
      have tb : t ≤ 300 := by
        rw [← i2]
        have q := vl_le (J := J) (kk := kkD D) (py := pyD D) (c := b) W 0
        have q2 := mW_b (J := J) (kk := kkD D) hp W 0 (by omega)
        omega
      refine u_X12_match_29 ?_
      refine g_getr 20 346 rfl hS.k336 hm.f_336_20 (by decide) ?_
      refine g_C ?_
      refine g_ldu hS.k346 hS.l346 (by decide) (by decide) (fun v ev => ?_)
      rw [eD, eJ] at ev
      refine g_C ?_
      refine g_A (by omega) (by omega) ?_
      refine g_getr 20 346 rfl hS.k336 hm.f_336_20 (by decide) ?_
      refine g_C ?_
      refine g_ldu hS.k346 hS.l346 (by decide) (by decide) (fun v2 ev2 => ?_)
      rw [eD, eW] at ev2
      refine zq_power (B := J + 1) (N := W) (by omega) ev2 (by omega) hW ?_
      refine g_if (fun q => ?_) (fun q => ?_)
      · have ec : c = (J + 1) ^ W := by omega
        have fl := fo_lt (J := J) (kk := kkD D) (py := pyD D) W 0
        have fo := vl_fo (J := J) (kk := kkD D) (py := pyD D) W 0
        have ti : t = mW J (kkD D) (pyD D) W 0 := by
          have q1 := i1 _ (by rw [ec]; exact fl)
          have q2 := vl_le (J := J) (kk := kkD D) (py := pyD D) (c := b) W 0
          omega
        have bi : b = foF J (kkD D) (pyD D) W 0 := by
          rcases Nat.lt_trichotomy b (foF J (kkD D) (pyD D) W 0) with z | z | z
          · have q1 := vl_lt (J := J) (kk := kkD D) (py := pyD D) W 0 b z
            omega
          · exact z
          · have q1 := i3 _ z
            omega
        refine g_if (fun q2 => ?_) (fun q2 => ?_)
        · refine g_getr 20 346 rfl hS.k336 hm.f_336_20 (by decide) ?_
          refine g_C ?_
          refine g_ldu hS.k346 hS.l346 (by decide) (by decide) (fun v3 ev3 => ?_)
          rw [eD, eW] at ev3
          refine g_if (fun q3 => ?_) (fun q3 => ?_)
          · refine g_C ?_
            refine g_S (by omega) (by omega) ?_
            refine ⟨hS.k336, ?_⟩
            obtain ⟨a, ea⟩ : ∃ a : Nat, what = (a : Int) + 1 := ⟨(what - 1).toNat, by omega⟩
            obtain ⟨r, er⟩ : ∃ r : Nat, W = a + 1 + r := ⟨W - (a + 1), by omega⟩
            refine zq_jugIn (J := J) (r := r) hS hm (by rw [eD]; exact eJ) hJ (by rw [eD, eW]; omega) (by omega) (by omega) (by omega) ?_
            rw [bi, fo_at er]
            exact h1 a r ea er
          · exact g_C (h2 (by omega))
        · have q := h0 (Classical.not_not.mp q2)
          rw [← ti] at q
          exact q
      refine ⟨hS.k336, ?_⟩
      refine u_X12_payBy ?_
      refine g_C ?_
      refine g_C ?_
      refine g_C ?_
      refine ⟨W + 1, zq_payBy_aux hS hm eD eJ hJ ⟨by omega, by omega⟩ (by omega) hp W 0 0 0 (by omega) (by decide) (by decide) (by decide) (by decide) (by decide) ?_⟩
      obtain ⟨x, ex⟩ : ∃ x : Int, x = vlF J (kkD D) (pyD D) W 0 c := ⟨_, rfl⟩
      rw [← ex, Int.zero_add]
      refine g_if (fun q2 => ?_) (fun q2 => ?_)
      · have xn : ¬ x < 0 := fun z => by rw [if_pos z] at q2; omega
        rw [if_neg xn] at q2 ⊢
        refine u_X12_match_75 ?_
        refine g_A (by omega) (by omega) ?_
        refine ih (c + 1) c x (by omega) (by omega) (by omega) (by omega) (fun y hy => ?_) ex.symm (fun y hy => ?_) (by omega)
        · by_cases e : y = c
          · rw [e, ← ex]; exact Int.le_refl x
          · have q1 := i1 y (by omega)
            omega
        · have q1 := i1 y hy
          omega
      · have xl : x ≤ t := by
          by_cases z : x < 0
          · omega
          · rw [if_neg z] at q2
            omega
        refine u_X12_match_75 ?_
        refine g_A (by omega) (by omega) ?_
        refine ih (c + 1) b t (by omega) (by omega) (by omega) t0 (fun y hy => ?_) i2 i3 (by omega)
        by_cases e : y = c
        · rw [e, ← ex]; exact xl
        · exact i1 y (by omega)
  have v0 : vlF J (kkD D) (pyD D) W 0 0 = 0 := by
    have g : ∀ (r : Nat) (u : Int), vlF J (kkD D) (pyD D) r u 0 = 0 := by
      intro r
      induction r with
      | zero => intro u; rfl
      | succ r ih => intro u; rw [vlF_n (by rw [Nat.zero_div, Nat.zero_mod])]; exact ih u
    exact g W 0
  refine ⟨(J + 1) ^ W, L ((J + 1) ^ W) 1 0 0 pp (by decide) (by decide) (by decide) (fun x hx => ?_) v0 (fun x hx => absurd hx (Nat.not_lt_zero x)) (by omega)⟩
  have ex : x = 0 := by omega
  rw [ex, v0]
  decide
theorem zz_match {S : Sh} {m0 : Mm} {K : Int → Int → Mm → Prop} {K1 : Int → Mm → Prop} {n w : Int} (hS : Shp S) (hz : RZ S m0 n) (hK : ∀ (r : Int) (M : Mm), wp_X12_match S M 336 w (fun r2 M2 => K r r2 M2) → K1 r M) (hk : ∀ (r : Int) (M1 : Mm), RZ S M1 n → K r r M1) : wp_X11_match S m0 0 w K1 := by
  have hm := hz.inv
  have db := hz.db
  have ct := hz.ct
  obtain ⟨D, eD⟩ : ∃ D : Int → Int, m0 346 = D := ⟨_, rfl⟩
  rw [eD] at db ct
  obtain ⟨J, eJ⟩ : ∃ J : Nat, D 5 = (J : Int) := ⟨(D 5).toNat, by omega⟩
  obtain ⟨W, eW⟩ : ∃ W : Nat, D 6 = (W : Int) := ⟨(D 6).toNat, by omega⟩
  have eJ2 : (D 5).toNat = J := by omega
  have hp : ∀ r : Nat, (r : Int) < D 6 → 0 ≤ pyD D r ∧ pyD D r ≤ 50 := fun r hr => by
    have zw := hz.wd (i := D 6 - 1 - (r : Int)) (by omega) (by rw [eD]; omega)
    rw [eD] at zw
    have b15 := hm.a_15 (i := D 6 - 1 - (r : Int)) (by omega) (by omega)
    rw [zw.2.2.2] at b15
    exact b15
  have no : ∀ r : Int, r = -3 → (m0 346 0 = 0 ∨ ¬ (0 ≤ w ∧ w ≤ 6)) → wp_X12_match S m0 336 w (fun r2 M2 => K r r2 M2) := by
    intro r er q
    rw [er]
    refine u_X12_match ?_
    refine ⟨hS.k336, ?_⟩
    refine zs_isDairy hS hm (fun c1 => g_ifF (by decide) ?_) (fun c1 => g_ifT rfl (g_C (hk _ m0 hz)))
    refine g_C ?_
    refine g_C ?_
    refine g_C ?_
    exact zs_in (fun c2 => absurd c2 (q.resolve_left c1)) (fun c2 => g_ifF (by decide) (g_C (hk _ m0 hz)))
  refine u_X11_match ?_
  refine g_getr 1 3 rfl hS.k0 hm.f_0_1 (by decide) ?_
  refine g_getr 0 4 rfl hS.k3 hm.f_3_0 (by decide) ?_
  refine g_getu 0 rfl hS.k4 (fun v ev => ?_)
  rw [ct.1] at ev
  refine g_if (fun q => g_C (hK _ _ (no _ rfl (Or.inl (by rw [eD]; omega))))) (fun q => ?_)
  refine g_if (fun q1 => g_C (hK _ _ (no _ rfl (Or.inr (by omega))))) (fun q1 => ?_)
  refine g_C ?_
  refine g_if (fun q2 => ?_) (fun q2 => g_C (hK _ _ (no _ rfl (Or.inr (by omega)))))
  have go : ∀ (r : Int) (M : Mm), RZ S M n → M 346 = D → ((w = 0 → r = mW J (kkD D) (pyD D) W 0) ∧ (∀ a s : Nat, w = (a : Int) + 1 → W = a + 1 + s → r = f1F J (kkD D) (pyD D) s (usF J (kkD D) (pyD D) W a)) ∧ ((W : Int) < w → r = -2)) → wp_X12_match S M 336 w (fun r2 M2 => K r r2 M2) := by
    intro r M zM e46 hr
    refine u_X12_match ?_
    refine ⟨hS.k336, ?_⟩
    refine zs_isDairy hS zM.inv (fun c1 => g_ifF (by decide) ?_) (fun c1 => absurd c1 (by rw [e46]; omega))
    refine g_C ?_
    refine g_C ?_
    refine g_C ?_
    refine zs_in (fun c2 => g_ifT (by decide) ?_) (fun c2 => absurd (by omega) c2)
    refine g_C ?_
    refine g_C ?_
    refine g_C ?_
    exact zq_match12 (D := D) (J := J) (W := W) hS zM.inv e46 eJ (by omega) eW (by omega) hp (by omega) (by omega) (fun z => by rw [← hr.1 z]; exact hk r M zM) (fun a s z1 z2 => by rw [← hr.2.1 a s z1 z2]; exact hk r M zM) (fun z => by rw [← hr.2.2 z]; exact hk r M zM)
  refine g_getr 1 3 rfl hS.k0 hm.f_0_1 (by decide) ?_
  refine g_getr 0 4 rfl hS.k3 hm.f_3_0 (by decide) ?_
  refine g_getu 7 rfl hS.k4 (fun v7 ev7 => ?_)
  rw [ct.2.2.2.2.2.2.2] at ev7
  refine g_if (fun q3 => ?_) (fun q3 => g_C (hK _ _ (go _ m0 hz eD ⟨fun z => by omega, fun a s z1 z2 => by omega, fun _ => rfl⟩)))
  refine g_getr 13 63 rfl hS.k0 hm.f_0_13 (by decide) ?_
  refine g_getr 1 3 rfl hS.k0 hm.f_0_1 (by decide) ?_
  refine g_getr 1 16 rfl hS.k3 hm.f_3_1 (by decide) ?_
  refine ⟨hS.k63, ?_⟩
  refine zq_matchWants (D := D) hS hz eD hp (fun m1 z1 f1 T => ?_)
  have hm1 := z1.inv
  have e46 : m1 346 = D := by rw [← eD]; exact funext (fun p => f1 346 p (by omega))
  refine g_if (fun w1 => ?_) (fun w1 => ?_)
  · refine g_getr 13 63 rfl hS.k0 hm1.f_0_13 (by decide) ?_
    refine g_getr 1 3 rfl hS.k0 hm1.f_0_1 (by decide) ?_
    refine g_getr 1 16 rfl hS.k3 hm1.f_3_1 (by decide) ?_
    refine g_C ?_
    refine g_S (by omega) (by omega) ?_
    refine ⟨hS.k63, ?_⟩
    obtain ⟨a, ea⟩ : ∃ a : Nat, w - 1 = (a : Int) := ⟨(w - 1).toNat, by omega⟩
    obtain ⟨r, er⟩ : ∃ r : Nat, W = a + 1 + r := ⟨W - (a + 1), by omega⟩
    rw [ea]
    refine zq_jugOfWant (D := D) (W := W) (r := r) hS z1 e46 eW.symm er hp T ?_
    rw [eJ2]
    refine hK _ _ (go _ m1 z1 e46 ⟨fun z => by omega, fun a2 s z1 z2 => ?_, fun z => by omega⟩)
    rw [show a2 = a by omega, show s = r by omega]
  · refine g_getr 13 63 rfl hS.k0 hm1.f_0_13 (by decide) ?_
    refine ⟨hS.k63, ?_⟩
    refine u_X6_mostPay ?_
    refine g_getr 1 64 rfl hS.k63 hm1.f_63_1 (by decide) ?_
    refine g_C ?_
    refine g_ldu hS.k64 hS.l64 (by decide) (by decide) (fun r er => ?_)
    have t0 := T 0 0 (by decide) (by decide) (by omega) (Or.inl (by decide))
    rw [show (0 : Int) * 16 + 0 = 0 from rfl, eJ2, show (D 6 - 0).toNat = W by omega] at t0
    refine hK _ _ (go _ m1 z1 e46 ⟨fun _ => by rw [er, t0], fun a s z1 z2 => by omega, fun z => by omega⟩)
