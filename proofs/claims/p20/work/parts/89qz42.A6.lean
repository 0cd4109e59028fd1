theorem g_cmpx {a b : Int} {K : Int → Prop} (h : ∀ v : Int, ((a < b ∧ v = -1) ∨ (a = b ∧ v = 0) ∨ (b < a ∧ v = 1)) → K v) : wCmp a b K := g_cmp (fun e => h _ (Or.inl ⟨e, rfl⟩)) (fun e => h _ (Or.inr (Or.inl ⟨e, rfl⟩))) (fun e => h _ (Or.inr (Or.inr ⟨e, rfl⟩)))
theorem zh_turnsIn {X : Mm} {S : Sh} {m : Mm} {K : Int → Mm → Prop} {o : Option (List Cz)} {h ti jg tu t ro ho : Int} (hS : Shp S) (hm : Inv X S m) (hr : RR m o) (h0 : 0 ≤ h) (h4 : h ≤ 4) (t0 : 0 ≤ ti) (t9 : ti ≤ 99) (hk : ∀ M1 : Mm, Inv X S M1 → (∀ c p : Int, ¬ c = 344 → ¬ c = 345 → ¬ (c = 336 ∧ p = 18) → M1 c p = m c p) → K (tvO o (wds h (m 346 (10 + 5 * h + 3)) ti jg tu (if m 336 23 = 0 then htR (m 346) t else 0) t ro ho (if tu < m 346 2 then 0 else 1))) M1) : wp_X12_turnsIn S m 336 h ti jg tu t ro ho K := by
  refine u_X12_turnsIn ?_
  refine ⟨hS.k336, ?_⟩
  refine zh_heat12 hS hm (fun b0 b1 => ?_)
  obtain ⟨he, ehe⟩ : ∃ he : Int, he = (if m 336 23 = 0 then htR (m 346) t else 0) := ⟨_, rfl⟩
  rw [← ehe] at hk b0 b1 ⊢
  have bs : 0 ≤ m 346 (10 + 5 * h + 3) ∧ m 346 (10 + 5 * h + 3) ≤ 20 := fam_346_13_5_0_4 hm (a := h) (by omega) (by omega) (by omega)
  refine g_getu 21 rfl hS.k336 (fun fo efo => ?_)
  cases o with
  | none =>
    have q : m 336 21 < 0 := hr
    refine g_ifF (by omega) ?_
    refine g_C ?_
    refine ⟨hS.k336, ?_⟩
    refine zt_handOf hS hm h0 h4 (by omega) (by omega) ?_
    refine g_C ?_
    have q4 := iDiv4 ti.toNat (by omega)
    rw [Int.toNat_of_nonneg (by omega)] at q4
    refine ⟨by decide, ?_⟩
    rw [q4]
    refine g_A (by omega) (by omega) ?_
    refine g_A (by omega) (by omega) ?_
    exact hk m hm (fun c p _ _ _ => rfl)
  | some Cs =>
    obtain ⟨a1, a2, a3, a4⟩ := hr
    have b21 := hm.f_336_21
    refine g_ifT (by omega) ?_
    refine g_getr 19 345 rfl hS.k336 hm.f_336_19 (by decide) ?_
    refine g_C ?_
    refine g_C ?_
    refine g_st hS.k345 hS.l345 (by decide) (by decide) (hm.wa_345 (by decide) (by decide)) (fun m1 e1 hm1 => ?_)
    have f1 : ∀ c p : Int, ¬ (c = 345 ∧ p = 0) → m1 c p = m c p := fun c p q => (congrFun (congrFun e1 _) _).trans (up_ne q)
    have y1 : m1 345 0 = h := (congrFun (congrFun e1 _) _).trans (up_at _ _ _ _)
    refine g_getr 19 345 rfl hS.k336 hm1.f_336_19 (by decide) ?_
    refine g_C ?_
    refine g_C ?_
    refine ⟨hS.k336, ?_⟩
    refine zt_handOf hS hm1 h0 h4 (by omega) (by omega) ?_
    rw [f1 346 _ (by omega)]
    refine g_C ?_
    refine g_st hS.k345 hS.l345 (by decide) (by decide) (hm1.wa_345 (by decide) (by decide)) (fun m2 e2 hm2 => ?_)
    have f2 : ∀ c p : Int, ¬ (c = 345 ∧ p = 1) → m2 c p = m1 c p := fun c p q => (congrFun (congrFun e2 _) _).trans (up_ne q)
    have y2 : m2 345 1 = m 346 (10 + 5 * h + 3) := (congrFun (congrFun e2 _) _).trans (up_at _ _ _ _)
    refine g_getr 19 345 rfl hS.k336 hm2.f_336_19 (by decide) ?_
    refine g_C ?_
    refine g_C ?_
    refine g_st hS.k345 hS.l345 (by decide) (by decide) (hm2.wa_345 (by decide) (by decide)) (fun m3 e3 hm3 => ?_)
    have f3 : ∀ c p : Int, ¬ (c = 345 ∧ p = 2) → m3 c p = m2 c p := fun c p q => (congrFun (congrFun e3 _) _).trans (up_ne q)
    have y3 : m3 345 2 = ti := (congrFun (congrFun e3 _) _).trans (up_at _ _ _ _)
    refine g_getr 19 345 rfl hS.k336 hm3.f_336_19 (by decide) ?_
    refine g_C ?_
    refine g_C ?_
    refine g_st hS.k345 hS.l345 (by decide) (by decide) (hm3.wa_345 (by decide) (by decide)) (fun m4 e4 hm4 => ?_)
    have f4 : ∀ c p : Int, ¬ (c = 345 ∧ p = 3) → m4 c p = m3 c p := fun c p q => (congrFun (congrFun e4 _) _).trans (up_ne q)
    have y4 : m4 345 3 = jg := (congrFun (congrFun e4 _) _).trans (up_at _ _ _ _)
    refine g_getr 19 345 rfl hS.k336 hm4.f_336_19 (by decide) ?_
    refine g_C ?_
    refine g_C ?_
    refine g_st hS.k345 hS.l345 (by decide) (by decide) (hm4.wa_345 (by decide) (by decide)) (fun m5 e5 hm5 => ?_)
    have f5 : ∀ c p : Int, ¬ (c = 345 ∧ p = 4) → m5 c p = m4 c p := fun c p q => (congrFun (congrFun e5 _) _).trans (up_ne q)
    have y5 : m5 345 4 = tu := (congrFun (congrFun e5 _) _).trans (up_at _ _ _ _)
    refine g_getr 19 345 rfl hS.k336 hm5.f_336_19 (by decide) ?_
    refine g_C ?_
    refine g_C ?_
    refine g_st hS.k345 hS.l345 (by decide) (by decide) (hm5.wa_345 (by decide) (by decide)) (fun m6 e6 hm6 => ?_)
    have f6 : ∀ c p : Int, ¬ (c = 345 ∧ p = 5) → m6 c p = m5 c p := fun c p q => (congrFun (congrFun e6 _) _).trans (up_ne q)
    have y6 : m6 345 5 = he := (congrFun (congrFun e6 _) _).trans (up_at _ _ _ _)
    refine g_getr 19 345 rfl hS.k336 hm6.f_336_19 (by decide) ?_
    refine g_C ?_
    refine g_C ?_
    refine g_st hS.k345 hS.l345 (by decide) (by decide) (hm6.wa_345 (by decide) (by decide)) (fun m7 e7 hm7 => ?_)
    have f7 : ∀ c p : Int, ¬ (c = 345 ∧ p = 6) → m7 c p = m6 c p := fun c p q => (congrFun (congrFun e7 _) _).trans (up_ne q)
    have y7 : m7 345 6 = t := (congrFun (congrFun e7 _) _).trans (up_at _ _ _ _)
    refine g_getr 19 345 rfl hS.k336 hm7.f_336_19 (by decide) ?_
    refine g_C ?_
    refine g_C ?_
    refine g_st hS.k345 hS.l345 (by decide) (by decide) (hm7.wa_345 (by decide) (by decide)) (fun m8 e8 hm8 => ?_)
    have f8 : ∀ c p : Int, ¬ (c = 345 ∧ p = 7) → m8 c p = m7 c p := fun c p q => (congrFun (congrFun e8 _) _).trans (up_ne q)
    have y8 : m8 345 7 = ro := (congrFun (congrFun e8 _) _).trans (up_at _ _ _ _)
    refine g_getr 19 345 rfl hS.k336 hm8.f_336_19 (by decide) ?_
    refine g_C ?_
    refine g_C ?_
    refine g_st hS.k345 hS.l345 (by decide) (by decide) (hm8.wa_345 (by decide) (by decide)) (fun m9 e9 hm9 => ?_)
    have f9 : ∀ c p : Int, ¬ (c = 345 ∧ p = 8) → m9 c p = m8 c p := fun c p q => (congrFun (congrFun e9 _) _).trans (up_ne q)
    have y9 : m9 345 8 = ho := (congrFun (congrFun e9 _) _).trans (up_at _ _ _ _)
    have F9 : ∀ c p : Int, ¬ c = 345 → m9 c p = m c p := fun c p q => by rw [f9 c p (by omega), f8 c p (by omega), f7 c p (by omega), f6 c p (by omega), f5 c p (by omega), f4 c p (by omega), f3 c p (by omega), f2 c p (by omega), f1 c p (by omega)]
    refine g_getr 19 345 rfl hS.k336 hm9.f_336_19 (by decide) ?_
    refine g_C ?_
    refine g_getr 20 346 rfl hS.k336 hm9.f_336_20 (by decide) ?_
    refine g_C ?_
    refine g_ldu hS.k346 hS.l346 (by decide) (by decide) (fun sr esr => ?_)
    rw [F9 346 2 (by omega)] at esr
    have go : ∀ so : Int, so = (if tu < m 346 2 then 0 else 1) → wp_X12_turnsIn_136 S K 336 345 9 so m9 := by
      intro so eso
      refine u_X12_turnsIn_136 ?_
      refine g_st hS.k345 hS.l345 (by decide) (by decide) (hm9.wa_345 (by decide) (by decide)) (fun m10 e10 hm10 => ?_)
      have f10 : ∀ c p : Int, ¬ (c = 345 ∧ p = 9) → m10 c p = m9 c p := fun c p q => (congrFun (congrFun e10 _) _).trans (up_ne q)
      have y10 : m10 345 9 = so := (congrFun (congrFun e10 _) _).trans (up_at _ _ _ _)
      have F10 : ∀ c p : Int, ¬ c = 345 → m10 c p = m c p := fun c p q => by rw [f10 c p (by omega), F9 c p q]
      refine g_getu 21 rfl hS.k336 (fun f21 ef21 => ?_)
      rw [F10 336 21 (by omega)] at ef21
      subst ef21
      refine ⟨hS.k336, ?_⟩
      have r10 : RwR m10 (m 336 21) Cs := by
        obtain ⟨r1, r2, r3, r4, r5⟩ := a2
        refine ⟨?_, ?_, by rw [F10 341 _ (by omega)]; exact r3, r4, r5⟩
        · rw [show (fun j => m10 338 (400 * m 336 21 + j)) = (fun j => m 338 (400 * m 336 21 + j)) from funext (fun j => F10 338 _ (by omega))]
          exact r1
        · exact Tbl.same Cs 0 0 (fun p _ => F10 340 p (by omega)) r2
      refine zk_summedBy hS hm10 a1 (by omega) r10 a3 (fun m11 hm11 f11 => ?_)
      have ew : evC (wdR m10) Cs = evC (wds h (m 346 (10 + 5 * h + 3)) ti jg tu he t ro ho (if tu < m 346 2 then 0 else 1)) Cs := by
        refine evC_same (fun j j0 j9 => ?_) Cs a4
        show m10 345 j = _
        rcases (show j = 0 ∨ j = 1 ∨ j = 2 ∨ j = 3 ∨ j = 4 ∨ j = 5 ∨ j = 6 ∨ j = 7 ∨ j = 8 ∨ j = 9 by omega) with e | e | e | e | e | e | e | e | e | e <;> subst e
        · rw [f10 345 0 (by decide), f9 345 0 (by decide), f8 345 0 (by decide), f7 345 0 (by decide), f6 345 0 (by decide), f5 345 0 (by decide), f4 345 0 (by decide), f3 345 0 (by decide), f2 345 0 (by decide), y1]; rfl
        · rw [f10 345 1 (by decide), f9 345 1 (by decide), f8 345 1 (by decide), f7 345 1 (by decide), f6 345 1 (by decide), f5 345 1 (by decide), f4 345 1 (by decide), f3 345 1 (by decide), y2]; rfl
        · rw [f10 345 2 (by decide), f9 345 2 (by decide), f8 345 2 (by decide), f7 345 2 (by decide), f6 345 2 (by decide), f5 345 2 (by decide), f4 345 2 (by decide), y3]; rfl
        · rw [f10 345 3 (by decide), f9 345 3 (by decide), f8 345 3 (by decide), f7 345 3 (by decide), f6 345 3 (by decide), f5 345 3 (by decide), y4]; rfl
        · rw [f10 345 4 (by decide), f9 345 4 (by decide), f8 345 4 (by decide), f7 345 4 (by decide), f6 345 4 (by decide), y5]; rfl
        · rw [f10 345 5 (by decide), f9 345 5 (by decide), f8 345 5 (by decide), f7 345 5 (by decide), y6]; rfl
        · rw [f10 345 6 (by decide), f9 345 6 (by decide), f8 345 6 (by decide), y7]; rfl
        · rw [f10 345 7 (by decide), f9 345 7 (by decide), y8]; rfl
        · rw [f10 345 8 (by decide), y9]; rfl
        · rw [y10, eso]; rfl
      rw [ew]
      have K0 := hk m11 hm11 (fun c p q1 q2 q3 => by rw [f11 c p ⟨q1, q3⟩, F10 c p q2])
      obtain ⟨e, ee⟩ : ∃ e : Int, e = evC (wds h (m 346 (10 + 5 * h + 3)) ti jg tu he t ro ho (if tu < m 346 2 then 0 else 1)) Cs := ⟨_, rfl⟩
      have K1 : K (max 0 (min 50 e)) m11 := by rw [ee]; exact K0
      rw [← ee]
      refine g_C ?_
      refine g_cmpx (fun c1 e1 => ?_)
      refine g_if (fun w1 => ?_) (fun w1 => g_C (by rw [show (0 : Int) = max 0 (min 50 e) by omega]; exact K1))
      refine g_C ?_
      refine g_cmpx (fun c2 e2 => ?_)
      refine g_if (fun w2 => ?_) (fun w2 => g_C (by rw [show (50 : Int) = max 0 (min 50 e) by omega]; exact K1))
      show K (w32 e) m11
      have q5 := w32_50 e.toNat (by omega)
      rw [Int.toNat_of_nonneg (by omega)] at q5
      rw [q5, show e = max 0 (min 50 e) by omega]
      exact K1
    exact g_if (fun w => g_C (go 0 (by rw [if_pos (by omega)]))) (fun w => g_C (go 1 (by rw [if_neg (by omega)])))
