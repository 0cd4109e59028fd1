theorem zv_isTurnHere {X : Mm} {S : Sh} {m0 : Mm} {K : Int → Mm → Prop} {tb : Int → Int} {tn kk : Int} {T : Int → List Int → Prop} {O0 R0 : List Int} (hS : Shp S) (hm0 : Inv X S m0) (hR : TR X tb tn) (hr : Rl X m0 1) (wk0 : Wk tb tn 6 (m0 336 8)) (h90 : m0 336 9 = 0) (hrq : RQ m0 R0) (hl0 : ∀ (f : Int) (E : List Int), Bcc tb tn 1 (m0 336 8 + 4) (m0 336 12) [] O0 kk f E → T f E) (hf : ∀ M1 : Mm, Inv X S M1 → T (M1 336 9) [] → ¬ M1 336 9 = 0 → K 0 M1) (hk : ∀ (M1 : Mm) (cl : Cz), Inv X S M1 → Rl X M1 0 → m0 336 8 ≤ M1 336 8 → M1 336 14 = m0 336 14 → Lx tb tn T O0 R0 M1 9 (cod1 cl) (row1 cl) kk → Tyc cl → Ent M1 (X 336 2) (m0 341 (X 336 2)) (R0.length : Int) cl → (∀ p : Int, p < 48 * X 336 2 + 4 * m0 341 (X 336 2) → M1 340 p = m0 340 p) → M1 341 (X 336 2) = m0 341 (X 336 2) + 1 → K 1 M1) : wp_X12_isTurnHere S m0 336 K := by
  obtain ⟨g, rl, rc, ⟨rc0, rc1⟩, rA⟩ := id hr
  obtain ⟨g1, g2, g3⟩ := id g
  have bl := hm0.a_339 (i := X 336 2) (by omega) (by omega)
  obtain ⟨t, ht⟩ : ∃ t : Int, t = X 336 2 := ⟨_, rfl⟩
  obtain ⟨c0, hc0⟩ : ∃ c0 : Int, c0 = m0 341 t := ⟨_, rfl⟩
  rw [← ht] at g1 g2 g3 rl rc rc0 rA bl hk
  rw [← hc0] at rc rc0 rA hk
  have len0 := hrq.len (by rw [g1]; exact bl.1)
  rw [g1] at len0
  have nsp : ∀ q : Int, 0 ≤ q → ¬ spX X 340 (48 * t + 4 * c0 + q) := fun q q0 => by omega
  have fin : ∀ (m' : Mm) (cl : Cz), Lx tb tn T O0 R0 m' 9 (cod1 cl) (row1 cl) kk → Tyc cl → (m' 340 (48 * t + 4 * c0) = (R0.length : Int) ∧ m' 340 (48 * t + 4 * c0 + 1) = (R0.length : Int) + (cl.1.length : Int) ∧ ((cl.2.1 = false ∧ cl.2.2 = [] ∧ m' 340 (48 * t + 4 * c0 + 2) = -1) ∨ (cl.2.1 = true ∧ m' 340 (48 * t + 4 * c0 + 2) = (R0.length : Int) + (cl.1.length : Int)))) → Inv X S m' → GX X m' → m' 339 t ≤ m' 336 8 → (∀ p : Int, m' 341 p = m0 341 p) → m' 336 14 = m0 336 14 → (∀ p : Int, p < 48 * t + 4 * c0 → m' 340 p = m0 340 p) → (∀ j : Int, j < 400 * t + m0 339 t → m' 338 j = m0 338 j) → m0 339 t ≤ m' 339 t → m0 336 8 ≤ m' 336 8 → (0 ≤ m' 340 (48 * t + 4 * c0) ∧ m' 340 (48 * t + 4 * c0) ≤ m' 340 (48 * t + 4 * c0 + 1) ∧ m' 340 (48 * t + 4 * c0 + 1) ≤ m' 339 t ∧ pth m' t (m' 340 (48 * t + 4 * c0 + 1) - m' 340 (48 * t + 4 * c0)).toNat (m' 340 (48 * t + 4 * c0)) 0 1) → (m' 340 (48 * t + 4 * c0 + 2) < 0 ∨ (0 ≤ m' 340 (48 * t + 4 * c0 + 2) ∧ m' 340 (48 * t + 4 * c0 + 2) ≤ m' 339 t ∧ pth m' t (m' 339 t - m' 340 (48 * t + 4 * c0 + 2)).toNat (m' 340 (48 * t + 4 * c0 + 2)) 0 1)) → wp_X12_isTurnHere_110 S K 336 (48 * t + 4 * c0) m' := by
    intro m' cl lx hty hE hm' g' h8 h41 h14 h40 h38 hl h88 hA hB
    have t' : m' 336 11 = t := g'.1.trans ht.symm
    refine u_X12_isTurnHere_110 ?_
    refine g_getr 5 340 rfl hS.k336 hm'.f_336_5 (by decide) ?_
    refine g_C ?_
    refine g_A (by omega) (by omega) ?_
    refine g_getr 4 339 rfl hS.k336 hm'.f_336_4 (by decide) ?_
    refine g_getu 11 rfl hS.k336 (fun v ev => ?_)
    refine g_ldu hS.k339 hS.l339 (by omega) (by omega) (fun l el => ?_)
    rw [ev, t'] at el
    have hw1 : Inv X S (up m' 340 (48 * t + 4 * c0 + 3) l) := hm'.wA (1, 0) (by decide) (by decide +kernel) (okb_n rfl) (nsp 3 (by decide)) (by decide) (by decide)
    refine g_st hS.k340 hS.l340 (by omega) (by omega) hw1 (fun m1 e1 hm1 => ?_)
    have f1 : ∀ c p : Int, ¬ (c = 340 ∧ p = 48 * t + 4 * c0 + 3) → m1 c p = m' c p := fun c p q => (congrFun (congrFun e1 _) _).trans (up_ne q)
    have x1 : m1 340 (48 * t + 4 * c0 + 3) = l := (congrFun (congrFun e1 _) _).trans (up_at _ _ _ _)
    refine g_getr 6 341 rfl hS.k336 hm1.f_336_6 (by decide) ?_
    refine g_getu 11 rfl hS.k336 (fun v2 ev2 => ?_)
    rw [f1 336 11 (by omega), t'] at ev2
    refine g_ldu hS.k341 hS.l341 (by omega) (by omega) (fun c ec => ?_)
    rw [f1 341 _ (by omega), h41, ev2, ← hc0] at ec
    refine g_C ?_
    refine g_A (by omega) (by omega) ?_
    have hw2 : Inv X S (up m1 341 v2 (c + 1)) := hm1.wA (0, 12) (by decide) (by decide +kernel) (Or.inr ⟨by show (0 : Int) ≤ c + 1; omega, by show c + 1 ≤ 12; omega⟩) (by omega) (by decide) (by decide)
    refine g_st hS.k341 hS.l341 (by omega) (by omega) hw2 (fun m2 e2 hm2 => ?_)
    have f2 : ∀ c p : Int, ¬ (c = 341 ∧ p = v2) → m2 c p = m1 c p := fun c p q => (congrFun (congrFun e2 _) _).trans (up_ne q)
    have x2 : m2 341 v2 = c + 1 := (congrFun (congrFun e2 _) _).trans (up_at _ _ _ _)
    rw [ev2] at x2
    have F : ∀ c p : Int, ¬ (c = 341 ∧ p = t) ∧ ¬ (c = 340 ∧ p = 48 * t + 4 * c0 + 3) → m2 c p = m' c p := fun c p q => (f2 c p (by omega)).trans (f1 c p (by omega))
    have e39 : m2 339 t = m' 339 t := F 339 t (by omega)
    have y1 : m2 340 (48 * t + 4 * c0 + 3) = m' 339 t := by rw [f2 _ _ (by omega), x1, el]
    have lm : m' 339 t = (R0.length : Int) + (cl.1.length : Int) + (cl.2.2.length : Int) := by
      have z := lx.2.2.2.len (by rw [t']; omega)
      rw [t'] at z
      rw [z]
      show (((R0 ++ (cl.1 ++ cl.2.2)).length : Nat) : Int) = _
      rw [List.length_append, List.length_append]
      omega
    have en2 : Ent m2 t c0 (R0.length : Int) cl := by
      obtain ⟨E1, E2, E3⟩ := hE
      refine ⟨(F _ _ (by omega)).trans E1, (F _ _ (by omega)).trans E2, ?_⟩
      rcases E3 with ⟨a1, a2, a3⟩ | ⟨a1, a2⟩
      · exact Or.inl ⟨a1, a2, (F _ _ (by omega)).trans a3⟩
      · exact Or.inr ⟨a1, (F _ _ (by omega)).trans a2, by rw [y1]; exact lm⟩
    refine g_C ⟨by decide, hk m2 cl hm2 ?_ (by rw [F 336 8 (by omega)]; omega) (by rw [F 336 14 (by omega)]; exact h14) (lx.eq (fun c p z => F c p (by omega)) (F 336 8 (by omega)) (F 336 12 (by omega)) (F 336 9 (by omega))) hty en2 (fun p hp => (F 340 p (by omega)).trans (h40 p hp)) (by rw [x2, ec])⟩
    unfold Rl
    rw [← ht]
    refine ⟨⟨(F 336 11 (by omega)).trans g'.1, g'.2⟩, by rw [e39, F 336 8 (by omega)]; omega, by rw [x2, F 336 14 (by omega), h14]; omega, by rw [x2, F 336 14 (by omega), h14]; omega, fun i i0 i1 => ?_⟩
    rw [x2] at i1
    rw [e39]
    by_cases ei : i = c0
    · rw [ei]
      unfold Cl
      rw [y1, F 340 (48 * t + 4 * c0) (by omega), F 340 (48 * t + 4 * c0 + 1) (by omega), F 340 (48 * t + 4 * c0 + 2) (by omega)]
      obtain ⟨hA1, hA2, hA3, hA4⟩ := hA
      refine ⟨⟨hA1, hA2, hA3, pth_same _ _ _ _ (fun j _ _ => F 338 _ (by omega)) hA4⟩, ?_⟩
      rcases hB with hB | ⟨hB1, hB2, hB3⟩
      · exact Or.inl hB
      · exact Or.inr ⟨hB1, hB2, Int.le_refl _, pth_same _ _ _ _ (fun j _ _ => F 338 _ (by omega)) hB3⟩
    · have z : ∀ q : Int, 0 ≤ q → q ≤ 3 → m2 340 (48 * t + 4 * i + q) = m0 340 (48 * t + 4 * i + q) := fun q q0 q3 => (F 340 _ (by omega)).trans (h40 _ (by omega))
      have z0 : m2 340 (48 * t + 4 * i) = m0 340 (48 * t + 4 * i) := (F 340 _ (by omega)).trans (h40 _ (by omega))
      exact (rA i i0 (by omega)).same z0 (z 1 (by decide) (by decide)) (z 2 (by decide) (by decide)) (z 3 (by decide) (by decide)) (fun j q => (F 338 j (by omega)).trans (h38 j q)) hl
  refine u_X12_isTurnHere ?_
  refine ⟨hS.k336, ?_⟩
  have b80 := hm0.f_336_8
  have tls := tl_s
  have tws := tw_s
  have nb' := hR.2.1
  refine zx_passWord 6 hS hm0 hR rfl b80.1 (by decide) wk0 (fun m1 hm1 f1 ep1 rn1 => ?_)
  have y1 : m0 336 8 ≤ m1 336 8 := by omega
  have t1 : m1 336 11 = t := (f1 336 11 (by omega)).trans g1
  refine g_C ?_
  refine g_getu 11 rfl hS.k336 (fun v1 ev1 => ?_)
  refine g_M (by omega) (by omega) ?_
  refine g_C ?_
  refine g_getr 6 341 rfl hS.k336 hm1.f_336_6 (by decide) ?_
  refine g_getu 11 rfl hS.k336 (fun v2 ev2 => ?_)
  refine g_ldu hS.k341 hS.l341 (by omega) (by omega) (fun v3 ev3 => ?_)
  rw [ev2, t1, f1 341 _ (by omega), ← hc0] at ev3
  refine g_M (by omega) (by omega) ?_
  refine g_A (by omega) (by omega) ?_
  rw [show 48 * v1 + 4 * v3 = 48 * t + 4 * c0 by omega]
  refine g_getr 5 340 rfl hS.k336 hm1.f_336_5 (by decide) ?_
  refine g_getr 4 339 rfl hS.k336 hm1.f_336_4 (by decide) ?_
  refine g_getu 11 rfl hS.k336 (fun v4 ev4 => ?_)
  refine g_ldu hS.k339 hS.l339 (by omega) (by omega) (fun l1 el1 => ?_)
  rw [ev4, t1, f1 339 _ (by omega)] at el1
  have hw2 : Inv X S (up m1 340 (48 * t + 4 * c0) l1) := hm1.wA (1, 0) (by decide) (by decide +kernel) (okb_n rfl) (by omega) (by decide) (by decide)
  refine g_st hS.k340 hS.l340 (by omega) (by omega) hw2 (fun m2 e2 hm2 => ?_)
  have f2 : ∀ c p : Int, ¬ (c = 340 ∧ p = 48 * t + 4 * c0) → m2 c p = m1 c p := fun c p q => (congrFun (congrFun e2 _) _).trans (up_ne q)
  have x2 : m2 340 (48 * t + 4 * c0) = l1 := (congrFun (congrFun e2 _) _).trans (up_at _ _ _ _)
  have F2 : ∀ c p : Int, ¬ (c = 340 ∧ p = 48 * t + 4 * c0) ∧ ¬ (c = 336 ∧ p = 8) → m2 c p = m0 c p := fun c p q => (f2 c p (by omega)).trans (f1 c p (by omega))
  have t2 : m2 336 11 = t := (F2 336 11 (by omega)).trans g1
  have g2' : GX X m2 := ⟨t2.trans ht, by omega, by omega⟩
  have l2 : m2 339 t = m0 339 t := F2 339 t (by omega)
  have e82 : m2 336 8 = m1 336 8 := f2 336 8 (by omega)
  have i2 : Ina X m2 0 l1 0 := by
    refine ⟨g2', by decide, ⟨⟨by omega, by rw [t2, l2]; omega⟩, ?_⟩, by decide, (hm2.f_336_12).1, by rw [t2, l2]; omega⟩
    rw [t2, l2, el1, show (m0 339 t - m0 339 t).toNat = 0 by omega]
    rfl
  refine ⟨hS.k336, ?_⟩
  have lr2 : Lw tb tn T O0 R0 m2 1 [] [] [] kk [] := by
    refine ⟨fun f E hA => hl0 f E ?_, by rw [F2 336 9 (by omega)]; exact h90, by omega, ?_, rfl⟩
    · rw [show m2 336 8 = m0 336 8 + 4 by omega, F2 336 12 (by omega), List.append_nil] at hA
      exact hA
    · rw [List.append_nil]
      exact hrq.same (fun c p z => F2 c p (by omega))
  refine zv_sum hS hm2 hR i2 (Or.inl rfl) rfl lr2 (fun m3 hm3 n3 t3 => g_ifF (by decide) (g_C ⟨by decide, hf m3 hm3 n3 t3⟩)) (fun m3 hm3 o3 lr3 xn3 => ?_)
  obtain ⟨P3, W3, lw3, zu3⟩ := lr3
  have tys := lw3.2.2.2.2
  have ap3 := uW_app (v := 0) (w := 5) (by decide) P3
  rw [zu3] at ap3
  obtain ⟨sm, hsm⟩ : ∃ sm : List Int, sm = W3 ++ uW 5 P3 := ⟨_, rfl⟩
  have ew0 : W3 ++ uW 0 P3 = sm := by
    rw [hsm, ap3.1]
    show W3 ++ (uW 5 P3 ++ []) = _
    rw [List.append_nil]
  have er0 : uR 0 P3 = [] := ap3.2.symm
  obtain ⟨⟨A3, A3b, A3c⟩, q3, l3, n3, d3⟩ := o3
  obtain ⟨a31, a32, a33, a34, a35, a36, a37⟩ := A3
  rw [t2] at a32 a33 a34
  rw [l2] at a33 a34
  obtain ⟨⟨q31, q32⟩, q33⟩ := q3
  rw [a32] at q32 q33 l3
  refine g_ifT (by decide) ?_
  refine g_getr 5 340 rfl hS.k336 hm3.f_336_5 (by decide) ?_
  refine g_C ?_
  refine g_A (by omega) (by omega) ?_
  refine g_getr 4 339 rfl hS.k336 hm3.f_336_4 (by decide) ?_
  refine g_getu 11 rfl hS.k336 (fun v5 ev5 => ?_)
  refine g_ldu hS.k339 hS.l339 (by omega) (by omega) (fun l4 el4 => ?_)
  rw [ev5, a32] at el4
  have hw4 : Inv X S (up m3 340 (48 * t + 4 * c0 + 1) l4) := hm3.wA (1, 0) (by decide) (by decide +kernel) (okb_n rfl) (nsp 1 (by decide)) (by decide) (by decide)
  refine g_st hS.k340 hS.l340 (by omega) (by omega) hw4 (fun m4 e4 hm4 => ?_)
  have f4 : ∀ c p : Int, ¬ (c = 340 ∧ p = 48 * t + 4 * c0 + 1) → m4 c p = m3 c p := fun c p q => (congrFun (congrFun e4 _) _).trans (up_ne q)
  have x4 : m4 340 (48 * t + 4 * c0 + 1) = l4 := (congrFun (congrFun e4 _) _).trans (up_at _ _ _ _)
  refine g_getr 5 340 rfl hS.k336 hm4.f_336_5 (by decide) ?_
  refine g_C ?_
  refine g_A (by omega) (by omega) ?_
  refine g_C ?_
  have hw5 : Inv X S (up m4 340 (48 * t + 4 * c0 + 2) (-1)) := hm4.wA (1, 0) (by decide) (by decide +kernel) (okb_n rfl) (nsp 2 (by decide)) (by decide) (by decide)
  refine g_st hS.k340 hS.l340 (by omega) (by omega) hw5 (fun m5 e5 hm5 => ?_)
  have f5 : ∀ c p : Int, ¬ (c = 340 ∧ p = 48 * t + 4 * c0 + 2) → m5 c p = m4 c p := fun c p q => (congrFun (congrFun e5 _) _).trans (up_ne q)
  have x5 : m5 340 (48 * t + 4 * c0 + 2) = -1 := (congrFun (congrFun e5 _) _).trans (up_at _ _ _ _)
  have F5 : ∀ c p : Int, ¬ (c = 340 ∧ (p = 48 * t + 4 * c0 + 1 ∨ p = 48 * t + 4 * c0 + 2)) → m5 c p = m3 c p := fun c p q => (f5 c p (by omega)).trans (f4 c p (by omega))
  -- what holds of every memory from here on that only reads on
  have len3 : m3 339 t = (R0.length : Int) + (sm.length : Int) := by
    have z := lw3.2.2.2.1.len (by rw [a32]; omega)
    rw [a32, ← hsm] at z
    rw [z, List.length_append]
    omega
  have keep : ∀ (m' : Mm) (bb : Bool) (tt : List Int), Lx tb tn T O0 R0 m' 9 (cod1 (sm, bb, tt)) (row1 (sm, bb, tt)) kk → (bb = true → tyl tt = some [true]) → ((bb = false ∧ tt = [] ∧ m' 340 (48 * t + 4 * c0 + 2) = -1) ∨ (bb = true ∧ m' 340 (48 * t + 4 * c0 + 2) = (R0.length : Int) + (sm.length : Int))) → (∀ c p : Int, ¬ (c = 336 ∧ 8 ≤ p ∧ p ≤ 16) ∧ ¬ c = 338 ∧ ¬ c = 339 ∧ ¬ c = 343 ∧ ¬ (c = 340 ∧ p = 48 * t + 4 * c0 + 2) → m' c p = m5 c p) → m' 336 11 = t → m' 336 14 = m5 336 14 → (∀ j : Int, j < 400 * t + m3 339 t → m' 338 j = m3 338 j) → m3 339 t ≤ m' 339 t → m' 339 t ≤ m' 336 8 → m3 336 8 ≤ m' 336 8 → Inv X S m' → (m' 340 (48 * t + 4 * c0 + 2) < 0 ∨ (0 ≤ m' 340 (48 * t + 4 * c0 + 2) ∧ m' 340 (48 * t + 4 * c0 + 2) ≤ m' 339 t ∧ pth m' t (m' 339 t - m' 340 (48 * t + 4 * c0 + 2)).toNat (m' 340 (48 * t + 4 * c0 + 2)) 0 1)) → wp_X12_isTurnHere_110 S K 336 (48 * t + 4 * c0) m' := by
    intro m' bb tt lx hty hE hF ht' h14 h38 hl h8 h88 hm' hB
    have z0 : m' 340 (48 * t + 4 * c0) = l1 := by rw [hF _ _ (by omega), F5 _ _ (by omega), a31 _ _ (by omega), x2]
    have z1 : m' 340 (48 * t + 4 * c0 + 1) = m3 339 t := by rw [hF _ _ (by omega), f5 _ _ (by omega), x4, el4]
    refine fin m' (sm, bb, tt) lx ⟨by rw [hsm]; exact tys, hty⟩ ⟨by rw [z0]; omega, by rw [z1]; exact len3, hE⟩ hm' ⟨ht'.trans ht, by omega, by omega⟩ h8 (fun p => ?_) ?_ (fun p q => ?_) (fun j q => ?_) (by omega) (by omega) ?_ hB
    · rw [hF 341 p (by omega), F5 341 p (by omega), a31 341 p (by omega), F2 341 p (by omega)]
    · rw [h14, F5 336 14 (by omega), a37, F2 336 14 (by omega)]
    · rw [hF 340 p (by omega), F5 340 p (by omega), a31 340 p (by omega), F2 340 p (by omega)]
    · rw [h38 j (by omega), a33 j q, F2 338 j (by omega)]
    · rw [z0, z1]
      exact ⟨q31, q32, hl, pth_same _ _ _ _ (fun j _ _ => h38 _ (by omega)) q33⟩
  refine g_C ?_
  refine ⟨hS.k336, ?_⟩
  have e85 : m5 336 8 = m3 336 8 := F5 336 8 (by omega)
  have b85 := hm5.f_336_8
  have lr5 : Lw tb tn T O0 R0 m5 4 P3 W3 sm kk [false] := by
    rw [hsm]
    exact Lw.eq (M := m3) lw3 (fun c p z => F5 c p (by omega)) e85 (F5 336 12 (by omega)) (F5 336 9 (by omega))
  refine zx_takesWord 13 hS hm5 hR lr5.2.2.1 (by decide) pw13 (fun r6 q m6 hm6 f6 sk6 qn6 h6 => ?_)
  have sk61 := sk6.1
  have y6 : m5 336 8 ≤ m6 336 8 := by omega
  have na6 : ¬ (q < tn ∧ Ar (tb q)) := xn3 q (by rw [← e85]; exact sk6)
  have l6 : m6 339 t = m3 339 t := by rw [f6 339 t (by omega), F5 339 t (by omega)]
  have t6 : m6 336 11 = t := by rw [f6 336 11 (by omega), F5 336 11 (by omega), a32]
  refine g_if (fun w => ?_) (fun w => ?_)
  · have h60 : m6 336 8 = q ∧ ¬ Wk tb tn 13 q := by
      rcases h6 with z | z
      · exact z.2
      · exfalso; have := z.1; omega
    have x62 : m6 340 (48 * t + 4 * c0 + 2) = -1 := by rw [f6 340 _ (by omega), x5]
    have lx6 : Lx tb tn T O0 R0 m6 9 (cod1 (sm, false, [])) (row1 (sm, false, [])) kk := by
      refine ⟨fun f E hA => ?_, by rw [f6 336 9 (by omega)]; exact lr5.2.1, by omega, ?_⟩
      · rw [h60.1, f6 336 12 (by omega)] at hA
        by_cases ee : tn ≤ q ∨ tb q = 59
        · refine lr5.fault sk6 (tb_A0 (g_ifT ee ?_))
          rw [List.append_assoc O0, ew0, List.append_assoc O0]
          exact hA
        · obtain ⟨z1, z2⟩ := bcc9 hA sk6.idem ee
          rw [z1, z2]
          exact lr5.fault sk6 (tb_A0 (g_ifF ee (g_ifF (fun z => na6 ⟨by omega, z⟩) (g_ifF h60.2 ⟨rfl, rfl⟩))))
      · show RQ m6 (R0 ++ (sm ++ []))
        rw [List.append_nil]
        exact lr5.2.2.2.1.same (fun c p z => f6 c p (by omega))
    refine keep m6 false [] lx6 (fun z => by cases z) (Or.inl ⟨rfl, rfl, x62⟩) (fun c p q => f6 c p (by omega)) t6 (f6 336 14 (by omega)) (fun j _ => by rw [f6 338 j (by omega), F5 338 j (by omega)]) (by omega) (by omega) (by omega) hm6 (Or.inl ?_)
    rw [f6 340 _ (by omega), x5]
    decide
  · refine g_getr 5 340 rfl hS.k336 hm6.f_336_5 (by decide) ?_
    refine g_C ?_
    refine g_A (by omega) (by omega) ?_
    refine g_getr 4 339 rfl hS.k336 hm6.f_336_4 (by decide) ?_
    refine g_getu 11 rfl hS.k336 (fun v6 ev6 => ?_)
    refine g_ldu hS.k339 hS.l339 (by omega) (by omega) (fun l7 el7 => ?_)
    rw [ev6, t6] at el7
    have hw7 : Inv X S (up m6 340 (48 * t + 4 * c0 + 2) l7) := hm6.wA (1, 0) (by decide) (by decide +kernel) (okb_n rfl) (nsp 2 (by decide)) (by decide) (by decide)
    refine g_st hS.k340 hS.l340 (by omega) (by omega) hw7 (fun m7 e7 hm7 => ?_)
    have f7 : ∀ c p : Int, ¬ (c = 340 ∧ p = 48 * t + 4 * c0 + 2) → m7 c p = m6 c p := fun c p q => (congrFun (congrFun e7 _) _).trans (up_ne q)
    have x7 : m7 340 (48 * t + 4 * c0 + 2) = l7 := (congrFun (congrFun e7 _) _).trans (up_at _ _ _ _)
    have t7 : m7 336 11 = t := (f7 336 11 (by omega)).trans t6
    have l77 : m7 339 t = m3 339 t := (f7 339 t (by omega)).trans l6
    have e87 : m7 336 8 = m6 336 8 := f7 336 8 (by omega)
    refine ⟨hS.k336, ?_⟩
    have h61 : m6 336 8 = q + tl 13 ∧ Wk tb tn 13 q ∧ q + tl 13 ≤ tn := by
      rcases h6 with z | z
      · exfalso; have := z.1; omega
      · exact z.2
    have wn := wrd_no h61.2.1 (by decide)
    have wn1 := wn.1
    have wn2 := wn.2
    have h61a := h61.1
    have h61c := h61.2.2
    have rq7 : RQ m7 (R0 ++ sm ++ []) := by
      rw [List.append_nil]
      exact lr5.2.2.2.1.same (fun c p z => (f7 c p (by omega)).trans (f6 c p (by omega)))
    have lr7' : Lw tb tn T O0 R0 m7 8 [] sm sm kk [false] := lr5.to sk6 (p := q + 2) (c := m5 336 12) (by omega) (by rw [f7 336 12 (by omega), f6 336 12 (by omega)]) (by rw [f7 336 9 (by omega), f6 336 9 (by omega)]) (by omega) (fun f E hA => tb_A0 (g_ifF (by omega) (g_ifF (fun z => na6 ⟨wn1, z⟩) (g_ifT h61.2.1 (by rw [er0, List.append_assoc O0, ew0]; exact hA))))) (by rw [List.append_nil] at rq7; exact rq7) lr5.2.2.2.2
    have lr7 : Lw tb tn T (O0 ++ sm) (R0 ++ sm) m7 8 [] [] [] kk [] := ⟨fun f E hA => lr7'.1 f E (by rw [List.append_nil] at hA; exact hA), lr7'.2.1, lr7'.2.2.1, rq7, rfl⟩
    refine zv_tested hS hm7 hR ⟨t7.trans ht, by omega, by omega⟩ (by rw [t7, l77]; omega) lr7 (fun m8 hm8 n8 t8 => g_ifF (by decide) (g_C ⟨by decide, hf m8 hm8 n8 t8⟩)) (fun m8 s8 hm8 A8 q8 l8 lr8 => ?_)
    obtain ⟨a81, a82, a83, a84, a85, a86, a87⟩ := A8
    rw [t7] at a82 a83 a84 q8
    rw [l77] at a83 a84 q8
    obtain ⟨⟨q81, q82⟩, q83⟩ := q8
    rw [a82] at q82 q83 l8
    have x8 : m8 340 (48 * t + 4 * c0 + 2) = m3 339 t := by rw [a81 _ _ (by omega), x7]; omega
    refine g_ifT (by decide) ?_
    have lx8 : Lx tb tn T O0 R0 m8 9 (cod1 (sm, true, s8)) (row1 (sm, true, s8)) kk := by
      refine ⟨fun f E hA => lr8.1 f E ?_, lr8.2.1, lr8.2.2.1, ?_⟩
      · rw [List.append_assoc]
        exact hA
      · show RQ m8 (R0 ++ (sm ++ s8))
        rw [← List.append_assoc]
        exact lr8.2.2.2.1
    refine keep m8 true s8 lx8 (fun _ => lr8.2.2.2.2) (Or.inr ⟨rfl, by rw [x8]; exact len3⟩) (fun c p q => ?_) a82 ?_ (fun j q => ?_) a84 l8 (by omega) hm8 (Or.inr ?_)
    · rw [a81 c p (by omega), f7 c p (by omega), f6 c p (by omega)]
    · rw [a87, f7 336 14 (by omega), f6 336 14 (by omega)]
    · rw [a83 j q, f7 338 j (by omega), f6 338 j (by omega), F5 338 j (by omega)]
    · rw [x8]
      exact ⟨q81, q82, q83⟩
