theorem zr_term {X : Mm} {S : Sh} {m0 : Mm} {K : Int → Mm → Prop} {k b d : Int} {tb : Int → Int} {tn mo kk : Int} {T : Int → Prop} {st : List Bool} (hS : Shp S) (hm0 : Inv X S m0) (ht : TR X tb tn) (hi : Ina X m0 k b d) (hmo : mo = 1 ∨ mo = 2 ∨ mo = 3) (lr : Lr tb tn T m0 mo st kk) (hf : ∀ M1 : Mm, Inv X S M1 → T (M1 336 9) → ¬ M1 336 9 = 0 → K 0 M1) (hk : ∀ M1 : Mm, Inv X S M1 → Out m0 M1 k b d → Lr tb tn T M1 (mo + 3) st kk → Ntm tb tn M1 → K 1 M1) : wp_X12_term S m0 336 K := by
  have hk0 := hi.2.1
  have nb' := ht.2.1
  refine u_X12_term ?_
  refine ⟨hS.k336, ?_⟩
  refine zr_value hS hm0 ht hi hmo lr (fun m1 hm1 n1 t1 => ?_) (fun m1 hm1 o1 l1 => ?_)
  · exact g_ifF (by decide) (g_C ⟨by decide, hf m1 hm1 n1 t1⟩)
  · refine g_ifT (by decide) ?_
    have L : ∀ (n : Nat) (m : Mm), Inv X S m → Out m0 m k b d → Lr tb tn T m (mo + 3) st kk → 401 - m 336 8 ≤ (n : Int) → wp_X12_term_9 S K n 336 m := by
      intro n
      induction n with
      | zero =>
        intro m hm _ _ h
        have b8 := hm.f_336_8
        exfalso; omega
      | succ n ih =>
        intro m hm o l h
        have go : ∀ m' : Mm, Inv X S m' → Out m0 m' k b d → Lr tb tn T m' (mo + 3) st kk → Sk tb tn (m' 336 8) (m' 336 8) → m' 336 8 < tn → Ar (tb (m' 336 8)) → m 336 8 ≤ m' 336 8 → wp_X12_term_36 S (fun a0 M => wp_X12_term_9 S K n a0 M) K 336 m' := by
          intro m' hm' o' l' sk' h1 ha h2
          have b8 := hm'.f_336_8
          have b1 := ht.n hm'
          have op : ∀ s : Int, 2 ≤ s → s ≤ 15 → ¬ s = 11 → wp_X12_term_74 S (fun a0 M => wp_X12_term_9 S K n a0 M) K 336 s m' := by
            intro s s0 s1 s2
            refine u_X12_term_74 ?_
            refine g_get 8 (0) (400) rfl hS.k336 hm'.f_336_8 (fun v ev bv cv => ?_)
            refine g_C ?_
            refine g_A (by omega) (by omega) ?_
            refine g_put 8 rfl hS.k336 (hm'.w_336_8 (by omega) (by omega)) (fun m2 e2 hm2 => ?_)
            have x2 : m2 336 8 = v + 1 := (congrFun (congrFun e2 _) _).trans (up_at _ _ _ _)
            have f2 : ∀ c p : Int, ¬ (c = 336 ∧ p = 8) → m2 c p = m' c p := fun c p q => (congrFun (congrFun e2 _) _).trans (up_ne q)
            have i' := o'.ina hi
            obtain ⟨i2, A2⟩ := i'.fr (m1 := m2) (fun c p q => f2 c p (by omega)) (by omega) (by rw [f2 336 12 (by omega)]; omega)
            have i2' : Ina X m2 (k + 1) b (d + 1) := by
              obtain ⟨g, j0, jq, jd0, jd, jl⟩ := i2
              obtain ⟨g', j0', jq', jd0', jd', jl'⟩ := i'
              have l2 : m2 339 (m2 336 11) = m' 339 (m' 336 11) := by rw [f2 336 11 (by omega), f2 339 _ (by omega)]
              exact ⟨g, by omega, jq, jd0, jd, by omega⟩
            have lr2 : Lr tb tn T m2 mo st kk := l'.to sk' (p := m' 336 8 + 1) (c := m' 336 12) (by omega) (f2 336 12 (by omega)) (f2 336 9 (by omega)) (by omega) (fun f hA => sp_ar hmo h1 ha hA)
            refine ⟨hS.k336, ?_⟩
            refine zr_value hS hm2 ht i2' hmo lr2 (fun m3 hm3 n3 t3 => ?_) (fun m3 hm3 o3 l3 => ?_)
            · exact g_ifF (by decide) (g_C ⟨by decide, hf m3 hm3 n3 t3⟩)
            · refine g_ifT (by decide) ?_
              refine g_C ?_
              refine ⟨hS.k336, ?_⟩
              have b83 := hm3.f_336_8
              have ol := o3.2.2.1
              refine zp_puts hS hm3 ((i2'.1).adv o3.1.1) (by omega) s1 (by decide) (by decide) (by omega) (fun m4 hm4 f4 h4 s4 => ?_)
              obtain ⟨o4, n4⟩ := two_out hi o' A2 (by omega) o3 s0 s1 s2 f4 h4 s4
              have l4 : Lr tb tn T m4 (mo + 3) st kk := l3.eq (f4 336 8 (by omega)) (f4 336 12 (by omega)) (f4 336 9 (by omega))
              exact ih m4 hm4 o4 l4 (by omega)
          refine u_X12_term_36 ?_
          refine g_getr 0 337 rfl hS.k336 hm'.f_336_0 (by decide) ?_
          refine g_get 8 (0) (400) rfl hS.k336 hm'.f_336_8 (fun v ev bv cv => ?_)
          refine g_ldu hS.k337 hS.l337 (by omega) (by omega) (fun x ex => ?_)
          refine g_C ?_
          refine g_if (fun w => ?_) (fun w => g_C (op 4 (by decide) (by decide) (by decide)))
          refine g_getr 0 337 rfl hS.k336 hm'.f_336_0 (by decide) ?_
          refine g_get 8 (0) (400) rfl hS.k336 hm'.f_336_8 (fun v ev bv cv => ?_)
          refine g_ldu hS.k337 hS.l337 (by omega) (by omega) (fun x ex => ?_)
          refine g_C ?_
          refine g_if (fun w => ?_) (fun w => g_C (op 5 (by decide) (by decide) (by decide)))
          exact g_C (op 14 (by decide) (by decide) (by decide))
        refine u_X12_term_9 ?_
        refine ⟨hS.k336, ?_⟩
        refine zx_see hS hm ht l.2.2 (fun r1 q1 s1 hs1 f1 sk1 e1 qn1 y1 => ?_)
        have o1 : Out m0 s1 k b d := o.later (fun c p q => f1 c p (by omega)) (by have := sk1.1; omega) (by rw [f1 336 12 (by omega)]; omega)
        have l1 : Lr tb tn T s1 (mo + 3) st kk := l.at sk1 e1 (f1 336 12 (by omega)) (f1 336 9 (by omega)) qn1
        have i1 : Sk tb tn (s1 336 8) (s1 336 8) := by rw [e1]; exact sk1.idem
        have g1 := hm.f_336_8
        have c1 := u8_is ht (v := 42) (by have := sk1.1; omega) y1 (by decide) (by decide)
        have a1 : q1 < tn ∧ tb q1 = 42 → s1 336 8 < tn ∧ Ar (tb (s1 336 8)) := fun z => by rw [e1]; exact ⟨z.1, by unfold Ar; omega⟩
        refine g_C ?_
        refine g_if (fun w => go s1 hs1 o1 l1 i1 (a1 (c1.1 (by omega))).1 (a1 (c1.1 (by omega))).2 (by have := sk1.1; omega)) (fun w => ?_)
        refine ⟨hS.k336, ?_⟩
        refine zx_see hS hs1 ht l1.2.2 (fun r2 q2 s2 hs2 f2 sk2 e2 qn2 y2 => ?_)
        have o2 : Out m0 s2 k b d := o1.later (fun c p q => f2 c p (by omega)) (by have := sk2.1; omega) (by rw [f2 336 12 (by omega)]; omega)
        have l2 : Lr tb tn T s2 (mo + 3) st kk := l1.at sk2 e2 (f2 336 12 (by omega)) (f2 336 9 (by omega)) qn2
        have i2 : Sk tb tn (s2 336 8) (s2 336 8) := by rw [e2]; exact sk2.idem
        have g2 := hs1.f_336_8
        have c2 := u8_is ht (v := 47) (by have := sk2.1; omega) y2 (by decide) (by decide)
        have a2 : q2 < tn ∧ tb q2 = 47 → s2 336 8 < tn ∧ Ar (tb (s2 336 8)) := fun z => by rw [e2]; exact ⟨z.1, by unfold Ar; omega⟩
        refine g_C ?_
        refine g_if (fun w => go s2 hs2 o2 l2 i2 (a2 (c2.1 (by omega))).1 (a2 (c2.1 (by omega))).2 (by have := sk1.1; have := sk2.1; omega)) (fun w => ?_)
        refine ⟨hS.k336, ?_⟩
        refine zx_see hS hs2 ht l2.2.2 (fun r3 q3 s3 hs3 f3 sk3 e3 qn3 y3 => ?_)
        have o3 : Out m0 s3 k b d := o2.later (fun c p q => f3 c p (by omega)) (by have := sk3.1; omega) (by rw [f3 336 12 (by omega)]; omega)
        have l3 : Lr tb tn T s3 (mo + 3) st kk := l2.at sk3 e3 (f3 336 12 (by omega)) (f3 336 9 (by omega)) qn3
        have i3 : Sk tb tn (s3 336 8) (s3 336 8) := by rw [e3]; exact sk3.idem
        have g3 := hs2.f_336_8
        have c3 := u8_is ht (v := 37) (by have := sk3.1; omega) y3 (by decide) (by decide)
        have a3 : q3 < tn ∧ tb q3 = 37 → s3 336 8 < tn ∧ Ar (tb (s3 336 8)) := fun z => by rw [e3]; exact ⟨z.1, by unfold Ar; omega⟩
        refine g_C ?_
        refine g_if (fun w => g_C ⟨by decide, hk s3 hs3 o3 l3 ?_⟩) (fun w => go s3 hs3 o3 l3 i3 (a3 (c3.1 (by omega))).1 (a3 (c3.1 (by omega))).2 (by have := sk1.1; have := sk2.1; have := sk3.1; omega))
        intro q hq
        have u3 : q3 = q := (i3.uniq hq ▸ e3.symm)
        have u2 : q2 = q3 := e2.symm.trans (i2.uniq sk3)
        have u1 : q1 = q2 := e1.symm.trans (i1.uniq sk2)
        have v1 : ¬ (q1 < tn ∧ tb q1 = 42) := fun z => by have := c1.2 z; omega
        have v2 : ¬ (q2 < tn ∧ tb q2 = 47) := fun z => by have := c2.2 z; omega
        have v3 : ¬ (q3 < tn ∧ tb q3 = 37) := fun z => by have := c3.2 z; omega
        rw [u1, u2, u3] at v1
        rw [u2, u3] at v2
        rw [u3] at v3
        omega
    have b8 := hm1.f_336_8
    exact ⟨401, L 401 m1 hm1 o1 l1 (by omega)⟩
theorem zr_sum {X : Mm} {S : Sh} {m0 : Mm} {K : Int → Mm → Prop} {k b d : Int} {tb : Int → Int} {tn mo kk : Int} {T : Int → Prop} {st : List Bool} (hS : Shp S) (hm0 : Inv X S m0) (ht : TR X tb tn) (hi : Ina X m0 k b d) (hmo : mo = 1 ∨ mo = 2 ∨ mo = 3) (lr : Lr tb tn T m0 mo st kk) (hf : ∀ M1 : Mm, Inv X S M1 → T (M1 336 9) → ¬ M1 336 9 = 0 → K 0 M1) (hk : ∀ M1 : Mm, Inv X S M1 → Out m0 M1 k b d → Lr tb tn T M1 (mo + 3) st kk → Nar tb tn M1 → K 1 M1) : wp_X12_sum S m0 336 K := by
  have hk0 := hi.2.1
  have nb' := ht.2.1
  refine u_X12_sum ?_
  refine ⟨hS.k336, ?_⟩
  refine zr_term hS hm0 ht hi hmo lr (fun m1 hm1 n1 t1 => ?_) (fun m1 hm1 o1 l1 x1 => ?_)
  · exact g_ifF (by decide) (g_C ⟨by decide, hf m1 hm1 n1 t1⟩)
  · refine g_ifT (by decide) ?_
    have L : ∀ (n : Nat) (m : Mm), Inv X S m → Out m0 m k b d → Lr tb tn T m (mo + 3) st kk → Ntm tb tn m → 401 - m 336 8 ≤ (n : Int) → wp_X12_sum_9 S K n 336 m := by
      intro n
      induction n with
      | zero =>
        intro m hm _ _ _ h
        have b8 := hm.f_336_8
        exfalso; omega
      | succ n ih =>
        intro m hm o l x h
        have go : ∀ m' : Mm, Inv X S m' → Out m0 m' k b d → Lr tb tn T m' (mo + 3) st kk → Sk tb tn (m' 336 8) (m' 336 8) → m' 336 8 < tn → Ar (tb (m' 336 8)) → m 336 8 ≤ m' 336 8 → wp_X12_sum_27 S (fun a0 M => wp_X12_sum_9 S K n a0 M) K 336 m' := by
          intro m' hm' o' l' sk' h1 ha h2
          have b8 := hm'.f_336_8
          have b1 := ht.n hm'
          have op : ∀ s : Int, 2 ≤ s → s ≤ 15 → ¬ s = 11 → wp_X12_sum_46 S (fun a0 M => wp_X12_sum_9 S K n a0 M) K 336 s m' := by
            intro s s0 s1 s2
            refine u_X12_sum_46 ?_
            refine g_get 8 (0) (400) rfl hS.k336 hm'.f_336_8 (fun v ev bv cv => ?_)
            refine g_C ?_
            refine g_A (by omega) (by omega) ?_
            refine g_put 8 rfl hS.k336 (hm'.w_336_8 (by omega) (by omega)) (fun m2 e2 hm2 => ?_)
            have x2 : m2 336 8 = v + 1 := (congrFun (congrFun e2 _) _).trans (up_at _ _ _ _)
            have f2 : ∀ c p : Int, ¬ (c = 336 ∧ p = 8) → m2 c p = m' c p := fun c p q => (congrFun (congrFun e2 _) _).trans (up_ne q)
            have i' := o'.ina hi
            obtain ⟨i2, A2⟩ := i'.fr (m1 := m2) (fun c p q => f2 c p (by omega)) (by omega) (by rw [f2 336 12 (by omega)]; omega)
            have i2' : Ina X m2 (k + 1) b (d + 1) := by
              obtain ⟨g, j0, jq, jd0, jd, jl⟩ := i2
              obtain ⟨g', j0', jq', jd0', jd', jl'⟩ := i'
              have l2 : m2 339 (m2 336 11) = m' 339 (m' 336 11) := by rw [f2 336 11 (by omega), f2 339 _ (by omega)]
              exact ⟨g, by omega, jq, jd0, jd, by omega⟩
            have lr2 : Lr tb tn T m2 mo st kk := l'.to sk' (p := m' 336 8 + 1) (c := m' 336 12) (by omega) (f2 336 12 (by omega)) (f2 336 9 (by omega)) (by omega) (fun f hA => sp_ar hmo h1 ha hA)
            refine ⟨hS.k336, ?_⟩
            refine zr_term hS hm2 ht i2' hmo lr2 (fun m3 hm3 n3 t3 => ?_) (fun m3 hm3 o3 l3 x3 => ?_)
            · exact g_ifF (by decide) (g_C ⟨by decide, hf m3 hm3 n3 t3⟩)
            · refine g_ifT (by decide) ?_
              refine g_C ?_
              refine ⟨hS.k336, ?_⟩
              have b83 := hm3.f_336_8
              have ol := o3.2.2.1
              refine zp_puts hS hm3 ((i2'.1).adv o3.1.1) (by omega) s1 (by decide) (by decide) (by omega) (fun m4 hm4 f4 h4 s4 => ?_)
              obtain ⟨o4, n4⟩ := two_out hi o' A2 (by omega) o3 s0 s1 s2 f4 h4 s4
              have l4 : Lr tb tn T m4 (mo + 3) st kk := l3.eq (f4 336 8 (by omega)) (f4 336 12 (by omega)) (f4 336 9 (by omega))
              exact ih m4 hm4 o4 l4 (fun q hq => x3 q (by rw [f4 336 8 (by omega)] at hq; exact hq)) (by omega)
          refine u_X12_sum_27 ?_
          refine g_getr 0 337 rfl hS.k336 hm'.f_336_0 (by decide) ?_
          refine g_get 8 (0) (400) rfl hS.k336 hm'.f_336_8 (fun v ev bv cv => ?_)
          refine g_ldu hS.k337 hS.l337 (by omega) (by omega) (fun x ex => ?_)
          refine g_C ?_
          refine g_if (fun w => ?_) (fun w => g_C (op 2 (by decide) (by decide) (by decide)))
          exact g_C (op 3 (by decide) (by decide) (by decide))
        refine u_X12_sum_9 ?_
        refine ⟨hS.k336, ?_⟩
        refine zx_see hS hm ht l.2.2 (fun r1 q1 s1 hs1 f1 sk1 e1 qn1 y1 => ?_)
        have o1 : Out m0 s1 k b d := o.later (fun c p q => f1 c p (by omega)) (by have := sk1.1; omega) (by rw [f1 336 12 (by omega)]; omega)
        have l1 : Lr tb tn T s1 (mo + 3) st kk := l.at sk1 e1 (f1 336 12 (by omega)) (f1 336 9 (by omega)) qn1
        have i1 : Sk tb tn (s1 336 8) (s1 336 8) := by rw [e1]; exact sk1.idem
        have g1 := hm.f_336_8
        have c1 := u8_is ht (v := 43) (by have := sk1.1; omega) y1 (by decide) (by decide)
        have a1 : q1 < tn ∧ tb q1 = 43 → s1 336 8 < tn ∧ Ar (tb (s1 336 8)) := fun z => by rw [e1]; exact ⟨z.1, by unfold Ar; omega⟩
        refine g_C ?_
        refine g_if (fun w => go s1 hs1 o1 l1 i1 (a1 (c1.1 (by omega))).1 (a1 (c1.1 (by omega))).2 (by have := sk1.1; omega)) (fun w => ?_)
        refine ⟨hS.k336, ?_⟩
        refine zx_see hS hs1 ht l1.2.2 (fun r2 q2 s2 hs2 f2 sk2 e2 qn2 y2 => ?_)
        have o2 : Out m0 s2 k b d := o1.later (fun c p q => f2 c p (by omega)) (by have := sk2.1; omega) (by rw [f2 336 12 (by omega)]; omega)
        have l2 : Lr tb tn T s2 (mo + 3) st kk := l1.at sk2 e2 (f2 336 12 (by omega)) (f2 336 9 (by omega)) qn2
        have i2 : Sk tb tn (s2 336 8) (s2 336 8) := by rw [e2]; exact sk2.idem
        have g2 := hs1.f_336_8
        have c2 := u8_is ht (v := 45) (by have := sk2.1; omega) y2 (by decide) (by decide)
        have a2 : q2 < tn ∧ tb q2 = 45 → s2 336 8 < tn ∧ Ar (tb (s2 336 8)) := fun z => by rw [e2]; exact ⟨z.1, by unfold Ar; omega⟩
        refine g_C ?_
        refine g_if (fun w => g_C ⟨by decide, hk s2 hs2 o2 l2 ?_⟩) (fun w => go s2 hs2 o2 l2 i2 (a2 (c2.1 (by omega))).1 (a2 (c2.1 (by omega))).2 (by have := sk1.1; have := sk2.1; omega))
        intro q hq
        have u2 : q2 = q := (i2.uniq hq ▸ e2.symm)
        have u1 : q1 = q2 := e1.symm.trans (i1.uniq sk2)
        have xx := x q1 sk1
        have v1 : ¬ (q1 < tn ∧ tb q1 = 43) := fun z => by have := c1.2 z; omega
        have v2 : ¬ (q2 < tn ∧ tb q2 = 45) := fun z => by have := c2.2 z; omega
        rw [u1, u2] at v1 xx
        rw [u2] at v2
        unfold Ar
        omega
    have b8 := hm1.f_336_8
    exact ⟨401, L 401 m1 hm1 o1 l1 x1 (by omega)⟩
