theorem zr_compare {X : Mm} {S : Sh} {m0 : Mm} {K : Int → Mm → Prop} {k b d : Int} {tb : Int → Int} {tn kk : Int} {T : Int → Prop} {st : List Bool} (hS : Shp S) (hm0 : Inv X S m0) (ht : TR X tb tn) (hi : Ina X m0 k b d) (lr : Lr tb tn T m0 2 st kk) (hf : ∀ M1 : Mm, Inv X S M1 → T (M1 336 9) → ¬ M1 336 9 = 0 → K 0 M1) (hk : ∀ M1 : Mm, Inv X S M1 → Out m0 M1 k b d → Lr tb tn T M1 6 st kk → Nar tb tn M1 → K 1 M1) : wp_X12_compare S m0 336 K := by
  have hk0 := hi.2.1
  have nb' := ht.2.1
  refine u_X12_compare ?_
  refine ⟨hS.k336, ?_⟩
  refine zr_sum hS hm0 ht hi (Or.inr (Or.inl rfl)) lr (fun m1 hm1 n1 t1 => ?_) (fun m1 hm1 o1 l1' x1 => ?_)
  · exact g_ifF (by decide) (g_C ⟨by decide, hf m1 hm1 n1 t1⟩)
  · refine g_ifT (by decide) ?_
    have l1 : Lr tb tn T m1 5 st kk := l1'
    have b81 := hm1.f_336_8
    refine ⟨hS.k336, ?_⟩
    refine zx_see hS hm1 ht l1.2.2 (fun r2 q m2 hm2 f2 sk e2 qn y2 => ?_)
    have q0 : 0 ≤ q := by have := sk.1; omega
    have o2 : Out m0 m2 k b d := o1.later (fun c p q => f2 c p (by omega)) (by have := sk.1; omega) (by rw [f2 336 12 (by omega)]; omega)
    have l2 : Lr tb tn T m2 5 st kk := l1.at sk e2 (f2 336 12 (by omega)) (f2 336 9 (by omega)) qn
    have s2 : Sk tb tn (m2 336 8) q := by rw [e2]; exact sk.idem
    have na : ¬ (q < tn ∧ Ar (tb q)) := x1 q sk
    have i2 := o2.ina hi
    have c60 := u8_is ht (v := 60) q0 y2 (by decide) (by decide)
    have c61 := u8_is ht (v := 61) q0 y2 (by decide) (by decide)
    have c62 := u8_is ht (v := 62) q0 y2 (by decide) (by decide)
    have b8 := hm2.f_336_8
    refine g_get 8 (0) (400) rfl hS.k336 hm2.f_336_8 (fun v ev bv cv => ?_)
    rw [show v = q by omega]
    have last : ∀ (m : Mm) (s : Int), Inv X S m → AdvS m2 m → m2 336 8 + 1 ≤ m 336 8 → Ina X m (k + 1) b (d + 1) → Lr tb tn T m 3 st kk → 0 ≤ s → s ≤ 4 → wp_X12_compare_152 S K 336 s m := by
      intro m s hm A h8 i l s0 s1
      refine u_X12_compare_152 ?_
      refine ⟨hS.k336, ?_⟩
      refine zr_sum hS hm ht i (Or.inr (Or.inr rfl)) l (fun m3 hm3 n3 t3 => ?_) (fun m3 hm3 o3 l3 x3 => ?_)
      · exact g_ifF (by decide) (g_C ⟨by decide, hf m3 hm3 n3 t3⟩)
      · refine g_ifT (by decide) ?_
        refine g_C ?_
        refine g_A (by omega) (by omega) ?_
        refine g_C ?_
        refine ⟨hS.k336, ?_⟩
        have b83 := hm3.f_336_8
        have ol := o3.2.2.1
        refine zp_puts hS hm3 ((i.1).adv o3.1.1) (by omega) (by omega) (by decide) (by decide) (by omega) (fun m4 hm4 f4 h4 s4 => ?_)
        obtain ⟨o4, n4⟩ := two_out hi o2 A h8 o3 (by omega) (by omega) (by omega) f4 h4 s4
        have l4 : Lr tb tn T m4 (3 + 3) st kk := l3.eq (f4 336 8 (by omega)) (f4 336 12 (by omega)) (f4 336 9 (by omega))
        exact g_C ⟨by decide, hk m4 hm4 o4 l4 (fun q hq => x3 q (by rw [f4 336 8 (by omega)] at hq; exact hq))⟩
    have mid : ∀ (m : Mm) (c f : Int), Inv X S m → AdvS m2 m → m2 336 8 + 1 ≤ m 336 8 → Ina X m (k + 1) b (d + 1) → q < tn → Cm (tb q) → m 336 12 = m2 336 12 → m 336 9 = m2 336 9 → m 336 8 ≤ tn → (∀ f c' : Int, Acc tb tn 3 (m 336 8) c' st kk f → wIf (¬ tb q = 61 ∧ q + 1 < tn ∧ tb (q + 1) = 61) (Acc tb tn 3 (q + 2) c' st kk f) (Acc tb tn 3 (q + 1) c' st kk f)) → wp_X12_compare_105 S K 336 c q f m := by
      intro m c f hm A h8 i hq hcm e12 e9 hn hst
      refine u_X12_compare_105 ?_
      refine ⟨hS.k336, ?_⟩
      refine zx_makes hS hm (e9.trans l2.2.1) q0 (by omega) (fun m3 hm3 f3 k3 n60 n59 => ?_) (fun m3 hm3 c6 e93 => ?_)
      · refine g_ifT (by decide) ?_
        obtain ⟨i3, A3⟩ := i.fr (m1 := m3) (fun c p q => f3 c p (by omega)) (by rw [f3 336 8 (by omega)]; omega) (by omega)
        have h83 : m2 336 8 + 1 ≤ m3 336 8 := by rw [f3 336 8 (by omega)]; omega
        have l3 : Lr tb tn T m3 3 st kk := l2.to s2 (p := m 336 8) (c := m2 336 12 + 1) (f3 336 8 (by omega)) (by omega) (by rw [f3 336 9 (by omega)]; exact e9) hn (fun f hA => sp_A1 (g_ifF na (g_ifT ⟨hq, hcm⟩ (g_ifF (by omega) (hst f _ hA)))))
        have go := fun s s0 s1 => last m3 s hm3 (A.trans A3) h83 i3 l3 s0 s1
        refine g_C ?_
        refine g_if (fun w2 => ?_) (fun w2 => ?_)
        · refine g_C ?_
          refine g_if (fun w3 => ?_) (fun w3 => ?_)
          · exact g_if (fun w4 => g_C (go 4 (by decide) (by decide))) (fun w4 => g_C (go 3 (by decide) (by decide)))
          · exact g_C (go 2 (by decide) (by decide))
        · exact g_if (fun w4 => g_C (go 0 (by decide) (by decide))) (fun w4 => g_C (go 1 (by decide) (by decide)))
      · refine g_ifF (by decide) (g_C ⟨by decide, hf m3 hm3 ?_ (by omega)⟩)
        rw [e93]
        exact l2.fault s2 (sp_A1 (g_ifF na (g_ifT ⟨hq, hcm⟩ (g_ifT (by omega) rfl))))
    have go : q < tn → Cm (tb q) → wp_X12_compare_44 S K 336 r2 q m2 := by
      intro hlt hcm
      refine u_X12_compare_44 ?_
      refine g_get 8 (0) (400) rfl hS.k336 hm2.f_336_8 (fun v2 ev2 bv2 cv2 => ?_)
      refine g_C ?_
      refine g_A (by omega) (by omega) ?_
      refine g_put 8 rfl hS.k336 (hm2.w_336_8 (by omega) (by omega)) (fun m3 e3 hm3 => ?_)
      have x3 : m3 336 8 = v2 + 1 := (congrFun (congrFun e3 _) _).trans (up_at _ _ _ _)
      have f3 : ∀ c p : Int, ¬ (c = 336 ∧ p = 8) → m3 c p = m2 c p := fun c p q => (congrFun (congrFun e3 _) _).trans (up_ne q)
      have x3q : m3 336 8 = q + 1 := by omega
      have n3 := ht.n hm3
      obtain ⟨i3, A3⟩ := i2.fr (m1 := m3) (fun c p q => f3 c p (by omega)) (by omega) (by rw [f3 336 12 (by omega)]; omega)
      have i3' : Ina X m3 (k + 1) b (d + 1) := by
        obtain ⟨g, j0, jq, jd0, jd, jl⟩ := i3
        obtain ⟨g', j0', jq', jd0', jd', jl'⟩ := i2
        have l2 : m3 339 (m3 336 11) = m2 339 (m2 336 11) := by rw [f3 336 11 (by omega), f3 339 _ (by omega)]
        exact ⟨g, by omega, jq, jd0, jd, by omega⟩
      have no : ¬ (¬ tb q = 61 ∧ q + 1 < tn ∧ tb (q + 1) = 61) → wp_X12_compare_89 S K 336 r2 q m3 := by
        intro hno
        refine u_X12_compare_89 ?_
        refine g_C ?_
        refine u_X12_compare_90 ?_
        refine g_ifT rfl ?_
        exact mid m3 r2 0 hm3 A3 (by omega) i3' hlt hcm (f3 336 12 (by omega)) (f3 336 9 (by omega)) (by omega) (fun f c' hA => g_ifF hno (by rw [x3q] at hA; exact hA))
      refine g_C ?_
      refine g_if (fun w => no (fun z => z.1 (c61.1 (by omega)).2)) (fun w => ?_)
      refine g_get 8 (0) (400) rfl hS.k336 hm3.f_336_8 (fun v4 ev4 bv4 cv4 => ?_)
      refine g_get 1 (0) (400) rfl hS.k336 hm3.f_336_1 (fun v5 ev5 bv5 cv5 => ?_)
      refine g_if (fun w => no (fun z => by have := z.2.1; omega)) (fun w => ?_)
      refine g_getr 0 337 rfl hS.k336 hm3.f_336_0 (by decide) ?_
      refine g_get 8 (0) (400) rfl hS.k336 hm3.f_336_8 (fun v6 ev6 bv6 cv6 => ?_)
      refine g_ldu hS.k337 hS.l337 (by omega) (by omega) (fun x ex => ?_)
      rw [show v6 = q + 1 by omega, ht.b hm3 (by omega) (by omega)] at ex
      refine g_C ?_
      refine g_if (fun w => no (fun z => by have := z.2.2; omega)) (fun w => ?_)
      refine g_C ?_
      refine u_X12_compare_90 ?_
      refine g_ifF (by decide) ?_
      refine g_get 8 (0) (400) rfl hS.k336 hm3.f_336_8 (fun v7 ev7 bv7 cv7 => ?_)
      refine g_C ?_
      refine g_A (by omega) (by omega) ?_
      refine g_put 8 rfl hS.k336 (hm3.w_336_8 (by omega) (by omega)) (fun m4 e4 hm4 => ?_)
      have x4 : m4 336 8 = v7 + 1 := (congrFun (congrFun e4 _) _).trans (up_at _ _ _ _)
      have f4 : ∀ c p : Int, ¬ (c = 336 ∧ p = 8) → m4 c p = m3 c p := fun c p q => (congrFun (congrFun e4 _) _).trans (up_ne q)
      have x4q : m4 336 8 = q + 2 := by omega
      have n61 : ¬ tb q = 61 := fun z => by have := c61.2 ⟨hlt, z⟩; omega
      obtain ⟨i4, A4⟩ := i3'.fr (m1 := m4) (fun c p q => f4 c p (by omega)) (by omega) (by rw [f4 336 12 (by omega)]; omega)
      exact mid m4 r2 1 hm4 (A3.trans A4) (by omega) i4 hlt hcm (by rw [f4 336 12 (by omega), f3 336 12 (by omega)]) (by rw [f4 336 9 (by omega), f3 336 9 (by omega)]) (by omega) (fun f c' hA => g_ifT ⟨n61, by omega, by omega⟩ (by rw [x4q] at hA; exact hA))
    have gc : ∀ w : Int, (w = 60 ∨ w = 61 ∨ w = 62) → (q < tn ∧ tb q = w) → wp_X12_compare_44 S K 336 r2 q m2 := fun w hw z => go z.1 (by unfold Cm; omega)
    refine g_C ?_
    refine g_if (fun w => gc 60 (by decide) (c60.1 (by omega))) (fun w => ?_)
    refine g_C ?_
    refine g_if (fun w => gc 61 (by decide) (c61.1 (by omega))) (fun w => ?_)
    refine g_C ?_
    refine g_if (fun w => gc 62 (by decide) (c62.1 (by omega))) (fun w => ?_)
    refine g_C ?_
    refine ⟨hS.k336, ?_⟩
    refine zx_fails hS hm2 l2.2.1 (by decide) (by decide) q0 (by omega) (fun m3 hm3 f3 e9 => ?_)
    refine ⟨by decide, hf m3 hm3 ?_ (by omega)⟩
    rw [e9, show 1 + 8 * q + 0 = 1 + 8 * q by omega]
    refine l2.fault s2 (sp_A1 (g_ifF na (g_ifF (fun z => ?_) rfl)))
    have z2 := z.2
    unfold Cm at z2
    rcases z2 with z2 | z2 | z2
    · have := c60.2 ⟨z.1, z2⟩; omega
    · have := c61.2 ⟨z.1, z2⟩; omega
    · have := c62.2 ⟨z.1, z2⟩; omega
