theorem zv_readsAll {X : Mm} {S : Sh} {m0 : Mm} {K : Int → Mm → Prop} {tb : Int → Int} {tn : Int} {T : Int → List Int → Prop} (hS : Shp S) (hm0 : Inv X S m0) (hR : TR X tb tn) (g0 : GX X m0) (h41 : m0 341 (X 336 2) = 0) (hT : ∀ (f : Int) (E : List Int), Bcc tb tn 0 0 0 [] [] 0 f E → T f E) (hf : ∀ M9 : Mm, Inv X S M9 → T (M9 336 9) [] → ¬ M9 336 9 = 0 → K 0 (up M9 336 1 0)) (hk : ∀ (M9 : Mm) (Cs : List Cz), Inv X S M9 → Rl X M9 0 → T 0 (codC Cs) → RQ M9 (rowC Cs) → Tbl M9 (X 336 2) 0 0 Cs → M9 341 (X 336 2) = (Cs.length : Int) → M9 336 9 = 0 → K 1 (up M9 336 1 0)) : wp_X12_readsAll S m0 336 K := by
  have nb' := hR.2.1
  obtain ⟨ga, gb, gc⟩ := id g0
  have fin : ∀ m : Mm, Inv X S m → ((¬ m 336 9 = 0 ∧ T (m 336 9) []) ∨ (m 336 9 = 0 ∧ ∃ Cs : List Cz, Rl X m 0 ∧ T 0 (codC Cs) ∧ RQ m (rowC Cs) ∧ Tbl m (X 336 2) 0 0 Cs ∧ m 341 (X 336 2) = (Cs.length : Int))) → wp_X12_readsAll_88 S K 336 m := by
    intro m hm hp
    refine u_X12_readsAll_88 ?_
    refine g_C ?_
    refine g_putR 1 rfl hS.k336 (fun m1 e1 => ?_)
    subst e1
    refine g_getu 9 rfl hS.k336 (fun v ev => ?_)
    have e9 : v = m 336 9 := ev.trans (up_ne (by omega))
    rcases hp with ⟨h1, h2⟩ | ⟨h1, Cs, h2, h3, h4, h5, h6⟩
    · exact g_ifT (by omega) (g_C ⟨by decide, hf m hm h2 h1⟩)
    · exact g_ifF (by omega) (g_C ⟨by decide, hk m Cs hm h2 h3 h4 h5 h6 h1⟩)
  have L : ∀ (n : Nat) (u : Int) (m : Mm), Inv X S m → ((u = 0 ∧ (¬ m 336 9 = 0 ∧ T (m 336 9) []) ∧ 1 ≤ n) ∨ (u = 1 ∧ (Rl X m 0 ∧ ∃ Cs : List Cz, Tbl m (X 336 2) 0 0 Cs ∧ m 341 (X 336 2) = (Cs.length : Int) ∧ Lx tb tn T (codC Cs) (rowC Cs) m 9 [] [] (m 336 14)) ∧ 402 - m 336 8 ≤ (n : Int))) → wp_X12_readsAll_35 S K n 336 u m := by
    intro n
    induction n with
    | zero =>
      intro u m hm h
      have b8 := hm.f_336_8
      exfalso
      rcases h with h | h
      · exact absurd h.2.2 (by decide)
      · have := h.2.2; omega
    | succ n ih =>
      intro u m hm h
      refine u_X12_readsAll_35 ?_
      rcases h with ⟨h1, h2, h3⟩ | ⟨h1, ⟨h2, Cs, tb0, cn0, ls⟩, h3⟩
      · refine g_ifT h1 ?_
        refine u_X12_readsAll_66 ?_
        refine g_ifT h1 ?_
        exact fin m hm (Or.inl h2)
      · refine g_ifF (by omega) ?_
        have b80 := hm.f_336_8
        refine ⟨hS.k336, ?_⟩
        refine zx_see hS hm hR ls.2.2.1 (fun r1 q m1 hm1 f1 sk e1 qn y1 => ?_)
        have sk1 := sk.1
        have q0 : 0 ≤ q := by omega
        have p1 : Rl X m1 0 := h2.fr (fun c p q => f1 c p (by omega)) (by omega)
        have l1 : Lx tb tn T (codC Cs) (rowC Cs) m1 9 [] [] (m 336 14) := ls.at (fun c p z => f1 c p (by omega)) sk e1 (f1 336 12 (by omega)) (f1 336 9 (by omega)) qn
        have i1 : Sk tb tn (m1 336 8) q := by rw [e1]; exact sk.idem
        have c59 := u8_is hR (v := 59) q0 y1 (by decide) (by decide)
        refine g_C ?_
        refine g_if (fun w => ?_) (fun w => ?_)
        · have n59 : ¬ (q < tn ∧ tb q = 59) := fun z => by have := c59.2 z; omega
          refine u_X12_readsAll_66 ?_
          refine g_ifF (by omega) ?_
          refine ⟨hS.k336, ?_⟩
          refine zx_see hS hm1 hR l1.2.2.1 (fun r2 q2 m2 hm2 f2 sk2 e2 qn2 y2 => ?_)
          have eq := i1.uniq sk2
          rw [← eq] at e2 y2
          have p2 : Rl X m2 0 := p1.fr (fun c p q => f2 c p (by omega)) (by omega)
          have l2 : Lx tb tn T (codC Cs) (rowC Cs) m2 9 [] [] (m 336 14) := l1.at (fun c p z => f2 c p (by omega)) i1 e2 (f2 336 12 (by omega)) (f2 336 9 (by omega)) qn
          have i2 : Sk tb tn (m2 336 8) q := by rw [e2]; exact sk.idem
          have rr : r2 = -1 ↔ tn ≤ q := by
            rcases y2 with ⟨z1, z2⟩ | ⟨z1, z2⟩
            · have zb := hR.2.2 q q0 z1
              have zu := u8_r zb.2.1 zb.2.2
              exact ⟨fun y => by omega, fun y => by omega⟩
            · exact ⟨fun _ => z1, fun _ => z2⟩
          refine g_C ?_
          refine g_if (fun w2 => fin m2 hm2 (Or.inr ⟨l2.2.1, Cs, p2, l2.fault i2 (tb_E (g_ifT (rr.1 (by omega)) ⟨rfl, (List.append_nil _).symm⟩)), by have z := l2.2.2.2; rw [List.append_nil] at z; exact z, Tbl.same _ _ _ (fun p _ => (f2 340 p (by omega)).trans (f1 340 p (by omega))) tb0, by rw [f2 341 _ (by omega), f1 341 _ (by omega)]; exact cn0⟩)) (fun w2 => ?_)
          have nq : ¬ tn ≤ q := fun z => by have := rr.2 z; omega
          refine g_C ?_
          refine g_getu 8 rfl hS.k336 (fun v ev => ?_)
          rw [show v = q by omega]
          refine ⟨hS.k336, ?_⟩
          refine zx_fails hS hm2 l2.2.1 (by decide) (by decide) q0 (by omega) (fun m3 hm3 f3 e9 => ?_)
          refine fin m3 hm3 (Or.inl ⟨by omega, ?_⟩)
          rw [e9, show 1 + 8 * q + 0 = 1 + 8 * q by omega]
          exact l2.fault i2 (tb_E (g_ifF nq (g_ifF (fun z => n59 ⟨by omega, z⟩) ⟨rfl, rfl⟩)))
        · have y59 := c59.1 (by omega)
          have y59a := y59.1
          refine g_getu 8 rfl hS.k336 (fun v ev => ?_)
          refine g_C ?_
          refine g_A (by omega) (by omega) ?_
          refine g_put 8 rfl hS.k336 (hm1.w_336_8 (by omega) (by omega)) (fun m2 e2 hm2 => ?_)
          have f2 : ∀ c p : Int, ¬ (c = 336 ∧ p = 8) → m2 c p = m1 c p := fun c p q => (congrFun (congrFun e2 _) _).trans (up_ne q)
          have x2 : m2 336 8 = v + 1 := (congrFun (congrFun e2 _) _).trans (up_at _ _ _ _)
          have p2 : Rl X m2 0 := p1.fr (fun c p q => f2 c p (by omega)) (by omega)
          have k2 : m2 336 14 = m 336 14 := by rw [f2 336 14 (by omega), f1 336 14 (by omega)]
          have l2 : Lx tb tn T (codC Cs) (rowC Cs) m2 0 [] [] (m2 336 14) := by
            rw [k2]
            exact l1.to i1 (p := q + 1) (c := m1 336 12) (by omega) (f2 336 12 (by omega)) (f2 336 9 (by omega)) (by omega) (fun f E hA => tb_E (g_ifF (by omega) (g_ifT y59.2 hA))) (l1.2.2.2.same (fun c p z => f2 c p (by omega)))
          refine ⟨hS.k336, ?_⟩
          refine zv_clauseR hS hm2 hR p2 (Tbl.same _ _ _ (fun p _ => (f2 340 p (by omega)).trans (f1 340 p (by omega))) tb0) (by rw [f2 341 _ (by omega), f1 341 _ (by omega)]; exact cn0) l2 (fun m3 hm3 n3 t3 => ?_) (fun m3 s3 hm3 p3 y3 tb3 cn3 l3 => ?_)
          · exact ih 0 m3 hm3 (Or.inl ⟨rfl, ⟨t3, n3⟩, by omega⟩)
          · exact ih 1 m3 hm3 (Or.inr ⟨rfl, ⟨p3, s3, tb3, cn3, l3⟩, by omega⟩)
  refine u_X12_readsAll ?_
  refine g_getr 4 339 rfl hS.k336 hm0.f_336_4 (by decide) ?_
  refine g_getu 11 rfl hS.k336 (fun t et => ?_)
  refine g_C ?_
  refine g_st hS.k339 hS.l339 (by omega) (by omega) (hm0.wa_339 (by omega) (by omega) (by omega) (by omega)) (fun m1 e1 hm1 => ?_)
  refine g_C ?_
  refine g_put 14 rfl hS.k336 (hm1.w_336_14 (by omega) (by omega)) (fun m2 e2 hm2 => ?_)
  refine g_C ?_
  refine g_put 8 rfl hS.k336 (hm2.w_336_8 (by omega) (by omega)) (fun m3 e3 hm3 => ?_)
  refine g_C ?_
  refine g_put 9 rfl hS.k336 (hm3.w_336_9 (by omega) (by omega)) (fun m4 e4 hm4 => ?_)
  refine g_C ?_
  refine g_put 12 rfl hS.k336 (hm4.w_336_12 (by omega) (by omega)) (fun m5 e5 hm5 => ?_)
  have f1 : ∀ c p : Int, ¬ (c = 339 ∧ p = t) → m1 c p = m0 c p := fun c p q => (congrFun (congrFun e1 _) _).trans (up_ne q)
  have x1 : m1 339 t = 0 := (congrFun (congrFun e1 _) _).trans (up_at _ _ _ _)
  have f2 : ∀ c p : Int, ¬ (c = 336 ∧ p = 14) → m2 c p = m1 c p := fun c p q => (congrFun (congrFun e2 _) _).trans (up_ne q)
  have x2 : m2 336 14 = 0 := (congrFun (congrFun e2 _) _).trans (up_at _ _ _ _)
  have f3 : ∀ c p : Int, ¬ (c = 336 ∧ p = 8) → m3 c p = m2 c p := fun c p q => (congrFun (congrFun e3 _) _).trans (up_ne q)
  have x3 : m3 336 8 = 0 := (congrFun (congrFun e3 _) _).trans (up_at _ _ _ _)
  have f4 : ∀ c p : Int, ¬ (c = 336 ∧ p = 9) → m4 c p = m3 c p := fun c p q => (congrFun (congrFun e4 _) _).trans (up_ne q)
  have x4 : m4 336 9 = 0 := (congrFun (congrFun e4 _) _).trans (up_at _ _ _ _)
  have f5 : ∀ c p : Int, ¬ (c = 336 ∧ p = 12) → m5 c p = m4 c p := fun c p q => (congrFun (congrFun e5 _) _).trans (up_ne q)
  have x5 : m5 336 12 = 0 := (congrFun (congrFun e5 _) _).trans (up_at _ _ _ _)
  have F : ∀ c p : Int, ¬ (c = 336 ∧ (p = 14 ∨ p = 8 ∨ p = 9 ∨ p = 12)) → m5 c p = m1 c p := fun c p q => by rw [f5 c p (by omega), f4 c p (by omega), f3 c p (by omega), f2 c p (by omega)]
  have z14 : m5 336 14 = 0 := by rw [f5 336 14 (by omega), f4 336 14 (by omega), f3 336 14 (by omega), x2]
  have z8 : m5 336 8 = 0 := by rw [f5 336 8 (by omega), f4 336 8 (by omega), x3]
  have z9 : m5 336 9 = 0 := by rw [f5 336 9 (by omega), x4]
  have z11 : m5 336 11 = X 336 2 := by rw [F 336 11 (by omega), f1 336 11 (by omega)]; exact ga
  have z39 : m5 339 (X 336 2) = 0 := by rw [F 339 _ (by omega), show X 336 2 = t by omega, x1]
  have z41 : m5 341 (X 336 2) = 0 := by rw [F 341 _ (by omega), f1 341 _ (by omega)]; exact h41
  have r5 : Rl X m5 0 := ⟨⟨z11, gb, gc⟩, by omega, by omega, by omega, fun c c0 c1 => absurd c1 (by omega)⟩
  have rq5 : RQ m5 [] := by
    unfold RQ
    rw [z11, z39]
    rfl
  have l5 : Lx tb tn T (codC []) (rowC []) m5 0 [] [] (m5 336 14) := by
    refine ⟨fun f E hA => hT f E ?_, z9, by omega, rq5⟩
    rw [z8, x5, z14] at hA
    exact hA
  refine ⟨hS.k336, ?_⟩
  refine zv_clauseR hS hm5 hR r5 (Cs := []) trivial (by rw [z41]; rfl) l5 (fun m6 hm6 t6 n6 => ?_) (fun m6 s6 hm6 p6 y6 tb6 cn6 l6 => ?_)
  · exact ⟨402, L 402 0 m6 hm6 (Or.inl ⟨rfl, ⟨n6, t6⟩, by decide⟩)⟩
  · have b86 := hm6.f_336_8
    exact ⟨402, L 402 1 m6 hm6 (Or.inr ⟨rfl, ⟨p6, s6, tb6, cn6, l6⟩, by omega⟩)⟩
