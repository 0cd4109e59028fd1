theorem zv_clauseR {X : Mm} {S : Sh} {m0 : Mm} {K : Int → Mm → Prop} {tb : Int → Int} {tn : Int} {T : Int → List Int → Prop} {Cs : List Cz} (hS : Shp S) (hm0 : Inv X S m0) (hR : TR X tb tn) (hr : Rl X m0 0) (tbl : Tbl m0 (X 336 2) 0 0 Cs) (cn : m0 341 (X 336 2) = (Cs.length : Int)) (lr : Lx tb tn T (codC Cs) (rowC Cs) m0 0 [] [] (m0 336 14)) (hf : ∀ M1 : Mm, Inv X S M1 → T (M1 336 9) [] → ¬ M1 336 9 = 0 → K 0 M1) (hk : ∀ (M1 : Mm) (Cs : List Cz), Inv X S M1 → Rl X M1 0 → m0 336 8 ≤ M1 336 8 → Tbl M1 (X 336 2) 0 0 Cs → M1 341 (X 336 2) = (Cs.length : Int) → Lx tb tn T (codC Cs) (rowC Cs) M1 9 [] [] (M1 336 14) → K 1 M1) : wp_X12_clauseHere S m0 336 K := by
  obtain ⟨kk, hkk⟩ : ∃ kk : Int, kk = m0 336 14 := ⟨_, rfl⟩
  rw [← hkk] at lr
  have b80 := hm0.f_336_8
  have nb' := hR.2.1
  refine u_X12_clauseHere ?_
  refine ⟨hS.k336, ?_⟩
  refine zx_see hS hm0 hR lr.2.2.1 (fun r1 q m1 hm1 f1 sk e1 qn y1 => ?_)
  have sk1 := sk.1
  have q0 : 0 ≤ q := by omega
  have r1' : Rl X m1 0 := hr.fr (fun c p q => f1 c p (by omega)) (by omega)
  have l1 : Lx tb tn T (codC Cs) (rowC Cs) m1 0 [] [] kk := lr.at (fun c p z => f1 c p (by omega)) sk e1 (f1 336 12 (by omega)) (f1 336 9 (by omega)) qn
  have i1 : Sk tb tn (m1 336 8) q := by rw [e1]; exact sk.idem
  obtain ⟨t1, t2, t3⟩ := id r1'.1
  refine g_getu 8 rfl hS.k336 (fun v ev => ?_)
  rw [show v = q by omega]
  refine g_getu 11 rfl hS.k336 (fun t et => ?_)
  refine g_C ?_
  refine g_ifT (by omega) ?_
  refine g_C ?_
  refine u_X12_clauseHere_24 ?_
  refine g_ifT rfl ?_
  refine g_C ?_
  refine ⟨hS.k336, ?_⟩
  refine zx_isWord 6 hS hm1 hR l1.2.2.1 (by decide) pw6 (fun q' m2 hm2 f2 sk2 e2 qn2 wk => ?_) (fun q' m2 hm2 f2 sk2 e2 qn2 wk => ?_)
  · have eq := i1.uniq sk2
    rw [← eq] at e2 wk
    have r2' : Rl X m2 0 := r1'.fr (fun c p q => f2 c p (by omega)) (by omega)
    have l2 : Lx tb tn T (codC Cs) (rowC Cs) m2 0 [] [] kk := l1.at (fun c p z => f2 c p (by omega)) i1 e2 (f2 336 12 (by omega)) (f2 336 9 (by omega)) qn
    have i2 : Sk tb tn (m2 336 8) q := by rw [e2]; exact sk.idem
    have k2 : m2 336 14 = kk := by rw [f2 336 14 (by omega), f1 336 14 (by omega), hkk]
    refine g_ifT (by decide) ?_
    refine u_X12_clauseHere_56 ?_
    refine g_getu 14 rfl hS.k336 (fun l el => ?_)
    refine g_ifT rfl ?_
    refine g_C ?_
    refine u_X12_clauseHere_71 ?_
    obtain ⟨g, ra, rb, rc, re⟩ := id r2'
    refine g_if (fun w2 => ?_) (fun w2 => ?_)
    · refine g_getu 14 rfl hS.k336 (fun l2' el2 => ?_)
      refine g_C ?_
      refine g_A (by omega) (by omega) ?_
      refine g_put 14 rfl hS.k336 (hm2.w_336_14 (by omega) (by omega)) (fun m3 e3 hm3 => ?_)
      have f3 : ∀ c p : Int, ¬ (c = 336 ∧ p = 14) → m3 c p = m2 c p := fun c p q => (congrFun (congrFun e3 _) _).trans (up_ne q)
      have x3 : m3 336 14 = l2' + 1 := (congrFun (congrFun e3 _) _).trans (up_at _ _ _ _)
      have e8 : m3 336 8 = m2 336 8 := f3 336 8 (by omega)
      have r3 : Rl X m3 1 := by
        refine ⟨⟨(f3 336 11 (by omega)).trans g.1, g.2⟩, ?_, ?_, ?_, fun i i0 i1 => ?_⟩
        · rw [f3 339 _ (by omega)]; omega
        · rw [f3 341 _ (by omega)]; omega
        · rw [f3 341 _ (by omega)]; omega
        · rw [f3 341 _ (by omega)] at i1
          exact (re i i0 i1).same (f3 340 _ (by omega)) (f3 340 _ (by omega)) (f3 340 _ (by omega)) (f3 340 _ (by omega)) (fun j _ => f3 338 j (by omega)) (by rw [f3 339 _ (by omega)]; omega)
      refine g_ifT rfl ?_
      refine ⟨hS.k336, ?_⟩
      have rq3 : RQ m3 (rowC Cs) := by
        have z := l2.2.2.2
        rw [List.append_nil] at z
        exact z.same (fun c p z => f3 c p (by omega))
      have G : ∀ p : Int, m3 340 p = m0 340 p := fun p => by rw [f3 340 p (by omega), f2 340 p (by omega), f1 340 p (by omega)]
      have G1 : m3 341 (X 336 2) = m0 341 (X 336 2) := by rw [f3 341 _ (by omega), f2 341 _ (by omega), f1 341 _ (by omega)]
      refine zv_isTurnHere (kk := kk + 1) (T := T) (O0 := codC Cs) (R0 := rowC Cs) hS hm3 hR r3 (by rw [e8, e2]; exact wk) ((f3 336 9 (by omega)).trans l2.2.1) rq3 (fun f E hA => ?_) (fun m4 hm4 n4 t4 => ⟨by decide, hf m4 hm4 n4 t4⟩) (fun m4 cl hm4 r4 p4 k4 lx ty4 en4 fr4 c4 => ⟨by decide, ?_⟩)
      · rw [e8, e2, f3 336 12 (by omega)] at hA
        exact l2.fault i2 (tb_0 (g_ifT wk (g_ifF (by omega) (by rw [List.append_nil]; exact hA))))
      · have sn := codC_snoc Cs cl
        rw [G1, cn] at en4 fr4 c4
        have t4 : Tbl m4 (X 336 2) 0 0 Cs := Tbl.same _ _ _ (fun p hp => (fr4 p (by omega)).trans (G p)) tbl
        refine hk m4 (Cs ++ [cl]) hm4 r4 (by omega) (Tbl.snoc _ _ _ _ t4 ty4 (by rw [Int.zero_add, Int.zero_add]; exact en4)) (by rw [c4, List.length_append]; rfl) ?_
        rw [show m4 336 14 = kk + 1 by omega, sn.1, sn.2]
        exact ⟨fun f E hA => lx.1 f E (by rw [List.append_nil] at hA; exact hA), lx.2.1, lx.2.2.1, by rw [List.append_nil]; exact lx.2.2.2⟩
    · refine g_C ?_
      refine ⟨hS.k336, ?_⟩
      refine zx_fails hS hm2 l2.2.1 (by decide) (by decide) q0 (by omega) (fun m3 hm3 f3 e9 => ?_)
      refine ⟨by decide, hf m3 hm3 ?_ (by omega)⟩
      rw [e9, show 1 + 8 * q + 4 = 5 + 8 * q by omega]
      exact l2.fault i2 (tb_0 (g_ifT wk (g_ifT (by omega) ⟨rfl, rfl⟩)))
  · have eq := i1.uniq sk2
    rw [← eq] at e2 wk
    have l2 : Lx tb tn T (codC Cs) (rowC Cs) m2 0 [] [] kk := l1.at (fun c p z => f2 c p (by omega)) i1 e2 (f2 336 12 (by omega)) (f2 336 9 (by omega)) qn
    have i2 : Sk tb tn (m2 336 8) q := by rw [e2]; exact sk.idem
    refine g_ifF (by decide) ?_
    refine u_X12_clauseHere_49 ?_
    refine g_C ?_
    refine ⟨hS.k336, ?_⟩
    refine zx_fails hS hm2 l2.2.1 (by decide) (by decide) q0 (by omega) (fun m3 hm3 f3 e9 => ?_)
    refine ⟨by decide, hf m3 hm3 ?_ (by omega)⟩
    rw [e9, show 1 + 8 * q + 0 = 1 + 8 * q by omega]
    exact l2.fault i2 (tb_0 (g_ifF wk ⟨rfl, rfl⟩))
