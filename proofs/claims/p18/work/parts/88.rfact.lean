theorem pw6 : (1953854062 : Int) = pw 6 := by decide +kernel
theorem pw13 : (26982 : Int) = pw 13 := by decide +kernel
theorem pw14 : (7237492 : Int) = pw 14 := by decide +kernel
theorem pw15 : (6385252 : Int) = pw 15 := by decide +kernel
theorem pw16 : (28530 : Int) = pw 16 := by decide +kernel
theorem tl_s : tl 6 = 4 ∧ tl 13 = 2 ∧ tl 14 = 3 ∧ tl 15 = 3 ∧ tl 16 = 2 := by decide +kernel
theorem tw_s : tw 6 0 = 116 ∧ tw 13 0 = 105 ∧ tw 14 0 = 110 ∧ tw 15 0 = 97 ∧ tw 16 0 = 111 := by decide +kernel
theorem zs_fact {X : Mm} {S : Sh} {m0 : Mm} {K : Int → Mm → Prop} {b : Int} {tb : Int → Int} {tn kk : Int} {T : Int → Prop} {s0 : List Bool} (hS : Shp S) (hm0 : Inv X S m0) (hR : TR X tb tn) (ht : Ts X m0 0 b 0) (lr : Lr tb tn T m0 8 s0 kk) (rs0 : RS m0 s0) (hf : ∀ M1 : Mm, Inv X S M1 → T (M1 336 9) → ¬ M1 336 9 = 0 → K 0 M1) (hk : ∀ (M1 : Mm) (s' : List Bool), Inv X S M1 → Ts X M1 0 b 1 → Adv m0 M1 → m0 336 8 + 1 ≤ M1 336 8 → Lr tb tn T M1 6 s' kk → RS M1 s' → Nar tb tn M1 → K 1 M1) : wp_X12_fact S m0 336 K := by
  have nb' := hR.2.1
  refine u_X12_fact ?_
  refine g_C ?_
  have L : ∀ (n : Nat) (more : Int) (m : Mm) (s : List Bool), Inv X S m → Ts X m 0 b 0 → Adv m0 m → 0 ≤ more → more ≤ 1 → RS m s → (more = 1 → Lr tb tn T m 8 s kk) → (more = 0 → Lr tb tn T m 2 s kk) → 2 * (401 - m 336 8) + more + 1 ≤ (n : Int) → wp_X12_fact_2 S K n 336 more m := by
    intro n
    induction n with
    | zero =>
      intro more m s hm _ _ _ _ _ _ _ h
      have b8 := hm.f_336_8
      exfalso; omega
    | succ n ih =>
      intro more m s hm t A r0 r1 rs ll1 ll0 h
      have b8 := hm.f_336_8
      have b16 := hm.f_336_16
      have a8 : m0 336 8 ≤ m 336 8 := A.2.2.2.2.1
      refine u_X12_fact_2 ?_
      refine g_if (fun w => ?_) (fun w => ?_)
      · refine ⟨hS.k336, ?_⟩
        obtain ⟨g, hq, he, hn, hl, ho⟩ := id t
        have ii : Ina X m (m 336 16) b (nb m) := ⟨g, by omega, by rw [show nb m + 0 = nb m by omega] at hq; exact hq, nbf_nn _ _, by omega, by omega⟩
        refine zr_compare hS hm hR ii (ll0 w) (fun m1 hm1 n1 t1 => ⟨by decide, hf m1 hm1 n1 t1⟩) (fun m1 hm1 o1 lo xo => ⟨by decide, ?_⟩)
        obtain ⟨A1, q1, l1, p1, d1⟩ := o1
        obtain ⟨A1a, A1b, A1c, A1d⟩ := A1
        have e43 : m1 343 = m 343 := funext A1c
        have en : nb m1 = nb m := by unfold nb; rw [e43, A1b]
        refine hk m1 s hm1 ⟨g.adv A1a, by rw [en]; exact q1, by omega, by omega, by omega, fun j j0 j1 => ?_⟩ (A.trans A1a) (by omega) lo (rs.same A1c A1b A1d) xo
        rw [e43]
        exact ho j j0 (by omega)
      · have l := ll1 (by omega)
        refine g_C ?_
        refine ⟨hS.k336, ?_⟩
        refine zx_see hS hm hR l.2.2 (fun r1 q m1 hm1 f1 sk e1 qn y1 => ?_)
        have sk1 := sk.1
        have q0 : 0 ≤ q := by omega
        have c91 := u8_is hR (v := 91) q0 y1 (by decide) (by decide)
        obtain ⟨t1, A1⟩ := t.fr (m1 := m1) (fun c p q => f1 c p (by omega)) (by omega) (by rw [f1 336 12 (by omega)]; omega)
        have l1 : Lr tb tn T m1 8 s kk := l.at sk e1 (f1 336 12 (by omega)) (f1 336 9 (by omega)) qn
        have rs1 : RS m1 s := rs.same (fun p => f1 343 p (by omega)) (f1 336 16 (by omega)) (f1 336 13 (by omega))
        have i1 : Sk tb tn (m1 336 8) q := by rw [e1]; exact sk.idem
        refine g_C ?_
        refine ⟨hS.k336, ?_⟩
        refine zx_isWord 14 hS hm1 hR l1.2.2 (by decide) pw14 (fun q' m2 hm2 f2 sk2 e2 qn2 wk => ?_) (fun q' m2 hm2 f2 sk2 e2 qn2 wk => ?_)
        · have eq := i1.uniq sk2
          rw [← eq] at e2 wk
          obtain ⟨t2, A2⟩ := t1.fr (m1 := m2) (fun c p q => f2 c p (by omega)) (by omega) (by rw [f2 336 12 (by omega)]; omega)
          have l2 : Lr tb tn T m2 8 s kk := l1.at i1 e2 (f2 336 12 (by omega)) (f2 336 9 (by omega)) qn
          have rs2 : RS m2 s := rs1.same (fun p => f2 343 p (by omega)) (f2 336 16 (by omega)) (f2 336 13 (by omega))
          have i2 : Sk tb tn (m2 336 8) q := by rw [e2]; exact sk.idem
          have b162 := hm2.f_336_16
          have hl2 := t2.2.2.2.2.1
          have bl2 := t2.2.1.1
          have wn := wrd_no wk (by decide)
          have tls := tl_s.2.2.1
          have tws := tw_s.2.2.1
          have n91 : ¬ (q < tn ∧ tb q = 91) := fun z => by have := z.2; have := wn.2; omega
          refine g_ifF (by decide) ?_
          refine g_C ?_
          refine ⟨hS.k336, ?_⟩
          refine zs_opens hS hm2 (by omega) l2.2.1 rs2 (Or.inl rfl) (fun m3 hm3 len e9 => ?_) (fun m3 hm3 f3 o3 x3 nl _ r11 => ?_)
          · refine g_ifF (by decide) (g_C ⟨by decide, hf m3 hm3 ?_ (by omega)⟩)
            rw [e9, e2]
            exact l2.fault i2 (sp_O (g_ifF n91 (g_ifT wk (g_ifT len rfl))))
          · have e3 : m3 336 8 = m2 336 8 := f3 336 8 (by omega)
            refine g_ifT (by decide) ?_
            refine ⟨hS.k336, ?_⟩
            refine zx_passWord 14 hS hm3 hR (e3.trans e2) q0 (by decide) wk (fun m4 hm4 f4 e4 rn => ?_)
            obtain ⟨t4, A4⟩ := t2.pushop (m1 := m4) (k1 := 0) (e1 := 0) (s := 11) b162.1 (fun c p q => (f4 c p (by omega)).trans (f3 c p (by omega))) (by rw [f4 336 16 (by omega)]; exact o3) (by rw [f4 343 _ (by omega)]; exact x3) (by decide) (by omega) (by omega) (by decide) (by decide)
            refine g_C ?_
            refine u_X12_fact_72 ?_
            refine ih 1 m4 (false :: s) hm4 t4 (((A.trans A1).trans A2).trans A4) (by decide) (by decide) ((r11 rfl).same (fun p => f4 343 p (by omega)) (f4 336 16 (by omega)) (f4 336 13 (by omega))) (fun _ => ?_) (fun z => absurd z (by decide)) (by omega)
            exact l2.to i2 (p := q + 3) (c := m2 336 12) (by omega) (by rw [f4 336 12 (by omega), f3 336 12 (by omega)]) (by rw [f4 336 9 (by omega), f3 336 9 (by omega)]) (by omega) (fun f hA => sp_O (g_ifF n91 (g_ifT wk (g_ifF nl hA))))
        · have eq := i1.uniq sk2
          rw [← eq] at e2 wk
          obtain ⟨t2, A2⟩ := t1.fr (m1 := m2) (fun c p q => f2 c p (by omega)) (by omega) (by rw [f2 336 12 (by omega)]; omega)
          have l2 : Lr tb tn T m2 8 s kk := l1.at i1 e2 (f2 336 12 (by omega)) (f2 336 9 (by omega)) qn
          have rs2 : RS m2 s := rs1.same (fun p => f2 343 p (by omega)) (f2 336 16 (by omega)) (f2 336 13 (by omega))
          have i2 : Sk tb tn (m2 336 8) q := by rw [e2]; exact sk.idem
          have b162 := hm2.f_336_16
          have hl2 := t2.2.2.2.2.1
          have bl2 := t2.2.1.1
          refine g_ifT rfl ?_
          refine g_C ?_
          refine g_if (fun w3 => ?_) (fun w3 => ?_)
          · have n91 : ¬ (q < tn ∧ tb q = 91) := fun z => by have := c91.2 z; omega
            refine u_X12_fact_72 ?_
            refine ih 0 m2 s hm2 t2 ((A.trans A1).trans A2) (by decide) (by decide) rs2 (fun z => absurd z (by decide)) (fun _ => ?_) (by omega)
            exact l2.to i2 (p := q) (c := m2 336 12) e2 rfl rfl qn (fun f hA => sp_O (g_ifF n91 (g_ifF wk hA)))
          · have y91 := c91.1 (by omega)
            have lt91 := y91.1
            refine g_C ?_
            refine ⟨hS.k336, ?_⟩
            refine zs_opens hS hm2 (by omega) l2.2.1 rs2 (Or.inr rfl) (fun m3 hm3 len e9 => ?_) (fun m3 hm3 f3 o3 x3 nl r91 _ => ?_)
            · refine g_ifF (by decide) (g_C ⟨by decide, hf m3 hm3 ?_ (by omega)⟩)
              rw [e9, e2]
              exact l2.fault i2 (sp_O (g_ifT y91 (g_ifT len rfl)))
            · have e3 : m3 336 8 = m2 336 8 := f3 336 8 (by omega)
              refine g_ifT (by decide) ?_
              refine g_getu 8 rfl hS.k336 (fun v ev => ?_)
              refine g_C ?_
              refine g_A (by omega) (by omega) ?_
              refine g_put 8 rfl hS.k336 (hm3.w_336_8 (by omega) (by omega)) (fun m4 e4 hm4 => ?_)
              have f4 : ∀ c p : Int, ¬ (c = 336 ∧ p = 8) → m4 c p = m3 c p := fun c p q => (congrFun (congrFun e4 _) _).trans (up_ne q)
              have x4 : m4 336 8 = v + 1 := (congrFun (congrFun e4 _) _).trans (up_at _ _ _ _)
              obtain ⟨t4, A4⟩ := t2.pushop (m1 := m4) (k1 := 0) (e1 := 0) (s := 91) b162.1 (fun c p q => (f4 c p (by omega)).trans (f3 c p (by omega))) (by rw [f4 336 16 (by omega)]; exact o3) (by rw [f4 343 _ (by omega)]; exact x3) (by decide) (by omega) (by omega) (by decide) (by decide)
              refine g_C ?_
              refine u_X12_fact_72 ?_
              refine ih 1 m4 (true :: s) hm4 t4 (((A.trans A1).trans A2).trans A4) (by decide) (by decide) ((r91 rfl).same (fun p => f4 343 p (by omega)) (f4 336 16 (by omega)) (f4 336 13 (by omega))) (fun _ => ?_) (fun z => absurd z (by decide)) (by omega)
              exact l2.to i2 (p := q + 1) (c := m2 336 12) (by omega) (by rw [f4 336 12 (by omega), f3 336 12 (by omega)]) (by rw [f4 336 9 (by omega), f3 336 9 (by omega)]) (by omega) (fun f hA => sp_O (g_ifT y91 (g_ifF nl hA)))
  have b8 := hm0.f_336_8
  exact ⟨804, L 804 1 m0 s0 hm0 ht (Adv.rfl' m0) (by decide) (by decide) rs0 (fun _ => lr) (fun z => absurd z (by decide)) (by omega)⟩
theorem sp_B {b : Int → Int} {n mo q c k f : Int} {st : List Bool} (hmo : mo = 6 ∨ mo = 7) (n93 : ¬ (q < n ∧ b q = 93 ∧ true ∈ st)) (ne : ¬ (¬ true ∈ st ∧ (n ≤ q ∨ b q = 59))) (na : mo = 6 → ¬ (q < n ∧ Ar (b q))) (h : stB b n (Acc b n) q c st k f) : stp b n (Acc b n) mo q c st k f := by
  rcases hmo with e | e
  · subst e
    exact sp_A2 (g_ifF n93 (g_ifF ne (g_ifF (na rfl) h)))
  · subst e
    exact sp_A3 (g_ifF n93 (g_ifF ne h))
theorem sp_B9 {b : Int → Int} {n mo q c k f : Int} {st : List Bool} (hmo : mo = 6 ∨ mo = 7) (n93 : ¬ (q < n ∧ b q = 93 ∧ true ∈ st)) (ye : ¬ true ∈ st ∧ (n ≤ q ∨ b q = 59)) (h : Acc b n 9 q c st k f) : stp b n (Acc b n) mo q c st k f := by
  rcases hmo with e | e
  · subst e
    exact sp_A2 (g_ifF n93 (g_ifT ye h))
  · subst e
    exact sp_A3 (g_ifF n93 (g_ifT ye h))
theorem sp_B7 {b : Int → Int} {n mo q c k f : Int} {st : List Bool} (hmo : mo = 6 ∨ mo = 7) (y93 : q < n ∧ b q = 93 ∧ true ∈ st) (h : Acc b n 7 (q + 1) c (clos st) k f) : stp b n (Acc b n) mo q c st k f := by
  rcases hmo with e | e
  · subst e
    exact sp_A2 (g_ifT y93 h)
  · subst e
    exact sp_A3 (g_ifT y93 h)
theorem acc9 {b : Int → Int} {n p q c k f : Int} {st : List Bool} (h : Acc b n 9 p c st k f) (hs : Sk b n p q) (hn : ¬ (n ≤ q ∨ b q = 59)) : f = 1 + 8 * q := by
  obtain ⟨N, h⟩ := h
  cases N with
  | zero => exact h.elim
  | succ N =>
    obtain ⟨q', h1, h2⟩ := h
    rw [← hs.uniq h1] at h2
    have h3 := ((((((h2.2 (by decide)).2 (by decide)).2 (by decide)).2 (by decide)).2 (by decide)).2 (by decide)).2 (by decide)
    exact (h3.2 (by omega)).2 (by omega)
theorem mem_drop (s : List Bool) : true ∈ dropN s ↔ true ∈ s := by
  rw [cnt_mem, cnt_mem, dropN_cnt]
/-- behind a fact, its closing brackets read -/
def Tl (b : Int → Int) (n : Int) (T : Int → Prop) (M : Mm) (mo : Int) (s : List Bool) (k : Int) : Prop := Lr b n T M mo s k ∧ RS M (dropN s) ∧ Top M ∧ (mo = 6 ∨ mo = 7) ∧ (mo = 6 → Nar b n M) ∧ Sk b n (M 336 8) (M 336 8) ∧ ¬ (M 336 8 < n ∧ b (M 336 8) = 93 ∧ true ∈ s)
theorem Tl.same {b : Int → Int} {n mo k : Int} {T : Int → Prop} {M M1 : Mm} {s : List Bool} (h : Tl b n T M mo s k) (e8 : M1 336 8 = M 336 8) (f : ∀ c p : Int, ¬ (c = 336 ∧ p = 8) → M1 c p = M c p) : Tl b n T M1 mo s k := by
  obtain ⟨h1, h2, h3, h4, h5, h6, h7⟩ := h
  refine ⟨h1.eq e8 (f 336 12 (by omega)) (f 336 9 (by omega)), h2.same (fun p => f 343 p (by omega)) (f 336 16 (by omega)) (f 336 13 (by omega)), h3.same (fun p => f 343 p (by omega)) (f 336 16 (by omega)), h4, fun z q hq => h5 z q ?_, ?_, ?_⟩
  · rw [e8] at hq; exact hq
  · rw [e8]; exact h6
  · rw [e8]; exact h7
