theorem zs_closes {X : Mm} {S : Sh} {m0 : Mm} {K : Mm → Prop} {b : Int} {tb : Int → Int} {tn kk : Int} {T : Int → Prop} {s0 : List Bool} (hS : Shp S) (hm0 : Inv X S m0) (hR : TR X tb tn) (ht : Ts X m0 0 b 1) (lr : Lr tb tn T m0 6 s0 kk) (rs0 : RS m0 s0) (na0 : Nar tb tn m0) (hk : ∀ (M1 : Mm) (mo : Int) (s : List Bool), Inv X S M1 → Ts X M1 0 b 1 → Adv m0 M1 → Tl tb tn T M1 mo s kk → K M1) : wp_X12_closes S m0 336 K := by
  have nb' := hR.2.1
  refine u_X12_closes ?_
  refine g_C ?_
  refine ⟨hS.k336, ?_⟩
  refine zs_settles hS hm0 ht (by decide) (by decide) (by decide) rs0 (fun m1 hm1 t1 A1 e18 e112 e19 rs1 tp1 _ => ?_)
  have L : ∀ (n : Nat) (m : Mm) (mo : Int) (s : List Bool), Inv X S m → Ts X m 0 b 1 → Adv m0 m → (mo = 6 ∨ mo = 7) → Lr tb tn T m mo s kk → RS m (dropN s) → Top m → (mo = 6 → Nar tb tn m) → 401 - m 336 8 ≤ (n : Int) → wp_X12_closes_5 S K n 336 m := by
    intro n
    induction n with
    | zero =>
      intro m mo s hm _ _ _ _ _ _ _ h
      have b8 := hm.f_336_8
      exfalso; omega
    | succ n ih =>
      intro m mo s hm t A hmo l rs tp na h
      have b8m := hm.f_336_8
      refine u_X12_closes_5 ?_
      refine ⟨hS.k336, ?_⟩
      refine zx_see hS hm hR l.2.2 (fun r2 q m2 hm2 f2 sk e2 qn y2 => ?_)
      have sk1 := sk.1
      have q0 : 0 ≤ q := by omega
      have c93 := u8_is hR (v := 93) q0 y2 (by decide) (by decide)
      obtain ⟨t2, A2⟩ := t.fr (m1 := m2) (fun c p q => f2 c p (by omega)) (by omega) (by rw [f2 336 12 (by omega)]; omega)
      have l2 : Lr tb tn T m2 mo s kk := l.at sk e2 (f2 336 12 (by omega)) (f2 336 9 (by omega)) qn
      have rs2 : RS m2 (dropN s) := rs.same (fun p => f2 343 p (by omega)) (f2 336 16 (by omega)) (f2 336 13 (by omega))
      have tp2 : Top m2 := tp.same (fun p => f2 343 p (by omega)) (f2 336 16 (by omega))
      have i2 : Sk tb tn (m2 336 8) q := by rw [e2]; exact sk.idem
      have na2 : mo = 6 → Nar tb tn m2 := fun z q' hq' => by
        have e := i2.uniq hq'
        rw [← e]
        exact na z q sk
      have out : ¬ (q < tn ∧ tb q = 93 ∧ true ∈ s) → K m2 := fun z => hk m2 mo s hm2 t2 (A.trans A2) ⟨l2, rs2, tp2, hmo, na2, by rw [e2]; exact sk.idem, by rw [e2]; exact z⟩
      refine g_C ?_
      refine g_if (fun w => out (fun z => by have := c93.2 ⟨z.1, z.2.1⟩; omega)) (fun w => ?_)
      have y93 := c93.1 (by omega)
      have lt93 := y93.1
      refine ⟨hS.k336, ?_⟩
      refine zo_isInside hS hm2 (fun j j0 j1 j2 => ?_) (fun hn => g_ifT rfl (out (fun z => ?_)))
      · have mem : true ∈ s := (mem_drop s).1 (rs2.in.2 ⟨j, j0, j1, j2⟩)
        refine g_ifF (by decide) ?_
        refine g_C ?_
        refine ⟨hS.k336, ?_⟩
        refine zs_settles hS hm2 t2 (by decide) (by decide) (by decide) rs2 (fun m3 hm3 t3 A3 e38 e312 e39 rs3 tp3 ex => ?_)
        rw [dropN_idem] at rs3
        obtain ⟨s1, hs1⟩ := drop_mem s mem
        obtain ⟨j', j0', j1', j2'⟩ := rs3.in.1 ((mem_drop s).2 mem)
        have top : m3 343 (m3 336 16 - 1) = 91 := (ex.resolve_left (by omega)).resolve_left (by decide)
        have b16 := hm3.f_336_16
        refine g_getu 16 rfl hS.k336 (fun v ev => ?_)
        refine g_C ?_
        refine g_S (by omega) (by omega) ?_
        refine g_put 16 rfl hS.k336 (hm3.w_336_16 (by omega) (by omega)) (fun m4 e4 hm4 => ?_)
        have f4 : ∀ c p : Int, ¬ (c = 336 ∧ p = 16) → m4 c p = m3 c p := fun c p q => (congrFun (congrFun e4 _) _).trans (up_ne q)
        have x4 : m4 336 16 = v - 1 := (congrFun (congrFun e4 _) _).trans (up_at _ _ _ _)
        have d3 := rs3.2.1
        have d3b := rs3.2.2.1
        rw [hs1, List.length_cons] at d3 d3b
        refine g_getu 13 rfl hS.k336 (fun v5 ev5 => ?_)
        rw [f4 336 13 (by omega)] at ev5
        refine g_C ?_
        refine g_S (by omega) (by omega) ?_
        refine g_put 13 rfl hS.k336 (hm4.w_336_13 (by omega) (by omega)) (fun m5 e5 hm5 => ?_)
        have f5 : ∀ c p : Int, ¬ (c = 336 ∧ p = 13) → m5 c p = m4 c p := fun c p q => (congrFun (congrFun e5 _) _).trans (up_ne q)
        have x5 : m5 336 13 = v5 - 1 := (congrFun (congrFun e5 _) _).trans (up_at _ _ _ _)
        refine g_getu 8 rfl hS.k336 (fun v6 ev6 => ?_)
        rw [f5 336 8 (by omega), f4 336 8 (by omega)] at ev6
        have b83 := hm3.f_336_8
        refine g_C ?_
        refine g_A (by omega) (by omega) ?_
        refine g_put 8 rfl hS.k336 (hm5.w_336_8 (by omega) (by omega)) (fun m6 e6 hm6 => ?_)
        have f6 : ∀ c p : Int, ¬ (c = 336 ∧ p = 8) → m6 c p = m5 c p := fun c p q => (congrFun (congrFun e6 _) _).trans (up_ne q)
        have x6 : m6 336 8 = v6 + 1 := (congrFun (congrFun e6 _) _).trans (up_at _ _ _ _)
        have F6 : ∀ c p : Int, ¬ (c = 336 ∧ (p = 16 ∨ p = 13 ∨ p = 8)) → m6 c p = m3 c p := fun c p q => by rw [f6 c p (by omega), f5 c p (by omega), f4 c p (by omega)]
        have o6 : m6 336 16 = m3 336 16 - 1 := by rw [f6 336 16 (by omega), f5 336 16 (by omega)]; omega
        have o13 : m6 336 13 = m3 336 13 - 1 := by rw [f6 336 13 (by omega)]; omega
        have A6 : Adv m3 m6 := Adv.of (fun c p q => F6 c p (by omega)) (by omega) (by rw [F6 336 12 (by omega)]; omega)
        obtain ⟨p1, p2, p3⟩ := rs3.pop (m1 := m6) (by omega) (fun p => F6 343 p (by omega)) o6
        rw [top, if_pos rfl, hs1] at p1
        have p1' : s1 = rsk (m6 343) (m6 336 16).toNat := by injection p1
        have rs6 : RS m6 s1 := ⟨p1'.symm, by omega, by omega, p2⟩
        have cl : clos s = s1 := clos_of s s1 hs1
        have l6 : Lr tb tn T m6 7 (clos s) kk := l2.to i2 (p := q + 1) (c := m2 336 12) (by omega) (by rw [F6 336 12 (by omega)]; exact e312) (by rw [F6 336 9 (by omega)]; exact e39) (by omega) (fun f hA => sp_B7 hmo ⟨y93.1, y93.2, mem⟩ hA)
        have t6 : Ts X m6 0 b 1 := by
          obtain ⟨g, hq, he, hn, hl, ho⟩ := t3
          have e43' : m6 343 = m3 343 := funext (fun p => F6 343 p (by omega))
          have en : nb m6 = nb m3 := by
            unfold nb
            rw [o6, e43', show m3 336 16 = m3 336 16 - 1 + 1 by omega, nbf_top (by omega), show m3 336 16 - 1 + 1 - 1 = m3 336 16 - 1 by omega, top, if_neg (by decide)]
            omega
          have el : m6 339 (m6 336 11) = m3 339 (m3 336 11) := by rw [F6 336 11 (by omega), F6 339 _ (by omega)]
          have e12 : m6 336 12 = m3 336 12 := F6 336 12 (by omega)
          refine ⟨g.adv A6, ?_, he, by omega, by omega, fun i i0 i1 => ?_⟩
          · rw [en]
            exact hq.same (fun p => F6 338 p (by omega)) (fun p => F6 339 p (by omega)) (F6 336 11 (by omega))
          · rw [e43']
            exact ho i i0 (by omega)
        refine g_C ?_
        refine ⟨hS.k336, ?_⟩
        refine zs_settles hS hm6 t6 (by decide) (by decide) (by decide) rs6 (fun m7 hm7 t7 A7 e87 e712 e79 rs7 tp7 _ => ?_)
        exact ih m7 7 (clos s) hm7 t7 ((((A.trans A2).trans A3).trans A6).trans A7) (Or.inr rfl) (l6.eq e87 e712 e79) (by rw [cl]; exact rs7) tp7 (fun z => absurd z (by decide)) (by omega)
      · obtain ⟨j, j0, j1, j2⟩ := rs2.in.1 ((mem_drop s).2 z.2.2)
        exact hn j j0 j1 j2
  have b8 := hm1.f_336_8
  exact ⟨401, L 401 m1 6 s0 hm1 t1 A1 (Or.inl rfl) (lr.eq e18 e112 e19) rs1 tp1 (fun _ q hq => na0 q (by rw [e18] at hq; exact hq)) (by omega)⟩
theorem zs_tested {X : Mm} {S : Sh} {m0 : Mm} {K : Int → Mm → Prop} {tb : Int → Int} {tn kk : Int} {T : Int → Prop} (hS : Shp S) (hm0 : Inv X S m0) (hR : TR X tb tn) (g0 : GX X m0) (hl0 : m0 339 (m0 336 11) ≤ m0 336 8) (lr0 : Lr tb tn T m0 8 [] kk) (hf : ∀ M1 : Mm, Inv X S M1 → T (M1 336 9) → ¬ M1 336 9 = 0 → K 0 M1) (hk : ∀ (M1 : Mm) (s : List Bool), Inv X S M1 → Adv m0 M1 → Qs M1 (m0 339 (m0 336 11)) 1 → M1 339 (M1 336 11) ≤ M1 336 8 → Lr tb tn T M1 9 s kk → K 1 M1) : wp_X12_tested S m0 336 K := by
  have nb' := hR.2.1
  have bl := hm0.a_339 (i := m0 336 11) (by have := g0.1; have := g0.2; omega) (by have := g0.1; have := g0.2; omega)
  refine u_X12_tested ?_
  refine g_C ?_
  refine g_put 16 rfl hS.k336 (hm0.w_336_16 (by omega) (by omega)) (fun m1 e1 hm1 => ?_)
  refine g_C ?_
  refine g_put 13 rfl hS.k336 (hm1.w_336_13 (by omega) (by omega)) (fun m2 e2 hm2 => ?_)
  have f1 : ∀ c p : Int, ¬ (c = 336 ∧ p = 16) → m1 c p = m0 c p := fun c p q => (congrFun (congrFun e1 _) _).trans (up_ne q)
  have x1 : m1 336 16 = 0 := (congrFun (congrFun e1 _) _).trans (up_at _ _ _ _)
  have f2 : ∀ c p : Int, ¬ (c = 336 ∧ p = 13) → m2 c p = m1 c p := fun c p q => (congrFun (congrFun e2 _) _).trans (up_ne q)
  have x2 : m2 336 16 = 0 := (f2 336 16 (by omega)).trans x1
  have x13 : m2 336 13 = 0 := (congrFun (congrFun e2 _) _).trans (up_at _ _ _ _)
  have F2 : ∀ c p : Int, ¬ (c = 336 ∧ (p = 16 ∨ p = 13)) → m2 c p = m0 c p := fun c p q => (f2 c p (by omega)).trans (f1 c p (by omega))
  have A2 : Adv m0 m2 := Adv.of (fun c p q => F2 c p (by omega)) (by rw [F2 336 8 (by omega)]; omega) (by rw [F2 336 12 (by omega)]; omega)
  have l2 : Lr tb tn T m2 8 [] kk := lr0.eq (F2 336 8 (by omega)) (F2 336 12 (by omega)) (F2 336 9 (by omega))
  have rs2 : RS m2 [] := by
    unfold RS
    rw [x2, x13]
    exact ⟨rfl, rfl, by decide, trivial⟩
  have t2 : Ts X m2 0 (m0 339 (m0 336 11)) 0 := by
    have en : nb m2 = 0 := by unfold nb; rw [x2]; rfl
    have el : m2 339 (m2 336 11) = m0 339 (m0 336 11) := by rw [F2 336 11 (by omega), F2 339 _ (by omega)]
    have e8 : m2 336 8 = m0 336 8 := F2 336 8 (by omega)
    have b12 := hm2.f_336_12
    refine ⟨g0.adv A2, ⟨⟨by omega, by omega⟩, ?_⟩, by decide, by omega, by omega, fun j j0 j1 => absurd j1 (by omega)⟩
    rw [el, en, show (m0 339 (m0 336 11) - m0 339 (m0 336 11)).toNat = 0 by omega]
    rfl
  refine g_C ?_
  have L : ∀ (n : Nat) (more : Int) (m : Mm) (mo : Int) (s : List Bool), Inv X S m → 0 ≤ more → more ≤ 1 → Ts X m 0 (m0 339 (m0 336 11)) (1 - more) → Adv m0 m → (more = 1 → Lr tb tn T m 8 s kk ∧ RS m s) → (more = 0 → Tl tb tn T m mo s kk ∧ ¬ Wk tb tn 15 (m 336 8) ∧ ¬ Wk tb tn 16 (m 336 8)) → 2 * (401 - m 336 8) + more + 1 ≤ (n : Int) → wp_X12_tested_12 S K n 336 more m := by
    intro n
    induction n with
    | zero =>
      intro more m mo s hm _ _ _ _ _ _ h
      have b8 := hm.f_336_8
      exfalso; omega
    | succ n ih =>
      intro more m mo s hm r0 r1 t A h1 h0 h
      refine u_X12_tested_12 ?_
      refine g_if (fun w => ?_) (fun w => ?_)
      · rw [w] at t
        have t' : Ts X m 0 (m0 339 (m0 336 11)) 1 := t
        obtain ⟨⟨l, rs, tp, hmo, na, sks, n93⟩, n15, n16⟩ := h0 w
        have b8m := hm.f_336_8
        have bad : ¬ (¬ true ∈ s ∧ (tn ≤ m 336 8 ∨ tb (m 336 8) = 59)) → T (1 + 8 * m 336 8) := fun z => l.fault sks (sp_B hmo n93 z (fun y => na y _ sks) (g_ifF n15 (g_ifF n16 rfl)))
        refine ⟨hS.k336, ?_⟩
        refine zo_isInside hS hm (fun j j0 j1 j2 => ?_) (fun hn => ?_)
        · have mem : true ∈ s := (mem_drop s).1 (rs.in.2 ⟨j, j0, j1, j2⟩)
          refine g_ifF (by decide) ?_
          refine ⟨hS.k336, ?_⟩
          refine zx_see hS hm hR l.2.2 (fun r2 q m2 hm2 f2 sk e2 qn y2 => ?_)
          have eq := sks.uniq sk
          refine g_C ?_
          refine g_getu 8 rfl hS.k336 (fun v ev => ?_)
          refine ⟨hS.k336, ?_⟩
          refine zx_fails hS hm2 ((f2 336 9 (by omega)).trans l.2.1) (by decide) (by decide) (by omega) (by omega) (fun m3 hm3 f3 e9 => ?_)
          refine ⟨by decide, hf m3 hm3 ?_ (by omega)⟩
          rw [e9, show 1 + 8 * v + 0 = 1 + 8 * m 336 8 by omega]
          exact bad (fun z => z.1 mem)
        · have nin : ¬ true ∈ s := fun z => by
            obtain ⟨j, j0, j1, j2⟩ := rs.in.1 ((mem_drop s).2 z)
            exact hn j j0 j1 j2
          refine g_ifT rfl ?_
          refine g_C ?_
          refine ⟨hS.k336, ?_⟩
          refine zs_settles hS hm t' (by decide) (by decide) (by decide) rs (fun m3 hm3 t3 A3 e8 e12 e9 rs3 tp3 ex => ?_)
          have b16 := hm3.f_336_16
          have z16 : m3 336 16 = 0 := by
            rcases ex with z | z | z
            · exact z
            · exact absurd rfl z
            · by_cases q : m3 336 16 = 0
              · exact q
              · refine absurd ((mem_drop s).1 ((mem_drop _).1 (rs3.in.2 ⟨m3 336 16 - 1, by omega, by omega, z⟩))) nin
          obtain ⟨g3, q3, d3, n3, l3, o3⟩ := t3
          have en : nb m3 = 0 := by unfold nb; rw [z16]; rfl
          rw [en] at q3
          refine g_C ⟨by decide, hk m3 s hm3 (A.trans A3) q3 (by omega) ⟨fun f hA => ?_, e9.trans l.2.1, by rw [e8]; exact l.2.2⟩⟩
          rw [e8, e12] at hA
          by_cases ee : tn ≤ m 336 8 ∨ tb (m 336 8) = 59
          · exact l.fault sks (sp_B9 hmo n93 ⟨nin, ee⟩ hA)
          · rw [acc9 hA sks ee]
            exact bad (fun z => ee z.2)
      · have w1 : more = 1 := by omega
        rw [w1] at t
        have t' : Ts X m 0 (m0 339 (m0 336 11)) 0 := t
        obtain ⟨lf, rf⟩ := h1 w1
        refine ⟨hS.k336, ?_⟩
        refine zs_fact hS hm hR t' lf rf (fun m1 hm1 n1 t1 => g_ifF (by decide) (g_C ⟨by decide, hf m1 hm1 n1 t1⟩)) (fun m1 s1 hm1 t1 A1 p1 la ra na1 => ?_)
        refine g_ifT (by decide) ?_
        refine ⟨hS.k336, ?_⟩
        refine zs_closes hS hm1 hR t1 la ra na1 (fun m2 mo s hm2 t2 A2 tl2 => ?_)
        have a82 : m1 336 8 ≤ m2 336 8 := A2.2.2.2.2.1
        have go : ∀ (op : Int) (k : Nat) (m' : Mm), ((op = 12 ∧ k = 15) ∨ (op = 13 ∧ k = 16 ∧ ¬ Wk tb tn 15 (m' 336 8))) → Inv X S m' → Ts X m' 0 (m0 339 (m0 336 11)) 1 → Adv m0 m' → m1 336 8 ≤ m' 336 8 → Tl tb tn T m' mo s kk → Wk tb tn k (m' 336 8) → wp_X12_tested_76 S (fun a0 a1 M => wp_X12_tested_12 S K n a0 a1 M) K 336 1 op m' := by
          intro op k m' hs hm' t'' A' p' tl' wk
          obtain ⟨l', rs', tp', hmo, na', sks, n93⟩ := tl'
          have b8' := hm'.f_336_8
          have k17 : k < 17 := by omega
          have tk := tl_r k k17
          have wn := wrd_no wk tk.1
          have tws := tw_s
          have tls := tl_s
          have nend : ¬ (¬ true ∈ s ∧ (tn ≤ m' 336 8 ∨ tb (m' 336 8) = 59)) := by
            intro z
            have z2 := z.2
            have wn2 := wn.2
            rcases hs with ⟨_, e⟩ | ⟨_, e, _⟩
            · rw [e] at wn2; omega
            · rw [e] at wn2; omega
          refine u_X12_tested_76 ?_
          refine ⟨hS.k336, ?_⟩
          refine zx_passWord k hS hm' hR rfl b8'.1 k17 wk (fun m4 hm4 f4 e4 rn => ?_)
          obtain ⟨t4, A4⟩ := t''.fr (m1 := m4) (fun c p q => f4 c p (by omega)) (by omega) (by rw [f4 336 12 (by omega)]; omega)
          have t4' : Ts X m4 1 (m0 339 (m0 336 11)) 1 := by
            refine t4.slack ?_
            have l0 := t''.2.2.2.2.1
            rw [f4 336 11 (by omega), f4 339 _ (by omega), f4 336 16 (by omega)]
            omega
          have rs4 : RS m4 (dropN s) := rs'.same (fun p => f4 343 p (by omega)) (f4 336 16 (by omega)) (f4 336 13 (by omega))
          refine zl_strength ?_
          have sc := strn_c op
          refine ⟨hS.k336, ?_⟩
          refine zs_settles hS hm4 t4' (by decide) (by omega) (by omega) rs4 (fun m5 hm5 t5 A5 e8 e12 e9 rs5 tp5 ex => ?_)
          rw [dropN_idem] at rs5
          have b16 := hm5.f_336_16
          have b85 := hm5.f_336_8
          have l5 := t5.2.2.2.2.1
          have bl5 := t5.2.1.1
          refine g_getr 15 343 rfl hS.k336 hm5.f_336_15 (by decide) ?_
          refine g_getu 16 rfl hS.k336 (fun v ev => ?_)
          refine g_st hS.k343 hS.l343 (by omega) (by omega) (hm5.wa_343 (by omega) (by omega)) (fun m6 e6 hm6 => ?_)
          have f6 : ∀ c p : Int, ¬ (c = 343 ∧ p = v) → m6 c p = m5 c p := fun c p q => (congrFun (congrFun e6 _) _).trans (up_ne q)
          have x6 : m6 343 v = op := (congrFun (congrFun e6 _) _).trans (up_at _ _ _ _)
          refine g_getu 16 rfl hS.k336 (fun v7 ev7 => ?_)
          rw [f6 336 16 (by omega)] at ev7
          refine g_C ?_
          refine g_A (by omega) (by omega) ?_
          refine g_put 16 rfl hS.k336 (hm6.w_336_16 (by omega) (by omega)) (fun m7 e7 hm7 => ?_)
          have f7 : ∀ c p : Int, ¬ (c = 336 ∧ p = 16) → m7 c p = m6 c p := fun c p q => (congrFun (congrFun e7 _) _).trans (up_ne q)
          have x7 : m7 336 16 = v7 + 1 := (congrFun (congrFun e7 _) _).trans (up_at _ _ _ _)
          have xo : m7 343 (m5 336 16) = op := by rw [f7 343 _ (by omega), ← ev]; exact x6
          have ops : op = 12 ∨ op = 13 := by omega
          obtain ⟨t7, A7⟩ := t5.pushop (m1 := m7) (k1 := 0) (e1 := 0) (s := op) b16.1 (fun c p q => (f7 c p (by omega)).trans (f6 c p (by omega))) (by omega) xo (by omega) (by rw [f7 336 8 (by omega), f6 336 8 (by omega)]; omega) (by rw [f7 336 8 (by omega), f6 336 8 (by omega)]; omega) (by rw [if_pos ops]; rfl) (by decide)
          have e87 : m7 336 8 = m5 336 8 := by rw [f7 336 8 (by omega), f6 336 8 (by omega)]
          obtain ⟨q1, q2⟩ := rs5.push (m1 := m7) (x := op) b16.1 (fun j j0 j1 => by rw [f7 343 j (by omega), f6 343 j (by omega)]) (by omega) xo
          rw [if_neg (by omega), if_neg (by omega)] at q1
          have rs7 : RS m7 (dropN s) := ⟨q1, by rw [f7 336 13 (by omega), f6 336 13 (by omega)]; exact rs5.2.1, rs5.2.2.1, q2 (fun _ => tp5)⟩
          have l7 : Lr tb tn T m7 8 (dropN s) kk := l'.to sks (p := m' 336 8 + tl k) (c := m' 336 12) (by omega) (by rw [f7 336 12 (by omega), f6 336 12 (by omega), e12, f4 336 12 (by omega)]) (by rw [f7 336 9 (by omega), f6 336 9 (by omega), e9, f4 336 9 (by omega)]) rn (fun f hA => by
            refine sp_B hmo n93 nend (fun y => na' y _ sks) ?_
            rcases hs with ⟨_, e⟩ | ⟨_, e, n15⟩
            · rw [e, tls.2.2.2.1] at hA
              rw [e] at wk
              exact g_ifT wk hA
            · rw [e, tls.2.2.2.2] at hA
              rw [e] at wk
              exact g_ifF n15 (g_ifT wk hA))
          exact ih 1 m7 6 (dropN s) hm7 (by decide) (by decide) t7 (((A'.trans A4).trans A5).trans A7) (fun _ => ⟨l7, rs7⟩) (fun z => absurd z (by decide)) (by omega)
        have yes : ∀ m' : Mm, Inv X S m' → Ts X m' 0 (m0 339 (m0 336 11)) 1 → Adv m0 m' → m1 336 8 ≤ m' 336 8 → Tl tb tn T m' mo s kk → (¬ Wk tb tn 15 (m' 336 8) → Wk tb tn 16 (m' 336 8)) → wp_X12_tested_49 S (fun a0 a1 M => wp_X12_tested_12 S K n a0 a1 M) K 336 m' := by
          intro m' hm' t'' A' p' tl' hw
          have sks := tl'.2.2.2.2.2.1
          refine u_X12_tested_49 ?_
          refine g_C ?_
          refine u_X12_tested_54 ?_
          refine g_ifF (by decide) ?_
          refine g_C ?_
          refine ⟨hS.k336, ?_⟩
          refine zx_isWord 15 hS hm' hR tl'.1.2.2 (by decide) pw15 (fun q m5 hm5 f5 sk e5 qn wk => ?_) (fun q m5 hm5 f5 sk e5 qn wk => ?_)
          · have eq := sks.uniq sk
            obtain ⟨t5, A5⟩ := t''.fr (m1 := m5) (fun c p q => f5 c p (by omega)) (by omega) (by rw [f5 336 12 (by omega)]; omega)
            exact g_ifF (by decide) (g_C (go 12 15 m5 (Or.inl ⟨rfl, rfl⟩) hm5 t5 (A'.trans A5) (by omega) (tl'.same (by omega) (fun c p q => f5 c p (by omega))) (by rw [e5]; exact wk)))
          · have eq := sks.uniq sk
            obtain ⟨t5, A5⟩ := t''.fr (m1 := m5) (fun c p q => f5 c p (by omega)) (by omega) (by rw [f5 336 12 (by omega)]; omega)
            exact g_ifT rfl (g_C (go 13 16 m5 (Or.inr ⟨rfl, rfl, by rw [e5]; exact wk⟩) hm5 t5 (A'.trans A5) (by omega) (tl'.same (by omega) (fun c p q => f5 c p (by omega))) (by rw [e5, ← eq]; exact hw (by rw [eq]; exact wk))))
        have sks := tl2.2.2.2.2.2.1
        refine g_C ?_
        refine ⟨hS.k336, ?_⟩
        refine zx_isWord 15 hS hm2 hR tl2.1.2.2 (by decide) pw15 (fun q m3 hm3 f3 sk e3 qn wk => ?_) (fun q m3 hm3 f3 sk e3 qn wk => ?_)
        · have eq := sks.uniq sk
          obtain ⟨t3, A3⟩ := t2.fr (m1 := m3) (fun c p q => f3 c p (by omega)) (by omega) (by rw [f3 336 12 (by omega)]; omega)
          exact g_ifT (by decide) (yes m3 hm3 t3 (((A.trans A1).trans A2).trans A3) (by omega) (tl2.same (by omega) (fun c p q => f3 c p (by omega))) (fun z => absurd (by rw [e3]; exact wk) z))
        · have eq := sks.uniq sk
          obtain ⟨t3, A3⟩ := t2.fr (m1 := m3) (fun c p q => f3 c p (by omega)) (by omega) (by rw [f3 336 12 (by omega)]; omega)
          have tl3 : Tl tb tn T m3 mo s kk := tl2.same (by omega) (fun c p q => f3 c p (by omega))
          have n15 : ¬ Wk tb tn 15 (m3 336 8) := by rw [e3]; exact wk
          have sks3 := tl3.2.2.2.2.2.1
          refine g_ifF (by decide) ?_
          refine g_C ?_
          refine ⟨hS.k336, ?_⟩
          refine zx_isWord 16 hS hm3 hR tl3.1.2.2 (by decide) pw16 (fun q4 m4 hm4 f4 sk4 e4 qn4 wk4 => ?_) (fun q4 m4 hm4 f4 sk4 e4 qn4 wk4 => ?_)
          · have eq4 := sks3.uniq sk4
            obtain ⟨t4, A4⟩ := t3.fr (m1 := m4) (fun c p q => f4 c p (by omega)) (by omega) (by rw [f4 336 12 (by omega)]; omega)
            exact g_ifF (by decide) (yes m4 hm4 t4 ((((A.trans A1).trans A2).trans A3).trans A4) (by omega) (tl3.same (by omega) (fun c p q => f4 c p (by omega))) (fun _ => by rw [e4]; exact wk4))
          · have eq4 := sks3.uniq sk4
            obtain ⟨t4, A4⟩ := t3.fr (m1 := m4) (fun c p q => f4 c p (by omega)) (by omega) (by rw [f4 336 12 (by omega)]; omega)
            refine g_ifT rfl ?_
            refine g_C ?_
            refine u_X12_tested_54 ?_
            refine g_ifT rfl ?_
            exact ih 0 m4 mo s hm4 (by decide) (by decide) t4 ((((A.trans A1).trans A2).trans A3).trans A4) (fun z => absurd z (by decide)) (fun _ => ⟨tl3.same (by omega) (fun c p q => f4 c p (by omega)), by rw [e4, ← eq4]; exact n15, by rw [e4]; exact wk4⟩) (by omega)
  have b8 := hm2.f_336_8
  exact ⟨804, L 804 1 m2 6 [] hm2 (by decide) (by decide) t2 A2 (fun _ => ⟨l2, rs2⟩) (fun z => absurd z (by decide)) (by omega)⟩
