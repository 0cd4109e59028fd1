/-! the class reckons what the signs say -/
theorem zg_run {X : Mm} {S : Sh} {m0 : Mm} {K : Int → Mm → Prop} {row : Int} (hS : Shp S) (hrow : m0 55 1 = row) (hr : rowv S row) : ∀ (V : List Int) (n : Nat) (top i : Int) (m : Mm) (L B : List Int) (D D' : List Bool), Inv X S m → (∀ c p : Int, ¬ c = 56 → m c p = m0 c p) → Hs (m0 row) i V → i + (V.length : Int) ≤ rlen S row → 0 ≤ i → V.foldl ty1 (some D) = some D' → Bt L D → pl (m 56) (top + 1).toNat = L ++ B → -1 ≤ top → L.length + B.length + nvs V ≤ 64 → (∀ (top' : Int) (m' : Mm), Inv X S m' → (∀ c p : Int, ¬ c = 56 → m' c p = m0 c p) → pl (m' 56) (top' + 1).toNat = evl (wdC m0) L V ++ B → -1 ≤ top' → wp_X10_sumByRule_4 S K n 55 top' (i + (V.length : Int)) m') → wp_X10_sumByRule_4 S K (V.length + n) 55 top i m := by
  intro V
  induction V with
  | nil =>
    intro n top i m L B D D' hm F _ _ _ _ _ hp ht _ hc
    have q := hc top m hm F hp ht
    have q2 : wp_X10_sumByRule_4 S K n 55 top (i + ((0 : Nat) : Int)) m := q
    rw [show i + ((0 : Nat) : Int) = i by omega] at q2
    show wp_X10_sumByRule_4 S K (0 + n) 55 top i m
    rw [Nat.zero_add]
    exact q2
  | cons x V ih =>
    intro n top i m L B D D' hm F hV hl hi hty hb hp ht hn hc
    obtain ⟨E, t1, t2⟩ := ty_split hty
    obtain ⟨b1, b2⟩ := ev1_ty (w := wdC m0) t1 hb
    have r1 : m 55 1 = row := (F 55 1 (by decide)).trans hrow
    have rl1 : ((x :: V).length : Int) = (V.length : Int) + 1 := by rw [List.length_cons]; omega
    rw [rl1] at hl
    have hlen := congrArg List.length hp
    rw [pl_len, List.length_append] at hlen
    have nx : nvs (x :: V) = (if -11 ≤ x then 1 else 0) + nvs V := rfl
    have ex : ∀ v : Int, v = m row i → v = x := fun v ev => by
      rw [ev, show m row i = m0 row i from F row i (by rcases hr with z | z <;> omega)]
      exact hV.1
    have fuel : (x :: V).length + n = (V.length + n) + 1 := by rw [List.length_cons]; omega
    rw [fuel]
    -- the rest, from a memory with the stack one sign further
    have go : ∀ (top' : Int) (m' : Mm), Inv X S m' → (∀ c p : Int, ¬ c = 56 → m' c p = m0 c p) → pl (m' 56) (top' + 1).toNat = ev1 (wdC m0) L x ++ B → -1 ≤ top' → (ev1 (wdC m0) L x).length + B.length + nvs V ≤ 64 → wp_X10_sumByRule_4 S K (V.length + n) 55 top' (i + 1) m' := by
      intro top' m' hm' F' hp' ht' hn'
      refine ih n top' (i + 1) m' (ev1 (wdC m0) L x) B E D' hm' F' hV.2 (by omega) (by omega) t2 b1 hp' ht' hn' (fun top2 m2 hm2 F2 hp2 ht2 => ?_)
      have q := hc top2 m2 hm2 F2 hp2 ht2
      rw [rl1, show i + ((V.length : Int) + 1) = i + 1 + (V.length : Int) by omega] at q
      exact q
    refine u_X10_sumByRule_4 ?_
    refine g_getrow 1 rfl hS.k55 hm.row55 (fun v1 e1 hr1 => ?_)
    have q1 : v1 = row := e1.trans r1
    subst q1
    refine g_lenrow hr1 (fun v2 e2 b2' c2' => ?_)
    refine g_ifF (by omega) ?_
    refine g_getrow 1 rfl hS.k55 hm.row55 (fun v3 e3 hr3 => ?_)
    have q3 : v3 = v1 := e3.trans r1
    subst q3
    refine g_ldrowE hr3 (by omega) (by omega) (fun v4 e4 => ?_)
    have q4 := ex v4 e4
    subst q4
    refine g_C ?_
    rcases ty_cases t1 with ⟨e, _⟩ | ⟨e, E', e1', _⟩ | ⟨e, E', e1', _⟩ | ⟨e, E', e1', _⟩ | ⟨e, E', e1', _⟩
    · -- a value
      rw [if_pos e.1] at nx
      rw [ev_val _ _ e.1, List.length_cons] at go
      refine g_ifF (by omega) ?_
      refine g_C ?_
      refine g_A (by omega) (by omega) ?_
      refine g_C ?_
      refine g_ifT (by omega) ?_
      refine g_A (by omega) (by omega) ?_
      refine g_getr 3 56 rfl hS.k55 hm.f_55_3 (by decide) ?_
      have put : ∀ v : Int, v = (if 0 ≤ v4 then v4 else wdC m0 (-2 - v4)) → wp_X10_sumByRule_58 S (fun a0 a1 a2 M => wp_X10_sumByRule_4 S K (V.length + n) a0 a1 a2 M) K 55 (top + 1) i 56 (top + 1) v m := by
        intro v ev
        refine u_X10_sumByRule_58 ?_
        refine g_st hS.k56 hS.l56 (by omega) (by omega) (hm.wa_56 (by omega) (by omega)) (fun m2 em2 hm2 => ?_)
        have f2 : ∀ c p : Int, ¬ (c = 56 ∧ p = top + 1) → m2 c p = m c p := fun c p q => (congrFun (congrFun em2 _) _).trans (up_ne q)
        have x2 : m2 56 (top + 1) = v := (congrFun (congrFun em2 _) _).trans (up_at _ _ _ _)
        refine u_X10_sumByRule_170 ?_
        refine g_A (by omega) (by omega) ?_
        refine go (top + 1) m2 hm2 (fun c p q => (f2 c p (by omega)).trans (F c p q)) ?_ (by omega) (by omega)
        rw [← ev]
        exact pl_push ht hp (fun j j0 j1 => f2 56 j (by omega)) x2
      refine g_if (fun w => ?_) (fun w => ?_)
      · refine ⟨hS.k55, ?_⟩
        refine zg_valueOf hS hm e.1 (by omega) ?_
        refine put _ ?_
        rw [if_neg (by omega)]
        unfold wdC
        rw [F 55 4 (by decide), F 7 _ (by decide), F 55 7 (by decide), F 55 5 (by decide), F 55 6 (by decide), F 55 9 (by decide), F 55 8 (by decide), F 55 10 (by decide), F 55 11 (by decide), F 4 2 (by decide)]
      · refine g_C ?_
        exact put v4 (by rw [if_pos (by omega)])
    · -- * / % + -
      rw [if_neg (by omega)] at nx
      subst e1'
      obtain ⟨bb, aa, L', rfl, _, _, _⟩ := hb.two
      rw [ev_two _ _ (by omega) (by omega), List.length_cons] at go
      rw [List.length_cons, List.length_cons] at hn hlen
      obtain ⟨p0, p1, p2⟩ := pl_top (L := aa :: (L' ++ B)) ht hp
      obtain ⟨p3, p4, p5⟩ := pl_top (by omega) p2
      refine g_ifT (by omega) ?_
      refine g_ifT (by omega) ?_
      refine g_C ?_
      refine g_ifT (by omega) ?_
      refine g_C ?_
      refine g_ifT (by omega) ?_
      refine g_C ?_
      refine g_ifT (by omega) ?_
      refine g_C ?_
      refine g_ifT (by omega) ?_
      refine g_A (by omega) (by omega) ?_
      refine g_getr 3 56 rfl hS.k55 hm.f_55_3 (by decide) ?_
      refine g_getr 3 56 rfl hS.k55 hm.f_55_3 (by decide) ?_
      refine g_ldu hS.k56 hS.l56 (by omega) (by omega) (fun va ea => ?_)
      refine g_getr 3 56 rfl hS.k55 hm.f_55_3 (by decide) ?_
      refine g_C ?_
      refine g_A (by omega) (by omega) ?_
      refine g_ldu hS.k56 hS.l56 (by omega) (by omega) (fun vb eb => ?_)
      have ea2 : va = aa := by rw [ea, show top + -1 = top - 1 by omega]; exact p4
      have eb2 : vb = bb := by rw [eb, show top + -1 + 1 = top by omega]; exact p1
      subst ea2 eb2
      refine zg_joined (by omega) (by omega) ?_
      refine g_st hS.k56 hS.l56 (by omega) (by omega) (hm.wa_56 (by omega) (by omega)) (fun m2 em2 hm2 => ?_)
      have f2 : ∀ c p : Int, ¬ (c = 56 ∧ p = top + -1) → m2 c p = m c p := fun c p q => (congrFun (congrFun em2 _) _).trans (up_ne q)
      have x2 : m2 56 (top + -1) = jo v4 va vb := (congrFun (congrFun em2 _) _).trans (up_at _ _ _ _)
      refine u_X10_sumByRule_170 ?_
      refine g_A (by omega) (by omega) ?_
      refine go (top + -1) m2 hm2 (fun c p q => (f2 c p (by omega)).trans (F c p q)) ?_ (by omega) (by omega)
      have q := pl_push (g := m2 56) (t := top - 1 - 1) (a := jo v4 va vb) (by omega) p5 (fun j j0 j1 => f2 56 j (by omega)) (by rw [show top - 1 - 1 + 1 = top + -1 by omega]; exact x2)
      rw [show top - 1 - 1 + 1 + 1 = top + -1 + 1 by omega] at q
      exact q
    · -- a comparison
      rw [if_neg (by omega)] at nx
      subst e1'
      obtain ⟨bb, aa, L', rfl, _, _, _⟩ := hb.two
      rw [ev_two _ _ (by omega) (by omega), List.length_cons] at go
      rw [List.length_cons, List.length_cons] at hn hlen
      obtain ⟨p0, p1, p2⟩ := pl_top (L := aa :: (L' ++ B)) ht hp
      obtain ⟨p3, p4, p5⟩ := pl_top (by omega) p2
      refine g_ifT (by omega) ?_
      refine g_ifT (by omega) ?_
      refine g_C ?_
      refine g_ifT (by omega) ?_
      refine g_C ?_
      refine g_ifT (by omega) ?_
      refine g_C ?_
      refine g_ifT (by omega) ?_
      refine g_C ?_
      refine g_ifT (by omega) ?_
      refine g_A (by omega) (by omega) ?_
      refine g_getr 3 56 rfl hS.k55 hm.f_55_3 (by decide) ?_
      refine g_getr 3 56 rfl hS.k55 hm.f_55_3 (by decide) ?_
      refine g_ldu hS.k56 hS.l56 (by omega) (by omega) (fun va ea => ?_)
      refine g_getr 3 56 rfl hS.k55 hm.f_55_3 (by decide) ?_
      refine g_C ?_
      refine g_A (by omega) (by omega) ?_
      refine g_ldu hS.k56 hS.l56 (by omega) (by omega) (fun vb eb => ?_)
      have ea2 : va = aa := by rw [ea, show top + -1 = top - 1 by omega]; exact p4
      have eb2 : vb = bb := by rw [eb, show top + -1 + 1 = top by omega]; exact p1
      subst ea2 eb2
      refine zg_joined (by omega) (by omega) ?_
      refine g_st hS.k56 hS.l56 (by omega) (by omega) (hm.wa_56 (by omega) (by omega)) (fun m2 em2 hm2 => ?_)
      have f2 : ∀ c p : Int, ¬ (c = 56 ∧ p = top + -1) → m2 c p = m c p := fun c p q => (congrFun (congrFun em2 _) _).trans (up_ne q)
      have x2 : m2 56 (top + -1) = jo v4 va vb := (congrFun (congrFun em2 _) _).trans (up_at _ _ _ _)
      refine u_X10_sumByRule_170 ?_
      refine g_A (by omega) (by omega) ?_
      refine go (top + -1) m2 hm2 (fun c p q => (f2 c p (by omega)).trans (F c p q)) ?_ (by omega) (by omega)
      have q := pl_push (g := m2 56) (t := top - 1 - 1) (a := jo v4 va vb) (by omega) p5 (fun j j0 j1 => f2 56 j (by omega)) (by rw [show top - 1 - 1 + 1 = top + -1 by omega]; exact x2)
      rw [show top - 1 - 1 + 1 + 1 = top + -1 + 1 by omega] at q
      exact q
    · -- not
      rw [if_neg (by omega)] at nx
      subst e1'
      obtain ⟨aa, L', rfl, _, _⟩ := hb.one
      rw [e, ev_not, List.length_cons] at go
      rw [List.length_cons] at hn hlen
      obtain ⟨p0, p1, p2⟩ := pl_top (L := L' ++ B) ht hp
      refine g_ifT (by omega) ?_
      refine g_ifT (by omega) ?_
      refine g_C ?_
      refine g_ifT (by omega) ?_
      refine g_C ?_
      refine g_ifF (by omega) ?_
      refine g_getr 3 56 rfl hS.k55 hm.f_55_3 (by decide) ?_
      refine g_C ?_
      refine g_getr 3 56 rfl hS.k55 hm.f_55_3 (by decide) ?_
      refine g_ldu hS.k56 hS.l56 (by omega) (by omega) (fun va ea => ?_)
      have ea2 : va = aa := ea.trans p1
      subst ea2
      show wSt S m 56 16 top (w64 (1 - va)) _
      refine g_st hS.k56 hS.l56 (by omega) (by omega) (hm.wa_56 (by omega) (by omega)) (fun m2 em2 hm2 => ?_)
      have f2 : ∀ c p : Int, ¬ (c = 56 ∧ p = top) → m2 c p = m c p := fun c p q => (congrFun (congrFun em2 _) _).trans (up_ne q)
      have x2 : m2 56 top = w64 (1 - va) := (congrFun (congrFun em2 _) _).trans (up_at _ _ _ _)
      refine u_X10_sumByRule_170 ?_
      refine g_A (by omega) (by omega) ?_
      refine go top m2 hm2 (fun c p q => (f2 c p (by omega)).trans (F c p q)) ?_ (by omega) (by omega)
      have q := pl_push (g := m2 56) (t := top - 1) (a := w64 (1 - va)) (by omega) p2 (fun j j0 j1 => f2 56 j (by omega)) (by rw [show top - 1 + 1 = top by omega]; exact x2)
      rw [show top - 1 + 1 + 1 = top + 1 by omega] at q
      exact q
    · -- and, or
      rw [if_neg (by omega)] at nx
      subst e1'
      obtain ⟨bb, aa, L', rfl, _, _, _⟩ := hb.two
      rw [ev_two _ _ (by omega) (by omega), List.length_cons] at go
      rw [List.length_cons, List.length_cons] at hn hlen
      obtain ⟨p0, p1, p2⟩ := pl_top (L := aa :: (L' ++ B)) ht hp
      obtain ⟨p3, p4, p5⟩ := pl_top (by omega) p2
      refine g_ifT (by omega) ?_
      refine g_ifT (by omega) ?_
      refine g_C ?_
      refine g_ifT (by omega) ?_
      refine g_C ?_
      refine g_ifT (by omega) ?_
      refine g_C ?_
      refine g_ifT (by omega) ?_
      refine g_C ?_
      refine g_ifT (by omega) ?_
      refine g_A (by omega) (by omega) ?_
      refine g_getr 3 56 rfl hS.k55 hm.f_55_3 (by decide) ?_
      refine g_getr 3 56 rfl hS.k55 hm.f_55_3 (by decide) ?_
      refine g_ldu hS.k56 hS.l56 (by omega) (by omega) (fun va ea => ?_)
      refine g_getr 3 56 rfl hS.k55 hm.f_55_3 (by decide) ?_
      refine g_C ?_
      refine g_A (by omega) (by omega) ?_
      refine g_ldu hS.k56 hS.l56 (by omega) (by omega) (fun vb eb => ?_)
      have ea2 : va = aa := by rw [ea, show top + -1 = top - 1 by omega]; exact p4
      have eb2 : vb = bb := by rw [eb, show top + -1 + 1 = top by omega]; exact p1
      subst ea2 eb2
      refine zg_joined (by omega) (by omega) ?_
      refine g_st hS.k56 hS.l56 (by omega) (by omega) (hm.wa_56 (by omega) (by omega)) (fun m2 em2 hm2 => ?_)
      have f2 : ∀ c p : Int, ¬ (c = 56 ∧ p = top + -1) → m2 c p = m c p := fun c p q => (congrFun (congrFun em2 _) _).trans (up_ne q)
      have x2 : m2 56 (top + -1) = jo v4 va vb := (congrFun (congrFun em2 _) _).trans (up_at _ _ _ _)
      refine u_X10_sumByRule_170 ?_
      refine g_A (by omega) (by omega) ?_
      refine go (top + -1) m2 hm2 (fun c p q => (f2 c p (by omega)).trans (F c p q)) ?_ (by omega) (by omega)
      have q := pl_push (g := m2 56) (t := top - 1 - 1) (a := jo v4 va vb) (by omega) p5 (fun j j0 j1 => f2 56 j (by omega)) (by rw [show top - 1 - 1 + 1 = top + -1 by omega]; exact x2)
      rw [show top - 1 - 1 + 1 + 1 = top + -1 + 1 by omega] at q
      exact q
/-- what a RULE says: the SUM of its first CLAUSE without a TEST, or whose TEST holds; 0 without -/
def evC (w : Int → Int) : List Cz → Int
  | [] => 0
  | c :: l => if c.2.1 = true ∧ (evl w [] c.2.2).headD 0 = 0 then evC w l else (evl w [] c.1).headD 0
/-- every clause fits -/
def Tys (l : List Cz) : Prop := ∀ c : Cz, c ∈ l → Tyc c ∧ (c.2.1 = false → c.2.2 = [])
theorem Bt.sing {L : List Int} {t : Bool} (h : Bt L [t]) : ∃ a : Int, L = [a] ∧ (t = true → a = 0 ∨ a = 1) := by
  obtain ⟨a, K, rfl, h1, h2⟩ := h.one
  cases K with
  | nil => exact ⟨a, rfl, h1⟩
  | cons b K => exact h2.elim
theorem zg_sumByRule {X : Mm} {S : Sh} {m0 : Mm} {K : Int → Mm → Prop} {row : Int} {Cs : List Cz} (hS : Shp S) (hm0 : Inv X S m0) (hrow : m0 55 1 = row) (hr : rowv S row) (hH : Hs (m0 row) 0 (codC Cs)) (hl : rlen S row = ((codC Cs).length : Int)) (hty : Tys Cs) (hn : nvs (codC Cs) ≤ 60) (hk : ∀ M1 : Mm, Inv X S M1 → (∀ c p : Int, ¬ c = 56 → M1 c p = m0 c p) → K (evC (wdC m0) Cs) M1) : wp_X10_sumByRule S m0 55 K := by
  have rne : ¬ row = 56 := by rcases hr with z | z <;> omega
  have L : ∀ (l : List Cz) (i : Int) (m : Mm), (∀ M1 : Mm, Inv X S M1 → (∀ c p : Int, ¬ c = 56 → M1 c p = m0 c p) → K (evC (wdC m0) l) M1) → Inv X S m → (∀ c p : Int, ¬ c = 56 → m c p = m0 c p) → Hs (m0 row) i (codC l) → i + ((codC l).length : Int) = rlen S row → 0 ≤ i → Tys l → nvs (codC l) ≤ 60 → wp_X10_sumByRule_4 S K ((codC l).length + 1) 55 (-1) i m := by
    intro l
    induction l with
    | nil =>
      intro i m hk hm F _ hl hi _ _
      have r1 : m 55 1 = row := (F 55 1 (by decide)).trans hrow
      refine u_X10_sumByRule_4 ?_
      refine g_getrow 1 rfl hS.k55 hm.row55 (fun v1 e1 hr1 => ?_)
      have q1 : v1 = row := e1.trans r1
      subst q1
      refine g_lenrow hr1 (fun v2 e2 b2' c2' => ?_)
      have hl2 : i + ((0 : Nat) : Int) = rlen S v1 := hl
      refine g_ifT (by omega) ?_
      exact g_C (hk m hm F)
    | cons c l ih =>
      intro i m hk hm F hH hl hi hty hn
      obtain ⟨⟨ty1', ty2'⟩, ty3'⟩ := hty c (List.mem_cons_self ..)
      have ec : codC (c :: l) = c.1 ++ ((c.2.2 ++ [if c.2.1 then -26 else -25]) ++ codC l) := by
        show (c.1 ++ (c.2.2 ++ [if c.2.1 then -26 else -25])) ++ codC l = _
        rw [List.append_assoc]
      rw [ec] at hH hl hn ⊢
      obtain ⟨h1, h2⟩ := Hs.app _ _ _ hH
      obtain ⟨h3, h4⟩ := Hs.app _ _ _ h2
      obtain ⟨h5, h6⟩ := Hs.app _ _ _ h3
      rw [nvs_app, nvs_app, nvs_app] at hn
      have ln : (c.1 ++ ((c.2.2 ++ [if c.2.1 then (-26 : Int) else -25]) ++ codC l)).length = c.1.length + (c.2.2.length + 1 + (codC l).length) := by
        rw [List.length_append, List.length_append, List.length_append]
        rfl
      have ln2 : (c.2.2 ++ [if c.2.1 then (-26 : Int) else -25]).length = c.2.2.length + 1 := by
        rw [List.length_append]
        rfl
      rw [ln] at hl ⊢
      rw [ln2] at h4
      rw [show c.1.length + (c.2.2.length + 1 + (codC l).length) + 1 = c.1.length + (c.2.2.length + ((codC l).length + 1 + 1)) by omega]
      refine zg_run hS hrow hr c.1 _ (-1) i m [] [] [] [false] hm F h1 (by omega) hi ty1' trivial rfl (by omega) (by show 0 + 0 + nvs c.1 ≤ 64; omega) (fun top1 m1 hm1 F1 hp1 ht1 => ?_)
      obtain ⟨s, es, _⟩ := Bt.sing (evl_ty (w := wdC m0) c.1 [] [] [false] ty1' trivial).1
      rw [es] at hp1
      have tk := h6.1
      by_cases et : c.2.1 = true
      · -- a test
        have ty4 := ty2' et
        rw [et] at tk h6
        refine zg_run hS hrow hr c.2.2 _ top1 _ m1 [] [s] [] [true] hm1 F1 h5 (by omega) (by omega) ty4 trivial hp1 ht1 (by show 0 + 1 + nvs c.2.2 ≤ 64; omega) (fun top2 m2 hm2 F2 hp2 ht2 => ?_)
        obtain ⟨t, et2, _⟩ := Bt.sing (evl_ty (w := wdC m0) c.2.2 [] [] [true] ty4 trivial).1
        rw [et2] at hp2
        obtain ⟨p0, p1, p2⟩ := pl_top (L := [s]) ht2 hp2
        obtain ⟨p3, p4, p5⟩ := pl_top (by omega) p2
        have z2 : top2 - 1 - 1 = -1 := by
          have q := congrArg List.length p5
          rw [pl_len] at q
          have q2 : (top2 - 1 - 1 + 1).toNat = 0 := q
          omega
        have r2 : m2 55 1 = row := (F2 55 1 (by decide)).trans hrow
        have tk2 : m0 row (i + (c.1.length : Int) + (c.2.2.length : Int)) = -26 := tk
        refine u_X10_sumByRule_4 ?_
        refine g_getrow 1 rfl hS.k55 hm2.row55 (fun v1 e1 hr1 => ?_)
        have q1 : v1 = row := e1.trans r2
        subst q1
        refine g_lenrow hr1 (fun v2 e2 b2' c2' => ?_)
        refine g_ifF (by omega) ?_
        refine g_getrow 1 rfl hS.k55 hm2.row55 (fun v3 e3 hr3 => ?_)
        have q3 : v3 = v1 := e3.trans r2
        subst q3
        refine g_ldrowE hr3 (by omega) (by omega) (fun v4 e4 => ?_)
        have q4 : v4 = -26 := by rw [e4, F2 _ _ rne]; exact tk2
        subst q4
        refine g_C ?_
        refine g_ifT (by decide) ?_
        refine g_ifT (by omega) ?_
        refine g_C ?_
        refine g_ifT (by decide) ?_
        refine g_C ?_
        refine g_ifT (by decide) ?_
        refine g_C ?_
        refine g_ifT (by omega) ?_
        refine g_C ?_
        refine g_ifF (by decide) ?_
        refine g_getr 3 56 rfl hS.k55 hm2.f_55_3 (by decide) ?_
        refine g_ldu hS.k56 hS.l56 (by omega) (by omega) (fun v5 e5 => ?_)
        have q5 : v5 = t := e5.trans p1
        subst q5
        have no : ¬ v5 = 0 → wGetR S m2 55 10 3 fun v54 => wC 1 fun v56 => wS top2 v56 fun v58 => wLd S m2 v54 16 v58 fun v60 => K v60 m2 := by
          intro w
          refine g_getr 3 56 rfl hS.k55 hm2.f_55_3 (by decide) ?_
          refine g_C ?_
          refine g_S (by omega) (by omega) ?_
          refine g_ldu hS.k56 hS.l56 (by omega) (by omega) (fun v6 e6 => ?_)
          have q6 : v6 = s := e6.trans p4
          subst q6
          have q := hk m2 hm2 F2
          have e : evC (wdC m0) (c :: l) = v6 := by
            show (if c.2.1 = true ∧ (evl (wdC m0) [] c.2.2).headD 0 = 0 then evC (wdC m0) l else (evl (wdC m0) [] c.1).headD 0) = v6
            rw [es, et2, if_neg (fun z => w z.2)]
            rfl
          rw [e] at q
          exact q
        refine g_C ?_
        refine g_cmp (fun w => ?_) (fun w => ?_) (fun w => ?_)
        · exact g_ifF (by decide) (no (by omega))
        · refine g_ifT (by decide) ?_
          refine g_A (by omega) (by omega) ?_
          refine u_X10_sumByRule_170 ?_
          refine g_A (by omega) (by omega) ?_
          rw [show top2 + -2 = -1 by omega]
          have e : evC (wdC m0) (c :: l) = evC (wdC m0) l := by
            show (if c.2.1 = true ∧ (evl (wdC m0) [] c.2.2).headD 0 = 0 then evC (wdC m0) l else (evl (wdC m0) [] c.1).headD 0) = _
            rw [et2, if_pos ⟨et, w⟩]
          rw [e] at hk
          rw [show i + (c.1.length : Int) + ((c.2.2.length + 1 : Nat) : Int) = i + (c.1.length : Int) + (c.2.2.length : Int) + 1 by omega] at h4
          exact ih _ m2 hk hm2 F2 h4 (by omega) (by omega) (fun d hd => hty d (List.mem_cons_of_mem _ hd)) (by omega)
        · exact g_ifF (by decide) (no (by omega))
      · -- without a test
        have ef : c.2.1 = false := by
          cases h : c.2.1
          · rfl
          · exact absurd h et
        have e22 := ty3' ef
        rw [e22] at tk ⊢
        rw [ef] at tk
        have tk2 : m0 row (i + (c.1.length : Int) + ((0 : Nat) : Int)) = -25 := tk
        rw [show i + (c.1.length : Int) + ((0 : Nat) : Int) = i + (c.1.length : Int) by omega] at tk2
        obtain ⟨p0, p1, p2⟩ := pl_top (L := []) ht1 hp1
        have r1 : m1 55 1 = row := (F1 55 1 (by decide)).trans hrow
        show wp_X10_sumByRule_4 S K (0 + ((codC l).length + 1 + 1)) 55 top1 (i + (c.1.length : Int)) m1
        rw [Nat.zero_add]
        refine u_X10_sumByRule_4 ?_
        refine g_getrow 1 rfl hS.k55 hm1.row55 (fun v1 e1 hr1 => ?_)
        have q1 : v1 = row := e1.trans r1
        subst q1
        refine g_lenrow hr1 (fun v2 e2 b2' c2' => ?_)
        refine g_ifF (by omega) ?_
        refine g_getrow 1 rfl hS.k55 hm1.row55 (fun v3 e3 hr3 => ?_)
        have q3 : v3 = v1 := e3.trans r1
        subst q3
        refine g_ldrowE hr3 (by omega) (by omega) (fun v4 e4 => ?_)
        have q4 : v4 = -25 := by rw [e4, F1 _ _ rne]; exact tk2
        subst q4
        refine g_C ?_
        refine g_ifT (by decide) ?_
        refine g_ifT (by omega) ?_
        refine g_C ?_
        refine g_ifF (by decide) ?_
        refine g_getr 3 56 rfl hS.k55 hm1.f_55_3 (by decide) ?_
        have t63 : top1 < 64 := by
          have q := congrArg List.length hp1
          rw [pl_len] at q
          have q2 : (top1 + 1).toNat = 1 := q
          omega
        refine g_ldu hS.k56 hS.l56 (by omega) (by omega) (fun v5 e5 => ?_)
        have q5 : v5 = s := e5.trans p1
        subst q5
        have q := hk m1 hm1 F1
        have e : evC (wdC m0) (c :: l) = v5 := by
          show (if c.2.1 = true ∧ (evl (wdC m0) [] c.2.2).headD 0 = 0 then evC (wdC m0) l else (evl (wdC m0) [] c.1).headD 0) = v5
          rw [es, if_neg (fun z => et z.1)]
          rfl
        rw [e] at q
        exact q
  refine u_X10_sumByRule ?_
  refine g_C ?_
  refine g_C ?_
  exact ⟨_, L Cs 0 m0 hk hm0 (fun _ _ _ => rfl) hH (by omega) (by decide) hty hn⟩
