/-- the reference's tables of rows -/
def RTb (sp : Int → Int) (H : Nat) (M : Mm) (n : Int) : Prop := ∀ k t : Int, 0 ≤ k → k ≤ n → 0 ≤ t → t ≤ 300 → M 352 (301 * k + t) = rcnt sp H k.toNat t ∧ (M 353 (301 * k + t) = 0 ↔ ¬ 0 < rcnt sp H k.toNat t)
theorem zr_speed {X : Mm} {S : Sh} {m : Mm} {K : Int → Mm → Prop} {sp : Int → Int} {H : Nat} {h : Int} (hS : Shp S) (hm : Inv X S m) (hs : ∀ i : Int, 0 ≤ i → i < H → m 346 (13 + 5 * i) = sp i) (h5 : H ≤ 5) (h0 : 0 ≤ h) (h1 : h < H) (hk : K (sp h) m) : wp_X12_handOf S m 336 h 3 K := by
  refine zl_speed hS hm h0 (by omega) (fun _ _ => ?_)
  rw [hs h h0 h1]
  exact hk
theorem zr_fillsRows {X : Mm} {S : Sh} {m0 : Mm} {K : Mm → Prop} {sp : Int → Int} {H : Nat} {u1 : Int} (hS : Shp S) (hm0 : Inv X S m0) (h1 : 1 ≤ u1) (h2 : u1 ≤ 12) (hH : m0 346 4 = (H : Int)) (hs : ∀ i : Int, 0 ≤ i → i < H → m0 346 (13 + 5 * i) = sp i) (sb : ∀ i : Int, 0 ≤ i → i < H → 0 ≤ sp i ∧ sp i ≤ 20) (hk : ∀ M1 : Mm, Inv X S M1 → (∀ c p : Int, ¬ c = 352 → ¬ c = 353 → M1 c p = m0 c p) → RTb sp H M1 u1 → K M1) : wp_X12_fillsRows S m0 336 u1 K := by
  have b4 := hm0.f_346_4
  have H5 : H ≤ 5 := by omega
  refine u_X12_fillsRows ?_
  refine g_C ?_
  have main : ∀ (n : Nat) (k : Int) (m : Mm), Inv X S m → 1 ≤ k → k ≤ u1 + 1 → (∀ c p : Int, ¬ c = 352 → ¬ c = 353 → m c p = m0 c p) → RTb sp H m (k - 1) → 14 - k ≤ (n : Int) → wp_X12_fillsRows_47 S K n 336 u1 k m := by
    intro n
    induction n with
    | zero => intro k m _ _ _ _ _ h; exfalso; omega
    | succ n ih =>
      intro k m hm k0 k1 F hr hn
      refine u_X12_fillsRows_47 ?_
      refine g_if (fun w => ?_) (fun w => ?_)
      · exact hk m hm F (by rw [show u1 = k - 1 by omega]; exact hr)
      · refine g_C ?_
        have row : ∀ (n2 : Nat) (t : Int) (m' : Mm), Inv X S m' → 0 ≤ t → t ≤ 301 → (∀ c p : Int, ¬ c = 352 → ¬ c = 353 → m' c p = m0 c p) → RTb sp H m' (k - 1) → (∀ s : Int, 0 ≤ s → s < t → m' 352 (301 * k + s) = rcnt sp H k.toNat s ∧ (m' 353 (301 * k + s) = 0 ↔ ¬ 0 < rcnt sp H k.toNat s)) → 302 - t ≤ (n2 : Int) → wp_X12_fillsRows_54 S (fun a0 a1 a2 M => wp_X12_fillsRows_47 S K n a0 a1 a2 M) K n2 336 u1 k t m' := by
          intro n2
          induction n2 with
          | zero => intro t m' _ _ _ _ _ _ h; exfalso; omega
          | succ n2 ih2 =>
            intro t m' hm' t0 t1 F' hr' hc hn2
            refine u_X12_fillsRows_54 ?_
            refine g_C ?_
            refine g_if (fun w2 => ?_) (fun w2 => ?_)
            · refine g_A (by omega) (by omega) ?_
              refine ih (k + 1) m' hm' (by omega) (by omega) F' (fun k' t' a1 a2 a3 a4 => ?_) (by omega)
              by_cases e : k' = k
              · rw [e]
                exact hc t' a3 (by omega)
              · exact hr' k' t' a1 (by omega) a3 a4
            · refine g_C ?_
              refine g_C ?_
              refine g_C ?_
              obtain ⟨g, eg⟩ : ∃ g : Int → Int, g = fun h => if sp h ≤ t then rcnt sp H (k - 1).toNat (t - sp h) else 0 := ⟨_, rfl⟩
              have gb : ∀ i : Int, 0 ≤ i → i < H → 0 ≤ g i ∧ g i ≤ 48828125 := by
                intro i _ _
                have q := p5_c (k - 1).toNat (by omega)
                have q2 := rcnt_b (sp := sp) H5 (k - 1).toNat (t - sp i)
                rw [eg]
                show 0 ≤ (if sp i ≤ t then rcnt sp H (k - 1).toNat (t - sp i) else 0) ∧ (if sp i ≤ t then rcnt sp H (k - 1).toNat (t - sp i) else 0) ≤ 48828125
                split <;> omega
              have full : cs g H = rcnt sp H k.toNat t := by
                rw [show k.toNat = (k - 1).toNat + 1 by omega, eg]
                rfl
              have inn : ∀ (n3 : Nat) (is : Int) (h : Nat), (is = 0 ∨ is = 1) → (is = 0 ↔ ¬ 0 < cs g h) → h ≤ H → 6 - (h : Int) ≤ (n3 : Int) → wp_X12_fillsRows_70 S (fun a0 a1 a2 M => wp_X12_fillsRows_47 S K n a0 a1 a2 M) (fun a0 a1 a2 a3 M => wp_X12_fillsRows_54 S (fun a0 a1 a2 M => wp_X12_fillsRows_47 S K n a0 a1 a2 M) K n2 a0 a1 a2 a3 M) K n3 336 u1 k t (cs g h) is (h : Int) m' := by
                intro n3
                induction n3 with
                | zero => intro is h _ _ _ hh; exfalso; omega
                | succ n3 ih3 =>
                  intro is h iz hv hle hn3
                  have cb := cs_b5 (f := g) (B := 48828125) (by decide) h (by omega) (fun i i0 i1 => gb i i0 (by omega))
                  refine u_X12_fillsRows_70 ?_
                  refine g_getr 20 346 rfl hS.k336 hm'.f_336_20 (by decide) ?_
                  refine g_C ?_
                  refine g_ldu hS.k346 hS.l346 (by omega) (by omega) (fun Hv eH => ?_)
                  rw [F' 346 4 (by omega) (by omega), hH] at eH
                  refine g_if (fun w3 => ?_) (fun w3 => ?_)
                  · have eh : h = H := by omega
                    rw [eh, full] at hv
                    refine g_getr 31 352 rfl hS.k336 hm'.f_336_31 (by decide) ?_
                    refine zl_spot (by omega) (by omega) (by omega) (by omega) ?_
                    refine g_C ?_
                    refine ⟨by decide, ?_⟩
                    rw [lRem_small cb.1 (by omega) (by decide)]
                    refine g_w32 (by omega) (by omega) ?_
                    refine g_st hS.k352 hS.l352 (by omega) (by omega) (hm'.wa_352 (by omega) (by omega) (by omega) (by omega)) (fun m2 e2 hm2 => ?_)
                    have f2 : ∀ c p : Int, ¬ (c = 352 ∧ p = 301 * k + t) → m2 c p = m' c p := fun c p q => (congrFun (congrFun e2 _) _).trans (up_ne q)
                    have x2 : m2 352 (301 * k + t) = cs g h := (congrFun (congrFun e2 _) _).trans (up_at _ _ _ _)
                    refine g_getr 32 353 rfl hS.k336 hm2.f_336_32 (by decide) ?_
                    refine zl_spot (by omega) (by omega) (by omega) (by omega) ?_
                    refine g_stz hS.k353 hS.l353 (by omega) (by omega) (by omega) (hm2.wa_353 (by omega) (by omega) (by omega) (by omega)) (fun m3 e3 hm3 => ?_)
                    have f3 : ∀ c p : Int, ¬ (c = 353 ∧ p = 301 * k + t) → m3 c p = m2 c p := fun c p q => (congrFun (congrFun e3 _) _).trans (up_ne q)
                    have x3 : m3 353 (301 * k + t) = is := (congrFun (congrFun e3 _) _).trans (up_at _ _ _ _)
                    have G : ∀ c p : Int, ¬ (c = 352 ∧ p = 301 * k + t) → ¬ (c = 353 ∧ p = 301 * k + t) → m3 c p = m' c p := fun c p q1 q2 => (f3 c p q2).trans (f2 c p q1)
                    refine g_A (by omega) (by omega) ?_
                    refine ih2 (t + 1) m3 hm3 (by omega) (by omega) (fun c p q1 q2 => (G c p (by omega) (by omega)).trans (F' c p q1 q2)) (fun k' t' a1 a2 a3 a4 => ?_) (fun s s0 s1 => ?_) (by omega)
                    · rw [G 352 _ (by omega) (by omega), G 353 _ (by omega) (by omega)]
                      exact hr' k' t' a1 a2 a3 a4
                    · by_cases e : s = t
                      · rw [e, x3, f3 352 _ (by omega), x2, eh, full]
                        exact ⟨rfl, hv⟩
                      · rw [G 352 _ (by omega) (by omega), G 353 _ (by omega) (by omega)]
                        exact hc s s0 (by omega)
                  · have hlt : (h : Int) < H := by omega
                    have sh := sb (h : Int) (by omega) hlt
                    have gh := gb (h : Int) (by omega) hlt
                    have nx : ∀ is' : Int, (is' = 0 ∨ is' = 1) → (is' = 0 ↔ ¬ 0 < cs g h + g (h : Int)) → wp_X12_fillsRows_147 S (fun a0 a1 a2 M => wp_X12_fillsRows_47 S K n a0 a1 a2 M) (fun a0 a1 a2 a3 M => wp_X12_fillsRows_54 S (fun a0 a1 a2 M => wp_X12_fillsRows_47 S K n a0 a1 a2 M) K n2 a0 a1 a2 a3 M) (fun a0 a1 a2 a3 a4 a5 a6 M => wp_X12_fillsRows_70 S (fun a0 a1 a2 M => wp_X12_fillsRows_47 S K n a0 a1 a2 M) (fun a0 a1 a2 a3 M => wp_X12_fillsRows_54 S (fun a0 a1 a2 M => wp_X12_fillsRows_47 S K n a0 a1 a2 M) K n2 a0 a1 a2 a3 M) K n3 a0 a1 a2 a3 a4 a5 a6 M) K 336 u1 k t (cs g h + g (h : Int)) is' (h : Int) m' := by
                      intro is' jz jv
                      refine u_X12_fillsRows_147 ?_
                      refine g_A (by omega) (by omega) ?_
                      rw [show (h : Int) + 1 = ((h + 1 : Nat) : Int) by omega]
                      exact ih3 is' (h + 1) jz jv (by omega) (by omega)
                    refine g_C ?_
                    refine ⟨hS.k336, ?_⟩
                    refine zr_speed hS hm' (fun i i0 i1 => (F' 346 _ (by omega) (by omega)).trans (hs i i0 i1)) H5 (by omega) hlt ?_
                    refine g_S (by omega) (by omega) ?_
                    refine g_if (fun w4 => ?_) (fun w4 => ?_)
                    · have e : g (h : Int) = rcnt sp H (k - 1).toNat (t - sp (h : Int)) := by
                        rw [eg]
                        show (if sp (h : Int) ≤ t then rcnt sp H (k - 1).toNat (t - sp (h : Int)) else 0) = _
                        rw [if_pos (by omega)]
                      have tb := hr' (k - 1) (t - sp (h : Int)) (by omega) (by omega) w4 (by omega)
                      rw [← e] at tb
                      refine g_getr 31 352 rfl hS.k336 hm'.f_336_31 (by decide) ?_
                      refine g_C ?_
                      refine g_S (by omega) (by omega) ?_
                      refine zl_spot (by omega) (by omega) (by omega) (by omega) ?_
                      refine g_ldu hS.k352 hS.l352 (by omega) (by omega) (fun x ex => ?_)
                      rw [tb.1] at ex
                      refine g_C ?_
                      rw [ex]
                      refine g_LA (by omega) (by omega) ?_
                      refine g_if (fun w5 => ?_) (fun w5 => ?_)
                      · have yc : 0 < cs g h := by
                          by_cases y : 0 < cs g h
                          · exact y
                          · exact absurd (hv.mpr y) w5
                        refine u_X12_fillsRows_140 ?_
                        refine g_C ?_
                        refine u_X12_fillsRows_145 ?_
                        exact nx 1 (by decide) ⟨fun z => absurd z (by decide), fun z => absurd (show 0 < cs g h + g (h : Int) by omega) z⟩
                      · refine g_getr 32 353 rfl hS.k336 hm'.f_336_32 (by decide) ?_
                        refine g_C ?_
                        refine g_S (by omega) (by omega) ?_
                        refine zl_spot (by omega) (by omega) (by omega) (by omega) ?_
                        refine g_ldu hS.k353 hS.l353 (by omega) (by omega) (fun y ey => ?_)
                        have nv : ¬ 0 < cs g h := hv.mp (by omega)
                        refine g_if (fun w6 => ?_) (fun w6 => ?_)
                        · refine g_C ?_
                          refine u_X12_fillsRows_145 ?_
                          have ng := tb.2.mp (by omega)
                          exact nx 0 (by decide) ⟨fun _ => by omega, fun _ => rfl⟩
                        · refine u_X12_fillsRows_140 ?_
                          refine g_C ?_
                          refine u_X12_fillsRows_145 ?_
                          have yg : 0 < g (h : Int) := by
                            by_cases z : 0 < g (h : Int)
                            · exact z
                            · exact absurd (ey.trans (tb.2.mpr z)) w6
                          exact nx 1 (by decide) ⟨fun z => absurd z (by decide), fun z => absurd (show 0 < cs g h + g (h : Int) by omega) z⟩
                    · have e : g (h : Int) = 0 := by
                        rw [eg]
                        show (if sp (h : Int) ≤ t then rcnt sp H (k - 1).toNat (t - sp (h : Int)) else 0) = _
                        rw [if_neg (by omega)]
                      have n0 := nx is iz (by rw [e, Int.add_zero]; exact hv)
                      rw [e, Int.add_zero] at n0
                      exact n0
              exact ⟨6, inn 6 0 0 (Or.inl rfl) ⟨fun _ => (by show ¬ (0 : Int) < 0; decide), fun _ => rfl⟩ (by omega) (by decide)⟩
        exact ⟨302, row 302 0 m hm (by decide) (by decide) F hr (fun s s0 s1 => absurd s1 (by omega)) (by decide)⟩
  have first : ∀ (n : Nat) (t : Int) (m : Mm), Inv X S m → 0 ≤ t → t ≤ 301 → (∀ c p : Int, ¬ c = 352 → ¬ c = 353 → m c p = m0 c p) → (∀ s : Int, 0 ≤ s → s < t → m 352 s = rcnt sp H 0 s ∧ (m 353 s = 0 ↔ ¬ 0 < rcnt sp H 0 s)) → 302 - t ≤ (n : Int) → wp_X12_fillsRows_2 S K n 336 u1 t m := by
    intro n
    induction n with
    | zero => intro t m _ _ _ _ _ h; exfalso; omega
    | succ n ih =>
      intro t m hm t0 t1 F hc hn
      refine u_X12_fillsRows_2 ?_
      refine g_C ?_
      refine g_if (fun w => ?_) (fun w => ?_)
      · refine g_C ?_
        refine ⟨13, main 13 1 m hm (by decide) (by omega) F (fun k' t' a1 a2 a3 a4 => ?_) (by decide)⟩
        rw [show k' = 0 by omega, show 301 * 0 + t' = t' by omega]
        exact hc t' a3 (by omega)
      · have nx : ∀ x y : Int, (y = 0 ∨ y = 1) → -2147483648 ≤ x → x ≤ 2147483647 → x = rcnt sp H 0 t → (y = 0 ↔ ¬ 0 < rcnt sp H 0 t) → ∀ m2 : Mm, Inv X S m2 → m2 = up m 352 t x → wp_X12_fillsRows_38 S (fun a0 a1 a2 M => wp_X12_fillsRows_2 S K n a0 a1 a2 M) K 336 u1 t 353 t y m2 := by
          intro x y yz x0 x1 ex ey m2 hm2 e2
          have f2 : ∀ c p : Int, ¬ (c = 352 ∧ p = t) → m2 c p = m c p := fun c p q => (congrFun (congrFun e2 _) _).trans (up_ne q)
          have x2 : m2 352 t = x := (congrFun (congrFun e2 _) _).trans (up_at _ _ _ _)
          refine u_X12_fillsRows_38 ?_
          refine g_stz hS.k353 hS.l353 (by omega) (by omega) (by omega) (hm2.wa_353 (by omega) (by omega) (by omega) (by omega)) (fun m3 e3 hm3 => ?_)
          have f3 : ∀ c p : Int, ¬ (c = 353 ∧ p = t) → m3 c p = m2 c p := fun c p q => (congrFun (congrFun e3 _) _).trans (up_ne q)
          have x3 : m3 353 t = y := (congrFun (congrFun e3 _) _).trans (up_at _ _ _ _)
          refine g_A (by omega) (by omega) ?_
          refine ih (t + 1) m3 hm3 (by omega) (by omega) (fun c p q1 q2 => by rw [f3 c p (by omega), f2 c p (by omega)]; exact F c p q1 q2) (fun s s0 s1 => ?_) (by omega)
          by_cases e : s = t
          · rw [e, x3, f3 352 t (by omega), x2]
            exact ⟨ex, ey⟩
          · rw [f3 352 s (by omega), f2 352 s (by omega), f3 353 s (by omega), f2 353 s (by omega)]
            exact hc s s0 (by omega)
        refine g_getr 31 352 rfl hS.k336 hm.f_336_31 (by decide) ?_
        refine g_if (fun w2 => ?_) (fun w2 => ?_)
        · have c0 : rcnt sp H 0 t = 0 := by
            show (if t = 0 then (1 : Int) else 0) = 0
            rw [if_neg w2]
          refine g_C ?_
          refine u_X12_fillsRows_23 ?_
          refine g_st hS.k352 hS.l352 (by omega) (by omega) (hm.wa_352 (by omega) (by omega) (by omega) (by omega)) (fun m2 e2 hm2 => ?_)
          refine g_getr 32 353 rfl hS.k336 hm2.f_336_32 (by decide) ?_
          refine g_ifT w2 (g_C ?_)
          exact nx 0 0 (Or.inl rfl) (by decide) (by decide) c0.symm ⟨fun _ => by rw [c0]; decide, fun _ => rfl⟩ m2 hm2 e2
        · have c0 : rcnt sp H 0 t = 1 := by
            show (if t = 0 then (1 : Int) else 0) = 1
            rw [if_pos (by omega)]
          refine g_C ?_
          refine u_X12_fillsRows_23 ?_
          refine g_st hS.k352 hS.l352 (by omega) (by omega) (hm.wa_352 (by omega) (by omega) (by omega) (by omega)) (fun m2 e2 hm2 => ?_)
          refine g_getr 32 353 rfl hS.k336 hm2.f_336_32 (by decide) ?_
          refine g_ifF w2 (g_C ?_)
          exact nx 1 1 (Or.inr rfl) (by decide) (by decide) c0.symm ⟨fun z => absurd z (by decide), fun z => absurd (show 0 < rcnt sp H 0 t by rw [c0]; decide) z⟩ m2 hm2 e2
  exact ⟨302, first 302 0 m0 hm0 (by decide) (by decide) (fun _ _ _ _ => rfl) (fun s s0 s1 => absurd s1 (by omega)) (by decide)⟩
/-- the first HAND that leaves what k more can come to -/
def Lh (sp : Int → Int) (H : Nat) (k : Nat) (l h : Int) : Prop := (0 ≤ h ∧ h < H ∧ sp h ≤ l ∧ 0 < rcnt sp H k (l - sp h)) ∧ ∀ g : Int, 0 ≤ g → g < h → ¬ (sp g ≤ l ∧ 0 < rcnt sp H k (l - sp g))
theorem Lh.uniq {sp : Int → Int} {H k : Nat} {l g h : Int} (a : Lh sp H k l g) (b : Lh sp H k l h) : g = h := by
  by_cases e : g < h
  · exact absurd ⟨a.1.2.2.1, a.1.2.2.2⟩ (b.2 g a.1.1 e)
  · by_cases e2 : h < g
    · exact absurd ⟨b.1.2.2.1, b.1.2.2.2⟩ (a.2 h b.1.1 e2)
    · omega
/-- the HAND of the first row in the a-th HOUR, n HOURS being left at its begin -/
def Fh (sp : Int → Int) (H : Nat) : Nat → Int → Int → Int → Prop
  | 0, n, l, r => Lh sp H (n - 1).toNat l r
  | a + 1, n, l, r => ∃ h : Int, Lh sp H (n - 1).toNat l h ∧ Fh sp H a (n - 1) (l - sp h) r
theorem Fh.uniq {sp : Int → Int} {H : Nat} : ∀ (a : Nat) (n l g h : Int), Fh sp H a n l g → Fh sp H a n l h → g = h := by
  intro a
  induction a with
  | zero => intro n l g h x y; exact Lh.uniq x y
  | succ a ih =>
    intro n l g h x y
    obtain ⟨p, p1, p2⟩ := x
    obtain ⟨q, q1, q2⟩ := y
    have e := p1.uniq q1
    subst e
    exact ih _ _ _ _ p2 q2
/-- HANDS as bits -/
def hb (P : Int → Prop) [DecidablePred P] : Nat → Int
  | 0 => 0
  | h + 1 => if P (h : Int) then iOr (hb P h) (iShl 1 (h : Int)) else hb P h
theorem or_b : ∀ b : Nat, b < 32 → ∀ h : Nat, h < 5 → iOr (iOr (b : Int) (iShl 1 (h : Int))) (iShl 1 (h : Int)) = iOr (b : Int) (iShl 1 (h : Int)) ∧ iOr (b : Int) 0 = (b : Int) ∧ 0 ≤ iOr (b : Int) (iShl 1 (h : Int)) ∧ iOr (b : Int) (iShl 1 (h : Int)) < 32 := by decide +kernel
theorem hb_b {P : Int → Prop} [DecidablePred P] : ∀ h : Nat, h ≤ 5 → 0 ≤ hb P h ∧ hb P h < 32 := by
  intro h
  induction h with
  | zero => intro _; exact ⟨Int.le_refl 0, by show (0 : Int) < 32; decide⟩
  | succ h ih =>
    intro h5
    obtain ⟨a, b⟩ := ih (by omega)
    have q := or_b (hb P h).toNat (by omega) h (by omega)
    rw [Int.toNat_of_nonneg a] at q
    show 0 ≤ (if P (h : Int) then iOr (hb P h) (iShl 1 (h : Int)) else hb P h) ∧ (if P (h : Int) then iOr (hb P h) (iShl 1 (h : Int)) else hb P h) < 32
    split
    · exact ⟨q.2.2.1, q.2.2.2⟩
    · exact ⟨a, b⟩
