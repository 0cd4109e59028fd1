/-- what ROWS answers, of what is told -/
abbrev rOK (n t w : Int) : Prop := 1 ≤ n ∧ n ≤ 12 ∧ 0 ≤ t ∧ t ≤ 300 ∧ ((-1 ≤ w ∧ w ≤ 11) ∨ (20 ≤ w ∧ w ≤ 31))
abbrev rB (sp : Int → Int) (n t h : Int) (H : Nat) : Prop := sp h ≤ t ∧ 0 < rcnt sp H (n - 1).toNat (t - sp h)
def RA (sp : Int → Int) (H : Nat) (pl n t w r : Int) : Prop := wIf (pl = 0 ∨ ¬ rOK n t w) (r = -3) (wIf (w = -1) (r = rcnt sp H n.toNat t) (wIf (¬ 0 < rcnt sp H n.toNat t ∨ n ≤ (if w < 20 then w else w - 20)) (r = -2) (wIf (w < 20) (Fh sp H w.toNat n t r) (r = hb (fun h => rB sp n t h H) H))))
theorem RA.uniq {sp : Int → Int} {H : Nat} {pl n t w r s : Int} (a : RA sp H pl n t w r) (b : RA sp H pl n t w s) : r = s := if_dt a b (fun x y => x.trans y.symm) (fun a b => if_dt a b (fun x y => x.trans y.symm) (fun a b => if_dt a b (fun x y => x.trans y.symm) (fun a b => if_dt a b (fun x y => Fh.uniq _ _ _ _ _ x y) (fun x y => x.trans y.symm))))
theorem rem20' : ∀ k : Nat, k < 12 → iRem (k : Int) 20 = (k : Int) ∧ iRem ((k : Int) + 20) 20 = (k : Int) := by decide +kernel
theorem zr_firstHand {X : Mm} {S : Sh} {m : Mm} {K : Int → Mm → Prop} {sp : Int → Int} {H : Nat} {u1 u2 u3 : Int} (hS : Shp S) (hm : Inv X S m) (h1 : 1 ≤ u1) (h1' : u1 ≤ 12) (h2 : 0 ≤ u2) (h2' : u2 ≤ 300) (h3 : 0 ≤ u3) (h3' : u3 < u1) (H5 : H ≤ 5) (hs : ∀ i : Int, 0 ≤ i → i < H → m 346 (13 + 5 * i) = sp i) (sb : ∀ i : Int, 0 ≤ i → i < H → 0 ≤ sp i ∧ sp i ≤ 20) (hr : RTb sp H m u1) (hx : 0 < rcnt sp H u1.toNat u2) (hk : ∀ r : Int, Fh sp H u3.toNat u1 u2 r → K r m) : wp_X12_firstHand S m 336 u1 u2 u3 K := by
  refine u_X12_firstHand ?_
  refine g_C ?_
  refine g_C ?_
  have L : ∀ (n : Nat) (left hand k : Int), 0 ≤ k → k ≤ u3 + 1 → 0 ≤ left → left ≤ 300 → (k ≤ u3 → 0 < rcnt sp H (u1 - k).toNat left) → (k ≤ u3 → ∀ r : Int, Fh sp H (u3 - k).toNat (u1 - k) left r → Fh sp H u3.toNat u1 u2 r) → (k = u3 + 1 → Fh sp H u3.toNat u1 u2 hand) → u3 + 2 - k ≤ (n : Int) → wp_X12_firstHand_9 S K n 336 u1 u3 left hand k m := by
    intro n
    induction n with
    | zero => intro left hand k _ _ _ _ _ _ _ h; exfalso; omega
    | succ n ih =>
      intro left hand k k0 k1 l0 l1 hl hF hE hn
      refine u_X12_firstHand_9 ?_
      refine g_if (fun w => hk _ (hE (by omega))) (fun w => ?_)
      refine g_C ?_
      have hl' := hl (by omega)
      rw [show (u1 - k).toNat = (u1 - k - 1).toNat + 1 by omega] at hl'
      obtain ⟨g, g0, g1, g2, g3⟩ := rcnt_pos.mp hl'
      have inn : ∀ (n2 : Nat) (h : Int), 0 ≤ h → h ≤ g → (∀ i : Int, 0 ≤ i → i < h → ¬ (sp i ≤ left ∧ 0 < rcnt sp H (u1 - k - 1).toNat (left - sp i))) → g + 1 - h ≤ (n2 : Int) → wp_X12_firstHand_18 S (fun a0 a1 a2 a3 a4 a5 M => wp_X12_firstHand_9 S K n a0 a1 a2 a3 a4 a5 M) K n2 336 u1 u3 left h k m := by
        intro n2
        induction n2 with
        | zero => intro h _ _ _ hh; exfalso; omega
        | succ n2 ih2 =>
          intro h j0 j1 hno hh
          have hlt : h < H := by omega
          have sh := sb h j0 hlt
          refine u_X12_firstHand_18 ?_
          have nx : ¬ (sp h ≤ left ∧ 0 < rcnt sp H (u1 - k - 1).toNat (left - sp h)) → wp_X12_firstHand_57 S (fun a0 a1 a2 a3 a4 a5 M => wp_X12_firstHand_9 S K n a0 a1 a2 a3 a4 a5 M) (fun a0 a1 a2 a3 a4 a5 M => wp_X12_firstHand_18 S (fun a0 a1 a2 a3 a4 a5 M => wp_X12_firstHand_9 S K n a0 a1 a2 a3 a4 a5 M) K n2 a0 a1 a2 a3 a4 a5 M) K 336 u1 u3 left h k m := by
            intro ne
            have hg : ¬ h = g := fun e => ne (by rw [e]; exact ⟨g2, g3⟩)
            refine u_X12_firstHand_57 ?_
            refine g_A (by omega) (by omega) ?_
            refine ih2 (h + 1) (by omega) (by omega) (fun i i0 i1 => ?_) (by omega)
            by_cases e : i = h
            · rw [e]; exact ne
            · exact hno i i0 (by omega)
          refine g_C ?_
          refine ⟨hS.k336, ?_⟩
          refine zr_speed hS hm hs H5 j0 hlt ?_
          refine g_if (fun w2 => nx (fun z => by have := z.1; omega)) (fun w2 => ?_)
          have tb := (hr (u1 - k - 1) (left - sp h) (by omega) (by omega) (by omega) (by omega)).2
          refine g_getr 32 353 rfl hS.k336 hm.f_336_32 (by decide) ?_
          refine g_C ?_
          refine g_S (by omega) (by omega) ?_
          refine g_S (by omega) (by omega) ?_
          refine g_C ?_
          refine ⟨hS.k336, ?_⟩
          refine zr_speed hS hm hs H5 j0 hlt ?_
          refine g_S (by omega) (by omega) ?_
          refine zl_spot (by omega) (by omega) (by omega) (by omega) ?_
          refine g_ldu hS.k353 hS.l353 (by omega) (by omega) (fun x ex => ?_)
          rw [show u1 - 1 - k = u1 - k - 1 by omega] at ex
          refine g_if (fun w3 => ?_) (fun w3 => ?_)
          · have yc : 0 < rcnt sp H (u1 - k - 1).toNat (left - sp h) := by
              by_cases y : 0 < rcnt sp H (u1 - k - 1).toNat (left - sp h)
              · exact y
              · exact absurd (ex.trans (tb.mpr y)) w3
            have lh : Lh sp H (u1 - k - 1).toNat left h := ⟨⟨j0, hlt, by omega, yc⟩, hno⟩
            refine g_C ?_
            refine ⟨hS.k336, ?_⟩
            refine zr_speed hS hm hs H5 j0 hlt ?_
            refine g_S (by omega) (by omega) ?_
            refine g_A (by omega) (by omega) ?_
            refine ih (left - sp h) h (k + 1) (by omega) (by omega) (by omega) (by omega) (fun _ => by rw [show u1 - (k + 1) = u1 - k - 1 by omega]; exact yc) (fun kk r fr => hF (by omega) r ?_) (fun kk => hF (by omega) h ?_) (by omega)
            · rw [show (u3 - k).toNat = (u3 - (k + 1)).toNat + 1 by omega]
              exact ⟨h, lh, by rw [show u1 - k - 1 = u1 - (k + 1) by omega]; exact fr⟩
            · rw [show (u3 - k).toNat = 0 by omega]
              exact lh
          · exact nx (fun z => tb.mp (by omega) z.2)
      exact ⟨(g + 1).toNat, inn (g + 1).toNat 0 (by decide) g0 (fun i i0 i1 => absurd i1 (by omega)) (by omega)⟩
  exact ⟨(u3 + 2).toNat, L (u3 + 2).toNat u2 0 0 (by decide) (by omega) h2 h2' (fun _ => by rw [Int.sub_zero]; exact hx) (fun _ r fr => by rw [Int.sub_zero, Int.sub_zero] at fr; exact fr) (fun z => by exfalso; omega) (by omega)⟩
theorem zr_rows12 {X : Mm} {S : Sh} {m0 : Mm} {K : Int → Mm → Prop} {sp : Int → Int} {H : Nat} {u1 u2 u3 : Int} (hS : Shp S) (hm0 : Inv X S m0) (hH : m0 346 4 = (H : Int)) (hs : ∀ i : Int, 0 ≤ i → i < H → m0 346 (13 + 5 * i) = sp i) (sb : ∀ i : Int, 0 ≤ i → i < H → 0 ≤ sp i ∧ sp i ≤ 20) (hk : ∀ (r : Int) (M1 : Mm), Inv X S M1 → (∀ c p : Int, ¬ c = 352 → ¬ c = 353 → M1 c p = m0 c p) → RA sp H (m0 346 0) u1 u2 u3 r → K r M1) : wp_X12_rows S m0 336 u1 u2 u3 K := by
  have b0 := hm0.f_346_0
  have b4 := hm0.f_346_4
  have H5 : H ≤ 5 := by omega
  have no : (m0 346 0 = 0 ∨ ¬ rOK u1 u2 u3) → K (-3) m0 := fun z => hk _ m0 hm0 (fun _ _ _ _ => rfl) (g_ifT z rfl)
  have go : ¬ m0 346 0 = 0 → rOK u1 u2 u3 → wp_X12_rows_62 S K 336 u1 u2 u3 m0 := by
    intro p0 ok
    obtain ⟨a1, a2, a3, a4, a5⟩ := id ok
    have nb : ¬ (m0 346 0 = 0 ∨ ¬ rOK u1 u2 u3) := fun z => by rcases z with z | z; exact p0 z; exact z ok
    refine u_X12_rows_62 ?_
    refine ⟨hS.k336, ?_⟩
    refine zr_fillsRows (sp := sp) (H := H) hS hm0 a1 a2 hH hs sb (fun m hm F hr => ?_)
    have hs' : ∀ i : Int, 0 ≤ i → i < H → m 346 (13 + 5 * i) = sp i := fun i i0 i1 => (F 346 _ (by omega) (by omega)).trans (hs i i0 i1)
    have tb := hr u1 u2 (by omega) (by omega) a3 a4
    refine g_C ?_
    refine g_if (fun w => ?_) (fun w => ?_)
    · refine g_getr 32 353 rfl hS.k336 hm.f_336_32 (by decide) ?_
      refine zl_spot (by omega) (by omega) (by omega) (by omega) ?_
      refine g_ldu hS.k353 hS.l353 (by omega) (by omega) (fun x ex => ?_)
      refine g_if (fun w2 => g_C (hk _ m hm F (g_ifF nb (g_ifF w (g_ifT (Or.inl (tb.2.mp (by omega))) rfl))))) (fun w2 => ?_)
      have yc : 0 < rcnt sp H u1.toNat u2 := by
        by_cases y : 0 < rcnt sp H u1.toNat u2
        · exact y
        · exact absurd (ex.trans (tb.2.mpr y)) w2
      have at20 : iRem u3 20 = (if u3 < 20 then u3 else u3 - 20) := by
        rcases a5 with a | a
        · have q := (rem20' u3.toNat (by omega)).1
          rw [Int.toNat_of_nonneg (by omega)] at q
          rw [q, if_pos (by omega)]
        · have q := (rem20' (u3 - 20).toNat (by omega)).2
          rw [Int.toNat_of_nonneg (by omega), show u3 - 20 + 20 = u3 by omega] at q
          rw [q, if_neg (by omega)]
      refine g_C ?_
      refine ⟨by decide, ?_⟩
      rw [at20]
      refine g_if (fun w3 => ?_) (fun w3 => g_C (hk _ m hm F (g_ifF nb (g_ifF w (g_ifT (Or.inr (by omega)) rfl)))))
      have ng : ¬ (¬ 0 < rcnt sp H u1.toNat u2 ∨ u1 ≤ (if u3 < 20 then u3 else u3 - 20)) := fun z => by rcases z with z | z; exact z yc; omega
      refine g_C ?_
      refine g_if (fun w4 => ?_) (fun w4 => ?_)
      · refine g_C ?_
        refine g_C ?_
        have L : ∀ (n : Nat) (h : Nat), h ≤ H → 6 - (h : Int) ≤ (n : Int) → wp_X12_rows_127 S K n 336 u1 u2 (hb (fun h => rB sp u1 u2 h H) h) (h : Int) m := by
          intro n
          induction n with
          | zero => intro h _ hh; exfalso; omega
          | succ n ih =>
            intro h hle hh
            have bb := hb_b (P := fun h => rB sp u1 u2 h H) h (by omega)
            refine u_X12_rows_127 ?_
            refine g_getr 20 346 rfl hS.k336 hm.f_336_20 (by decide) ?_
            refine g_C ?_
            refine g_ldu hS.k346 hS.l346 (by omega) (by omega) (fun Hv eH => ?_)
            rw [F 346 4 (by omega) (by omega), hH] at eH
            refine g_if (fun w5 => ?_) (fun w5 => ?_)
            · rw [show h = H by omega]
              exact hk _ m hm F (g_ifF nb (g_ifF w (g_ifF ng (g_ifF (by omega) rfl))))
            have hlt : (h : Int) < H := by omega
            have sh := sb (h : Int) (by omega) hlt
            have ob := or_b (hb (fun h => rB sp u1 u2 h H) h).toNat (by omega) h (by omega)
            rw [Int.toNat_of_nonneg bb.1] at ob
            have nono : ¬ rB sp u1 u2 (h : Int) H → wp_X12_rows_181 S (fun a0 a1 a2 a3 a4 M => wp_X12_rows_127 S K n a0 a1 a2 a3 a4 M) K 336 u1 u2 (h : Int) (hb (fun h => rB sp u1 u2 h H) h) m := by
              intro nr
              refine u_X12_rows_181 ?_
              refine g_C ?_
              refine u_X12_rows_182 ?_
              refine g_Oe (fun z ez => ?_)
              refine g_A (by omega) (by omega) ?_
              rw [ez, ob.2.1, show (h : Int) + 1 = ((h + 1 : Nat) : Int) by omega]
              have e : hb (fun h => rB sp u1 u2 h H) (h + 1) = hb (fun h => rB sp u1 u2 h H) h := if_neg nr
              rw [← e]
              exact ih (h + 1) (by omega) (by omega)
            refine g_C ?_
            refine ⟨hS.k336, ?_⟩
            refine zr_speed hS hm hs' H5 (by omega) hlt ?_
            refine g_if (fun w6 => nono (fun z => by have := z.1; omega)) (fun w6 => ?_)
            have tb2 := (hr (u1 - 1) (u2 - sp (h : Int)) (by omega) (by omega) (by omega) (by omega)).2
            refine g_getr 32 353 rfl hS.k336 hm.f_336_32 (by decide) ?_
            refine g_C ?_
            refine g_S (by omega) (by omega) ?_
            refine g_C ?_
            refine ⟨hS.k336, ?_⟩
            refine zr_speed hS hm hs' H5 (by omega) hlt ?_
            refine g_S (by omega) (by omega) ?_
            refine zl_spot (by omega) (by omega) (by omega) (by omega) ?_
            refine g_ldu hS.k353 hS.l353 (by omega) (by omega) (fun y ey => ?_)
            refine g_if (fun w7 => nono (fun z => tb2.mp (by omega) z.2)) (fun w7 => ?_)
            have yr : rB sp u1 u2 (h : Int) H := ⟨by omega, by
              by_cases z : 0 < rcnt sp H (u1 - 1).toNat (u2 - sp (h : Int))
              · exact z
              · exact absurd (ey.trans (tb2.mpr z)) w7⟩
            refine g_C ?_
            refine g_Oe (fun z ez => ?_)
            refine u_X12_rows_182 ?_
            refine g_Oe (fun z2 ez2 => ?_)
            refine g_A (by omega) (by omega) ?_
            rw [ez2, ez, show (h : Int) + 1 = ((h + 1 : Nat) : Int) by omega]
            have e : hb (fun h => rB sp u1 u2 h H) (h + 1) = iOr (hb (fun h => rB sp u1 u2 h H) h) (iShl 1 (h : Int)) := if_pos yr
            rw [← e]
            exact ih (h + 1) (by omega) (by omega)
        exact ⟨6, L 6 0 (by omega) (by decide)⟩
      · refine ⟨hS.k336, ?_⟩
        rw [if_pos (by omega)] at w3 ng
        exact zr_firstHand hS hm a1 a2 a3 a4 (by omega) w3 H5 hs' sb hr yc (fun r fr => hk r m hm F (g_ifF nb (g_ifF w (g_ifF (by rw [if_pos (by omega)]; exact ng) (g_ifT (by omega) fr)))))
    · refine g_getr 31 352 rfl hS.k336 hm.f_336_31 (by decide) ?_
      refine zl_spot (by omega) (by omega) (by omega) (by omega) ?_
      refine g_ldu hS.k352 hS.l352 (by omega) (by omega) (fun x ex => ?_)
      exact hk _ m hm F (g_ifF nb (g_ifT (by omega) (ex.trans tb.1)))
  refine u_X12_rows ?_
  refine ⟨hS.k336, ?_⟩
  refine u_X12_isDairy ?_
  refine g_getr 20 346 rfl hS.k336 hm0.f_336_20 (by decide) ?_
  refine g_C ?_
  refine g_ldu hS.k346 hS.l346 (by omega) (by omega) (fun v ev => ?_)
  refine g_if (fun w => g_C ⟨by decide, g_ifT rfl (g_C (no (Or.inl (by omega))))⟩) (fun w => g_C ⟨by decide, g_ifF (by decide) ?_⟩)
  have p0 : ¬ m0 346 0 = 0 := by omega
  refine g_C ?_
  refine g_C ?_
  refine g_C ?_
  refine z_in (fun a1 a2 => g_ifF (by decide) ?_) (fun z => g_ifT rfl (g_C (no (Or.inr (fun o => z ⟨o.1, o.2.1⟩)))))
  refine g_C ?_
  refine g_C ?_
  refine g_C ?_
  refine z_in (fun a3 a4 => g_ifF (by decide) ?_) (fun z => g_ifT rfl (g_C (no (Or.inr (fun o => z ⟨o.2.2.1, o.2.2.2.1⟩)))))
  refine g_C ?_
  refine g_C ?_
  refine g_C ?_
  refine z_in (fun a5 a6 => g_ifT (by decide) (go p0 ⟨a1, a2, a3, a4, Or.inl ⟨a5, a6⟩⟩)) (fun z => g_ifF (by decide) ?_)
  refine g_C ?_
  refine g_C ?_
  refine g_C ?_
  exact z_in (fun a7 a8 => g_ifT (by decide) (go p0 ⟨a1, a2, a3, a4, Or.inr ⟨a7, a8⟩⟩)) (fun z2 => g_ifF (by decide) (g_C (no (Or.inr (fun o => by rcases o.2.2.2.2 with y | y; exact z y; exact z2 y)))))
