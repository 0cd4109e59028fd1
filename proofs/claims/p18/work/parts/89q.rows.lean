theorem rem20 : ∀ k : Nat, k < 12 → iRem (k : Int) 20 = (k : Int) := by decide +kernel
theorem zl_spot {S : Sh} {m : Mm} {K : Int → Mm → Prop} {a b : Int} (a0 : 0 ≤ a) (a1 : a ≤ 12) (b0 : -400 ≤ b) (b1 : b ≤ 400) (h : K (301 * a + b) m) : wp_X12_spot S m a b K := by
  refine u_X12_spot ?_
  refine g_C ?_
  refine g_M (by omega) (by omega) ?_
  refine g_A (by omega) (by omega) ?_
  exact h
theorem zl_speed {X : Mm} {S : Sh} {m : Mm} {K : Int → Mm → Prop} {h : Int} (hS : Shp S) (hm : Inv X S m) (h0 : 0 ≤ h) (h1 : h ≤ 4) (hk : 0 ≤ m 346 (13 + 5 * h) → m 346 (13 + 5 * h) ≤ 20 → K (m 346 (13 + 5 * h)) m) : wp_X12_handOf S m 336 h 3 K := by
  have q : ∀ n : Nat, n < 5 → 13 + 5 * n < pT.getD 346 0 ∧ bd 346 (13 + 5 * n) = (0, 20) := by decide +kernel
  obtain ⟨q1, q2⟩ := q h.toNat (by omega)
  have q3 := hm.rd 346 (13 + 5 * h.toNat) 0 20 (by decide) q1 q2 (by decide)
  rw [show ((346 : Nat) : Int) = 346 from rfl, show ((13 + 5 * h.toNat : Nat) : Int) = 13 + 5 * h by omega] at q3
  refine u_X12_handOf ?_
  refine g_getr 20 346 rfl hS.k336 hm.f_336_20 (by decide) ?_
  refine g_C ?_
  refine g_C ?_
  refine g_M (by omega) (by omega) ?_
  refine g_A (by omega) (by omega) ?_
  refine g_A (by omega) (by omega) ?_
  refine g_ldu hS.k346 hS.l346 (by omega) (by omega) (fun v ev => ?_)
  rw [ev, show 10 + 5 * h + 3 = 13 + 5 * h by omega]
  exact hk q3.1 q3.2
/-- a hand by which a row comes from (k - 1, ..) to (k, t) -/
def Via (M : Mm) (k t h : Int) : Prop := 0 ≤ h ∧ h < M 346 4 ∧ M 346 (13 + 5 * h) ≤ t ∧ ¬ M 353 (301 * (k - 1) + (t - M 346 (13 + 5 * h))) = 0
def HR (M : Mm) (n : Int) : Prop := ∀ k t : Int, 1 ≤ k → k ≤ n → 0 ≤ t → t ≤ 300 → ¬ M 353 (301 * k + t) = 0 → ∃ h : Int, Via M k t h
theorem zf_fillsRows {X : Mm} {S : Sh} {m0 : Mm} {K : Mm → Prop} {u1 : Int} (hS : Shp S) (hm0 : Inv X S m0) (h1 : 1 ≤ u1) (h2 : u1 ≤ 12) (hk : ∀ M1 : Mm, Inv X S M1 → HR M1 u1 → K M1) : wp_X12_fillsRows S m0 336 u1 K := by
  refine u_X12_fillsRows ?_
  refine g_C ?_
  have main : ∀ (n : Nat) (k : Int) (m : Mm), Inv X S m → 1 ≤ k → k ≤ u1 + 1 → HR m (k - 1) → 14 - k ≤ (n : Int) → wp_X12_fillsRows_47 S K n 336 u1 k m := by
    intro n
    induction n with
    | zero => intro k m _ _ _ _ h; exfalso; omega
    | succ n ih =>
      intro k m hm k0 k1 hr hn
      refine u_X12_fillsRows_47 ?_
      refine g_if (fun w => ?_) (fun w => ?_)
      · exact hk m hm (by rw [show u1 = k - 1 by omega]; exact hr)
      · refine g_C ?_
        have row : ∀ (n2 : Nat) (t : Int) (m' : Mm), Inv X S m' → 0 ≤ t → t ≤ 301 → HR m' (k - 1) → (∀ s : Int, 0 ≤ s → s < t → ¬ m' 353 (301 * k + s) = 0 → ∃ h : Int, Via m' k s h) → 302 - t ≤ (n2 : Int) → wp_X12_fillsRows_54 S (fun a0 a1 a2 M => wp_X12_fillsRows_47 S K n a0 a1 a2 M) K n2 336 u1 k t m' := by
          intro n2
          induction n2 with
          | zero => intro t m' _ _ _ _ _ h; exfalso; omega
          | succ n2 ih2 =>
            intro t m' hm' t0 t1 hr' hc hn2
            have b4 := hm'.f_346_4
            refine u_X12_fillsRows_54 ?_
            refine g_C ?_
            refine g_if (fun w2 => ?_) (fun w2 => ?_)
            · refine g_A (by omega) (by omega) ?_
              refine ih (k + 1) m' hm' (by omega) (by omega) (fun k' t' a1 a2 a3 a4 a5 => ?_) (by omega)
              by_cases e : k' = k
              · rw [e] at a5 ⊢
                exact hc t' a3 (by omega) a5
              · exact hr' k' t' a1 (by omega) a3 a4 a5
            · refine g_C ?_
              refine g_C ?_
              refine g_C ?_
              have inn : ∀ (n3 : Nat) (all is h : Int), 0 ≤ is → is ≤ 1 → 0 ≤ h → h ≤ 5 → (is = 0 ∨ ∃ g : Int, Via m' k t g) → 6 - h ≤ (n3 : Int) → wp_X12_fillsRows_70 S (fun a0 a1 a2 M => wp_X12_fillsRows_47 S K n a0 a1 a2 M) (fun a0 a1 a2 a3 M => wp_X12_fillsRows_54 S (fun a0 a1 a2 M => wp_X12_fillsRows_47 S K n a0 a1 a2 M) K n2 a0 a1 a2 a3 M) K n3 336 u1 k t all is h m' := by
                intro n3
                induction n3 with
                | zero => intro all is h _ _ _ _ _ hh; exfalso; omega
                | succ n3 ih3 =>
                  intro all is h i0 i1 g0 g1 hv hn3
                  refine u_X12_fillsRows_70 ?_
                  refine g_getr 20 346 rfl hS.k336 hm'.f_336_20 (by decide) ?_
                  refine g_C ?_
                  refine g_ldu hS.k346 hS.l346 (by omega) (by omega) (fun H eH => ?_)
                  refine g_if (fun w3 => ?_) (fun w3 => ?_)
                  · refine g_getr 31 352 rfl hS.k336 hm'.f_336_31 (by decide) ?_
                    refine zl_spot (by omega) (by omega) (by omega) (by omega) ?_
                    refine g_C ?_
                    refine g_D64 (by decide) (fun v bv cv => ?_)
                    refine g_w32w (fun v2 bv2 cv2 => ?_)
                    refine g_st hS.k352 hS.l352 (by omega) (by omega) (hm'.wa_352 (by omega) (by omega) bv2 cv2) (fun m2 e2 hm2 => ?_)
                    have f2 : ∀ c p : Int, ¬ (c = 352 ∧ p = 301 * k + t) → m2 c p = m' c p := fun c p q => (congrFun (congrFun e2 _) _).trans (up_ne q)
                    refine g_getr 32 353 rfl hS.k336 hm2.f_336_32 (by decide) ?_
                    refine zl_spot (by omega) (by omega) (by omega) (by omega) ?_
                    refine g_stz hS.k353 hS.l353 (by omega) (by omega) (by omega) (hm2.wa_353 (by omega) (by omega) i0 i1) (fun m3 e3 hm3 => ?_)
                    have f3 : ∀ c p : Int, ¬ (c = 353 ∧ p = 301 * k + t) → m3 c p = m2 c p := fun c p q => (congrFun (congrFun e3 _) _).trans (up_ne q)
                    have x3 : m3 353 (301 * k + t) = is := (congrFun (congrFun e3 _) _).trans (up_at _ _ _ _)
                    have F : ∀ c p : Int, ¬ c = 352 → ¬ (c = 353 ∧ p = 301 * k + t) → m3 c p = m' c p := fun c p q1 q2 => (f3 c p q2).trans (f2 c p (by omega))
                    have sp : ∀ g : Int, 0 ≤ g → g < m' 346 4 → 0 ≤ m' 346 (13 + 5 * g) := by
                      intro g ga gb
                      have q : ∀ n : Nat, n < 5 → 13 + 5 * n < pT.getD 346 0 ∧ bd 346 (13 + 5 * n) = (0, 20) := by decide +kernel
                      obtain ⟨q1, q2⟩ := q g.toNat (by omega)
                      have q3 := hm'.rd 346 (13 + 5 * g.toNat) 0 20 (by decide) q1 q2 (by decide)
                      rw [show ((346 : Nat) : Int) = 346 from rfl, show ((13 + 5 * g.toNat : Nat) : Int) = 13 + 5 * g by omega] at q3
                      exact q3.1
                    have via : ∀ k' t' g : Int, k' ≤ k → 0 ≤ t' → t' ≤ 300 → Via m' k' t' g → Via m3 k' t' g := by
                      intro k' t' g ka ta tb v
                      obtain ⟨v1, v2, v3, v4⟩ := v
                      have sg := sp g v1 v2
                      unfold Via
                      rw [F 346 4 (by omega) (by omega), F 346 (13 + 5 * g) (by omega) (by omega), F 353 _ (by omega) (by omega)]
                      exact ⟨v1, v2, v3, v4⟩
                    refine g_A (by omega) (by omega) ?_
                    refine ih2 (t + 1) m3 hm3 (by omega) (by omega) (fun k' t' a1 a2 a3 a4 a5 => ?_) (fun s s0 s1 s2 => ?_) (by omega)
                    · rw [F 353 _ (by omega) (by omega)] at a5
                      obtain ⟨g, hg⟩ := hr' k' t' a1 a2 a3 a4 a5
                      exact ⟨g, via k' t' g (by omega) a3 a4 hg⟩
                    · by_cases e : s = t
                      · rw [e, x3] at s2
                        obtain ⟨g, hg⟩ := hv.resolve_left s2
                        rw [e]
                        exact ⟨g, via k t g (by omega) t0 (by omega) hg⟩
                      · rw [F 353 _ (by omega) (by omega)] at s2
                        obtain ⟨g, hg⟩ := hc s s0 (by omega) s2
                        exact ⟨g, via k s g (by omega) s0 (by omega) hg⟩
                  · have nx : ∀ all' is' : Int, 0 ≤ is' → is' ≤ 1 → (is' = 0 ∨ ∃ g : Int, Via m' k t g) → wp_X12_fillsRows_147 S (fun a0 a1 a2 M => wp_X12_fillsRows_47 S K n a0 a1 a2 M) (fun a0 a1 a2 a3 M => wp_X12_fillsRows_54 S (fun a0 a1 a2 M => wp_X12_fillsRows_47 S K n a0 a1 a2 M) K n2 a0 a1 a2 a3 M) (fun a0 a1 a2 a3 a4 a5 a6 M => wp_X12_fillsRows_70 S (fun a0 a1 a2 M => wp_X12_fillsRows_47 S K n a0 a1 a2 M) (fun a0 a1 a2 a3 M => wp_X12_fillsRows_54 S (fun a0 a1 a2 M => wp_X12_fillsRows_47 S K n a0 a1 a2 M) K n2 a0 a1 a2 a3 M) K n3 a0 a1 a2 a3 a4 a5 a6 M) K 336 u1 k t all' is' h m' := by
                      intro all' is' j0 j1 jv
                      refine u_X12_fillsRows_147 ?_
                      refine g_A (by omega) (by omega) ?_
                      exact ih3 all' is' (h + 1) j0 j1 (by omega) (by omega) jv (by omega)
                    refine g_C ?_
                    refine ⟨hS.k336, ?_⟩
                    refine zl_speed hS hm' g0 (by omega) (fun p0 p1 => ?_)
                    refine g_S (by omega) (by omega) ?_
                    refine g_if (fun w4 => ?_) (fun w4 => nx all is i0 i1 hv)
                    refine g_getr 31 352 rfl hS.k336 hm'.f_336_31 (by decide) ?_
                    refine g_C ?_
                    refine g_S (by omega) (by omega) ?_
                    refine zl_spot (by omega) (by omega) (by omega) (by omega) ?_
                    refine g_ldu hS.k352 hS.l352 (by omega) (by omega) (fun x ex => ?_)
                    refine g_C ?_
                    refine g_LAw (fun all' _ _ => ?_)
                    refine g_if (fun w5 => ?_) (fun w5 => ?_)
                    · refine u_X12_fillsRows_140 ?_
                      refine g_C ?_
                      refine u_X12_fillsRows_145 ?_
                      exact nx all' 1 (by decide) (by decide) (Or.inr (hv.resolve_left w5))
                    · refine g_getr 32 353 rfl hS.k336 hm'.f_336_32 (by decide) ?_
                      refine g_C ?_
                      refine g_S (by omega) (by omega) ?_
                      refine zl_spot (by omega) (by omega) (by omega) (by omega) ?_
                      refine g_ldu hS.k353 hS.l353 (by omega) (by omega) (fun y ey => ?_)
                      refine g_if (fun w6 => ?_) (fun w6 => ?_)
                      · refine g_C ?_
                        refine u_X12_fillsRows_145 ?_
                        exact nx all' 0 (by decide) (by decide) (Or.inl rfl)
                      · refine u_X12_fillsRows_140 ?_
                        refine g_C ?_
                        refine u_X12_fillsRows_145 ?_
                        exact nx all' 1 (by decide) (by decide) (Or.inr ⟨h, g0, by omega, by omega, by rw [← ey]; exact w6⟩)
              exact ⟨6, inn 6 0 0 0 (by decide) (by decide) (by decide) (by decide) (Or.inl rfl) (by decide)⟩
        exact ⟨302, row 302 0 m hm (by decide) (by decide) hr (fun s s0 s1 => absurd s1 (by omega)) (by decide)⟩
  have first : ∀ (n : Nat) (t : Int) (m : Mm), Inv X S m → 0 ≤ t → t ≤ 301 → 302 - t ≤ (n : Int) → wp_X12_fillsRows_2 S K n 336 u1 t m := by
    intro n
    induction n with
    | zero => intro t m _ _ _ h; exfalso; omega
    | succ n ih =>
      intro t m hm t0 t1 hn
      refine u_X12_fillsRows_2 ?_
      refine g_C ?_
      refine g_if (fun w => ?_) (fun w => ?_)
      · refine g_C ?_
        exact ⟨13, main 13 1 m hm (by decide) (by omega) (fun k' t' a1 a2 => absurd a2 (by omega)) (by decide)⟩
      · have nx : ∀ x : Int, 0 ≤ x → x ≤ 1 → wp_X12_fillsRows_23 S (fun a0 a1 a2 M => wp_X12_fillsRows_2 S K n a0 a1 a2 M) K 336 u1 t 352 t x m := by
          intro x x0 x1
          refine u_X12_fillsRows_23 ?_
          refine g_st hS.k352 hS.l352 (by omega) (by omega) (hm.wa_352 (by omega) (by omega) (by omega) (by omega)) (fun m2 e2 hm2 => ?_)
          refine g_getr 32 353 rfl hS.k336 hm2.f_336_32 (by decide) ?_
          have nx2 : ∀ y : Int, 0 ≤ y → y ≤ 1 → wp_X12_fillsRows_38 S (fun a0 a1 a2 M => wp_X12_fillsRows_2 S K n a0 a1 a2 M) K 336 u1 t 353 t y m2 := by
            intro y yy0 yy1
            refine u_X12_fillsRows_38 ?_
            refine g_stz hS.k353 hS.l353 (by omega) (by omega) (by omega) (hm2.wa_353 (by omega) (by omega) yy0 yy1) (fun m3 e3 hm3 => ?_)
            refine g_A (by omega) (by omega) ?_
            exact ih (t + 1) m3 hm3 (by omega) (by omega) (by omega)
          exact g_if (fun w2 => g_C (nx2 0 (by decide) (by decide))) (fun w2 => g_C (nx2 1 (by decide) (by decide)))
        refine g_getr 31 352 rfl hS.k336 hm.f_336_31 (by decide) ?_
        exact g_if (fun w2 => g_C (nx 0 (by decide) (by decide))) (fun w2 => g_C (nx 1 (by decide) (by decide)))
  exact ⟨302, first 302 0 m0 hm0 (by decide) (by decide) (by decide)⟩
theorem zf_firstHand {X : Mm} {S : Sh} {m : Mm} {K : Int → Mm → Prop} {u1 u2 u3 : Int} (hS : Shp S) (hm : Inv X S m) (h1 : 1 ≤ u1) (h1' : u1 ≤ 12) (h2 : 0 ≤ u2) (h2' : u2 ≤ 300) (h3 : 0 ≤ u3) (h3' : u3 < u1) (hr : HR m u1) (hx : ¬ m 353 (301 * u1 + u2) = 0) (hk : ∀ r : Int, K r m) : wp_X12_firstHand S m 336 u1 u2 u3 K := by
  have b4 := hm.f_346_4
  refine u_X12_firstHand ?_
  refine g_C ?_
  refine g_C ?_
  have L : ∀ (n : Nat) (left hand k : Int), 0 ≤ k → k ≤ u3 + 1 → 0 ≤ left → left ≤ 300 → ¬ m 353 (301 * (u1 - k) + left) = 0 → u3 + 2 - k ≤ (n : Int) → wp_X12_firstHand_9 S K n 336 u1 u3 left hand k m := by
    intro n
    induction n with
    | zero => intro left hand k _ _ _ _ _ h; exfalso; omega
    | succ n ih =>
      intro left hand k k0 k1 l0 l1 hl hn
      refine u_X12_firstHand_9 ?_
      refine g_if (fun w => hk _) (fun w => ?_)
      refine g_C ?_
      obtain ⟨g, g0, g1, g2, g3⟩ := hr (u1 - k) left (by omega) (by omega) l0 l1 hl
      have inn : ∀ (n2 : Nat) (h : Int), 0 ≤ h → h ≤ g → g + 1 - h ≤ (n2 : Int) → wp_X12_firstHand_18 S (fun a0 a1 a2 a3 a4 a5 M => wp_X12_firstHand_9 S K n a0 a1 a2 a3 a4 a5 M) K n2 336 u1 u3 left h k m := by
        intro n2
        induction n2 with
        | zero => intro h _ _ hh; exfalso; omega
        | succ n2 ih2 =>
          intro h j0 j1 hh
          refine u_X12_firstHand_18 ?_
          have nx : ¬ h = g → wp_X12_firstHand_57 S (fun a0 a1 a2 a3 a4 a5 M => wp_X12_firstHand_9 S K n a0 a1 a2 a3 a4 a5 M) (fun a0 a1 a2 a3 a4 a5 M => wp_X12_firstHand_18 S (fun a0 a1 a2 a3 a4 a5 M => wp_X12_firstHand_9 S K n a0 a1 a2 a3 a4 a5 M) K n2 a0 a1 a2 a3 a4 a5 M) K 336 u1 u3 left h k m := by
            intro ne
            refine u_X12_firstHand_57 ?_
            refine g_A (by omega) (by omega) ?_
            exact ih2 (h + 1) (by omega) (by omega) (by omega)
          refine g_C ?_
          refine ⟨hS.k336, ?_⟩
          refine zl_speed hS hm j0 (by omega) (fun p0 p1 => ?_)
          refine g_if (fun w2 => nx (fun e => by rw [e] at w2; omega)) (fun w2 => ?_)
          refine g_getr 32 353 rfl hS.k336 hm.f_336_32 (by decide) ?_
          refine g_C ?_
          refine g_S (by omega) (by omega) ?_
          refine g_S (by omega) (by omega) ?_
          refine g_C ?_
          refine ⟨hS.k336, ?_⟩
          refine zl_speed hS hm j0 (by omega) (fun p0' p1' => ?_)
          refine g_S (by omega) (by omega) ?_
          refine zl_spot (by omega) (by omega) (by omega) (by omega) ?_
          refine g_ldu hS.k353 hS.l353 (by omega) (by omega) (fun x ex => ?_)
          refine g_if (fun w3 => ?_) (fun w3 => ?_)
          · refine g_C ?_
            refine ⟨hS.k336, ?_⟩
            refine zl_speed hS hm j0 (by omega) (fun p0'' p1'' => ?_)
            refine g_S (by omega) (by omega) ?_
            refine g_A (by omega) (by omega) ?_
            refine ih (left - m 346 (13 + 5 * h)) h (k + 1) (by omega) (by omega) (by omega) (by omega) ?_ (by omega)
            rw [ex, show u1 - 1 - k = u1 - (k + 1) by omega] at w3
            exact w3
          · refine nx (fun e => ?_)
            have w4 : x = 0 := by omega
            rw [ex, e, show u1 - 1 - k = u1 - k - 1 by omega] at w4
            exact g3 w4
      exact ⟨(g + 1).toNat, inn (g + 1).toNat 0 (by decide) g0 (by omega)⟩
  exact ⟨(u3 + 2).toNat, L (u3 + 2).toNat u2 0 0 (by decide) (by omega) h2 h2' (by rw [show u1 - 0 = u1 by omega]; exact hx) (by omega)⟩
theorem z_X12_rows {X : Mm} {S : Sh} {m0 : Mm} {K : Int → Mm → Prop} {u1 u2 u3 : Int} (hS : Shp S) (hm0 : Inv X S m0) (hk : ∀ (r : Int) (M1 : Mm), Inv X S M1 → K r M1) : wp_X12_rows S m0 336 u1 u2 u3 K := by
  have no : ∀ r : Int, K r m0 := fun r => hk r m0 hm0
  have go : 1 ≤ u1 → u1 ≤ 12 → 0 ≤ u2 → u2 ≤ 300 → ((-1 ≤ u3 ∧ u3 ≤ 11) ∨ (20 ≤ u3 ∧ u3 ≤ 31)) → wp_X12_rows_62 S K 336 u1 u2 u3 m0 := by
    intro a1 a2 a3 a4 a5
    refine u_X12_rows_62 ?_
    refine ⟨hS.k336, ?_⟩
    refine zf_fillsRows hS hm0 a1 a2 (fun m hm hr => ?_)
    have b4 := hm.f_346_4
    refine g_C ?_
    refine g_if (fun w => ?_) (fun w => ?_)
    · refine g_getr 32 353 rfl hS.k336 hm.f_336_32 (by decide) ?_
      refine zl_spot (by omega) (by omega) (by omega) (by omega) ?_
      refine g_ldu hS.k353 hS.l353 (by omega) (by omega) (fun x ex => ?_)
      refine g_if (fun w2 => g_C (hk _ m hm)) (fun w2 => ?_)
      refine g_C ?_
      refine ⟨by decide, ?_⟩
      refine g_if (fun w3 => ?_) (fun w3 => g_C (hk _ m hm))
      refine g_C ?_
      refine g_if (fun w4 => ?_) (fun w4 => ?_)
      · refine g_C ?_
        refine g_C ?_
        have L : ∀ (n : Nat) (set h : Int), 0 ≤ h → h ≤ 5 → 6 - h ≤ (n : Int) → wp_X12_rows_127 S K n 336 u1 u2 set h m := by
          intro n
          induction n with
          | zero => intro set h _ _ hh; exfalso; omega
          | succ n ih =>
            intro set h j0 j1 hh
            have nx : ∀ y : Int, h ≤ 4 → wp_X12_rows_182 S (fun a0 a1 a2 a3 a4 M => wp_X12_rows_127 S K n a0 a1 a2 a3 a4 M) K 336 u1 u2 h set y m := by
              intro y j2
              refine u_X12_rows_182 ?_
              refine g_Oe (fun z _ => ?_)
              refine g_A (by omega) (by omega) ?_
              exact ih z (h + 1) (by omega) (by omega) (by omega)
            refine u_X12_rows_127 ?_
            refine g_getr 20 346 rfl hS.k336 hm.f_336_20 (by decide) ?_
            refine g_C ?_
            refine g_ldu hS.k346 hS.l346 (by omega) (by omega) (fun H eH => ?_)
            refine g_if (fun w5 => hk _ m hm) (fun w5 => ?_)
            refine g_C ?_
            refine ⟨hS.k336, ?_⟩
            refine zl_speed hS hm j0 (by omega) (fun p0 p1 => ?_)
            refine g_if (fun w6 => ?_) (fun w6 => ?_)
            · refine u_X12_rows_181 ?_
              refine g_C ?_
              exact nx 0 (by omega)
            · refine g_getr 32 353 rfl hS.k336 hm.f_336_32 (by decide) ?_
              refine g_C ?_
              refine g_S (by omega) (by omega) ?_
              refine g_C ?_
              refine ⟨hS.k336, ?_⟩
              refine zl_speed hS hm j0 (by omega) (fun p0' p1' => ?_)
              refine g_S (by omega) (by omega) ?_
              refine zl_spot (by omega) (by omega) (by omega) (by omega) ?_
              refine g_ldu hS.k353 hS.l353 (by omega) (by omega) (fun y ey => ?_)
              refine g_if (fun w7 => ?_) (fun w7 => ?_)
              · refine u_X12_rows_181 ?_
                refine g_C ?_
                exact nx 0 (by omega)
              · refine g_C ?_
                refine g_Oe (fun z _ => ?_)
                exact nx z (by omega)
        exact ⟨6, L 6 0 0 (by decide) (by decide) (by decide)⟩
      · refine ⟨hS.k336, ?_⟩
        have q := rem20 u3.toNat (by omega)
        rw [Int.toNat_of_nonneg (by omega)] at q
        rw [q] at w3
        exact zf_firstHand hS hm a1 a2 a3 a4 (by omega) w3 hr (by rw [← ex]; exact w2) (fun r => hk r m hm)
    · refine g_getr 31 352 rfl hS.k336 hm.f_336_31 (by decide) ?_
      refine zl_spot (by omega) (by omega) (by omega) (by omega) ?_
      refine g_ldu hS.k352 hS.l352 (by omega) (by omega) (fun x ex => ?_)
      exact hk _ m hm
  refine u_X12_rows ?_
  refine ⟨hS.k336, ?_⟩
  refine u_X12_isDairy ?_
  refine g_getr 20 346 rfl hS.k336 hm0.f_336_20 (by decide) ?_
  refine g_C ?_
  refine g_ldu hS.k346 hS.l346 (by omega) (by omega) (fun v ev => ?_)
  refine g_if (fun w => g_C ⟨by decide, g_ifT rfl (g_C (no _))⟩) (fun w => g_C ⟨by decide, g_ifF (by decide) ?_⟩)
  refine g_C ?_
  refine g_C ?_
  refine g_C ?_
  refine z_in (fun a1 a2 => g_ifF (by decide) ?_) (fun _ => g_ifT rfl (g_C (no _)))
  refine g_C ?_
  refine g_C ?_
  refine g_C ?_
  refine z_in (fun a3 a4 => g_ifF (by decide) ?_) (fun _ => g_ifT rfl (g_C (no _)))
  refine g_C ?_
  refine g_C ?_
  refine g_C ?_
  refine z_in (fun a5 a6 => g_ifT (by decide) (go a1 a2 a3 a4 (Or.inl ⟨a5, a6⟩))) (fun _ => g_ifF (by decide) ?_)
  refine g_C ?_
  refine g_C ?_
  refine g_C ?_
  exact z_in (fun a7 a8 => g_ifT (by decide) (go a1 a2 a3 a4 (Or.inr ⟨a7, a8⟩))) (fun _ => g_ifF (by decide) (g_C (no _)))
