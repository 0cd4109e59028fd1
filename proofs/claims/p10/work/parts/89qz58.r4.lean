section
abbrev CTb (sp : Int → Int) (H : Nat) (m : Mm) (n T : Int) : Prop := ∀ k t : Int, 0 ≤ k → k ≤ n → 0 ≤ t → t ≤ T → m 65 (301 * k + t) = rcnt sp H k.toNat t
theorem zr_firstThat {X : Mm} {S : Sh} {m : Mm} {K : Int → Mm → Prop} {sp : Int → Int} {H : Nat} {n T k l : Int} (hS : Shp S) (hm : Inv X S m) (n12 : n ≤ 12) (T3 : T ≤ 300) (ht : CTb sp H m n T) (hH : m 4 4 = (H : Int)) (H5 : H ≤ 5) (hs : ∀ i : Int, 0 ≤ i → i < H → m 7 i = sp i) (sb : ∀ i : Int, 0 ≤ i → i < H → 0 ≤ sp i ∧ sp i ≤ 20) (k0 : 0 ≤ k) (k1 : k ≤ n) (l0 : 0 ≤ l) (l1 : l ≤ T) (hx : ∃ h : Int, 0 ≤ h ∧ h < H ∧ sp h ≤ l ∧ 0 < rcnt sp H k.toNat (l - sp h)) (hk : ∀ r : Int, Lh sp H k.toNat l r → K r m) : wp_X6_firstThatLeaves S m 63 k l K := by
  obtain ⟨g, g0, g1, g2, g3⟩ := hx
  refine u_X6_firstThatLeaves ?_
  refine g_C ?_
  have L : ∀ (N : Nat) (h : Int), 0 ≤ h → h ≤ g → (∀ i : Int, 0 ≤ i → i < h → ¬ (sp i ≤ l ∧ 0 < rcnt sp H k.toNat (l - sp i))) → 6 - h ≤ (N : Int) → wp_X6_firstThatLeaves_2 S K N 63 k l h m := by
    intro N
    induction N with
    | zero => intro h _ _ _ z; exfalso; omega
    | succ N ih =>
      intro h h0 h1 hno hN
      have hlt : h < H := by omega
      have sh := sb h h0 hlt
      refine u_X6_firstThatLeaves_2 ?_
      refine g_getr 0 4 rfl hS.k63 hm.f_63_0 (by decide) ?_
      refine g_getu 4 rfl hS.k4 (fun v ev => ?_)
      refine g_ifF (by omega) ?_
      refine g_getr 0 4 rfl hS.k63 hm.f_63_0 (by decide) ?_
      refine g_getr 10 7 rfl hS.k4 hm.f_4_10 (by decide) ?_
      refine g_ldu hS.k7 hS.l7 (by omega) (by omega) (fun s es => ?_)
      rw [hs h h0 hlt] at es
      subst es
      refine g_S (by omega) (by omega) ?_
      refine ⟨hS.k63, ?_⟩
      have nx : ¬ (sp h ≤ l ∧ 0 < rcnt sp H k.toNat (l - sp h)) → wA h 1 fun v18 => wp_X6_firstThatLeaves_2 S K N 63 k l v18 m := by
        intro ne
        have hg : ¬ h = g := fun e => ne (by rw [e]; exact ⟨g2, g3⟩)
        refine g_A (by omega) (by omega) ?_
        refine ih (h + 1) (by omega) (by omega) (fun i i0 i1 => ?_) (by omega)
        by_cases e : i = h
        · rw [e]; exact ne
        · exact hno i i0 (by omega)
      refine zr_rowsOf (sp := sp) (H := H) (n := n) (T := T) hS hm ht n12 T3 k0 k1 (by omega) (by omega) (fun t0 => ?_) (fun t0 => ?_)
      · refine g_if (fun w => nx (fun z => by have := z.2; omega)) (fun w => ?_)
        exact hk h ⟨⟨h0, hlt, by omega, by omega⟩, hno⟩
      · exact g_ifT (by decide) (nx (fun z => by have := z.1; omega))
  exact ⟨6, L 6 0 (by decide) g0 (fun i i0 i1 => absurd i1 (by omega)) (by decide)⟩
theorem zr_handIn {X : Mm} {S : Sh} {m : Mm} {K : Int → Mm → Prop} {sp : Int → Int} {H : Nat} {n t a : Int} (hS : Shp S) (hm : Inv X S m) (n1 : 1 ≤ n) (n12 : n ≤ 12) (t0 : 0 ≤ t) (t3 : t ≤ 300) (a0 : 0 ≤ a) (a1 : a < n) (ht : CTb sp H m n t) (hH : m 4 4 = (H : Int)) (H5 : H ≤ 5) (hs : ∀ i : Int, 0 ≤ i → i < H → m 7 i = sp i) (sb : ∀ i : Int, 0 ≤ i → i < H → 0 ≤ sp i ∧ sp i ≤ 20) (hx : 0 < rcnt sp H n.toNat t) (hk : ∀ r : Int, Fh sp H a.toNat n t r → K r m) : wp_X6_handInFirstRow S m 63 n t a K := by
  refine u_X6_handInFirstRow ?_
  refine g_C ?_
  have L : ∀ (N : Nat) (l k : Int), 0 ≤ k → k ≤ a → 0 ≤ l → l ≤ t → 0 < rcnt sp H (n - k).toNat l → (∀ r : Int, Fh sp H (a - k).toNat (n - k) l r → Fh sp H a.toNat n t r) → a + 1 - k ≤ (N : Int) → wp_X6_handInFirstRow_6 S K N 63 n a l k m := by
    intro N
    induction N with
    | zero => intro l k _ _ _ _ _ _ z; exfalso; omega
    | succ N ih =>
      intro l k k0 k1 l0 l1 hl hF hN
      refine u_X6_handInFirstRow_6 ?_
      refine g_ifF (by omega) ?_
      refine g_S (by omega) (by omega) ?_
      refine g_C ?_
      refine g_S (by omega) (by omega) ?_
      refine ⟨hS.k63, ?_⟩
      have hl' := hl
      rw [show (n - k).toNat = (n - k - 1).toNat + 1 by omega] at hl'
      refine zr_firstThat (sp := sp) (H := H) hS hm n12 t3 ht hH H5 hs sb (by omega) (by omega) l0 l1 (rcnt_pos.mp hl') (fun h lh => ?_)
      have hlt := lh.1.2.1
      have h0 := lh.1.1
      have sh := sb h h0 hlt
      have sle := lh.1.2.2.1
      refine g_if (fun w => ?_) (fun w => ?_)
      · refine g_getr 0 4 rfl hS.k63 hm.f_63_0 (by decide) ?_
        refine g_getr 10 7 rfl hS.k4 hm.f_4_10 (by decide) ?_
        refine g_ldu hS.k7 hS.l7 (by omega) (by omega) (fun s es => ?_)
        rw [hs h h0 hlt] at es
        subst es
        refine g_S (by omega) (by omega) ?_
        refine g_A (by omega) (by omega) ?_
        refine ih (l - sp h) (k + 1) (by omega) (by omega) (by omega) (by omega) (by rw [show n - (k + 1) = n - k - 1 by omega]; exact lh.1.2.2.2) (fun r fr => hF r ?_) (by omega)
        rw [show (a - k).toNat = (a - (k + 1)).toNat + 1 by omega]
        exact ⟨h, lh, by rw [show n - k - 1 = n - (k + 1) by omega]; exact fr⟩
      · refine hk h (hF h ?_)
        rw [show (a - k).toNat = 0 by omega]
        exact lh
  exact ⟨(a + 1).toNat, L (a + 1).toNat t 0 (by decide) a0 t0 (by omega) (by rw [Int.sub_zero]; exact hx) (fun r fr => by rw [Int.sub_zero, Int.sub_zero] at fr; exact fr) (by omega)⟩
theorem zr_handsIn {X : Mm} {S : Sh} {m : Mm} {K : Int → Mm → Prop} {sp : Int → Int} {H : Nat} {n t a : Int} (hS : Shp S) (hm : Inv X S m) (n1 : 1 ≤ n) (n12 : n ≤ 12) (t0 : 0 ≤ t) (t3 : t ≤ 300) (a0 : 0 ≤ a) (a1 : a < n) (ht : CTb sp H m n t) (hH : m 4 4 = (H : Int)) (H5 : H ≤ 5) (hs : ∀ i : Int, 0 ≤ i → i < H → m 7 i = sp i) (sb : ∀ i : Int, 0 ≤ i → i < H → 0 ≤ sp i ∧ sp i ≤ 20) (hk : K (hb (fun h => rB sp n t h H) H) m) : wp_X6_handsInRows S m 63 n t a K := by
  have key : ∀ h : Int, 0 ≤ h → h < H → (rB sp n t h H ↔ ∃ u : Int, 0 ≤ u ∧ u ≤ t ∧ 0 < rcnt sp H a.toNat u ∧ 0 ≤ t - u - sp h ∧ 0 < rcnt sp H (n - a - 1).toNat (t - u - sp h)) := by
    intro h h0 h1
    have sh := sb h h0 h1
    unfold rB
    constructor
    · rintro ⟨z1, z2⟩
      rw [show (n - 1).toNat = a.toNat + (n - a - 1).toNat by omega] at z2
      obtain ⟨u, u0, u1, u2, u3⟩ := (rcnt_split (fun i i0 i1 => (sb i i0 i1).1) a.toNat (n - a - 1).toNat (t - sp h) (by omega)).mp z2
      exact ⟨u, u0, by omega, u2, by omega, by rw [show t - u - sp h = t - sp h - u by omega]; exact u3⟩
    · rintro ⟨u, u0, u1, u2, u3, u4⟩
      refine ⟨by omega, ?_⟩
      rw [show (n - 1).toNat = a.toNat + (n - a - 1).toNat by omega]
      exact (rcnt_split (fun i i0 i1 => (sb i i0 i1).1) a.toNat (n - a - 1).toNat (t - sp h) (by omega)).mpr ⟨u, u0, by omega, u2, by rw [show t - sp h - u = t - u - sp h by omega]; exact u4⟩
  refine u_X6_handsInRows ?_
  refine g_C ?_
  refine g_C ?_
  have L : ∀ (N : Nat) (h : Nat), h ≤ H → 6 - (h : Int) ≤ (N : Int) → wp_X6_handsInRows_6 S K N 63 n t a (hb (fun h => rB sp n t h H) h) (h : Int) m := by
    intro N
    induction N with
    | zero => intro h _ z; exfalso; omega
    | succ N ih =>
      intro h hle hN
      have bb := hb_b (P := fun h => rB sp n t h H) h (by omega)
      refine u_X6_handsInRows_6 ?_
      refine g_getr 0 4 rfl hS.k63 hm.f_63_0 (by decide) ?_
      refine g_getu 4 rfl hS.k4 (fun v ev => ?_)
      refine g_if (fun w => ?_) (fun w => ?_)
      · rw [show h = H by omega]
        exact hk
      have hlt : (h : Int) < H := by omega
      have sh := sb (h : Int) (by omega) hlt
      have ob := or_b (hb (fun h => rB sp n t h H) h).toNat (by omega) h (by omega)
      rw [Int.toNat_of_nonneg bb.1] at ob
      refine g_C ?_
      have I : ∀ (N2 : Nat) (x u : Int), 0 ≤ u → u ≤ t + 1 → ((x = hb (fun h => rB sp n t h H) h ∧ ¬ ∃ q : Int, 0 ≤ q ∧ q < u ∧ 0 < rcnt sp H a.toNat q ∧ 0 ≤ t - q - sp (h : Int) ∧ 0 < rcnt sp H (n - a - 1).toNat (t - q - sp (h : Int))) ∨ (x = iOr (hb (fun h => rB sp n t h H) h) (iShl 1 (h : Int)) ∧ rB sp n t (h : Int) H)) → t + 2 - u ≤ (N2 : Int) → wp_X6_handsInRows_21 S (fun a0 a1 a2 a3 a4 a5 M => wp_X6_handsInRows_6 S K N a0 a1 a2 a3 a4 a5 M) K N2 63 n t a x (h : Int) u m := by
        intro N2
        induction N2 with
        | zero => intro x u _ _ _ z; exfalso; omega
        | succ N2 ih2 =>
          intro x u u0 u1 hx hN2
          refine u_X6_handsInRows_21 ?_
          refine g_if (fun w2 => ?_) (fun w2 => ?_)
          · refine g_A (by omega) (by omega) ?_
            rw [show (h : Int) + 1 = ((h + 1 : Nat) : Int) by omega]
            have e : x = hb (fun h => rB sp n t h H) (h + 1) := by
              rcases hx with ⟨e1, e2⟩ | ⟨e1, e2⟩
              · have nr : ¬ rB sp n t (h : Int) H := fun z => by
                  obtain ⟨q, q0, q1, q2, q3, q4⟩ := (key (h : Int) (by omega) hlt).mp z
                  exact e2 ⟨q, q0, by omega, q2, q3, q4⟩
                exact e1.trans (if_neg nr).symm
              · exact e1.trans (if_pos e2).symm
            rw [e]
            exact ih (h + 1) (by omega) (by omega)
          · have nx : ∀ x' : Int, ((x' = hb (fun h => rB sp n t h H) h ∧ ¬ ∃ q : Int, 0 ≤ q ∧ q < u + 1 ∧ 0 < rcnt sp H a.toNat q ∧ 0 ≤ t - q - sp (h : Int) ∧ 0 < rcnt sp H (n - a - 1).toNat (t - q - sp (h : Int))) ∨ (x' = iOr (hb (fun h => rB sp n t h H) h) (iShl 1 (h : Int)) ∧ rB sp n t (h : Int) H)) → wp_X6_handsInRows_77 S (fun a0 a1 a2 a3 a4 a5 M => wp_X6_handsInRows_6 S K N a0 a1 a2 a3 a4 a5 M) (fun a0 a1 a2 a3 a4 a5 a6 M => wp_X6_handsInRows_21 S (fun a0 a1 a2 a3 a4 a5 M => wp_X6_handsInRows_6 S K N a0 a1 a2 a3 a4 a5 M) K N2 a0 a1 a2 a3 a4 a5 a6 M) K 63 n t a x' (h : Int) u m := by
              intro x' hx'
              refine u_X6_handsInRows_77 ?_
              refine g_A (by omega) (by omega) ?_
              exact ih2 x' (u + 1) (by omega) (by omega) hx' (by omega)
            have stay : ¬ (0 < rcnt sp H a.toNat u ∧ 0 ≤ t - u - sp (h : Int) ∧ 0 < rcnt sp H (n - a - 1).toNat (t - u - sp (h : Int))) → wp_X6_handsInRows_77 S (fun a0 a1 a2 a3 a4 a5 M => wp_X6_handsInRows_6 S K N a0 a1 a2 a3 a4 a5 M) (fun a0 a1 a2 a3 a4 a5 a6 M => wp_X6_handsInRows_21 S (fun a0 a1 a2 a3 a4 a5 M => wp_X6_handsInRows_6 S K N a0 a1 a2 a3 a4 a5 M) K N2 a0 a1 a2 a3 a4 a5 a6 M) K 63 n t a x (h : Int) u m := by
              intro ns
              refine nx x ?_
              rcases hx with ⟨e1, e2⟩ | e
              · refine Or.inl ⟨e1, fun z => ?_⟩
                obtain ⟨q, q0, q1, q2⟩ := z
                by_cases eq : q = u
                · rw [eq] at q2; exact ns q2
                · exact e2 ⟨q, q0, by omega, q2⟩
              · exact Or.inr e
            refine g_S (by omega) (by omega) ?_
            refine g_getr 0 4 rfl hS.k63 hm.f_63_0 (by decide) ?_
            refine g_getr 10 7 rfl hS.k4 hm.f_4_10 (by decide) ?_
            refine g_ldu hS.k7 hS.l7 (by omega) (by omega) (fun s es => ?_)
            rw [hs _ (by omega) hlt] at es
            subst es
            refine g_S (by omega) (by omega) ?_
            refine ⟨hS.k63, ?_⟩
            refine zr_rowsOf (sp := sp) (H := H) (n := n) (T := t) hS hm ht n12 t3 a0 (by omega) (by omega) (by omega) (fun _ => ?_) (fun z => by exfalso; omega)
            refine g_if (fun w3 => stay (fun z => by have := z.1; omega)) (fun w3 => ?_)
            refine g_S (by omega) (by omega) ?_
            refine g_C ?_
            refine g_S (by omega) (by omega) ?_
            refine ⟨hS.k63, ?_⟩
            refine zr_rowsOf (sp := sp) (H := H) (n := n) (T := t) hS hm ht n12 t3 (by omega) (by omega) (by omega) (by omega) (fun y0 => ?_) (fun y0 => g_ifT (by decide) (stay (fun z => by have := z.2.1; omega)))
            refine g_if (fun w4 => stay (fun z => by have := z.2.2; omega)) (fun w4 => ?_)
            have yr : rB sp n t (h : Int) H := (key (h : Int) (by omega) hlt).mpr ⟨u, u0, by omega, by omega, y0, by omega⟩
            refine g_C ?_
            refine g_Oe (fun z ez => ?_)
            refine g_Oe (fun z2 ez2 => ?_)
            refine nx z2 (Or.inr ⟨?_, yr⟩)
            rw [ez2, ez]
            rcases hx with ⟨e1, e2⟩ | ⟨e1, e2⟩
            · rw [e1]
            · rw [e1, ob.1]
      exact ⟨(t + 2).toNat, I (t + 2).toNat _ 0 (by decide) (by omega) (Or.inl ⟨rfl, fun z => by obtain ⟨q, q0, q1, -⟩ := z; exfalso; omega⟩) (by omega)⟩
  exact ⟨6, L 6 0 (by omega) (by decide)⟩
theorem zr_rows11 {X : Mm} {S : Sh} {m0 : Mm} {K : Int → Mm → Prop} {sp : Int → Int} {H : Nat} {u1 u2 u3 : Int} (hS : Shp S) (hm0 : Inv X S m0) (hH : m0 4 4 = (H : Int)) (hs : ∀ i : Int, 0 ≤ i → i < H → m0 7 i = sp i) (sb : ∀ i : Int, 0 ≤ i → i < H → 0 ≤ sp i ∧ sp i ≤ 20) (hk : ∀ (r : Int) (M1 : Mm), Inv X S M1 → (∀ c p : Int, ¬ c = 65 → M1 c p = m0 c p) → RA sp H (m0 4 0) u1 u2 u3 r → K r M1) : wp_X11_rows S m0 0 u1 u2 u3 K := by
  have b4 := hm0.f_4_4
  have H5 : H ≤ 5 := by omega
  have no : (m0 4 0 = 0 ∨ ¬ rOK u1 u2 u3) → K (-3) m0 := fun z => hk _ m0 hm0 (fun _ _ _ => rfl) (g_ifT z rfl)
  have go : ∀ f : Int, ¬ m0 4 0 = 0 → rOK u1 u2 u3 → (f = 0 ↔ ¬ (0 ≤ u3 ∧ u3 ≤ 11)) → wp_X11_rows_92 S K 0 u1 u2 u3 f m0 := by
    intro f p0 ok hf
    obtain ⟨a1, a2, a3, a4, a5⟩ := id ok
    have nb : ¬ (m0 4 0 = 0 ∨ ¬ rOK u1 u2 u3) := fun z => by rcases z with z | z; exact p0 z; exact z ok
    refine u_X11_rows_92 ?_
    refine g_getr 13 63 rfl hS.k0 hm0.f_0_13 (by decide) ?_
    refine ⟨hS.k63, ?_⟩
    refine zr_countRows (sp := sp) (H := H) hS hm0 a1 a2 a3 a4 hH hs (fun m hm F ht => ?_)
    have hH' : m 4 4 = (H : Int) := (F 4 4 (by omega)).trans hH
    have hs' : ∀ i : Int, 0 ≤ i → i < H → m 7 i = sp i := fun i i0 i1 => (F 7 i (by omega)).trans (hs i i0 i1)
    refine g_getr 13 63 rfl hS.k0 hm.f_0_13 (by decide) ?_
    refine ⟨hS.k63, ?_⟩
    refine zr_rowsOf (sp := sp) (H := H) (n := u1) (T := u2) hS hm ht a2 a4 (by omega) (by omega) (by omega) (by omega) (fun _ => ?_) (fun z => by exfalso; omega)
    have nn := rcnt_nn (sp := sp) (H := H) u1.toNat u2
    refine g_C ?_
    have fin : ∀ w : Int, ¬ u3 = -1 → w = (if u3 < 20 then u3 else u3 - 20) → wp_X11_rows_133 S K 0 u1 u2 f (rcnt sp H u1.toNat u2) w m := by
      intro w n1 ew
      refine u_X11_rows_133 ?_
      refine g_if (fun w1 => g_C (hk _ m hm F (g_ifF nb (g_ifF n1 (g_ifT (Or.inl (by omega)) rfl))))) (fun w1 => ?_)
      refine g_if (fun w2 => ?_) (fun w2 => g_C (hk _ m hm F (g_ifF nb (g_ifF n1 (g_ifT (Or.inr (by omega)) rfl)))))
      have ng : ¬ (¬ 0 < rcnt sp H u1.toNat u2 ∨ u1 ≤ (if u3 < 20 then u3 else u3 - 20)) := fun z => by rcases z with z | z; omega; omega
      refine g_if (fun w3 => ?_) (fun w3 => ?_)
      · have u20 : 20 ≤ u3 := by
          have := hf.mp w3
          omega
        rw [if_neg (by omega)] at ew
        refine g_getr 13 63 rfl hS.k0 hm.f_0_13 (by decide) ?_
        refine ⟨hS.k63, ?_⟩
        exact zr_handsIn (sp := sp) (H := H) hS hm a1 a2 a3 a4 (by omega) w2 ht hH' H5 hs' sb (hk _ m hm F (g_ifF nb (g_ifF n1 (g_ifF ng (g_ifF (by omega) rfl)))))
      · have u11 : 0 ≤ u3 ∧ u3 ≤ 11 := by
          by_cases z : 0 ≤ u3 ∧ u3 ≤ 11
          · exact z
          · exact absurd (hf.mpr z) w3
        rw [if_pos (by omega)] at ew
        refine g_getr 13 63 rfl hS.k0 hm.f_0_13 (by decide) ?_
        refine ⟨hS.k63, ?_⟩
        rw [ew] at w2 ⊢
        exact zr_handIn (sp := sp) (H := H) hS hm a1 a2 a3 a4 u11.1 w2 ht hH' H5 hs' sb (by omega) (fun r fr => hk r m hm F (g_ifF nb (g_ifF n1 (g_ifF ng (g_ifT (by omega) fr)))))
    refine g_if (fun w => ?_) (fun w => ?_)
    · refine g_if (fun w2 => ?_) (fun w2 => ?_)
      · have := hf.mp w2
        refine g_C ?_
        refine g_S (by omega) (by omega) ?_
        exact fin _ (by omega) (by rw [if_neg (by omega)])
      · have u11 : 0 ≤ u3 ∧ u3 ≤ 11 := by
          by_cases z : 0 ≤ u3 ∧ u3 ≤ 11
          · exact z
          · exact absurd (hf.mpr z) w2
        exact fin _ (by omega) (by rw [if_pos (by omega)])
    · exact hk _ m hm F (g_ifF nb (g_ifT (by omega) rfl))
  have mid : ∀ f g : Int, (f = 0 ↔ ¬ (0 ≤ u3 ∧ u3 ≤ 11)) → (g = 0 ↔ ¬ (20 ≤ u3 ∧ u3 ≤ 31)) → wp_X11_rows_34 S K 0 u1 u2 u3 f g m0 := by
    intro f g hf hg
    have bad : ∀ z : ¬ rOK u1 u2 u3, K (-3) m0 := fun z => no (Or.inr z)
    refine u_X11_rows_34 ?_
    refine g_getr 1 3 rfl hS.k0 hm0.f_0_1 (by decide) ?_
    refine g_getr 0 4 rfl hS.k3 hm0.f_3_0 (by decide) ?_
    refine g_getu 0 rfl hS.k4 (fun v ev => ?_)
    refine g_if (fun w => g_C (no (Or.inl (by omega)))) (fun w => ?_)
    refine g_C ?_
    refine g_if (fun w1 => g_C (bad (fun o => by have := o.1; omega))) (fun w1 => ?_)
    refine g_C ?_
    refine g_if (fun w2 => g_C (bad (fun o => by have := o.2.1; omega))) (fun w2 => ?_)
    refine g_if (fun w3 => g_C (bad (fun o => by have := o.2.2.1; omega))) (fun w3 => ?_)
    refine g_C ?_
    refine g_if (fun w4 => ?_) (fun w4 => g_C (bad (fun o => by have := o.2.2.2.1; omega)))
    refine g_C ?_
    refine g_if (fun w5 => go f (by omega) ⟨by omega, by omega, by omega, by omega, Or.inl (by omega)⟩ hf) (fun w5 => ?_)
    refine g_if (fun w6 => ?_) (fun w6 => ?_)
    · have u11 : 0 ≤ u3 ∧ u3 ≤ 11 := by
        by_cases z : 0 ≤ u3 ∧ u3 ≤ 11
        · exact z
        · exact absurd (hf.mpr z) w6
      exact go f (by omega) ⟨by omega, by omega, by omega, by omega, Or.inl (by omega)⟩ hf
    · refine g_if (fun w7 => ?_) (fun w7 => ?_)
      · have u31 : 20 ≤ u3 ∧ u3 ≤ 31 := by
          by_cases z : 20 ≤ u3 ∧ u3 ≤ 31
          · exact z
          · exact absurd (hg.mpr z) w7
        exact go f (by omega) ⟨by omega, by omega, by omega, by omega, Or.inr u31⟩ hf
      · have n11 := hf.mp (by omega)
        have n31 := hg.mp (by omega)
        exact g_C (bad (fun o => by rcases o.2.2.2.2 with y | y; omega; exact n31 y))
  have fif : ∀ f : Int, (f = 0 ↔ ¬ (0 ≤ u3 ∧ u3 ≤ 11)) → wp_X11_rows_15 S K 0 u1 u2 u3 f m0 := by
    intro f hf
    refine u_X11_rows_15 ?_
    refine g_C ?_
    refine g_if (fun w => ?_) (fun w => ?_)
    · refine u_X11_rows_33 ?_
      exact g_C (mid f 0 hf ⟨fun _ => by omega, fun _ => rfl⟩)
    refine g_C ?_
    refine g_if (fun w2 => ?_) (fun w2 => ?_)
    · refine u_X11_rows_33 ?_
      exact g_C (mid f 0 hf ⟨fun _ => by omega, fun _ => rfl⟩)
    · exact g_C (mid f 1 hf ⟨fun z => absurd z (by decide), fun z => absurd ⟨by omega, by omega⟩ z⟩)
  refine u_X11_rows ?_
  refine g_if (fun w => ?_) (fun w => ?_)
  · refine u_X11_rows_14 ?_
    exact g_C (fif 0 ⟨fun _ => by omega, fun _ => rfl⟩)
  refine g_C ?_
  refine g_if (fun w2 => ?_) (fun w2 => ?_)
  · refine u_X11_rows_14 ?_
    exact g_C (fif 0 ⟨fun _ => by omega, fun _ => rfl⟩)
  · exact g_C (fif 1 ⟨fun z => absurd z (by decide), fun z => absurd ⟨by omega, by omega⟩ z⟩)
end
section
/-! all JUGS together; ice; rows -/
def tsum (g : Int → Int) : Nat → Int
  | 0 => 0
  | n + 1 => tsum g n + g n
theorem tsum_same {g g' : Int → Int} : ∀ n : Nat, (∀ j : Int, 0 ≤ j → j < n → g' j = g j) → tsum g' n = tsum g n := by
  intro n
  induction n with
  | zero => intro _; rfl
  | succ n ih =>
    intro h
    show tsum g' n + g' n = tsum g n + g n
    rw [ih (fun j j0 j1 => h j j0 (by omega)), h n (by omega) (by omega)]
theorem tsum_ext {g : Int → Int} {n : Nat} : ∀ k : Nat, (∀ j : Int, (n : Int) ≤ j → j < ((n + k : Nat) : Int) → g j = 0) → tsum g (n + k) = tsum g n := by
  intro k
  induction k with
  | zero => intro _; rfl
  | succ k ih =>
    intro h
    show tsum g (n + k) + g ((n + k : Nat) : Int) = tsum g n
    rw [ih (fun j j0 j1 => h j j0 (by omega)), h _ (by omega) (by omega)]
    omega
theorem tsum_b {g : Int → Int} {B : Int} (hB : 0 ≤ B) : ∀ n : Nat, n ≤ 6 → (∀ j : Int, 0 ≤ j → j < n → 0 ≤ g j ∧ g j ≤ B) → 0 ≤ tsum g n ∧ tsum g n ≤ n * B := by
  intro n
  induction n with
  | zero => intro _ _; exact ⟨Int.le_refl 0, by show (0 : Int) ≤ ((0 : Nat) : Int) * B; omega⟩
  | succ n ih =>
    intro hn h
    have a := ih (by omega) (fun j j0 j1 => h j j0 (by omega))
    have b := h n (by omega) (by omega)
    have e : ((n + 1 : Nat) : Int) * B = (n : Int) * B + B := by
      rw [show ((n + 1 : Nat) : Int) = (n : Int) + 1 by omega, Int.add_mul, Int.one_mul]
    show 0 ≤ tsum g n + g n ∧ tsum g n + g n ≤ ((n + 1 : Nat) : Int) * B
    rw [e]
    omega
def tgC (m : Mm) (c : Int) (j : Int) : Int := if m (c + 4) j = -1 ∧ m (c + 5) j = -1 then 0 else m (c + 6) j
def tgD (D : Int → Int) (j : Int) : Int := if D (35 + 4 * j + 3) = 1 then 0 else D (35 + 4 * j + 2)
def tall (D : Int → Int) : Int := tsum (tgD D) (D 5).toNat
theorem SR.allof {M : Mm} {c : Int} {D : Int → Int} (b5 : 0 ≤ D 5 ∧ D 5 ≤ 4) (r : SR M c D) : tsum (tgC M c) 4 = tall D := by
  obtain ⟨_, _, r4, r5, _⟩ := r
  unfold tall
  have e : (4 : Nat) = (D 5).toNat + (4 - (D 5).toNat) := by omega
  rw [e, tsum_ext _ (fun j j0 j1 => ?_)]
  · refine tsum_same _ (fun j j0 j1 => ?_)
    obtain ⟨q1, q2, q3⟩ := r4 j j0 (by omega)
    unfold tgC tgD
    rw [q2]
    by_cases z : D (35 + 4 * j + 3) = 1
    · rw [if_pos z, if_pos (by omega)]
    · rw [if_neg z, if_neg (by omega)]
  · have q := r5 j (by omega) (by omega)
    unfold tgC
    rw [if_pos q]
theorem zn_together {X : Mm} {S : Sh} {m : Mm} {K : Int → Mm → Prop} {c : Int} (hS : Shp S) (hm : Inv X S m) (hb : isSt c) (hk : 0 ≤ tsum (tgC m c) 4 → tsum (tgC m c) 4 ≤ 4000 → K (tsum (tgC m c) 4) m) : wp_X5_turnedTogether S m c K := by
  have bg : ∀ j : Int, 0 ≤ j → j < 4 → 0 ≤ tgC m c j ∧ tgC m c j ≤ 999 := fun j j0 j1 => by
    have b := hm.aB_5_6 hb j0 j1
    unfold tgC
    split <;> omega
  have L : ∀ (l k : Nat), k ≤ 4 → 5 - k ≤ l → wp_X5_turnedTogether_4 S K l c (tsum (tgC m c) k) k m := by
    intro l
    induction l with
    | zero => intro k _ h; exfalso; omega
    | succ l ih =>
      intro k k4 hl
      have bs := tsum_b (g := tgC m c) (B := 999) (by decide) k (by omega) (fun j j0 j1 => bg j j0 (by omega))
      refine u_X5_turnedTogether_4 ?_
      refine g_C ?_
      refine g_if (fun q => ?_) (fun q => ?_)
      · have e : k = 4 := by omega
        subst e
        exact hk (by omega) (by omega)
      · have bk := bg k (by omega) (by omega)
        have nx : ∀ v : Int, v = tgC m c k → wp_X5_turnedTogether_28 S (fun a0 a1 a2 M => wp_X5_turnedTogether_4 S K l a0 a1 a2 M) K c k (tsum (tgC m c) k) v m := by
          intro v ev
          refine u_X5_turnedTogether_28 ?_
          refine g_A (by omega) (by omega) ?_
          refine g_A (by omega) (by omega) ?_
          have := ih (k + 1) (by omega) (by omega)
          rw [ev]
          exact this
        refine ⟨hS.kB_5_0 hb, ?_⟩
        refine zh_gone hS hm hb (by omega) (by omega) (fun s1 s2 => g_ifF (by decide) (g_C (nx 0 ?_))) (fun s => g_ifT rfl ?_)
        · unfold tgC
          rw [if_pos ⟨s1, s2⟩]
        · refine g_getr 7 (c + 6) rfl (hS.kB_5_0 hb) (hm.fB_5_7 hb) (hS.nB_5_6 hb) ?_
          refine g_ldu (hS.kB_5_6 hb) (hS.lB_5_6 hb) (by omega) (by omega) (fun v ev => nx v ?_)
          unfold tgC
          rw [if_neg s, ev]
  refine u_X5_turnedTogether ?_
  refine g_C ?_
  refine g_C ?_
  exact ⟨5, L 5 0 (by omega) (by omega)⟩
theorem zn_turnedAll {X : Mm} {S : Sh} {m : Mm} {K : Int → Mm → Prop} (hS : Shp S) (hm : Inv X S m) (bj : jB m) (hk : 0 ≤ tall (m 346) → tall (m 346) ≤ 4000 → K (tall (m 346)) m) : wp_X12_turnedAll S m 336 K := by
  have b5 := hm.f_346_5
  have bg : ∀ j : Int, 0 ≤ j → j < m 346 5 → 0 ≤ tgD (m 346) j ∧ tgD (m 346) j ≤ 999 := fun j j0 j1 => by
    have b := bj j j0 j1
    unfold tgD
    split <;> omega
  have L : ∀ (l k : Nat), (k : Int) ≤ m 346 5 → 5 - k ≤ l → wp_X12_turnedAll_4 S K l 336 (tsum (tgD (m 346)) k) k m := by
    intro l
    induction l with
    | zero => intro k _ h; exfalso; omega
    | succ l ih =>
      intro k k4 hl
      have bs := tsum_b (g := tgD (m 346)) (B := 999) (by decide) k (by omega) (fun j j0 j1 => bg j j0 (by omega))
      refine u_X12_turnedAll_4 ?_
      refine g_getr 20 346 rfl hS.k336 hm.f_336_20 (by decide) ?_
      refine g_C ?_
      refine g_ldu hS.k346 hS.l346 (by decide) (by decide) (fun v ev => ?_)
      refine g_if (fun q => ?_) (fun q => ?_)
      · have e : (m 346 5).toNat = k := by omega
        unfold tall at hk
        rw [e] at hk
        exact hk (by omega) (by omega)
      · have bk := bg k (by omega) (by omega)
        have nx : ∀ v : Int, v = tgD (m 346) k → wp_X12_turnedAll_35 S (fun a0 a1 a2 M => wp_X12_turnedAll_4 S K l a0 a1 a2 M) K 336 k (tsum (tgD (m 346)) k) v m := by
          intro v ev
          refine u_X12_turnedAll_35 ?_
          refine g_A (by omega) (by omega) ?_
          refine g_A (by omega) (by omega) ?_
          have := ih (k + 1) (by omega) (by omega)
          rw [ev]
          exact this
        refine g_C ?_
        refine ⟨hS.k336, ?_⟩
        refine zt_jugOf hS hm (by omega) (by omega) (by omega) (by omega) ?_
        refine g_C ?_
        refine g_if (fun s => ?_) (fun s => g_C (nx 0 ?_))
        · refine g_C ?_
          refine ⟨hS.k336, ?_⟩
          refine zt_jugOf hS hm (by omega) (by omega) (by omega) (by omega) ?_
          refine nx _ ?_
          unfold tgD
          rw [if_neg s]
        · unfold tgD
          rw [if_pos (by omega)]
  refine u_X12_turnedAll ?_
  refine g_C ?_
  refine g_C ?_
  exact ⟨5, L 5 0 (by omega) (by omega)⟩
theorem zn_turnedIn {S : Sh} {m1 : Mm} {K : Int → Mm → Prop} {o : Option (List Cz)} {D : Int → Int} {n w i : Int} (hS : Shp S) (z1 : RZ S m1 n) (eD : m1 346 = D) (rr : RR m1 o) (hi : i = 0 ∨ i = 1) (w0 : 0 ≤ w) (w1 : w ≤ 100) (b7 : 0 ≤ D 7 ∧ D 7 ≤ 999) (hk : ∀ m2 : Mm, RZ S m2 n → m2 346 = D → RR m2 o → 0 ≤ tall (hrn o i D w.toNat) → tall (hrn o i D w.toNat) ≤ 4000 → K (tall (hrn o i D w.toNat)) m2) : wp_X12_turnedIn S m1 336 w i K := by
  have hm1 := z1.inv
  have db := z1.db
  rw [eD] at db
  have i0 := z1.2.2.2.2.2.2.2.2
  refine u_X12_turnedIn ?_
  refine ⟨hS.k336, ?_⟩
  refine zx_keeps hS hm1 (fun m2 hm2 f2 g2 => ?_)
  refine g_putz 23 rfl hS.k336 hi (hm2.w_336_23 (by omega) (by omega)) (fun m3 e3 hm3 => ?_)
  have f3 : ∀ c p : Int, ¬ (c = 336 ∧ p = 23) → m3 c p = m2 c p := fun c p q => (congrFun (congrFun e3 _) _).trans (up_ne q)
  have y3 : m3 336 23 = i := (congrFun (congrFun e3 _) _).trans (up_at _ _ _ _)
  refine g_C ?_
  have e46 : m3 346 = D := by rw [← eD]; exact funext (fun p => by rw [f3 346 p (by first | decide | exact fun z => absurd z.1 (by decide) | exact ⟨fun z => absurd z.1 (by decide), fun z => absurd z.1 (by decide)⟩ | omega), f2 346 p (by first | decide | exact fun z => absurd z.1 (by decide) | exact ⟨fun z => absurd z.1 (by decide), fun z => absurd z.1 (by decide)⟩ | omega)])
  have L : ∀ (l k : Nat) (M : Mm), (k : Int) ≤ w → Inv (up (sf m1) (-1) 0 1) S M → (∀ c p : Int, ¬ c = 344 → ¬ c = 345 → ¬ (c = 336 ∧ p = 18) → ¬ c = 346 → M c p = m3 c p) → M 346 = hrn o i D k → jB M → w + 1 - k ≤ (l : Int) → wp_X12_turnedIn_11 S K l 336 w k M := by
    intro l
    induction l with
    | zero => intro k M k1 _ _ _ _ hl; exfalso; omega
    | succ l ih =>
      intro k M k1 hM F eM bj hl
      have ee : ∀ p : Int, ¬ mv p → M 346 p = D p := fun p q => by rw [eM]; exact hrn_e (by omega) (by omega) k p q
      refine u_X12_turnedIn_11 ?_
      refine g_if (fun q => ?_) (fun q => ?_)
      · have ek : w.toNat = k := by omega
        refine g_C ?_
        refine g_putz 23 rfl hS.k336 (Or.inl rfl) (hM.w_336_23 (by omega) (by omega)) (fun m4 e4 hm4 => ?_)
        have f4 : ∀ c p : Int, ¬ (c = 336 ∧ p = 23) → m4 c p = M c p := fun c p q => (congrFun (congrFun e4 _) _).trans (up_ne q)
        have y4 : m4 336 23 = 0 := (congrFun (congrFun e4 _) _).trans (up_at _ _ _ _)
        have e4M : m4 346 = M 346 := funext (fun p => f4 346 p (by first | decide | exact fun z => absurd z.1 (by decide) | exact ⟨fun z => absurd z.1 (by decide), fun z => absurd z.1 (by decide)⟩ | omega))
        refine ⟨hS.k336, ?_⟩
        refine zn_turnedAll hS hm4 (fun j j0 j1 => by rw [e4M] at j1 ⊢; exact bj j j0 j1) (fun t0 t1 => ?_)
        rw [e4M, eM, ← ek] at t0 t1 ⊢
        refine ⟨hS.k336, ?_⟩
        refine zx_laysBack hS hm4 (up_at _ _ _ _) (fun m5 hm5 f5 g5 => ?_)
        have F5 : ∀ c p : Int, ¬ c = 344 → ¬ c = 345 → ¬ c = 348 → ¬ (c = 336 ∧ (p = 18 ∨ p = 33)) → m5 c p = m1 c p := fun c p q1 q2 q3 q4 => by
          by_cases z : c = 346
          · subst z
            by_cases z2 : 0 ≤ p ∧ p < 57
            · rw [g5 p z2, f4 348 p (by first | decide | exact fun z => absurd z.1 (by decide) | exact ⟨fun z => absurd z.1 (by decide), fun z => absurd z.1 (by decide)⟩ | omega), F 348 p (by first | decide | exact fun z => absurd z.1 (by decide) | exact ⟨fun z => absurd z.1 (by decide), fun z => absurd z.1 (by decide)⟩ | omega) (by first | decide | exact fun z => absurd z.1 (by decide) | exact ⟨fun z => absurd z.1 (by decide), fun z => absurd z.1 (by decide)⟩ | omega) (by first | decide | exact fun z => absurd z.1 (by decide) | exact ⟨fun z => absurd z.1 (by decide), fun z => absurd z.1 (by decide)⟩ | omega) (by first | decide | exact fun z => absurd z.1 (by decide) | exact ⟨fun z => absurd z.1 (by decide), fun z => absurd z.1 (by decide)⟩ | omega), f3 348 p (by first | decide | exact fun z => absurd z.1 (by decide) | exact ⟨fun z => absurd z.1 (by decide), fun z => absurd z.1 (by decide)⟩ | omega), g2 p z2]
            · rw [f5 346 p (by first | decide | exact fun z => absurd z.1 (by decide) | exact ⟨fun z => absurd z.1 (by decide), fun z => absurd z.1 (by decide)⟩ | omega), f4 346 p (by first | decide | exact fun z => absurd z.1 (by decide) | exact ⟨fun z => absurd z.1 (by decide), fun z => absurd z.1 (by decide)⟩ | omega), ee p (by unfold mv; omega), eD]
          · by_cases z2 : c = 336 ∧ p = 23
            · rw [z2.1, z2.2, f5 336 23 (by first | decide | exact fun z => absurd z.1 (by decide) | exact ⟨fun z => absurd z.1 (by decide), fun z => absurd z.1 (by decide)⟩ | omega), y4, i0.2]
            · rw [f5 c p (by first | exact fun y => absurd (y.1 ▸ z) (by decide) | exact fun y => absurd (y.1 ▸ q) (by decide) | exact z | exact q | exact z.1 | exact q.1 | exact z.2 | exact q.2 | omega), f4 c p z2, F c p q1 q2 (by omega) z, f3 c p z2, f2 c p q3]
        exact hk m5 (RZ.laid (m0 := m1) z1 hm5.unflag F5) (by rw [← eD]; exact funext (fun p => F5 346 p (by first | decide | exact fun z => absurd z.1 (by decide) | exact ⟨fun z => absurd z.1 (by decide), fun z => absurd z.1 (by decide)⟩ | omega) (by first | decide | exact fun z => absurd z.1 (by decide) | exact ⟨fun z => absurd z.1 (by decide), fun z => absurd z.1 (by decide)⟩ | omega) (by first | decide | exact fun z => absurd z.1 (by decide) | exact ⟨fun z => absurd z.1 (by decide), fun z => absurd z.1 (by decide)⟩ | omega) (by first | decide | exact fun z => absurd z.1 (by decide) | exact ⟨fun z => absurd z.1 (by decide), fun z => absurd z.1 (by decide)⟩ | omega))) (rr.keep (fun c p q => F5 c p (by omega) (by omega) (by omega) (by omega))) t0 t1
      · refine ⟨hS.k336, ?_⟩
        refine zn_passes (o := o) hS hM (rr.keep (fun c p q => by rw [F c p (by omega) (by omega) (by omega) (by omega), f3 c p (by first | exact fun y => absurd (y.1 ▸ z) (by decide) | exact fun y => absurd (y.1 ▸ q) (by decide) | exact z | exact q | exact z.1 | exact q.1 | exact z.2 | exact q.2 | omega), f2 c p (by first | exact fun y => absurd (y.1 ▸ z) (by decide) | exact fun y => absurd (y.1 ▸ q) (by decide) | exact z | exact q | exact z.1 | exact q.1 | exact z.2 | exact q.2 | omega)])) (by rw [eM, hrn_7]; omega) bj (fun r9 m4 hm4 f4 e4 b4 => ?_)
        refine g_A (by omega) (by omega) ?_
        refine ih (k + 1) m4 (by omega) hm4 (fun c p q1 q2 q3 q4 => by rw [f4 c p q1 q2 q3 q4, F c p q1 q2 q3 q4]) ?_ b4 (by omega)
        rw [e4, F 336 23 (by first | decide | exact fun z => absurd z.1 (by decide) | exact ⟨fun z => absurd z.1 (by decide), fun z => absurd z.1 (by decide)⟩ | omega) (by first | decide | exact fun z => absurd z.1 (by decide) | exact ⟨fun z => absurd z.1 (by decide), fun z => absurd z.1 (by decide)⟩ | omega) (by first | decide | exact fun z => absurd z.1 (by decide) | exact ⟨fun z => absurd z.1 (by decide), fun z => absurd z.1 (by decide)⟩ | omega) (by first | decide | exact fun z => absurd z.1 (by decide) | exact ⟨fun z => absurd z.1 (by decide), fun z => absurd z.1 (by decide)⟩ | omega), y3, eM]
        rfl
  refine ⟨(w + 1).toNat, L (w + 1).toNat 0 m3 (by omega) hm3 (fun _ _ _ _ _ _ => rfl) e46 (fun j j0 j1 => ?_) (by omega)⟩
  rw [e46, ← eD] at j1 ⊢
  rw [← (z1.jg j0 j1).2.1]
  exact hm1.aB_5_6 (c := 16) (by decide) j0 (by rw [eD] at j1; omega)
theorem zz_ice {S : Sh} {m0 : Mm} {K : Int → Int → Mm → Prop} {K1 : Int → Mm → Prop} {n w : Int} (hS : Shp S) (hz : RZ S m0 n) (hn : n ≤ 700) (hK : ∀ (r : Int) (M : Mm), wp_X12_ice S M 336 w (fun r2 M2 => K r r2 M2) → K1 r M) (hk : ∀ (r : Int) (M1 : Mm), RZ S M1 n → K r r M1) : wp_X11_ice S m0 0 w K1 := by
  have hm := hz.inv
  have ct := hz.ct
  obtain ⟨o, rc, rr⟩ := hz.rule
  have h7 : m0 16 0 = m0 346 7 := hz.sr.1.1
  have b16 := hm.f_16_0
  have hb16 : m0 16 0 ≤ n := hz.2.2.2.1.1
  have i0 := hz.2.2.2.2.2.2.2.2
  obtain ⟨D, eD⟩ : ∃ D : Int → Int, m0 346 = D := ⟨_, rfl⟩
  have dbD : DB D := by rw [← eD]; exact hz.rd.1.1
  have b3D : D 3 ≤ 8 := by rw [← eD]; exact hz.rd.1.2
  have srD : SR m0 16 D := by rw [← eD]; exact hz.sr
  have tlD : TL 4 D m0 := by rw [← eD]; exact hz.tl
  have no : ∀ r : Int, r = -1 → (m0 346 0 = 0 ∨ ¬ (1 ≤ w ∧ w ≤ 60)) → wp_X12_ice S m0 336 w (fun r2 M2 => K r r2 M2) := by
    intro r er q
    rw [er]
    refine u_X12_ice ?_
    refine ⟨hS.k336, ?_⟩
    refine zs_isDairy hS hm (fun c1 => g_ifF (by decide) ?_) (fun c1 => g_ifT rfl (g_C (hk _ m0 hz)))
    refine g_C ?_
    refine g_C ?_
    refine g_C ?_
    exact zs_in (fun c2 => absurd c2 (q.resolve_left c1)) (fun c2 => g_ifT rfl (g_C (hk _ m0 hz)))
  refine u_X11_ice ?_
  refine g_getr 1 3 rfl hS.k0 hm.f_0_1 (by decide) ?_
  refine g_getr 0 4 rfl hS.k3 hm.f_3_0 (by decide) ?_
  refine g_getu 0 rfl hS.k4 (fun v ev => ?_)
  refine g_if (fun q => g_C (hK _ _ (no _ rfl (Or.inl (by omega))))) (fun q => ?_)
  refine g_C ?_
  refine g_if (fun q1 => g_C (hK _ _ (no _ rfl (Or.inr (by omega))))) (fun q1 => ?_)
  refine g_C ?_
  refine g_if (fun q2 => ?_) (fun q2 => g_C (hK _ _ (no _ rfl (Or.inr (by omega)))))
  refine g_getr 15 68 rfl hS.k0 hm.f_0_15 (by decide) ?_
  refine g_getr 1 3 rfl hS.k0 hm.f_0_1 (by decide) ?_
  refine g_getr 1 16 rfl hS.k3 hm.f_3_1 (by decide) ?_
  refine ⟨hS.k68, ?_⟩
  refine zn_sup (D := D) hS hm dbD srD (fun m1 hm1 f1 s1 => ?_)
  refine g_getr 11 57 rfl hS.k0 hm1.f_0_11 (by decide) ?_
  refine g_getr 15 68 rfl hS.k0 hm1.f_0_15 (by decide) ?_
  refine ⟨hS.k57, ?_⟩
  refine zn_passSeveral (o := o) (D := D) (i := 0) hS hm1 (rc.keep (fun c p q => f1 c p (by first | exact fun y => absurd (y.1 ▸ z) (by decide) | exact fun y => absurd (y.1 ▸ q) (by decide) | exact z | exact q | exact z.1 | exact q.1 | exact z.2 | exact q.2 | omega))) dbD b3D s1 (tlD.move dbD b3D (fun p _ _ => f1 _ p (by omega)) (fun c p q => f1 _ p (by unfold inT at q; omega)) (fun p _ => rfl)) (by rw [f1 55 2 (by first | decide | exact fun z => absurd z.1 (by decide) | exact ⟨fun z => absurd z.1 (by decide), fun z => absurd z.1 (by decide)⟩ | omega), i0.1]) (by omega) (by omega) (by rw [← eD]; omega) (fun m2 hm2 f2 s2 => ?_)
  have F2 : ∀ c p : Int, ¬ c = 56 → ¬ (c = 55 ∧ 4 ≤ p) → ¬ (68 ≤ c ∧ c ≤ 75) → m2 c p = m0 c p := fun c p a b d => by rw [f2 c p a b d, f1 c p d]
  refine g_getr 15 68 rfl hS.k0 hm2.f_0_15 (by decide) ?_
  refine ⟨hS.k68, ?_⟩
  refine zn_together hS hm2 (by decide) (fun t0 t1 => ?_)
  rw [s2.allof (dbD.hrn w.toNat).2.1] at t0 t1 ⊢
  refine g_getr 15 68 rfl hS.k0 hm2.f_0_15 (by decide) ?_
  refine g_getr 1 3 rfl hS.k0 hm2.f_0_1 (by decide) ?_
  refine g_getr 1 16 rfl hS.k3 hm2.f_3_1 (by decide) ?_
  refine ⟨hS.k68, ?_⟩
  refine zn_sup (D := D) hS hm2 dbD (srD.move dbD (fun p _ _ => F2 _ p (by omega) (by omega) (by omega)) (fun c p q => F2 _ p (by unfold inS at q; omega) (by unfold inS at q; omega) (by unfold inS at q; omega)) (fun _ _ _ => rfl)) (fun m3 hm3 f3 s3 => ?_)
  have F3 : ∀ c p : Int, ¬ c = 56 → ¬ (c = 55 ∧ 4 ≤ p) → ¬ (68 ≤ c ∧ c ≤ 75) → m3 c p = m0 c p := fun c p a b d => by rw [f3 c p d, F2 c p a b d]
  refine g_getr 10 55 rfl hS.k0 hm3.f_0_10 (by decide) ?_
  refine g_C ?_
  refine g_putz 2 rfl hS.k55 (Or.inr rfl) (hm3.w_55_2 (by decide) (by decide)) (fun m4 e4 hm4 => ?_)
  have f4 : ∀ c p : Int, ¬ (c = 55 ∧ p = 2) → m4 c p = m3 c p := fun c p q => (congrFun (congrFun e4 _) _).trans (up_ne q)
  have y4 : m4 55 2 = 1 := (congrFun (congrFun e4 _) _).trans (up_at _ _ _ _)
  have F4 : ∀ c p : Int, ¬ c = 56 → ¬ (c = 55 ∧ (4 ≤ p ∨ p = 2)) → ¬ (68 ≤ c ∧ c ≤ 75) → m4 c p = m0 c p := fun c p a b d => by rw [f4 c p (by first | exact fun y => absurd (y.1 ▸ z) (by decide) | exact fun y => absurd (y.1 ▸ q) (by decide) | exact z | exact q | exact z.1 | exact q.1 | exact z.2 | exact q.2 | omega), F3 c p a (by omega) d]
  refine g_getr 11 57 rfl hS.k0 hm4.f_0_11 (by decide) ?_
  refine g_getr 15 68 rfl hS.k0 hm4.f_0_15 (by decide) ?_
  refine ⟨hS.k57, ?_⟩
  refine zn_passSeveral (o := o) (D := D) (i := 1) hS hm4 (rc.keep (fun c p q => F4 c p (by omega) (by omega) (by omega))) dbD b3D (s3.move dbD (fun p _ _ => f4 _ p (by omega)) (fun c p q => f4 _ p (by unfold inS at q; omega)) (fun _ _ _ => rfl)) (tlD.move dbD b3D (fun p _ _ => F4 _ p (by omega) (by omega) (by omega)) (fun c p q => F4 _ p (by unfold inT at q; omega) (by unfold inT at q; omega) (by unfold inT at q; omega)) (fun p _ => rfl)) (by rw [y4]) (by omega) (by omega) (by rw [← eD]; omega) (fun m5 hm5 f5 s5 => ?_)
  refine g_getr 10 55 rfl hS.k0 hm5.f_0_10 (by decide) ?_
  refine g_C ?_
  refine g_putz 2 rfl hS.k55 (Or.inl rfl) (hm5.w_55_2 (by decide) (by decide)) (fun m6 e6 hm6 => ?_)
  have f6 : ∀ c p : Int, ¬ (c = 55 ∧ p = 2) → m6 c p = m5 c p := fun c p q => (congrFun (congrFun e6 _) _).trans (up_ne q)
  have y6 : m6 55 2 = 0 := (congrFun (congrFun e6 _) _).trans (up_at _ _ _ _)
  have F6 : ∀ c p : Int, ¬ c = 56 → ¬ (c = 55 ∧ 4 ≤ p) → ¬ (68 ≤ c ∧ c ≤ 75) → m6 c p = m0 c p := fun c p a b d => by
    by_cases z : c = 55 ∧ p = 2
    · rw [z.1, z.2, y6, i0.1]
    · rw [f6 c p z, f5 c p a b d, F4 c p a (by omega) d]
  refine g_getr 15 68 rfl hS.k0 hm6.f_0_15 (by decide) ?_
  refine ⟨hS.k68, ?_⟩
  have s6 : SR m6 68 (hrn o 1 D w.toNat) := s5.move (dbD.hrn _) (fun p _ _ => f6 _ p (by omega)) (fun c p q => f6 _ p (by unfold inS at q; omega)) (fun _ _ _ => rfl)
  refine zn_together hS hm6 (by decide) (fun t2 t3 => ?_)
  rw [s6.allof (dbD.hrn w.toNat).2.1] at t2 t3 ⊢
  refine g_S (by omega) (by omega) ?_
  have z6 : RZ S m6 n := hz.keep (hz.1.of hm6) (fun c p q => F6 c p (by unfold KZ at q; omega) (by unfold KZ at q; omega) (by unfold KZ at q; omega))
  have e46 : m6 346 = D := by rw [← eD]; exact funext (fun p => F6 346 p (by first | decide | exact fun z => absurd z.1 (by decide) | exact ⟨fun z => absurd z.1 (by decide), fun z => absurd z.1 (by decide)⟩ | omega) (by first | decide | exact fun z => absurd z.1 (by decide) | exact ⟨fun z => absurd z.1 (by decide), fun z => absurd z.1 (by decide)⟩ | omega) (by first | decide | exact fun z => absurd z.1 (by decide) | exact ⟨fun z => absurd z.1 (by decide), fun z => absurd z.1 (by decide)⟩ | omega))
  refine hK _ _ ?_
  refine u_X12_ice ?_
  refine ⟨hS.k336, ?_⟩
  refine zs_isDairy hS z6.inv (fun c1 => g_ifF (by decide) ?_) (fun c1 => absurd c1 (by rw [e46, ← eD]; omega))
  refine g_C ?_
  refine g_C ?_
  refine g_C ?_
  refine zs_in (fun c2 => g_ifF (by decide) ?_) (fun c2 => absurd (by omega) c2)
  refine g_C ?_
  refine ⟨hS.k336, ?_⟩
  refine zn_turnedIn (o := o) hS z6 e46 (rr.keep (fun c p q => F6 c p (by omega) (by omega) (by omega))) (Or.inl rfl) (by omega) (by omega) (by rw [← eD]; omega) (fun m7 z7 e7 rr7 u0 u1 => ?_)
  refine g_C ?_
  refine ⟨hS.k336, ?_⟩
  refine zn_turnedIn (o := o) hS z7 e7 rr7 (Or.inr rfl) (by omega) (by omega) (by rw [← eD]; omega) (fun m8 z8 e8 rr8 u2 u3 => ?_)
  refine g_S (by omega) (by omega) ?_
  exact hk _ m8 z8
theorem zz_rows {S : Sh} {m0 : Mm} {K : Int → Int → Mm → Prop} {K1 : Int → Mm → Prop} {n u1 u2 u3 : Int} (hS : Shp S) (hz : RZ S m0 n) (hK : ∀ (r : Int) (M : Mm), wp_X12_rows S M 336 u1 u2 u3 (fun r2 M2 => K r r2 M2) → K1 r M) (hk : ∀ (r : Int) (M1 : Mm), RZ S M1 n → K r r M1) : wp_X11_rows S m0 0 u1 u2 u3 K1 := by
  have hm := hz.inv
  have ct := hz.ct
  have db := hz.db
  have c4 : m0 4 4 = m0 346 4 := ct.2.2.2.2.1
  have sb : ∀ i : Int, 0 ≤ i → i < ((m0 4 4).toNat : Int) → 0 ≤ m0 7 i ∧ m0 7 i ≤ 20 := fun i i0 i1 => hm.a_7 i0 (by omega)
  refine zr_rows11 (sp := m0 7) (H := (m0 4 4).toNat) hS hm (by omega) (fun i _ _ => rfl) sb (fun r m1 hm1 f1 ra => ?_)
  have F1 : ∀ c p : Int, KZ c p → m1 c p = m0 c p := fun c p q => f1 c p (by unfold KZ at q; omega)
  have z1 : RZ S m1 n := hz.keep (hz.1.of hm1) F1
  have e46 : m1 346 = m0 346 := funext (fun p => f1 346 p (by first | decide | exact fun z => absurd z.1 (by decide) | exact ⟨fun z => absurd z.1 (by decide), fun z => absurd z.1 (by decide)⟩ | omega))
  refine hK _ _ ?_
  refine zr_rows12 (sp := m0 7) (H := (m0 4 4).toNat) hS z1.inv (by rw [e46]; omega) (fun i i0 i1 => ?_) sb (fun r2 m2 hm2 f2 ra2 => ?_)
  · rw [e46, show 13 + 5 * i = 10 + 5 * i + 3 by omega]
    exact (hz.sp i0 (by omega)).1.symm
  · rw [e46, ← ct.1] at ra2
    rw [← ra.uniq ra2]
    exact hk _ m2 (z1.keep (z1.1.of hm2) (fun c p q => f2 c p (by unfold KZ at q; omega) (by unfold KZ at q; omega)))
end
