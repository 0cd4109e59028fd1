abbrev CTb (sp : Int → Int) (H : Nat) (m : Mm) (n T : Int) : Prop := ∀ k t : Int, 0 ≤ k → k ≤ n → 0 ≤ t → t ≤ T → m 65 (301 * k + t) = rcnt sp H k.toNat t
theorem zr_firstThat {X : Mm} {S : Sh} {m : Mm} {K : Int → Mm → Prop} {sp : Int → Int} {H : Nat} {n T k l : Int} (hS : Shp S) (hm : Inv X S m) (n12 : n ≤ 12) (T3 : T ≤ 300) (ht : CTb sp H m n T) (hH : m 4 4 = (H : Int)) (H5 : H ≤ 5) (hs : ∀ i : Int, 0 ≤ i → i < H → m 7 i = sp i) (sb : ∀ i : Int, 0 ≤ i → i < H → 0 ≤ sp i ∧ sp i ≤ 20) (k0 : 0 ≤ k) (k1 : k ≤ n) (l0 : 0 ≤ l) (l1 : l ≤ T) (hx : ∃ h : Int, 0 ≤ h ∧ h < H ∧ sp h ≤ l ∧ 0 < rcnt sp H k.toNat (l - sp h)) (hk : ∀ r : Int, Lh sp H k.toNat l r → K r m) : wp_X6_firstThatLeaves S m 63 k l K := by
  obtain ⟨g, g0, g1, g2, g3⟩ := hx
  refine u_X6_firstThatLeaves ?_
  refine g_C ?_
  have L : ∀ (N : Nat) (h : Int), 0 ≤ h → h ≤ g → (∀ i : Int, 0 ≤ i → i < h → ¬ (sp i ≤ l ∧ 0 < rcnt sp H k.toNat (l - sp i))) → 6 - h ≤ (N : Int) → wp_X6_firstThatLeaves_2 S K N 63 k l h m := by
    intro N
    induction N with
    | zero => intro h _ _ _ z; exfalso; omega
    | succ N ih =>
      intro h h0 h1 hno hN
      have hlt : h < H := by omega
      have sh := sb h h0 hlt
      refine u_X6_firstThatLeaves_2 ?_
      refine g_getr 0 4 rfl hS.k63 hm.f_63_0 (by decide) ?_
      refine g_getu 4 rfl hS.k4 (fun v ev => ?_)
      refine g_ifF (by omega) ?_
      refine g_getr 0 4 rfl hS.k63 hm.f_63_0 (by decide) ?_
      refine g_getr 10 7 rfl hS.k4 hm.f_4_10 (by decide) ?_
      refine g_ldu hS.k7 hS.l7 (by omega) (by omega) (fun s es => ?_)
      rw [hs h h0 hlt] at es
      subst es
      refine g_S (by omega) (by omega) ?_
      refine ⟨hS.k63, ?_⟩
      have nx : ¬ (sp h ≤ l ∧ 0 < rcnt sp H k.toNat (l - sp h)) → wA h 1 fun v18 => wp_X6_firstThatLeaves_2 S K N 63 k l v18 m := by
        intro ne
        have hg : ¬ h = g := fun e => ne (by rw [e]; exact ⟨g2, g3⟩)
        refine g_A (by omega) (by omega) ?_
        refine ih (h + 1) (by omega) (by omega) (fun i i0 i1 => ?_) (by omega)
        by_cases e : i = h
        · rw [e]; exact ne
        · exact hno i i0 (by omega)
      refine zr_rowsOf (sp := sp) (H := H) (n := n) (T := T) hS hm ht n12 T3 k0 k1 (by omega) (by omega) (fun t0 => ?_) (fun t0 => ?_)
      · refine g_if (fun w => nx (fun z => by have := z.2; omega)) (fun w => ?_)
        exact hk h ⟨⟨h0, hlt, by omega, by omega⟩, hno⟩
      · exact g_ifT (by decide) (nx (fun z => by have := z.1; omega))
  exact ⟨6, L 6 0 (by decide) g0 (fun i i0 i1 => absurd i1 (by omega)) (by decide)⟩
theorem zr_handIn {X : Mm} {S : Sh} {m : Mm} {K : Int → Mm → Prop} {sp : Int → Int} {H : Nat} {n t a : Int} (hS : Shp S) (hm : Inv X S m) (n1 : 1 ≤ n) (n12 : n ≤ 12) (t0 : 0 ≤ t) (t3 : t ≤ 300) (a0 : 0 ≤ a) (a1 : a < n) (ht : CTb sp H m n t) (hH : m 4 4 = (H : Int)) (H5 : H ≤ 5) (hs : ∀ i : Int, 0 ≤ i → i < H → m 7 i = sp i) (sb : ∀ i : Int, 0 ≤ i → i < H → 0 ≤ sp i ∧ sp i ≤ 20) (hx : 0 < rcnt sp H n.toNat t) (hk : ∀ r : Int, Fh sp H a.toNat n t r → K r m) : wp_X6_handInFirstRow S m 63 n t a K := by
  refine u_X6_handInFirstRow ?_
  refine g_C ?_
  have L : ∀ (N : Nat) (l k : Int), 0 ≤ k → k ≤ a → 0 ≤ l → l ≤ t → 0 < rcnt sp H (n - k).toNat l → (∀ r : Int, Fh sp H (a - k).toNat (n - k) l r → Fh sp H a.toNat n t r) → a + 1 - k ≤ (N : Int) → wp_X6_handInFirstRow_6 S K N 63 n a l k m := by
    intro N
    induction N with
    | zero => intro l k _ _ _ _ _ _ z; exfalso; omega
    | succ N ih =>
      intro l k k0 k1 l0 l1 hl hF hN
      refine u_X6_handInFirstRow_6 ?_
      refine g_ifF (by omega) ?_
      refine g_S (by omega) (by omega) ?_
      refine g_C ?_
      refine g_S (by omega) (by omega) ?_
      refine ⟨hS.k63, ?_⟩
      have hl' := hl
      rw [show (n - k).toNat = (n - k - 1).toNat + 1 by omega] at hl'
      refine zr_firstThat (sp := sp) (H := H) hS hm n12 t3 ht hH H5 hs sb (by omega) (by omega) l0 l1 (rcnt_pos.mp hl') (fun h lh => ?_)
      have hlt := lh.1.2.1
      have h0 := lh.1.1
      have sh := sb h h0 hlt
      have sle := lh.1.2.2.1
      refine g_if (fun w => ?_) (fun w => ?_)
      · refine g_getr 0 4 rfl hS.k63 hm.f_63_0 (by decide) ?_
        refine g_getr 10 7 rfl hS.k4 hm.f_4_10 (by decide) ?_
        refine g_ldu hS.k7 hS.l7 (by omega) (by omega) (fun s es => ?_)
        rw [hs h h0 hlt] at es
        subst es
        refine g_S (by omega) (by omega) ?_
        refine g_A (by omega) (by omega) ?_
        refine ih (l - sp h) (k + 1) (by omega) (by omega) (by omega) (by omega) (by rw [show n - (k + 1) = n - k - 1 by omega]; exact lh.1.2.2.2) (fun r fr => hF r ?_) (by omega)
        rw [show (a - k).toNat = (a - (k + 1)).toNat + 1 by omega]
        exact ⟨h, lh, by rw [show n - k - 1 = n - (k + 1) by omega]; exact fr⟩
      · refine hk h (hF h ?_)
        rw [show (a - k).toNat = 0 by omega]
        exact lh
  exact ⟨(a + 1).toNat, L (a + 1).toNat t 0 (by decide) a0 t0 (by omega) (by rw [Int.sub_zero]; exact hx) (fun r fr => by rw [Int.sub_zero, Int.sub_zero] at fr; exact fr) (by omega)⟩
theorem zr_handsIn {X : Mm} {S : Sh} {m : Mm} {K : Int → Mm → Prop} {sp : Int → Int} {H : Nat} {n t a : Int} (hS : Shp S) (hm : Inv X S m) (n1 : 1 ≤ n) (n12 : n ≤ 12) (t0 : 0 ≤ t) (t3 : t ≤ 300) (a0 : 0 ≤ a) (a1 : a < n) (ht : CTb sp H m n t) (hH : m 4 4 = (H : Int)) (H5 : H ≤ 5) (hs : ∀ i : Int, 0 ≤ i → i < H → m 7 i = sp i) (sb : ∀ i : Int, 0 ≤ i → i < H → 0 ≤ sp i ∧ sp i ≤ 20) (hk : K (hb (fun h => rB sp n t h H) H) m) : wp_X6_handsInRows S m 63 n t a K := by
  have key : ∀ h : Int, 0 ≤ h → h < H → (rB sp n t h H ↔ ∃ u : Int, 0 ≤ u ∧ u ≤ t ∧ 0 < rcnt sp H a.toNat u ∧ 0 ≤ t - u - sp h ∧ 0 < rcnt sp H (n - a - 1).toNat (t - u - sp h)) := by
    intro h h0 h1
    have sh := sb h h0 h1
    unfold rB
    constructor
    · rintro ⟨z1, z2⟩
      rw [show (n - 1).toNat = a.toNat + (n - a - 1).toNat by omega] at z2
      obtain ⟨u, u0, u1, u2, u3⟩ := (rcnt_split (fun i i0 i1 => (sb i i0 i1).1) a.toNat (n - a - 1).toNat (t - sp h) (by omega)).mp z2
      exact ⟨u, u0, by omega, u2, by omega, by rw [show t - u - sp h = t - sp h - u by omega]; exact u3⟩
    · rintro ⟨u, u0, u1, u2, u3, u4⟩
      refine ⟨by omega, ?_⟩
      rw [show (n - 1).toNat = a.toNat + (n - a - 1).toNat by omega]
      exact (rcnt_split (fun i i0 i1 => (sb i i0 i1).1) a.toNat (n - a - 1).toNat (t - sp h) (by omega)).mpr ⟨u, u0, by omega, u2, by rw [show t - sp h - u = t - u - sp h by omega]; exact u4⟩
  refine u_X6_handsInRows ?_
  refine g_C ?_
  refine g_C ?_
  have L : ∀ (N : Nat) (h : Nat), h ≤ H → 6 - (h : Int) ≤ (N : Int) → wp_X6_handsInRows_6 S K N 63 n t a (hb (fun h => rB sp n t h H) h) (h : Int) m := by
    intro N
    induction N with
    | zero => intro h _ z; exfalso; omega
    | succ N ih =>
      intro h hle hN
      have bb := hb_b (P := fun h => rB sp n t h H) h (by omega)
      refine u_X6_handsInRows_6 ?_
      refine g_getr 0 4 rfl hS.k63 hm.f_63_0 (by decide) ?_
      refine g_getu 4 rfl hS.k4 (fun v ev => ?_)
      refine g_if (fun w => ?_) (fun w => ?_)
      · rw [show h = H by omega]
        exact hk
      have hlt : (h : Int) < H := by omega
      have sh := sb (h : Int) (by omega) hlt
      have ob := or_b (hb (fun h => rB sp n t h H) h).toNat (by omega) h (by omega)
      rw [Int.toNat_of_nonneg bb.1] at ob
      refine g_C ?_
      have I : ∀ (N2 : Nat) (x u : Int), 0 ≤ u → u ≤ t + 1 → ((x = hb (fun h => rB sp n t h H) h ∧ ¬ ∃ q : Int, 0 ≤ q ∧ q < u ∧ 0 < rcnt sp H a.toNat q ∧ 0 ≤ t - q - sp (h : Int) ∧ 0 < rcnt sp H (n - a - 1).toNat (t - q - sp (h : Int))) ∨ (x = iOr (hb (fun h => rB sp n t h H) h) (iShl 1 (h : Int)) ∧ rB sp n t (h : Int) H)) → t + 2 - u ≤ (N2 : Int) → wp_X6_handsInRows_21 S (fun a0 a1 a2 a3 a4 a5 M => wp_X6_handsInRows_6 S K N a0 a1 a2 a3 a4 a5 M) K N2 63 n t a x (h : Int) u m := by
        intro N2
        induction N2 with
        | zero => intro x u _ _ _ z; exfalso; omega
        | succ N2 ih2 =>
          intro x u u0 u1 hx hN2
          refine u_X6_handsInRows_21 ?_
          refine g_if (fun w2 => ?_) (fun w2 => ?_)
          · refine g_A (by omega) (by omega) ?_
            rw [show (h : Int) + 1 = ((h + 1 : Nat) : Int) by omega]
            have e : x = hb (fun h => rB sp n t h H) (h + 1) := by
              rcases hx with ⟨e1, e2⟩ | ⟨e1, e2⟩
              · have nr : ¬ rB sp n t (h : Int) H := fun z => by
                  obtain ⟨q, q0, q1, q2, q3, q4⟩ := (key (h : Int) (by omega) hlt).mp z
                  exact e2 ⟨q, q0, by omega, q2, q3, q4⟩
                exact e1.trans (if_neg nr).symm
              · exact e1.trans (if_pos e2).symm
            rw [e]
            exact ih (h + 1) (by omega) (by omega)
          · have nx : ∀ x' : Int, ((x' = hb (fun h => rB sp n t h H) h ∧ ¬ ∃ q : Int, 0 ≤ q ∧ q < u + 1 ∧ 0 < rcnt sp H a.toNat q ∧ 0 ≤ t - q - sp (h : Int) ∧ 0 < rcnt sp H (n - a - 1).toNat (t - q - sp (h : Int))) ∨ (x' = iOr (hb (fun h => rB sp n t h H) h) (iShl 1 (h : Int)) ∧ rB sp n t (h : Int) H)) → wp_X6_handsInRows_77 S (fun a0 a1 a2 a3 a4 a5 M => wp_X6_handsInRows_6 S K N a0 a1 a2 a3 a4 a5 M) (fun a0 a1 a2 a3 a4 a5 a6 M => wp_X6_handsInRows_21 S (fun a0 a1 a2 a3 a4 a5 M => wp_X6_handsInRows_6 S K N a0 a1 a2 a3 a4 a5 M) K N2 a0 a1 a2 a3 a4 a5 a6 M) K 63 n t a x' (h : Int) u m := by
              intro x' hx'
              refine u_X6_handsInRows_77 ?_
              refine g_A (by omega) (by omega) ?_
              exact ih2 x' (u + 1) (by omega) (by omega) hx' (by omega)
            have stay : ¬ (0 < rcnt sp H a.toNat u ∧ 0 ≤ t - u - sp (h : Int) ∧ 0 < rcnt sp H (n - a - 1).toNat (t - u - sp (h : Int))) → wp_X6_handsInRows_77 S (fun a0 a1 a2 a3 a4 a5 M => wp_X6_handsInRows_6 S K N a0 a1 a2 a3 a4 a5 M) (fun a0 a1 a2 a3 a4 a5 a6 M => wp_X6_handsInRows_21 S (fun a0 a1 a2 a3 a4 a5 M => wp_X6_handsInRows_6 S K N a0 a1 a2 a3 a4 a5 M) K N2 a0 a1 a2 a3 a4 a5 a6 M) K 63 n t a x (h : Int) u m := by
              intro ns
              refine nx x ?_
              rcases hx with ⟨e1, e2⟩ | e
              · refine Or.inl ⟨e1, fun z => ?_⟩
                obtain ⟨q, q0, q1, q2⟩ := z
                by_cases eq : q = u
                · rw [eq] at q2; exact ns q2
                · exact e2 ⟨q, q0, by omega, q2⟩
              · exact Or.inr e
            refine g_S (by omega) (by omega) ?_
            refine g_getr 0 4 rfl hS.k63 hm.f_63_0 (by decide) ?_
            refine g_getr 10 7 rfl hS.k4 hm.f_4_10 (by decide) ?_
            refine g_ldu hS.k7 hS.l7 (by omega) (by omega) (fun s es => ?_)
            rw [hs _ (by omega) hlt] at es
            subst es
            refine g_S (by omega) (by omega) ?_
            refine ⟨hS.k63, ?_⟩
            refine zr_rowsOf (sp := sp) (H := H) (n := n) (T := t) hS hm ht n12 t3 a0 (by omega) (by omega) (by omega) (fun _ => ?_) (fun z => by exfalso; omega)
            refine g_if (fun w3 => stay (fun z => by have := z.1; omega)) (fun w3 => ?_)
            refine g_S (by omega) (by omega) ?_
            refine g_C ?_
            refine g_S (by omega) (by omega) ?_
            refine ⟨hS.k63, ?_⟩
            refine zr_rowsOf (sp := sp) (H := H) (n := n) (T := t) hS hm ht n12 t3 (by omega) (by omega) (by omega) (by omega) (fun y0 => ?_) (fun y0 => g_ifT (by decide) (stay (fun z => by have := z.2.1; omega)))
            refine g_if (fun w4 => stay (fun z => by have := z.2.2; omega)) (fun w4 => ?_)
            have yr : rB sp n t (h : Int) H := (key (h : Int) (by omega) hlt).mpr ⟨u, u0, by omega, by omega, y0, by omega⟩
            refine g_C ?_
            refine g_Oe (fun z ez => ?_)
            refine g_Oe (fun z2 ez2 => ?_)
            refine nx z2 (Or.inr ⟨?_, yr⟩)
            rw [ez2, ez]
            rcases hx with ⟨e1, e2⟩ | ⟨e1, e2⟩
            · rw [e1]
            · rw [e1, ob.1]
      exact ⟨(t + 2).toNat, I (t + 2).toNat _ 0 (by decide) (by omega) (Or.inl ⟨rfl, fun z => by obtain ⟨q, q0, q1, -⟩ := z; exfalso; omega⟩) (by omega)⟩
  exact ⟨6, L 6 0 (by omega) (by decide)⟩
theorem zr_rows11 {X : Mm} {S : Sh} {m0 : Mm} {K : Int → Mm → Prop} {sp : Int → Int} {H : Nat} {u1 u2 u3 : Int} (hS : Shp S) (hm0 : Inv X S m0) (hH : m0 4 4 = (H : Int)) (hs : ∀ i : Int, 0 ≤ i → i < H → m0 7 i = sp i) (sb : ∀ i : Int, 0 ≤ i → i < H → 0 ≤ sp i ∧ sp i ≤ 20) (hk : ∀ (r : Int) (M1 : Mm), Inv X S M1 → (∀ c p : Int, ¬ c = 65 → M1 c p = m0 c p) → RA sp H (m0 4 0) u1 u2 u3 r → K r M1) : wp_X11_rows S m0 0 u1 u2 u3 K := by
  have b4 := hm0.f_4_4
  have H5 : H ≤ 5 := by omega
  have no : (m0 4 0 = 0 ∨ ¬ rOK u1 u2 u3) → K (-3) m0 := fun z => hk _ m0 hm0 (fun _ _ _ => rfl) (g_ifT z rfl)
  have go : ∀ f : Int, ¬ m0 4 0 = 0 → rOK u1 u2 u3 → (f = 0 ↔ ¬ (0 ≤ u3 ∧ u3 ≤ 11)) → wp_X11_rows_92 S K 0 u1 u2 u3 f m0 := by
    intro f p0 ok hf
    obtain ⟨a1, a2, a3, a4, a5⟩ := id ok
    have nb : ¬ (m0 4 0 = 0 ∨ ¬ rOK u1 u2 u3) := fun z => by rcases z with z | z; exact p0 z; exact z ok
    refine u_X11_rows_92 ?_
    refine g_getr 13 63 rfl hS.k0 hm0.f_0_13 (by decide) ?_
    refine ⟨hS.k63, ?_⟩
    refine zr_countRows (sp := sp) (H := H) hS hm0 a1 a2 a3 a4 hH hs (fun m hm F ht => ?_)
    have hH' : m 4 4 = (H : Int) := (F 4 4 (by omega)).trans hH
    have hs' : ∀ i : Int, 0 ≤ i → i < H → m 7 i = sp i := fun i i0 i1 => (F 7 i (by omega)).trans (hs i i0 i1)
    refine g_getr 13 63 rfl hS.k0 hm.f_0_13 (by decide) ?_
    refine ⟨hS.k63, ?_⟩
    refine zr_rowsOf (sp := sp) (H := H) (n := u1) (T := u2) hS hm ht a2 a4 (by omega) (by omega) (by omega) (by omega) (fun _ => ?_) (fun z => by exfalso; omega)
    have nn := rcnt_nn (sp := sp) (H := H) u1.toNat u2
    refine g_C ?_
    have fin : ∀ w : Int, ¬ u3 = -1 → w = (if u3 < 20 then u3 else u3 - 20) → wp_X11_rows_133 S K 0 u1 u2 f (rcnt sp H u1.toNat u2) w m := by
      intro w n1 ew
      refine u_X11_rows_133 ?_
      refine g_if (fun w1 => g_C (hk _ m hm F (g_ifF nb (g_ifF n1 (g_ifT (Or.inl (by omega)) rfl))))) (fun w1 => ?_)
      refine g_if (fun w2 => ?_) (fun w2 => g_C (hk _ m hm F (g_ifF nb (g_ifF n1 (g_ifT (Or.inr (by omega)) rfl)))))
      have ng : ¬ (¬ 0 < rcnt sp H u1.toNat u2 ∨ u1 ≤ (if u3 < 20 then u3 else u3 - 20)) := fun z => by rcases z with z | z; omega; omega
      refine g_if (fun w3 => ?_) (fun w3 => ?_)
      · have u20 : 20 ≤ u3 := by
          have := hf.mp w3
          omega
        rw [if_neg (by omega)] at ew
        refine g_getr 13 63 rfl hS.k0 hm.f_0_13 (by decide) ?_
        refine ⟨hS.k63, ?_⟩
        exact zr_handsIn (sp := sp) (H := H) hS hm a1 a2 a3 a4 (by omega) w2 ht hH' H5 hs' sb (hk _ m hm F (g_ifF nb (g_ifF n1 (g_ifF ng (g_ifF (by omega) rfl)))))
      · have u11 : 0 ≤ u3 ∧ u3 ≤ 11 := by
          by_cases z : 0 ≤ u3 ∧ u3 ≤ 11
          · exact z
          · exact absurd (hf.mpr z) w3
        rw [if_pos (by omega)] at ew
        refine g_getr 13 63 rfl hS.k0 hm.f_0_13 (by decide) ?_
        refine ⟨hS.k63, ?_⟩
        rw [ew] at w2 ⊢
        exact zr_handIn (sp := sp) (H := H) hS hm a1 a2 a3 a4 u11.1 w2 ht hH' H5 hs' sb (by omega) (fun r fr => hk r m hm F (g_ifF nb (g_ifF n1 (g_ifF ng (g_ifT (by omega) fr)))))
    refine g_if (fun w => ?_) (fun w => ?_)
    · refine g_if (fun w2 => ?_) (fun w2 => ?_)
      · have := hf.mp w2
        refine g_C ?_
        refine g_S (by omega) (by omega) ?_
        exact fin _ (by omega) (by rw [if_neg (by omega)])
      · have u11 : 0 ≤ u3 ∧ u3 ≤ 11 := by
          by_cases z : 0 ≤ u3 ∧ u3 ≤ 11
          · exact z
          · exact absurd (hf.mpr z) w2
        exact fin _ (by omega) (by rw [if_pos (by omega)])
    · exact hk _ m hm F (g_ifF nb (g_ifT (by omega) rfl))
  have mid : ∀ f g : Int, (f = 0 ↔ ¬ (0 ≤ u3 ∧ u3 ≤ 11)) → (g = 0 ↔ ¬ (20 ≤ u3 ∧ u3 ≤ 31)) → wp_X11_rows_34 S K 0 u1 u2 u3 f g m0 := by
    intro f g hf hg
    have bad : ∀ z : ¬ rOK u1 u2 u3, K (-3) m0 := fun z => no (Or.inr z)
    refine u_X11_rows_34 ?_
    refine g_getr 1 3 rfl hS.k0 hm0.f_0_1 (by decide) ?_
    refine g_getr 0 4 rfl hS.k3 hm0.f_3_0 (by decide) ?_
    refine g_getu 0 rfl hS.k4 (fun v ev => ?_)
    refine g_if (fun w => g_C (no (Or.inl (by omega)))) (fun w => ?_)
    refine g_C ?_
    refine g_if (fun w1 => g_C (bad (fun o => by have := o.1; omega))) (fun w1 => ?_)
    refine g_C ?_
    refine g_if (fun w2 => g_C (bad (fun o => by have := o.2.1; omega))) (fun w2 => ?_)
    refine g_if (fun w3 => g_C (bad (fun o => by have := o.2.2.1; omega))) (fun w3 => ?_)
    refine g_C ?_
    refine g_if (fun w4 => ?_) (fun w4 => g_C (bad (fun o => by have := o.2.2.2.1; omega)))
    refine g_C ?_
    refine g_if (fun w5 => go f (by omega) ⟨by omega, by omega, by omega, by omega, Or.inl (by omega)⟩ hf) (fun w5 => ?_)
    refine g_if (fun w6 => ?_) (fun w6 => ?_)
    · have u11 : 0 ≤ u3 ∧ u3 ≤ 11 := by
        by_cases z : 0 ≤ u3 ∧ u3 ≤ 11
        · exact z
        · exact absurd (hf.mpr z) w6
      exact go f (by omega) ⟨by omega, by omega, by omega, by omega, Or.inl (by omega)⟩ hf
    · refine g_if (fun w7 => ?_) (fun w7 => ?_)
      · have u31 : 20 ≤ u3 ∧ u3 ≤ 31 := by
          by_cases z : 20 ≤ u3 ∧ u3 ≤ 31
          · exact z
          · exact absurd (hg.mpr z) w7
        exact go f (by omega) ⟨by omega, by omega, by omega, by omega, Or.inr u31⟩ hf
      · have n11 := hf.mp (by omega)
        have n31 := hg.mp (by omega)
        exact g_C (bad (fun o => by rcases o.2.2.2.2 with y | y; omega; exact n31 y))
  have fif : ∀ f : Int, (f = 0 ↔ ¬ (0 ≤ u3 ∧ u3 ≤ 11)) → wp_X11_rows_15 S K 0 u1 u2 u3 f m0 := by
    intro f hf
    refine u_X11_rows_15 ?_
    refine g_C ?_
    refine g_if (fun w => ?_) (fun w => ?_)
    · refine u_X11_rows_33 ?_
      exact g_C (mid f 0 hf ⟨fun _ => by omega, fun _ => rfl⟩)
    refine g_C ?_
    refine g_if (fun w2 => ?_) (fun w2 => ?_)
    · refine u_X11_rows_33 ?_
      exact g_C (mid f 0 hf ⟨fun _ => by omega, fun _ => rfl⟩)
    · exact g_C (mid f 1 hf ⟨fun z => absurd z (by decide), fun z => absurd ⟨by omega, by omega⟩ z⟩)
  refine u_X11_rows ?_
  refine g_if (fun w => ?_) (fun w => ?_)
  · refine u_X11_rows_14 ?_
    exact g_C (fif 0 ⟨fun _ => by omega, fun _ => rfl⟩)
  refine g_C ?_
  refine g_if (fun w2 => ?_) (fun w2 => ?_)
  · refine u_X11_rows_14 ?_
    exact g_C (fif 0 ⟨fun _ => by omega, fun _ => rfl⟩)
  · exact g_C (fif 1 ⟨fun z => absurd z (by decide), fun z => absurd ⟨by omega, by omega⟩ z⟩)
