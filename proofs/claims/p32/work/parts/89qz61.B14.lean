section
/-! YEARS of the reference -/
def yx (o : Option (List Cz)) (f : Int → Int) (D : Dd) (n : Nat) (x : Int) : Nat → Int
  | 0 => x
  | k + 1 => (yhN o f (D, yx o f D n x k) n).2
def yr (o : Option (List Cz)) (f : Int → Int) (D : Dd) (n : Nat) (x y : Int) : Dd := (yhN o f (D, yx o f D n x y.toNat) n).1
def gS (D : Int → Int) (j : Int) : Int := if D (35 + 4 * j + 3) = 0 ∧ D 2 ≤ D (35 + 4 * j + 2) then 1 else 0
def hsr (D : Int → Int) : Int := tsum (gS D) (D 5).toNat
def ysour (o : Option (List Cz)) (f : Int → Int) (D : Dd) (n : Nat) (x : Int) (k : Nat) : Int := tsum (fun y => hsr (yr o f D n x y)) k
def yturn (o : Option (List Cz)) (f : Int → Int) (D : Dd) (n : Nat) (x : Int) (k : Nat) : Int := tsum (fun y => tall (yr o f D n x y)) k
theorem gS_b (D : Int → Int) (j : Int) : 0 ≤ gS D j ∧ gS D j ≤ 1 := by unfold gS; split <;> omega
theorem zy_years12 {S : Sh} {m0 : Mm} {K : Int → Mm → Prop} {o : Option (List Cz)} {f : Int → Int} {D : Dd} {n u1 u2 u3 : Int} (hS : Shp S) (z0 : RZ S m0 n) (eD : m0 346 = D) (rr : RR m0 o) (ro : RO D f) (fb : ∀ i : Int, 0 ≤ i → i < 36 → 0 ≤ f i ∧ f i ≤ 5) (b7 : 0 ≤ D 7 ∧ D 7 ≤ 999) (hno : ¬ (¬ D 0 = 0 ∧ (1 ≤ u1 ∧ u1 ≤ 10) ∧ (1 ≤ u2 ∧ u2 ≤ 60) ∧ (0 ≤ u3 ∧ u3 ≤ 1)) → K (-1) m0) (hk : ∀ M1 : Mm, (¬ D 0 = 0 ∧ (1 ≤ u1 ∧ u1 ≤ 10) ∧ (1 ≤ u2 ∧ u2 ≤ 60) ∧ (0 ≤ u3 ∧ u3 ≤ 1)) → RZ S M1 n → (u3 = 0 → K (ysour o f D u2.toNat (m0 336 22) u1.toNat) M1) ∧ (u3 = 1 → K (yturn o f D u2.toNat (m0 336 22) u1.toNat) M1)) : wp_X12_years S m0 336 u1 u2 u3 K := by
  have hm := z0.inv
  have db : DB D := by rw [← eD]; exact z0.rd.1.1
  have b3 : D 3 ≤ 8 := by rw [← eD]; exact z0.rd.1.2
  obtain ⟨b4, b5, _⟩ := id db
  have b0 : 0 ≤ D 0 ∧ D 0 ≤ 6 := by rw [← eD]; exact hm.f_346_0
  have i0 := z0.2.2.2.2.2.2.2.2
  refine u_X12_years ?_
  refine ⟨hS.k336, ?_⟩
  rw [← eD] at hno hk
  refine zs_isDairy hS hm (fun c0 => g_ifF (by decide) ?_) (fun c0 => g_ifT rfl (g_C (hno (fun z => z.1 c0))))
  refine g_C ?_
  refine g_C ?_
  refine g_C ?_
  refine zs_in (fun c1 => g_ifF (by decide) ?_) (fun c1 => g_ifT rfl (g_C (hno (fun z => c1 z.2.1))))
  refine g_C ?_
  refine g_C ?_
  refine g_C ?_
  refine zs_in (fun c2 => g_ifF (by decide) ?_) (fun c2 => g_ifT rfl (g_C (hno (fun z => c2 z.2.2.1))))
  refine g_C ?_
  refine g_C ?_
  refine g_C ?_
  refine zs_in (fun c3 => g_ifT (by decide) ?_) (fun c3 => g_ifF (by decide) (g_C (hno (fun z => c3 z.2.2.2))))
  have hk := fun M1 => hk M1 ⟨c0, c1, c2, c3⟩
  rw [eD] at hk c0
  have bx := hm.f_336_22
  refine g_getu 22 rfl hS.k336 (fun x ex => ?_)
  subst ex
  refine g_C ?_
  refine g_put 33 rfl hS.k336 (hm.w_336_33 bx.1 bx.2) (fun m1 e1 hm1 => ?_)
  have f1 : ∀ c p : Int, ¬ (c = 336 ∧ p = 33) → m1 c p = m0 c p := fun c p q => (congrFun (congrFun e1 _) _).trans (up_ne q)
  have y1 : m1 336 33 = m0 336 22 := (congrFun (congrFun e1 _) _).trans (up_at _ _ _ _)
  refine g_C ?_
  refine g_C ?_
  refine ⟨hS.k336, ?_⟩
  refine zx_keeps hS hm1 (fun m2 hm2 f2 g2 => ?_)
  refine g_C ?_
  have e46 : m2 346 = D := by rw [← eD]; exact funext (fun p => by rw [f2 346 p (by first | decide | exact fun z => absurd z.1 (by decide) | exact ⟨fun z => absurd z.1 (by decide), fun z => absurd z.1 (by decide)⟩ | omega), f1 346 p (by first | decide | exact fun z => absurd z.1 (by decide) | exact ⟨fun z => absurd z.1 (by decide), fun z => absurd z.1 (by decide)⟩ | omega)])
  have k48 : ∀ p : Int, 0 ≤ p ∧ p < 57 → m2 348 p = D p := fun p q => by rw [g2 p q, f1 346 p (by first | decide | exact fun z => absurd z.1 (by decide) | exact ⟨fun z => absurd z.1 (by decide), fun z => absurd z.1 (by decide)⟩ | omega), eD]
  obtain ⟨x, hx⟩ : ∃ x : Int, x = m0 336 22 := ⟨_, rfl⟩
  rw [← hx] at hk y1
  have jD : ∀ j : Int, 0 ≤ j → j < D 5 → 0 ≤ D (35 + 4 * j + 2) ∧ D (35 + 4 * j + 2) ≤ 999 := fun j j0 j1 => by
    rw [← eD] at j1 ⊢
    rw [← (z0.jg j0 j1).2.1]
    exact hm.aB_5_6 (c := 16) (by decide) j0 (by rw [eD] at j1; omega)
  have L : ∀ (l k : Nat) (a b : Int) (M : Mm), (k : Int) ≤ u1 → Inv (up (sf m0) (-1) 0 1) S M → (∀ c p : Int, ¬ c = 344 → ¬ c = 345 → ¬ (c = 336 ∧ (p = 18 ∨ p = 33)) → M c p = m2 c p) → M 336 33 = yx o f D u2.toNat x k → a = ysour o f D u2.toNat x k → b = yturn o f D u2.toNat x k → (0 ≤ a ∧ a ≤ 10 * k) → (0 ≤ b ∧ b ≤ 4000 * k) → u1 + 1 - k ≤ (l : Int) → wp_X12_years_65 S K l 336 u1 u2 u3 a b k M := by
    intro l
    induction l with
    | zero => intro k a b M _ _ _ _ _ _ _ _ h; exfalso; omega
    | succ l ih =>
      intro k a b M k1 hM F eX ea eb ba bb hl
      have eM0 : M 346 = D := by rw [← e46]; exact funext (fun p => F 346 p (by first | decide | exact fun z => absurd z.1 (by decide) | exact ⟨fun z => absurd z.1 (by decide), fun z => absurd z.1 (by decide)⟩ | omega) (by first | decide | exact fun z => absurd z.1 (by decide) | exact ⟨fun z => absurd z.1 (by decide), fun z => absurd z.1 (by decide)⟩ | omega) (by first | decide | exact fun z => absurd z.1 (by decide) | exact ⟨fun z => absurd z.1 (by decide), fun z => absurd z.1 (by decide)⟩ | omega))
      refine u_X12_years_65 ?_
      refine g_if (fun q => ?_) (fun q => ?_)
      · have ek : u1.toNat = k := by omega
        have zM : RZ S M n := RZ.laid (m0 := m0) z0 hM.unflag (fun c p q1 q2 q3 q4 => by rw [F c p q1 q2 q4, f2 c p q3, f1 c p (by first | exact fun y => absurd (y.1 ▸ z) (by decide) | exact fun y => absurd (y.1 ▸ q) (by decide) | exact z | exact q | exact z.1 | exact q.1 | exact z.2 | exact q.2 | omega)])
        obtain ⟨h0, h1⟩ := hk M zM
        rw [ek, ← ea] at h0
        rw [ek, ← eb] at h1
        exact g_if (fun q2 => h1 (by omega)) (fun q2 => h0 (by omega))
      refine g_C ?_
      obtain ⟨s, es⟩ : ∃ s : Dd × Int, s = (D, yx o f D u2.toNat x k) := ⟨_, rfl⟩
      have es1 : eM D s.1 := by rw [es]; exact fun _ _ => rfl
      have es7 : s.1 7 = D 7 := by rw [es]
      -- the HOURS
      have H : ∀ (l2 h : Nat) (N : Mm), (h : Int) ≤ u2 → Inv (up (sf m0) (-1) 0 1) S N → (∀ c p : Int, ¬ c = 344 → ¬ c = 345 → ¬ (c = 336 ∧ (p = 18 ∨ p = 33)) → ¬ c = 346 → N c p = m2 c p) → (N 346, N 336 33) = yhN o f s h → jB N → u2 + 1 - h ≤ (l2 : Int) → wp_X12_years_74 S (fun a0 a1 a2 a3 a4 a5 a6 M => wp_X12_years_65 S K l a0 a1 a2 a3 a4 a5 a6 M) K l2 336 u1 u2 u3 a b k h N := by
        intro l2
        induction l2 with
        | zero => intro h N _ _ _ _ _ hl2; exfalso; omega
        | succ l2 ih2 =>
          intro h N h1 hN G eN jN hl2
          have eN1 : N 346 = (yhN o f s h).1 := congrArg Prod.fst eN
          have eN2 : N 336 33 = (yhN o f s h).2 := congrArg Prod.snd eN
          have eqN : eM D (N 346) := by rw [eN1]; exact es1.yh b4.2 b5.2 h
          have n4 := eqN 4 (by unfold mu; omega)
          have n5 := eqN 5 (by unfold mu; omega)
          refine u_X12_years_74 ?_
          refine g_if (fun q2 => ?_) (fun q2 => ?_)
          · have eh : u2.toNat = h := by omega
            have eY : N 346 = yr o f D u2.toNat x k := by
              rw [eN1, ← eh, es]
              unfold yr
              rw [show ((k : Int)).toNat = k by omega]
            refine g_C ?_
            -- the JUGS that are SOUR
            have J : ∀ (l3 j : Nat) (c : Int), (j : Int) ≤ N 346 5 → c = a + tsum (gS (N 346)) j → 5 - j ≤ l3 → wp_X12_years_98 S (fun a0 a1 a2 a3 a4 a5 a6 M => wp_X12_years_65 S K l a0 a1 a2 a3 a4 a5 a6 M) K l3 336 u1 u2 u3 c b k j N := by
              intro l3
              induction l3 with
              | zero => intro j c _ _ hl3; exfalso; omega
              | succ l3 ih3 =>
                intro j c j1 ec hl3
                have bs := tsum_b (g := gS (N 346)) (B := 1) (by decide) j (by omega) (fun i _ _ => gS_b _ i)
                refine u_X12_years_98 ?_
                refine g_getr 20 346 rfl hS.k336 hN.f_336_20 (by decide) ?_
                refine g_C ?_
                refine g_ldu hS.k346 hS.l346 (by decide) (by decide) (fun v ev => ?_)
                refine g_if (fun q3 => ?_) (fun q3 => ?_)
                · have ej : (N 346 5).toNat = j := by omega
                  refine ⟨hS.k336, ?_⟩
                  refine zn_turnedAll hS hN jN (fun t0 t1 => ?_)
                  refine g_A (by omega) (by omega) ?_
                  refine ⟨hS.k336, ?_⟩
                  refine zx_laysBack hS hN (up_at _ _ _ _) (fun m3 hm3 f3 g3 => ?_)
                  refine g_A (by omega) (by omega) ?_
                  refine ih (k + 1) _ _ m3 (by omega) hm3 (fun c p q1 q2 q3 => ?_) ?_ ?_ ?_ (by omega) (by omega) (by omega)
                  · by_cases z : c = 346
                    · subst z
                      by_cases z2 : 0 ≤ p ∧ p < 57
                      · rw [g3 p z2, G 348 p (by omega) (by omega) (by omega) (by omega), k48 p z2, e46]
                      · rw [f3 346 p (by first | decide | exact fun z => absurd z.1 (by decide) | exact ⟨fun z => absurd z.1 (by decide), fun z => absurd z.1 (by decide)⟩ | omega), eqN p (by unfold mu; omega), e46]
                    · rw [f3 c p (by first | exact fun y => absurd (y.1 ▸ z) (by decide) | exact fun y => absurd (y.1 ▸ q) (by decide) | exact z | exact q | exact z.1 | exact q.1 | exact z.2 | exact q.2 | omega), G c p q1 q2 q3 z]
                  · rw [f3 336 33 (by first | decide | exact fun z => absurd z.1 (by decide) | exact ⟨fun z => absurd z.1 (by decide), fun z => absurd z.1 (by decide)⟩ | omega), eN2, ← eh, es]
                    rfl
                  · rw [ec, ea]
                    show _ = ysour o f D u2.toNat x k + hsr (yr o f D u2.toNat x k)
                    rw [← eY]
                    unfold hsr
                    rw [ej]
                  · rw [eb]
                    show _ = yturn o f D u2.toNat x k + tall (yr o f D u2.toNat x k)
                    rw [← eY]
                · have bj := gS_b (N 346) j
                  have nx : ∀ v : Int, v = gS (N 346) j → wp_X12_years_142 S (fun a0 a1 a2 a3 a4 a5 a6 M => wp_X12_years_65 S K l a0 a1 a2 a3 a4 a5 a6 M) (fun a0 a1 a2 a3 a4 a5 a6 a7 M => wp_X12_years_98 S (fun a0 a1 a2 a3 a4 a5 a6 M => wp_X12_years_65 S K l a0 a1 a2 a3 a4 a5 a6 M) K l3 a0 a1 a2 a3 a4 a5 a6 a7 M) K 336 u1 u2 u3 b k j c v N := by
                    intro v ev
                    refine u_X12_years_142 ?_
                    refine g_A (by omega) (by omega) ?_
                    refine g_A (by omega) (by omega) ?_
                    refine ih3 (j + 1) (c + v) (by omega) ?_ (by omega)
                    rw [ec, ev]
                    show _ = a + (tsum (gS (N 346)) j + gS (N 346) j)
                    omega
                  have n0 : (¬ (N 346 (35 + 4 * (j : Int) + 3) = 0 ∧ N 346 2 ≤ N 346 (35 + 4 * (j : Int) + 2))) → wp_X12_years_141 S (fun a0 a1 a2 a3 a4 a5 a6 M => wp_X12_years_65 S K l a0 a1 a2 a3 a4 a5 a6 M) (fun a0 a1 a2 a3 a4 a5 a6 a7 M => wp_X12_years_98 S (fun a0 a1 a2 a3 a4 a5 a6 M => wp_X12_years_65 S K l a0 a1 a2 a3 a4 a5 a6 M) K l3 a0 a1 a2 a3 a4 a5 a6 a7 M) K 336 u1 u2 u3 b k j c N := by
                    intro y
                    refine u_X12_years_141 ?_
                    refine g_C ?_
                    refine nx 0 ?_
                    unfold gS
                    rw [if_neg y]
                  refine g_C ?_
                  refine ⟨hS.k336, ?_⟩
                  refine zt_jugOf hS hN (by omega) (by omega) (by omega) (by omega) ?_
                  refine g_if (fun q4 => n0 (fun z => q4 z.1)) (fun q4 => ?_)
                  refine g_C ?_
                  refine ⟨hS.k336, ?_⟩
                  refine zt_jugOf hS hN (by omega) (by omega) (by omega) (by omega) ?_
                  refine g_getr 20 346 rfl hS.k336 hN.f_336_20 (by decide) ?_
                  refine g_C ?_
                  refine g_ldu hS.k346 hS.l346 (by decide) (by decide) (fun v2 ev2 => ?_)
                  refine g_if (fun q5 => n0 (fun z => by have := z.2; omega)) (fun q5 => ?_)
                  refine g_C ?_
                  refine nx 1 ?_
                  unfold gS
                  rw [if_pos ⟨by omega, by omega⟩]
            exact ⟨5, J 5 0 a (by omega) (by show a = a + 0; omega) (by omega)⟩
          · refine ⟨hS.k336, ?_⟩
            refine zy_acts12 (f := f) (D := D) hS hN eqN db b3 (by omega) ro fb (fun m3 hm3 f3 e3 j3 => ?_)
            have e31 : m3 346 = (acD f (yhN o f s h)).1 := by rw [← eN]; exact congrArg Prod.fst e3
            have e32 : m3 336 33 = (acD f (yhN o f s h)).2 := by rw [← eN]; exact congrArg Prod.snd e3
            have eq3 : eM D (m3 346) := by rw [e31, ← eN]; exact eqN.ac b4.2 b5.2
            have r4 := eq3 4 (by unfold mu; omega)
            have r5 := eq3 5 (by unfold mu; omega)
            have s7 : m3 346 7 = D 7 + h := by
              rw [e31, acD_7 (by rw [← eN]; show N 346 4 ≤ 5; omega) (by rw [← eN]; show N 346 5 ≤ 4; omega), yhN_7 es1 b4.2 b5.2 h, es7]
            refine ⟨hS.k336, ?_⟩
            refine zn_passes (o := o) hS hm3 (rr.keep (fun c p q => by rw [f3 c p (by first | exact fun y => absurd (y.1 ▸ z) (by decide) | exact fun y => absurd (y.1 ▸ q) (by decide) | exact z | exact q | exact z.1 | exact q.1 | exact z.2 | exact q.2 | omega) (by omega), G c p (by omega) (by omega) (by omega) (by omega), f2 c p (by first | exact fun y => absurd (y.1 ▸ z) (by decide) | exact fun y => absurd (y.1 ▸ q) (by decide) | exact z | exact q | exact z.1 | exact q.1 | exact z.2 | exact q.2 | omega), f1 c p (by first | exact fun y => absurd (y.1 ▸ z) (by decide) | exact fun y => absurd (y.1 ▸ q) (by decide) | exact z | exact q | exact z.1 | exact q.1 | exact z.2 | exact q.2 | omega)])) (by rw [s7]; omega) (fun j j0 j1 => by rw [j3 j j0]; exact jN j j0 (by omega)) (fun r9 m4 hm4 f4 e4 j4 => ?_)
            refine g_A (by omega) (by omega) ?_
            refine ih2 (h + 1) m4 (by omega) hm4 (fun c p q1 q2 q3 q4 => by rw [f4 c p q1 q2 (by omega) q4, f3 c p q4 (by omega), G c p q1 q2 q3 q4]) ?_ j4 (by omega)
            refine Prod.ext ?_ ?_
            · show m4 346 = hrow o 0 (acD f (yhN o f s h)).1
              rw [e4, e31, f3 336 23 (by first | decide | exact fun z => absurd z.1 (by decide) | exact ⟨fun z => absurd z.1 (by decide), fun z => absurd z.1 (by decide)⟩ | omega) (by first | decide | exact fun z => absurd z.1 (by decide) | exact ⟨fun z => absurd z.1 (by decide), fun z => absurd z.1 (by decide)⟩ | omega), G 336 23 (by omega) (by omega) (by omega) (by omega), f2 336 23 (by first | decide | exact fun z => absurd z.1 (by decide) | exact ⟨fun z => absurd z.1 (by decide), fun z => absurd z.1 (by decide)⟩ | omega), f1 336 23 (by first | decide | exact fun z => absurd z.1 (by decide) | exact ⟨fun z => absurd z.1 (by decide), fun z => absurd z.1 (by decide)⟩ | omega), i0.2]
            · show m4 336 33 = (acD f (yhN o f s h)).2
              rw [f4 336 33 (by first | decide | exact fun z => absurd z.1 (by decide) | exact ⟨fun z => absurd z.1 (by decide), fun z => absurd z.1 (by decide)⟩ | omega) (by first | decide | exact fun z => absurd z.1 (by decide) | exact ⟨fun z => absurd z.1 (by decide), fun z => absurd z.1 (by decide)⟩ | omega) (by first | decide | exact fun z => absurd z.1 (by decide) | exact ⟨fun z => absurd z.1 (by decide), fun z => absurd z.1 (by decide)⟩ | omega) (by first | decide | exact fun z => absurd z.1 (by decide) | exact ⟨fun z => absurd z.1 (by decide), fun z => absurd z.1 (by decide)⟩ | omega), e32]
      exact ⟨(u2 + 1).toNat, H (u2 + 1).toNat 0 M (by omega) hM (fun c p q1 q2 q3 _ => F c p q1 q2 q3) (by rw [eM0, eX]; exact es.symm) (fun j j0 j1 => by rw [eM0] at j1 ⊢; exact jD j j0 j1) (by omega)⟩
  exact ⟨(u1 + 1).toNat, L (u1 + 1).toNat 0 0 0 m2 (by omega) hm2 (fun _ _ _ _ _ => rfl) (by rw [f2 336 33 (by first | decide | exact fun z => absurd z.1 (by decide) | exact ⟨fun z => absurd z.1 (by decide), fun z => absurd z.1 (by decide)⟩ | omega), y1]; rfl) rfl rfl (by omega) (by omega) (by omega)⟩
theorem ww_years {S : Sh} {m0 : Mm} {K : Int → Int → Mm → Prop} {K1 : Int → Mm → Prop} {n u1 u2 u3 : Int} (hS : Shp S) (hz : RZ S m0 n) (l1 : -2147483648 ≤ u1) (h1 : u1 ≤ 2147483647) (l2 : -2147483648 ≤ u2) (h2 : u2 ≤ 2147483647) (l3 : -2147483648 ≤ u3) (h3 : u3 ≤ 2147483647) (hK : ∀ (r : Int) (M : Mm), wp_X12_years S M 336 u1 u2 u3 (fun r2 M2 => K r r2 M2) → K1 r M) (hk : ∀ (r r2 : Int) (M1 : Mm), RZ S M1 n → K r r2 M1) : wp_X11_years S m0 0 u1 u2 u3 K1 := by
  have a : wp_X11_years S m0 0 u1 u2 u3 (fun _ m => Inv (sf m0) S m) := z_X11_years hS hz.inv l1 h1 l2 h2 l3 h3 (fun _ _ h _ _ => h)
  refine fq1_X11_years hz.inv (fun r m1 f1 hm1 => ?_) (fun _ _ _ => rfl) a
  have z1 : RZ S m1 n := hz.same (hz.1.of hm1) (fun c p q1 _ => f1 c p q1)
  obtain ⟨o, rc, rr⟩ := z1.rule
  have b16 := z1.inv.f_16_0
  have h7 : m1 16 0 = m1 346 7 := z1.sr.1.1
  refine hK _ _ (zy_years12 (o := o) hS z1 rfl rr z1.ro (fun i i0 i1 => z1.inv.a_5 i0 i1) (by omega) (fun _ => hk _ _ m1 z1) (fun m2 _ z2 => ⟨fun _ => hk _ _ m2 z2, fun _ => hk _ _ m2 z2⟩))
end
section
/-! a JUG in a HAND that is not TIRED at first, HOUR by HOUR: WHO and PROBE -/
def stq (o : Option (List Cz)) (D : Int → Int) (h j ro t a b : Int) : Int := tvO o (wds h (D (10 + 5 * h + 3)) b j a (htR D t) t ro 1 (if a < D 2 then 0 else 1))
def hT (o : Option (List Cz)) (D : Int → Int) (h j ro t s : Int) : Nat → Int × Int
  | 0 => (s, 0)
  | k + 1 => (min ((hT o D h j ro t s k).1 + stq o D h j ro (t + k) (hT o D h j ro t s k).1 (hT o D h j ro t s k).2) 999, min ((hT o D h j ro t s k).2 + D (10 + 5 * h + 4)) 99)
def HB (D : Int → Int) (h : Int) : Prop := (0 ≤ D (10 + 5 * h + 3) ∧ D (10 + 5 * h + 3) ≤ 20) ∧ (0 ≤ D (10 + 5 * h + 4) ∧ D (10 + 5 * h + 4) ≤ 5) ∧ ∀ t : Int, 0 ≤ htR D t ∧ htR D t ≤ 20
theorem HB.of {X : Mm} {S : Sh} {m : Mm} {h : Int} (hm : Inv X S m) (h0 : 0 ≤ h) (h4 : h ≤ 4) : HB (m 346) h := by
  refine ⟨fam_346_13_5_0_4 hm (a := h) (by omega) h0 h4, fam_346_14_5_0_4 hm (a := h) (by omega) h0 h4, fun t => ?_⟩
  have b9 := hm.f_346_9
  have q := htF_b (a := fun k => m 346 (81 + 3 * k)) (b := fun k => m 346 (81 + 3 * k + 1)) (c := fun k => m 346 (81 + 3 * k + 2)) (t := t) (m 346 9).toNat (fun k k0 k1 => fam_346_83_3_0_3 hm (a := k) (by omega) (by omega) (by omega))
  unfold htR
  omega
end
section
/-! MATCH of the reference: all rows one after another -/
theorem pw_b : ∀ b : Nat, b < 6 → ∀ k : Nat, k < 7 → b ^ k ≤ 15625 := by decide +kernel
end
section
/-! WAYS: their HOURS, PLACE by PLACE -/
def ctL (h : Int → Int) (v : Int) : Int := (if h 0 < v then 1 else 0) + (if h 1 < v then 1 else 0) + (if h 2 < v then 1 else 0) + (if h 3 < v then 1 else 0) + (if h 4 < v then 1 else 0) + (if h 5 < v then 1 else 0)
theorem ifL {x v w : Int} (h : w ≤ v) : (if x < w then (1 : Int) else 0) ≤ if x < v then 1 else 0 := by
  by_cases q : x < w
  · rw [if_pos q, if_pos (by omega)]; exact Int.le_refl 1
  · rw [if_neg q]; split <;> decide
theorem ifS {x v : Int} (h : x < v) : (if x < x then (1 : Int) else 0) + 1 ≤ if x < v then 1 else 0 := by
  rw [if_pos h, if_neg (by omega)]; decide
theorem if01 {x v : Int} : 0 ≤ (if x < v then (1 : Int) else 0) ∧ (if x < v then (1 : Int) else 0) ≤ 1 := by split <;> decide
theorem ctL_step {h : Int → Int} {b v : Int} (b0 : 0 ≤ b) (b5 : b ≤ 5) (hv : h b < v) : ctL h (h b) + 1 ≤ ctL h v := by
  have m0 := ifL (x := h 0) (w := h b) (v := v) (by omega)
  have m1 := ifL (x := h 1) (w := h b) (v := v) (by omega)
  have m2 := ifL (x := h 2) (w := h b) (v := v) (by omega)
  have m3 := ifL (x := h 3) (w := h b) (v := v) (by omega)
  have m4 := ifL (x := h 4) (w := h b) (v := v) (by omega)
  have m5 := ifL (x := h 5) (w := h b) (v := v) (by omega)
  have s := ifS hv
  unfold ctL
  rcases (show b = 0 ∨ b = 1 ∨ b = 2 ∨ b = 3 ∨ b = 4 ∨ b = 5 by omega) with e | e | e | e | e | e <;> subst e <;> omega
theorem ctL_0 {h : Int → Int} {v : Int} : 0 ≤ ctL h v := by
  have m0 := if01 (x := h 0) (v := v)
  have m1 := if01 (x := h 1) (v := v)
  have m2 := if01 (x := h 2) (v := v)
  have m3 := if01 (x := h 3) (v := v)
  have m4 := if01 (x := h 4) (v := v)
  have m5 := if01 (x := h 5) (v := v)
  unfold ctL
  omega
/-- how many PLACES are nearer -/
abbrev nrF (g : Int → Int) (c a : Int) : Int := ctL (fun x => g (6 * x + c)) (g (6 * a + c))
theorem Wok.nxt {P : Int} {f g : Int → Int} (w : Wok P f g) {a c : Int} (a0 : 0 ≤ a) (a1 : a < P) (c0 : 0 ≤ c) (c1 : c < P) (n : ¬ a = c) (h : g (6 * a + c) < 1000) : ∃ b : Int, 0 ≤ b ∧ b < P ∧ 0 < f (6 * a + b) ∧ f (6 * a + b) + g (6 * b + c) = g (6 * a + c) ∧ nrF g c b + 1 ≤ nrF g c a := by
  obtain ⟨p6, h0, h1, h2, h3⟩ := w
  obtain ⟨b, b0, b1, r1, r2⟩ := h3 a c a0 a1 c0 c1 n h
  have r3 := h2 a b c a0 a1 b0 b1 c0 c1 r1
  exact ⟨b, b0, b1, r1, by omega, ctL_step (h := fun x => g (6 * x + c)) (b := b) b0 (by omega) (by show g (6 * b + c) < g (6 * a + c); omega)⟩
theorem Wok.far {P : Int} {f g : Int → Int} (w : Wok P f g) (fb : ∀ p : Int, 0 ≤ p → p < 36 → f p ≤ 5) {c : Int} (c0 : 0 ≤ c) (c1 : c < P) : ∀ (n : Nat) (a : Int), 0 ≤ a → a < P → nrF g c a ≤ (n : Int) → g (6 * a + c) < 1000 → g (6 * a + c) ≤ 5 * (n : Int) := by
  have p6 := w.1
  intro n
  induction n with
  | zero =>
    intro a a0 a1 hn h
    by_cases e : a = c
    · rw [e, w.2.1 c c0 c1]; decide
    · obtain ⟨b, b0, b1, r1, r2, r3⟩ := w.nxt a0 a1 c0 c1 e h
      have z : 0 ≤ nrF g c b := ctL_0
      have z2 : nrF g c a ≤ 0 := hn
      omega
  | succ n ih =>
    intro a a0 a1 hn h
    by_cases e : a = c
    · rw [e, w.2.1 c c0 c1]; omega
    · obtain ⟨b, b0, b1, r1, r2, r3⟩ := w.nxt a0 a1 c0 c1 e h
      have q := ih b b0 b1 (by omega) (by omega)
      have q2 := fb (6 * a + b) (by omega) (by omega)
      omega
end
section
/-! WAY and BRINGS of both sides -/
theorem RZ.wk {S : Sh} {M : Mm} {n : Int} (h : RZ S M n) : Wok (M 4 0) (M 5) (M 6) := h.2.2.2.1.2.2.1
theorem RZ.fb {S : Sh} {M : Mm} {n : Int} (h : RZ S M n) : ∀ p : Int, 0 ≤ p → p < 36 → M 5 p ≤ 5 := fun p p0 p1 => (h.inv.a_5 (i := p) p0 p1).2
end
section
/-! RELAY over numbers: rows of HANDS by a table, and one after another -/
def cntF (p : Nat → Bool) : Nat → Int
  | 0 => 0
  | n + 1 => if p n = true then cntF p n + 1 else cntF p n
def sumF (h : Nat → Int) : Nat → Int
  | 0 => 0
  | n + 1 => sumF h n + h n
def mnF (h : Nat → Int) : Nat → Int
  | 0 => 999
  | n + 1 => min (mnF h n) (h n)
theorem cntF_1 {p : Nat → Bool} {n : Nat} (h : p n = true) : cntF p (n + 1) = cntF p n + 1 := if_pos h
theorem cntF_2 {p : Nat → Bool} {n : Nat} (h : ¬ p n = true) : cntF p (n + 1) = cntF p n := if_neg h
theorem cntF_ext {p q : Nat → Bool} : ∀ n : Nat, (∀ x : Nat, x < n → p x = q x) → cntF p n = cntF q n := by
  intro n
  induction n with
  | zero => intro _; rfl
  | succ n ih =>
    intro e
    have a := ih (fun x hx => e x (by omega))
    by_cases z : p n = true
    · rw [cntF_1 z, cntF_1 (by rw [← e n (by omega)]; exact z), a]
    · rw [cntF_2 z, cntF_2 (by rw [← e n (by omega)]; exact z), a]
theorem cntF_add {p : Nat → Bool} {a : Nat} : ∀ b : Nat, cntF p (a + b) = cntF p a + cntF (fun x => p (a + x)) b := by
  intro b
  induction b with
  | zero => exact (Int.add_zero _).symm
  | succ b ih =>
    by_cases z : p (a + b) = true
    · have e1 : cntF p (a + (b + 1)) = cntF p (a + b) + 1 := if_pos z
      have e2 : cntF (fun x => p (a + x)) (b + 1) = cntF (fun x => p (a + x)) b + 1 := if_pos z
      rw [e1, e2, ih]
      omega
    · have e1 : cntF p (a + (b + 1)) = cntF p (a + b) := if_neg z
      have e2 : cntF (fun x => p (a + x)) (b + 1) = cntF (fun x => p (a + x)) b := if_neg z
      rw [e1, e2, ih]
theorem cntF_mul {p : Nat → Bool} {Q : Nat} : ∀ d : Nat, cntF p (d * Q) = sumF (fun e => cntF (fun x => p (e * Q + x)) Q) d := by
  intro d
  induction d with
  | zero => rw [Nat.zero_mul]; rfl
  | succ d ih =>
    rw [Nat.succ_mul, cntF_add, ih]
    rfl
theorem cntF_b {p : Nat → Bool} : ∀ n : Nat, 0 ≤ cntF p n ∧ cntF p n ≤ (n : Int) := by
  intro n
  induction n with
  | zero => exact ⟨Int.le_refl 0, Int.le_refl 0⟩
  | succ n ih =>
    by_cases z : p n = true
    · rw [cntF_1 z]; omega
    · rw [cntF_2 z]; omega
theorem sumF_ext {h k : Nat → Int} : ∀ n : Nat, (∀ x : Nat, x < n → h x = k x) → sumF h n = sumF k n := by
  intro n
  induction n with
  | zero => intro _; rfl
  | succ n ih =>
    intro e
    show sumF h n + h n = sumF k n + k n
    rw [ih (fun x hx => e x (by omega)), e n (by omega)]
/-- rows that come as told, by how many ROADS are left -/
def rwF (H : Nat) (cr : Nat → Nat → Int → Int) (ok : Int → Bool) : Nat → Int → Int
  | 0 => fun s => if ok s = true then 1 else 0
  | r + 1 => fun s => sumF (fun h => rwF H cr ok r (cr r h s)) H
def leF (H : Nat) (cr : Nat → Nat → Int → Int) : Nat → Int → Int
  | 0 => fun s => s
  | r + 1 => fun s => mnF (fun h => leF H cr r (cr r h s)) H
def vrF (H : Nat) (cr : Nat → Nat → Int → Int) : Nat → Int → Nat → Int
  | 0 => fun s _ => s
  | r + 1 => fun s c => vrF H cr r (cr r (c / H ^ r % H) s) c
theorem vr_mod {H : Nat} {cr : Nat → Nat → Int → Int} {c d : Nat} : ∀ (r : Nat) (s : Int), c % H ^ r = d % H ^ r → vrF H cr r s c = vrF H cr r s d := by
  intro r
  induction r with
  | zero => intro s _; rfl
  | succ r ih =>
    intro s h
    rw [Nat.pow_succ] at h
    have e1 : c / H ^ r % H = d / H ^ r % H := by
      rw [← Nat.mod_mul_right_div_self, ← Nat.mod_mul_right_div_self, h]
    have e2 : c % H ^ r = d % H ^ r := by
      rw [← Nat.mod_mul_right_mod c (H ^ r) H, ← Nat.mod_mul_right_mod d (H ^ r) H, h]
    show vrF H cr r (cr r (c / H ^ r % H) s) c = vrF H cr r (cr r (d / H ^ r % H) s) d
    rw [e1]
    exact ih _ e2
theorem vr_blk {H : Nat} {cr : Nat → Nat → Int → Int} {r e x : Nat} {s : Int} (he : e < H) (hx : x < H ^ r) : vrF H cr (r + 1) s (e * H ^ r + x) = vrF H cr r (cr r e s) x := by
  have p : 0 < H ^ r := by omega
  have d1 : (e * H ^ r + x) / H ^ r % H = e := by
    rw [Nat.add_comm, Nat.add_mul_div_right _ _ p, Nat.div_eq_of_lt hx, Nat.zero_add, Nat.mod_eq_of_lt he]
  have d2 : (e * H ^ r + x) % H ^ r = x := Nat.mul_add_mod_of_lt hx
  show vrF H cr r (cr r ((e * H ^ r + x) / H ^ r % H) s) (e * H ^ r + x) = _
  rw [d1]
  exact vr_mod r _ (by rw [d2, Nat.mod_eq_of_lt hx])
theorem rw_cnt {H : Nat} {cr : Nat → Nat → Int → Int} {ok : Int → Bool} : ∀ (r : Nat) (s : Int), cntF (fun c => ok (vrF H cr r s c)) (H ^ r) = rwF H cr ok r s := by
  intro r
  induction r with
  | zero =>
    intro s
    show (if ok s = true then (0 : Int) + 1 else 0) = if ok s = true then 1 else 0
    rfl
  | succ r ih =>
    intro s
    rw [Nat.pow_succ, Nat.mul_comm, cntF_mul]
    show _ = sumF (fun h => rwF H cr ok r (cr r h s)) H
    refine sumF_ext H (fun e he => ?_)
    show cntF (fun x => ok (vrF H cr (r + 1) s (e * H ^ r + x))) (H ^ r) = rwF H cr ok r (cr r e s)
    rw [← ih]
    exact cntF_ext _ (fun x hx => by rw [vr_blk he hx])
theorem rw_0 {H : Nat} {cr : Nat → Nat → Int → Int} {ok : Int → Bool} (r : Nat) (s : Int) : 0 ≤ rwF H cr ok r s ∧ rwF H cr ok r s ≤ ((H ^ r : Nat) : Int) := by
  rw [← rw_cnt]
  exact cntF_b _
end
