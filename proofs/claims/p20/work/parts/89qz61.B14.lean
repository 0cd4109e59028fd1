/-! YEARS of the reference -/
def yx (o : Option (List Cz)) (f : Int → Int) (D : Dd) (n : Nat) (x : Int) : Nat → Int
  | 0 => x
  | k + 1 => (yhN o f (D, yx o f D n x k) n).2
def yr (o : Option (List Cz)) (f : Int → Int) (D : Dd) (n : Nat) (x y : Int) : Dd := (yhN o f (D, yx o f D n x y.toNat) n).1
def gS (D : Int → Int) (j : Int) : Int := if D (35 + 4 * j + 3) = 0 ∧ D 2 ≤ D (35 + 4 * j + 2) then 1 else 0
def hsr (D : Int → Int) : Int := tsum (gS D) (D 5).toNat
def ysour (o : Option (List Cz)) (f : Int → Int) (D : Dd) (n : Nat) (x : Int) (k : Nat) : Int := tsum (fun y => hsr (yr o f D n x y)) k
def yturn (o : Option (List Cz)) (f : Int → Int) (D : Dd) (n : Nat) (x : Int) (k : Nat) : Int := tsum (fun y => tall (yr o f D n x y)) k
theorem gS_b (D : Int → Int) (j : Int) : 0 ≤ gS D j ∧ gS D j ≤ 1 := by unfold gS; split <;> omega
theorem zy_years12 {S : Sh} {m0 : Mm} {K : Int → Mm → Prop} {o : Option (List Cz)} {f : Int → Int} {D : Dd} {n u1 u2 u3 : Int} (hS : Shp S) (z0 : RZ S m0 n) (eD : m0 346 = D) (rr : RR m0 o) (ro : RO D f) (fb : ∀ i : Int, 0 ≤ i → i < 36 → 0 ≤ f i ∧ f i ≤ 5) (b7 : 0 ≤ D 7 ∧ D 7 ≤ 999) (hno : ¬ (¬ D 0 = 0 ∧ (1 ≤ u1 ∧ u1 ≤ 10) ∧ (1 ≤ u2 ∧ u2 ≤ 60) ∧ (0 ≤ u3 ∧ u3 ≤ 1)) → K (-1) m0) (hk : ∀ M1 : Mm, (¬ D 0 = 0 ∧ (1 ≤ u1 ∧ u1 ≤ 10) ∧ (1 ≤ u2 ∧ u2 ≤ 60) ∧ (0 ≤ u3 ∧ u3 ≤ 1)) → RZ S M1 n → (u3 = 0 → K (ysour o f D u2.toNat (m0 336 22) u1.toNat) M1) ∧ (u3 = 1 → K (yturn o f D u2.toNat (m0 336 22) u1.toNat) M1)) : wp_X12_years S m0 336 u1 u2 u3 K := by
  have hm := z0.inv
  have db : DB D := by rw [← eD]; exact z0.rd.1.1
  have b3 : D 3 ≤ 8 := by rw [← eD]; exact z0.rd.1.2
  obtain ⟨b4, b5, _⟩ := id db
  have b0 : 0 ≤ D 0 ∧ D 0 ≤ 6 := by rw [← eD]; exact hm.f_346_0
  have i0 := z0.2.2.2.2.2.2.2.2
  refine u_X12_years ?_
  refine ⟨hS.k336, ?_⟩
  rw [← eD] at hno hk
  refine zs_isDairy hS hm (fun c0 => g_ifF (by decide) ?_) (fun c0 => g_ifT rfl (g_C (hno (fun z => z.1 c0))))
  refine g_C ?_
  refine g_C ?_
  refine g_C ?_
  refine zs_in (fun c1 => g_ifF (by decide) ?_) (fun c1 => g_ifT rfl (g_C (hno (fun z => c1 z.2.1))))
  refine g_C ?_
  refine g_C ?_
  refine g_C ?_
  refine zs_in (fun c2 => g_ifF (by decide) ?_) (fun c2 => g_ifT rfl (g_C (hno (fun z => c2 z.2.2.1))))
  refine g_C ?_
  refine g_C ?_
  refine g_C ?_
  refine zs_in (fun c3 => g_ifT (by decide) ?_) (fun c3 => g_ifF (by decide) (g_C (hno (fun z => c3 z.2.2.2))))
  have hk := fun M1 => hk M1 ⟨c0, c1, c2, c3⟩
  rw [eD] at hk c0
  have bx := hm.f_336_22
  refine g_getu 22 rfl hS.k336 (fun x ex => ?_)
  subst ex
  refine g_C ?_
  refine g_put 33 rfl hS.k336 (hm.w_336_33 bx.1 bx.2) (fun m1 e1 hm1 => ?_)
  have f1 : ∀ c p : Int, ¬ (c = 336 ∧ p = 33) → m1 c p = m0 c p := fun c p q => (congrFun (congrFun e1 _) _).trans (up_ne q)
  have y1 : m1 336 33 = m0 336 22 := (congrFun (congrFun e1 _) _).trans (up_at _ _ _ _)
  refine g_C ?_
  refine g_C ?_
  refine ⟨hS.k336, ?_⟩
  refine zx_keeps hS hm1 (fun m2 hm2 f2 g2 => ?_)
  refine g_C ?_
  have e46 : m2 346 = D := by rw [← eD]; exact funext (fun p => by rw [f2 346 p (by omega), f1 346 p (by omega)])
  have k48 : ∀ p : Int, 0 ≤ p ∧ p < 57 → m2 348 p = D p := fun p q => by rw [g2 p q, f1 346 p (by omega), eD]
  obtain ⟨x, hx⟩ : ∃ x : Int, x = m0 336 22 := ⟨_, rfl⟩
  rw [← hx] at hk y1
  have jD : ∀ j : Int, 0 ≤ j → j < D 5 → 0 ≤ D (35 + 4 * j + 2) ∧ D (35 + 4 * j + 2) ≤ 999 := fun j j0 j1 => by
    rw [← eD] at j1 ⊢
    rw [← (z0.jg j0 j1).2.1]
    exact hm.aB_5_6 (c := 16) (by decide) j0 (by rw [eD] at j1; omega)
  have L : ∀ (l k : Nat) (a b : Int) (M : Mm), (k : Int) ≤ u1 → Inv (up (sf m0) (-1) 0 1) S M → (∀ c p : Int, ¬ c = 344 → ¬ c = 345 → ¬ (c = 336 ∧ (p = 18 ∨ p = 33)) → M c p = m2 c p) → M 336 33 = yx o f D u2.toNat x k → a = ysour o f D u2.toNat x k → b = yturn o f D u2.toNat x k → (0 ≤ a ∧ a ≤ 10 * k) → (0 ≤ b ∧ b ≤ 4000 * k) → u1 + 1 - k ≤ (l : Int) → wp_X12_years_65 S K l 336 u1 u2 u3 a b k M := by
    intro l
    induction l with
    | zero => intro k a b M _ _ _ _ _ _ _ _ h; exfalso; omega
    | succ l ih =>
      intro k a b M k1 hM F eX ea eb ba bb hl
      have eM0 : M 346 = D := by rw [← e46]; exact funext (fun p => F 346 p (by omega) (by omega) (by omega))
      refine u_X12_years_65 ?_
      refine g_if (fun q => ?_) (fun q => ?_)
      · have ek : u1.toNat = k := by omega
        have zM : RZ S M n := RZ.laid (m0 := m0) z0 hM.unflag (fun c p q1 q2 q3 q4 => by rw [F c p q1 q2 q4, f2 c p q3, f1 c p (by omega)])
        obtain ⟨h0, h1⟩ := hk M zM
        rw [ek, ← ea] at h0
        rw [ek, ← eb] at h1
        exact g_if (fun q2 => h1 (by omega)) (fun q2 => h0 (by omega))
      refine g_C ?_
      obtain ⟨s, es⟩ : ∃ s : Dd × Int, s = (D, yx o f D u2.toNat x k) := ⟨_, rfl⟩
      have es1 : eM D s.1 := by rw [es]; exact fun _ _ => rfl
      have es7 : s.1 7 = D 7 := by rw [es]
      -- the HOURS
      have H : ∀ (l2 h : Nat) (N : Mm), (h : Int) ≤ u2 → Inv (up (sf m0) (-1) 0 1) S N → (∀ c p : Int, ¬ c = 344 → ¬ c = 345 → ¬ (c = 336 ∧ (p = 18 ∨ p = 33)) → ¬ c = 346 → N c p = m2 c p) → (N 346, N 336 33) = yhN o f s h → jB N → u2 + 1 - h ≤ (l2 : Int) → wp_X12_years_74 S (fun a0 a1 a2 a3 a4 a5 a6 M => wp_X12_years_65 S K l a0 a1 a2 a3 a4 a5 a6 M) K l2 336 u1 u2 u3 a b k h N := by
        intro l2
        induction l2 with
        | zero => intro h N _ _ _ _ _ hl2; exfalso; omega
        | succ l2 ih2 =>
          intro h N h1 hN G eN jN hl2
          have eN1 : N 346 = (yhN o f s h).1 := congrArg Prod.fst eN
          have eN2 : N 336 33 = (yhN o f s h).2 := congrArg Prod.snd eN
          have eqN : eM D (N 346) := by rw [eN1]; exact es1.yh b4.2 b5.2 h
          have n4 := eqN 4 (by unfold mu; omega)
          have n5 := eqN 5 (by unfold mu; omega)
          refine u_X12_years_74 ?_
          refine g_if (fun q2 => ?_) (fun q2 => ?_)
          · have eh : u2.toNat = h := by omega
            have eY : N 346 = yr o f D u2.toNat x k := by
              rw [eN1, ← eh, es]
              unfold yr
              rw [show ((k : Int)).toNat = k by omega]
            refine g_C ?_
            -- the JUGS that are SOUR
            have J : ∀ (l3 j : Nat) (c : Int), (j : Int) ≤ N 346 5 → c = a + tsum (gS (N 346)) j → 5 - j ≤ l3 → wp_X12_years_98 S (fun a0 a1 a2 a3 a4 a5 a6 M => wp_X12_years_65 S K l a0 a1 a2 a3 a4 a5 a6 M) K l3 336 u1 u2 u3 c b k j N := by
              intro l3
              induction l3 with
              | zero => intro j c _ _ hl3; exfalso; omega
              | succ l3 ih3 =>
                intro j c j1 ec hl3
                have bs := tsum_b (g := gS (N 346)) (B := 1) (by decide) j (by omega) (fun i _ _ => gS_b _ i)
                refine u_X12_years_98 ?_
                refine g_getr 20 346 rfl hS.k336 hN.f_336_20 (by decide) ?_
                refine g_C ?_
                refine g_ldu hS.k346 hS.l346 (by decide) (by decide) (fun v ev => ?_)
                refine g_if (fun q3 => ?_) (fun q3 => ?_)
                · have ej : (N 346 5).toNat = j := by omega
                  refine ⟨hS.k336, ?_⟩
                  refine zn_turnedAll hS hN jN (fun t0 t1 => ?_)
                  refine g_A (by omega) (by omega) ?_
                  refine ⟨hS.k336, ?_⟩
                  refine zx_laysBack hS hN (up_at _ _ _ _) (fun m3 hm3 f3 g3 => ?_)
                  refine g_A (by omega) (by omega) ?_
                  refine ih (k + 1) _ _ m3 (by omega) hm3 (fun c p q1 q2 q3 => ?_) ?_ ?_ ?_ (by omega) (by omega) (by omega)
                  · by_cases z : c = 346
                    · subst z
                      by_cases z2 : 0 ≤ p ∧ p < 57
                      · rw [g3 p z2, G 348 p (by omega) (by omega) (by omega) (by omega), k48 p z2, e46]
                      · rw [f3 346 p (by omega), eqN p (by unfold mu; omega), e46]
                    · rw [f3 c p (by omega), G c p q1 q2 q3 z]
                  · rw [f3 336 33 (by omega), eN2, ← eh, es]
                    rfl
                  · rw [ec, ea]
                    show _ = ysour o f D u2.toNat x k + hsr (yr o f D u2.toNat x k)
                    rw [← eY]
                    unfold hsr
                    rw [ej]
                  · rw [eb]
                    show _ = yturn o f D u2.toNat x k + tall (yr o f D u2.toNat x k)
                    rw [← eY]
                · have bj := gS_b (N 346) j
                  have nx : ∀ v : Int, v = gS (N 346) j → wp_X12_years_142 S (fun a0 a1 a2 a3 a4 a5 a6 M => wp_X12_years_65 S K l a0 a1 a2 a3 a4 a5 a6 M) (fun a0 a1 a2 a3 a4 a5 a6 a7 M => wp_X12_years_98 S (fun a0 a1 a2 a3 a4 a5 a6 M => wp_X12_years_65 S K l a0 a1 a2 a3 a4 a5 a6 M) K l3 a0 a1 a2 a3 a4 a5 a6 a7 M) K 336 u1 u2 u3 b k j c v N := by
                    intro v ev
                    refine u_X12_years_142 ?_
                    refine g_A (by omega) (by omega) ?_
                    refine g_A (by omega) (by omega) ?_
                    refine ih3 (j + 1) (c + v) (by omega) ?_ (by omega)
                    rw [ec, ev]
                    show _ = a + (tsum (gS (N 346)) j + gS (N 346) j)
                    omega
                  have n0 : (¬ (N 346 (35 + 4 * (j : Int) + 3) = 0 ∧ N 346 2 ≤ N 346 (35 + 4 * (j : Int) + 2))) → wp_X12_years_141 S (fun a0 a1 a2 a3 a4 a5 a6 M => wp_X12_years_65 S K l a0 a1 a2 a3 a4 a5 a6 M) (fun a0 a1 a2 a3 a4 a5 a6 a7 M => wp_X12_years_98 S (fun a0 a1 a2 a3 a4 a5 a6 M => wp_X12_years_65 S K l a0 a1 a2 a3 a4 a5 a6 M) K l3 a0 a1 a2 a3 a4 a5 a6 a7 M) K 336 u1 u2 u3 b k j c N := by
                    intro y
                    refine u_X12_years_141 ?_
                    refine g_C ?_
                    refine nx 0 ?_
                    unfold gS
                    rw [if_neg y]
                  refine g_C ?_
                  refine ⟨hS.k336, ?_⟩
                  refine zt_jugOf hS hN (by omega) (by omega) (by omega) (by omega) ?_
                  refine g_if (fun q4 => n0 (fun z => q4 z.1)) (fun q4 => ?_)
                  refine g_C ?_
                  refine ⟨hS.k336, ?_⟩
                  refine zt_jugOf hS hN (by omega) (by omega) (by omega) (by omega) ?_
                  refine g_getr 20 346 rfl hS.k336 hN.f_336_20 (by decide) ?_
                  refine g_C ?_
                  refine g_ldu hS.k346 hS.l346 (by decide) (by decide) (fun v2 ev2 => ?_)
                  refine g_if (fun q5 => n0 (fun z => by have := z.2; omega)) (fun q5 => ?_)
                  refine g_C ?_
                  refine nx 1 ?_
                  unfold gS
                  rw [if_pos ⟨by omega, by omega⟩]
            exact ⟨5, J 5 0 a (by omega) (by show a = a + 0; omega) (by omega)⟩
          · refine ⟨hS.k336, ?_⟩
            refine zy_acts12 (f := f) (D := D) hS hN eqN db b3 (by omega) ro fb (fun m3 hm3 f3 e3 j3 => ?_)
            have e31 : m3 346 = (acD f (yhN o f s h)).1 := by rw [← eN]; exact congrArg Prod.fst e3
            have e32 : m3 336 33 = (acD f (yhN o f s h)).2 := by rw [← eN]; exact congrArg Prod.snd e3
            have eq3 : eM D (m3 346) := by rw [e31, ← eN]; exact eqN.ac b4.2 b5.2
            have r4 := eq3 4 (by unfold mu; omega)
            have r5 := eq3 5 (by unfold mu; omega)
            have s7 : m3 346 7 = D 7 + h := by
              rw [e31, acD_7 (by rw [← eN]; show N 346 4 ≤ 5; omega) (by rw [← eN]; show N 346 5 ≤ 4; omega), yhN_7 es1 b4.2 b5.2 h, es7]
            refine ⟨hS.k336, ?_⟩
            refine zn_passes (o := o) hS hm3 (rr.keep (fun c p q => by rw [f3 c p (by omega) (by omega), G c p (by omega) (by omega) (by omega) (by omega), f2 c p (by omega), f1 c p (by omega)])) (by rw [s7]; omega) (fun j j0 j1 => by rw [j3 j j0]; exact jN j j0 (by omega)) (fun r9 m4 hm4 f4 e4 j4 => ?_)
            refine g_A (by omega) (by omega) ?_
            refine ih2 (h + 1) m4 (by omega) hm4 (fun c p q1 q2 q3 q4 => by rw [f4 c p q1 q2 (by omega) q4, f3 c p q4 (by omega), G c p q1 q2 q3 q4]) ?_ j4 (by omega)
            refine Prod.ext ?_ ?_
            · show m4 346 = hrow o 0 (acD f (yhN o f s h)).1
              rw [e4, e31, f3 336 23 (by omega) (by omega), G 336 23 (by omega) (by omega) (by omega) (by omega), f2 336 23 (by omega), f1 336 23 (by omega), i0.2]
            · show m4 336 33 = (acD f (yhN o f s h)).2
              rw [f4 336 33 (by omega) (by omega) (by omega) (by omega), e32]
      exact ⟨(u2 + 1).toNat, H (u2 + 1).toNat 0 M (by omega) hM (fun c p q1 q2 q3 _ => F c p q1 q2 q3) (by rw [eM0, eX]; exact es.symm) (fun j j0 j1 => by rw [eM0] at j1 ⊢; exact jD j j0 j1) (by omega)⟩
  exact ⟨(u1 + 1).toNat, L (u1 + 1).toNat 0 0 0 m2 (by omega) hm2 (fun _ _ _ _ _ => rfl) (by rw [f2 336 33 (by omega), y1]; rfl) rfl rfl (by omega) (by omega) (by omega)⟩
theorem ww_years {S : Sh} {m0 : Mm} {K : Int → Int → Mm → Prop} {K1 : Int → Mm → Prop} {n u1 u2 u3 : Int} (hS : Shp S) (hz : RZ S m0 n) (l1 : -2147483648 ≤ u1) (h1 : u1 ≤ 2147483647) (l2 : -2147483648 ≤ u2) (h2 : u2 ≤ 2147483647) (l3 : -2147483648 ≤ u3) (h3 : u3 ≤ 2147483647) (hK : ∀ (r : Int) (M : Mm), wp_X12_years S M 336 u1 u2 u3 (fun r2 M2 => K r r2 M2) → K1 r M) (hk : ∀ (r r2 : Int) (M1 : Mm), RZ S M1 n → K r r2 M1) : wp_X11_years S m0 0 u1 u2 u3 K1 := by
  have a : wp_X11_years S m0 0 u1 u2 u3 (fun _ m => Inv (sf m0) S m) := z_X11_years hS hz.inv l1 h1 l2 h2 l3 h3 (fun _ _ h _ _ => h)
  refine fq1_X11_years hz.inv (fun r m1 f1 hm1 => ?_) (fun _ _ _ => rfl) a
  have z1 : RZ S m1 n := hz.same (hz.1.of hm1) (fun c p q1 _ => f1 c p q1)
  obtain ⟨o, rc, rr⟩ := z1.rule
  have b16 := z1.inv.f_16_0
  have h7 : m1 16 0 = m1 346 7 := z1.sr.1.1
  refine hK _ _ (zy_years12 (o := o) hS z1 rfl rr z1.ro (fun i i0 i1 => z1.inv.a_5 i0 i1) (by omega) (fun _ => hk _ _ m1 z1) (fun m2 _ z2 => ⟨fun _ => hk _ _ m2 z2, fun _ => hk _ _ m2 z2⟩))
