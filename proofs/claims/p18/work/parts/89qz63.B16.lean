theorem acD_eq {f : Int → Int} {s : Dd × Int} (h4 : (goN f s (s.1 4).toNat).1 4 = s.1 4) (h5 : (goN f s (s.1 4).toNat).1 5 = s.1 5) : (if 0 < (goN f s (s.1 4).toNat).1 4 then tkN (goN f s (s.1 4).toNat) ((goN f s (s.1 4).toNat).1 5).toNat else goN f s (s.1 4).toNat) = acD f s := by
  unfold acD
  rw [h4, h5]
theorem zy_byDraws {X : Mm} {S : Sh} {m0 : Mm} {K : Mm → Prop} {o : Option (List Cz)} {D : Dd} {s : Dd × Int} {n : Int} (hS : Shp S) (hm : Inv X S m0) (rc : RC S m0 o) (e : eM D s.1) (db : DB D) (b3 : D 3 ≤ 8) (tl : TL 4 D m0) (p0 : 0 < D 0) (sr : SR m0 68 s.1) (ex : m0 57 2 = s.2) (ic : m0 55 2 = 0) (n0 : 0 ≤ n) (n1 : n ≤ 100) (h7 : 0 ≤ s.1 7 ∧ s.1 7 + n ≤ 998) (hk : ∀ M1 : Mm, Inv X S M1 → (∀ c p : Int, ¬ c = 56 → ¬ (c = 55 ∧ 4 ≤ p) → ¬ (68 ≤ c ∧ c ≤ 75) → ¬ (c = 57 ∧ p = 2) → M1 c p = m0 c p) → SR M1 68 (yhN o (m0 5) s n.toNat).1 → M1 57 2 = (yhN o (m0 5) s n.toNat).2 → K M1) : wp_X1_passByDraws S m0 57 68 n K := by
  have hb : isSt 68 := by decide
  obtain ⟨b4, b5, b6, _⟩ := id db
  have tlE : ∀ (E : Dd) (M : Mm), eM D E → (∀ c p : Int, 4 ≤ c → c ≤ 15 → M c p = m0 c p) → TL 4 E M := fun E M q F => tl.move db b3 (fun p _ _ => F _ p (by omega) (by omega)) (fun c p z => F _ p (by unfold inT at z; omega) (by unfold inT at z; omega)) (fun p z => q p (by unfold mu; unfold tp at z; omega))
  have dbE : ∀ E : Dd, eM D E → DB E := fun E q => db.move (fun p z => q p (by unfold mu; omega))
  have L : ∀ (l k : Nat) (M : Mm), (k : Int) ≤ n → Inv X S M → (∀ c p : Int, ¬ c = 56 → ¬ (c = 55 ∧ 4 ≤ p) → ¬ (68 ≤ c ∧ c ≤ 75) → ¬ (c = 57 ∧ p = 2) → M c p = m0 c p) → SR M 68 (yhN o (m0 5) s k).1 → M 57 2 = (yhN o (m0 5) s k).2 → n + 1 - k ≤ (l : Int) → wp_X1_passByDraws_2 S K l 57 68 n k M := by
    intro l
    induction l with
    | zero => intro k M _ _ _ _ _ h; exfalso; omega
    | succ l ih =>
      intro k M k1 hM F R x2 hl
      obtain ⟨E, eE⟩ : ∃ E : Dd × Int, E = yhN o (m0 5) s k := ⟨_, rfl⟩
      have eN : yhN o (m0 5) s (k + 1) = (hrow o 0 (acD (m0 5) E).1, (acD (m0 5) E).2) := by rw [eE]; rfl
      rw [← eE] at R x2
      have q : eM D E.1 := by rw [eE]; exact e.yh b4.2 b5.2 k
      have q7 : E.1 7 = s.1 7 + k := by rw [eE]; exact yhN_7 e b4.2 b5.2 k
      have q4 := q 4 (by unfold mu; omega)
      have q5 := q 5 (by unfold mu; omega)
      refine u_X1_passByDraws_2 ?_
      refine g_if (fun w => ?_) (fun w => ?_)
      · have ek : n.toNat = k := by omega
        rw [ek, ← eE] at hk
        exact hk M hM F R x2
      refine ⟨hS.k57, ?_⟩
      have tM := tlE D M (fun _ _ => rfl) (fun c p a b => F c p (by omega) (by omega) (by omega) (by omega))
      have e5 : M 5 = m0 5 := funext (fun p => F 5 p (by omega) (by omega) (by omega) (by omega))
      refine zy_roads11 hS hM q db tM p0 R x2 (fun m1 hm1 f1 R1 y1 => ?_)
      rw [e5] at R1 y1
      have qg : eM D (goN (m0 5) E (E.1 4).toNat).1 := q.goN _ (by omega)
      have g4 := qg 4 (by unfold mu; omega)
      have g5 := qg 5 (by unfold mu; omega)
      refine ⟨hS.k57, ?_⟩
      refine zy_holders11 hS hm1 qg db (tlE D m1 (fun _ _ => rfl) (fun c p a b => by rw [f1 c p (by omega) (by omega), F c p (by omega) (by omega) (by omega) (by omega)])) R1 y1 (fun m2 hm2 f2 R2 y2 => ?_)
      rw [acD_eq (by omega) (by omega)] at R2 y2
      have F2 : ∀ c p : Int, ¬ c = 56 → ¬ (c = 55 ∧ 4 ≤ p) → ¬ (68 ≤ c ∧ c ≤ 75) → ¬ (c = 57 ∧ p = 2) → m2 c p = m0 c p := fun c p a b d g => by rw [f2 c p d g, f1 c p d g, F c p a b d g]
      have qa : eM D (acD (m0 5) E).1 := q.ac b4.2 b5.2
      have a7 : (acD (m0 5) E).1 7 = E.1 7 := acD_7 (by omega) (by omega)
      refine ⟨hS.k57, ?_⟩
      refine zh_pass hS hm2 (rc.keep (fun c p z => F2 c p (by omega) (by omega) (by omega) (by omega))) hb (Or.inr rfl) (fun m3 hm3 ph => ?_)
      have h68 : m2 68 0 = (acD (m0 5) E).1 7 := R2.1.1
      have R3 := (SR_hour (o := o) (i := 0) hm2 hb (Or.inr rfl) (dbE _ qa) R2 (tlE _ m2 qa (fun c p a b => F2 c p (by omega) (by omega) (by omega) (by omega))) (by rw [F2 55 2 (by omega) (by omega) (by omega) (by omega), ic]) (by omega) ph).1
      refine g_A (by omega) (by omega) ?_
      refine ih (k + 1) m3 (by omega) hm3 (fun c p a b d g => ?_) (by rw [eN]; exact R3) ?_ (by omega)
      · rw [ph.1 c p a b (by omega) (by omega) (by omega), F2 c p a b d g]
      · rw [eN, ph.1 57 2 (by omega) (by omega) (by omega) (by omega) (by omega)]
        exact y2
  refine u_X1_passByDraws ?_
  refine g_C ?_
  exact ⟨(n + 1).toNat, L (n + 1).toNat 0 m0 (by omega) hm (fun _ _ _ _ _ _ => rfl) sr ex (by omega)⟩
def gSC (m : Mm) (c s : Int) (j : Int) : Int := if m (c + 4) j = -1 ∧ m (c + 5) j = -1 then 0 else if m (c + 6) j < s then 0 else 1
theorem SR.sours {M : Mm} {c : Int} {D : Int → Int} (b5 : 0 ≤ D 5 ∧ D 5 ≤ 4) (r : SR M c D) : tsum (gSC M c (D 2)) 4 = hsr D := by
  obtain ⟨_, _, r4, r5, _⟩ := r
  unfold hsr
  have e : (4 : Nat) = (D 5).toNat + (4 - (D 5).toNat) := by omega
  rw [e, tsum_ext _ (fun j j0 j1 => ?_)]
  · refine tsum_same _ (fun j j0 j1 => ?_)
    obtain ⟨q1, q2, q3⟩ := r4 j j0 (by omega)
    unfold gSC gS
    rw [q2]
    by_cases z : D (35 + 4 * j + 3) = 1
    · rw [if_pos (by omega), if_neg (by omega)]
    · rw [if_neg (by omega)]
      by_cases z2 : D (35 + 4 * j + 2) < D 2
      · rw [if_pos z2, if_neg (by omega)]
      · rw [if_neg z2, if_pos (by omega)]
  · have q := r5 j (by omega) (by omega)
    unfold gSC
    rw [if_pos q]
theorem gSC_b (m : Mm) (c s j : Int) : 0 ≤ gSC m c s j ∧ gSC m c s j ≤ 1 := by unfold gSC; split; omega; split <;> omega
theorem zy_sours {X : Mm} {S : Sh} {m : Mm} {K : Int → Mm → Prop} {c s : Int} (hS : Shp S) (hm : Inv X S m) (hb : isSt c) (hk : 0 ≤ tsum (gSC m c s) 4 → tsum (gSC m c s) 4 ≤ 4 → K (tsum (gSC m c s) 4) m) : wp_X5_howManySour S m c s K := by
  have L : ∀ (l k : Nat), k ≤ 4 → 5 - k ≤ l → wp_X5_howManySour_4 S K l c s (tsum (gSC m c s) k) k m := by
    intro l
    induction l with
    | zero => intro k _ h; exfalso; omega
    | succ l ih =>
      intro k k4 hl
      have bs := tsum_b (g := gSC m c s) (B := 1) (by decide) k (by omega) (fun j _ _ => gSC_b m c s j)
      refine u_X5_howManySour_4 ?_
      refine g_C ?_
      refine g_if (fun q => ?_) (fun q => ?_)
      · have e : k = 4 := by omega
        subst e
        exact hk (by omega) (by omega)
      · have bk := gSC_b m c s k
        have nx : ∀ v : Int, v = gSC m c s k → wp_X5_howManySour_33 S (fun a0 a1 a2 a3 M => wp_X5_howManySour_4 S K l a0 a1 a2 a3 M) K c s k (tsum (gSC m c s) k) v m := by
          intro v ev
          refine u_X5_howManySour_33 ?_
          refine g_A (by omega) (by omega) ?_
          refine g_A (by omega) (by omega) ?_
          have := ih (k + 1) (by omega) (by omega)
          rw [ev]
          exact this
        have n0 : gSC m c s k = 0 → wp_X5_howManySour_32 S (fun a0 a1 a2 a3 M => wp_X5_howManySour_4 S K l a0 a1 a2 a3 M) K c s k (tsum (gSC m c s) k) m := by
          intro z
          refine u_X5_howManySour_32 ?_
          refine g_C ?_
          exact nx 0 z.symm
        refine ⟨hS.kB_5_0 hb, ?_⟩
        refine zh_gone hS hm hb (by omega) (by omega) (fun s1 s2 => g_ifT (by decide) (n0 ?_)) (fun s0 => g_ifF (by decide) ?_)
        · unfold gSC
          rw [if_pos ⟨s1, s2⟩]
        · refine g_getr 7 (c + 6) rfl (hS.kB_5_0 hb) (hm.fB_5_7 hb) (hS.nB_5_6 hb) ?_
          refine g_ldu (hS.kB_5_6 hb) (hS.lB_5_6 hb) (by omega) (by omega) (fun v ev => ?_)
          refine g_if (fun w => n0 ?_) (fun w => g_C (nx 1 ?_))
          · unfold gSC
            rw [if_neg s0, if_pos (by omega)]
          · unfold gSC
            rw [if_neg s0, if_neg (by omega)]
  refine u_X5_howManySour ?_
  refine g_C ?_
  refine g_C ?_
  exact ⟨5, L 5 0 (by omega) (by omega)⟩
theorem zz_years {S : Sh} {m0 : Mm} {K : Int → Int → Mm → Prop} {K1 : Int → Mm → Prop} {n u1 u2 u3 : Int} (hS : Shp S) (hz : RZ S m0 n) (hn : n ≤ 700) (hK : ∀ (r : Int) (M : Mm), wp_X12_years S M 336 u1 u2 u3 (fun r2 M2 => K r r2 M2) → K1 r M) (hk : ∀ (r : Int) (M1 : Mm), RZ S M1 n → K r r M1) : wp_X11_years S m0 0 u1 u2 u3 K1 := by
  have hm := hz.inv
  have ct := hz.ct
  obtain ⟨o, rc, rr⟩ := hz.rule
  have h7 : m0 16 0 = m0 346 7 := hz.sr.1.1
  have b16 := hm.f_16_0
  have hb16 : m0 16 0 ≤ n := hz.2.2.2.1.1
  have i0 := hz.2.2.2.2.2.2.2.2
  have exx : m0 3 3 = m0 336 22 := hz.1.2.1.1
  obtain ⟨D, eD⟩ : ∃ D : Dd, m0 346 = D := ⟨_, rfl⟩
  have dbD : DB D := by rw [← eD]; exact hz.rd.1.1
  have b3D : D 3 ≤ 8 := by rw [← eD]; exact hz.rd.1.2
  have srD : SR m0 16 D := by rw [← eD]; exact hz.sr
  have tlD : TL 4 D m0 := by rw [← eD]; exact hz.tl
  have roD : RO D (m0 5) := by rw [← eD]; exact hz.ro
  have fb : ∀ i : Int, 0 ≤ i → i < 36 → 0 ≤ m0 5 i ∧ m0 5 i ≤ 5 := fun i a b => hm.a_5 a b
  have b7D : 0 ≤ D 7 ∧ D 7 ≤ 999 := by rw [← eD]; omega
  have ct0 : m0 4 0 = D 0 := tlD.1.1
  obtain ⟨b4, b5, b6, _⟩ := id dbD
  have no : ¬ (¬ D 0 = 0 ∧ (1 ≤ u1 ∧ u1 ≤ 10) ∧ (1 ≤ u2 ∧ u2 ≤ 60) ∧ (0 ≤ u3 ∧ u3 ≤ 1)) → wp_X12_years S m0 336 u1 u2 u3 (fun r2 M2 => K (-1) r2 M2) := fun q => zy_years12 (o := o) hS hz eD rr roD fb b7D (fun _ => hk _ m0 hz) (fun _ z => absurd z q)
  refine u_X11_years ?_
  refine g_getr 1 3 rfl hS.k0 hm.f_0_1 (by decide) ?_
  refine g_getr 0 4 rfl hS.k3 hm.f_3_0 (by decide) ?_
  refine g_getu 0 rfl hS.k4 (fun v ev => ?_)
  refine g_if (fun q => g_C (hK _ _ (no (fun z => z.1 (by omega))))) (fun q0 => ?_)
  refine g_C ?_
  refine g_if (fun q => g_C (hK _ _ (no (fun z => by have := z.2.1.1; omega)))) (fun q1 => ?_)
  refine g_C ?_
  refine g_if (fun q => g_C (hK _ _ (no (fun z => by have := z.2.1.2; omega)))) (fun q2 => ?_)
  refine g_C ?_
  refine g_if (fun q => g_C (hK _ _ (no (fun z => by have := z.2.2.1.1; omega)))) (fun q3 => ?_)
  refine g_C ?_
  refine g_if (fun q => g_C (hK _ _ (no (fun z => by have := z.2.2.1.2; omega)))) (fun q4 => ?_)
  refine g_if (fun q => g_C (hK _ _ (no (fun z => by have := z.2.2.2.1; omega)))) (fun q5 => ?_)
  refine g_C ?_
  refine g_if (fun q6 => ?_) (fun q6 => g_C (hK _ _ (no (fun z => by have := z.2.2.2.2; omega))))
  have good : ¬ D 0 = 0 ∧ (1 ≤ u1 ∧ u1 ≤ 10) ∧ (1 ≤ u2 ∧ u2 ≤ 60) ∧ (0 ≤ u3 ∧ u3 ≤ 1) := ⟨by omega, ⟨by omega, by omega⟩, ⟨by omega, by omega⟩, by omega, q6⟩
  have bD0 : 0 < D 0 := by
    have := hm.f_4_0
    omega
  refine g_C ?_
  refine g_getr 11 57 rfl hS.k0 hm.f_0_11 (by decide) ?_
  refine g_getr 1 3 rfl hS.k0 hm.f_0_1 (by decide) ?_
  have b33 := hm.f_3_3
  refine g_getu 3 rfl hS.k3 (fun x ex => ?_)
  refine g_put 2 rfl hS.k57 (hm.w_57_2 (by omega) (by omega)) (fun m1 e1 hm1 => ?_)
  have f1 : ∀ c p : Int, ¬ (c = 57 ∧ p = 2) → m1 c p = m0 c p := fun c p q => (congrFun (congrFun e1 _) _).trans (up_ne q)
  have y1 : m1 57 2 = x := (congrFun (congrFun e1 _) _).trans (up_at _ _ _ _)
  refine g_C ?_
  obtain ⟨Y, eY⟩ : ∃ Y : Nat → Int, Y = fun k => if u3 = 0 then ysour o (m0 5) D u2.toNat x k else yturn o (m0 5) D u2.toNat x k := ⟨_, rfl⟩
  have L : ∀ (l k : Nat) (a : Int) (M : Mm), (k : Int) ≤ u1 → Inv (sf m0) S M → (∀ c p : Int, ¬ c = 56 → ¬ (c = 55 ∧ 4 ≤ p) → ¬ (68 ≤ c ∧ c ≤ 75) → ¬ (c = 57 ∧ p = 2) → M c p = m0 c p) → M 57 2 = yx o (m0 5) D u2.toNat x k → a = Y k → (0 ≤ a ∧ a ≤ 4000 * k) → u1 + 1 - k ≤ (l : Int) → wp_X11_years_66 S K1 l 0 u1 u2 u3 a k M := by
    intro l
    induction l with
    | zero => intro k a M _ _ _ _ _ _ h; exfalso; omega
    | succ l ih =>
      intro k a M k1 hM F x2 ea ba hl
      refine u_X11_years_66 ?_
      refine g_if (fun q => ?_) (fun q => ?_)
      · have ek : u1.toNat = k := by omega
        have zM : RZ S M n := hz.keep (hz.1.of hM) (fun c p q => F c p (by unfold KZ at q; omega) (by unfold KZ at q; omega) (by unfold KZ at q; omega) (by unfold KZ at q; omega))
        have e46 : M 346 = D := by rw [← eD]; exact funext (fun p => F 346 p (by omega) (by omega) (by omega) (by omega))
        have e22 : M 336 22 = x := by rw [F 336 22 (by omega) (by omega) (by omega) (by omega), ex, exx]
        refine hK _ _ (zy_years12 (o := o) (f := m0 5) hS zM e46 (rr.keep (fun c p q => F c p (by omega) (by omega) (by omega) (by omega))) roD fb b7D (fun z => absurd good z) (fun m2 _ z2 => ⟨fun z => ?_, fun z => ?_⟩))
        · rw [e22, ek, ea, eY]
          show K (if u3 = 0 then _ else _) _ _
          rw [if_pos z]
          exact hk _ m2 z2
        · rw [e22, ek, ea, eY]
          show K (if u3 = 0 then _ else _) _ _
          rw [if_neg (by omega)]
          exact hk _ m2 z2
      refine g_getr 15 68 rfl hS.k0 hM.f_0_15 (by decide) ?_
      refine g_getr 1 3 rfl hS.k0 hM.f_0_1 (by decide) ?_
      refine g_getr 1 16 rfl hS.k3 hM.f_3_1 (by decide) ?_
      refine ⟨hS.k68, ?_⟩
      refine zn_sup (D := D) hS hM dbD (srD.move dbD (fun p _ _ => F _ p (by omega) (by omega) (by omega) (by omega)) (fun c p z => F _ p (by unfold inS at z; omega) (by unfold inS at z; omega) (by unfold inS at z; omega) (by unfold inS at z; omega)) (fun _ _ _ => rfl)) (fun m2 hm2 f2 s2 => ?_)
      have F2 : ∀ c p : Int, ¬ c = 56 → ¬ (c = 55 ∧ 4 ≤ p) → ¬ (68 ≤ c ∧ c ≤ 75) → ¬ (c = 57 ∧ p = 2) → m2 c p = m0 c p := fun c p a b d g => by rw [f2 c p d, F c p a b d g]
      refine g_getr 11 57 rfl hS.k0 hm2.f_0_11 (by decide) ?_
      refine g_getr 15 68 rfl hS.k0 hm2.f_0_15 (by decide) ?_
      refine ⟨hS.k57, ?_⟩
      have e5 : m2 5 = m0 5 := funext (fun p => F2 5 p (by omega) (by omega) (by omega) (by omega))
      obtain ⟨s, es⟩ : ∃ s : Dd × Int, s = (D, yx o (m0 5) D u2.toNat x k) := ⟨_, rfl⟩
      have es1 : s.1 = D := by rw [es]
      refine zy_byDraws (o := o) (D := D) (s := s) hS hm2 (rc.keep (fun c p z => F2 c p (by omega) (by omega) (by omega) (by omega))) (by rw [es1]; exact fun _ _ => rfl) dbD b3D (tlD.move dbD b3D (fun p _ _ => F2 _ p (by omega) (by omega) (by omega) (by omega)) (fun c p z => F2 _ p (by unfold inT at z; omega) (by unfold inT at z; omega) (by unfold inT at z; omega) (by unfold inT at z; omega)) (fun p _ => rfl)) bD0 (by rw [es1]; exact s2) (by rw [f2 57 2 (by omega), x2, es]) (by rw [F2 55 2 (by omega) (by omega) (by omega) (by omega)]; exact i0.1) (by omega) (by omega) (by rw [es1, ← eD]; omega) (fun m3 hm3 f3 s3 y3 => ?_)
      rw [e5] at s3 y3
      have F3 : ∀ c p : Int, ¬ c = 56 → ¬ (c = 55 ∧ 4 ≤ p) → ¬ (68 ≤ c ∧ c ≤ 75) → ¬ (c = 57 ∧ p = 2) → m3 c p = m0 c p := fun c p a b d g => by rw [f3 c p a b d g, F2 c p a b d g]
      have eR : (yhN o (m0 5) s u2.toNat).1 = yr o (m0 5) D u2.toNat x k := by
        rw [es]
        unfold yr
        rw [show ((k : Int)).toNat = k by omega]
      have eX3 : m3 57 2 = yx o (m0 5) D u2.toNat x (k + 1) := by rw [y3, es]; rfl
      rw [eR] at s3
      have qy : eM D (yr o (m0 5) D u2.toNat x k) := by
        rw [← eR]
        exact (show eM D s.1 by rw [es1]; exact fun _ _ => rfl).yh b4.2 b5.2 _
      have y5 := qy 5 (by unfold mu; omega)
      have y2' := qy 2 (by unfold mu; omega)
      have nx : ∀ v : Int, (0 ≤ v ∧ v ≤ 4000) → Y (k + 1) = Y k + v → wp_X11_years_131 S (fun a0 a1 a2 a3 a4 a5 M => wp_X11_years_66 S K1 l a0 a1 a2 a3 a4 a5 M) K1 0 u1 u2 u3 k a v m3 := by
        intro v bv e
        refine u_X11_years_131 ?_
        refine g_A (by omega) (by omega) ?_
        refine g_A (by omega) (by omega) ?_
        exact ih (k + 1) (a + v) m3 (by omega) hm3 F3 eX3 (by rw [e, ea]) (by omega) (by omega)
      refine g_if (fun w => ?_) (fun w => ?_)
      · refine g_getr 15 68 rfl hS.k0 hm3.f_0_15 (by decide) ?_
        refine ⟨hS.k68, ?_⟩
        refine zn_together hS hm3 (by decide) (fun t0 t1 => ?_)
        rw [s3.allof (by omega)] at t0 t1 ⊢
        refine nx _ ⟨t0, t1⟩ ?_
        rw [eY]
        show (if u3 = 0 then _ else _) = (if u3 = 0 then _ else _) + _
        rw [if_neg w, if_neg w]
        rfl
      · have w : u3 = 0 := by omega
        refine g_getr 15 68 rfl hS.k0 hm3.f_0_15 (by decide) ?_
        refine g_getr 1 3 rfl hS.k0 hm3.f_0_1 (by decide) ?_
        refine g_getr 0 4 rfl hS.k3 hm3.f_3_0 (by decide) ?_
        refine g_getu 2 rfl hS.k4 (fun sr esr => ?_)
        have e2 : sr = yr o (m0 5) D u2.toNat x k 2 := by
          rw [esr, F3 4 2 (by omega) (by omega) (by omega) (by omega), tlD.1.2.2.1, y2']
        rw [e2]
        refine ⟨hS.k68, ?_⟩
        refine zy_sours hS hm3 (by decide) (fun t0 t1 => ?_)
        rw [s3.sours (by omega)] at t0 t1 ⊢
        refine nx _ ⟨t0, by omega⟩ ?_
        rw [eY]
        show (if u3 = 0 then _ else _) = (if u3 = 0 then _ else _) + _
        rw [if_pos w, if_pos w]
        rfl
  refine ⟨(u1 + 1).toNat, L (u1 + 1).toNat 0 0 m1 (by omega) hm1 (fun c p _ _ _ g => f1 c p g) y1 ?_ (by omega) (by omega)⟩
  rw [eY]
  show (0 : Int) = (if u3 = 0 then _ else _)
  split <;> rfl
