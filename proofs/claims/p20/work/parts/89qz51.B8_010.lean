theorem zz_rule {S : Sh} {m0 : Mm} {K : Int → Int → Sh → Mm → Prop} {K1 : Int → Sh → Mm → Prop} {n : Int} (hS : Shp S) (hz : RZ S m0 n) (hK : ∀ (r : Int) (S1 : Sh) (M : Mm), Shp S1 → wp_X12_rule S1 M 336 (fun r2 M2 => K r r2 S1 M2) → K1 r S1 M) (hk : ∀ (r : Int) (S1 : Sh) (M1 : Mm), Shp S1 → RZ S1 M1 n → K r r S1 M1) : wp_X11_rule S m0 0 K1 := by
  have hj := hz.1
  have hm0 := hj.inv
  obtain ⟨jc, xr, ⟨⟨a1, a2, a3⟩, a4, a5⟩⟩ := id hj
  have b1 := hm0.f_1_1
  have b7 := hm0.f_0_7
  have hC : TC m0 (fun p => m0 2 p) (m0 1 1) := ⟨rfl, b1, fun p p0 p1 => ⟨rfl, hm0.a_2 p0 (by omega)⟩⟩
  have hR : ∀ M : Mm, M 336 1 = m0 336 1 → (∀ p : Int, M 337 p = m0 337 p) → TR M (fun p => m0 2 p) (m0 1 1) := fun M e f => ⟨e.trans a1.symm, b1, fun p p0 p1 => ⟨(f p).trans (a2 p p0 (by omega)).symm, hm0.a_2 p0 (by omega)⟩⟩
  refine zw_rule11 hS jc hC (fun z => ?_) (fun f m1 j1 f1 e1 n1 c1 nf => ?_) (fun S1 m1 E v hS1 j1 f1 e1 g1 n1 c1 y30 rv lv hE old => ?_)
  · refine hK _ _ _ hS ?_
    exact zw_rule12 hS jc (hR m0 rfl (fun _ => rfl)) (fun _ => hk _ S m0 hS hz) (fun f M1 _ _ _ _ n _ _ => absurd (a3.symm.trans z) n) (fun M1 Cs _ _ _ _ _ n _ _ _ => absurd (a3.symm.trans z) n)
  · have G1 : ∀ c p : Int, 336 ≤ c → m1 c p = m0 c p := fun c p z => f1 c p (by unfold fr1_W; omega) (by omega)
    have k2 : m1 336 2 = m0 336 2 := G1 336 2 (by omega)
    refine hK _ _ _ hS ?_
    refine zw_rule12 hS j1 (hR m1 (G1 336 1 (by omega)) (fun p => G1 337 p (by omega))) (fun z => absurd (a3.trans (k2.symm.trans z)) n1) (fun f' m2 j2 f2 l2 e2 _ c2 _ => ?_) (fun m2 Cs _ _ _ _ _ _ c2 _ _ => absurd (c1.det c2).1 nf)
    rw [← (c1.det c2).1]
    rw [k2] at l2
    have F : ∀ c p : Int, ¬ fr1_W c p → ¬ fr2_W c p → ¬ (c = 1 ∧ p = 1) → m2 c p = m0 c p := fun c p q1 q2 q3 => by rw [f2 c p q2, f1 c p q1 q3]
    have jx : JX S m2 := by
      refine hj.tape j2 (fun c p hs q1 q2 q3 => F c p ?_ ?_ q1) ?_ ?_
      · unfold fr1_W; omega
      · unfold fr2_W; omega
      · rw [f2 1 1 (by unfold fr2_W; omega), e1, e2]
      · rw [F 0 7 (by unfold fr1_W; omega) (by unfold fr2_W; omega) (by omega), F 336 2 (by unfold fr1_W; omega) (by unfold fr2_W; omega) (by omega)]
        exact a3
    refine hk _ S m2 hS ⟨jx, hz.2.1.same (fun c p q => F c p (by unfold fr1_W; omega) (by unfold fr2_W; omega) (by omega)), ⟨fun k k0 k1 => ?_, ?_⟩, hz.2.2.2.same (fun c p q => F c p (by unfold fr1_W; omega) (by unfold fr2_W; omega) (by omega))⟩
    · rw [F 336 2 (by unfold fr1_W; omega) (by unfold fr2_W; omega) (by omega)] at k1
      obtain ⟨Cs, r1, r2, r3⟩ := hz.2.2.1.1 k k0 k1
      refine ⟨Cs, ?_, r2.low k0 (fun c p q => by rw [l2 c p (by omega), G1 c p (by omega)]), r3⟩
      rw [F 30 k (by unfold fr1_W; omega) (by unfold fr2_W; omega) (by omega)]
      exact r1.same (fun c p q => F c p (by unfold fr1_W; omega) (by unfold fr2_W; omega) (by omega))
    · rw [F 55 1 (by unfold fr1_W; omega) (by unfold fr2_W; omega) (by omega), F 3 2 (by unfold fr1_W; omega) (by unfold fr2_W; omega) (by omega), hz.2.2.1.2]
      by_cases z : m0 3 2 < 0
      · rw [if_pos z, if_pos z]
      · rw [if_neg z, if_neg z, F 30 _ (by unfold fr1_W; omega) (by unfold fr2_W; omega) (by omega)]
  · have v358 : 358 ≤ v := by
      have z := (old (-2) (Or.inl rfl)).1
      rcases rv with q | q
      · omega
      · exact q.2.2
    have G1 : ∀ c p : Int, 336 ≤ c → ¬ c = v → m1 c p = m0 c p := fun c p z z2 => f1 c p (by unfold fr1_W; omega) (by omega) (by omega) (by omega) z2
    have k2 : m1 336 2 = m0 336 2 := G1 336 2 (by omega) (by omega)
    refine hK _ _ _ hS1 ?_
    refine zw_rule12 hS1 j1 (hR m1 (G1 336 1 (by omega) (by omega)) (fun p => G1 337 p (by omega) (by omega))) (fun z => absurd (a3.trans (k2.symm.trans z)) n1) (fun f' m2 _ _ _ _ _ c2 nf => absurd (c2.det c1).1 nf) (fun m2 Cs j2 f2 l2 e2 g2 _ c2 rw2 ty2 => ?_)
    rw [k2] at l2 g2 rw2 ⊢
    rw [← a3]
    have eE : E = codC Cs := (c1.det c2).2
    have F : ∀ c p : Int, ¬ fr1_W c p → ¬ fr2_W c p → ¬ (c = 1 ∧ p = 1) → ¬ (c = 0 ∧ p = 7) → ¬ (c = 30 ∧ p = m0 0 7) → ¬ c = v → ¬ (c = 336 ∧ p = 2) → m2 c p = m0 c p := fun c p q1 q2 q3 q4 q5 q6 q7 => by rw [f2 c p q2 q7, f1 c p q1 q3 q4 q5 q6]
    have F' : ∀ c p : Int, c < 358 → ¬ fr1_W c p → ¬ fr2_W c p → ¬ (c = 1 ∧ p = 1) → ¬ (c = 0 ∧ p = 7) → ¬ (c = 30 ∧ p = m0 0 7) → ¬ (c = 336 ∧ p = 2) → m2 c p = m0 c p := fun c p q0 q1 q2 q3 q4 q5 q7 => F c p q1 q2 q3 q4 q5 (by omega) q7
    have jx : JX S1 m2 := by
      refine hj.tape j2 (fun c p hs q1 q2 q3 => F' c p (by omega) ?_ ?_ q1 q3 (by omega) (by omega)) ?_ ?_
      · unfold fr1_W; omega
      · unfold fr2_W; omega
      · rw [f2 1 1 (by unfold fr2_W; omega) (by omega), e1, e2]
      · rw [f2 0 7 (by unfold fr2_W; omega) (by omega), g1, g2]
        omega
    obtain ⟨ok1, ok2⟩ := c2.ok
    have lp : 0 < (codC Cs).length := by
      rcases h : codC Cs with _ | ⟨a, l⟩
      · exact absurd h ok2
      · exact Nat.succ_pos _
    have nb : ∀ c p : Int, KZ c p → c < 358 → ¬ c = 30 → ¬ c = 338 → ¬ c = 340 → ¬ c = 341 → ¬ (c = 336 ∧ p = 2) → m2 c p = m0 c p := fun c p q q0 q1 q2 q3 q4 q5 => by
      unfold KZ at q
      exact F' c p q0 (by unfold fr1_W; omega) (by unfold fr2_W; omega) (by omega) (by omega) (by omega) q5
    refine hk _ S1 m2 hS1 ⟨jx, hz.2.1.same (fun c p q => nb c p (by unfold KZ; omega) (by omega) (by omega) (by omega) (by omega) (by omega) (by omega)), ⟨fun k k0 k1 => ?_, ?_⟩, hz.2.2.2.same (fun c p q => nb c p (by unfold KZ; omega) (by omega) (by omega) (by omega) (by omega) (by omega) (by omega))⟩
    · rw [g2] at k1
      by_cases e : k = m0 336 2
      · subst e
        refine ⟨Cs, ?_, rw2, by rw [nvs_row]; exact ok1, ty2.n1⟩
        have e30 : m2 30 (m0 336 2) = v := by rw [f2 30 _ (by unfold fr2_W; omega) (by omega), ← a3, y30]
        rw [e30]
        refine ⟨by omega, by omega, rv, ?_, by rw [← eE]; exact lv, lp, ty2, ok1⟩
        rw [← eE, show m2 v = m1 v from funext (fun p => f2 v p (by unfold fr2_W; omega) (by omega))]
        exact hE
      · obtain ⟨Cs', r1, r2, r3⟩ := hz.2.2.1.1 k k0 (by omega)
        refine ⟨Cs', ?_, r2.low k0 (fun c p q => by rw [l2 c p (by omega), G1 c p (by omega) (by omega)]), r3⟩
        have e30 : m2 30 k = m0 30 k := F' 30 k (by omega) (by unfold fr1_W; omega) (by unfold fr2_W; omega) (by omega) (by omega) (by omega) (by omega)
        rw [e30]
        obtain ⟨s1, s2, s3, s4, s5, s6, s7⟩ := r1
        obtain ⟨o1, o2, o3⟩ := old _ s3
        have o4 : 358 ≤ m0 30 k := by
          rcases s3 with q | q
          · exact absurd q s1
          · exact q.2.2
        refine ⟨s1, s2, o2, ?_, by rw [o3]; exact s5, s6, s7⟩
        rw [show m2 (m0 30 k) = m0 (m0 30 k) from funext (fun p => F _ p (by unfold fr1_W; omega) (by unfold fr2_W; omega) (by omega) (by omega) (by omega) o1 (by omega))]
        exact s4
    · rw [nb 55 1 (by unfold KZ; omega) (by omega) (by omega) (by omega) (by omega) (by omega) (by omega), nb 3 2 (by unfold KZ; omega) (by omega) (by omega) (by omega) (by omega) (by omega) (by omega), hz.2.2.1.2]
      have g : m0 336 21 < m0 336 2 := jc.2.2.2.1.1
      by_cases z : m0 3 2 < 0
      · rw [if_pos z, if_pos z]
      · rw [if_neg z, if_neg z, F' 30 _ (by omega) (by unfold fr1_W; omega) (by unfold fr2_W; omega) (by omega) (by omega) (by omega) (by omega)]
