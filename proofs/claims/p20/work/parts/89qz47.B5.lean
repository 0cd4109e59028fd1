/-! an HOUR on both sides, over one row D -/
def heD (i : Int) (D : Int → Int) (t : Int) : Int := if i = 0 then htR D t else 0
def hbD (D : Int → Int) (h : Int) : Int := hbt (fun j => D (36 + 4 * j)) h (D 5).toNat
def wdD (i : Int) (D : Int → Int) (j h : Int) : Int → Int := wds h (D (10 + 5 * h + 3)) (D (10 + 5 * h + 2)) j (D (35 + 4 * j + 2)) (heD i D (D 7)) (D 7) (if D (10 + 5 * h + 1) ≤ 0 then 0 else 1) (bcF (hbD D h)) (if D (35 + 4 * j + 2) < D 2 then 0 else 1)
def tnD (o : Option (List Cz)) (i : Int) (D : Int → Int) (j : Int) : Int := if D (35 + 4 * j + 1) < 0 then D 1 + heD i D (D 7) else tvO o (wdD i D j (D (35 + 4 * j + 1)))
def nuD (o : Option (List Cz)) (i : Int) (D : Int → Int) (p : Int) : Int := if D (35 + 4 * p + 3) = 1 then D (35 + 4 * p + 2) else min (D (35 + 4 * p + 2) + tnD o i D p) 999
/-- the row an HOUR later; how many JUGS become SOUR in it -/
def hrow (o : Option (List Cz)) (i : Int) (D : Int → Int) (p : Int) : Int := if p = 7 then D 7 + 1 else if 10 ≤ p ∧ p < 10 + 5 * D 4 ∧ (p - 10) % 5 = 1 then max 0 (D p - 1) else if 10 ≤ p ∧ p < 10 + 5 * D 4 ∧ (p - 10) % 5 = 2 then (if hbD D ((p - 10) / 5) = 0 then max 0 (D p - 1) else min (D p + D (p + 2)) 99) else if 35 ≤ p ∧ p < 35 + 4 * D 5 ∧ (p - 35) % 4 = 2 then nuD o i D ((p - 35) / 4) else D p
def hsour (o : Option (List Cz)) (i : Int) (D : Int → Int) : Int := soF (fun j => D (35 + 4 * j + 2)) (nuD o i D) (D 2) (D 5).toNat
theorem hrow_7 {o : Option (List Cz)} {i : Int} {D : Int → Int} : hrow o i D 7 = D 7 + 1 := if_pos rfl
theorem hrow_h1 {o : Option (List Cz)} {i h : Int} {D : Int → Int} (h0 : 0 ≤ h) (h1 : h < D 4) : hrow o i D (10 + 5 * h + 1) = max 0 (D (10 + 5 * h + 1) - 1) := by
  unfold hrow
  rw [if_neg (by omega), if_pos (by omega)]
theorem hrow_h2 {o : Option (List Cz)} {i h : Int} {D : Int → Int} (h0 : 0 ≤ h) (h1 : h < D 4) : hrow o i D (10 + 5 * h + 2) = (if hbD D h = 0 then max 0 (D (10 + 5 * h + 2) - 1) else min (D (10 + 5 * h + 2) + D (10 + 5 * h + 4)) 99) := by
  unfold hrow
  rw [if_neg (by omega), if_neg (by omega), if_pos (by omega), show (10 + 5 * h + 2 - 10) / 5 = h by omega, show 10 + 5 * h + 2 + 2 = 10 + 5 * h + 4 by omega]
theorem hrow_j {o : Option (List Cz)} {i j : Int} {D : Int → Int} (b4 : D 4 ≤ 5) (j0 : 0 ≤ j) (j1 : j < D 5) : hrow o i D (35 + 4 * j + 2) = nuD o i D j := by
  unfold hrow
  rw [if_neg (by omega), if_neg (by omega), if_neg (by omega), if_pos (by omega), show (35 + 4 * j + 2 - 35) / 4 = j by omega]
theorem hrow_e {o : Option (List Cz)} {i p : Int} {D : Int → Int} (q : ¬ (p = 7 ∨ (10 ≤ p ∧ p < 10 + 5 * D 4 ∧ ((p - 10) % 5 = 1 ∨ (p - 10) % 5 = 2)) ∨ (35 ≤ p ∧ p < 35 + 4 * D 5 ∧ (p - 35) % 4 = 2))) : hrow o i D p = D p := by
  unfold hrow
  rw [if_neg (by omega), if_neg (by omega), if_neg (by omega), if_neg (by omega)]
/-- the reference's row is it -/
theorem PRh.row {o : Option (List Cz)} {m M : Mm} (h : PRh o m M) (b4 : m 346 4 ≤ 5) : M 346 = hrow o (m 336 23) (m 346) := by
  obtain ⟨g1, g2, g3, g4⟩ := h
  funext p
  by_cases z : p = 7 ∨ (10 ≤ p ∧ p < 10 + 5 * m 346 4 ∧ ((p - 10) % 5 = 1 ∨ (p - 10) % 5 = 2)) ∨ (35 ≤ p ∧ p < 35 + 4 * m 346 5 ∧ (p - 35) % 4 = 2)
  · rcases z with z | ⟨z1, z2, z3 | z3⟩ | ⟨z1, z2, z3⟩
    · rw [z, hrow_7]; exact g4
    · obtain ⟨h, rfl⟩ : ∃ h : Int, p = 10 + 5 * h + 1 := ⟨(p - 10) / 5, by omega⟩
      rw [hrow_h1 (by omega) (by omega)]
      exact (g3 h (by omega) (by omega)).2
    · obtain ⟨h, rfl⟩ : ∃ h : Int, p = 10 + 5 * h + 2 := ⟨(p - 10) / 5, by omega⟩
      rw [hrow_h2 (by omega) (by omega)]
      exact (g3 h (by omega) (by omega)).1
    · obtain ⟨j, rfl⟩ : ∃ j : Int, p = 35 + 4 * j + 2 := ⟨(p - 35) / 4, by omega⟩
      rw [hrow_j b4 (by omega) (by omega)]
      exact g2 j (by omega) (by omega)
  · rw [hrow_e z]
    exact g1 346 p (by omega) (by omega) (by omega) (fun y => z y.2)
theorem SR.heldD {M : Mm} {c h : Int} {D : Int → Int} (b5 : 0 ≤ D 5 ∧ D 5 ≤ 4) (r : SR M c D) (h0 : 0 ≤ h) : hbt (M (c + 5)) h 4 = hbD D h := by
  obtain ⟨_, _, r4, r5, _⟩ := r
  unfold hbD
  have e : (4 : Nat) = (D 5).toNat + (4 - (D 5).toNat) := by omega
  rw [e, hbt_ext _ (fun j j0 j1 => ?_)]
  · refine hbt_same _ (fun j j0 j1 => ?_)
    have q := (r4 j j0 (by omega)).1
    show M (c + 5) j = D (36 + 4 * j)
    rw [q]
    congr 1
    omega
  · have q := (r5 j (by omega) (by omega)).2
    rw [q]
    omega
theorem he_eq {m : Mm} {D : Int → Int} {i t : Int} (tl : TL 4 D m) (ic : m 55 2 = 0 ↔ i = 0) : heC m t = heD i D t := by
  unfold heC heD
  by_cases z : m 55 2 = 0
  · rw [if_pos z, if_pos (ic.1 z)]
    exact ht_eq tl
  · rw [if_neg z, if_neg (fun y => z (ic.2 y))]
theorem nw_eq {X : Mm} {S : Sh} {o : Option (List Cz)} {m : Mm} {D : Int → Int} {c j i : Int} (hm : Inv X S m) (hb : isSt c) (db : DB D) (sr : SR m c D) (tl : TL 4 D m) (ic : m 55 2 = 0 ↔ i = 0) (j0 : 0 ≤ j) (j1 : j < D 5) : nuC o m c j = nuD o i D j := by
  obtain ⟨b4, b5, _⟩ := db
  have b6 := hm.aB_5_6 hb j0 (by omega)
  obtain ⟨q1, q2, q3⟩ := sr.2.2.1 j j0 j1
  have h7 : m c 0 = D 7 := sr.1.1
  have he := he_eq (t := D 7) tl ic
  unfold nuC nuD
  rcases q3 with ⟨a1, a2, a3, a4⟩ | ⟨a1, a2, a3, a4⟩ | ⟨a1, a2, a3⟩
  · have e1 : tnC o m c j = tnD o i D j := by
      unfold tnC tnD
      rw [if_neg (by omega), if_pos (by omega), tl.1.2.1, h7, he]
    rw [if_neg (by omega), e1, q2]
    omega
  · have hh := sr.2.1 (D (35 + 4 * j + 1)) a2 a3
    have hs := tl.2.2.1 (D (35 + 4 * j + 1)) a2 a3
    have b2 := hm.aB_5_2 hb (i := D (35 + 4 * j + 1)) a2 (by omega)
    have e1 : tnC o m c j = tnD o i D j := by
      unfold tnC tnD
      rw [if_pos a1, if_neg (by omega), if_neg (by omega), q1]
      have ew : wdS m c j (D (35 + 4 * j + 1)) = wdD i D j (D (35 + 4 * j + 1)) := by
        unfold wdS wdD
        have hs1 : m 7 (D (35 + 4 * j + 1)) = D (10 + 5 * D (35 + 4 * j + 1) + 3) := hs.1
        rw [hs1, hh.2.2, q2, h7, he, SR.heldD b5 sr a2, tl.1.2.2.1]
        rw [hh.2.1] at b2 ⊢
        have er : (if D (10 + 5 * D (35 + 4 * j + 1) + 1) = 0 then (0 : Int) else 1) = (if D (10 + 5 * D (35 + 4 * j + 1) + 1) ≤ 0 then 0 else 1) := by
          by_cases z : D (10 + 5 * D (35 + 4 * j + 1) + 1) = 0
          · rw [if_pos z, if_pos (by omega)]
          · rw [if_neg z, if_neg (by omega)]
        rw [er]
      rw [ew]
    rw [if_neg (by omega), e1, q2]
    omega
  · have e1 : tnC o m c j = 0 := by
      unfold tnC
      rw [if_pos a1, if_pos (by omega)]
    rw [if_pos a3, e1, q2]
    rw [q2] at b6
    omega
/-- the class, over a STATE in cell c: it stays alike to the row -/
theorem SR_hour {X : Mm} {S : Sh} {o : Option (List Cz)} {m M2 : Mm} {D : Int → Int} {c i : Int} (hm : Inv X S m) (hb : isSt c) (hc : c = 16 ∨ c = 68) (db : DB D) (sr : SR m c D) (tl : TL 4 D m) (ic : m 55 2 = 0 ↔ i = 0) (h9 : m c 0 ≤ 998) (ph : PH o m M2 c) : SR M2 c (hrow o i D) ∧ soF (m (c + 6)) (nuC o m c) (m 4 2) (m 4 5).toNat = hsour o i D := by
  obtain ⟨b4, b5, b6, b9, b157⟩ := id db
  obtain ⟨p1, p2, p3, p4⟩ := ph
  have t4 : m 4 4 = D 4 := tl.1.2.2.2.2.1
  have t5 : m 4 5 = D 5 := tl.1.2.2.2.2.2.1
  have t2 : m 4 2 = D 2 := tl.1.2.2.1
  rw [t5] at p1 p2
  rw [t4] at p1 p3
  obtain ⟨⟨r1, r2⟩, r3, r4, r5, r6⟩ := id sr
  have g4' : hrow o i D 4 = D 4 := hrow_e (by omega)
  have g5' : hrow o i D 5 = D 5 := hrow_e (by omega)
  have g6' : hrow o i D 6 = D 6 := hrow_e (by omega)
  refine ⟨⟨⟨?_, ?_⟩, fun a i0 i1 => ?_, fun j j0 j1 => ?_, fun j j0 j1 => ?_, fun w w0 w1 => ?_⟩, ?_⟩
  · have bc := hm.fB_5_0 hb
    rw [p4, hrow_7, ← r1]
    omega
  · rw [p1 c 1 (by omega) (by omega) (by omega) (by omega) (by omega), hrow_e (by omega)]
    exact r2
  · rw [g4'] at i1
    obtain ⟨s1, s2, s3⟩ := r3 a i0 i1
    have hs : m 8 a = D (10 + 5 * a + 4) := (tl.2.2.1 a i0 i1).2
    refine ⟨?_, ?_, ?_⟩
    · rw [p1 _ a (by omega) (by omega) (by omega) (by omega) (by omega), hrow_e (by omega)]
      exact s1
    · rw [(p3 a i0 i1).2, hrow_h1 i0 i1, s2]
    · rw [(p3 a i0 i1).1, hrow_h2 i0 i1, s3, SR.heldD b5 sr i0, hs]
      by_cases z : hbD D a = 0
      · rw [if_pos z, if_pos z]
      · rw [if_neg z, if_neg z]
        omega
  · rw [g5'] at j1
    obtain ⟨s1, s2, s3⟩ := r4 j j0 j1
    refine ⟨?_, ?_, ?_⟩
    · rw [p1 _ j (by omega) (by omega) (by omega) (by omega) (by omega), hrow_e (by omega)]
      exact s1
    · rw [p2 j j0 j1, hrow_j b4.2 j0 j1]
      exact nw_eq hm hb db sr tl ic j0 j1
    · rw [p1 _ j (by omega) (by omega) (by omega) (by omega) (by omega), hrow_e (p := 35 + 4 * j) (by omega), hrow_e (p := 35 + 4 * j + 1) (by omega), hrow_e (p := 35 + 4 * j + 3) (by omega), g4']
      exact s3
  · rw [g5'] at j0
    rw [p1 _ j (by omega) (by omega) (by omega) (by omega) (by omega), p1 _ j (by omega) (by omega) (by omega) (by omega) (by omega)]
    exact r5 j j0 j1
  · rw [g6'] at w1
    rw [p1 _ w (by omega) (by omega) (by omega) (by omega) (by omega), hrow_e (by omega)]
    exact r6 w w0 w1
  · unfold hsour
    rw [t5, t2]
    exact soF_same _ (fun j j0 j1 => ⟨(r4 j j0 (by omega)).2.1, nw_eq hm hb db sr tl ic j0 (by omega)⟩)
theorem zs_isDairy {X : Mm} {S : Sh} {m : Mm} {K : Int → Mm → Prop} (hS : Shp S) (hm : Inv X S m) (h1 : ¬ m 346 0 = 0 → K 1 m) (h0 : m 346 0 = 0 → K 0 m) : wp_X12_isDairy S m 336 K := by
  have b0 := hm.f_346_0
  refine u_X12_isDairy ?_
  refine g_getr 20 346 rfl hS.k336 hm.f_336_20 (by decide) ?_
  refine g_C ?_
  refine g_ldu hS.k346 hS.l346 (by decide) (by decide) (fun v ev => ?_)
  exact g_if (fun w => g_C ⟨by decide, h0 (by omega)⟩) (fun w => g_C ⟨by decide, h1 (by omega)⟩)
theorem zz_hour {S : Sh} {m0 : Mm} {K : Int → Int → Mm → Prop} {K1 : Int → Mm → Prop} {n : Int} (hS : Shp S) (hz : RZ S m0 n) (hK : ∀ (r : Int) (M : Mm), wp_X12_hour S M 336 (fun r2 M2 => K r r2 M2) → K1 r M) (hk : ∀ (r : Int) (M1 : Mm), RZ S M1 (n + 1) → K r r M1) : wp_X11_hour S m0 0 K1 := by
  have hm := hz.inv
  have ct := hz.ct
  have db := hz.db
  have h7 : m0 16 0 = m0 346 7 := hz.sr.1.1
  have b16 := hm.f_16_0
  obtain ⟨o, rc, rr⟩ := hz.rule
  have zz : RZ S m0 (n + 1) := hz.mono (by omega)
  have no : (m0 346 0 = 0 ∨ m0 346 7 = 999) → wp_X12_hour S m0 336 (fun r2 M2 => K (-1) r2 M2) := by
    intro q
    refine u_X12_hour ?_
    refine ⟨hS.k336, ?_⟩
    refine zs_isDairy hS hm (fun w => g_ifF (by decide) ?_) (fun w => g_ifT rfl (g_C (hk _ m0 zz)))
    refine g_getr 20 346 rfl hS.k336 hm.f_336_20 (by decide) ?_
    refine g_C ?_
    refine g_ldu hS.k346 hS.l346 (by decide) (by decide) (fun v ev => ?_)
    refine g_C ?_
    exact g_ifF (fun z => z (by omega)) (g_C (hk _ m0 zz))
  refine u_X11_hour ?_
  refine g_getr 1 3 rfl hS.k0 hm.f_0_1 (by decide) ?_
  refine g_getr 0 4 rfl hS.k3 hm.f_3_0 (by decide) ?_
  refine g_getu 0 rfl hS.k4 (fun v ev => ?_)
  refine g_if (fun w => g_C (hK _ _ (no (by omega)))) (fun w => ?_)
  refine g_getr 1 3 rfl hS.k0 hm.f_0_1 (by decide) ?_
  refine g_getr 1 16 rfl hS.k3 hm.f_3_1 (by decide) ?_
  refine g_getu 0 rfl hS.k16 (fun v2 ev2 => ?_)
  refine g_C ?_
  refine g_if (fun w2 => ?_) (fun w2 => g_C (hK _ _ (no (by omega))))
  refine ⟨hS.k0, ?_⟩
  refine zk_keepPast hS hm (fun i m1 hm1 kp => ?_)
  refine g_getr 11 57 rfl hS.k0 hm1.f_0_11 (by decide) ?_
  refine g_getr 1 3 rfl hS.k0 hm1.f_0_1 (by decide) ?_
  refine g_getr 1 16 rfl hS.k3 hm1.f_3_1 (by decide) ?_
  refine ⟨hS.k57, ?_⟩
  have hb : isSt 16 := by decide
  have F1 : ∀ c p : Int, ¬ (176 ≤ c ∧ c ≤ 335) → ¬ c = 0 → m1 c p = m0 c p := fun c p a b => kp.f a (by omega)
  have e1 : m1 346 = m0 346 := funext (fun p => F1 346 p (by omega) (by omega))
  refine zh_pass hS hm1 (rc.keep (fun c p q => F1 c p (by omega) (by omega))) hb (Or.inl rfl) (fun m2 hm2 ph => ?_)
  have F2 : ∀ c p : Int, ¬ (16 ≤ c ∧ c ≤ 23) → ¬ (c = 56 ∨ (c = 55 ∧ 4 ≤ p)) → m2 c p = m1 c p := fun c p a b => ph.1 c p (by omega) (by omega) (by omega) (by omega) (by omega)
  have j2 := hz.1.of hm2
  have e2 : m2 346 = m0 346 := funext (fun p => by rw [F2 346 p (by omega) (by omega), e1])
  have i0 := hz.2.2.2.2.2.2.2.2
  have sr1 : SR m1 16 (m1 346) := hz.sr.move hz.rd.1.1 (fun p _ _ => F1 _ p (by omega) (by omega)) (fun c p q => F1 _ p (by omega) (by omega)) (fun p _ _ => F1 _ p (by omega) (by omega))
  have tl1 : TL 4 (m1 346) m1 := hz.tl.move hz.rd.1.1 hz.rd.1.2 (fun p _ _ => F1 _ p (by omega) (by omega)) (fun c p q => F1 _ p (by omega) (by omega)) (fun p _ => F1 _ p (by omega) (by omega))
  have ic1 : m1 55 2 = 0 ↔ (0 : Int) = 0 := by
    rw [F1 55 2 (by omega) (by omega), i0.1]
  refine hK _ _ ?_
  refine u_X12_hour ?_
  refine ⟨hS.k336, ?_⟩
  refine zs_isDairy hS j2.inv (fun w => g_ifF (by decide) ?_) (fun w => absurd w (by rw [e2]; omega))
  refine g_getr 20 346 rfl hS.k336 j2.inv.f_336_20 (by decide) ?_
  refine g_C ?_
  refine g_ldu hS.k346 hS.l346 (by decide) (by decide) (fun v3 ev3 => ?_)
  rw [e2] at ev3
  refine g_C ?_
  refine g_ifT (by omega) ?_
  refine ⟨hS.k336, ?_⟩
  refine zk_keepsAct hS j2.inv (fun u s m3 hm3 ka => ?_)
  have e3 : m3 346 = m0 346 := funext (fun p => by rw [ka.f (by omega) (by omega), e2])
  have F3 : ∀ c p : Int, ¬ (176 ≤ c ∧ c ≤ 335) → ¬ c = 0 → ¬ (16 ≤ c ∧ c ≤ 23) → ¬ (c = 56 ∨ (c = 55 ∧ 4 ≤ p)) → ¬ c = 347 → ¬ (c = 336 ∧ p = 25) → m3 c p = m0 c p := fun c p a b d e f g => by rw [ka.f f g, F2 c p d e, F1 c p a b]
  refine ⟨hS.k336, ?_⟩
  refine zh_passes (o := o) hS hm3 (rr.keep (fun c p q => F3 c p (by omega) (by omega) (by omega) (by omega) (by omega) (by omega))) (by rw [e3]; omega) (fun j a0 a1 => ?_) (fun m4 hm4 pr => ?_)
  · rw [e3] at a1 ⊢
    rw [← (hz.jg a0 a1).2.1]
    exact hm.aB_5_6 (c := 16) hb a0 (by omega)
  have F4 : ∀ c p : Int, ¬ (c = 346 ∧ 0 ≤ p ∧ p < 57 ∧ ¬ tp p) → ¬ (344 ≤ c ∧ c ≤ 345) → ¬ (c = 336 ∧ p = 18) → m4 c p = m3 c p := fun c p a b d => by
    have q4 : m3 346 4 = m0 346 4 := by rw [e3]
    have q5 : m3 346 5 = m0 346 5 := by rw [e3]
    refine pr.1 c p (by omega) (by omega) d (fun z => a ⟨z.1, ?_⟩)
    obtain ⟨z1, z2⟩ := z
    rcases z2 with z2 | z2 | z2
    · refine ⟨by omega, by omega, ?_⟩
      unfold tp; omega
    · refine ⟨by omega, by omega, ?_⟩
      unfold tp; omega
    · refine ⟨by omega, by omega, ?_⟩
      unfold tp; omega
  have E : ∀ c' p : Int, (16 : Int) ≤ c' → c' ≤ 16 + 7 → m4 c' p = m2 c' p := fun c' p a b => by rw [F4 c' p (by omega) (by omega) (by omega), ka.f (by omega) (by omega)]
  have db1 : DB (m1 346) := by rw [e1]; exact hz.rd.1.1
  have R := SR_hour (o := o) (i := 0) hm1 hb (Or.inl rfl) db1 sr1 tl1 ic1 (by rw [F1 16 0 (by omega) (by omega)]; omega) ph
  have x23 : m3 336 23 = 0 := by rw [F3 336 23 (by omega) (by omega) (by omega) (by omega) (by omega) (by omega)]; exact i0.2
  have e4 : m4 346 = hrow o 0 (m0 346) := by rw [pr.row (by rw [e3]; omega), x23, e3]
  have R1 : SR m4 16 (m4 346) := by
    rw [e4]
    have q := R.1
    rw [e1] at q
    obtain ⟨⟨r1, r2⟩, r3, r4, r5, r6⟩ := q
    refine ⟨⟨by rw [E 16 0 (by omega) (by omega)]; exact r1, by rw [E 16 1 (by omega) (by omega)]; exact r2⟩, fun a a0 a1 => ?_, fun a a0 a1 => ?_, fun a a0 a1 => ?_, fun a a0 a1 => ?_⟩
    · exact (r3 a a0 a1).same (E _ a (by omega) (by omega)) (E _ a (by omega) (by omega)) (E _ a (by omega) (by omega)) rfl rfl rfl
    · exact (r4 a a0 a1).same (E _ a (by omega) (by omega)) (E _ a (by omega) (by omega)) (E _ a (by omega) (by omega)) rfl rfl rfl rfl rfl
    · rw [E _ a (by omega) (by omega), E _ a (by omega) (by omega)]; exact r5 a a0 a1
    · rw [E _ a (by omega) (by omega)]; exact r6 a a0 a1
  have z4 : RZ S m4 (n + 1) := by
    refine hz.act kp F2 ka F4 j2 hm4 R1 ?_ (by omega) ?_
    · have h2 : H2 (m0 21) := hz.2.2.2.1.2.2.2
      refine h2.move (fun p _ _ => ?_)
      rw [E 21 p (by omega) (by omega), ph.1 21 p (by omega) (by omega) (by omega) (by omega) (by omega), F1 21 p (by omega) (by omega)]
    · rw [ph.2.2.2, F1 16 0 (by omega) (by omega)]
      have : m0 16 0 ≤ n := hz.2.2.2.1.1
      omega
  have e := R.2
  rw [e1] at e
  rw [e]
  have ez : soF (fun j => m3 346 (35 + 4 * j + 2)) (nuR o m3) (m3 346 2) (m3 346 5).toNat = hsour o 0 (m0 346) := by
    have q : nuR o m3 = nuD o 0 (m0 346) := by
      funext j
      show nuD o (m3 336 23) (m3 346) j = nuD o 0 (m0 346) j
      rw [x23, e3]
    rw [q, e3]
    rfl
  rw [ez]
  exact hk _ m4 z4
