/-! the ACTS of both sides: alike, and alike they stay -/
theorem RZ.hd {S : Sh} {M : Mm} {n i : Int} (h : RZ S M n) (i0 : 0 ≤ i) (i1 : i < M 346 4) : M 17 i = M 346 (10 + 5 * i) ∧ M 18 i = M 346 (10 + 5 * i + 1) ∧ M 19 i = M 346 (10 + 5 * i + 2) := h.sr.2.1 i i0 i1
theorem RZ.jg {S : Sh} {M : Mm} {n j : Int} (h : RZ S M n) (j0 : 0 ≤ j) (j1 : j < M 346 5) : M 21 j = M 346 (35 + 4 * j + 1) ∧ M 22 j = M 346 (35 + 4 * j + 2) ∧ ((M 20 j = M 346 (35 + 4 * j) ∧ M 346 (35 + 4 * j + 1) = -1 ∧ M 346 (35 + 4 * j + 3) = 0 ∧ 0 ≤ M 346 (35 + 4 * j)) ∨ (M 20 j = -1 ∧ 0 ≤ M 346 (35 + 4 * j + 1) ∧ M 346 (35 + 4 * j + 1) < M 346 4 ∧ M 346 (35 + 4 * j + 3) = 0) ∨ (M 20 j = -1 ∧ M 346 (35 + 4 * j + 1) = -1 ∧ M 346 (35 + 4 * j + 3) = 1)) := h.sr.2.2.1 j j0 j1
theorem RZ.wt {S : Sh} {M : Mm} {n w : Int} (h : RZ S M n) (w0 : 0 ≤ w) (w1 : w < M 346 6) : M 23 w = M 346 (51 + w) := h.sr.2.2.2.2 w w0 w1
theorem RZ.ct {S : Sh} {M : Mm} {n : Int} (h : RZ S M n) : M 4 0 = M 346 0 ∧ M 4 1 = M 346 1 ∧ M 4 2 = M 346 2 ∧ M 4 3 = M 346 3 ∧ M 4 4 = M 346 4 ∧ M 4 5 = M 346 5 ∧ M 4 6 = M 346 9 ∧ M 4 7 = M 346 6 := h.tl.1
theorem RZ.sp {S : Sh} {M : Mm} {n i : Int} (h : RZ S M n) (i0 : 0 ≤ i) (i1 : i < M 346 4) : M 7 i = M 346 (10 + 5 * i + 3) ∧ M 8 i = M 346 (10 + 5 * i + 4) := h.tl.2.2.1 i i0 i1
theorem RZ.wd {S : Sh} {M : Mm} {n i : Int} (h : RZ S M n) (i0 : 0 ≤ i) (i1 : i < M 346 6) : M 12 i = M 346 (93 + 4 * i) ∧ M 13 i = M 346 (93 + 4 * i + 1) ∧ M 14 i = M 346 (93 + 4 * i + 2) ∧ M 15 i = M 346 (93 + 4 * i + 3) := h.tl.2.2.2.2 i i0 i1
theorem RZ.hb {S : Sh} {M : Mm} {n h : Int} (z : RZ S M n) (h0 : 0 ≤ h) : hbt (M 21) h 4 = hbR M h := SR.held z.inv z.sr h0
theorem RZ.db {S : Sh} {M : Mm} {n : Int} (h : RZ S M n) : (0 ≤ M 346 4 ∧ M 346 4 ≤ 5) ∧ (0 ≤ M 346 5 ∧ M 346 5 ≤ 4) ∧ (0 ≤ M 346 6 ∧ M 346 6 ≤ 6) ∧ (0 ≤ M 346 9 ∧ M 346 9 ≤ 4) ∧ (0 ≤ M 346 157 ∧ M 346 157 ≤ 10) := h.rd.1.1
theorem StR.same {m m' : Mm} {j : Int} (e : m' 346 = m 346) : StR m' j ↔ StR m j := by unfold StR; rw [e]
theorem hbR.eq {m m' : Mm} {h : Int} (e : m' 346 = m 346) : hbR m' h = hbR m h := by unfold hbR; rw [e]
/-- an ACT that changes one JUG -/
theorem RZ.actJ {S : Sh} {m0 M1 M2 M3 M4 : Mm} {n i u s j : Int} (h : RZ S m0 n) (j0 : 0 ≤ j) (j1 : j < m0 346 5) (kp : KP m0 M1 i) (f2 : ∀ c p : Int, ¬ (p = j ∧ (c = 20 ∨ c = 21)) → M2 c p = M1 c p) (ka : KA M2 M3 u s) (f4 : ∀ c p : Int, ¬ (c = 346 ∧ (p = 35 + 4 * j ∨ p = 35 + 4 * j + 1)) → M4 c p = M3 c p) (hm2 : Inv (sf m0) S M2) (hm4 : Inv (sf M2) S M4) (x2 : 0 ≤ M2 21 j → bcF (hbt (m0 21) (M2 21 j) 4) < 2) (x : (∀ c p : Int, ¬ (176 ≤ c ∧ c ≤ 335) → ¬ (c = 0 ∧ (p = 4 ∨ p = 5)) → ¬ (p = j ∧ (c = 20 ∨ c = 21)) → ¬ c = 347 → ¬ (c = 336 ∧ p = 25) → ¬ (c = 346 ∧ (p = 35 + 4 * j ∨ p = 35 + 4 * j + 1)) → M4 c p = m0 c p) → SRj M4 16 (M4 346) j) : RZ S M4 n := by
  have db := h.db
  have F : ∀ c p : Int, ¬ (176 ≤ c ∧ c ≤ 335) → ¬ (c = 0 ∧ (p = 4 ∨ p = 5)) → ¬ (p = j ∧ (c = 20 ∨ c = 21)) → ¬ c = 347 → ¬ (c = 336 ∧ p = 25) → ¬ (c = 346 ∧ (p = 35 + 4 * j ∨ p = 35 + 4 * j + 1)) → M4 c p = m0 c p := fun c p b1 b2 b3 b4 b5 b6 => by
    rw [f4 c p b6, ka.f b4 b5, f2 c p b3, kp.f b1 b2]
  have b16 : M2 16 0 = m0 16 0 := by rw [f2 16 0 (by omega), kp.f (by omega) (by omega)]
  refine h.act kp (fun c p b1 b2 => f2 c p (by omega)) ka (fun c p b1 b2 b3 => f4 c p (by omega)) (h.1.of hm2) hm4 ?_ ?_ (Int.le_refl n) (by rw [b16]; exact h.2.2.2.1.1)
  · exact h.sr.jug db.1 db.2.1.2 db.2.2.1.2 ⟨j0, j1⟩ (fun c p q1 q2 => F c p (by omega) (by omega) (by omega) (by omega) (by omega) (by omega)) (fun p q => F 346 p (by omega) (by omega) (by omega) (by omega) (by omega) (by omega)) (x F)
  · have h2 : H2 (m0 21) := h.2.2.2.1.2.2.2
    have e : M4 21 j = M2 21 j := by rw [f4 21 j (by omega), ka.f (by omega) (by omega)]
    refine h2.put (j := j) (fun p p0 p1 p2 => F 21 p (by omega) (by omega) (by omega) (by omega) (by omega) (by omega)) ?_
    rw [e]
    exact x2
theorem tk_iff {S : Sh} {m : Mm} {n h j : Int} (z : RZ S m n) : cTk m h j ↔ rTk m h j := by
  have ct := z.ct
  have db := z.db
  unfold cTk rTk StR
  rw [ct.2.2.2.2.1, ct.2.2.2.2.2.1]
  simp only [Int.add_zero]
  constructor
  · rintro ⟨h1, j1, a, b, c, d⟩
    have zh := z.hd h1.1 h1.2
    have zj := z.jg j1.1 j1.2
    rw [z.hb h1.1] at d
    exact ⟨h1, j1, by omega, ⟨by omega, by omega⟩, by omega, d⟩
  · rintro ⟨h1, j1, c, ⟨a, a2⟩, b, d⟩
    have zh := z.hd h1.1 h1.2
    have zj := z.jg j1.1 j1.2
    rw [← z.hb h1.1] at d
    exact ⟨h1, j1, by omega, by omega, by omega, d⟩
theorem rTk_eq {m m' : Mm} {h j : Int} (e : m' 346 = m 346) : rTk m' h j ↔ rTk m h j := by
  unfold rTk StR
  rw [hbR.eq e, e]
theorem zz_take {S : Sh} {m0 : Mm} {K : Int → Int → Mm → Prop} {K1 : Int → Mm → Prop} {n h j : Int} (hS : Shp S) (hz : RZ S m0 n) (hK : ∀ (r : Int) (M : Mm), wp_X12_take S M 336 h j (fun r2 M2 => K r r2 M2) → K1 r M) (hk : ∀ (r : Int) (M1 : Mm), RZ S M1 n → K r r M1) : wp_X11_take S m0 0 h j K1 := by
  have hm := hz.inv
  have ct := hz.ct
  refine zs_take11 hS hm (fun nc => hK _ _ (zs_take12 hS hm (fun _ => hk _ m0 hz) (fun u s M1 M2 c _ _ _ _ => absurd ((tk_iff hz).2 c) nc))) (fun i M1 M2 c kp hm2 f2 y21 y20 => ?_)
  have j2 := hz.1.of hm2
  have e46 : M2 346 = m0 346 := funext (fun p => by rw [f2 346 p (by omega), kp.f (by omega) (by omega)])
  obtain ⟨h1, j1, _⟩ := id c
  refine hK _ _ (zs_take12 hS j2.inv (fun nc => absurd ((rTk_eq e46).2 ((tk_iff hz).1 c)) nc) (fun u s M3 M4 c4 ka hm4 f4 y4 => ?_))
  have zj := hz.jg j1.1 (by omega)
  have cc := ((rTk_eq e46).1 c4)
  have z4 : RZ S M4 n := by
    refine hz.actJ j1.1 (by omega) kp f2 ka (fun c p q => f4 c p (by omega)) hm2 hm4 (fun _ => by rw [y21]; exact c.2.2.2.2.2) (fun F => ?_)
    have G : ∀ p : Int, ¬ p = 35 + 4 * j + 1 → M4 346 p = m0 346 p := fun p q => by rw [f4 346 p (by omega), ka.f (by omega) (by omega), e46]
    refine ⟨?_, ?_, Or.inr (Or.inl ⟨?_, by omega, ?_, ?_⟩)⟩
    · show M4 21 j = _
      rw [f4 21 j (by omega), ka.f (by omega) (by omega), y21, y4]
    · show M4 22 j = _
      rw [F 22 j (by omega) (by omega) (by omega) (by omega) (by omega) (by omega), G _ (by omega)]
      exact zj.2.1
    · show M4 20 j = _
      rw [f4 20 j (by omega), ka.f (by omega) (by omega), y20]
    · rw [G 4 (by omega), y4]; omega
    · rw [G _ (by omega)]; exact cc.2.2.2.1.2
  have e : hbt (M2 21) h 4 = hbR M4 h := by
    rw [← z4.hb h1.1, show M4 21 = M2 21 from funext (fun p => by rw [f4 21 p (by omega), ka.f (by omega) (by omega)])]
  rw [← e]
  exact hk _ M4 z4
theorem pt_iff {S : Sh} {m : Mm} {n h j : Int} (z : RZ S m n) : cPt m h j ↔ rPt m h j := by
  have ct := z.ct
  unfold cPt rPt
  rw [ct.2.2.2.2.1, ct.2.2.2.2.2.1]
  constructor
  · rintro ⟨h1, j1, a, b⟩
    have zh := z.hd h1.1 h1.2
    have zj := z.jg j1.1 j1.2
    exact ⟨h1, j1, by omega, by omega⟩
  · rintro ⟨h1, j1, a, b⟩
    have zh := z.hd h1.1 h1.2
    have zj := z.jg j1.1 j1.2
    exact ⟨h1, j1, by omega, by omega⟩
theorem zz_put {S : Sh} {m0 : Mm} {K : Int → Int → Mm → Prop} {K1 : Int → Mm → Prop} {n h j : Int} (hS : Shp S) (hz : RZ S m0 n) (hK : ∀ (r : Int) (M : Mm), wp_X12_put S M 336 h j (fun r2 M2 => K r r2 M2) → K1 r M) (hk : ∀ (r : Int) (M1 : Mm), RZ S M1 n → K r r M1) : wp_X11_put S m0 0 h j K1 := by
  have hm := hz.inv
  have ct := hz.ct
  refine zs_put11 hS hm (fun nc => hK _ _ (zs_put12 hS hm (fun _ => hk _ m0 hz) (fun u s M1 M2 c _ _ _ _ _ => absurd ((pt_iff hz).2 c) nc))) (fun i M1 M2 c kp hm2 f2 y21 y20 => ?_)
  have j2 := hz.1.of hm2
  have e46 : M2 346 = m0 346 := funext (fun p => by rw [f2 346 p (by omega), kp.f (by omega) (by omega)])
  obtain ⟨h1, j1, _⟩ := id c
  have zh := hz.hd h1.1 (by omega)
  have zj := hz.jg j1.1 (by omega)
  refine hK _ _ (zs_put12 hS j2.inv (fun nc => absurd (show rPt M2 h j by unfold rPt; rw [e46]; exact (pt_iff hz).1 c) nc) (fun u s M3 M4 c4 ka hm4 f4 y4 y5 => ?_))
  unfold rPt at c4
  rw [e46] at c4 y5
  have b17 : 0 ≤ m0 17 h ∧ m0 17 h ≤ 5 := hm.aB_5_1 (c := 16) (by decide) h1.1 (by have := hz.db; omega)
  have z4 : RZ S M4 n := by
    refine hz.actJ j1.1 (by omega) kp f2 ka (fun c p q => f4 c p (by omega)) hm2 hm4 (fun q => absurd q (by rw [y21]; decide)) (fun F => ?_)
    have G : ∀ p : Int, ¬ p = 35 + 4 * j + 1 → ¬ p = 35 + 4 * j → M4 346 p = m0 346 p := fun p q q2 => by rw [f4 346 p (by omega), ka.f (by omega) (by omega), e46]
    refine ⟨?_, ?_, Or.inl ⟨?_, y4, ?_, ?_⟩⟩
    · show M4 21 j = _
      rw [f4 21 j (by omega), ka.f (by omega) (by omega), y21, y4]
    · show M4 22 j = _
      rw [F 22 j (by omega) (by omega) (by omega) (by omega) (by omega) (by omega), G _ (by omega) (by omega)]
      exact zj.2.1
    · show M4 20 j = _
      rw [f4 20 j (by omega), ka.f (by omega) (by omega), y20, y5, zh.1, Int.add_zero]
    · rw [G _ (by omega) (by omega)]; omega
    · rw [y5, Int.add_zero, ← zh.1]; omega
  rw [e46, Int.add_zero, ← zh.1]
  exact hk _ M4 z4
theorem ho_iff {S : Sh} {m : Mm} {n j h : Int} (z : RZ S m n) : cHo m j h ↔ rHo m j h := by
  have ct := z.ct
  have db := z.db
  unfold cHo rHo
  rw [ct.2.2.2.2.1, ct.2.2.2.2.2.1]
  simp only [Int.add_zero]
  have bb : ∀ l : Int, 0 ≤ l → bcF (hbt (m 21) l 4) ≤ 2 := z.2.2.2.1.2.2.2
  constructor
  · rintro ⟨h1, j1, g1, ne, a, b, c, d⟩
    have zh := z.hd h1.1 h1.2
    have zj := z.jg j1.1 j1.2
    have zg := z.hd g1.1 g1.2
    rw [z.hb h1.1] at d
    rw [zj.1] at zg g1 ne a b
    exact ⟨j1, h1, g1.1, ne, by omega, by omega, by omega, by omega⟩
  · rintro ⟨j1, h1, g0, ne, a, b, c, d⟩
    have zh := z.hd h1.1 h1.2
    have zj := z.jg j1.1 j1.2
    have zg := z.hd (i := m 346 (35 + 4 * j + 1)) (by omega) (by omega)
    rw [zj.1]
    have := bb h h1.1
    rw [z.hb h1.1] at this ⊢
    exact ⟨h1, j1, ⟨by omega, by omega⟩, ne, by omega, by omega, by omega, by omega⟩
theorem zz_handOn {S : Sh} {m0 : Mm} {K : Int → Int → Mm → Prop} {K1 : Int → Mm → Prop} {n j h : Int} (hS : Shp S) (hz : RZ S m0 n) (hK : ∀ (r : Int) (M : Mm), wp_X12_handOn S M 336 j h (fun r2 M2 => K r r2 M2) → K1 r M) (hk : ∀ (r : Int) (M1 : Mm), RZ S M1 n → K r r M1) : wp_X11_handOn S m0 0 j h K1 := by
  have hm := hz.inv
  have ct := hz.ct
  refine zs_handOn11 hS hm (fun nc => hK _ _ (zs_handOn12 hS hm (fun _ => hk _ m0 hz) (fun u s M1 M2 c _ _ _ _ => absurd ((ho_iff hz).2 c) nc))) (fun i M1 M2 c kp hm2 f2 y21 y20 => ?_)
  have j2 := hz.1.of hm2
  have e46 : M2 346 = m0 346 := funext (fun p => by rw [f2 346 p (by omega), kp.f (by omega) (by omega)])
  obtain ⟨h1, j1, _⟩ := id c
  have zj := hz.jg j1.1 (by omega)
  refine hK _ _ (zs_handOn12 hS j2.inv (fun nc => absurd (show rHo M2 j h by unfold rHo; rw [hbR.eq e46, e46]; exact (ho_iff hz).1 c) nc) (fun u s M3 M4 c4 ka hm4 f4 y4 => ?_))
  have z4 : RZ S M4 n := by
    refine hz.actJ j1.1 (by omega) kp f2 ka (fun c p q => f4 c p (by omega)) hm2 hm4 (fun _ => by rw [y21]; exact c.2.2.2.2.2.2.2) (fun F => ?_)
    have G : ∀ p : Int, ¬ p = 35 + 4 * j + 1 → M4 346 p = m0 346 p := fun p q => by rw [f4 346 p (by omega), ka.f (by omega) (by omega), e46]
    refine ⟨?_, ?_, Or.inr (Or.inl ⟨?_, by omega, ?_, ?_⟩)⟩
    · show M4 21 j = _
      rw [f4 21 j (by omega), ka.f (by omega) (by omega), y21, y4]
    · show M4 22 j = _
      rw [F 22 j (by omega) (by omega) (by omega) (by omega) (by omega) (by omega), G _ (by omega)]
      exact zj.2.1
    · show M4 20 j = _
      rw [f4 20 j (by omega), ka.f (by omega) (by omega), y20]
    · rw [G 4 (by omega), y4]; omega
    · rw [G _ (by omega)]
      have := c.2.2.1
      omega
  rw [e46, ← zj.1]
  exact hk _ M4 z4
theorem go_iff {S : Sh} {m : Mm} {n h p : Int} (z : RZ S m n) : cGo m h p ↔ rGo m (m 5) h p := by
  have ct := z.ct
  have hm := z.inv
  have b0 := hm.f_346_0
  have db := z.db
  unfold cGo rGo
  rw [ct.1, ct.2.2.2.2.1]
  have k : (0 ≤ h ∧ h < m 346 4) → (0 ≤ p ∧ p < m 346 0) → m 17 h = m 346 (10 + 5 * h + 0) ∧ m 18 h = m 346 (10 + 5 * h + 1) ∧ 0 ≤ m 5 (6 * m 17 h + p) := by
    intro h1 p1
    have zh := z.hd h1.1 h1.2
    have b17 : 0 ≤ m 17 h ∧ m 17 h ≤ 5 := hm.aB_5_1 (c := 16) (by decide) h1.1 (by omega)
    exact ⟨by rw [Int.add_zero]; exact zh.1, zh.2.1, (hm.a_5 (by omega) (by omega)).1⟩
  constructor
  · rintro ⟨h1, p1, a, b⟩
    have q := k h1 p1
    rw [q.1] at b q
    exact ⟨h1, p1, by omega, by omega⟩
  · rintro ⟨h1, p1, a, b⟩
    have q := k h1 p1
    rw [← q.1] at b
    exact ⟨h1, p1, by omega, by omega⟩
theorem zz_go {S : Sh} {m0 : Mm} {K : Int → Int → Mm → Prop} {K1 : Int → Mm → Prop} {n h p : Int} (hS : Shp S) (hz : RZ S m0 n) (hK : ∀ (r : Int) (M : Mm), wp_X12_go S M 336 h p (fun r2 M2 => K r r2 M2) → K1 r M) (hk : ∀ (r : Int) (M1 : Mm), RZ S M1 n → K r r M1) : wp_X11_go S m0 0 h p K1 := by
  have hm := hz.inv
  have ct := hz.ct
  have db := hz.db
  have fb : ∀ i : Int, 0 ≤ i → i < 36 → 0 ≤ m0 5 i ∧ m0 5 i ≤ 5 := fun i i0 i1 => hm.a_5 i0 i1
  refine zs_go11 hS hm (fun nc => hK _ _ (zs_go12 hS hm hz.ro fb (fun _ => hk _ m0 hz) (fun u s M1 M2 c _ _ _ _ _ => absurd ((go_iff hz).2 c) nc))) (fun i M1 M2 c kp hm2 f2 y17 y18 => ?_)
  have j2 := hz.1.of hm2
  have e46 : M2 346 = m0 346 := funext (fun p => by rw [f2 346 p (by omega), kp.f (by omega) (by omega)])
  obtain ⟨h1, p1, _⟩ := id c
  have zh := hz.hd h1.1 (by omega)
  refine hK _ _ (zs_go12 hS j2.inv (by rw [e46]; exact hz.ro) fb (fun nc => absurd (show rGo M2 (m0 5) h p by unfold rGo; rw [e46]; exact (go_iff hz).1 c) nc) (fun u s M3 M4 c4 ka hm4 f4 y4 y5 => ?_))
  rw [e46, Int.add_zero, ← zh.1] at y4
  have F : ∀ c q : Int, ¬ (176 ≤ c ∧ c ≤ 335) → ¬ (c = 0 ∧ (q = 4 ∨ q = 5)) → ¬ (q = h ∧ (c = 17 ∨ c = 18)) → ¬ c = 347 → ¬ (c = 336 ∧ q = 25) → ¬ (c = 346 ∧ (q = 10 + 5 * h + 1 ∨ q = 10 + 5 * h)) → M4 c q = m0 c q := fun c q b1 b2 b3 b4 b5 b6 => by
    rw [f4 c q b6, ka.f b4 b5, f2 c q b3, kp.f b1 b2]
  have b16 : M2 16 0 = m0 16 0 := by rw [f2 16 0 (by omega), kp.f (by omega) (by omega)]
  have z4 : RZ S M4 n := by
    refine hz.act kp (fun c q b1 b2 => f2 c q (by omega)) ka (fun c q b1 b2 b3 => f4 c q (by omega)) j2 hm4 ?_ ?_ (Int.le_refl n) (by rw [b16]; exact hz.2.2.2.1.1)
    · refine hz.sr.hand db.1.2 db.2.1.2 db.2.2.1.2 ⟨h1.1, by omega⟩ (fun c q q1 q2 => F c q (by omega) (by omega) (by omega) (by omega) (by omega) (by omega)) (fun q q1 => F 346 q (by omega) (by omega) (by omega) (by omega) (by omega) (by omega)) ⟨?_, ?_, ?_⟩
      · show M4 17 h = _
        rw [f4 17 h (by omega), ka.f (by omega) (by omega), y17, y5]
      · show M4 18 h = _
        rw [f4 18 h (by omega), ka.f (by omega) (by omega), y18, y4]
      · show M4 19 h = _
        rw [F 19 h (by omega) (by omega) (by omega) (by omega) (by omega) (by omega), F 346 (10 + 5 * h + 2) (by omega) (by omega) (by omega) (by omega) (by omega) (by omega)]
        exact zh.2.2
    · have h2 : H2 (m0 21) := hz.2.2.2.1.2.2.2
      exact h2.move (fun q _ _ => F 21 q (by omega) (by omega) (by omega) (by omega) (by omega) (by omega))
  rw [e46, Int.add_zero, ← zh.1]
  exact hk _ M4 z4
theorem su_iff {S : Sh} {m : Mm} {n w j : Int} (z : RZ S m n) (w1 : 0 ≤ w ∧ w < m 346 6) (j1 : 0 ≤ j ∧ j < m 346 5) : cSu m w j ↔ rSu m w j := by
  have zj := z.jg j1.1 j1.2
  have zw := z.wd w1.1 w1.2
  have hm := z.inv
  have db := z.db
  have bw : 0 ≤ m 12 w := (hm.a_12 w1.1 (by omega)).1
  unfold cSu rSu StR
  rw [Int.add_zero, Int.add_zero, zw.1, zw.2.1, zw.2.2.1, zj.2.1]
  rw [zw.1] at bw
  constructor
  · rintro ⟨a, b, c⟩
    exact ⟨⟨by omega, by omega⟩, by omega, b, c⟩
  · rintro ⟨⟨a1, a2⟩, a3, b, c⟩
    exact ⟨by omega, b, c⟩
theorem zz_meet {S : Sh} {m0 : Mm} {K : Int → Int → Mm → Prop} {K1 : Int → Mm → Prop} {n w : Int} (hS : Shp S) (hz : RZ S m0 n) (hK : ∀ (r : Int) (M : Mm), wp_X12_meet S M 336 w (fun r2 M2 => K r r2 M2) → K1 r M) (hk : ∀ (r : Int) (M1 : Mm), RZ S M1 n → K r r M1) : wp_X11_meet S m0 0 w K1 := by
  have hm := hz.inv
  have ct := hz.ct
  have db := hz.db
  have c5 : m0 4 5 = m0 346 5 := ct.2.2.2.2.2.1
  have c7 : m0 4 7 = m0 346 6 := ct.2.2.2.2.2.2.2
  have mt : ∀ w : Int, 0 ≤ w → w < m0 346 6 → (m0 23 w = -1 ↔ m0 346 (51 + w) < 0) := fun w w0 w1 => by
    have zw := hz.wt w0 w1
    have b := hm.aB_5_7 (c := 16) (by decide) (i := w) w0 (by omega)
    have b2 : -1 ≤ m0 23 w ∧ m0 23 w ≤ 999 := b
    omega
  refine zs_meet11 hS hm (fun nc => hK _ _ (zs_meet12 hS hm (fun _ => hk _ m0 hz) (fun j u s M1 M2 c _ _ _ _ _ _ => ?_))) (fun j i M1 M2 c kp hm2 f2 y23 y16 y20 => ?_)
  · obtain ⟨w1, me, j1, su, fi⟩ := c
    exact absurd ((su_iff hz w1 j1).2 su) (nc (by omega) ((mt w w1.1 w1.2).2 me) j j1.1 (by omega))
  have j2 := hz.1.of hm2
  have e46 : M2 346 = m0 346 := funext (fun p => by rw [f2 346 p (by omega) (by omega) (by omega), kp.f (by omega) (by omega)])
  obtain ⟨w1, me, j1, su, fi⟩ := id c
  rw [c7] at w1
  rw [c5] at j1
  have zj := hz.jg j1.1 j1.2
  have zw := hz.wd w1.1 w1.2
  have su2 := (su_iff hz w1 j1).1 su
  refine hK _ _ (zs_meet12 hS j2.inv (fun nc => ?_) (fun j' u s M3 M4 c4 ka hm4 f4 y3 y51 y8 => ?_))
  · rw [e46] at nc
    refine absurd (show rSu M2 w j by unfold rSu StR; rw [e46]; exact su2) (nc w1 ((mt w w1.1 w1.2).1 me) j j1.1 j1.2)
  unfold rMe rSu StR at c4
  rw [e46] at c4 y51 y8
  obtain ⟨_, _, j1', su', fi'⟩ := c4
  have ej : j' = j := by
    rcases Int.lt_trichotomy j' j with q | q | q
    · exact absurd ((su_iff hz w1 j1').2 su') (fi j' j1'.1 q)
    · exact q
    · exact absurd su2 (fi' j j1.1 q)
  subst ej
  have F : ∀ c p : Int, ¬ (176 ≤ c ∧ c ≤ 335) → ¬ (c = 0 ∧ (p = 4 ∨ p = 5)) → ¬ (c = 23 ∧ p = w) → ¬ (c = 16 ∧ p = 1) → ¬ (c = 20 ∧ p = j') → ¬ c = 347 → ¬ (c = 336 ∧ p = 25) → ¬ (c = 346 ∧ (p = 35 + 4 * j' + 3 ∨ p = 51 + w ∨ p = 8)) → M4 c p = m0 c p := fun c p b1 b2 b3 b4 b5 b6 b7 b8 => by
    rw [f4 c p b8, ka.f b6 b7, f2 c p b3 b4 b5, kp.f b1 b2]
  have E : ∀ c p : Int, 16 ≤ c → c ≤ 23 → M4 c p = M2 c p := fun c p b1 b2 => by rw [f4 c p (by omega), ka.f (by omega) (by omega)]
  have b16 : M2 16 0 = m0 16 0 := by rw [f2 16 0 (by omega) (by omega) (by omega), kp.f (by omega) (by omega)]
  have G : ∀ p : Int, ¬ (p = 35 + 4 * j' + 3 ∨ p = 51 + w ∨ p = 8) → M4 346 p = m0 346 p := fun p q => F 346 p (by omega) (by omega) (by omega) (by omega) (by omega) (by omega) (by omega) (by omega)
  have z4 : RZ S M4 n := by
    refine hz.act kp (fun c p b1 b2 => f2 c p (by omega) (by omega) (by omega)) ka (fun c p b1 b2 b3 => f4 c p (by omega)) j2 hm4 ?_ ?_ (Int.le_refl n) (by rw [b16]; exact hz.2.2.2.1.1)
    · obtain ⟨⟨r1, r2⟩, r3, r4, r5, r6⟩ := hz.sr
      refine ⟨⟨?_, ?_⟩, fun a a0 a1 => ?_, fun a a0 a1 => ?_, fun a a0 a1 => ?_, fun a a0 a1 => ?_⟩
      · rw [F 16 0 (by omega) (by omega) (by omega) (by omega) (by omega) (by omega) (by omega) (by omega), G 7 (by omega)]; exact r1
      · rw [E 16 1 (by omega) (by omega), y16, y8, zw.2.2.2, r2]
      · rw [G 4 (by omega)] at a1
        exact (r3 a a0 a1).same (F _ a (by omega) (by omega) (by omega) (by omega) (by omega) (by omega) (by omega) (by omega)) (F _ a (by omega) (by omega) (by omega) (by omega) (by omega) (by omega) (by omega) (by omega)) (F _ a (by omega) (by omega) (by omega) (by omega) (by omega) (by omega) (by omega) (by omega)) (G _ (by omega)) (G _ (by omega)) (G _ (by omega))
      · rw [G 5 (by omega)] at a1
        by_cases e : a = j'
        · subst e
          refine ⟨?_, ?_, Or.inr (Or.inr ⟨?_, ?_, y3⟩)⟩
          · rw [F _ a (by omega) (by omega) (by omega) (by omega) (by omega) (by omega) (by omega) (by omega), G _ (by omega)]; exact zj.1
          · rw [F _ a (by omega) (by omega) (by omega) (by omega) (by omega) (by omega) (by omega) (by omega), G _ (by omega)]; exact zj.2.1
          · show M4 20 a = _
            rw [E 20 a (by omega) (by omega), y20]
          · rw [G _ (by omega)]
            have := su'.1
            omega
        · exact (r4 a a0 a1).same (F _ a (by omega) (by omega) (by omega) (by omega) (by omega) (by omega) (by omega) (by omega)) (F _ a (by omega) (by omega) (by omega) (by omega) (by omega) (by omega) (by omega) (by omega)) (F _ a (by omega) (by omega) (by omega) (by omega) (by omega) (by omega) (by omega) (by omega)) (G _ (by omega)) (G _ (by omega)) (G _ (by omega)) (G _ (by omega)) (G _ (by omega))
      · rw [G 5 (by omega)] at a0
        rw [F _ a (by omega) (by omega) (by omega) (by omega) (by omega) (by omega) (by omega) (by omega), F _ a (by omega) (by omega) (by omega) (by omega) (by omega) (by omega) (by omega) (by omega)]
        exact r5 a a0 a1
      · rw [G 6 (by omega)] at a1
        by_cases e : a = w
        · subst e
          show M4 23 a = _
          rw [E 23 a (by omega) (by omega), y23, y51]
          exact r1
        · rw [F _ a (by omega) (by omega) (by omega) (by omega) (by omega) (by omega) (by omega) (by omega), G _ (by omega)]
          exact r6 a a0 a1
    · have h2 : H2 (m0 21) := hz.2.2.2.1.2.2.2
      exact h2.move (fun q _ _ => F 21 q (by omega) (by omega) (by omega) (by omega) (by omega) (by omega) (by omega) (by omega))
  exact hk _ M4 z4
