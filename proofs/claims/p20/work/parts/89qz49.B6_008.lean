theorem zz_seed {S : Sh} {m0 : Mm} {K : Int → Int → Mm → Prop} {K1 : Int → Mm → Prop} {u n : Int} (hS : Shp S) (hz : RZ S m0 n) (hu : u ≤ 2147483647) (hK : ∀ (r : Int) (M : Mm), wp_X12_seed S M 336 u (fun r2 M2 => K r r2 M2) → K1 r M) (hk : ∀ (r : Int) (M1 : Mm), RZ S M1 n → K r r M1) : wp_X11_seed S m0 0 u K1 := by
  have hj := hz.1
  refine zj_seed11 hS hj.1 (fun w => ?_) (fun w => hK _ _ (zj_seed12 hS (fun w2 => absurd w2 (by omega)) (fun w2 => hk _ m0 hz)))
  refine hK _ _ ?_
  refine zj_seed12 hS (fun w2 => ?_) (fun w2 => absurd w2 (by omega))
  obtain ⟨m1, em1⟩ : ∃ m1 : Mm, m1 = up m0 3 3 u := ⟨_, rfl⟩
  obtain ⟨m2, em2⟩ : ∃ m2 : Mm, m2 = up m1 336 22 u := ⟨_, rfl⟩
  rw [← em1, ← em2]
  have f1 : ∀ c p : Int, ¬ (c = 3 ∧ p = 3) → m1 c p = m0 c p := fun c p q => (congrFun (congrFun em1 _) _).trans (up_ne q)
  have y1 : m1 3 3 = u := (congrFun (congrFun em1 _) _).trans (up_at _ _ _ _)
  have f2 : ∀ c p : Int, ¬ (c = 336 ∧ p = 22) → m2 c p = m1 c p := fun c p q => (congrFun (congrFun em2 _) _).trans (up_ne q)
  have y2 : m2 336 22 = u := (congrFun (congrFun em2 _) _).trans (up_at _ _ _ _)
  have j1 : Jc S m1 := hj.1.up1 3 3 em1 (okb_of (l := 0) (u := 2147483647) (by decide +kernel) w hu) (by decide) (hj.1.2.2.2.1.eq (fun p q => f1 336 p (by omega)) (fun c p q => f1 c p (by omega))) (by decide)
  have j2 : Jc S m2 := j1.up1 336 22 em2 (okb_of (l := 0) (u := 2147483647) (by decide +kernel) w hu) (by decide) (j1.2.2.2.1.eq (fun p q => f2 336 p (by omega)) (fun c p q => f2 c p (by omega))) (by decide)
  have e : m1 336 22 = m0 3 3 := by rw [f1 336 22 (by omega)]; exact hj.2.1.1.symm
  rw [e]
  refine hk _ m2 (hz.keep ⟨j2, Xr.mk (by rw [y2, f2 3 3 (by omega), y1]) (fun k k0 k1 => ?_), hj.2.2.out (fun c p q1 q2 => (f2 c p q2).trans (f1 c p q1))⟩ (fun c p q => by unfold KZ at q; rw [f2 c p (by omega), f1 c p (by omega)]))
  rw [f2 _ 3 (by omega), f2 _ 9 (by omega), f2 356 k (by omega), f2 357 k (by omega), f1 _ 3 (by omega), f1 _ 9 (by omega), f1 356 k (by omega), f1 357 k (by omega)]
  exact hj.2.1.k k0 k1
