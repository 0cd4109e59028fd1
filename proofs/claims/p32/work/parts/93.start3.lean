section
set_option maxHeartbeats 8000000 in
set_option maxRecDepth 100000 in
theorem i_X12 {S : Sh} {M : Mm} {K : Sh → Mm → Prop} (s0 : Sp 337 S) (m0 : Mp 337 (fun c p => (c = 336 ∧ 0 ≤ p ∧ p ≤ 37 ∧ ¬ p = 1 ∧ ¬ p = 2 ∧ ¬ p = 8 ∧ ¬ p = 9 ∧ ¬ p = 10 ∧ ¬ p = 11 ∧ ¬ p = 12 ∧ ¬ p = 13 ∧ ¬ p = 14 ∧ ¬ p = 16 ∧ ¬ p = 18 ∧ ¬ p = 22 ∧ ¬ p = 23 ∧ ¬ p = 25 ∧ ¬ p = 29 ∧ ¬ p = 33)) M) (h : ∀ (S' : Sh) (M' : Mm), Sp 358 S' → Mp 358 (fun _ _ => False) M' → K S' M') : wp_X12_init S M ((336 : Nat) : Int) K := by
  unfold wp_X12_init
  refine st_newA (n := 337) (ci := 13) (l := 400) (N' := fun c p => (c = 336 ∧ 0 ≤ p ∧ p ≤ 37 ∧ ¬ p = 1 ∧ ¬ p = 2 ∧ ¬ p = 8 ∧ ¬ p = 9 ∧ ¬ p = 10 ∧ ¬ p = 11 ∧ ¬ p = 12 ∧ ¬ p = 13 ∧ ¬ p = 14 ∧ ¬ p = 16 ∧ ¬ p = 18 ∧ ¬ p = 22 ∧ ¬ p = 23 ∧ ¬ p = 25 ∧ ¬ p = 29 ∧ ¬ p = 33)) s0 m0 (by intro c p h; exact h) cel_337.1 cel_337.2.1 (fun p hp => Or.inr (by rw [ini_u cel_337.2.2.2]; rfl)) (fun S1 M1 s1 m1 => ?_)
  refine st_putr (N' := fun c p => (c = 336 ∧ 3 ≤ p ∧ p ≤ 37 ∧ ¬ p = 8 ∧ ¬ p = 9 ∧ ¬ p = 10 ∧ ¬ p = 11 ∧ ¬ p = 12 ∧ ¬ p = 13 ∧ ¬ p = 14 ∧ ¬ p = 16 ∧ ¬ p = 18 ∧ ¬ p = 22 ∧ ¬ p = 23 ∧ ¬ p = 25 ∧ ¬ p = 29 ∧ ¬ p = 33)) 336 0 s1 m1 rfl rfl (by decide) cel_336.1 (by rw [ini_of cel_336.2.2.2]; rfl) (by decide) (by intro c p h; by_cases hq : c = 336 ∧ p = 0; exact Or.inr hq; exact Or.inl (by omega)) (fun M2 m2 => ?_)
  refine st_newA (n := 338) (ci := 14) (l := 2400) (N' := fun c p => (c = 336 ∧ 3 ≤ p ∧ p ≤ 37 ∧ ¬ p = 8 ∧ ¬ p = 9 ∧ ¬ p = 10 ∧ ¬ p = 11 ∧ ¬ p = 12 ∧ ¬ p = 13 ∧ ¬ p = 14 ∧ ¬ p = 16 ∧ ¬ p = 18 ∧ ¬ p = 22 ∧ ¬ p = 23 ∧ ¬ p = 25 ∧ ¬ p = 29 ∧ ¬ p = 33)) s1 m2 (by intro c p h; exact h) cel_338.1 cel_338.2.1 (fun p hp => Or.inr (by rw [ini_u cel_338.2.2.2]; rfl)) (fun S3 M3 s3 m3 => ?_)
  refine st_putr (N' := fun c p => (c = 336 ∧ 4 ≤ p ∧ p ≤ 37 ∧ ¬ p = 8 ∧ ¬ p = 9 ∧ ¬ p = 10 ∧ ¬ p = 11 ∧ ¬ p = 12 ∧ ¬ p = 13 ∧ ¬ p = 14 ∧ ¬ p = 16 ∧ ¬ p = 18 ∧ ¬ p = 22 ∧ ¬ p = 23 ∧ ¬ p = 25 ∧ ¬ p = 29 ∧ ¬ p = 33)) 336 3 s3 m3 rfl rfl (by decide) cel_336.1 (by rw [ini_of cel_336.2.2.2]; rfl) (by decide) (by intro c p h; by_cases hq : c = 336 ∧ p = 3; exact Or.inr hq; exact Or.inl (by omega)) (fun M4 m4 => ?_)
  refine st_newA (n := 339) (ci := 14) (l := 7) (N' := fun c p => (c = 336 ∧ 4 ≤ p ∧ p ≤ 37 ∧ ¬ p = 8 ∧ ¬ p = 9 ∧ ¬ p = 10 ∧ ¬ p = 11 ∧ ¬ p = 12 ∧ ¬ p = 13 ∧ ¬ p = 14 ∧ ¬ p = 16 ∧ ¬ p = 18 ∧ ¬ p = 22 ∧ ¬ p = 23 ∧ ¬ p = 25 ∧ ¬ p = 29 ∧ ¬ p = 33)) s3 m4 (by intro c p h; exact h) cel_339.1 cel_339.2.1 (fun p hp => Or.inr (by rw [ini_u cel_339.2.2.2]; rfl)) (fun S5 M5 s5 m5 => ?_)
  refine st_putr (N' := fun c p => (c = 336 ∧ 5 ≤ p ∧ p ≤ 37 ∧ ¬ p = 8 ∧ ¬ p = 9 ∧ ¬ p = 10 ∧ ¬ p = 11 ∧ ¬ p = 12 ∧ ¬ p = 13 ∧ ¬ p = 14 ∧ ¬ p = 16 ∧ ¬ p = 18 ∧ ¬ p = 22 ∧ ¬ p = 23 ∧ ¬ p = 25 ∧ ¬ p = 29 ∧ ¬ p = 33)) 336 4 s5 m5 rfl rfl (by decide) cel_336.1 (by rw [ini_of cel_336.2.2.2]; rfl) (by decide) (by intro c p h; by_cases hq : c = 336 ∧ p = 4; exact Or.inr hq; exact Or.inl (by omega)) (fun M6 m6 => ?_)
  refine st_newA (n := 340) (ci := 14) (l := 288) (N' := fun c p => (c = 336 ∧ 5 ≤ p ∧ p ≤ 37 ∧ ¬ p = 8 ∧ ¬ p = 9 ∧ ¬ p = 10 ∧ ¬ p = 11 ∧ ¬ p = 12 ∧ ¬ p = 13 ∧ ¬ p = 14 ∧ ¬ p = 16 ∧ ¬ p = 18 ∧ ¬ p = 22 ∧ ¬ p = 23 ∧ ¬ p = 25 ∧ ¬ p = 29 ∧ ¬ p = 33)) s5 m6 (by intro c p h; exact h) cel_340.1 cel_340.2.1 (fun p hp => Or.inr (by rw [ini_u cel_340.2.2.2]; rfl)) (fun S7 M7 s7 m7 => ?_)
  refine st_putr (N' := fun c p => (c = 336 ∧ 6 ≤ p ∧ p ≤ 37 ∧ ¬ p = 8 ∧ ¬ p = 9 ∧ ¬ p = 10 ∧ ¬ p = 11 ∧ ¬ p = 12 ∧ ¬ p = 13 ∧ ¬ p = 14 ∧ ¬ p = 16 ∧ ¬ p = 18 ∧ ¬ p = 22 ∧ ¬ p = 23 ∧ ¬ p = 25 ∧ ¬ p = 29 ∧ ¬ p = 33)) 336 5 s7 m7 rfl rfl (by decide) cel_336.1 (by rw [ini_of cel_336.2.2.2]; rfl) (by decide) (by intro c p h; by_cases hq : c = 336 ∧ p = 5; exact Or.inr hq; exact Or.inl (by omega)) (fun M8 m8 => ?_)
  refine st_newA (n := 341) (ci := 14) (l := 6) (N' := fun c p => (c = 336 ∧ 6 ≤ p ∧ p ≤ 37 ∧ ¬ p = 8 ∧ ¬ p = 9 ∧ ¬ p = 10 ∧ ¬ p = 11 ∧ ¬ p = 12 ∧ ¬ p = 13 ∧ ¬ p = 14 ∧ ¬ p = 16 ∧ ¬ p = 18 ∧ ¬ p = 22 ∧ ¬ p = 23 ∧ ¬ p = 25 ∧ ¬ p = 29 ∧ ¬ p = 33)) s7 m8 (by intro c p h; exact h) cel_341.1 cel_341.2.1 (fun p hp => Or.inr (by rw [ini_u cel_341.2.2.2]; rfl)) (fun S9 M9 s9 m9 => ?_)
  refine st_putr (N' := fun c p => (c = 336 ∧ 7 ≤ p ∧ p ≤ 37 ∧ ¬ p = 8 ∧ ¬ p = 9 ∧ ¬ p = 10 ∧ ¬ p = 11 ∧ ¬ p = 12 ∧ ¬ p = 13 ∧ ¬ p = 14 ∧ ¬ p = 16 ∧ ¬ p = 18 ∧ ¬ p = 22 ∧ ¬ p = 23 ∧ ¬ p = 25 ∧ ¬ p = 29 ∧ ¬ p = 33)) 336 6 s9 m9 rfl rfl (by decide) cel_336.1 (by rw [ini_of cel_336.2.2.2]; rfl) (by decide) (by intro c p h; by_cases hq : c = 336 ∧ p = 6; exact Or.inr hq; exact Or.inl (by omega)) (fun M10 m10 => ?_)
  refine st_newA (n := 342) (ci := 14) (l := 117) (N' := fun c p => (c = 336 ∧ 7 ≤ p ∧ p ≤ 37 ∧ ¬ p = 8 ∧ ¬ p = 9 ∧ ¬ p = 10 ∧ ¬ p = 11 ∧ ¬ p = 12 ∧ ¬ p = 13 ∧ ¬ p = 14 ∧ ¬ p = 16 ∧ ¬ p = 18 ∧ ¬ p = 22 ∧ ¬ p = 23 ∧ ¬ p = 25 ∧ ¬ p = 29 ∧ ¬ p = 33)) s9 m10 (by intro c p h; exact h) cel_342.1 cel_342.2.1 (fun p hp => Or.inr (by rw [ini_u cel_342.2.2.2]; rfl)) (fun S11 M11 s11 m11 => ?_)
  refine st_putr (N' := fun c p => (c = 336 ∧ 15 ≤ p ∧ p ≤ 37 ∧ ¬ p = 16 ∧ ¬ p = 18 ∧ ¬ p = 22 ∧ ¬ p = 23 ∧ ¬ p = 25 ∧ ¬ p = 29 ∧ ¬ p = 33)) 336 7 s11 m11 rfl rfl (by decide) cel_336.1 (by rw [ini_of cel_336.2.2.2]; rfl) (by decide) (by intro c p h; by_cases hq : c = 336 ∧ p = 7; exact Or.inr hq; exact Or.inl (by omega)) (fun M12 m12 => ?_)
  refine st_newA (n := 343) (ci := 14) (l := 400) (N' := fun c p => (c = 336 ∧ 15 ≤ p ∧ p ≤ 37 ∧ ¬ p = 16 ∧ ¬ p = 18 ∧ ¬ p = 22 ∧ ¬ p = 23 ∧ ¬ p = 25 ∧ ¬ p = 29 ∧ ¬ p = 33)) s11 m12 (by intro c p h; exact h) cel_343.1 cel_343.2.1 (fun p hp => Or.inr (by rw [ini_u cel_343.2.2.2]; rfl)) (fun S13 M13 s13 m13 => ?_)
  refine st_putr (N' := fun c p => (c = 336 ∧ 17 ≤ p ∧ p ≤ 37 ∧ ¬ p = 18 ∧ ¬ p = 22 ∧ ¬ p = 23 ∧ ¬ p = 25 ∧ ¬ p = 29 ∧ ¬ p = 33)) 336 15 s13 m13 rfl rfl (by decide) cel_336.1 (by rw [ini_of cel_336.2.2.2]; rfl) (by decide) (by intro c p h; by_cases hq : c = 336 ∧ p = 15; exact Or.inr hq; exact Or.inl (by omega)) (fun M14 m14 => ?_)
  refine st_newA (n := 344) (ci := 16) (l := 64) (N' := fun c p => (c = 336 ∧ 17 ≤ p ∧ p ≤ 37 ∧ ¬ p = 18 ∧ ¬ p = 22 ∧ ¬ p = 23 ∧ ¬ p = 25 ∧ ¬ p = 29 ∧ ¬ p = 33)) s13 m14 (by intro c p h; exact h) cel_344.1 cel_344.2.1 (fun p hp => Or.inr (by rw [ini_u cel_344.2.2.2]; rfl)) (fun S15 M15 s15 m15 => ?_)
  refine st_putr (N' := fun c p => (c = 336 ∧ 19 ≤ p ∧ p ≤ 37 ∧ ¬ p = 22 ∧ ¬ p = 23 ∧ ¬ p = 25 ∧ ¬ p = 29 ∧ ¬ p = 33)) 336 17 s15 m15 rfl rfl (by decide) cel_336.1 (by rw [ini_of cel_336.2.2.2]; rfl) (by decide) (by intro c p h; by_cases hq : c = 336 ∧ p = 17; exact Or.inr hq; exact Or.inl (by omega)) (fun M16 m16 => ?_)
  refine st_newA (n := 345) (ci := 16) (l := 10) (N' := fun c p => (c = 336 ∧ 19 ≤ p ∧ p ≤ 37 ∧ ¬ p = 22 ∧ ¬ p = 23 ∧ ¬ p = 25 ∧ ¬ p = 29 ∧ ¬ p = 33)) s15 m16 (by intro c p h; exact h) cel_345.1 cel_345.2.1 (fun p hp => Or.inr (by rw [ini_u cel_345.2.2.2]; rfl)) (fun S17 M17 s17 m17 => ?_)
  refine st_putr (N' := fun c p => (c = 336 ∧ 20 ≤ p ∧ p ≤ 37 ∧ ¬ p = 22 ∧ ¬ p = 23 ∧ ¬ p = 25 ∧ ¬ p = 29 ∧ ¬ p = 33)) 336 19 s17 m17 rfl rfl (by decide) cel_336.1 (by rw [ini_of cel_336.2.2.2]; rfl) (by decide) (by intro c p h; by_cases hq : c = 336 ∧ p = 19; exact Or.inr hq; exact Or.inl (by omega)) (fun M18 m18 => ?_)
  refine st_newA (n := 346) (ci := 14) (l := 158) (N' := fun c p => (c = 336 ∧ 20 ≤ p ∧ p ≤ 37 ∧ ¬ p = 22 ∧ ¬ p = 23 ∧ ¬ p = 25 ∧ ¬ p = 29 ∧ ¬ p = 33)) s17 m18 (by intro c p h; exact h) cel_346.1 cel_346.2.1 (fun p hp => Or.inr (by rw [ini_u cel_346.2.2.2]; rfl)) (fun S19 M19 s19 m19 => ?_)
  refine st_putr (N' := fun c p => (c = 336 ∧ 21 ≤ p ∧ p ≤ 37 ∧ ¬ p = 22 ∧ ¬ p = 23 ∧ ¬ p = 25 ∧ ¬ p = 29 ∧ ¬ p = 33)) 336 20 s19 m19 rfl rfl (by decide) cel_336.1 (by rw [ini_of cel_336.2.2.2]; rfl) (by decide) (by intro c p h; by_cases hq : c = 336 ∧ p = 20; exact Or.inr hq; exact Or.inl (by omega)) (fun M20 m20 => ?_)
  refine g_C ?_
  refine st_put (N' := fun c p => (c = 336 ∧ 24 ≤ p ∧ p ≤ 37 ∧ ¬ p = 25 ∧ ¬ p = 29 ∧ ¬ p = 33)) 336 21 s19 m20 rfl rfl (by decide) cel_336.1 (by rw [ini_of cel_336.2.2.2]; rfl) (by intro c p h; by_cases hq : c = 336 ∧ p = 21; exact Or.inr hq; exact Or.inl (by omega)) (fun M21 m21 => ?_)
  refine st_newA (n := 347) (ci := 14) (l := 1140) (N' := fun c p => (c = 336 ∧ 24 ≤ p ∧ p ≤ 37 ∧ ¬ p = 25 ∧ ¬ p = 29 ∧ ¬ p = 33)) s19 m21 (by intro c p h; exact h) cel_347.1 cel_347.2.1 (fun p hp => Or.inr (by rw [ini_u cel_347.2.2.2]; rfl)) (fun S22 M22 s22 m22 => ?_)
  refine st_putr (N' := fun c p => (c = 336 ∧ 26 ≤ p ∧ p ≤ 37 ∧ ¬ p = 29 ∧ ¬ p = 33)) 336 24 s22 m22 rfl rfl (by decide) cel_336.1 (by rw [ini_of cel_336.2.2.2]; rfl) (by decide) (by intro c p h; by_cases hq : c = 336 ∧ p = 24; exact Or.inr hq; exact Or.inl (by omega)) (fun M23 m23 => ?_)
  refine st_newA (n := 348) (ci := 14) (l := 57) (N' := fun c p => (c = 336 ∧ 26 ≤ p ∧ p ≤ 37 ∧ ¬ p = 29 ∧ ¬ p = 33)) s22 m23 (by intro c p h; exact h) cel_348.1 cel_348.2.1 (fun p hp => Or.inr (by rw [ini_u cel_348.2.2.2]; rfl)) (fun S24 M24 s24 m24 => ?_)
  refine st_putr (N' := fun c p => (c = 336 ∧ 27 ≤ p ∧ p ≤ 37 ∧ ¬ p = 29 ∧ ¬ p = 33)) 336 26 s24 m24 rfl rfl (by decide) cel_336.1 (by rw [ini_of cel_336.2.2.2]; rfl) (by decide) (by intro c p h; by_cases hq : c = 336 ∧ p = 26; exact Or.inr hq; exact Or.inl (by omega)) (fun M25 m25 => ?_)
  refine st_newA (n := 349) (ci := 14) (l := 6) (N' := fun c p => (c = 336 ∧ 27 ≤ p ∧ p ≤ 37 ∧ ¬ p = 29 ∧ ¬ p = 33)) s24 m25 (by intro c p h; exact h) cel_349.1 cel_349.2.1 (fun p hp => Or.inr (by rw [ini_u cel_349.2.2.2]; rfl)) (fun S26 M26 s26 m26 => ?_)
  refine st_putr (N' := fun c p => (c = 336 ∧ 28 ≤ p ∧ p ≤ 37 ∧ ¬ p = 29 ∧ ¬ p = 33)) 336 27 s26 m26 rfl rfl (by decide) cel_336.1 (by rw [ini_of cel_336.2.2.2]; rfl) (by decide) (by intro c p h; by_cases hq : c = 336 ∧ p = 27; exact Or.inr hq; exact Or.inl (by omega)) (fun M27 m27 => ?_)
  refine st_newA (n := 350) (ci := 14) (l := 6) (N' := fun c p => (c = 336 ∧ 28 ≤ p ∧ p ≤ 37 ∧ ¬ p = 29 ∧ ¬ p = 33)) s26 m27 (by intro c p h; exact h) cel_350.1 cel_350.2.1 (fun p hp => Or.inr (by rw [ini_u cel_350.2.2.2]; rfl)) (fun S28 M28 s28 m28 => ?_)
  refine st_putr (N' := fun c p => (c = 336 ∧ 30 ≤ p ∧ p ≤ 37 ∧ ¬ p = 33)) 336 28 s28 m28 rfl rfl (by decide) cel_336.1 (by rw [ini_of cel_336.2.2.2]; rfl) (by decide) (by intro c p h; by_cases hq : c = 336 ∧ p = 28; exact Or.inr hq; exact Or.inl (by omega)) (fun M29 m29 => ?_)
  refine st_newA (n := 351) (ci := 14) (l := 5) (N' := fun c p => (c = 336 ∧ 30 ≤ p ∧ p ≤ 37 ∧ ¬ p = 33)) s28 m29 (by intro c p h; exact h) cel_351.1 cel_351.2.1 (fun p hp => Or.inr (by rw [ini_u cel_351.2.2.2]; rfl)) (fun S30 M30 s30 m30 => ?_)
  refine st_putr (N' := fun c p => (c = 336 ∧ 31 ≤ p ∧ p ≤ 37 ∧ ¬ p = 33)) 336 30 s30 m30 rfl rfl (by decide) cel_336.1 (by rw [ini_of cel_336.2.2.2]; rfl) (by decide) (by intro c p h; by_cases hq : c = 336 ∧ p = 30; exact Or.inr hq; exact Or.inl (by omega)) (fun M31 m31 => ?_)
  refine st_newA (n := 352) (ci := 14) (l := 3913) (N' := fun c p => (c = 336 ∧ 31 ≤ p ∧ p ≤ 37 ∧ ¬ p = 33)) s30 m31 (by intro c p h; exact h) cel_352.1 cel_352.2.1 (fun p hp => Or.inr (by rw [ini_u cel_352.2.2.2]; rfl)) (fun S32 M32 s32 m32 => ?_)
  refine st_putr (N' := fun c p => (c = 336 ∧ 32 ≤ p ∧ p ≤ 37 ∧ ¬ p = 33)) 336 31 s32 m32 rfl rfl (by decide) cel_336.1 (by rw [ini_of cel_336.2.2.2]; rfl) (by decide) (by intro c p h; by_cases hq : c = 336 ∧ p = 31; exact Or.inr hq; exact Or.inl (by omega)) (fun M33 m33 => ?_)
  refine st_newA (n := 353) (ci := 15) (l := 3913) (N' := fun c p => (c = 336 ∧ 32 ≤ p ∧ p ≤ 37 ∧ ¬ p = 33)) s32 m33 (by intro c p h; exact h) cel_353.1 cel_353.2.1 (fun p hp => Or.inr (by rw [ini_u cel_353.2.2.2]; rfl)) (fun S34 M34 s34 m34 => ?_)
  refine st_putr (N' := fun c p => (c = 336 ∧ 34 ≤ p ∧ p ≤ 37)) 336 32 s34 m34 rfl rfl (by decide) cel_336.1 (by rw [ini_of cel_336.2.2.2]; rfl) (by decide) (by intro c p h; by_cases hq : c = 336 ∧ p = 32; exact Or.inr hq; exact Or.inl (by omega)) (fun M35 m35 => ?_)
  refine st_newA (n := 354) (ci := 14) (l := 632) (N' := fun c p => (c = 336 ∧ 34 ≤ p ∧ p ≤ 37)) s34 m35 (by intro c p h; exact h) cel_354.1 cel_354.2.1 (fun p hp => Or.inr (by rw [ini_u cel_354.2.2.2]; rfl)) (fun S36 M36 s36 m36 => ?_)
  refine st_putr (N' := fun c p => (c = 336 ∧ 35 ≤ p ∧ p ≤ 37)) 336 34 s36 m36 rfl rfl (by decide) cel_336.1 (by rw [ini_of cel_336.2.2.2]; rfl) (by decide) (by intro c p h; by_cases hq : c = 336 ∧ p = 34; exact Or.inr hq; exact Or.inl (by omega)) (fun M37 m37 => ?_)
  refine st_newA (n := 355) (ci := 14) (l := 4) (N' := fun c p => (c = 336 ∧ 35 ≤ p ∧ p ≤ 37)) s36 m37 (by intro c p h; exact h) cel_355.1 cel_355.2.1 (fun p hp => Or.inr (by rw [ini_u cel_355.2.2.2]; rfl)) (fun S38 M38 s38 m38 => ?_)
  refine st_putr (N' := fun c p => (c = 336 ∧ 36 ≤ p ∧ p ≤ 37)) 336 35 s38 m38 rfl rfl (by decide) cel_336.1 (by rw [ini_of cel_336.2.2.2]; rfl) (by decide) (by intro c p h; by_cases hq : c = 336 ∧ p = 35; exact Or.inr hq; exact Or.inl (by omega)) (fun M39 m39 => ?_)
  refine st_newA (n := 356) (ci := 14) (l := 4) (N' := fun c p => (c = 336 ∧ 36 ≤ p ∧ p ≤ 37)) s38 m39 (by intro c p h; exact h) cel_356.1 cel_356.2.1 (fun p hp => Or.inr (by rw [ini_u cel_356.2.2.2]; rfl)) (fun S40 M40 s40 m40 => ?_)
  refine st_putr (N' := fun c p => (c = 336 ∧ 37 ≤ p ∧ p ≤ 37)) 336 36 s40 m40 rfl rfl (by decide) cel_336.1 (by rw [ini_of cel_336.2.2.2]; rfl) (by decide) (by intro c p h; by_cases hq : c = 336 ∧ p = 36; exact Or.inr hq; exact Or.inl (by omega)) (fun M41 m41 => ?_)
  refine st_newA (n := 357) (ci := 15) (l := 4) (N' := fun c p => (c = 336 ∧ 37 ≤ p ∧ p ≤ 37)) s40 m41 (by intro c p h; exact h) cel_357.1 cel_357.2.1 (fun p hp => Or.inr (by rw [ini_u cel_357.2.2.2]; rfl)) (fun S42 M42 s42 m42 => ?_)
  refine st_putr (N' := fun c p => False) 336 37 s42 m42 rfl rfl (by decide) cel_336.1 (by rw [ini_of cel_336.2.2.2]; rfl) (by decide) (by intro c p h; exact Or.inr (by omega)) (fun M43 m43 => ?_)
  exact h _ _ s42 m43
end
section
def ckP (b : Int × Int) (a : Int) : Bool := decide (b.2 < b.1) || (decide (b.1 ≤ a) && decide (a ≤ b.2))
def ckZ : List (Int × Int) → List Int → Bool
  | [], [] => true
  | b :: l, a :: m => ckP b a && ckZ l m
  | _, _ => false
def ckX (x : List (Int × Int) × List Int) : Bool := match x.1, x.2 with
  | [], _ => false
  | b :: l, [a] => ckP b a && l.all (fun b => ckP b a)
  | b :: l, m => ckZ (b :: l) m
theorem ckZ_len : ∀ {l : List (Int × Int)} {m : List Int}, ckZ l m = true → l.length = m.length
  | [], [], _ => rfl
  | b :: l, a :: m, h => by
    unfold ckZ at h
    rw [Bool.and_eq_true] at h
    rw [List.length_cons, List.length_cons, ckZ_len h.2]
  | [], a :: m, h => nomatch h
  | b :: l, [], h => nomatch h
theorem ckZ_at : ∀ {l : List (Int × Int)} {m : List Int}, ckZ l m = true → ∀ q, q < l.length → ckP (l.getD q (1, 0)) (m.getD q 0) = true
  | [], _, _, q, hq => absurd hq (Nat.not_lt_zero q)
  | b :: l, [], h, _, _ => nomatch h
  | b :: l, a :: m, h, q, hq => by
    unfold ckZ at h
    rw [Bool.and_eq_true] at h
    cases q with
    | zero => exact h.1
    | succ q => exact ckZ_at h.2 q (Nat.lt_of_succ_lt_succ hq)
theorem ck_zip : (bT.zip iT).all ckX = true := by decide +kernel
theorem ck_get {α : Type} (l : List α) (d : α) (c : Nat) (h : c < l.length) : l[c]? = some (l.getD c d) := by
  rw [List.getD_eq_getElem?_getD, List.getElem?_eq_getElem h]
  rfl
theorem ck_at {c : Nat} (hc : c < 358) : ckX (bT.getD c [], iT.getD c []) = true := by
  refine List.all_eq_true.mp ck_zip _ (List.mem_of_getElem? (i := c) ?_)
  rw [List.getElem?_zip_eq_some]
  exact ⟨ck_get bT [] c (Nat.lt_of_lt_of_eq hc (by decide +kernel)), ck_get iT [] c (Nat.lt_of_lt_of_eq hc (by decide +kernel))⟩
theorem ckX_spec : ∀ {l : List (Int × Int)} {m : List Int}, ckX (l, m) = true → (0 < l.length ∧ (m.length = 1 ∨ m.length = l.length)) ∧ ∀ q : Nat, q < l.length → ckP (l.getD q (1, 0)) (m.getD (q % m.length) 0) = true
  | [], _, h => nomatch h
  | b :: l, [], h => nomatch (show ckZ (b :: l) [] = true from h)
  | b :: l, [a], h => by
    have h : (ckP b a && l.all (fun b => ckP b a)) = true := h
    rw [Bool.and_eq_true] at h
    refine ⟨⟨Nat.succ_pos _, Or.inl rfl⟩, fun q hq => ?_⟩
    rw [show q % [a].length = 0 from Nat.mod_one q]
    cases q with
    | zero => exact h.1
    | succ q =>
      have hq : q < l.length := Nat.lt_of_succ_lt_succ hq
      show ckP (l.getD q (1, 0)) a = true
      rw [List.getD_eq_getElem?_getD, List.getElem?_eq_getElem hq]
      exact List.all_eq_true.mp h.2 _ (List.getElem_mem hq)
  | b :: l, a :: a' :: m, h => by
    have h : ckZ (b :: l) (a :: a' :: m) = true := h
    have e := ckZ_len h
    refine ⟨⟨Nat.succ_pos _, Or.inr e.symm⟩, fun q hq => ?_⟩
    rw [Nat.mod_eq_of_lt (e ▸ hq)]
    exact ckZ_at h q hq
theorem ck_len : ∀ c : Nat, c < 358 → 0 < (bT.getD c []).length ∧ ((iT.getD c []).length = 1 ∨ (iT.getD c []).length = (bT.getD c []).length) := fun c hc => (ckX_spec (ck_at hc)).1
theorem ck_ini : ∀ c : Nat, c < 358 → ∀ q : Nat, q < (bT.getD c []).length → ((bd c q).2 < (bd c q).1 ∨ ((bd c q).1 ≤ ini c q ∧ ini c q ≤ (bd c q).2)) := by
  intro c hc q hq
  have h := (ckX_spec (ck_at hc)).2 q hq
  unfold bd ini
  rw [Nat.mod_eq_of_lt hq]
  unfold ckP at h
  rw [Bool.or_eq_true, Bool.and_eq_true, decide_eq_true_eq, decide_eq_true_eq, decide_eq_true_eq] at h
  exact h
theorem ini_bd {c p : Nat} (hc : c < 358) : okb (bd c p) (ini c p) := by
  obtain ⟨h1, h2⟩ := ck_len c hc
  have hq := Nat.mod_lt p h1
  have e1 : bd c p = bd c (p % (bT.getD c []).length) := by
    unfold bd
    rw [Nat.mod_mod]
  have e2 : ini c p = ini c (p % (bT.getD c []).length) := by
    unfold ini
    rcases h2 with h2 | h2
    · rw [h2, Nat.mod_one, Nat.mod_one]
    · rw [h2, Nat.mod_mod]
  rw [e1, e2]
  exact ck_ini c hc _ hq
theorem pT_st : pT.getD 336 0 = 38 ∧ pT.getD 357 0 = 4 ∧ pT.getD 356 0 = 4 ∧ pT.getD 30 0 = 6 ∧ pT.getD 55 0 = 12 := by decide +kernel
theorem iT_st : iT.getD 346 [] = [0] ∧ iT.getD 354 [] = [0] ∧ iT.getD 357 [] = [0] ∧ iT.getD 356 [] = [0] ∧ iT.getD 30 [] = [-2] := by decide +kernel
theorem iT_tp : iT.getD 2 [] = [0] ∧ iT.getD 337 [] = [0] ∧ pT.getD 2 0 = 400 ∧ pT.getD 337 0 = 400 := by decide +kernel
theorem start_J {S : Sh} {M : Mm} (s : Sp 358 S) (m : Mp 358 (fun _ _ => False) M) : Shp S ∧ JX S M := by
  have e : ∀ c p : Nat, c < 358 → p < pT.getD c 0 → M c p = ini c p := fun c p hc hp => (m c p hc hp).resolve_left (fun z => z)
  have z46 : ∀ p : Int, 0 ≤ p → p < 158 → M 346 p = 0 := by
    intro p p0 p1
    have q := e 346 p.toNat (by decide) (by rw [pT_said.1]; omega)
    rw [Int.toNat_of_nonneg p0, ini_u iT_st.1] at q
    exact q
  have z54 : ∀ p : Int, 0 ≤ p → p < 632 → M 354 p = 0 := by
    intro p p0 p1
    have q := e 354 p.toNat (by decide) (by rw [pT_said.2.2.1]; omega)
    rw [Int.toNat_of_nonneg p0, ini_u iT_st.2.1] at q
    exact q
  have z57 : ∀ p : Int, 0 ≤ p → p < 4 → M 357 p = 0 := by
    intro p p0 p1
    have q := e 357 p.toNat (by decide) (by rw [pT_st.2.1]; omega)
    rw [Int.toNat_of_nonneg p0, ini_u iT_st.2.2.1] at q
    exact q
  have z56 : ∀ p : Int, 0 ≤ p → p < 4 → M 356 p = 0 := by
    intro p p0 p1
    have q := e 356 p.toNat (by decide) (by rw [pT_st.2.2.1]; omega)
    rw [Int.toNat_of_nonneg p0, ini_u iT_st.2.2.2.1] at q
    exact q
  have z30 : ∀ p : Int, 0 ≤ p → p < 6 → M 30 p = -2 := by
    intro p p0 p1
    have q := e 30 p.toNat (by decide) (by rw [pT_st.2.2.2.1]; omega)
    rw [Int.toNat_of_nonneg p0, ini_u iT_st.2.2.2.2] at q
    exact q
  have g : ∀ (c p : Nat) (v : Int), c < 358 → p < pT.getD c 0 → ini c p = v → M c p = v := fun c p v hc hp hv => (e c p hc hp).trans hv
  have r2 : M 336 2 = 0 := g 336 2 0 (by decide) (by decide +kernel) (by decide +kernel)
  have r21 : M 336 21 = -1 := g 336 21 (-1) (by decide) (by decide +kernel) (by decide +kernel)
  have r25 : M 336 25 = 0 := g 336 25 0 (by decide) (by decide +kernel) (by decide +kernel)
  have r22 : M 336 22 = 0 := g 336 22 0 (by decide) (by decide +kernel) (by decide +kernel)
  refine ⟨⟨by rw [s.1]; decide, s.2⟩, ⟨fun c p hc hp => ?_, fun i i0 i1 => Or.inl (z30 i i0 i1), Or.inl (g 55 1 (-2) (by decide) (by decide +kernel) (by decide +kernel)), ?_, ?_⟩, Xr.mk ?_ (fun k k0 k1 => ?_), Ya.mk ⟨?_, fun p p0 p1 => ?_, ?_⟩ ?_ (fun k k0 k1 => Or.inl (z57 k k0 (by omega)))⟩
  · rw [e c p hc hp]
    exact ini_bd hc
  · unfold Good
    rw [r2, r21]
    exact ⟨by decide, fun k k0 k1 => Or.inl (z57 k k0 k1), by decide, fun t t0 t1 => absurd t1 (by omega)⟩
  · refine ⟨⟨fun a a0 a1 => ?_, fun a a0 a1 => ?_⟩, fun r r0 r1 => ?_, fun k k0 k1 => ⟨fun a a0 a1 => ?_, fun a a0 a1 => ?_⟩⟩
    · rw [z46 4 (by decide) (by decide)] at a1
      omega
    · rw [z46 5 (by decide) (by decide)] at a1
      omega
    · rw [r25] at r1
      omega
    · rw [z54 _ (by omega) (by omega)] at a1
      omega
    · rw [z54 _ (by omega) (by omega)] at a1
      omega
  · rw [r22]
    exact g 3 3 0 (by decide) (by decide +kernel) (by decide +kernel)
  · rw [z56 k k0 (by omega), z57 k k0 (by omega)]
    rcases (show k = 0 ∨ k = 1 ∨ k = 2 ∨ k = 3 by omega) with e | e | e | e <;> subst e
    · exact ⟨g 76 3 0 (by decide) (by decide +kernel) (by decide +kernel), g 76 9 0 (by decide) (by decide +kernel) (by decide +kernel)⟩
    · exact ⟨g 101 3 0 (by decide) (by decide +kernel) (by decide +kernel), g 101 9 0 (by decide) (by decide +kernel) (by decide +kernel)⟩
    · exact ⟨g 126 3 0 (by decide) (by decide +kernel) (by decide +kernel), g 126 9 0 (by decide) (by decide +kernel) (by decide +kernel)⟩
    · exact ⟨g 151 3 0 (by decide) (by decide +kernel) (by decide +kernel), g 151 9 0 (by decide) (by decide +kernel) (by decide +kernel)⟩
  · exact (g 1 1 0 (by decide) (by decide +kernel) (by decide +kernel)).trans (g 336 1 0 (by decide) (by decide +kernel) (by decide +kernel)).symm
  · have q := e 2 p.toNat (by decide) (by rw [iT_tp.2.2.1]; omega)
    rw [Int.toNat_of_nonneg p0, ini_u iT_tp.1] at q
    have q2 := e 337 p.toNat (by decide) (by rw [iT_tp.2.2.2]; omega)
    rw [Int.toNat_of_nonneg p0, ini_u iT_tp.2.1] at q2
    exact q.trans q2.symm
  · rw [r2]
    exact g 0 7 0 (by decide) (by decide +kernel) (by decide +kernel)
  · rw [r21]
    exact g 3 2 (-1) (by decide) (by decide +kernel) (by decide +kernel)
theorem ck_5 : ∀ p : Nat, p < 36 → p < pT.getD 5 0 ∧ ini 5 p = 0 := by decide +kernel
theorem ck_sl : ∀ p : Nat, p < 4 → (p < pT.getD 20 0 ∧ ini 20 p = -1) ∧ (p < pT.getD 21 0 ∧ ini 21 p = -1) := by decide +kernel
theorem ck_to : ∀ k : Nat, k < 4 → 0 < pT.getD (77 + 25 * k) 0 ∧ ini (77 + 25 * k) 0 = 0 := by decide +kernel
theorem ck_im : ∀ k : Nat, k < 4 → (0 < pT.getD (89 + 25 * k) 0 ∧ ini (89 + 25 * k) 0 = 0) ∧ (4 < pT.getD (76 + 25 * k) 0 ∧ ini (76 + 25 * k) 4 = 0) ∧ ∀ p : Nat, p < 4 → p < pT.getD (94 + 25 * k) 0 ∧ ini (94 + 25 * k) p = -1 := by decide +kernel
theorem ck_ps : ∀ r : Nat, r < 20 → (0 < pT.getD (176 + 8 * r) 0 ∧ ini (176 + 8 * r) 0 = 0) ∧ ∀ p : Nat, p < 4 → p < pT.getD (181 + 8 * r) 0 ∧ ini (181 + 8 * r) p = -1 := by decide +kernel
theorem H2_none {f : Int → Int} (h : ∀ p : Int, 0 ≤ p → p < 4 → f p = -1) : H2 f := by
  intro g g0
  have e : hbt f g 4 = 0 := hbt_ext (f := f) (h := g) (n := 0) 4 (fun j j0 j1 => by rw [h j (by omega) (by omega)]; omega)
  rw [e]; decide
theorem start_R {S : Sh} {M : Mm} (s : Sp 358 S) (m : Mp 358 (fun _ _ => False) M) : Shp S ∧ RZ S M 0 := by
  obtain ⟨hS, hj⟩ := start_J s m
  have e : ∀ c p : Nat, c < 358 → p < pT.getD c 0 → M c p = ini c p := fun c p hc hp => (m c p hc hp).resolve_left (fun z => z)
  have g : ∀ (c p : Nat) (v : Int), c < 358 → p < pT.getD c 0 → ini c p = v → M c p = v := fun c p v hc hp hv => (e c p hc hp).trans hv
  have z46 : ∀ p : Int, 0 ≤ p → p < 158 → M 346 p = 0 := by
    intro p p0 p1
    have q := e 346 p.toNat (by decide) (by rw [pT_said.1]; omega)
    rw [Int.toNat_of_nonneg p0, ini_u iT_st.1] at q
    exact q
  have z57 : ∀ p : Int, 0 ≤ p → p < 4 → M 357 p = 0 := by
    intro p p0 p1
    have q := e 357 p.toNat (by decide) (by rw [pT_st.2.1]; omega)
    rw [Int.toNat_of_nonneg p0, ini_u iT_st.2.2.1] at q
    exact q
  have d3 := z46 3 (by decide) (by decide)
  have d4 := z46 4 (by decide) (by decide)
  have d5 := z46 5 (by decide) (by decide)
  have d6 := z46 6 (by decide) (by decide)
  have d9 := z46 9 (by decide) (by decide)
  have d157 := z46 157 (by decide) (by decide)
  have r2 : M 336 2 = 0 := g 336 2 0 (by decide) (by decide +kernel) (by decide +kernel)
  have r25 : M 336 25 = 0 := g 336 25 0 (by decide) (by decide +kernel) (by decide +kernel)
  have z16 : M 16 0 = 0 := g 16 0 0 (by decide) (by decide +kernel) (by decide +kernel)
  have z34 : M 3 4 = 0 := g 3 4 0 (by decide) (by decide +kernel) (by decide +kernel)
  have sl : ∀ p : Int, 0 ≤ p → p < 4 → M 20 p = -1 ∧ M 21 p = -1 := by
    intro p p0 p1
    have q := ck_sl p.toNat (by omega)
    have a := g 20 p.toNat (-1) (by decide) q.1.1 q.1.2
    have b := g 21 p.toNat (-1) (by decide) q.2.1 q.2.2
    rw [Int.toNat_of_nonneg p0] at a b
    exact ⟨a, b⟩
  have db : DB (M 346) := ⟨by omega, by omega, by omega, by omega, by omega⟩
  refine ⟨hS, hj, ⟨⟨⟨db, by omega⟩, ⟨⟨?_, ?_, ?_, ?_, ?_, ?_, ?_, ?_⟩, fun a c a0 a5 c0 c5 => ?_, fun i i0 i1 => absurd i1 (by omega), fun i i0 i1 => absurd i1 (by omega), fun i i0 i1 => absurd i1 (by omega)⟩, ⟨⟨?_, ?_⟩, fun i i0 i1 => absurd i1 (by omega), fun i i0 i1 => absurd i1 (by omega), fun j j0 j1 => sl j (by omega) j1, fun i i0 i1 => absurd i1 (by omega)⟩, ⟨?_, fun i i0 i1 => absurd i1 (by omega)⟩⟩, fun k k0 k1 => Or.inl (z57 k k0 (by omega)), ?_, fun r r0 r1 => absurd r1 (by omega)⟩, ⟨fun k k0 k1 => absurd k1 (by omega), ?_⟩, ⟨⟨?_, fun _ => z34, Wok.none (Int.le_of_eq (g 4 0 0 (by decide) (by decide +kernel) (by decide +kernel))), ?_⟩, fun k k0 k1 => ?_, fun r r0 r1 => ?_, fun k l k0 k1 => absurd k1 (by omega), fun k k0 k1 => Or.inl (z57 k k0 (by omega)), ?_, ?_⟩⟩
  · rw [z46 0 (by decide) (by decide)]; exact g 4 0 0 (by decide) (by decide +kernel) (by decide +kernel)
  · rw [z46 1 (by decide) (by decide)]; exact g 4 1 0 (by decide) (by decide +kernel) (by decide +kernel)
  · rw [z46 2 (by decide) (by decide)]; exact g 4 2 0 (by decide) (by decide +kernel) (by decide +kernel)
  · rw [d3]; exact g 4 3 0 (by decide) (by decide +kernel) (by decide +kernel)
  · rw [d4]; exact g 4 4 0 (by decide) (by decide +kernel) (by decide +kernel)
  · rw [d5]; exact g 4 5 0 (by decide) (by decide +kernel) (by decide +kernel)
  · rw [d9]; exact g 4 6 0 (by decide) (by decide +kernel) (by decide +kernel)
  · rw [d6]; exact g 4 7 0 (by decide) (by decide +kernel) (by decide +kernel)
  · refine Or.inl ⟨?_, fun z => ?_⟩
    · have q := ck_5 (6 * a + c).toNat (by omega)
      have b := g 5 (6 * a + c).toNat 0 (by decide) q.1 q.2
      rw [Int.toNat_of_nonneg (by omega)] at b
      exact b
    · obtain ⟨k, k0, k1, _⟩ := z
      omega
  · exact z16.trans (z46 7 (by decide) (by decide)).symm
  · rw [z46 8 (by decide) (by decide)]; exact g 16 1 0 (by decide) (by decide +kernel) (by decide +kernel)
  · rw [z34, d157]
  · rw [r25]; exact g 0 5 0 (by decide) (by decide +kernel) (by decide +kernel)
  · have a : M 3 2 = -1 := g 3 2 (-1) (by decide) (by decide +kernel) (by decide +kernel)
    have b : M 55 1 = -2 := g 55 1 (-2) (by decide) (by decide +kernel) (by decide +kernel)
    rw [a, b, if_pos (by decide)]
  · show M 16 0 ≤ 0
    omega
  · exact H2_none (fun p p0 p1 => (sl p p0 p1).2)
  · have q := ck_im k.toNat (by omega)
    have a := g (89 + 25 * k.toNat) 0 0 (by omega) q.1.1 q.1.2
    have b := g (76 + 25 * k.toNat) 4 0 (by omega) q.2.1.1 q.2.1.2
    have ea : ((89 + 25 * k.toNat : Nat) : Int) = 76 + 25 * k + 13 := by omega
    have eb : ((76 + 25 * k.toNat : Nat) : Int) = 76 + 25 * k := by omega
    have ec : ((94 + 25 * k.toNat : Nat) : Int) = 76 + 25 * k + 18 := by omega
    rw [ea] at a
    rw [eb] at b
    have qt := ck_to k.toNat (by omega)
    have at0 := g (77 + 25 * k.toNat) 0 0 (by omega) qt.1 qt.2
    have et : ((77 + 25 * k.toNat : Nat) : Int) = 76 + 25 * k + 1 := by omega
    rw [et] at at0
    refine ⟨?_, fun _ => b, Wok.none (Int.le_of_eq at0), H2_none (fun p p0 p1 => ?_)⟩
    · have a : M (76 + 25 * k + 13) 0 = 0 := a
      omega
    · have c := g (94 + 25 * k.toNat) p.toNat (-1) (by omega) (q.2.2 p.toNat (by omega)).1 (q.2.2 p.toNat (by omega)).2
      rw [ec, Int.toNat_of_nonneg p0] at c
      exact c
  · have q := ck_ps r.toNat (by omega)
    have a := g (176 + 8 * r.toNat) 0 0 (by omega) q.1.1 q.1.2
    have ea : ((176 + 8 * r.toNat : Nat) : Int) = 176 + 8 * r := by omega
    have ec : ((181 + 8 * r.toNat : Nat) : Int) = 176 + 8 * r + 5 := by omega
    rw [ea] at a
    refine ⟨?_, H2_none (fun p p0 p1 => ?_)⟩
    · have a : M (176 + 8 * r) 0 = 0 := a
      omega
    · have c := g (181 + 8 * r.toNat) p.toNat (-1) (by omega) (q.2 p.toNat (by omega)).1 (q.2 p.toNat (by omega)).2
      rw [ec, Int.toNat_of_nonneg p0] at c
      exact c
  · exact g 55 2 0 (by decide) (by decide +kernel) (by decide +kernel)
  · exact g 336 23 0 (by decide) (by decide +kernel) (by decide +kernel)
/-- STAGE B: the law over numbers, for every script -/
theorem pure_law (L : Nat) (xs : Nat → Int32) (hL : L ≤ 3072) : wp_start L xs := by
  unfold wp_start
  have s0 : Sp 0 S00 := ⟨rfl, fun a ha => absurd ha (by omega)⟩
  have m0 : Mp 0 (fun _ _ => False) M00 := fun c p hc => absurd hc (by omega)
  refine st_new (n := 0) (ci := 11) (N' := fun c p => (c = 0 ∧ 0 ≤ p ∧ p ≤ 15 ∧ ¬ p = 4 ∧ ¬ p = 5 ∧ ¬ p = 7)) s0 m0 (fun c p h => False.elim h) cel_0.1 cel_0.2.1 (fun p hp => by rw [cel_0.2.2.1] at hp; rcases (show p = 0 ∨ p = 1 ∨ p = 2 ∨ p = 3 ∨ p = 4 ∨ p = 5 ∨ p = 6 ∨ p = 7 ∨ p = 8 ∨ p = 9 ∨ p = 10 ∨ p = 11 ∨ p = 12 ∨ p = 13 ∨ p = 14 ∨ p = 15 by omega) with e | e | e | e | e | e | e | e | e | e | e | e | e | e | e | e <;> subst e <;> first | exact Or.inr (by rw [ini_of cel_0.2.2.2]; rfl) | exact Or.inl (by omega)) (fun S1 M1 s1 m1 => ?_)
  refine ⟨s1.k 0 (by decide) cel_0.1 rfl, ?_⟩
  refine i_X11 s1 m1 (fun Sa Ma sa ma => ?_)
  refine st_new (n := 336) (ci := 12) (N' := fun c p => (c = 336 ∧ 0 ≤ p ∧ p ≤ 37 ∧ ¬ p = 1 ∧ ¬ p = 2 ∧ ¬ p = 8 ∧ ¬ p = 9 ∧ ¬ p = 10 ∧ ¬ p = 11 ∧ ¬ p = 12 ∧ ¬ p = 13 ∧ ¬ p = 14 ∧ ¬ p = 16 ∧ ¬ p = 18 ∧ ¬ p = 22 ∧ ¬ p = 23 ∧ ¬ p = 25 ∧ ¬ p = 29 ∧ ¬ p = 33)) sa ma (fun c p h => False.elim h) cel_336.1 cel_336.2.1 (fun p hp => by rw [cel_336.2.2.1] at hp; rcases (show p = 0 ∨ p = 1 ∨ p = 2 ∨ p = 3 ∨ p = 4 ∨ p = 5 ∨ p = 6 ∨ p = 7 ∨ p = 8 ∨ p = 9 ∨ p = 10 ∨ p = 11 ∨ p = 12 ∨ p = 13 ∨ p = 14 ∨ p = 15 ∨ p = 16 ∨ p = 17 ∨ p = 18 ∨ p = 19 ∨ p = 20 ∨ p = 21 ∨ p = 22 ∨ p = 23 ∨ p = 24 ∨ p = 25 ∨ p = 26 ∨ p = 27 ∨ p = 28 ∨ p = 29 ∨ p = 30 ∨ p = 31 ∨ p = 32 ∨ p = 33 ∨ p = 34 ∨ p = 35 ∨ p = 36 ∨ p = 37 by omega) with e | e | e | e | e | e | e | e | e | e | e | e | e | e | e | e | e | e | e | e | e | e | e | e | e | e | e | e | e | e | e | e | e | e | e | e | e | e <;> subst e <;> first | exact Or.inr (by rw [ini_of cel_336.2.2.2]; rfl) | exact Or.inl (by omega)) (fun S2 M2 s2 m2 => ?_)
  refine ⟨s2.k 336 (by decide) cel_336.1 rfl, ?_⟩
  refine i_X12 s2 m2 (fun Sb Mb sb mb => ?_)
  obtain ⟨hS, hz⟩ := start_R sb mb
  exact ⟨514, law_L hL 514 Sb Mb 0 0 hS hz (by decide) (by decide) (by decide) (by decide)⟩
end
