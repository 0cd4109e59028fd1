/-! STAGE B: numbers alone -/
def kT : List Nat := [11, 7, 13, 4, 8, 14, 14, 14, 14, 14, 14, 14, 14, 14, 14, 14, 5, 14, 14, 14, 14, 14, 14, 14, 14, 14, 14, 14, 17, 18, 19, 0, 8, 14, 14, 14, 14, 14, 14, 14, 14, 14, 14, 14, 5, 14, 14, 14, 14, 14, 14, 14, 3, 14, 14, 10, 16, 1, 2, 14, 14, 14, 14, 6, 14, 14, 9, 14, 5, 14, 14, 14, 14, 14, 14, 14, 4, 8, 14, 14, 14, 14, 14, 14, 14, 14, 14, 14, 14, 5, 14, 14, 14, 14, 14, 14, 14, 14, 14, 14, 14, 4, 8, 14, 14, 14, 14, 14, 14, 14, 14, 14, 14, 14, 5, 14, 14, 14, 14, 14, 14, 14, 14, 14, 14, 14, 4, 8, 14, 14, 14, 14, 14, 14, 14, 14, 14, 14, 14, 5, 14, 14, 14, 14, 14, 14, 14, 14, 14, 14, 14, 4, 8, 14, 14, 14, 14, 14, 14, 14, 14, 14, 14, 14, 5, 14, 14, 14, 14, 14, 14, 14, 14, 14, 14, 14, 5, 14, 14, 14, 14, 14, 14, 14, 5, 14, 14, 14, 14, 14, 14, 14, 5, 14, 14, 14, 14, 14, 14, 14, 5, 14, 14, 14, 14, 14, 14, 14, 5, 14, 14, 14, 14, 14, 14, 14, 5, 14, 14, 14, 14, 14, 14, 14, 5, 14, 14, 14, 14, 14, 14, 14, 5, 14, 14, 14, 14, 14, 14, 14, 5, 14, 14, 14, 14, 14, 14, 14, 5, 14, 14, 14, 14, 14, 14, 14, 5, 14, 14, 14, 14, 14, 14, 14, 5, 14, 14, 14, 14, 14, 14, 14, 5, 14, 14, 14, 14, 14, 14, 14, 5, 14, 14, 14, 14, 14, 14, 14, 5, 14, 14, 14, 14, 14, 14, 14, 5, 14, 14, 14, 14, 14, 14, 14, 5, 14, 14, 14, 14, 14, 14, 14, 5, 14, 14, 14, 14, 14, 14, 14, 5, 14, 14, 14, 14, 14, 14, 14, 5, 14, 14, 14, 14, 14, 14, 14, 12, 13, 14, 14, 14, 14, 14, 14, 16, 16, 14, 14, 14, 14, 14, 14, 14, 15, 14, 14, 14, 15]
def lT : List Nat := [0, 0, 400, 0, 0, 36, 36, 5, 5, 4, 4, 4, 6, 6, 6, 6, 0, 5, 5, 5, 4, 4, 4, 6, 10, 10, 10, 10, 4, 20, 6, 0, 0, 36, 36, 5, 5, 4, 4, 4, 6, 6, 6, 6, 0, 5, 5, 5, 4, 4, 4, 6, 0, 400, 400, 0, 64, 0, 0, 5, 5, 6000, 6000, 0, 112, 3913, 0, 100, 0, 5, 5, 5, 4, 4, 4, 6, 0, 0, 36, 36, 5, 5, 4, 4, 4, 6, 6, 6, 6, 0, 5, 5, 5, 4, 4, 4, 6, 10, 10, 10, 10, 0, 0, 36, 36, 5, 5, 4, 4, 4, 6, 6, 6, 6, 0, 5, 5, 5, 4, 4, 4, 6, 10, 10, 10, 10, 0, 0, 36, 36, 5, 5, 4, 4, 4, 6, 6, 6, 6, 0, 5, 5, 5, 4, 4, 4, 6, 10, 10, 10, 10, 0, 0, 36, 36, 5, 5, 4, 4, 4, 6, 6, 6, 6, 0, 5, 5, 5, 4, 4, 4, 6, 10, 10, 10, 10, 0, 5, 5, 5, 4, 4, 4, 6, 0, 5, 5, 5, 4, 4, 4, 6, 0, 5, 5, 5, 4, 4, 4, 6, 0, 5, 5, 5, 4, 4, 4, 6, 0, 5, 5, 5, 4, 4, 4, 6, 0, 5, 5, 5, 4, 4, 4, 6, 0, 5, 5, 5, 4, 4, 4, 6, 0, 5, 5, 5, 4, 4, 4, 6, 0, 5, 5, 5, 4, 4, 4, 6, 0, 5, 5, 5, 4, 4, 4, 6, 0, 5, 5, 5, 4, 4, 4, 6, 0, 5, 5, 5, 4, 4, 4, 6, 0, 5, 5, 5, 4, 4, 4, 6, 0, 5, 5, 5, 4, 4, 4, 6, 0, 5, 5, 5, 4, 4, 4, 6, 0, 5, 5, 5, 4, 4, 4, 6, 0, 5, 5, 5, 4, 4, 4, 6, 0, 5, 5, 5, 4, 4, 4, 6, 0, 5, 5, 5, 4, 4, 4, 6, 0, 5, 5, 5, 4, 4, 4, 6, 0, 400, 2400, 7, 288, 6, 117, 400, 64, 10, 158, 1140, 57, 6, 6, 5, 3913, 3913, 632, 4, 4, 4]
def Shp (S : Sh) : Prop := 358 ≤ S.1 ∧ ∀ a : Nat, a < 358 → S.2.1 a = kT.getD a 0 ∧ S.2.2 a = lT.getD a 0
theorem Shp.k {S : Sh} (h : Shp S) (a : Nat) {ci : Nat} (ha : a < 358) (hk : kT.getD a 0 = ci) : isK S (a : Int) ci := ⟨Int.natCast_nonneg a, by have := h.1; omega, by rw [(h.2 a ha).1]; exact hk⟩
theorem Shp.l {S : Sh} (h : Shp S) (a : Nat) {n : Nat} (ha : a < 358) (hk : lT.getD a 0 = n) : S.2.2 (a : Int) = n := by rw [(h.2 a ha).2]; exact hk
def RfM (M : Mm) : Prop := M 336 0 = 337 ∧ M 336 3 = 338 ∧ M 336 4 = 339 ∧ M 336 5 = 340 ∧ M 336 6 = 341 ∧ M 336 7 = 342 ∧ M 336 15 = 343 ∧ M 336 17 = 344 ∧ M 336 19 = 345 ∧ M 336 20 = 346 ∧ M 336 24 = 347 ∧ M 336 26 = 348 ∧ M 336 27 = 349 ∧ M 336 28 = 350 ∧ M 336 30 = 351 ∧ M 336 31 = 352 ∧ M 336 32 = 353 ∧ M 336 34 = 354 ∧ M 336 35 = 355 ∧ M 336 36 = 356 ∧ M 336 37 = 357
theorem RfM.f0 {M : Mm} (h : RfM M) : M 336 0 = 337 := h.1
theorem RfM.f3 {M : Mm} (h : RfM M) : M 336 3 = 338 := h.2.1
theorem RfM.f4 {M : Mm} (h : RfM M) : M 336 4 = 339 := h.2.2.1
theorem RfM.f5 {M : Mm} (h : RfM M) : M 336 5 = 340 := h.2.2.2.1
theorem RfM.f6 {M : Mm} (h : RfM M) : M 336 6 = 341 := h.2.2.2.2.1
theorem RfM.f7 {M : Mm} (h : RfM M) : M 336 7 = 342 := h.2.2.2.2.2.1
theorem RfM.f15 {M : Mm} (h : RfM M) : M 336 15 = 343 := h.2.2.2.2.2.2.1
theorem RfM.f17 {M : Mm} (h : RfM M) : M 336 17 = 344 := h.2.2.2.2.2.2.2.1
theorem RfM.f19 {M : Mm} (h : RfM M) : M 336 19 = 345 := h.2.2.2.2.2.2.2.2.1
theorem RfM.f20 {M : Mm} (h : RfM M) : M 336 20 = 346 := h.2.2.2.2.2.2.2.2.2.1
theorem RfM.f24 {M : Mm} (h : RfM M) : M 336 24 = 347 := h.2.2.2.2.2.2.2.2.2.2.1
theorem RfM.f26 {M : Mm} (h : RfM M) : M 336 26 = 348 := h.2.2.2.2.2.2.2.2.2.2.2.1
theorem Shp.k336 {S : Sh} (h : Shp S) : isK S 336 12 := h.k 336 (by decide) (by decide +kernel)
theorem Shp.k337 {S : Sh} (h : Shp S) : isK S 337 13 := h.k 337 (by decide) (by decide +kernel)
theorem Shp.l337 {S : Sh} (h : Shp S) : S.2.2 337 = 400 := h.l 337 (by decide) (by decide +kernel)
theorem Shp.k338 {S : Sh} (h : Shp S) : isK S 338 14 := h.k 338 (by decide) (by decide +kernel)
theorem Shp.l338 {S : Sh} (h : Shp S) : S.2.2 338 = 2400 := h.l 338 (by decide) (by decide +kernel)
theorem Shp.k339 {S : Sh} (h : Shp S) : isK S 339 14 := h.k 339 (by decide) (by decide +kernel)
theorem Shp.l339 {S : Sh} (h : Shp S) : S.2.2 339 = 7 := h.l 339 (by decide) (by decide +kernel)
theorem Shp.k340 {S : Sh} (h : Shp S) : isK S 340 14 := h.k 340 (by decide) (by decide +kernel)
theorem Shp.l340 {S : Sh} (h : Shp S) : S.2.2 340 = 288 := h.l 340 (by decide) (by decide +kernel)
theorem Shp.k341 {S : Sh} (h : Shp S) : isK S 341 14 := h.k 341 (by decide) (by decide +kernel)
theorem Shp.l341 {S : Sh} (h : Shp S) : S.2.2 341 = 6 := h.l 341 (by decide) (by decide +kernel)
theorem Shp.k342 {S : Sh} (h : Shp S) : isK S 342 14 := h.k 342 (by decide) (by decide +kernel)
theorem Shp.l342 {S : Sh} (h : Shp S) : S.2.2 342 = 117 := h.l 342 (by decide) (by decide +kernel)
theorem Shp.k343 {S : Sh} (h : Shp S) : isK S 343 14 := h.k 343 (by decide) (by decide +kernel)
theorem Shp.l343 {S : Sh} (h : Shp S) : S.2.2 343 = 400 := h.l 343 (by decide) (by decide +kernel)
theorem Shp.k344 {S : Sh} (h : Shp S) : isK S 344 16 := h.k 344 (by decide) (by decide +kernel)
theorem Shp.l344 {S : Sh} (h : Shp S) : S.2.2 344 = 64 := h.l 344 (by decide) (by decide +kernel)
theorem Shp.k345 {S : Sh} (h : Shp S) : isK S 345 16 := h.k 345 (by decide) (by decide +kernel)
theorem Shp.l345 {S : Sh} (h : Shp S) : S.2.2 345 = 10 := h.l 345 (by decide) (by decide +kernel)
theorem Shp.k346 {S : Sh} (h : Shp S) : isK S 346 14 := h.k 346 (by decide) (by decide +kernel)
theorem Shp.l346 {S : Sh} (h : Shp S) : S.2.2 346 = 158 := h.l 346 (by decide) (by decide +kernel)
theorem Shp.k347 {S : Sh} (h : Shp S) : isK S 347 14 := h.k 347 (by decide) (by decide +kernel)
theorem Shp.l347 {S : Sh} (h : Shp S) : S.2.2 347 = 1140 := h.l 347 (by decide) (by decide +kernel)
theorem Shp.k348 {S : Sh} (h : Shp S) : isK S 348 14 := h.k 348 (by decide) (by decide +kernel)
theorem Shp.l348 {S : Sh} (h : Shp S) : S.2.2 348 = 57 := h.l 348 (by decide) (by decide +kernel)
theorem Shp.k349 {S : Sh} (h : Shp S) : isK S 349 14 := h.k 349 (by decide) (by decide +kernel)
theorem Shp.l349 {S : Sh} (h : Shp S) : S.2.2 349 = 6 := h.l 349 (by decide) (by decide +kernel)
theorem Shp.k350 {S : Sh} (h : Shp S) : isK S 350 14 := h.k 350 (by decide) (by decide +kernel)
theorem Shp.l350 {S : Sh} (h : Shp S) : S.2.2 350 = 6 := h.l 350 (by decide) (by decide +kernel)
theorem Shp.k351 {S : Sh} (h : Shp S) : isK S 351 14 := h.k 351 (by decide) (by decide +kernel)
theorem Shp.l351 {S : Sh} (h : Shp S) : S.2.2 351 = 5 := h.l 351 (by decide) (by decide +kernel)
theorem Shp.k352 {S : Sh} (h : Shp S) : isK S 352 14 := h.k 352 (by decide) (by decide +kernel)
theorem Shp.l352 {S : Sh} (h : Shp S) : S.2.2 352 = 3913 := h.l 352 (by decide) (by decide +kernel)
theorem Shp.k353 {S : Sh} (h : Shp S) : isK S 353 15 := h.k 353 (by decide) (by decide +kernel)
theorem Shp.l353 {S : Sh} (h : Shp S) : S.2.2 353 = 3913 := h.l 353 (by decide) (by decide +kernel)
theorem Shp.k354 {S : Sh} (h : Shp S) : isK S 354 14 := h.k 354 (by decide) (by decide +kernel)
theorem Shp.l354 {S : Sh} (h : Shp S) : S.2.2 354 = 632 := h.l 354 (by decide) (by decide +kernel)
theorem Shp.k355 {S : Sh} (h : Shp S) : isK S 355 14 := h.k 355 (by decide) (by decide +kernel)
theorem Shp.l355 {S : Sh} (h : Shp S) : S.2.2 355 = 4 := h.l 355 (by decide) (by decide +kernel)
theorem Shp.k356 {S : Sh} (h : Shp S) : isK S 356 14 := h.k 356 (by decide) (by decide +kernel)
theorem Shp.l356 {S : Sh} (h : Shp S) : S.2.2 356 = 4 := h.l 356 (by decide) (by decide +kernel)
theorem Shp.k357 {S : Sh} (h : Shp S) : isK S 357 15 := h.k 357 (by decide) (by decide +kernel)
theorem Shp.l357 {S : Sh} (h : Shp S) : S.2.2 357 = 4 := h.l 357 (by decide) (by decide +kernel)
