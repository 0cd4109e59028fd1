def frC (c : Int) : Bool := !(c == 0 || c == 1 || c == 2 || c == 3 || c == 76 || c == 101 || c == 126 || c == 151 || c == 336 || c == 337 || c == 338 || c == 340 || c == 341 || c == 346 || c == 355 || c == 356 || c == 357)
theorem nsp_c {X : Mm} {c p : Int} (h : frC c = true) : ¬ spX X c p := by
  have h2 : ¬ (c = 0 ∨ c = 1 ∨ c = 2 ∨ c = 3 ∨ c = 76 ∨ c = 101 ∨ c = 126 ∨ c = 151 ∨ c = 336 ∨ c = 337 ∨ c = 338 ∨ c = 340 ∨ c = 341 ∨ c = 346 ∨ c = 355 ∨ c = 356 ∨ c = 357) := by
    intro q
    rcases q with e | e | e | e | e | e | e | e | e | e | e | e | e | e | e | e | e <;> subst e <;> exact absurd h (by decide)
  omega
theorem nsp_q {X : Mm} {c p : Int} (q : c ≠ 30 ∧ c ≠ 55 ∧ ¬ c = 336 ∧ ¬ c = 355 ∧ ¬ c = 356 ∧ ¬ c = 357 ∧ ¬ c = 346 ∧ ¬ c = 347 ∧ ¬ c = 354 ∧ ¬ c = 348 ∧ ¬ c = 338 ∧ ¬ c = 340 ∧ ¬ c = 341 ∧ ¬ c = 337 ∧ ¬ c = 1 ∧ ¬ c = 2 ∧ ¬ c = 0 ∧ ¬ (c = 3 ∨ c = 76 ∨ c = 101 ∨ c = 126 ∨ c = 151)) : ¬ spX X c p := by omega
theorem nq_pl {c : Int} (q : c ≠ 30 ∧ c ≠ 55 ∧ ¬ c = 336 ∧ ¬ c = 355 ∧ ¬ c = 356 ∧ ¬ c = 357 ∧ ¬ c = 346 ∧ ¬ c = 347 ∧ ¬ c = 354 ∧ ¬ c = 348 ∧ ¬ c = 338 ∧ ¬ c = 340 ∧ ¬ c = 341 ∧ ¬ c = 337 ∧ ¬ c = 1 ∧ ¬ c = 2 ∧ ¬ c = 0 ∧ ¬ (c = 3 ∨ c = 76 ∨ c = 101 ∨ c = 126 ∨ c = 151)) : ¬ (c = 346 ∨ c = 347 ∨ c = 354 ∨ c = 336) := by omega
theorem nq_30 {c : Int} (q : c ≠ 30 ∧ c ≠ 55 ∧ ¬ c = 336 ∧ ¬ c = 355 ∧ ¬ c = 356 ∧ ¬ c = 357 ∧ ¬ c = 346 ∧ ¬ c = 347 ∧ ¬ c = 354 ∧ ¬ c = 348 ∧ ¬ c = 338 ∧ ¬ c = 340 ∧ ¬ c = 341 ∧ ¬ c = 337 ∧ ¬ c = 1 ∧ ¬ c = 2 ∧ ¬ c = 0 ∧ ¬ (c = 3 ∨ c = 76 ∨ c = 101 ∨ c = 126 ∨ c = 151)) : ¬ (c = 30 ∨ c = 348) := by omega
theorem nq_p {c p : Int} (q : c ≠ 30 ∧ c ≠ 55 ∧ ¬ c = 336 ∧ ¬ c = 355 ∧ ¬ c = 356 ∧ ¬ c = 357 ∧ ¬ c = 346 ∧ ¬ c = 347 ∧ ¬ c = 354 ∧ ¬ c = 348 ∧ ¬ c = 338 ∧ ¬ c = 340 ∧ ¬ c = 341 ∧ ¬ c = 337 ∧ ¬ c = 1 ∧ ¬ c = 2 ∧ ¬ c = 0 ∧ ¬ (c = 3 ∨ c = 76 ∨ c = 101 ∨ c = 126 ∨ c = 151)) : ¬ (c = 348 ∨ c = 347 ∨ c = 354 ∨ (c = 336 ∧ p = 25)) := by omega
theorem nq_46 {c : Int} (q : c ≠ 30 ∧ c ≠ 55 ∧ ¬ c = 336 ∧ ¬ c = 355 ∧ ¬ c = 356 ∧ ¬ c = 357 ∧ ¬ c = 346 ∧ ¬ c = 347 ∧ ¬ c = 354 ∧ ¬ c = 348 ∧ ¬ c = 338 ∧ ¬ c = 340 ∧ ¬ c = 341 ∧ ¬ c = 337 ∧ ¬ c = 1 ∧ ¬ c = 2 ∧ ¬ c = 0 ∧ ¬ (c = 3 ∨ c = 76 ∨ c = 101 ∨ c = 126 ∨ c = 151)) : ¬ c = 346 := by omega
theorem Shp.k0 {S : Sh} (h : Shp S) : isK S 0 11 := h.k 0 (by decide) (by decide +kernel)
theorem Shp.k1 {S : Sh} (h : Shp S) : isK S 1 7 := h.k 1 (by decide) (by decide +kernel)
theorem Shp.k2 {S : Sh} (h : Shp S) : isK S 2 13 := h.k 2 (by decide) (by decide +kernel)
theorem Shp.l2 {S : Sh} (h : Shp S) : S.2.2 2 = 400 := h.l 2 (by decide) (by decide +kernel)
theorem Shp.k3 {S : Sh} (h : Shp S) : isK S 3 4 := h.k 3 (by decide) (by decide +kernel)
theorem Shp.k4 {S : Sh} (h : Shp S) : isK S 4 8 := h.k 4 (by decide) (by decide +kernel)
theorem Shp.k5 {S : Sh} (h : Shp S) : isK S 5 14 := h.k 5 (by decide) (by decide +kernel)
theorem Shp.l5 {S : Sh} (h : Shp S) : S.2.2 5 = 36 := h.l 5 (by decide) (by decide +kernel)
theorem Shp.k6 {S : Sh} (h : Shp S) : isK S 6 14 := h.k 6 (by decide) (by decide +kernel)
theorem Shp.l6 {S : Sh} (h : Shp S) : S.2.2 6 = 36 := h.l 6 (by decide) (by decide +kernel)
theorem Shp.k7 {S : Sh} (h : Shp S) : isK S 7 14 := h.k 7 (by decide) (by decide +kernel)
theorem Shp.l7 {S : Sh} (h : Shp S) : S.2.2 7 = 5 := h.l 7 (by decide) (by decide +kernel)
theorem Shp.k8 {S : Sh} (h : Shp S) : isK S 8 14 := h.k 8 (by decide) (by decide +kernel)
theorem Shp.l8 {S : Sh} (h : Shp S) : S.2.2 8 = 5 := h.l 8 (by decide) (by decide +kernel)
theorem Shp.k9 {S : Sh} (h : Shp S) : isK S 9 14 := h.k 9 (by decide) (by decide +kernel)
theorem Shp.l9 {S : Sh} (h : Shp S) : S.2.2 9 = 4 := h.l 9 (by decide) (by decide +kernel)
theorem Shp.k10 {S : Sh} (h : Shp S) : isK S 10 14 := h.k 10 (by decide) (by decide +kernel)
theorem Shp.l10 {S : Sh} (h : Shp S) : S.2.2 10 = 4 := h.l 10 (by decide) (by decide +kernel)
theorem Shp.k11 {S : Sh} (h : Shp S) : isK S 11 14 := h.k 11 (by decide) (by decide +kernel)
theorem Shp.l11 {S : Sh} (h : Shp S) : S.2.2 11 = 4 := h.l 11 (by decide) (by decide +kernel)
theorem Shp.k12 {S : Sh} (h : Shp S) : isK S 12 14 := h.k 12 (by decide) (by decide +kernel)
theorem Shp.l12 {S : Sh} (h : Shp S) : S.2.2 12 = 6 := h.l 12 (by decide) (by decide +kernel)
theorem Shp.k13 {S : Sh} (h : Shp S) : isK S 13 14 := h.k 13 (by decide) (by decide +kernel)
theorem Shp.l13 {S : Sh} (h : Shp S) : S.2.2 13 = 6 := h.l 13 (by decide) (by decide +kernel)
theorem Shp.k14 {S : Sh} (h : Shp S) : isK S 14 14 := h.k 14 (by decide) (by decide +kernel)
theorem Shp.l14 {S : Sh} (h : Shp S) : S.2.2 14 = 6 := h.l 14 (by decide) (by decide +kernel)
theorem Shp.k15 {S : Sh} (h : Shp S) : isK S 15 14 := h.k 15 (by decide) (by decide +kernel)
theorem Shp.l15 {S : Sh} (h : Shp S) : S.2.2 15 = 6 := h.l 15 (by decide) (by decide +kernel)
theorem Shp.k16 {S : Sh} (h : Shp S) : isK S 16 5 := h.k 16 (by decide) (by decide +kernel)
theorem Shp.k17 {S : Sh} (h : Shp S) : isK S 17 14 := h.k 17 (by decide) (by decide +kernel)
theorem Shp.l17 {S : Sh} (h : Shp S) : S.2.2 17 = 5 := h.l 17 (by decide) (by decide +kernel)
theorem Shp.k18 {S : Sh} (h : Shp S) : isK S 18 14 := h.k 18 (by decide) (by decide +kernel)
theorem Shp.l18 {S : Sh} (h : Shp S) : S.2.2 18 = 5 := h.l 18 (by decide) (by decide +kernel)
theorem Shp.k19 {S : Sh} (h : Shp S) : isK S 19 14 := h.k 19 (by decide) (by decide +kernel)
theorem Shp.l19 {S : Sh} (h : Shp S) : S.2.2 19 = 5 := h.l 19 (by decide) (by decide +kernel)
theorem Shp.k20 {S : Sh} (h : Shp S) : isK S 20 14 := h.k 20 (by decide) (by decide +kernel)
theorem Shp.l20 {S : Sh} (h : Shp S) : S.2.2 20 = 4 := h.l 20 (by decide) (by decide +kernel)
theorem Shp.k21 {S : Sh} (h : Shp S) : isK S 21 14 := h.k 21 (by decide) (by decide +kernel)
theorem Shp.l21 {S : Sh} (h : Shp S) : S.2.2 21 = 4 := h.l 21 (by decide) (by decide +kernel)
theorem Shp.k22 {S : Sh} (h : Shp S) : isK S 22 14 := h.k 22 (by decide) (by decide +kernel)
theorem Shp.l22 {S : Sh} (h : Shp S) : S.2.2 22 = 4 := h.l 22 (by decide) (by decide +kernel)
theorem Shp.k23 {S : Sh} (h : Shp S) : isK S 23 14 := h.k 23 (by decide) (by decide +kernel)
theorem Shp.l23 {S : Sh} (h : Shp S) : S.2.2 23 = 6 := h.l 23 (by decide) (by decide +kernel)
theorem Shp.k24 {S : Sh} (h : Shp S) : isK S 24 14 := h.k 24 (by decide) (by decide +kernel)
theorem Shp.l24 {S : Sh} (h : Shp S) : S.2.2 24 = 10 := h.l 24 (by decide) (by decide +kernel)
theorem Shp.k25 {S : Sh} (h : Shp S) : isK S 25 14 := h.k 25 (by decide) (by decide +kernel)
theorem Shp.l25 {S : Sh} (h : Shp S) : S.2.2 25 = 10 := h.l 25 (by decide) (by decide +kernel)
theorem Shp.k26 {S : Sh} (h : Shp S) : isK S 26 14 := h.k 26 (by decide) (by decide +kernel)
theorem Shp.l26 {S : Sh} (h : Shp S) : S.2.2 26 = 10 := h.l 26 (by decide) (by decide +kernel)
theorem Shp.k27 {S : Sh} (h : Shp S) : isK S 27 14 := h.k 27 (by decide) (by decide +kernel)
theorem Shp.l27 {S : Sh} (h : Shp S) : S.2.2 27 = 10 := h.l 27 (by decide) (by decide +kernel)
theorem Shp.k28 {S : Sh} (h : Shp S) : isK S 28 17 := h.k 28 (by decide) (by decide +kernel)
theorem Shp.l28 {S : Sh} (h : Shp S) : S.2.2 28 = 4 := h.l 28 (by decide) (by decide +kernel)
theorem Shp.k29 {S : Sh} (h : Shp S) : isK S 29 18 := h.k 29 (by decide) (by decide +kernel)
theorem Shp.l29 {S : Sh} (h : Shp S) : S.2.2 29 = 20 := h.l 29 (by decide) (by decide +kernel)
theorem Shp.k30 {S : Sh} (h : Shp S) : isK S 30 19 := h.k 30 (by decide) (by decide +kernel)
theorem Shp.l30 {S : Sh} (h : Shp S) : S.2.2 30 = 6 := h.l 30 (by decide) (by decide +kernel)
theorem Shp.k31 {S : Sh} (h : Shp S) : isK S 31 0 := h.k 31 (by decide) (by decide +kernel)
theorem Shp.k32 {S : Sh} (h : Shp S) : isK S 32 8 := h.k 32 (by decide) (by decide +kernel)
theorem Shp.k33 {S : Sh} (h : Shp S) : isK S 33 14 := h.k 33 (by decide) (by decide +kernel)
theorem Shp.l33 {S : Sh} (h : Shp S) : S.2.2 33 = 36 := h.l 33 (by decide) (by decide +kernel)
theorem Shp.k34 {S : Sh} (h : Shp S) : isK S 34 14 := h.k 34 (by decide) (by decide +kernel)
theorem Shp.l34 {S : Sh} (h : Shp S) : S.2.2 34 = 36 := h.l 34 (by decide) (by decide +kernel)
theorem Shp.k35 {S : Sh} (h : Shp S) : isK S 35 14 := h.k 35 (by decide) (by decide +kernel)
theorem Shp.l35 {S : Sh} (h : Shp S) : S.2.2 35 = 5 := h.l 35 (by decide) (by decide +kernel)
theorem Shp.k36 {S : Sh} (h : Shp S) : isK S 36 14 := h.k 36 (by decide) (by decide +kernel)
theorem Shp.l36 {S : Sh} (h : Shp S) : S.2.2 36 = 5 := h.l 36 (by decide) (by decide +kernel)
theorem Shp.k37 {S : Sh} (h : Shp S) : isK S 37 14 := h.k 37 (by decide) (by decide +kernel)
theorem Shp.l37 {S : Sh} (h : Shp S) : S.2.2 37 = 4 := h.l 37 (by decide) (by decide +kernel)
theorem Shp.k38 {S : Sh} (h : Shp S) : isK S 38 14 := h.k 38 (by decide) (by decide +kernel)
theorem Shp.l38 {S : Sh} (h : Shp S) : S.2.2 38 = 4 := h.l 38 (by decide) (by decide +kernel)
theorem Shp.k39 {S : Sh} (h : Shp S) : isK S 39 14 := h.k 39 (by decide) (by decide +kernel)
theorem Shp.l39 {S : Sh} (h : Shp S) : S.2.2 39 = 4 := h.l 39 (by decide) (by decide +kernel)
theorem Shp.k40 {S : Sh} (h : Shp S) : isK S 40 14 := h.k 40 (by decide) (by decide +kernel)
theorem Shp.l40 {S : Sh} (h : Shp S) : S.2.2 40 = 6 := h.l 40 (by decide) (by decide +kernel)
theorem Shp.k41 {S : Sh} (h : Shp S) : isK S 41 14 := h.k 41 (by decide) (by decide +kernel)
theorem Shp.l41 {S : Sh} (h : Shp S) : S.2.2 41 = 6 := h.l 41 (by decide) (by decide +kernel)
theorem Shp.k42 {S : Sh} (h : Shp S) : isK S 42 14 := h.k 42 (by decide) (by decide +kernel)
theorem Shp.l42 {S : Sh} (h : Shp S) : S.2.2 42 = 6 := h.l 42 (by decide) (by decide +kernel)
theorem Shp.k43 {S : Sh} (h : Shp S) : isK S 43 14 := h.k 43 (by decide) (by decide +kernel)
theorem Shp.l43 {S : Sh} (h : Shp S) : S.2.2 43 = 6 := h.l 43 (by decide) (by decide +kernel)
theorem Shp.k44 {S : Sh} (h : Shp S) : isK S 44 5 := h.k 44 (by decide) (by decide +kernel)
theorem Shp.k45 {S : Sh} (h : Shp S) : isK S 45 14 := h.k 45 (by decide) (by decide +kernel)
theorem Shp.l45 {S : Sh} (h : Shp S) : S.2.2 45 = 5 := h.l 45 (by decide) (by decide +kernel)
theorem Shp.k46 {S : Sh} (h : Shp S) : isK S 46 14 := h.k 46 (by decide) (by decide +kernel)
theorem Shp.l46 {S : Sh} (h : Shp S) : S.2.2 46 = 5 := h.l 46 (by decide) (by decide +kernel)
theorem Shp.k47 {S : Sh} (h : Shp S) : isK S 47 14 := h.k 47 (by decide) (by decide +kernel)
theorem Shp.l47 {S : Sh} (h : Shp S) : S.2.2 47 = 5 := h.l 47 (by decide) (by decide +kernel)
theorem Shp.k48 {S : Sh} (h : Shp S) : isK S 48 14 := h.k 48 (by decide) (by decide +kernel)
theorem Shp.l48 {S : Sh} (h : Shp S) : S.2.2 48 = 4 := h.l 48 (by decide) (by decide +kernel)
theorem Shp.k49 {S : Sh} (h : Shp S) : isK S 49 14 := h.k 49 (by decide) (by decide +kernel)
theorem Shp.l49 {S : Sh} (h : Shp S) : S.2.2 49 = 4 := h.l 49 (by decide) (by decide +kernel)
theorem Shp.k50 {S : Sh} (h : Shp S) : isK S 50 14 := h.k 50 (by decide) (by decide +kernel)
theorem Shp.l50 {S : Sh} (h : Shp S) : S.2.2 50 = 4 := h.l 50 (by decide) (by decide +kernel)
theorem Shp.k51 {S : Sh} (h : Shp S) : isK S 51 14 := h.k 51 (by decide) (by decide +kernel)
theorem Shp.l51 {S : Sh} (h : Shp S) : S.2.2 51 = 6 := h.l 51 (by decide) (by decide +kernel)
theorem Shp.k52 {S : Sh} (h : Shp S) : isK S 52 3 := h.k 52 (by decide) (by decide +kernel)
theorem Shp.k53 {S : Sh} (h : Shp S) : isK S 53 14 := h.k 53 (by decide) (by decide +kernel)
theorem Shp.l53 {S : Sh} (h : Shp S) : S.2.2 53 = 400 := h.l 53 (by decide) (by decide +kernel)
theorem Shp.k54 {S : Sh} (h : Shp S) : isK S 54 14 := h.k 54 (by decide) (by decide +kernel)
theorem Shp.l54 {S : Sh} (h : Shp S) : S.2.2 54 = 400 := h.l 54 (by decide) (by decide +kernel)
theorem Shp.k55 {S : Sh} (h : Shp S) : isK S 55 10 := h.k 55 (by decide) (by decide +kernel)
theorem Shp.k56 {S : Sh} (h : Shp S) : isK S 56 16 := h.k 56 (by decide) (by decide +kernel)
theorem Shp.l56 {S : Sh} (h : Shp S) : S.2.2 56 = 64 := h.l 56 (by decide) (by decide +kernel)
theorem Shp.k57 {S : Sh} (h : Shp S) : isK S 57 1 := h.k 57 (by decide) (by decide +kernel)
theorem Shp.k58 {S : Sh} (h : Shp S) : isK S 58 2 := h.k 58 (by decide) (by decide +kernel)
theorem Shp.k59 {S : Sh} (h : Shp S) : isK S 59 14 := h.k 59 (by decide) (by decide +kernel)
theorem Shp.l59 {S : Sh} (h : Shp S) : S.2.2 59 = 5 := h.l 59 (by decide) (by decide +kernel)
theorem Shp.k60 {S : Sh} (h : Shp S) : isK S 60 14 := h.k 60 (by decide) (by decide +kernel)
theorem Shp.l60 {S : Sh} (h : Shp S) : S.2.2 60 = 5 := h.l 60 (by decide) (by decide +kernel)
theorem Shp.k61 {S : Sh} (h : Shp S) : isK S 61 14 := h.k 61 (by decide) (by decide +kernel)
theorem Shp.l61 {S : Sh} (h : Shp S) : S.2.2 61 = 6000 := h.l 61 (by decide) (by decide +kernel)
theorem Shp.k62 {S : Sh} (h : Shp S) : isK S 62 14 := h.k 62 (by decide) (by decide +kernel)
theorem Shp.l62 {S : Sh} (h : Shp S) : S.2.2 62 = 6000 := h.l 62 (by decide) (by decide +kernel)
theorem Shp.k63 {S : Sh} (h : Shp S) : isK S 63 6 := h.k 63 (by decide) (by decide +kernel)
theorem Shp.k64 {S : Sh} (h : Shp S) : isK S 64 14 := h.k 64 (by decide) (by decide +kernel)
theorem Shp.l64 {S : Sh} (h : Shp S) : S.2.2 64 = 112 := h.l 64 (by decide) (by decide +kernel)
theorem Shp.k65 {S : Sh} (h : Shp S) : isK S 65 14 := h.k 65 (by decide) (by decide +kernel)
theorem Shp.l65 {S : Sh} (h : Shp S) : S.2.2 65 = 3913 := h.l 65 (by decide) (by decide +kernel)
theorem Shp.k66 {S : Sh} (h : Shp S) : isK S 66 9 := h.k 66 (by decide) (by decide +kernel)
theorem Shp.k67 {S : Sh} (h : Shp S) : isK S 67 14 := h.k 67 (by decide) (by decide +kernel)
theorem Shp.l67 {S : Sh} (h : Shp S) : S.2.2 67 = 100 := h.l 67 (by decide) (by decide +kernel)
theorem Shp.k68 {S : Sh} (h : Shp S) : isK S 68 5 := h.k 68 (by decide) (by decide +kernel)
theorem Shp.k69 {S : Sh} (h : Shp S) : isK S 69 14 := h.k 69 (by decide) (by decide +kernel)
theorem Shp.l69 {S : Sh} (h : Shp S) : S.2.2 69 = 5 := h.l 69 (by decide) (by decide +kernel)
theorem Shp.k70 {S : Sh} (h : Shp S) : isK S 70 14 := h.k 70 (by decide) (by decide +kernel)
theorem Shp.l70 {S : Sh} (h : Shp S) : S.2.2 70 = 5 := h.l 70 (by decide) (by decide +kernel)
theorem Shp.k71 {S : Sh} (h : Shp S) : isK S 71 14 := h.k 71 (by decide) (by decide +kernel)
theorem Shp.l71 {S : Sh} (h : Shp S) : S.2.2 71 = 5 := h.l 71 (by decide) (by decide +kernel)
theorem Shp.k72 {S : Sh} (h : Shp S) : isK S 72 14 := h.k 72 (by decide) (by decide +kernel)
theorem Shp.l72 {S : Sh} (h : Shp S) : S.2.2 72 = 4 := h.l 72 (by decide) (by decide +kernel)
theorem Shp.k73 {S : Sh} (h : Shp S) : isK S 73 14 := h.k 73 (by decide) (by decide +kernel)
theorem Shp.l73 {S : Sh} (h : Shp S) : S.2.2 73 = 4 := h.l 73 (by decide) (by decide +kernel)
theorem Shp.k74 {S : Sh} (h : Shp S) : isK S 74 14 := h.k 74 (by decide) (by decide +kernel)
theorem Shp.l74 {S : Sh} (h : Shp S) : S.2.2 74 = 4 := h.l 74 (by decide) (by decide +kernel)
theorem Inv.f_0_0 {X : Mm} {S : Sh} {M : Mm} (h : Inv X S M) : M 0 0 = 1 := by
  have q := h.rd 0 0 1 1 (by decide) (by decide +kernel) (by decide +kernel) (by decide)
  exact Int.le_antisymm q.2 q.1
theorem Inv.f_0_1 {X : Mm} {S : Sh} {M : Mm} (h : Inv X S M) : M 0 1 = 3 := by
  have q := h.rd 0 1 3 3 (by decide) (by decide +kernel) (by decide +kernel) (by decide)
  exact Int.le_antisymm q.2 q.1
theorem Inv.f_0_2 {X : Mm} {S : Sh} {M : Mm} (h : Inv X S M) : M 0 2 = 28 := by
  have q := h.rd 0 2 28 28 (by decide) (by decide +kernel) (by decide +kernel) (by decide)
  exact Int.le_antisymm q.2 q.1
theorem Inv.f_0_3 {X : Mm} {S : Sh} {M : Mm} (h : Inv X S M) : M 0 3 = 29 := by
  have q := h.rd 0 3 29 29 (by decide) (by decide +kernel) (by decide +kernel) (by decide)
  exact Int.le_antisymm q.2 q.1
theorem Inv.f_0_4 {X : Mm} {S : Sh} {M : Mm} (h : Inv X S M) : 0 ≤ M 0 4 ∧ M 0 4 ≤ 19 := h.rd 0 4 0 19 (by decide) (by decide +kernel) (by decide +kernel) (by decide)
theorem Inv.w_0_4 {X : Mm} {S : Sh} {M : Mm} (h : Inv X S M) {v : Int} (hl : 0 ≤ v) (hu : v ≤ 19) : Inv X S (up M 0 4 v) := h.wl 0 4 (h.pl.put (by decide) (fun e => absurd e (by decide))) (okb_of (by decide +kernel) hl hu) (by omega) (by decide) (by decide)
theorem Inv.f_0_5 {X : Mm} {S : Sh} {M : Mm} (h : Inv X S M) : 0 ≤ M 0 5 ∧ M 0 5 ≤ 20 := h.rd 0 5 0 20 (by decide) (by decide +kernel) (by decide +kernel) (by decide)
theorem Inv.w_0_5 {X : Mm} {S : Sh} {M : Mm} (h : Inv X S M) {v : Int} (hl : 0 ≤ v) (hu : v ≤ 20) : Inv X S (up M 0 5 v) := h.wl 0 5 (h.pl.put (by decide) (fun e => absurd e (by decide))) (okb_of (by decide +kernel) hl hu) (by omega) (by decide) (by decide)
theorem Inv.f_0_6 {X : Mm} {S : Sh} {M : Mm} (h : Inv X S M) : M 0 6 = 30 := by
  have q := h.rd 0 6 30 30 (by decide) (by decide +kernel) (by decide +kernel) (by decide)
  exact Int.le_antisymm q.2 q.1
theorem Inv.f_0_7 {X : Mm} {S : Sh} {M : Mm} (h : Inv X S M) : 0 ≤ M 0 7 ∧ M 0 7 ≤ 6 := h.rd 0 7 0 6 (by decide) (by decide +kernel) (by decide +kernel) (by decide)
theorem Inv.f_0_8 {X : Mm} {S : Sh} {M : Mm} (h : Inv X S M) : M 0 8 = 31 := by
  have q := h.rd 0 8 31 31 (by decide) (by decide +kernel) (by decide +kernel) (by decide)
  exact Int.le_antisymm q.2 q.1
theorem Inv.f_0_9 {X : Mm} {S : Sh} {M : Mm} (h : Inv X S M) : M 0 9 = 52 := by
  have q := h.rd 0 9 52 52 (by decide) (by decide +kernel) (by decide +kernel) (by decide)
  exact Int.le_antisymm q.2 q.1
theorem Inv.f_0_10 {X : Mm} {S : Sh} {M : Mm} (h : Inv X S M) : M 0 10 = 55 := by
  have q := h.rd 0 10 55 55 (by decide) (by decide +kernel) (by decide +kernel) (by decide)
  exact Int.le_antisymm q.2 q.1
theorem Inv.f_0_11 {X : Mm} {S : Sh} {M : Mm} (h : Inv X S M) : M 0 11 = 57 := by
  have q := h.rd 0 11 57 57 (by decide) (by decide +kernel) (by decide +kernel) (by decide)
  exact Int.le_antisymm q.2 q.1
theorem Inv.f_0_12 {X : Mm} {S : Sh} {M : Mm} (h : Inv X S M) : M 0 12 = 58 := by
  have q := h.rd 0 12 58 58 (by decide) (by decide +kernel) (by decide +kernel) (by decide)
  exact Int.le_antisymm q.2 q.1
theorem Inv.f_0_13 {X : Mm} {S : Sh} {M : Mm} (h : Inv X S M) : M 0 13 = 63 := by
  have q := h.rd 0 13 63 63 (by decide) (by decide +kernel) (by decide +kernel) (by decide)
  exact Int.le_antisymm q.2 q.1
theorem Inv.f_0_14 {X : Mm} {S : Sh} {M : Mm} (h : Inv X S M) : M 0 14 = 66 := by
  have q := h.rd 0 14 66 66 (by decide) (by decide +kernel) (by decide +kernel) (by decide)
  exact Int.le_antisymm q.2 q.1
theorem Inv.f_0_15 {X : Mm} {S : Sh} {M : Mm} (h : Inv X S M) : M 0 15 = 68 := by
  have q := h.rd 0 15 68 68 (by decide) (by decide +kernel) (by decide +kernel) (by decide)
  exact Int.le_antisymm q.2 q.1
theorem Inv.f_1_0 {X : Mm} {S : Sh} {M : Mm} (h : Inv X S M) : M 1 0 = 2 := by
  have q := h.rd 1 0 2 2 (by decide) (by decide +kernel) (by decide +kernel) (by decide)
  exact Int.le_antisymm q.2 q.1
theorem Inv.f_1_1 {X : Mm} {S : Sh} {M : Mm} (h : Inv X S M) : 0 ≤ M 1 1 ∧ M 1 1 ≤ 400 := h.rd 1 1 0 400 (by decide) (by decide +kernel) (by decide +kernel) (by decide)
theorem Inv.f_1_2 {X : Mm} {S : Sh} {M : Mm} (h : Inv X S M) : 0 ≤ M 1 2 ∧ M 1 2 ≤ 400 := h.rd 1 2 0 400 (by decide) (by decide +kernel) (by decide +kernel) (by decide)
theorem Inv.w_1_2 {X : Mm} {S : Sh} {M : Mm} (h : Inv X S M) {v : Int} (hl : 0 ≤ v) (hu : v ≤ 400) : Inv X S (up M 1 2 v) := h.wl 1 2 (h.pl.put (by decide) (fun e => absurd e (by decide))) (okb_of (by decide +kernel) hl hu) (by omega) (by decide) (by decide)
theorem Inv.f_1_3 {X : Mm} {S : Sh} {M : Mm} (h : Inv X S M) : 0 ≤ M 1 3 ∧ M 1 3 ≤ 400 := h.rd 1 3 0 400 (by decide) (by decide +kernel) (by decide +kernel) (by decide)
theorem Inv.w_1_3 {X : Mm} {S : Sh} {M : Mm} (h : Inv X S M) {v : Int} (hl : 0 ≤ v) (hu : v ≤ 400) : Inv X S (up M 1 3 v) := h.wl 1 3 (h.pl.put (by decide) (fun e => absurd e (by decide))) (okb_of (by decide +kernel) hl hu) (by omega) (by decide) (by decide)
theorem Inv.f_1_4 {X : Mm} {S : Sh} {M : Mm} (h : Inv X S M) : 0 ≤ M 1 4 ∧ M 1 4 ≤ 4000 := h.rd 1 4 0 4000 (by decide) (by decide +kernel) (by decide +kernel) (by decide)
theorem Inv.w_1_4 {X : Mm} {S : Sh} {M : Mm} (h : Inv X S M) {v : Int} (hl : 0 ≤ v) (hu : v ≤ 4000) : Inv X S (up M 1 4 v) := h.wl 1 4 (h.pl.put (by decide) (fun e => absurd e (by decide))) (okb_of (by decide +kernel) hl hu) (by omega) (by decide) (by decide)
theorem Inv.a_2 {X : Mm} {S : Sh} {M : Mm} (h : Inv X S M) {i : Int} (h0 : 0 ≤ i) (h1 : i < 400) : (-128) ≤ M 2 i ∧ M 2 i ≤ 127 := h.rA (n := 400) (by decide) (by decide +kernel) (by decide +kernel) (by decide) h0 h1
theorem Inv.f_3_0 {X : Mm} {S : Sh} {M : Mm} (h : Inv X S M) : M 3 0 = 4 := by
  have q := h.rd 3 0 4 4 (by decide) (by decide +kernel) (by decide +kernel) (by decide)
  exact Int.le_antisymm q.2 q.1
theorem Inv.f_3_1 {X : Mm} {S : Sh} {M : Mm} (h : Inv X S M) : M 3 1 = 16 := by
  have q := h.rd 3 1 16 16 (by decide) (by decide +kernel) (by decide +kernel) (by decide)
  exact Int.le_antisymm q.2 q.1
theorem Inv.f_3_2 {X : Mm} {S : Sh} {M : Mm} (h : Inv X S M) : (-1) ≤ M 3 2 ∧ M 3 2 ≤ 5 := h.rd 3 2 (-1) 5 (by decide) (by decide +kernel) (by decide +kernel) (by decide)
theorem Inv.f_3_3 {X : Mm} {S : Sh} {M : Mm} (h : Inv X S M) : 0 ≤ M 3 3 ∧ M 3 3 ≤ 2147483647 := h.rd 3 3 0 2147483647 (by decide) (by decide +kernel) (by decide +kernel) (by decide)
theorem Inv.f_3_4 {X : Mm} {S : Sh} {M : Mm} (h : Inv X S M) : 0 ≤ M 3 4 ∧ M 3 4 ≤ 10 := h.rd 3 4 0 10 (by decide) (by decide +kernel) (by decide +kernel) (by decide)
theorem Inv.w_3_4 {X : Mm} {S : Sh} {M : Mm} (h : Inv X S M) {v : Int} (hl : 0 ≤ v) (hu : v ≤ 10) : Inv X S (up M 3 4 v) := h.wl 3 4 (h.pl.put (by decide) (fun e => absurd e (by decide))) (okb_of (by decide +kernel) hl hu) (by omega) (by decide) (by decide)
theorem Inv.f_3_5 {X : Mm} {S : Sh} {M : Mm} (h : Inv X S M) : M 3 5 = 24 := by
  have q := h.rd 3 5 24 24 (by decide) (by decide +kernel) (by decide +kernel) (by decide)
  exact Int.le_antisymm q.2 q.1
theorem Inv.f_3_6 {X : Mm} {S : Sh} {M : Mm} (h : Inv X S M) : M 3 6 = 25 := by
  have q := h.rd 3 6 25 25 (by decide) (by decide +kernel) (by decide +kernel) (by decide)
  exact Int.le_antisymm q.2 q.1
theorem Inv.f_3_7 {X : Mm} {S : Sh} {M : Mm} (h : Inv X S M) : M 3 7 = 26 := by
  have q := h.rd 3 7 26 26 (by decide) (by decide +kernel) (by decide +kernel) (by decide)
  exact Int.le_antisymm q.2 q.1
theorem Inv.f_3_8 {X : Mm} {S : Sh} {M : Mm} (h : Inv X S M) : M 3 8 = 27 := by
  have q := h.rd 3 8 27 27 (by decide) (by decide +kernel) (by decide +kernel) (by decide)
  exact Int.le_antisymm q.2 q.1
theorem Inv.f_4_0 {X : Mm} {S : Sh} {M : Mm} (h : Inv X S M) : 0 ≤ M 4 0 ∧ M 4 0 ≤ 6 := h.rd 4 0 0 6 (by decide) (by decide +kernel) (by decide +kernel) (by decide)
theorem Inv.f_4_1 {X : Mm} {S : Sh} {M : Mm} (h : Inv X S M) : 0 ≤ M 4 1 ∧ M 4 1 ≤ 9 := h.rd 4 1 0 9 (by decide) (by decide +kernel) (by decide +kernel) (by decide)
theorem Inv.f_4_2 {X : Mm} {S : Sh} {M : Mm} (h : Inv X S M) : 0 ≤ M 4 2 ∧ M 4 2 ≤ 99 := h.rd 4 2 0 99 (by decide) (by decide +kernel) (by decide +kernel) (by decide)
theorem Inv.f_4_4 {X : Mm} {S : Sh} {M : Mm} (h : Inv X S M) : 0 ≤ M 4 4 ∧ M 4 4 ≤ 5 := h.rd 4 4 0 5 (by decide) (by decide +kernel) (by decide +kernel) (by decide)
theorem Inv.f_4_5 {X : Mm} {S : Sh} {M : Mm} (h : Inv X S M) : 0 ≤ M 4 5 ∧ M 4 5 ≤ 4 := h.rd 4 5 0 4 (by decide) (by decide +kernel) (by decide +kernel) (by decide)
theorem Inv.f_4_6 {X : Mm} {S : Sh} {M : Mm} (h : Inv X S M) : 0 ≤ M 4 6 ∧ M 4 6 ≤ 4 := h.rd 4 6 0 4 (by decide) (by decide +kernel) (by decide +kernel) (by decide)
theorem Inv.f_4_7 {X : Mm} {S : Sh} {M : Mm} (h : Inv X S M) : 0 ≤ M 4 7 ∧ M 4 7 ≤ 6 := h.rd 4 7 0 6 (by decide) (by decide +kernel) (by decide +kernel) (by decide)
theorem Inv.f_4_8 {X : Mm} {S : Sh} {M : Mm} (h : Inv X S M) : M 4 8 = 5 := by
  have q := h.rd 4 8 5 5 (by decide) (by decide +kernel) (by decide +kernel) (by decide)
  exact Int.le_antisymm q.2 q.1
theorem Inv.f_4_9 {X : Mm} {S : Sh} {M : Mm} (h : Inv X S M) : M 4 9 = 6 := by
  have q := h.rd 4 9 6 6 (by decide) (by decide +kernel) (by decide +kernel) (by decide)
  exact Int.le_antisymm q.2 q.1
theorem Inv.f_4_10 {X : Mm} {S : Sh} {M : Mm} (h : Inv X S M) : M 4 10 = 7 := by
  have q := h.rd 4 10 7 7 (by decide) (by decide +kernel) (by decide +kernel) (by decide)
  exact Int.le_antisymm q.2 q.1
theorem Inv.f_4_11 {X : Mm} {S : Sh} {M : Mm} (h : Inv X S M) : M 4 11 = 8 := by
  have q := h.rd 4 11 8 8 (by decide) (by decide +kernel) (by decide +kernel) (by decide)
  exact Int.le_antisymm q.2 q.1
theorem Inv.f_4_12 {X : Mm} {S : Sh} {M : Mm} (h : Inv X S M) : M 4 12 = 9 := by
  have q := h.rd 4 12 9 9 (by decide) (by decide +kernel) (by decide +kernel) (by decide)
  exact Int.le_antisymm q.2 q.1
theorem Inv.f_4_13 {X : Mm} {S : Sh} {M : Mm} (h : Inv X S M) : M 4 13 = 10 := by
  have q := h.rd 4 13 10 10 (by decide) (by decide +kernel) (by decide +kernel) (by decide)
  exact Int.le_antisymm q.2 q.1
theorem Inv.f_4_14 {X : Mm} {S : Sh} {M : Mm} (h : Inv X S M) : M 4 14 = 11 := by
  have q := h.rd 4 14 11 11 (by decide) (by decide +kernel) (by decide +kernel) (by decide)
  exact Int.le_antisymm q.2 q.1
theorem Inv.f_4_15 {X : Mm} {S : Sh} {M : Mm} (h : Inv X S M) : M 4 15 = 12 := by
  have q := h.rd 4 15 12 12 (by decide) (by decide +kernel) (by decide +kernel) (by decide)
  exact Int.le_antisymm q.2 q.1
theorem Inv.f_4_16 {X : Mm} {S : Sh} {M : Mm} (h : Inv X S M) : M 4 16 = 13 := by
  have q := h.rd 4 16 13 13 (by decide) (by decide +kernel) (by decide +kernel) (by decide)
  exact Int.le_antisymm q.2 q.1
theorem Inv.f_4_17 {X : Mm} {S : Sh} {M : Mm} (h : Inv X S M) : M 4 17 = 14 := by
  have q := h.rd 4 17 14 14 (by decide) (by decide +kernel) (by decide +kernel) (by decide)
  exact Int.le_antisymm q.2 q.1
theorem Inv.f_4_18 {X : Mm} {S : Sh} {M : Mm} (h : Inv X S M) : M 4 18 = 15 := by
  have q := h.rd 4 18 15 15 (by decide) (by decide +kernel) (by decide +kernel) (by decide)
  exact Int.le_antisymm q.2 q.1
theorem Inv.a_5 {X : Mm} {S : Sh} {M : Mm} (h : Inv X S M) {i : Int} (h0 : 0 ≤ i) (h1 : i < 36) : 0 ≤ M 5 i ∧ M 5 i ≤ 5 := h.rA (n := 36) (by decide) (by decide +kernel) (by decide +kernel) (by decide) h0 h1
theorem Inv.a_6 {X : Mm} {S : Sh} {M : Mm} (h : Inv X S M) {i : Int} (h0 : 0 ≤ i) (h1 : i < 36) : 0 ≤ M 6 i ∧ M 6 i ≤ 1000 := h.rA (n := 36) (by decide) (by decide +kernel) (by decide +kernel) (by decide) h0 h1
theorem Inv.a_7 {X : Mm} {S : Sh} {M : Mm} (h : Inv X S M) {i : Int} (h0 : 0 ≤ i) (h1 : i < 5) : 0 ≤ M 7 i ∧ M 7 i ≤ 20 := h.rA (n := 5) (by decide) (by decide +kernel) (by decide +kernel) (by decide) h0 h1
theorem Inv.a_8 {X : Mm} {S : Sh} {M : Mm} (h : Inv X S M) {i : Int} (h0 : 0 ≤ i) (h1 : i < 5) : 0 ≤ M 8 i ∧ M 8 i ≤ 5 := h.rA (n := 5) (by decide) (by decide +kernel) (by decide +kernel) (by decide) h0 h1
theorem Inv.a_9 {X : Mm} {S : Sh} {M : Mm} (h : Inv X S M) {i : Int} (h0 : 0 ≤ i) (h1 : i < 4) : 0 ≤ M 9 i ∧ M 9 i ≤ 99 := h.rA (n := 4) (by decide) (by decide +kernel) (by decide +kernel) (by decide) h0 h1
theorem Inv.a_10 {X : Mm} {S : Sh} {M : Mm} (h : Inv X S M) {i : Int} (h0 : 0 ≤ i) (h1 : i < 4) : 0 ≤ M 10 i ∧ M 10 i ≤ 99 := h.rA (n := 4) (by decide) (by decide +kernel) (by decide +kernel) (by decide) h0 h1
theorem Inv.a_11 {X : Mm} {S : Sh} {M : Mm} (h : Inv X S M) {i : Int} (h0 : 0 ≤ i) (h1 : i < 4) : 0 ≤ M 11 i ∧ M 11 i ≤ 5 := h.rA (n := 4) (by decide) (by decide +kernel) (by decide +kernel) (by decide) h0 h1
theorem Inv.a_12 {X : Mm} {S : Sh} {M : Mm} (h : Inv X S M) {i : Int} (h0 : 0 ≤ i) (h1 : i < 6) : 0 ≤ M 12 i ∧ M 12 i ≤ 5 := h.rA (n := 6) (by decide) (by decide +kernel) (by decide +kernel) (by decide) h0 h1
theorem Inv.a_13 {X : Mm} {S : Sh} {M : Mm} (h : Inv X S M) {i : Int} (h0 : 0 ≤ i) (h1 : i < 6) : 0 ≤ M 13 i ∧ M 13 i ≤ 99 := h.rA (n := 6) (by decide) (by decide +kernel) (by decide +kernel) (by decide) h0 h1
theorem Inv.a_14 {X : Mm} {S : Sh} {M : Mm} (h : Inv X S M) {i : Int} (h0 : 0 ≤ i) (h1 : i < 6) : 0 ≤ M 14 i ∧ M 14 i ≤ 99 := h.rA (n := 6) (by decide) (by decide +kernel) (by decide +kernel) (by decide) h0 h1
theorem Inv.a_15 {X : Mm} {S : Sh} {M : Mm} (h : Inv X S M) {i : Int} (h0 : 0 ≤ i) (h1 : i < 6) : 0 ≤ M 15 i ∧ M 15 i ≤ 50 := h.rA (n := 6) (by decide) (by decide +kernel) (by decide +kernel) (by decide) h0 h1
theorem Inv.f_16_0 {X : Mm} {S : Sh} {M : Mm} (h : Inv X S M) : 0 ≤ M 16 0 ∧ M 16 0 ≤ 999 := h.rd 16 0 0 999 (by decide) (by decide +kernel) (by decide +kernel) (by decide)
theorem Inv.w_16_1 {X : Mm} {S : Sh} {M : Mm} (h : Inv X S M) {v : Int} (hl : (-2147483648) ≤ v) (hu : v ≤ 2147483647) : Inv X S (up M 16 1 v) := h.wl 16 1 (h.pl.put (by decide) (fun e => absurd e (by decide))) (okb_of (by decide +kernel) hl hu) (nsp_c (by decide)) (by decide) (by decide)
theorem Inv.f_16_2 {X : Mm} {S : Sh} {M : Mm} (h : Inv X S M) : M 16 2 = 17 := by
  have q := h.rd 16 2 17 17 (by decide) (by decide +kernel) (by decide +kernel) (by decide)
  exact Int.le_antisymm q.2 q.1
theorem Inv.f_16_3 {X : Mm} {S : Sh} {M : Mm} (h : Inv X S M) : M 16 3 = 18 := by
  have q := h.rd 16 3 18 18 (by decide) (by decide +kernel) (by decide +kernel) (by decide)
  exact Int.le_antisymm q.2 q.1
theorem Inv.f_16_4 {X : Mm} {S : Sh} {M : Mm} (h : Inv X S M) : M 16 4 = 19 := by
  have q := h.rd 16 4 19 19 (by decide) (by decide +kernel) (by decide +kernel) (by decide)
  exact Int.le_antisymm q.2 q.1
theorem Inv.f_16_5 {X : Mm} {S : Sh} {M : Mm} (h : Inv X S M) : M 16 5 = 20 := by
  have q := h.rd 16 5 20 20 (by decide) (by decide +kernel) (by decide +kernel) (by decide)
  exact Int.le_antisymm q.2 q.1
theorem Inv.f_16_6 {X : Mm} {S : Sh} {M : Mm} (h : Inv X S M) : M 16 6 = 21 := by
  have q := h.rd 16 6 21 21 (by decide) (by decide +kernel) (by decide +kernel) (by decide)
  exact Int.le_antisymm q.2 q.1
theorem Inv.f_16_7 {X : Mm} {S : Sh} {M : Mm} (h : Inv X S M) : M 16 7 = 22 := by
  have q := h.rd 16 7 22 22 (by decide) (by decide +kernel) (by decide +kernel) (by decide)
  exact Int.le_antisymm q.2 q.1
theorem Inv.f_16_8 {X : Mm} {S : Sh} {M : Mm} (h : Inv X S M) : M 16 8 = 23 := by
  have q := h.rd 16 8 23 23 (by decide) (by decide +kernel) (by decide +kernel) (by decide)
  exact Int.le_antisymm q.2 q.1
theorem Inv.a_18 {X : Mm} {S : Sh} {M : Mm} (h : Inv X S M) {i : Int} (h0 : 0 ≤ i) (h1 : i < 5) : 0 ≤ M 18 i ∧ M 18 i ≤ 5 := h.rA (n := 5) (by decide) (by decide +kernel) (by decide +kernel) (by decide) h0 h1
theorem Inv.a_19 {X : Mm} {S : Sh} {M : Mm} (h : Inv X S M) {i : Int} (h0 : 0 ≤ i) (h1 : i < 5) : 0 ≤ M 19 i ∧ M 19 i ≤ 99 := h.rA (n := 5) (by decide) (by decide +kernel) (by decide +kernel) (by decide) h0 h1
theorem Inv.a_20 {X : Mm} {S : Sh} {M : Mm} (h : Inv X S M) {i : Int} (h0 : 0 ≤ i) (h1 : i < 4) : (-1) ≤ M 20 i ∧ M 20 i ≤ 5 := h.rA (n := 4) (by decide) (by decide +kernel) (by decide +kernel) (by decide) h0 h1
theorem Inv.a_21 {X : Mm} {S : Sh} {M : Mm} (h : Inv X S M) {i : Int} (h0 : 0 ≤ i) (h1 : i < 4) : (-1) ≤ M 21 i ∧ M 21 i ≤ 4 := h.rA (n := 4) (by decide) (by decide +kernel) (by decide +kernel) (by decide) h0 h1
theorem Inv.a_22 {X : Mm} {S : Sh} {M : Mm} (h : Inv X S M) {i : Int} (h0 : 0 ≤ i) (h1 : i < 4) : 0 ≤ M 22 i ∧ M 22 i ≤ 999 := h.rA (n := 4) (by decide) (by decide +kernel) (by decide +kernel) (by decide) h0 h1
theorem Inv.a_23 {X : Mm} {S : Sh} {M : Mm} (h : Inv X S M) {i : Int} (h0 : 0 ≤ i) (h1 : i < 6) : (-1) ≤ M 23 i ∧ M 23 i ≤ 999 := h.rA (n := 6) (by decide) (by decide +kernel) (by decide +kernel) (by decide) h0 h1
theorem Inv.a_24 {X : Mm} {S : Sh} {M : Mm} (h : Inv X S M) {i : Int} (h0 : 0 ≤ i) (h1 : i < 10) : 0 ≤ M 24 i ∧ M 24 i ≤ 999 := h.rA (n := 10) (by decide) (by decide +kernel) (by decide +kernel) (by decide) h0 h1
theorem Inv.wa_24 {X : Mm} {S : Sh} {M : Mm} (h : Inv X S M) {i v : Int} (h0 : 0 ≤ i) (h1 : i < 10) (hl : 0 ≤ v) (hu : v ≤ 999) : Inv X S (up M 24 i v) := h.wA (0, 999) (by decide) (by decide +kernel) (okb_of rfl hl hu) (nsp_c (by decide)) (by decide) (by decide)
theorem Inv.a_25 {X : Mm} {S : Sh} {M : Mm} (h : Inv X S M) {i : Int} (h0 : 0 ≤ i) (h1 : i < 10) : 0 ≤ M 25 i ∧ M 25 i ≤ 20 := h.rA (n := 10) (by decide) (by decide +kernel) (by decide +kernel) (by decide) h0 h1
theorem Inv.wa_25 {X : Mm} {S : Sh} {M : Mm} (h : Inv X S M) {i v : Int} (h0 : 0 ≤ i) (h1 : i < 10) (hl : 0 ≤ v) (hu : v ≤ 20) : Inv X S (up M 25 i v) := h.wA (0, 20) (by decide) (by decide +kernel) (okb_of rfl hl hu) (nsp_c (by decide)) (by decide) (by decide)
theorem Inv.a_26 {X : Mm} {S : Sh} {M : Mm} (h : Inv X S M) {i : Int} (h0 : 0 ≤ i) (h1 : i < 10) : 0 ≤ M 26 i ∧ M 26 i ≤ 99 := h.rA (n := 10) (by decide) (by decide +kernel) (by decide +kernel) (by decide) h0 h1
theorem Inv.wa_26 {X : Mm} {S : Sh} {M : Mm} (h : Inv X S M) {i v : Int} (h0 : 0 ≤ i) (h1 : i < 10) (hl : 0 ≤ v) (hu : v ≤ 99) : Inv X S (up M 26 i v) := h.wA (0, 99) (by decide) (by decide +kernel) (okb_of rfl hl hu) (nsp_c (by decide)) (by decide) (by decide)
theorem Inv.a_27 {X : Mm} {S : Sh} {M : Mm} (h : Inv X S M) {i : Int} (h0 : 0 ≤ i) (h1 : i < 10) : 0 ≤ M 27 i ∧ M 27 i ≤ 999 := h.rA (n := 10) (by decide) (by decide +kernel) (by decide +kernel) (by decide) h0 h1
theorem Inv.wa_27 {X : Mm} {S : Sh} {M : Mm} (h : Inv X S M) {i v : Int} (h0 : 0 ≤ i) (h1 : i < 10) (hl : 0 ≤ v) (hu : v ≤ 999) : Inv X S (up M 27 i v) := h.wA (0, 999) (by decide) (by decide +kernel) (okb_of rfl hl hu) (nsp_c (by decide)) (by decide) (by decide)
theorem Inv.f_31_0 {X : Mm} {S : Sh} {M : Mm} (h : Inv X S M) : M 31 0 = 1 := by
  have q := h.rd 31 0 1 1 (by decide) (by decide +kernel) (by decide +kernel) (by decide)
  exact Int.le_antisymm q.2 q.1
theorem Inv.f_31_1 {X : Mm} {S : Sh} {M : Mm} (h : Inv X S M) : M 31 1 = 32 := by
  have q := h.rd 31 1 32 32 (by decide) (by decide +kernel) (by decide +kernel) (by decide)
  exact Int.le_antisymm q.2 q.1
theorem Inv.f_31_2 {X : Mm} {S : Sh} {M : Mm} (h : Inv X S M) : M 31 2 = 44 := by
  have q := h.rd 31 2 44 44 (by decide) (by decide +kernel) (by decide +kernel) (by decide)
  exact Int.le_antisymm q.2 q.1
theorem Inv.f_32_0 {X : Mm} {S : Sh} {M : Mm} (h : Inv X S M) : 0 ≤ M 32 0 ∧ M 32 0 ≤ 6 := h.rd 32 0 0 6 (by decide) (by decide +kernel) (by decide +kernel) (by decide)
theorem Inv.w_32_0 {X : Mm} {S : Sh} {M : Mm} (h : Inv X S M) {v : Int} (hl : 0 ≤ v) (hu : v ≤ 6) : Inv X S (up M 32 0 v) := h.wl 32 0 (h.pl.put (by decide) (fun e => absurd e (by decide))) (okb_of (by decide +kernel) hl hu) (nsp_c (by decide)) (by decide) (by decide)
theorem Inv.w_32_1 {X : Mm} {S : Sh} {M : Mm} (h : Inv X S M) {v : Int} (hl : 0 ≤ v) (hu : v ≤ 9) : Inv X S (up M 32 1 v) := h.wl 32 1 (h.pl.put (by decide) (fun e => absurd e (by decide))) (okb_of (by decide +kernel) hl hu) (nsp_c (by decide)) (by decide) (by decide)
theorem Inv.w_32_2 {X : Mm} {S : Sh} {M : Mm} (h : Inv X S M) {v : Int} (hl : 0 ≤ v) (hu : v ≤ 99) : Inv X S (up M 32 2 v) := h.wl 32 2 (h.pl.put (by decide) (fun e => absurd e (by decide))) (okb_of (by decide +kernel) hl hu) (nsp_c (by decide)) (by decide) (by decide)
theorem Inv.f_32_3 {X : Mm} {S : Sh} {M : Mm} (h : Inv X S M) : 0 ≤ M 32 3 ∧ M 32 3 ≤ 8 := h.rd 32 3 0 8 (by decide) (by decide +kernel) (by decide +kernel) (by decide)
theorem Inv.w_32_3 {X : Mm} {S : Sh} {M : Mm} (h : Inv X S M) {v : Int} (hl : 0 ≤ v) (hu : v ≤ 8) : Inv X S (up M 32 3 v) := h.wl 32 3 (h.pl.put (by decide) (fun e => absurd e (by decide))) (okb_of (by decide +kernel) hl hu) (nsp_c (by decide)) (by decide) (by decide)
theorem Inv.f_32_4 {X : Mm} {S : Sh} {M : Mm} (h : Inv X S M) : 0 ≤ M 32 4 ∧ M 32 4 ≤ 5 := h.rd 32 4 0 5 (by decide) (by decide +kernel) (by decide +kernel) (by decide)
theorem Inv.w_32_4 {X : Mm} {S : Sh} {M : Mm} (h : Inv X S M) {v : Int} (hl : 0 ≤ v) (hu : v ≤ 5) : Inv X S (up M 32 4 v) := h.wl 32 4 (h.pl.put (by decide) (fun e => absurd e (by decide))) (okb_of (by decide +kernel) hl hu) (nsp_c (by decide)) (by decide) (by decide)
theorem Inv.f_32_5 {X : Mm} {S : Sh} {M : Mm} (h : Inv X S M) : 0 ≤ M 32 5 ∧ M 32 5 ≤ 4 := h.rd 32 5 0 4 (by decide) (by decide +kernel) (by decide +kernel) (by decide)
theorem Inv.w_32_5 {X : Mm} {S : Sh} {M : Mm} (h : Inv X S M) {v : Int} (hl : 0 ≤ v) (hu : v ≤ 4) : Inv X S (up M 32 5 v) := h.wl 32 5 (h.pl.put (by decide) (fun e => absurd e (by decide))) (okb_of (by decide +kernel) hl hu) (nsp_c (by decide)) (by decide) (by decide)
theorem Inv.f_32_6 {X : Mm} {S : Sh} {M : Mm} (h : Inv X S M) : 0 ≤ M 32 6 ∧ M 32 6 ≤ 4 := h.rd 32 6 0 4 (by decide) (by decide +kernel) (by decide +kernel) (by decide)
theorem Inv.w_32_6 {X : Mm} {S : Sh} {M : Mm} (h : Inv X S M) {v : Int} (hl : 0 ≤ v) (hu : v ≤ 4) : Inv X S (up M 32 6 v) := h.wl 32 6 (h.pl.put (by decide) (fun e => absurd e (by decide))) (okb_of (by decide +kernel) hl hu) (nsp_c (by decide)) (by decide) (by decide)
theorem Inv.f_32_7 {X : Mm} {S : Sh} {M : Mm} (h : Inv X S M) : 0 ≤ M 32 7 ∧ M 32 7 ≤ 6 := h.rd 32 7 0 6 (by decide) (by decide +kernel) (by decide +kernel) (by decide)
theorem Inv.w_32_7 {X : Mm} {S : Sh} {M : Mm} (h : Inv X S M) {v : Int} (hl : 0 ≤ v) (hu : v ≤ 6) : Inv X S (up M 32 7 v) := h.wl 32 7 (h.pl.put (by decide) (fun e => absurd e (by decide))) (okb_of (by decide +kernel) hl hu) (nsp_c (by decide)) (by decide) (by decide)
theorem Inv.f_32_8 {X : Mm} {S : Sh} {M : Mm} (h : Inv X S M) : M 32 8 = 33 := by
  have q := h.rd 32 8 33 33 (by decide) (by decide +kernel) (by decide +kernel) (by decide)
  exact Int.le_antisymm q.2 q.1
theorem Inv.f_32_9 {X : Mm} {S : Sh} {M : Mm} (h : Inv X S M) : M 32 9 = 34 := by
  have q := h.rd 32 9 34 34 (by decide) (by decide +kernel) (by decide +kernel) (by decide)
  exact Int.le_antisymm q.2 q.1
theorem Inv.f_32_10 {X : Mm} {S : Sh} {M : Mm} (h : Inv X S M) : M 32 10 = 35 := by
  have q := h.rd 32 10 35 35 (by decide) (by decide +kernel) (by decide +kernel) (by decide)
  exact Int.le_antisymm q.2 q.1
theorem Inv.f_32_11 {X : Mm} {S : Sh} {M : Mm} (h : Inv X S M) : M 32 11 = 36 := by
  have q := h.rd 32 11 36 36 (by decide) (by decide +kernel) (by decide +kernel) (by decide)
  exact Int.le_antisymm q.2 q.1
theorem Inv.f_32_12 {X : Mm} {S : Sh} {M : Mm} (h : Inv X S M) : M 32 12 = 37 := by
  have q := h.rd 32 12 37 37 (by decide) (by decide +kernel) (by decide +kernel) (by decide)
  exact Int.le_antisymm q.2 q.1
theorem Inv.f_32_13 {X : Mm} {S : Sh} {M : Mm} (h : Inv X S M) : M 32 13 = 38 := by
  have q := h.rd 32 13 38 38 (by decide) (by decide +kernel) (by decide +kernel) (by decide)
  exact Int.le_antisymm q.2 q.1
theorem Inv.f_32_14 {X : Mm} {S : Sh} {M : Mm} (h : Inv X S M) : M 32 14 = 39 := by
  have q := h.rd 32 14 39 39 (by decide) (by decide +kernel) (by decide +kernel) (by decide)
  exact Int.le_antisymm q.2 q.1
theorem Inv.f_32_15 {X : Mm} {S : Sh} {M : Mm} (h : Inv X S M) : M 32 15 = 40 := by
  have q := h.rd 32 15 40 40 (by decide) (by decide +kernel) (by decide +kernel) (by decide)
  exact Int.le_antisymm q.2 q.1
theorem Inv.f_32_16 {X : Mm} {S : Sh} {M : Mm} (h : Inv X S M) : M 32 16 = 41 := by
  have q := h.rd 32 16 41 41 (by decide) (by decide +kernel) (by decide +kernel) (by decide)
  exact Int.le_antisymm q.2 q.1
theorem Inv.f_32_17 {X : Mm} {S : Sh} {M : Mm} (h : Inv X S M) : M 32 17 = 42 := by
  have q := h.rd 32 17 42 42 (by decide) (by decide +kernel) (by decide +kernel) (by decide)
  exact Int.le_antisymm q.2 q.1
theorem Inv.f_32_18 {X : Mm} {S : Sh} {M : Mm} (h : Inv X S M) : M 32 18 = 43 := by
  have q := h.rd 32 18 43 43 (by decide) (by decide +kernel) (by decide +kernel) (by decide)
  exact Int.le_antisymm q.2 q.1
theorem Inv.a_33 {X : Mm} {S : Sh} {M : Mm} (h : Inv X S M) {i : Int} (h0 : 0 ≤ i) (h1 : i < 36) : 0 ≤ M 33 i ∧ M 33 i ≤ 5 := h.rA (n := 36) (by decide) (by decide +kernel) (by decide +kernel) (by decide) h0 h1
theorem Inv.wa_33 {X : Mm} {S : Sh} {M : Mm} (h : Inv X S M) {i v : Int} (h0 : 0 ≤ i) (h1 : i < 36) (hl : 0 ≤ v) (hu : v ≤ 5) : Inv X S (up M 33 i v) := h.wA (0, 5) (by decide) (by decide +kernel) (okb_of rfl hl hu) (nsp_c (by decide)) (by decide) (by decide)
theorem Inv.wa_34 {X : Mm} {S : Sh} {M : Mm} (h : Inv X S M) {i v : Int} (h0 : 0 ≤ i) (h1 : i < 36) (hl : 0 ≤ v) (hu : v ≤ 1000) : Inv X S (up M 34 i v) := h.wA (0, 1000) (by decide) (by decide +kernel) (okb_of rfl hl hu) (nsp_c (by decide)) (by decide) (by decide)
theorem Inv.wa_35 {X : Mm} {S : Sh} {M : Mm} (h : Inv X S M) {i v : Int} (h0 : 0 ≤ i) (h1 : i < 5) (hl : 0 ≤ v) (hu : v ≤ 20) : Inv X S (up M 35 i v) := h.wA (0, 20) (by decide) (by decide +kernel) (okb_of rfl hl hu) (nsp_c (by decide)) (by decide) (by decide)
theorem Inv.wa_36 {X : Mm} {S : Sh} {M : Mm} (h : Inv X S M) {i v : Int} (h0 : 0 ≤ i) (h1 : i < 5) (hl : 0 ≤ v) (hu : v ≤ 5) : Inv X S (up M 36 i v) := h.wA (0, 5) (by decide) (by decide +kernel) (okb_of rfl hl hu) (nsp_c (by decide)) (by decide) (by decide)
theorem Inv.wa_37 {X : Mm} {S : Sh} {M : Mm} (h : Inv X S M) {i v : Int} (h0 : 0 ≤ i) (h1 : i < 4) (hl : 0 ≤ v) (hu : v ≤ 99) : Inv X S (up M 37 i v) := h.wA (0, 99) (by decide) (by decide +kernel) (okb_of rfl hl hu) (nsp_c (by decide)) (by decide) (by decide)
theorem Inv.wa_38 {X : Mm} {S : Sh} {M : Mm} (h : Inv X S M) {i v : Int} (h0 : 0 ≤ i) (h1 : i < 4) (hl : 0 ≤ v) (hu : v ≤ 99) : Inv X S (up M 38 i v) := h.wA (0, 99) (by decide) (by decide +kernel) (okb_of rfl hl hu) (nsp_c (by decide)) (by decide) (by decide)
theorem Inv.wa_39 {X : Mm} {S : Sh} {M : Mm} (h : Inv X S M) {i v : Int} (h0 : 0 ≤ i) (h1 : i < 4) (hl : 0 ≤ v) (hu : v ≤ 5) : Inv X S (up M 39 i v) := h.wA (0, 5) (by decide) (by decide +kernel) (okb_of rfl hl hu) (nsp_c (by decide)) (by decide) (by decide)
theorem Inv.wa_40 {X : Mm} {S : Sh} {M : Mm} (h : Inv X S M) {i v : Int} (h0 : 0 ≤ i) (h1 : i < 6) (hl : 0 ≤ v) (hu : v ≤ 5) : Inv X S (up M 40 i v) := h.wA (0, 5) (by decide) (by decide +kernel) (okb_of rfl hl hu) (nsp_c (by decide)) (by decide) (by decide)
theorem Inv.wa_41 {X : Mm} {S : Sh} {M : Mm} (h : Inv X S M) {i v : Int} (h0 : 0 ≤ i) (h1 : i < 6) (hl : 0 ≤ v) (hu : v ≤ 99) : Inv X S (up M 41 i v) := h.wA (0, 99) (by decide) (by decide +kernel) (okb_of rfl hl hu) (nsp_c (by decide)) (by decide) (by decide)
theorem Inv.wa_42 {X : Mm} {S : Sh} {M : Mm} (h : Inv X S M) {i v : Int} (h0 : 0 ≤ i) (h1 : i < 6) (hl : 0 ≤ v) (hu : v ≤ 99) : Inv X S (up M 42 i v) := h.wA (0, 99) (by decide) (by decide +kernel) (okb_of rfl hl hu) (nsp_c (by decide)) (by decide) (by decide)
theorem Inv.wa_43 {X : Mm} {S : Sh} {M : Mm} (h : Inv X S M) {i v : Int} (h0 : 0 ≤ i) (h1 : i < 6) (hl : 0 ≤ v) (hu : v ≤ 50) : Inv X S (up M 43 i v) := h.wA (0, 50) (by decide) (by decide +kernel) (okb_of rfl hl hu) (nsp_c (by decide)) (by decide) (by decide)
theorem Inv.w_44_0 {X : Mm} {S : Sh} {M : Mm} (h : Inv X S M) {v : Int} (hl : 0 ≤ v) (hu : v ≤ 999) : Inv X S (up M 44 0 v) := h.wl 44 0 (h.pl.put (by decide) (fun e => absurd e (by decide))) (okb_of (by decide +kernel) hl hu) (nsp_c (by decide)) (by decide) (by decide)
theorem Inv.w_44_1 {X : Mm} {S : Sh} {M : Mm} (h : Inv X S M) {v : Int} (hl : (-2147483648) ≤ v) (hu : v ≤ 2147483647) : Inv X S (up M 44 1 v) := h.wl 44 1 (h.pl.put (by decide) (fun e => absurd e (by decide))) (okb_of (by decide +kernel) hl hu) (nsp_c (by decide)) (by decide) (by decide)
theorem Inv.f_44_2 {X : Mm} {S : Sh} {M : Mm} (h : Inv X S M) : M 44 2 = 45 := by
  have q := h.rd 44 2 45 45 (by decide) (by decide +kernel) (by decide +kernel) (by decide)
  exact Int.le_antisymm q.2 q.1
theorem Inv.f_44_3 {X : Mm} {S : Sh} {M : Mm} (h : Inv X S M) : M 44 3 = 46 := by
  have q := h.rd 44 3 46 46 (by decide) (by decide +kernel) (by decide +kernel) (by decide)
  exact Int.le_antisymm q.2 q.1
theorem Inv.f_44_4 {X : Mm} {S : Sh} {M : Mm} (h : Inv X S M) : M 44 4 = 47 := by
  have q := h.rd 44 4 47 47 (by decide) (by decide +kernel) (by decide +kernel) (by decide)
  exact Int.le_antisymm q.2 q.1
theorem Inv.f_44_5 {X : Mm} {S : Sh} {M : Mm} (h : Inv X S M) : M 44 5 = 48 := by
  have q := h.rd 44 5 48 48 (by decide) (by decide +kernel) (by decide +kernel) (by decide)
  exact Int.le_antisymm q.2 q.1
theorem Inv.f_44_6 {X : Mm} {S : Sh} {M : Mm} (h : Inv X S M) : M 44 6 = 49 := by
  have q := h.rd 44 6 49 49 (by decide) (by decide +kernel) (by decide +kernel) (by decide)
  exact Int.le_antisymm q.2 q.1
theorem Inv.f_44_7 {X : Mm} {S : Sh} {M : Mm} (h : Inv X S M) : M 44 7 = 50 := by
  have q := h.rd 44 7 50 50 (by decide) (by decide +kernel) (by decide +kernel) (by decide)
  exact Int.le_antisymm q.2 q.1
theorem Inv.f_44_8 {X : Mm} {S : Sh} {M : Mm} (h : Inv X S M) : M 44 8 = 51 := by
  have q := h.rd 44 8 51 51 (by decide) (by decide +kernel) (by decide +kernel) (by decide)
  exact Int.le_antisymm q.2 q.1
theorem Inv.wa_45 {X : Mm} {S : Sh} {M : Mm} (h : Inv X S M) {i v : Int} (h0 : 0 ≤ i) (h1 : i < 5) (hl : 0 ≤ v) (hu : v ≤ 5) : Inv X S (up M 45 i v) := h.wA (0, 5) (by decide) (by decide +kernel) (okb_of rfl hl hu) (nsp_c (by decide)) (by decide) (by decide)
theorem Inv.wa_46 {X : Mm} {S : Sh} {M : Mm} (h : Inv X S M) {i v : Int} (h0 : 0 ≤ i) (h1 : i < 5) (hl : 0 ≤ v) (hu : v ≤ 5) : Inv X S (up M 46 i v) := h.wA (0, 5) (by decide) (by decide +kernel) (okb_of rfl hl hu) (nsp_c (by decide)) (by decide) (by decide)
theorem Inv.wa_47 {X : Mm} {S : Sh} {M : Mm} (h : Inv X S M) {i v : Int} (h0 : 0 ≤ i) (h1 : i < 5) (hl : 0 ≤ v) (hu : v ≤ 99) : Inv X S (up M 47 i v) := h.wA (0, 99) (by decide) (by decide +kernel) (okb_of rfl hl hu) (nsp_c (by decide)) (by decide) (by decide)
theorem Inv.wa_48 {X : Mm} {S : Sh} {M : Mm} (h : Inv X S M) {i v : Int} (h0 : 0 ≤ i) (h1 : i < 4) (hl : (-1) ≤ v) (hu : v ≤ 5) : Inv X S (up M 48 i v) := h.wA (-1, 5) (by decide) (by decide +kernel) (okb_of rfl hl hu) (nsp_c (by decide)) (by decide) (by decide)
theorem Inv.wa_49 {X : Mm} {S : Sh} {M : Mm} (h : Inv X S M) {i v : Int} (h0 : 0 ≤ i) (h1 : i < 4) (hl : (-1) ≤ v) (hu : v ≤ 4) : Inv X S (up M 49 i v) := h.wA (-1, 4) (by decide) (by decide +kernel) (okb_of rfl hl hu) (nsp_c (by decide)) (by decide) (by decide)
theorem Inv.wa_50 {X : Mm} {S : Sh} {M : Mm} (h : Inv X S M) {i v : Int} (h0 : 0 ≤ i) (h1 : i < 4) (hl : 0 ≤ v) (hu : v ≤ 999) : Inv X S (up M 50 i v) := h.wA (0, 999) (by decide) (by decide +kernel) (okb_of rfl hl hu) (nsp_c (by decide)) (by decide) (by decide)
theorem Inv.wa_51 {X : Mm} {S : Sh} {M : Mm} (h : Inv X S M) {i v : Int} (h0 : 0 ≤ i) (h1 : i < 6) (hl : (-1) ≤ v) (hu : v ≤ 999) : Inv X S (up M 51 i v) := h.wA (-1, 999) (by decide) (by decide +kernel) (okb_of rfl hl hu) (nsp_c (by decide)) (by decide) (by decide)
theorem Inv.f_52_0 {X : Mm} {S : Sh} {M : Mm} (h : Inv X S M) : M 52 0 = 1 := by
  have q := h.rd 52 0 1 1 (by decide) (by decide +kernel) (by decide +kernel) (by decide)
  exact Int.le_antisymm q.2 q.1
theorem Inv.f_52_1 {X : Mm} {S : Sh} {M : Mm} (h : Inv X S M) : M 52 1 = 53 := by
  have q := h.rd 52 1 53 53 (by decide) (by decide +kernel) (by decide +kernel) (by decide)
  exact Int.le_antisymm q.2 q.1
theorem Inv.f_52_2 {X : Mm} {S : Sh} {M : Mm} (h : Inv X S M) : 0 ≤ M 52 2 ∧ M 52 2 ≤ 400 := h.rd 52 2 0 400 (by decide) (by decide +kernel) (by decide +kernel) (by decide)
theorem Inv.w_52_2 {X : Mm} {S : Sh} {M : Mm} (h : Inv X S M) {v : Int} (hl : 0 ≤ v) (hu : v ≤ 400) : Inv X S (up M 52 2 v) := h.wl 52 2 (h.pl.put (by decide) (fun e => absurd e (by decide))) (okb_of (by decide +kernel) hl hu) (nsp_c (by decide)) (by decide) (by decide)
theorem Inv.f_52_3 {X : Mm} {S : Sh} {M : Mm} (h : Inv X S M) : 0 ≤ M 52 3 ∧ M 52 3 ≤ 60 := h.rd 52 3 0 60 (by decide) (by decide +kernel) (by decide +kernel) (by decide)
theorem Inv.w_52_3 {X : Mm} {S : Sh} {M : Mm} (h : Inv X S M) {v : Int} (hl : 0 ≤ v) (hu : v ≤ 60) : Inv X S (up M 52 3 v) := h.wl 52 3 (h.pl.put (by decide) (fun e => absurd e (by decide))) (okb_of (by decide +kernel) hl hu) (nsp_c (by decide)) (by decide) (by decide)
theorem Inv.f_52_4 {X : Mm} {S : Sh} {M : Mm} (h : Inv X S M) : M 52 4 = 54 := by
  have q := h.rd 52 4 54 54 (by decide) (by decide +kernel) (by decide +kernel) (by decide)
  exact Int.le_antisymm q.2 q.1
theorem Inv.f_52_5 {X : Mm} {S : Sh} {M : Mm} (h : Inv X S M) : 0 ≤ M 52 5 ∧ M 52 5 ≤ 400 := h.rd 52 5 0 400 (by decide) (by decide +kernel) (by decide +kernel) (by decide)
theorem Inv.w_52_5 {X : Mm} {S : Sh} {M : Mm} (h : Inv X S M) {v : Int} (hl : 0 ≤ v) (hu : v ≤ 400) : Inv X S (up M 52 5 v) := h.wl 52 5 (h.pl.put (by decide) (fun e => absurd e (by decide))) (okb_of (by decide +kernel) hl hu) (nsp_c (by decide)) (by decide) (by decide)
theorem Inv.w_52_6 {X : Mm} {S : Sh} {M : Mm} (h : Inv X S M) {v : Int} (hl : (-2147483648) ≤ v) (hu : v ≤ 2147483647) : Inv X S (up M 52 6 v) := h.wl 52 6 (h.pl.put (by decide) (fun e => absurd e (by decide))) (okb_of (by decide +kernel) hl hu) (nsp_c (by decide)) (by decide) (by decide)
theorem Inv.w_52_7 {X : Mm} {S : Sh} {M : Mm} (h : Inv X S M) {v : Int} (hl : (-2147483648) ≤ v) (hu : v ≤ 2147483647) : Inv X S (up M 52 7 v) := h.wl 52 7 (h.pl.put (by decide) (fun e => absurd e (by decide))) (okb_of (by decide +kernel) hl hu) (nsp_c (by decide)) (by decide) (by decide)
theorem Inv.w_52_8 {X : Mm} {S : Sh} {M : Mm} (h : Inv X S M) {v : Int} (hl : 0 ≤ v) (hu : v ≤ 3) : Inv X S (up M 52 8 v) := h.wl 52 8 (h.pl.put (by decide) (fun e => absurd e (by decide))) (okb_of (by decide +kernel) hl hu) (nsp_c (by decide)) (by decide) (by decide)
theorem Inv.wa_53 {X : Mm} {S : Sh} {M : Mm} (h : Inv X S M) {i v : Int} (h0 : 0 ≤ i) (h1 : i < 400) : Inv X S (up M 53 i v) := h.wA (1, 0) (by decide) (by decide +kernel) (okb_n rfl) (by omega) (by decide) (by decide)
theorem Inv.wa_54 {X : Mm} {S : Sh} {M : Mm} (h : Inv X S M) {i v : Int} (h0 : 0 ≤ i) (h1 : i < 400) : Inv X S (up M 54 i v) := h.wA (1, 0) (by decide) (by decide +kernel) (okb_n rfl) (by omega) (by decide) (by decide)
theorem Inv.f_55_0 {X : Mm} {S : Sh} {M : Mm} (h : Inv X S M) : M 55 0 = 4 := by
  have q := h.rd 55 0 4 4 (by decide) (by decide +kernel) (by decide +kernel) (by decide)
  exact Int.le_antisymm q.2 q.1
theorem Inv.f_55_2 {X : Mm} {S : Sh} {M : Mm} (h : Inv X S M) : 0 ≤ M 55 2 ∧ M 55 2 ≤ 1 := h.rd 55 2 0 1 (by decide) (by decide +kernel) (by decide +kernel) (by decide)
theorem Inv.w_55_2 {X : Mm} {S : Sh} {M : Mm} (h : Inv X S M) {v : Int} (hl : 0 ≤ v) (hu : v ≤ 1) : Inv X S (up M 55 2 v) := h.wl 55 2 (h.pl.put (by decide) (fun e => absurd e (by decide))) (okb_of (by decide +kernel) hl hu) (nsp_c (by decide)) (by decide) (by decide)
theorem Inv.f_55_3 {X : Mm} {S : Sh} {M : Mm} (h : Inv X S M) : M 55 3 = 56 := by
  have q := h.rd 55 3 56 56 (by decide) (by decide +kernel) (by decide +kernel) (by decide)
  exact Int.le_antisymm q.2 q.1
theorem Inv.f_55_4 {X : Mm} {S : Sh} {M : Mm} (h : Inv X S M) : 0 ≤ M 55 4 ∧ M 55 4 ≤ 4 := h.rd 55 4 0 4 (by decide) (by decide +kernel) (by decide +kernel) (by decide)
theorem Inv.w_55_4 {X : Mm} {S : Sh} {M : Mm} (h : Inv X S M) {v : Int} (hl : 0 ≤ v) (hu : v ≤ 4) : Inv X S (up M 55 4 v) := h.wl 55 4 (h.pl.put (by decide) (fun e => absurd e (by decide))) (okb_of (by decide +kernel) hl hu) (nsp_c (by decide)) (by decide) (by decide)
theorem Inv.f_55_5 {X : Mm} {S : Sh} {M : Mm} (h : Inv X S M) : 0 ≤ M 55 5 ∧ M 55 5 ≤ 3 := h.rd 55 5 0 3 (by decide) (by decide +kernel) (by decide +kernel) (by decide)
theorem Inv.w_55_5 {X : Mm} {S : Sh} {M : Mm} (h : Inv X S M) {v : Int} (hl : 0 ≤ v) (hu : v ≤ 3) : Inv X S (up M 55 5 v) := h.wl 55 5 (h.pl.put (by decide) (fun e => absurd e (by decide))) (okb_of (by decide +kernel) hl hu) (nsp_c (by decide)) (by decide) (by decide)
theorem Inv.f_55_6 {X : Mm} {S : Sh} {M : Mm} (h : Inv X S M) : 0 ≤ M 55 6 ∧ M 55 6 ≤ 999 := h.rd 55 6 0 999 (by decide) (by decide +kernel) (by decide +kernel) (by decide)
theorem Inv.w_55_6 {X : Mm} {S : Sh} {M : Mm} (h : Inv X S M) {v : Int} (hl : 0 ≤ v) (hu : v ≤ 999) : Inv X S (up M 55 6 v) := h.wl 55 6 (h.pl.put (by decide) (fun e => absurd e (by decide))) (okb_of (by decide +kernel) hl hu) (nsp_c (by decide)) (by decide) (by decide)
theorem Inv.f_55_7 {X : Mm} {S : Sh} {M : Mm} (h : Inv X S M) : 0 ≤ M 55 7 ∧ M 55 7 ≤ 99 := h.rd 55 7 0 99 (by decide) (by decide +kernel) (by decide +kernel) (by decide)
theorem Inv.w_55_7 {X : Mm} {S : Sh} {M : Mm} (h : Inv X S M) {v : Int} (hl : 0 ≤ v) (hu : v ≤ 99) : Inv X S (up M 55 7 v) := h.wl 55 7 (h.pl.put (by decide) (fun e => absurd e (by decide))) (okb_of (by decide +kernel) hl hu) (nsp_c (by decide)) (by decide) (by decide)
theorem Inv.f_55_8 {X : Mm} {S : Sh} {M : Mm} (h : Inv X S M) : 0 ≤ M 55 8 ∧ M 55 8 ≤ 999 := h.rd 55 8 0 999 (by decide) (by decide +kernel) (by decide +kernel) (by decide)
theorem Inv.w_55_8 {X : Mm} {S : Sh} {M : Mm} (h : Inv X S M) {v : Int} (hl : 0 ≤ v) (hu : v ≤ 999) : Inv X S (up M 55 8 v) := h.wl 55 8 (h.pl.put (by decide) (fun e => absurd e (by decide))) (okb_of (by decide +kernel) hl hu) (nsp_c (by decide)) (by decide) (by decide)
theorem Inv.f_55_9 {X : Mm} {S : Sh} {M : Mm} (h : Inv X S M) : 0 ≤ M 55 9 ∧ M 55 9 ≤ 20 := h.rd 55 9 0 20 (by decide) (by decide +kernel) (by decide +kernel) (by decide)
theorem Inv.w_55_9 {X : Mm} {S : Sh} {M : Mm} (h : Inv X S M) {v : Int} (hl : 0 ≤ v) (hu : v ≤ 20) : Inv X S (up M 55 9 v) := h.wl 55 9 (h.pl.put (by decide) (fun e => absurd e (by decide))) (okb_of (by decide +kernel) hl hu) (nsp_c (by decide)) (by decide) (by decide)
theorem Inv.f_55_10 {X : Mm} {S : Sh} {M : Mm} (h : Inv X S M) : 0 ≤ M 55 10 ∧ M 55 10 ≤ 1 := h.rd 55 10 0 1 (by decide) (by decide +kernel) (by decide +kernel) (by decide)
theorem Inv.w_55_10 {X : Mm} {S : Sh} {M : Mm} (h : Inv X S M) {v : Int} (hl : 0 ≤ v) (hu : v ≤ 1) : Inv X S (up M 55 10 v) := h.wl 55 10 (h.pl.put (by decide) (fun e => absurd e (by decide))) (okb_of (by decide +kernel) hl hu) (nsp_c (by decide)) (by decide) (by decide)
theorem Inv.f_55_11 {X : Mm} {S : Sh} {M : Mm} (h : Inv X S M) : (-2147483648) ≤ M 55 11 ∧ M 55 11 ≤ 2147483647 := h.rd 55 11 (-2147483648) 2147483647 (by decide) (by decide +kernel) (by decide +kernel) (by decide)
theorem Inv.w_55_11 {X : Mm} {S : Sh} {M : Mm} (h : Inv X S M) {v : Int} (hl : (-2147483648) ≤ v) (hu : v ≤ 2147483647) : Inv X S (up M 55 11 v) := h.wl 55 11 (h.pl.put (by decide) (fun e => absurd e (by decide))) (okb_of (by decide +kernel) hl hu) (nsp_c (by decide)) (by decide) (by decide)
theorem Inv.wa_56 {X : Mm} {S : Sh} {M : Mm} (h : Inv X S M) {i v : Int} (h0 : 0 ≤ i) (h1 : i < 64) : Inv X S (up M 56 i v) := h.wA (1, 0) (by decide) (by decide +kernel) (okb_n rfl) (by omega) (by decide) (by decide)
theorem Inv.f_57_0 {X : Mm} {S : Sh} {M : Mm} (h : Inv X S M) : M 57 0 = 55 := by
  have q := h.rd 57 0 55 55 (by decide) (by decide +kernel) (by decide +kernel) (by decide)
  exact Int.le_antisymm q.2 q.1
theorem Inv.f_57_1 {X : Mm} {S : Sh} {M : Mm} (h : Inv X S M) : M 57 1 = 4 := by
  have q := h.rd 57 1 4 4 (by decide) (by decide +kernel) (by decide +kernel) (by decide)
  exact Int.le_antisymm q.2 q.1
theorem Inv.f_57_2 {X : Mm} {S : Sh} {M : Mm} (h : Inv X S M) : 0 ≤ M 57 2 ∧ M 57 2 ≤ 2147483647 := h.rd 57 2 0 2147483647 (by decide) (by decide +kernel) (by decide +kernel) (by decide)
theorem Inv.w_57_2 {X : Mm} {S : Sh} {M : Mm} (h : Inv X S M) {v : Int} (hl : 0 ≤ v) (hu : v ≤ 2147483647) : Inv X S (up M 57 2 v) := h.wl 57 2 (h.pl.put (by decide) (fun e => absurd e (by decide))) (okb_of (by decide +kernel) hl hu) (nsp_c (by decide)) (by decide) (by decide)
theorem Inv.f_58_0 {X : Mm} {S : Sh} {M : Mm} (h : Inv X S M) : M 58 0 = 55 := by
  have q := h.rd 58 0 55 55 (by decide) (by decide +kernel) (by decide +kernel) (by decide)
  exact Int.le_antisymm q.2 q.1
theorem Inv.f_58_1 {X : Mm} {S : Sh} {M : Mm} (h : Inv X S M) : M 58 1 = 4 := by
  have q := h.rd 58 1 4 4 (by decide) (by decide +kernel) (by decide +kernel) (by decide)
  exact Int.le_antisymm q.2 q.1
theorem Inv.f_58_2 {X : Mm} {S : Sh} {M : Mm} (h : Inv X S M) : M 58 2 = 59 := by
  have q := h.rd 58 2 59 59 (by decide) (by decide +kernel) (by decide +kernel) (by decide)
  exact Int.le_antisymm q.2 q.1
theorem Inv.f_58_3 {X : Mm} {S : Sh} {M : Mm} (h : Inv X S M) : M 58 3 = 60 := by
  have q := h.rd 58 3 60 60 (by decide) (by decide +kernel) (by decide +kernel) (by decide)
  exact Int.le_antisymm q.2 q.1
theorem Inv.f_58_4 {X : Mm} {S : Sh} {M : Mm} (h : Inv X S M) : M 58 4 = 61 := by
  have q := h.rd 58 4 61 61 (by decide) (by decide +kernel) (by decide +kernel) (by decide)
  exact Int.le_antisymm q.2 q.1
theorem Inv.f_58_5 {X : Mm} {S : Sh} {M : Mm} (h : Inv X S M) : M 58 5 = 62 := by
  have q := h.rd 58 5 62 62 (by decide) (by decide +kernel) (by decide +kernel) (by decide)
  exact Int.le_antisymm q.2 q.1
theorem Inv.f_58_6 {X : Mm} {S : Sh} {M : Mm} (h : Inv X S M) : 0 ≤ M 58 6 ∧ M 58 6 ≤ 5 := h.rd 58 6 0 5 (by decide) (by decide +kernel) (by decide +kernel) (by decide)
theorem Inv.w_58_6 {X : Mm} {S : Sh} {M : Mm} (h : Inv X S M) {v : Int} (hl : 0 ≤ v) (hu : v ≤ 5) : Inv X S (up M 58 6 v) := h.wl 58 6 (h.pl.put (by decide) (fun e => absurd e (by decide))) (okb_of (by decide +kernel) hl hu) (nsp_c (by decide)) (by decide) (by decide)
theorem Inv.f_58_7 {X : Mm} {S : Sh} {M : Mm} (h : Inv X S M) : 0 ≤ M 58 7 ∧ M 58 7 ≤ 3 := h.rd 58 7 0 3 (by decide) (by decide +kernel) (by decide +kernel) (by decide)
theorem Inv.w_58_7 {X : Mm} {S : Sh} {M : Mm} (h : Inv X S M) {v : Int} (hl : 0 ≤ v) (hu : v ≤ 3) : Inv X S (up M 58 7 v) := h.wl 58 7 (h.pl.put (by decide) (fun e => absurd e (by decide))) (okb_of (by decide +kernel) hl hu) (nsp_c (by decide)) (by decide) (by decide)
theorem Inv.f_58_8 {X : Mm} {S : Sh} {M : Mm} (h : Inv X S M) : 0 ≤ M 58 8 ∧ M 58 8 ≤ 999 := h.rd 58 8 0 999 (by decide) (by decide +kernel) (by decide +kernel) (by decide)
theorem Inv.w_58_8 {X : Mm} {S : Sh} {M : Mm} (h : Inv X S M) {v : Int} (hl : 0 ≤ v) (hu : v ≤ 999) : Inv X S (up M 58 8 v) := h.wl 58 8 (h.pl.put (by decide) (fun e => absurd e (by decide))) (okb_of (by decide +kernel) hl hu) (nsp_c (by decide)) (by decide) (by decide)
theorem Inv.f_58_9 {X : Mm} {S : Sh} {M : Mm} (h : Inv X S M) : (-2147483648) ≤ M 58 9 ∧ M 58 9 ≤ 2147483647 := h.rd 58 9 (-2147483648) 2147483647 (by decide) (by decide +kernel) (by decide +kernel) (by decide)
theorem Inv.w_58_9 {X : Mm} {S : Sh} {M : Mm} (h : Inv X S M) {v : Int} (hl : (-2147483648) ≤ v) (hu : v ≤ 2147483647) : Inv X S (up M 58 9 v) := h.wl 58 9 (h.pl.put (by decide) (fun e => absurd e (by decide))) (okb_of (by decide +kernel) hl hu) (nsp_c (by decide)) (by decide) (by decide)
theorem Inv.f_58_10 {X : Mm} {S : Sh} {M : Mm} (h : Inv X S M) : (-2147483648) ≤ M 58 10 ∧ M 58 10 ≤ 2147483647 := h.rd 58 10 (-2147483648) 2147483647 (by decide) (by decide +kernel) (by decide +kernel) (by decide)
theorem Inv.w_58_10 {X : Mm} {S : Sh} {M : Mm} (h : Inv X S M) {v : Int} (hl : (-2147483648) ≤ v) (hu : v ≤ 2147483647) : Inv X S (up M 58 10 v) := h.wl 58 10 (h.pl.put (by decide) (fun e => absurd e (by decide))) (okb_of (by decide +kernel) hl hu) (nsp_c (by decide)) (by decide) (by decide)
theorem Inv.a_59 {X : Mm} {S : Sh} {M : Mm} (h : Inv X S M) {i : Int} (h0 : 0 ≤ i) (h1 : i < 5) : 0 ≤ M 59 i ∧ M 59 i ≤ 5 := h.rA (n := 5) (by decide) (by decide +kernel) (by decide +kernel) (by decide) h0 h1
theorem Inv.wa_59 {X : Mm} {S : Sh} {M : Mm} (h : Inv X S M) {i v : Int} (h0 : 0 ≤ i) (h1 : i < 5) (hl : 0 ≤ v) (hu : v ≤ 5) : Inv X S (up M 59 i v) := h.wA (0, 5) (by decide) (by decide +kernel) (okb_of rfl hl hu) (nsp_c (by decide)) (by decide) (by decide)
theorem Inv.a_60 {X : Mm} {S : Sh} {M : Mm} (h : Inv X S M) {i : Int} (h0 : 0 ≤ i) (h1 : i < 5) : 0 ≤ M 60 i ∧ M 60 i ≤ 999 := h.rA (n := 5) (by decide) (by decide +kernel) (by decide +kernel) (by decide) h0 h1
theorem Inv.wa_60 {X : Mm} {S : Sh} {M : Mm} (h : Inv X S M) {i v : Int} (h0 : 0 ≤ i) (h1 : i < 5) (hl : 0 ≤ v) (hu : v ≤ 999) : Inv X S (up M 60 i v) := h.wA (0, 999) (by decide) (by decide +kernel) (okb_of rfl hl hu) (nsp_c (by decide)) (by decide) (by decide)
theorem Inv.a_61 {X : Mm} {S : Sh} {M : Mm} (h : Inv X S M) {i : Int} (h0 : 0 ≤ i) (h1 : i < 6000) : (-2147483648) ≤ M 61 i ∧ M 61 i ≤ 2147483647 := h.rA (n := 6000) (by decide) (by decide +kernel) (by decide +kernel) (by decide) h0 h1
theorem Inv.wa_61 {X : Mm} {S : Sh} {M : Mm} (h : Inv X S M) {i v : Int} (h0 : 0 ≤ i) (h1 : i < 6000) (hl : (-2147483648) ≤ v) (hu : v ≤ 2147483647) : Inv X S (up M 61 i v) := h.wA (-2147483648, 2147483647) (by decide) (by decide +kernel) (okb_of rfl hl hu) (nsp_c (by decide)) (by decide) (by decide)
theorem Inv.a_62 {X : Mm} {S : Sh} {M : Mm} (h : Inv X S M) {i : Int} (h0 : 0 ≤ i) (h1 : i < 6000) : (-2147483648) ≤ M 62 i ∧ M 62 i ≤ 2147483647 := h.rA (n := 6000) (by decide) (by decide +kernel) (by decide +kernel) (by decide) h0 h1
theorem Inv.wa_62 {X : Mm} {S : Sh} {M : Mm} (h : Inv X S M) {i v : Int} (h0 : 0 ≤ i) (h1 : i < 6000) (hl : (-2147483648) ≤ v) (hu : v ≤ 2147483647) : Inv X S (up M 62 i v) := h.wA (-2147483648, 2147483647) (by decide) (by decide +kernel) (okb_of rfl hl hu) (nsp_c (by decide)) (by decide) (by decide)
theorem Inv.f_63_0 {X : Mm} {S : Sh} {M : Mm} (h : Inv X S M) : M 63 0 = 4 := by
  have q := h.rd 63 0 4 4 (by decide) (by decide +kernel) (by decide +kernel) (by decide)
  exact Int.le_antisymm q.2 q.1
theorem Inv.f_63_1 {X : Mm} {S : Sh} {M : Mm} (h : Inv X S M) : M 63 1 = 64 := by
  have q := h.rd 63 1 64 64 (by decide) (by decide +kernel) (by decide +kernel) (by decide)
  exact Int.le_antisymm q.2 q.1
theorem Inv.f_63_2 {X : Mm} {S : Sh} {M : Mm} (h : Inv X S M) : M 63 2 = 65 := by
  have q := h.rd 63 2 65 65 (by decide) (by decide +kernel) (by decide +kernel) (by decide)
  exact Int.le_antisymm q.2 q.1
theorem Inv.a_64 {X : Mm} {S : Sh} {M : Mm} (h : Inv X S M) {i : Int} (h0 : 0 ≤ i) (h1 : i < 112) : (-2147483648) ≤ M 64 i ∧ M 64 i ≤ 2147483647 := h.rA (n := 112) (by decide) (by decide +kernel) (by decide +kernel) (by decide) h0 h1
theorem Inv.wa_64 {X : Mm} {S : Sh} {M : Mm} (h : Inv X S M) {i v : Int} (h0 : 0 ≤ i) (h1 : i < 112) (hl : (-2147483648) ≤ v) (hu : v ≤ 2147483647) : Inv X S (up M 64 i v) := h.wA (-2147483648, 2147483647) (by decide) (by decide +kernel) (okb_of rfl hl hu) (nsp_c (by decide)) (by decide) (by decide)
theorem Inv.wa_65 {X : Mm} {S : Sh} {M : Mm} (h : Inv X S M) {i v : Int} (h0 : 0 ≤ i) (h1 : i < 3913) (hl : (-2147483648) ≤ v) (hu : v ≤ 2147483647) : Inv X S (up M 65 i v) := h.wA (-2147483648, 2147483647) (by decide) (by decide +kernel) (okb_of rfl hl hu) (nsp_c (by decide)) (by decide) (by decide)
theorem Inv.f_66_0 {X : Mm} {S : Sh} {M : Mm} (h : Inv X S M) : M 66 0 = 3 := by
  have q := h.rd 66 0 3 3 (by decide) (by decide +kernel) (by decide +kernel) (by decide)
  exact Int.le_antisymm q.2 q.1
theorem Inv.f_66_1 {X : Mm} {S : Sh} {M : Mm} (h : Inv X S M) : M 66 1 = 55 := by
  have q := h.rd 66 1 55 55 (by decide) (by decide +kernel) (by decide +kernel) (by decide)
  exact Int.le_antisymm q.2 q.1
theorem Inv.f_66_2 {X : Mm} {S : Sh} {M : Mm} (h : Inv X S M) : M 66 2 = 67 := by
  have q := h.rd 66 2 67 67 (by decide) (by decide +kernel) (by decide +kernel) (by decide)
  exact Int.le_antisymm q.2 q.1
theorem Inv.f_66_3 {X : Mm} {S : Sh} {M : Mm} (h : Inv X S M) : (-2147483648) ≤ M 66 3 ∧ M 66 3 ≤ 2147483647 := h.rd 66 3 (-2147483648) 2147483647 (by decide) (by decide +kernel) (by decide +kernel) (by decide)
theorem Inv.w_66_3 {X : Mm} {S : Sh} {M : Mm} (h : Inv X S M) {v : Int} (hl : (-2147483648) ≤ v) (hu : v ≤ 2147483647) : Inv X S (up M 66 3 v) := h.wl 66 3 (h.pl.put (by decide) (fun e => absurd e (by decide))) (okb_of (by decide +kernel) hl hu) (nsp_c (by decide)) (by decide) (by decide)
theorem Inv.f_66_4 {X : Mm} {S : Sh} {M : Mm} (h : Inv X S M) : (-2147483648) ≤ M 66 4 ∧ M 66 4 ≤ 2147483647 := h.rd 66 4 (-2147483648) 2147483647 (by decide) (by decide +kernel) (by decide +kernel) (by decide)
theorem Inv.w_66_4 {X : Mm} {S : Sh} {M : Mm} (h : Inv X S M) {v : Int} (hl : (-2147483648) ≤ v) (hu : v ≤ 2147483647) : Inv X S (up M 66 4 v) := h.wl 66 4 (h.pl.put (by decide) (fun e => absurd e (by decide))) (okb_of (by decide +kernel) hl hu) (nsp_c (by decide)) (by decide) (by decide)
theorem Inv.a_67 {X : Mm} {S : Sh} {M : Mm} (h : Inv X S M) {i : Int} (h0 : 0 ≤ i) (h1 : i < 100) : 0 ≤ M 67 i ∧ M 67 i ≤ 999 := h.rA (n := 100) (by decide) (by decide +kernel) (by decide +kernel) (by decide) h0 h1
theorem Inv.wa_67 {X : Mm} {S : Sh} {M : Mm} (h : Inv X S M) {i v : Int} (h0 : 0 ≤ i) (h1 : i < 100) (hl : 0 ≤ v) (hu : v ≤ 999) : Inv X S (up M 67 i v) := h.wA (0, 999) (by decide) (by decide +kernel) (okb_of rfl hl hu) (nsp_c (by decide)) (by decide) (by decide)
theorem Inv.f_68_2 {X : Mm} {S : Sh} {M : Mm} (h : Inv X S M) : M 68 2 = 69 := by
  have q := h.rd 68 2 69 69 (by decide) (by decide +kernel) (by decide +kernel) (by decide)
  exact Int.le_antisymm q.2 q.1
theorem Inv.f_68_3 {X : Mm} {S : Sh} {M : Mm} (h : Inv X S M) : M 68 3 = 70 := by
  have q := h.rd 68 3 70 70 (by decide) (by decide +kernel) (by decide +kernel) (by decide)
  exact Int.le_antisymm q.2 q.1
theorem Inv.f_68_4 {X : Mm} {S : Sh} {M : Mm} (h : Inv X S M) : M 68 4 = 71 := by
  have q := h.rd 68 4 71 71 (by decide) (by decide +kernel) (by decide +kernel) (by decide)
  exact Int.le_antisymm q.2 q.1
theorem Inv.f_68_5 {X : Mm} {S : Sh} {M : Mm} (h : Inv X S M) : M 68 5 = 72 := by
  have q := h.rd 68 5 72 72 (by decide) (by decide +kernel) (by decide +kernel) (by decide)
  exact Int.le_antisymm q.2 q.1
theorem Inv.f_68_6 {X : Mm} {S : Sh} {M : Mm} (h : Inv X S M) : M 68 6 = 73 := by
  have q := h.rd 68 6 73 73 (by decide) (by decide +kernel) (by decide +kernel) (by decide)
  exact Int.le_antisymm q.2 q.1
theorem Inv.f_68_7 {X : Mm} {S : Sh} {M : Mm} (h : Inv X S M) : M 68 7 = 74 := by
  have q := h.rd 68 7 74 74 (by decide) (by decide +kernel) (by decide +kernel) (by decide)
  exact Int.le_antisymm q.2 q.1
theorem Inv.f_68_8 {X : Mm} {S : Sh} {M : Mm} (h : Inv X S M) : M 68 8 = 75 := by
  have q := h.rd 68 8 75 75 (by decide) (by decide +kernel) (by decide +kernel) (by decide)
  exact Int.le_antisymm q.2 q.1
theorem Inv.a_69 {X : Mm} {S : Sh} {M : Mm} (h : Inv X S M) {i : Int} (h0 : 0 ≤ i) (h1 : i < 5) : 0 ≤ M 69 i ∧ M 69 i ≤ 5 := h.rA (n := 5) (by decide) (by decide +kernel) (by decide +kernel) (by decide) h0 h1
theorem Inv.wa_69 {X : Mm} {S : Sh} {M : Mm} (h : Inv X S M) {i v : Int} (h0 : 0 ≤ i) (h1 : i < 5) (hl : 0 ≤ v) (hu : v ≤ 5) : Inv X S (up M 69 i v) := h.wA (0, 5) (by decide) (by decide +kernel) (okb_of rfl hl hu) (nsp_c (by decide)) (by decide) (by decide)
theorem Inv.a_70 {X : Mm} {S : Sh} {M : Mm} (h : Inv X S M) {i : Int} (h0 : 0 ≤ i) (h1 : i < 5) : 0 ≤ M 70 i ∧ M 70 i ≤ 5 := h.rA (n := 5) (by decide) (by decide +kernel) (by decide +kernel) (by decide) h0 h1
theorem Inv.wa_70 {X : Mm} {S : Sh} {M : Mm} (h : Inv X S M) {i v : Int} (h0 : 0 ≤ i) (h1 : i < 5) (hl : 0 ≤ v) (hu : v ≤ 5) : Inv X S (up M 70 i v) := h.wA (0, 5) (by decide) (by decide +kernel) (okb_of rfl hl hu) (nsp_c (by decide)) (by decide) (by decide)
theorem Inv.a_72 {X : Mm} {S : Sh} {M : Mm} (h : Inv X S M) {i : Int} (h0 : 0 ≤ i) (h1 : i < 4) : (-1) ≤ M 72 i ∧ M 72 i ≤ 5 := h.rA (n := 4) (by decide) (by decide +kernel) (by decide +kernel) (by decide) h0 h1
theorem Inv.wa_72 {X : Mm} {S : Sh} {M : Mm} (h : Inv X S M) {i v : Int} (h0 : 0 ≤ i) (h1 : i < 4) (hl : (-1) ≤ v) (hu : v ≤ 5) : Inv X S (up M 72 i v) := h.wA (-1, 5) (by decide) (by decide +kernel) (okb_of rfl hl hu) (nsp_c (by decide)) (by decide) (by decide)
theorem Inv.a_73 {X : Mm} {S : Sh} {M : Mm} (h : Inv X S M) {i : Int} (h0 : 0 ≤ i) (h1 : i < 4) : (-1) ≤ M 73 i ∧ M 73 i ≤ 4 := h.rA (n := 4) (by decide) (by decide +kernel) (by decide +kernel) (by decide) h0 h1
theorem Inv.wa_73 {X : Mm} {S : Sh} {M : Mm} (h : Inv X S M) {i v : Int} (h0 : 0 ≤ i) (h1 : i < 4) (hl : (-1) ≤ v) (hu : v ≤ 4) : Inv X S (up M 73 i v) := h.wA (-1, 4) (by decide) (by decide +kernel) (okb_of rfl hl hu) (nsp_c (by decide)) (by decide) (by decide)
theorem Inv.a_74 {X : Mm} {S : Sh} {M : Mm} (h : Inv X S M) {i : Int} (h0 : 0 ≤ i) (h1 : i < 4) : 0 ≤ M 74 i ∧ M 74 i ≤ 999 := h.rA (n := 4) (by decide) (by decide +kernel) (by decide +kernel) (by decide) h0 h1
theorem Inv.f_336_0 {X : Mm} {S : Sh} {M : Mm} (h : Inv X S M) : M 336 0 = 337 := by
  have q := h.rd 336 0 337 337 (by decide) (by decide +kernel) (by decide +kernel) (by decide)
  exact Int.le_antisymm q.2 q.1
theorem Inv.f_336_1 {X : Mm} {S : Sh} {M : Mm} (h : Inv X S M) : 0 ≤ M 336 1 ∧ M 336 1 ≤ 400 := h.rd 336 1 0 400 (by decide) (by decide +kernel) (by decide +kernel) (by decide)
theorem Inv.f_336_2 {X : Mm} {S : Sh} {M : Mm} (h : Inv X S M) : 0 ≤ M 336 2 ∧ M 336 2 ≤ 6 := h.rd 336 2 0 6 (by decide) (by decide +kernel) (by decide +kernel) (by decide)
theorem Inv.f_336_3 {X : Mm} {S : Sh} {M : Mm} (h : Inv X S M) : M 336 3 = 338 := by
  have q := h.rd 336 3 338 338 (by decide) (by decide +kernel) (by decide +kernel) (by decide)
  exact Int.le_antisymm q.2 q.1
theorem Inv.f_336_4 {X : Mm} {S : Sh} {M : Mm} (h : Inv X S M) : M 336 4 = 339 := by
  have q := h.rd 336 4 339 339 (by decide) (by decide +kernel) (by decide +kernel) (by decide)
  exact Int.le_antisymm q.2 q.1
theorem Inv.f_336_5 {X : Mm} {S : Sh} {M : Mm} (h : Inv X S M) : M 336 5 = 340 := by
  have q := h.rd 336 5 340 340 (by decide) (by decide +kernel) (by decide +kernel) (by decide)
  exact Int.le_antisymm q.2 q.1
theorem Inv.f_336_6 {X : Mm} {S : Sh} {M : Mm} (h : Inv X S M) : M 336 6 = 341 := by
  have q := h.rd 336 6 341 341 (by decide) (by decide +kernel) (by decide +kernel) (by decide)
  exact Int.le_antisymm q.2 q.1
theorem Inv.f_336_7 {X : Mm} {S : Sh} {M : Mm} (h : Inv X S M) : M 336 7 = 342 := by
  have q := h.rd 336 7 342 342 (by decide) (by decide +kernel) (by decide +kernel) (by decide)
  exact Int.le_antisymm q.2 q.1
theorem Inv.f_336_8 {X : Mm} {S : Sh} {M : Mm} (h : Inv X S M) : 0 ≤ M 336 8 ∧ M 336 8 ≤ 400 := h.rd 336 8 0 400 (by decide) (by decide +kernel) (by decide +kernel) (by decide)
theorem Inv.w_336_8 {X : Mm} {S : Sh} {M : Mm} (h : Inv X S M) {v : Int} (hl : 0 ≤ v) (hu : v ≤ 400) : Inv X S (up M 336 8 v) := h.wl 336 8 (h.pl.put (by decide) (fun e => absurd e (by decide))) (okb_of (by decide +kernel) hl hu) (by omega) (by decide) (by decide)
theorem Inv.f_336_9 {X : Mm} {S : Sh} {M : Mm} (h : Inv X S M) : 0 ≤ M 336 9 ∧ M 336 9 ≤ 4000 := h.rd 336 9 0 4000 (by decide) (by decide +kernel) (by decide +kernel) (by decide)
theorem Inv.w_336_9 {X : Mm} {S : Sh} {M : Mm} (h : Inv X S M) {v : Int} (hl : 0 ≤ v) (hu : v ≤ 4000) : Inv X S (up M 336 9 v) := h.wl 336 9 (h.pl.put (by decide) (fun e => absurd e (by decide))) (okb_of (by decide +kernel) hl hu) (by omega) (by decide) (by decide)
theorem Inv.f_336_10 {X : Mm} {S : Sh} {M : Mm} (h : Inv X S M) : 0 ≤ M 336 10 ∧ M 336 10 ≤ 99999 := h.rd 336 10 0 99999 (by decide) (by decide +kernel) (by decide +kernel) (by decide)
theorem Inv.w_336_10 {X : Mm} {S : Sh} {M : Mm} (h : Inv X S M) {v : Int} (hl : 0 ≤ v) (hu : v ≤ 99999) : Inv X S (up M 336 10 v) := h.wl 336 10 (h.pl.put (by decide) (fun e => absurd e (by decide))) (okb_of (by decide +kernel) hl hu) (by omega) (by decide) (by decide)
theorem Inv.w_336_11 {X : Mm} {S : Sh} {M : Mm} (h : Inv X S M) {v : Int} (hl : 0 ≤ v) (hu : v ≤ 6) : Inv X S (up M 336 11 v) := h.wl 336 11 (h.pl.put (by decide) (fun e => absurd e (by decide))) (okb_of (by decide +kernel) hl hu) (by omega) (by decide) (by decide)
theorem Inv.f_336_12 {X : Mm} {S : Sh} {M : Mm} (h : Inv X S M) : 0 ≤ M 336 12 ∧ M 336 12 ≤ 60 := h.rd 336 12 0 60 (by decide) (by decide +kernel) (by decide +kernel) (by decide)
theorem Inv.w_336_12 {X : Mm} {S : Sh} {M : Mm} (h : Inv X S M) {v : Int} (hl : 0 ≤ v) (hu : v ≤ 60) : Inv X S (up M 336 12 v) := h.wl 336 12 (h.pl.put (by decide) (fun e => absurd e (by decide))) (okb_of (by decide +kernel) hl hu) (by omega) (by decide) (by decide)
theorem Inv.f_336_13 {X : Mm} {S : Sh} {M : Mm} (h : Inv X S M) : (-2147483648) ≤ M 336 13 ∧ M 336 13 ≤ 2147483647 := h.rd 336 13 (-2147483648) 2147483647 (by decide) (by decide +kernel) (by decide +kernel) (by decide)
theorem Inv.w_336_13 {X : Mm} {S : Sh} {M : Mm} (h : Inv X S M) {v : Int} (hl : (-2147483648) ≤ v) (hu : v ≤ 2147483647) : Inv X S (up M 336 13 v) := h.wl 336 13 (h.pl.put (by decide) (fun e => absurd e (by decide))) (okb_of (by decide +kernel) hl hu) (by omega) (by decide) (by decide)
theorem Inv.w_336_14 {X : Mm} {S : Sh} {M : Mm} (h : Inv X S M) {v : Int} (hl : 0 ≤ v) (hu : v ≤ 41) : Inv X S (up M 336 14 v) := h.wl 336 14 (h.pl.put (by decide) (fun e => absurd e (by decide))) (okb_of (by decide +kernel) hl hu) (by omega) (by decide) (by decide)
theorem Inv.f_336_15 {X : Mm} {S : Sh} {M : Mm} (h : Inv X S M) : M 336 15 = 343 := by
  have q := h.rd 336 15 343 343 (by decide) (by decide +kernel) (by decide +kernel) (by decide)
  exact Int.le_antisymm q.2 q.1
theorem Inv.f_336_16 {X : Mm} {S : Sh} {M : Mm} (h : Inv X S M) : 0 ≤ M 336 16 ∧ M 336 16 ≤ 400 := h.rd 336 16 0 400 (by decide) (by decide +kernel) (by decide +kernel) (by decide)
theorem Inv.w_336_16 {X : Mm} {S : Sh} {M : Mm} (h : Inv X S M) {v : Int} (hl : 0 ≤ v) (hu : v ≤ 400) : Inv X S (up M 336 16 v) := h.wl 336 16 (h.pl.put (by decide) (fun e => absurd e (by decide))) (okb_of (by decide +kernel) hl hu) (by omega) (by decide) (by decide)
theorem Inv.f_336_17 {X : Mm} {S : Sh} {M : Mm} (h : Inv X S M) : M 336 17 = 344 := by
  have q := h.rd 336 17 344 344 (by decide) (by decide +kernel) (by decide +kernel) (by decide)
  exact Int.le_antisymm q.2 q.1
theorem Inv.f_336_18 {X : Mm} {S : Sh} {M : Mm} (h : Inv X S M) : (-2147483648) ≤ M 336 18 ∧ M 336 18 ≤ 2147483647 := h.rd 336 18 (-2147483648) 2147483647 (by decide) (by decide +kernel) (by decide +kernel) (by decide)
theorem Inv.w_336_18 {X : Mm} {S : Sh} {M : Mm} (h : Inv X S M) {v : Int} (hl : (-2147483648) ≤ v) (hu : v ≤ 2147483647) : Inv X S (up M 336 18 v) := h.wl 336 18 (h.pl.put (by decide) (fun e => absurd e (by decide))) (okb_of (by decide +kernel) hl hu) (by omega) (by decide) (by decide)
theorem Inv.f_336_19 {X : Mm} {S : Sh} {M : Mm} (h : Inv X S M) : M 336 19 = 345 := by
  have q := h.rd 336 19 345 345 (by decide) (by decide +kernel) (by decide +kernel) (by decide)
  exact Int.le_antisymm q.2 q.1
theorem Inv.f_336_20 {X : Mm} {S : Sh} {M : Mm} (h : Inv X S M) : M 336 20 = 346 := by
  have q := h.rd 336 20 346 346 (by decide) (by decide +kernel) (by decide +kernel) (by decide)
  exact Int.le_antisymm q.2 q.1
theorem Inv.f_336_21 {X : Mm} {S : Sh} {M : Mm} (h : Inv X S M) : (-1) ≤ M 336 21 ∧ M 336 21 ≤ 5 := h.rd 336 21 (-1) 5 (by decide) (by decide +kernel) (by decide +kernel) (by decide)
theorem Inv.f_336_22 {X : Mm} {S : Sh} {M : Mm} (h : Inv X S M) : 0 ≤ M 336 22 ∧ M 336 22 ≤ 2147483647 := h.rd 336 22 0 2147483647 (by decide) (by decide +kernel) (by decide +kernel) (by decide)
theorem Inv.f_336_23 {X : Mm} {S : Sh} {M : Mm} (h : Inv X S M) : 0 ≤ M 336 23 ∧ M 336 23 ≤ 1 := h.rd 336 23 0 1 (by decide) (by decide +kernel) (by decide +kernel) (by decide)
theorem Inv.w_336_23 {X : Mm} {S : Sh} {M : Mm} (h : Inv X S M) {v : Int} (hl : 0 ≤ v) (hu : v ≤ 1) : Inv X S (up M 336 23 v) := h.wl 336 23 (h.pl.put (by decide) (fun e => absurd e (by decide))) (okb_of (by decide +kernel) hl hu) (by omega) (by decide) (by decide)
theorem Inv.f_336_24 {X : Mm} {S : Sh} {M : Mm} (h : Inv X S M) : M 336 24 = 347 := by
  have q := h.rd 336 24 347 347 (by decide) (by decide +kernel) (by decide +kernel) (by decide)
  exact Int.le_antisymm q.2 q.1
theorem Inv.f_336_25 {X : Mm} {S : Sh} {M : Mm} (h : Inv X S M) : 0 ≤ M 336 25 ∧ M 336 25 ≤ 20 := h.rd 336 25 0 20 (by decide) (by decide +kernel) (by decide +kernel) (by decide)
theorem Inv.f_336_26 {X : Mm} {S : Sh} {M : Mm} (h : Inv X S M) : M 336 26 = 348 := by
  have q := h.rd 336 26 348 348 (by decide) (by decide +kernel) (by decide +kernel) (by decide)
  exact Int.le_antisymm q.2 q.1
theorem Inv.f_336_27 {X : Mm} {S : Sh} {M : Mm} (h : Inv X S M) : M 336 27 = 349 := by
  have q := h.rd 336 27 349 349 (by decide) (by decide +kernel) (by decide +kernel) (by decide)
  exact Int.le_antisymm q.2 q.1
theorem Inv.f_336_28 {X : Mm} {S : Sh} {M : Mm} (h : Inv X S M) : M 336 28 = 350 := by
  have q := h.rd 336 28 350 350 (by decide) (by decide +kernel) (by decide +kernel) (by decide)
  exact Int.le_antisymm q.2 q.1
theorem Inv.f_336_29 {X : Mm} {S : Sh} {M : Mm} (h : Inv X S M) : 0 ≤ M 336 29 ∧ M 336 29 ≤ 6 := h.rd 336 29 0 6 (by decide) (by decide +kernel) (by decide +kernel) (by decide)
theorem Inv.w_336_29 {X : Mm} {S : Sh} {M : Mm} (h : Inv X S M) {v : Int} (hl : 0 ≤ v) (hu : v ≤ 6) : Inv X S (up M 336 29 v) := h.wl 336 29 (h.pl.put (by decide) (fun e => absurd e (by decide))) (okb_of (by decide +kernel) hl hu) (by omega) (by decide) (by decide)
theorem Inv.f_336_30 {X : Mm} {S : Sh} {M : Mm} (h : Inv X S M) : M 336 30 = 351 := by
  have q := h.rd 336 30 351 351 (by decide) (by decide +kernel) (by decide +kernel) (by decide)
  exact Int.le_antisymm q.2 q.1
theorem Inv.f_336_31 {X : Mm} {S : Sh} {M : Mm} (h : Inv X S M) : M 336 31 = 352 := by
  have q := h.rd 336 31 352 352 (by decide) (by decide +kernel) (by decide +kernel) (by decide)
  exact Int.le_antisymm q.2 q.1
theorem Inv.f_336_32 {X : Mm} {S : Sh} {M : Mm} (h : Inv X S M) : M 336 32 = 353 := by
  have q := h.rd 336 32 353 353 (by decide) (by decide +kernel) (by decide +kernel) (by decide)
  exact Int.le_antisymm q.2 q.1
theorem Inv.f_336_33 {X : Mm} {S : Sh} {M : Mm} (h : Inv X S M) : 0 ≤ M 336 33 ∧ M 336 33 ≤ 2147483647 := h.rd 336 33 0 2147483647 (by decide) (by decide +kernel) (by decide +kernel) (by decide)
theorem Inv.w_336_33 {X : Mm} {S : Sh} {M : Mm} (h : Inv X S M) {v : Int} (hl : 0 ≤ v) (hu : v ≤ 2147483647) : Inv X S (up M 336 33 v) := h.wl 336 33 (h.pl.put (by decide) (fun e => absurd e (by decide))) (okb_of (by decide +kernel) hl hu) (by omega) (by decide) (by decide)
theorem Inv.f_336_34 {X : Mm} {S : Sh} {M : Mm} (h : Inv X S M) : M 336 34 = 354 := by
  have q := h.rd 336 34 354 354 (by decide) (by decide +kernel) (by decide +kernel) (by decide)
  exact Int.le_antisymm q.2 q.1
theorem Inv.f_336_35 {X : Mm} {S : Sh} {M : Mm} (h : Inv X S M) : M 336 35 = 355 := by
  have q := h.rd 336 35 355 355 (by decide) (by decide +kernel) (by decide +kernel) (by decide)
  exact Int.le_antisymm q.2 q.1
theorem Inv.f_336_36 {X : Mm} {S : Sh} {M : Mm} (h : Inv X S M) : M 336 36 = 356 := by
  have q := h.rd 336 36 356 356 (by decide) (by decide +kernel) (by decide +kernel) (by decide)
  exact Int.le_antisymm q.2 q.1
theorem Inv.f_336_37 {X : Mm} {S : Sh} {M : Mm} (h : Inv X S M) : M 336 37 = 357 := by
  have q := h.rd 336 37 357 357 (by decide) (by decide +kernel) (by decide +kernel) (by decide)
  exact Int.le_antisymm q.2 q.1
theorem Inv.a_339 {X : Mm} {S : Sh} {M : Mm} (h : Inv X S M) {i : Int} (h0 : 0 ≤ i) (h1 : i < 7) : 0 ≤ M 339 i ∧ M 339 i ≤ 400 := h.rA (n := 7) (by decide) (by decide +kernel) (by decide +kernel) (by decide) h0 h1
theorem Inv.wa_339 {X : Mm} {S : Sh} {M : Mm} (h : Inv X S M) {i v : Int} (h0 : 0 ≤ i) (h1 : i < 7) (hl : 0 ≤ v) (hu : v ≤ 400) : Inv X S (up M 339 i v) := h.wA (0, 400) (by decide) (by decide +kernel) (okb_of rfl hl hu) (nsp_c (by decide)) (by decide) (by decide)
theorem Inv.f_342_0 {X : Mm} {S : Sh} {M : Mm} (h : Inv X S M) : 0 ≤ M 342 0 ∧ M 342 0 ≤ 6 := h.rd 342 0 0 6 (by decide) (by decide +kernel) (by decide +kernel) (by decide)
theorem Inv.f_342_3 {X : Mm} {S : Sh} {M : Mm} (h : Inv X S M) : 0 ≤ M 342 3 ∧ M 342 3 ≤ 8 := h.rd 342 3 0 8 (by decide) (by decide +kernel) (by decide +kernel) (by decide)
theorem Inv.f_342_4 {X : Mm} {S : Sh} {M : Mm} (h : Inv X S M) : 0 ≤ M 342 4 ∧ M 342 4 ≤ 5 := h.rd 342 4 0 5 (by decide) (by decide +kernel) (by decide +kernel) (by decide)
theorem Inv.f_342_5 {X : Mm} {S : Sh} {M : Mm} (h : Inv X S M) : 0 ≤ M 342 5 ∧ M 342 5 ≤ 4 := h.rd 342 5 0 4 (by decide) (by decide +kernel) (by decide +kernel) (by decide)
theorem Inv.f_342_6 {X : Mm} {S : Sh} {M : Mm} (h : Inv X S M) : 0 ≤ M 342 6 ∧ M 342 6 ≤ 6 := h.rd 342 6 0 6 (by decide) (by decide +kernel) (by decide +kernel) (by decide)
theorem Inv.f_342_9 {X : Mm} {S : Sh} {M : Mm} (h : Inv X S M) : 0 ≤ M 342 9 ∧ M 342 9 ≤ 4 := h.rd 342 9 0 4 (by decide) (by decide +kernel) (by decide +kernel) (by decide)
theorem Inv.wa_343 {X : Mm} {S : Sh} {M : Mm} (h : Inv X S M) {i v : Int} (h0 : 0 ≤ i) (h1 : i < 400) : Inv X S (up M 343 i v) := h.wA (1, 0) (by decide) (by decide +kernel) (okb_n rfl) (by omega) (by decide) (by decide)
theorem Inv.wa_344 {X : Mm} {S : Sh} {M : Mm} (h : Inv X S M) {i v : Int} (h0 : 0 ≤ i) (h1 : i < 64) : Inv X S (up M 344 i v) := h.wA (1, 0) (by decide) (by decide +kernel) (okb_n rfl) (by omega) (by decide) (by decide)
theorem Inv.wa_345 {X : Mm} {S : Sh} {M : Mm} (h : Inv X S M) {i v : Int} (h0 : 0 ≤ i) (h1 : i < 10) : Inv X S (up M 345 i v) := h.wA (1, 0) (by decide) (by decide +kernel) (okb_n rfl) (by omega) (by decide) (by decide)
theorem Inv.f_346_0 {X : Mm} {S : Sh} {M : Mm} (h : Inv X S M) : 0 ≤ M 346 0 ∧ M 346 0 ≤ 6 := h.rd 346 0 0 6 (by decide) (by decide +kernel) (by decide +kernel) (by decide)
theorem Inv.f_346_1 {X : Mm} {S : Sh} {M : Mm} (h : Inv X S M) : 0 ≤ M 346 1 ∧ M 346 1 ≤ 9 := h.rd 346 1 0 9 (by decide) (by decide +kernel) (by decide +kernel) (by decide)
theorem Inv.f_346_2 {X : Mm} {S : Sh} {M : Mm} (h : Inv X S M) : 0 ≤ M 346 2 ∧ M 346 2 ≤ 99 := h.rd 346 2 0 99 (by decide) (by decide +kernel) (by decide +kernel) (by decide)
theorem Inv.f_346_3 {X : Mm} {S : Sh} {M : Mm} (h : Inv X S M) : 0 ≤ M 346 3 ∧ M 346 3 ≤ 8 := h.rd 346 3 0 8 (by decide) (by decide +kernel) (by decide +kernel) (by decide)
theorem Inv.f_346_4 {X : Mm} {S : Sh} {M : Mm} (h : Inv X S M) : 0 ≤ M 346 4 ∧ M 346 4 ≤ 5 := h.rd 346 4 0 5 (by decide) (by decide +kernel) (by decide +kernel) (by decide)
theorem Inv.f_346_5 {X : Mm} {S : Sh} {M : Mm} (h : Inv X S M) : 0 ≤ M 346 5 ∧ M 346 5 ≤ 4 := h.rd 346 5 0 4 (by decide) (by decide +kernel) (by decide +kernel) (by decide)
theorem Inv.f_346_6 {X : Mm} {S : Sh} {M : Mm} (h : Inv X S M) : 0 ≤ M 346 6 ∧ M 346 6 ≤ 6 := h.rd 346 6 0 6 (by decide) (by decide +kernel) (by decide +kernel) (by decide)
theorem Inv.f_346_7 {X : Mm} {S : Sh} {M : Mm} (h : Inv X S M) : (-2147483648) ≤ M 346 7 ∧ M 346 7 ≤ 2147483647 := h.rd 346 7 (-2147483648) 2147483647 (by decide) (by decide +kernel) (by decide +kernel) (by decide)
theorem Inv.w_346_7 {X : Mm} {S : Sh} {M : Mm} (h : Inv X S M) {v : Int} (hl : (-2147483648) ≤ v) (hu : v ≤ 2147483647) : Inv X S (up M 346 7 v) := h.wl 346 7 (h.pl.put (by decide) (fun _ => ⟨fun a _ _ e => by omega, fun a _ _ e => by omega⟩)) (okb_of (by decide +kernel) hl hu) (by omega) (by decide) (by decide)
theorem Inv.w_346_8 {X : Mm} {S : Sh} {M : Mm} (h : Inv X S M) {v : Int} (hl : (-2147483648) ≤ v) (hu : v ≤ 2147483647) : Inv X S (up M 346 8 v) := h.wl 346 8 (h.pl.put (by decide) (fun _ => ⟨fun a _ _ e => by omega, fun a _ _ e => by omega⟩)) (okb_of (by decide +kernel) hl hu) (by omega) (by decide) (by decide)
theorem Inv.f_346_9 {X : Mm} {S : Sh} {M : Mm} (h : Inv X S M) : 0 ≤ M 346 9 ∧ M 346 9 ≤ 4 := h.rd 346 9 0 4 (by decide) (by decide +kernel) (by decide +kernel) (by decide)
theorem Inv.f_346_157 {X : Mm} {S : Sh} {M : Mm} (h : Inv X S M) : 0 ≤ M 346 157 ∧ M 346 157 ≤ 10 := h.rd 346 157 0 10 (by decide) (by decide +kernel) (by decide +kernel) (by decide)
theorem Inv.w_346_157 {X : Mm} {S : Sh} {M : Mm} (h : Inv X S M) {v : Int} (hl : 0 ≤ v) (hu : v ≤ 10) : Inv X S (up M 346 157 v) := h.wl 346 157 (h.pl.put (by decide) (fun _ => ⟨fun a _ _ e => by omega, fun a _ _ e => by omega⟩)) (okb_of (by decide +kernel) hl hu) (by omega) (by decide) (by decide)
theorem Inv.a_349 {X : Mm} {S : Sh} {M : Mm} (h : Inv X S M) {i : Int} (h0 : 0 ≤ i) (h1 : i < 6) : 0 ≤ M 349 i ∧ M 349 i ≤ 99 := h.rA (n := 6) (by decide) (by decide +kernel) (by decide +kernel) (by decide) h0 h1
theorem Inv.wa_349 {X : Mm} {S : Sh} {M : Mm} (h : Inv X S M) {i v : Int} (h0 : 0 ≤ i) (h1 : i < 6) (hl : 0 ≤ v) (hu : v ≤ 99) : Inv X S (up M 349 i v) := h.wA (0, 99) (by decide) (by decide +kernel) (okb_of rfl hl hu) (nsp_c (by decide)) (by decide) (by decide)
theorem Inv.a_350 {X : Mm} {S : Sh} {M : Mm} (h : Inv X S M) {i : Int} (h0 : 0 ≤ i) (h1 : i < 6) : 0 ≤ M 350 i ∧ M 350 i ≤ 5 := h.rA (n := 6) (by decide) (by decide +kernel) (by decide +kernel) (by decide) h0 h1
theorem Inv.wa_350 {X : Mm} {S : Sh} {M : Mm} (h : Inv X S M) {i v : Int} (h0 : 0 ≤ i) (h1 : i < 6) (hl : 0 ≤ v) (hu : v ≤ 5) : Inv X S (up M 350 i v) := h.wA (0, 5) (by decide) (by decide +kernel) (okb_of rfl hl hu) (nsp_c (by decide)) (by decide) (by decide)
theorem Inv.a_351 {X : Mm} {S : Sh} {M : Mm} (h : Inv X S M) {i : Int} (h0 : 0 ≤ i) (h1 : i < 5) : (-2147483648) ≤ M 351 i ∧ M 351 i ≤ 2147483647 := h.rA (n := 5) (by decide) (by decide +kernel) (by decide +kernel) (by decide) h0 h1
theorem Inv.wa_351 {X : Mm} {S : Sh} {M : Mm} (h : Inv X S M) {i v : Int} (h0 : 0 ≤ i) (h1 : i < 5) (hl : (-2147483648) ≤ v) (hu : v ≤ 2147483647) : Inv X S (up M 351 i v) := h.wA (-2147483648, 2147483647) (by decide) (by decide +kernel) (okb_of rfl hl hu) (nsp_c (by decide)) (by decide) (by decide)
theorem Inv.wa_352 {X : Mm} {S : Sh} {M : Mm} (h : Inv X S M) {i v : Int} (h0 : 0 ≤ i) (h1 : i < 3913) (hl : (-2147483648) ≤ v) (hu : v ≤ 2147483647) : Inv X S (up M 352 i v) := h.wA (-2147483648, 2147483647) (by decide) (by decide +kernel) (okb_of rfl hl hu) (nsp_c (by decide)) (by decide) (by decide)
theorem Inv.wa_353 {X : Mm} {S : Sh} {M : Mm} (h : Inv X S M) {i v : Int} (h0 : 0 ≤ i) (h1 : i < 3913) (hl : 0 ≤ v) (hu : v ≤ 1) : Inv X S (up M 353 i v) := h.wA (0, 1) (by decide) (by decide +kernel) (okb_of rfl hl hu) (nsp_c (by decide)) (by decide) (by decide)
theorem Inv.a_355 {X : Mm} {S : Sh} {M : Mm} (h : Inv X S M) {i : Int} (h0 : 0 ≤ i) (h1 : i < 4) : (-1) ≤ M 355 i ∧ M 355 i ≤ 5 := h.rA (n := 4) (by decide) (by decide +kernel) (by decide +kernel) (by decide) h0 h1
theorem Inv.a_356 {X : Mm} {S : Sh} {M : Mm} (h : Inv X S M) {i : Int} (h0 : 0 ≤ i) (h1 : i < 4) : 0 ≤ M 356 i ∧ M 356 i ≤ 2147483647 := h.rA (n := 4) (by decide) (by decide +kernel) (by decide +kernel) (by decide) h0 h1
theorem ck_5_0 : ∀ c ∈ lSt, 0 ≤ c ∧ (c).toNat < 358 ∧ kT.getD (c).toNat 0 = 5 ∧ lT.getD (c).toNat 0 = 0 := by decide +kernel
theorem Shp.kB_5_0 {S : Sh} (h : Shp S) {c : Int} (hc : isSt c) : isK S (c) 5 := by
  obtain ⟨q0, q1, q2, q3⟩ := ck_5_0 c hc
  have q := h.k _ q1 q2
  rw [Int.toNat_of_nonneg q0] at q
  exact q
theorem ck_5_1 : ∀ c ∈ lSt, 0 ≤ c + 1 ∧ (c + 1).toNat < 358 ∧ kT.getD (c + 1).toNat 0 = 14 ∧ lT.getD (c + 1).toNat 0 = 5 := by decide +kernel
theorem Shp.kB_5_1 {S : Sh} (h : Shp S) {c : Int} (hc : isSt c) : isK S (c + 1) 14 := by
  obtain ⟨q0, q1, q2, q3⟩ := ck_5_1 c hc
  have q := h.k _ q1 q2
  rw [Int.toNat_of_nonneg q0] at q
  exact q
theorem Shp.lB_5_1 {S : Sh} (h : Shp S) {c : Int} (hc : isSt c) : S.2.2 (c + 1) = 5 := by
  obtain ⟨q0, q1, q2, q3⟩ := ck_5_1 c hc
  have q := h.l _ q1 q3
  rw [Int.toNat_of_nonneg q0] at q
  exact q
theorem Shp.nB_5_1 {S : Sh} (_ : Shp S) {c : Int} (hc : isSt c) : c + 1 ≠ -1 := by
  obtain ⟨q0, q1, q2, q3⟩ := ck_5_1 c hc
  omega
theorem ck_5_2 : ∀ c ∈ lSt, 0 ≤ c + 2 ∧ (c + 2).toNat < 358 ∧ kT.getD (c + 2).toNat 0 = 14 ∧ lT.getD (c + 2).toNat 0 = 5 := by decide +kernel
theorem Shp.kB_5_2 {S : Sh} (h : Shp S) {c : Int} (hc : isSt c) : isK S (c + 2) 14 := by
  obtain ⟨q0, q1, q2, q3⟩ := ck_5_2 c hc
  have q := h.k _ q1 q2
  rw [Int.toNat_of_nonneg q0] at q
  exact q
theorem Shp.lB_5_2 {S : Sh} (h : Shp S) {c : Int} (hc : isSt c) : S.2.2 (c + 2) = 5 := by
  obtain ⟨q0, q1, q2, q3⟩ := ck_5_2 c hc
  have q := h.l _ q1 q3
  rw [Int.toNat_of_nonneg q0] at q
  exact q
theorem Shp.nB_5_2 {S : Sh} (_ : Shp S) {c : Int} (hc : isSt c) : c + 2 ≠ -1 := by
  obtain ⟨q0, q1, q2, q3⟩ := ck_5_2 c hc
  omega
theorem ck_5_3 : ∀ c ∈ lSt, 0 ≤ c + 3 ∧ (c + 3).toNat < 358 ∧ kT.getD (c + 3).toNat 0 = 14 ∧ lT.getD (c + 3).toNat 0 = 5 := by decide +kernel
theorem Shp.kB_5_3 {S : Sh} (h : Shp S) {c : Int} (hc : isSt c) : isK S (c + 3) 14 := by
  obtain ⟨q0, q1, q2, q3⟩ := ck_5_3 c hc
  have q := h.k _ q1 q2
  rw [Int.toNat_of_nonneg q0] at q
  exact q
theorem Shp.lB_5_3 {S : Sh} (h : Shp S) {c : Int} (hc : isSt c) : S.2.2 (c + 3) = 5 := by
  obtain ⟨q0, q1, q2, q3⟩ := ck_5_3 c hc
  have q := h.l _ q1 q3
  rw [Int.toNat_of_nonneg q0] at q
  exact q
theorem Shp.nB_5_3 {S : Sh} (_ : Shp S) {c : Int} (hc : isSt c) : c + 3 ≠ -1 := by
  obtain ⟨q0, q1, q2, q3⟩ := ck_5_3 c hc
  omega
theorem ck_5_4 : ∀ c ∈ lSt, 0 ≤ c + 4 ∧ (c + 4).toNat < 358 ∧ kT.getD (c + 4).toNat 0 = 14 ∧ lT.getD (c + 4).toNat 0 = 4 := by decide +kernel
theorem Shp.kB_5_4 {S : Sh} (h : Shp S) {c : Int} (hc : isSt c) : isK S (c + 4) 14 := by
  obtain ⟨q0, q1, q2, q3⟩ := ck_5_4 c hc
  have q := h.k _ q1 q2
  rw [Int.toNat_of_nonneg q0] at q
  exact q
theorem Shp.lB_5_4 {S : Sh} (h : Shp S) {c : Int} (hc : isSt c) : S.2.2 (c + 4) = 4 := by
  obtain ⟨q0, q1, q2, q3⟩ := ck_5_4 c hc
  have q := h.l _ q1 q3
  rw [Int.toNat_of_nonneg q0] at q
  exact q
theorem Shp.nB_5_4 {S : Sh} (_ : Shp S) {c : Int} (hc : isSt c) : c + 4 ≠ -1 := by
  obtain ⟨q0, q1, q2, q3⟩ := ck_5_4 c hc
  omega
theorem ck_5_5 : ∀ c ∈ lSt, 0 ≤ c + 5 ∧ (c + 5).toNat < 358 ∧ kT.getD (c + 5).toNat 0 = 14 ∧ lT.getD (c + 5).toNat 0 = 4 := by decide +kernel
theorem Shp.kB_5_5 {S : Sh} (h : Shp S) {c : Int} (hc : isSt c) : isK S (c + 5) 14 := by
  obtain ⟨q0, q1, q2, q3⟩ := ck_5_5 c hc
  have q := h.k _ q1 q2
  rw [Int.toNat_of_nonneg q0] at q
  exact q
theorem Shp.lB_5_5 {S : Sh} (h : Shp S) {c : Int} (hc : isSt c) : S.2.2 (c + 5) = 4 := by
  obtain ⟨q0, q1, q2, q3⟩ := ck_5_5 c hc
  have q := h.l _ q1 q3
  rw [Int.toNat_of_nonneg q0] at q
  exact q
theorem Shp.nB_5_5 {S : Sh} (_ : Shp S) {c : Int} (hc : isSt c) : c + 5 ≠ -1 := by
  obtain ⟨q0, q1, q2, q3⟩ := ck_5_5 c hc
  omega
theorem ck_5_6 : ∀ c ∈ lSt, 0 ≤ c + 6 ∧ (c + 6).toNat < 358 ∧ kT.getD (c + 6).toNat 0 = 14 ∧ lT.getD (c + 6).toNat 0 = 4 := by decide +kernel
theorem Shp.kB_5_6 {S : Sh} (h : Shp S) {c : Int} (hc : isSt c) : isK S (c + 6) 14 := by
  obtain ⟨q0, q1, q2, q3⟩ := ck_5_6 c hc
  have q := h.k _ q1 q2
  rw [Int.toNat_of_nonneg q0] at q
  exact q
theorem Shp.lB_5_6 {S : Sh} (h : Shp S) {c : Int} (hc : isSt c) : S.2.2 (c + 6) = 4 := by
  obtain ⟨q0, q1, q2, q3⟩ := ck_5_6 c hc
  have q := h.l _ q1 q3
  rw [Int.toNat_of_nonneg q0] at q
  exact q
theorem Shp.nB_5_6 {S : Sh} (_ : Shp S) {c : Int} (hc : isSt c) : c + 6 ≠ -1 := by
  obtain ⟨q0, q1, q2, q3⟩ := ck_5_6 c hc
  omega
theorem ck_5_7 : ∀ c ∈ lSt, 0 ≤ c + 7 ∧ (c + 7).toNat < 358 ∧ kT.getD (c + 7).toNat 0 = 14 ∧ lT.getD (c + 7).toNat 0 = 6 := by decide +kernel
theorem Shp.kB_5_7 {S : Sh} (h : Shp S) {c : Int} (hc : isSt c) : isK S (c + 7) 14 := by
  obtain ⟨q0, q1, q2, q3⟩ := ck_5_7 c hc
  have q := h.k _ q1 q2
  rw [Int.toNat_of_nonneg q0] at q
  exact q
theorem Shp.lB_5_7 {S : Sh} (h : Shp S) {c : Int} (hc : isSt c) : S.2.2 (c + 7) = 6 := by
  obtain ⟨q0, q1, q2, q3⟩ := ck_5_7 c hc
  have q := h.l _ q1 q3
  rw [Int.toNat_of_nonneg q0] at q
  exact q
theorem Shp.nB_5_7 {S : Sh} (_ : Shp S) {c : Int} (hc : isSt c) : c + 7 ≠ -1 := by
  obtain ⟨q0, q1, q2, q3⟩ := ck_5_7 c hc
  omega
theorem cf_5_0 : ∀ c ∈ lSt, 0 ≤ c ∧ c.toNat < 358 ∧ 0 < pT.getD c.toNat 0 ∧ bd c.toNat 0 = (0, 999) ∧ c ≠ 30 ∧ c ≠ 55 ∧ ¬ c = 336 ∧ ¬ c = 355 ∧ ¬ c = 356 ∧ ¬ c = 357 ∧ ¬ c = 346 ∧ ¬ c = 347 ∧ ¬ c = 354 ∧ ¬ c = 348 ∧ ¬ c = 338 ∧ ¬ c = 340 ∧ ¬ c = 341 ∧ ¬ c = 337 ∧ ¬ c = 1 ∧ ¬ c = 2 ∧ ¬ c = 0 ∧ ¬ (c = 3 ∨ c = 76 ∨ c = 101 ∨ c = 126 ∨ c = 151) := by decide +kernel
theorem Inv.fB_5_0 {X : Mm} {S : Sh} {M : Mm} (h : Inv X S M) {c : Int} (hc : isSt c) : 0 ≤ M c 0 ∧ M c 0 ≤ 999 := by
  obtain ⟨q0, q1, q2, q3, -⟩ := cf_5_0 c hc
  have q := h.rd c.toNat 0 _ _ q1 q2 q3 (by decide)
  rw [Int.toNat_of_nonneg q0] at q
  exact q
theorem Inv.wB_5_0 {X : Mm} {S : Sh} {M : Mm} (h : Inv X S M) {c v : Int} (hc : isSt c) (hl : 0 ≤ v) (hu : v ≤ 999) : Inv X S (up M c 0 v) := by
  obtain ⟨q0, q1, q2, q3, q4⟩ := cf_5_0 c hc
  have e : ((c.toNat : Nat) : Int) = c := Int.toNat_of_nonneg q0
  have q := h.wl c.toNat 0 (by rw [e]; exact h.pl.put (nq_p q4) (fun z => absurd z (nq_46 q4))) (okb_of q3 hl hu) (by rw [e]; exact nsp_q q4) (by rw [e]; exact nq_30 q4) (by rw [e]; exact fun z => q4.2.1 z.1)
  rw [e] at q
  exact q
theorem cf_5_1 : ∀ c ∈ lSt, 0 ≤ c ∧ c.toNat < 358 ∧ 1 < pT.getD c.toNat 0 ∧ bd c.toNat 1 = (-2147483648, 2147483647) ∧ c ≠ 30 ∧ c ≠ 55 ∧ ¬ c = 336 ∧ ¬ c = 355 ∧ ¬ c = 356 ∧ ¬ c = 357 ∧ ¬ c = 346 ∧ ¬ c = 347 ∧ ¬ c = 354 ∧ ¬ c = 348 ∧ ¬ c = 338 ∧ ¬ c = 340 ∧ ¬ c = 341 ∧ ¬ c = 337 ∧ ¬ c = 1 ∧ ¬ c = 2 ∧ ¬ c = 0 ∧ ¬ (c = 3 ∨ c = 76 ∨ c = 101 ∨ c = 126 ∨ c = 151) := by decide +kernel
theorem Inv.fB_5_1 {X : Mm} {S : Sh} {M : Mm} (h : Inv X S M) {c : Int} (hc : isSt c) : (-2147483648) ≤ M c 1 ∧ M c 1 ≤ 2147483647 := by
  obtain ⟨q0, q1, q2, q3, -⟩ := cf_5_1 c hc
  have q := h.rd c.toNat 1 _ _ q1 q2 q3 (by decide)
  rw [Int.toNat_of_nonneg q0] at q
  exact q
theorem Inv.wB_5_1 {X : Mm} {S : Sh} {M : Mm} (h : Inv X S M) {c v : Int} (hc : isSt c) (hl : (-2147483648) ≤ v) (hu : v ≤ 2147483647) : Inv X S (up M c 1 v) := by
  obtain ⟨q0, q1, q2, q3, q4⟩ := cf_5_1 c hc
  have e : ((c.toNat : Nat) : Int) = c := Int.toNat_of_nonneg q0
  have q := h.wl c.toNat 1 (by rw [e]; exact h.pl.put (nq_p q4) (fun z => absurd z (nq_46 q4))) (okb_of q3 hl hu) (by rw [e]; exact nsp_q q4) (by rw [e]; exact nq_30 q4) (by rw [e]; exact fun z => q4.2.1 z.1)
  rw [e] at q
  exact q
theorem cf_5_2 : ∀ c ∈ lSt, 0 ≤ c ∧ c.toNat < 358 ∧ 2 < pT.getD c.toNat 0 ∧ bd c.toNat 2 = (c + 1, c + 1) ∧ c ≠ 30 ∧ c ≠ 55 ∧ ¬ c = 336 ∧ ¬ c = 355 ∧ ¬ c = 356 ∧ ¬ c = 357 ∧ ¬ c = 346 ∧ ¬ c = 347 ∧ ¬ c = 354 ∧ ¬ c = 348 ∧ ¬ c = 338 ∧ ¬ c = 340 ∧ ¬ c = 341 ∧ ¬ c = 337 ∧ ¬ c = 1 ∧ ¬ c = 2 ∧ ¬ c = 0 ∧ ¬ (c = 3 ∨ c = 76 ∨ c = 101 ∨ c = 126 ∨ c = 151) := by decide +kernel
theorem Inv.fB_5_2 {X : Mm} {S : Sh} {M : Mm} (h : Inv X S M) {c : Int} (hc : isSt c) : M c 2 = c + 1 := by
  obtain ⟨q0, q1, q2, q3, -⟩ := cf_5_2 c hc
  have q := h.rd c.toNat 2 _ _ q1 q2 q3 (Int.le_refl _)
  rw [Int.toNat_of_nonneg q0] at q
  exact Int.le_antisymm q.2 q.1
theorem cf_5_3 : ∀ c ∈ lSt, 0 ≤ c ∧ c.toNat < 358 ∧ 3 < pT.getD c.toNat 0 ∧ bd c.toNat 3 = (c + 2, c + 2) ∧ c ≠ 30 ∧ c ≠ 55 ∧ ¬ c = 336 ∧ ¬ c = 355 ∧ ¬ c = 356 ∧ ¬ c = 357 ∧ ¬ c = 346 ∧ ¬ c = 347 ∧ ¬ c = 354 ∧ ¬ c = 348 ∧ ¬ c = 338 ∧ ¬ c = 340 ∧ ¬ c = 341 ∧ ¬ c = 337 ∧ ¬ c = 1 ∧ ¬ c = 2 ∧ ¬ c = 0 ∧ ¬ (c = 3 ∨ c = 76 ∨ c = 101 ∨ c = 126 ∨ c = 151) := by decide +kernel
theorem Inv.fB_5_3 {X : Mm} {S : Sh} {M : Mm} (h : Inv X S M) {c : Int} (hc : isSt c) : M c 3 = c + 2 := by
  obtain ⟨q0, q1, q2, q3, -⟩ := cf_5_3 c hc
  have q := h.rd c.toNat 3 _ _ q1 q2 q3 (Int.le_refl _)
  rw [Int.toNat_of_nonneg q0] at q
  exact Int.le_antisymm q.2 q.1
theorem cf_5_4 : ∀ c ∈ lSt, 0 ≤ c ∧ c.toNat < 358 ∧ 4 < pT.getD c.toNat 0 ∧ bd c.toNat 4 = (c + 3, c + 3) ∧ c ≠ 30 ∧ c ≠ 55 ∧ ¬ c = 336 ∧ ¬ c = 355 ∧ ¬ c = 356 ∧ ¬ c = 357 ∧ ¬ c = 346 ∧ ¬ c = 347 ∧ ¬ c = 354 ∧ ¬ c = 348 ∧ ¬ c = 338 ∧ ¬ c = 340 ∧ ¬ c = 341 ∧ ¬ c = 337 ∧ ¬ c = 1 ∧ ¬ c = 2 ∧ ¬ c = 0 ∧ ¬ (c = 3 ∨ c = 76 ∨ c = 101 ∨ c = 126 ∨ c = 151) := by decide +kernel
theorem Inv.fB_5_4 {X : Mm} {S : Sh} {M : Mm} (h : Inv X S M) {c : Int} (hc : isSt c) : M c 4 = c + 3 := by
  obtain ⟨q0, q1, q2, q3, -⟩ := cf_5_4 c hc
  have q := h.rd c.toNat 4 _ _ q1 q2 q3 (Int.le_refl _)
  rw [Int.toNat_of_nonneg q0] at q
  exact Int.le_antisymm q.2 q.1
theorem cf_5_5 : ∀ c ∈ lSt, 0 ≤ c ∧ c.toNat < 358 ∧ 5 < pT.getD c.toNat 0 ∧ bd c.toNat 5 = (c + 4, c + 4) ∧ c ≠ 30 ∧ c ≠ 55 ∧ ¬ c = 336 ∧ ¬ c = 355 ∧ ¬ c = 356 ∧ ¬ c = 357 ∧ ¬ c = 346 ∧ ¬ c = 347 ∧ ¬ c = 354 ∧ ¬ c = 348 ∧ ¬ c = 338 ∧ ¬ c = 340 ∧ ¬ c = 341 ∧ ¬ c = 337 ∧ ¬ c = 1 ∧ ¬ c = 2 ∧ ¬ c = 0 ∧ ¬ (c = 3 ∨ c = 76 ∨ c = 101 ∨ c = 126 ∨ c = 151) := by decide +kernel
theorem Inv.fB_5_5 {X : Mm} {S : Sh} {M : Mm} (h : Inv X S M) {c : Int} (hc : isSt c) : M c 5 = c + 4 := by
  obtain ⟨q0, q1, q2, q3, -⟩ := cf_5_5 c hc
  have q := h.rd c.toNat 5 _ _ q1 q2 q3 (Int.le_refl _)
  rw [Int.toNat_of_nonneg q0] at q
  exact Int.le_antisymm q.2 q.1
theorem cf_5_6 : ∀ c ∈ lSt, 0 ≤ c ∧ c.toNat < 358 ∧ 6 < pT.getD c.toNat 0 ∧ bd c.toNat 6 = (c + 5, c + 5) ∧ c ≠ 30 ∧ c ≠ 55 ∧ ¬ c = 336 ∧ ¬ c = 355 ∧ ¬ c = 356 ∧ ¬ c = 357 ∧ ¬ c = 346 ∧ ¬ c = 347 ∧ ¬ c = 354 ∧ ¬ c = 348 ∧ ¬ c = 338 ∧ ¬ c = 340 ∧ ¬ c = 341 ∧ ¬ c = 337 ∧ ¬ c = 1 ∧ ¬ c = 2 ∧ ¬ c = 0 ∧ ¬ (c = 3 ∨ c = 76 ∨ c = 101 ∨ c = 126 ∨ c = 151) := by decide +kernel
theorem Inv.fB_5_6 {X : Mm} {S : Sh} {M : Mm} (h : Inv X S M) {c : Int} (hc : isSt c) : M c 6 = c + 5 := by
  obtain ⟨q0, q1, q2, q3, -⟩ := cf_5_6 c hc
  have q := h.rd c.toNat 6 _ _ q1 q2 q3 (Int.le_refl _)
  rw [Int.toNat_of_nonneg q0] at q
  exact Int.le_antisymm q.2 q.1
theorem cf_5_7 : ∀ c ∈ lSt, 0 ≤ c ∧ c.toNat < 358 ∧ 7 < pT.getD c.toNat 0 ∧ bd c.toNat 7 = (c + 6, c + 6) ∧ c ≠ 30 ∧ c ≠ 55 ∧ ¬ c = 336 ∧ ¬ c = 355 ∧ ¬ c = 356 ∧ ¬ c = 357 ∧ ¬ c = 346 ∧ ¬ c = 347 ∧ ¬ c = 354 ∧ ¬ c = 348 ∧ ¬ c = 338 ∧ ¬ c = 340 ∧ ¬ c = 341 ∧ ¬ c = 337 ∧ ¬ c = 1 ∧ ¬ c = 2 ∧ ¬ c = 0 ∧ ¬ (c = 3 ∨ c = 76 ∨ c = 101 ∨ c = 126 ∨ c = 151) := by decide +kernel
theorem Inv.fB_5_7 {X : Mm} {S : Sh} {M : Mm} (h : Inv X S M) {c : Int} (hc : isSt c) : M c 7 = c + 6 := by
  obtain ⟨q0, q1, q2, q3, -⟩ := cf_5_7 c hc
  have q := h.rd c.toNat 7 _ _ q1 q2 q3 (Int.le_refl _)
  rw [Int.toNat_of_nonneg q0] at q
  exact Int.le_antisymm q.2 q.1
theorem cf_5_8 : ∀ c ∈ lSt, 0 ≤ c ∧ c.toNat < 358 ∧ 8 < pT.getD c.toNat 0 ∧ bd c.toNat 8 = (c + 7, c + 7) ∧ c ≠ 30 ∧ c ≠ 55 ∧ ¬ c = 336 ∧ ¬ c = 355 ∧ ¬ c = 356 ∧ ¬ c = 357 ∧ ¬ c = 346 ∧ ¬ c = 347 ∧ ¬ c = 354 ∧ ¬ c = 348 ∧ ¬ c = 338 ∧ ¬ c = 340 ∧ ¬ c = 341 ∧ ¬ c = 337 ∧ ¬ c = 1 ∧ ¬ c = 2 ∧ ¬ c = 0 ∧ ¬ (c = 3 ∨ c = 76 ∨ c = 101 ∨ c = 126 ∨ c = 151) := by decide +kernel
theorem Inv.fB_5_8 {X : Mm} {S : Sh} {M : Mm} (h : Inv X S M) {c : Int} (hc : isSt c) : M c 8 = c + 7 := by
  obtain ⟨q0, q1, q2, q3, -⟩ := cf_5_8 c hc
  have q := h.rd c.toNat 8 _ _ q1 q2 q3 (Int.le_refl _)
  rw [Int.toNat_of_nonneg q0] at q
  exact Int.le_antisymm q.2 q.1
theorem ca_5_1 : ∀ c ∈ lSt, 0 ≤ c + 1 ∧ (c + 1).toNat < 358 ∧ pT.getD (c + 1).toNat 0 = 5 ∧ bT.getD (c + 1).toNat [] = [(0, 5)] ∧ c + 1 ≠ 30 ∧ c + 1 ≠ 55 ∧ ¬ c + 1 = 336 ∧ ¬ c + 1 = 355 ∧ ¬ c + 1 = 356 ∧ ¬ c + 1 = 357 ∧ ¬ c + 1 = 346 ∧ ¬ c + 1 = 347 ∧ ¬ c + 1 = 354 ∧ ¬ c + 1 = 348 ∧ ¬ c + 1 = 338 ∧ ¬ c + 1 = 340 ∧ ¬ c + 1 = 341 ∧ ¬ c + 1 = 337 ∧ ¬ c + 1 = 1 ∧ ¬ c + 1 = 2 ∧ ¬ c + 1 = 0 ∧ ¬ (c + 1 = 3 ∨ c + 1 = 76 ∨ c + 1 = 101 ∨ c + 1 = 126 ∨ c + 1 = 151) := by decide +kernel
theorem Inv.aB_5_1 {X : Mm} {S : Sh} {M : Mm} (h : Inv X S M) {c i : Int} (hc : isSt c) (h0 : 0 ≤ i) (h1 : i < 5) : 0 ≤ M (c + 1) i ∧ M (c + 1) i ≤ 5 := by
  obtain ⟨q0, q1, q2, q3, -⟩ := ca_5_1 c hc
  exact h.rA ⟨q0, q1⟩ q2 q3 (by decide) h0 h1
theorem Inv.waB_5_1 {X : Mm} {S : Sh} {M : Mm} (h : Inv X S M) {c i v : Int} (hc : isSt c) (h0 : 0 ≤ i) (h1 : i < 5) (hl : 0 ≤ v) (hu : v ≤ 5) : Inv X S (up M (c + 1) i v) := by
  obtain ⟨q0, q1, q2, q3, q4⟩ := ca_5_1 c hc
  exact h.wA _ (nq_pl q4) q3 (okb_of rfl hl hu) (nsp_q q4) (nq_30 q4) q4.2.1
theorem Inv.cpB_5_1 {X : Mm} {S : Sh} {M : Mm} (h : Inv X S M) {o c n : Int} (ho : isSt o) (hc : isSt c) (hn : n ≤ 5) : Inv X S (cpM M (o + 1) 0 (c + 1) 0 n) := by
  obtain ⟨q0, q1, q2, q3, q4⟩ := ca_5_1 c hc
  refine h.cp (fun c1 p e1 e2 => ?_) (fun p _ _ => nsp_q q4) (nq_30 q4) q4.2.1 (nq_pl q4)
  clear q4
  have e3 : c1 = (c + 1).toNat := by omega
  rw [e3, bd_u q3]
  have q := h.aB_5_1 ho (i := p) (by omega) (by omega)
  exact Or.inr q
theorem ca_5_2 : ∀ c ∈ lSt, 0 ≤ c + 2 ∧ (c + 2).toNat < 358 ∧ pT.getD (c + 2).toNat 0 = 5 ∧ bT.getD (c + 2).toNat [] = [(0, 5)] ∧ c + 2 ≠ 30 ∧ c + 2 ≠ 55 ∧ ¬ c + 2 = 336 ∧ ¬ c + 2 = 355 ∧ ¬ c + 2 = 356 ∧ ¬ c + 2 = 357 ∧ ¬ c + 2 = 346 ∧ ¬ c + 2 = 347 ∧ ¬ c + 2 = 354 ∧ ¬ c + 2 = 348 ∧ ¬ c + 2 = 338 ∧ ¬ c + 2 = 340 ∧ ¬ c + 2 = 341 ∧ ¬ c + 2 = 337 ∧ ¬ c + 2 = 1 ∧ ¬ c + 2 = 2 ∧ ¬ c + 2 = 0 ∧ ¬ (c + 2 = 3 ∨ c + 2 = 76 ∨ c + 2 = 101 ∨ c + 2 = 126 ∨ c + 2 = 151) := by decide +kernel
theorem Inv.aB_5_2 {X : Mm} {S : Sh} {M : Mm} (h : Inv X S M) {c i : Int} (hc : isSt c) (h0 : 0 ≤ i) (h1 : i < 5) : 0 ≤ M (c + 2) i ∧ M (c + 2) i ≤ 5 := by
  obtain ⟨q0, q1, q2, q3, -⟩ := ca_5_2 c hc
  exact h.rA ⟨q0, q1⟩ q2 q3 (by decide) h0 h1
theorem Inv.waB_5_2 {X : Mm} {S : Sh} {M : Mm} (h : Inv X S M) {c i v : Int} (hc : isSt c) (h0 : 0 ≤ i) (h1 : i < 5) (hl : 0 ≤ v) (hu : v ≤ 5) : Inv X S (up M (c + 2) i v) := by
  obtain ⟨q0, q1, q2, q3, q4⟩ := ca_5_2 c hc
  exact h.wA _ (nq_pl q4) q3 (okb_of rfl hl hu) (nsp_q q4) (nq_30 q4) q4.2.1
theorem Inv.cpB_5_2 {X : Mm} {S : Sh} {M : Mm} (h : Inv X S M) {o c n : Int} (ho : isSt o) (hc : isSt c) (hn : n ≤ 5) : Inv X S (cpM M (o + 2) 0 (c + 2) 0 n) := by
  obtain ⟨q0, q1, q2, q3, q4⟩ := ca_5_2 c hc
  refine h.cp (fun c1 p e1 e2 => ?_) (fun p _ _ => nsp_q q4) (nq_30 q4) q4.2.1 (nq_pl q4)
  clear q4
  have e3 : c1 = (c + 2).toNat := by omega
  rw [e3, bd_u q3]
  have q := h.aB_5_2 ho (i := p) (by omega) (by omega)
  exact Or.inr q
theorem ca_5_3 : ∀ c ∈ lSt, 0 ≤ c + 3 ∧ (c + 3).toNat < 358 ∧ pT.getD (c + 3).toNat 0 = 5 ∧ bT.getD (c + 3).toNat [] = [(0, 99)] ∧ c + 3 ≠ 30 ∧ c + 3 ≠ 55 ∧ ¬ c + 3 = 336 ∧ ¬ c + 3 = 355 ∧ ¬ c + 3 = 356 ∧ ¬ c + 3 = 357 ∧ ¬ c + 3 = 346 ∧ ¬ c + 3 = 347 ∧ ¬ c + 3 = 354 ∧ ¬ c + 3 = 348 ∧ ¬ c + 3 = 338 ∧ ¬ c + 3 = 340 ∧ ¬ c + 3 = 341 ∧ ¬ c + 3 = 337 ∧ ¬ c + 3 = 1 ∧ ¬ c + 3 = 2 ∧ ¬ c + 3 = 0 ∧ ¬ (c + 3 = 3 ∨ c + 3 = 76 ∨ c + 3 = 101 ∨ c + 3 = 126 ∨ c + 3 = 151) := by decide +kernel
theorem Inv.aB_5_3 {X : Mm} {S : Sh} {M : Mm} (h : Inv X S M) {c i : Int} (hc : isSt c) (h0 : 0 ≤ i) (h1 : i < 5) : 0 ≤ M (c + 3) i ∧ M (c + 3) i ≤ 99 := by
  obtain ⟨q0, q1, q2, q3, -⟩ := ca_5_3 c hc
  exact h.rA ⟨q0, q1⟩ q2 q3 (by decide) h0 h1
theorem Inv.waB_5_3 {X : Mm} {S : Sh} {M : Mm} (h : Inv X S M) {c i v : Int} (hc : isSt c) (h0 : 0 ≤ i) (h1 : i < 5) (hl : 0 ≤ v) (hu : v ≤ 99) : Inv X S (up M (c + 3) i v) := by
  obtain ⟨q0, q1, q2, q3, q4⟩ := ca_5_3 c hc
  exact h.wA _ (nq_pl q4) q3 (okb_of rfl hl hu) (nsp_q q4) (nq_30 q4) q4.2.1
theorem Inv.cpB_5_3 {X : Mm} {S : Sh} {M : Mm} (h : Inv X S M) {o c n : Int} (ho : isSt o) (hc : isSt c) (hn : n ≤ 5) : Inv X S (cpM M (o + 3) 0 (c + 3) 0 n) := by
  obtain ⟨q0, q1, q2, q3, q4⟩ := ca_5_3 c hc
  refine h.cp (fun c1 p e1 e2 => ?_) (fun p _ _ => nsp_q q4) (nq_30 q4) q4.2.1 (nq_pl q4)
  clear q4
  have e3 : c1 = (c + 3).toNat := by omega
  rw [e3, bd_u q3]
  have q := h.aB_5_3 ho (i := p) (by omega) (by omega)
  exact Or.inr q
theorem ca_5_4 : ∀ c ∈ lSt, 0 ≤ c + 4 ∧ (c + 4).toNat < 358 ∧ pT.getD (c + 4).toNat 0 = 4 ∧ bT.getD (c + 4).toNat [] = [(-1, 5)] ∧ c + 4 ≠ 30 ∧ c + 4 ≠ 55 ∧ ¬ c + 4 = 336 ∧ ¬ c + 4 = 355 ∧ ¬ c + 4 = 356 ∧ ¬ c + 4 = 357 ∧ ¬ c + 4 = 346 ∧ ¬ c + 4 = 347 ∧ ¬ c + 4 = 354 ∧ ¬ c + 4 = 348 ∧ ¬ c + 4 = 338 ∧ ¬ c + 4 = 340 ∧ ¬ c + 4 = 341 ∧ ¬ c + 4 = 337 ∧ ¬ c + 4 = 1 ∧ ¬ c + 4 = 2 ∧ ¬ c + 4 = 0 ∧ ¬ (c + 4 = 3 ∨ c + 4 = 76 ∨ c + 4 = 101 ∨ c + 4 = 126 ∨ c + 4 = 151) := by decide +kernel
theorem Inv.aB_5_4 {X : Mm} {S : Sh} {M : Mm} (h : Inv X S M) {c i : Int} (hc : isSt c) (h0 : 0 ≤ i) (h1 : i < 4) : (-1) ≤ M (c + 4) i ∧ M (c + 4) i ≤ 5 := by
  obtain ⟨q0, q1, q2, q3, -⟩ := ca_5_4 c hc
  exact h.rA ⟨q0, q1⟩ q2 q3 (by decide) h0 h1
theorem Inv.waB_5_4 {X : Mm} {S : Sh} {M : Mm} (h : Inv X S M) {c i v : Int} (hc : isSt c) (h0 : 0 ≤ i) (h1 : i < 4) (hl : (-1) ≤ v) (hu : v ≤ 5) : Inv X S (up M (c + 4) i v) := by
  obtain ⟨q0, q1, q2, q3, q4⟩ := ca_5_4 c hc
  exact h.wA _ (nq_pl q4) q3 (okb_of rfl hl hu) (nsp_q q4) (nq_30 q4) q4.2.1
theorem Inv.cpB_5_4 {X : Mm} {S : Sh} {M : Mm} (h : Inv X S M) {o c n : Int} (ho : isSt o) (hc : isSt c) (hn : n ≤ 4) : Inv X S (cpM M (o + 4) 0 (c + 4) 0 n) := by
  obtain ⟨q0, q1, q2, q3, q4⟩ := ca_5_4 c hc
  refine h.cp (fun c1 p e1 e2 => ?_) (fun p _ _ => nsp_q q4) (nq_30 q4) q4.2.1 (nq_pl q4)
  clear q4
  have e3 : c1 = (c + 4).toNat := by omega
  rw [e3, bd_u q3]
  have q := h.aB_5_4 ho (i := p) (by omega) (by omega)
  exact Or.inr q
theorem ca_5_5 : ∀ c ∈ lSt, 0 ≤ c + 5 ∧ (c + 5).toNat < 358 ∧ pT.getD (c + 5).toNat 0 = 4 ∧ bT.getD (c + 5).toNat [] = [(-1, 4)] ∧ c + 5 ≠ 30 ∧ c + 5 ≠ 55 ∧ ¬ c + 5 = 336 ∧ ¬ c + 5 = 355 ∧ ¬ c + 5 = 356 ∧ ¬ c + 5 = 357 ∧ ¬ c + 5 = 346 ∧ ¬ c + 5 = 347 ∧ ¬ c + 5 = 354 ∧ ¬ c + 5 = 348 ∧ ¬ c + 5 = 338 ∧ ¬ c + 5 = 340 ∧ ¬ c + 5 = 341 ∧ ¬ c + 5 = 337 ∧ ¬ c + 5 = 1 ∧ ¬ c + 5 = 2 ∧ ¬ c + 5 = 0 ∧ ¬ (c + 5 = 3 ∨ c + 5 = 76 ∨ c + 5 = 101 ∨ c + 5 = 126 ∨ c + 5 = 151) := by decide +kernel
theorem Inv.aB_5_5 {X : Mm} {S : Sh} {M : Mm} (h : Inv X S M) {c i : Int} (hc : isSt c) (h0 : 0 ≤ i) (h1 : i < 4) : (-1) ≤ M (c + 5) i ∧ M (c + 5) i ≤ 4 := by
  obtain ⟨q0, q1, q2, q3, -⟩ := ca_5_5 c hc
  exact h.rA ⟨q0, q1⟩ q2 q3 (by decide) h0 h1
theorem Inv.waB_5_5 {X : Mm} {S : Sh} {M : Mm} (h : Inv X S M) {c i v : Int} (hc : isSt c) (h0 : 0 ≤ i) (h1 : i < 4) (hl : (-1) ≤ v) (hu : v ≤ 4) : Inv X S (up M (c + 5) i v) := by
  obtain ⟨q0, q1, q2, q3, q4⟩ := ca_5_5 c hc
  exact h.wA _ (nq_pl q4) q3 (okb_of rfl hl hu) (nsp_q q4) (nq_30 q4) q4.2.1
theorem Inv.cpB_5_5 {X : Mm} {S : Sh} {M : Mm} (h : Inv X S M) {o c n : Int} (ho : isSt o) (hc : isSt c) (hn : n ≤ 4) : Inv X S (cpM M (o + 5) 0 (c + 5) 0 n) := by
  obtain ⟨q0, q1, q2, q3, q4⟩ := ca_5_5 c hc
  refine h.cp (fun c1 p e1 e2 => ?_) (fun p _ _ => nsp_q q4) (nq_30 q4) q4.2.1 (nq_pl q4)
  clear q4
  have e3 : c1 = (c + 5).toNat := by omega
  rw [e3, bd_u q3]
  have q := h.aB_5_5 ho (i := p) (by omega) (by omega)
  exact Or.inr q
theorem ca_5_6 : ∀ c ∈ lSt, 0 ≤ c + 6 ∧ (c + 6).toNat < 358 ∧ pT.getD (c + 6).toNat 0 = 4 ∧ bT.getD (c + 6).toNat [] = [(0, 999)] ∧ c + 6 ≠ 30 ∧ c + 6 ≠ 55 ∧ ¬ c + 6 = 336 ∧ ¬ c + 6 = 355 ∧ ¬ c + 6 = 356 ∧ ¬ c + 6 = 357 ∧ ¬ c + 6 = 346 ∧ ¬ c + 6 = 347 ∧ ¬ c + 6 = 354 ∧ ¬ c + 6 = 348 ∧ ¬ c + 6 = 338 ∧ ¬ c + 6 = 340 ∧ ¬ c + 6 = 341 ∧ ¬ c + 6 = 337 ∧ ¬ c + 6 = 1 ∧ ¬ c + 6 = 2 ∧ ¬ c + 6 = 0 ∧ ¬ (c + 6 = 3 ∨ c + 6 = 76 ∨ c + 6 = 101 ∨ c + 6 = 126 ∨ c + 6 = 151) := by decide +kernel
theorem Inv.aB_5_6 {X : Mm} {S : Sh} {M : Mm} (h : Inv X S M) {c i : Int} (hc : isSt c) (h0 : 0 ≤ i) (h1 : i < 4) : 0 ≤ M (c + 6) i ∧ M (c + 6) i ≤ 999 := by
  obtain ⟨q0, q1, q2, q3, -⟩ := ca_5_6 c hc
  exact h.rA ⟨q0, q1⟩ q2 q3 (by decide) h0 h1
theorem Inv.waB_5_6 {X : Mm} {S : Sh} {M : Mm} (h : Inv X S M) {c i v : Int} (hc : isSt c) (h0 : 0 ≤ i) (h1 : i < 4) (hl : 0 ≤ v) (hu : v ≤ 999) : Inv X S (up M (c + 6) i v) := by
  obtain ⟨q0, q1, q2, q3, q4⟩ := ca_5_6 c hc
  exact h.wA _ (nq_pl q4) q3 (okb_of rfl hl hu) (nsp_q q4) (nq_30 q4) q4.2.1
theorem Inv.cpB_5_6 {X : Mm} {S : Sh} {M : Mm} (h : Inv X S M) {o c n : Int} (ho : isSt o) (hc : isSt c) (hn : n ≤ 4) : Inv X S (cpM M (o + 6) 0 (c + 6) 0 n) := by
  obtain ⟨q0, q1, q2, q3, q4⟩ := ca_5_6 c hc
  refine h.cp (fun c1 p e1 e2 => ?_) (fun p _ _ => nsp_q q4) (nq_30 q4) q4.2.1 (nq_pl q4)
  clear q4
  have e3 : c1 = (c + 6).toNat := by omega
  rw [e3, bd_u q3]
  have q := h.aB_5_6 ho (i := p) (by omega) (by omega)
  exact Or.inr q
theorem ca_5_7 : ∀ c ∈ lSt, 0 ≤ c + 7 ∧ (c + 7).toNat < 358 ∧ pT.getD (c + 7).toNat 0 = 6 ∧ bT.getD (c + 7).toNat [] = [(-1, 999)] ∧ c + 7 ≠ 30 ∧ c + 7 ≠ 55 ∧ ¬ c + 7 = 336 ∧ ¬ c + 7 = 355 ∧ ¬ c + 7 = 356 ∧ ¬ c + 7 = 357 ∧ ¬ c + 7 = 346 ∧ ¬ c + 7 = 347 ∧ ¬ c + 7 = 354 ∧ ¬ c + 7 = 348 ∧ ¬ c + 7 = 338 ∧ ¬ c + 7 = 340 ∧ ¬ c + 7 = 341 ∧ ¬ c + 7 = 337 ∧ ¬ c + 7 = 1 ∧ ¬ c + 7 = 2 ∧ ¬ c + 7 = 0 ∧ ¬ (c + 7 = 3 ∨ c + 7 = 76 ∨ c + 7 = 101 ∨ c + 7 = 126 ∨ c + 7 = 151) := by decide +kernel
theorem Inv.aB_5_7 {X : Mm} {S : Sh} {M : Mm} (h : Inv X S M) {c i : Int} (hc : isSt c) (h0 : 0 ≤ i) (h1 : i < 6) : (-1) ≤ M (c + 7) i ∧ M (c + 7) i ≤ 999 := by
  obtain ⟨q0, q1, q2, q3, -⟩ := ca_5_7 c hc
  exact h.rA ⟨q0, q1⟩ q2 q3 (by decide) h0 h1
theorem Inv.waB_5_7 {X : Mm} {S : Sh} {M : Mm} (h : Inv X S M) {c i v : Int} (hc : isSt c) (h0 : 0 ≤ i) (h1 : i < 6) (hl : (-1) ≤ v) (hu : v ≤ 999) : Inv X S (up M (c + 7) i v) := by
  obtain ⟨q0, q1, q2, q3, q4⟩ := ca_5_7 c hc
  exact h.wA _ (nq_pl q4) q3 (okb_of rfl hl hu) (nsp_q q4) (nq_30 q4) q4.2.1
theorem Inv.cpB_5_7 {X : Mm} {S : Sh} {M : Mm} (h : Inv X S M) {o c n : Int} (ho : isSt o) (hc : isSt c) (hn : n ≤ 6) : Inv X S (cpM M (o + 7) 0 (c + 7) 0 n) := by
  obtain ⟨q0, q1, q2, q3, q4⟩ := ca_5_7 c hc
  refine h.cp (fun c1 p e1 e2 => ?_) (fun p _ _ => nsp_q q4) (nq_30 q4) q4.2.1 (nq_pl q4)
  clear q4
  have e3 : c1 = (c + 7).toNat := by omega
  rw [e3, bd_u q3]
  have q := h.aB_5_7 ho (i := p) (by omega) (by omega)
  exact Or.inr q
theorem ck_8_0 : ∀ c ∈ lTo, 0 ≤ c ∧ (c).toNat < 358 ∧ kT.getD (c).toNat 0 = 8 ∧ lT.getD (c).toNat 0 = 0 := by decide +kernel
theorem Shp.kB_8_0 {S : Sh} (h : Shp S) {c : Int} (hc : isTo c) : isK S (c) 8 := by
  obtain ⟨q0, q1, q2, q3⟩ := ck_8_0 c hc
  have q := h.k _ q1 q2
  rw [Int.toNat_of_nonneg q0] at q
  exact q
theorem ck_8_1 : ∀ c ∈ lTo, 0 ≤ c + 1 ∧ (c + 1).toNat < 358 ∧ kT.getD (c + 1).toNat 0 = 14 ∧ lT.getD (c + 1).toNat 0 = 36 := by decide +kernel
theorem Shp.kB_8_1 {S : Sh} (h : Shp S) {c : Int} (hc : isTo c) : isK S (c + 1) 14 := by
  obtain ⟨q0, q1, q2, q3⟩ := ck_8_1 c hc
  have q := h.k _ q1 q2
  rw [Int.toNat_of_nonneg q0] at q
  exact q
theorem Shp.lB_8_1 {S : Sh} (h : Shp S) {c : Int} (hc : isTo c) : S.2.2 (c + 1) = 36 := by
  obtain ⟨q0, q1, q2, q3⟩ := ck_8_1 c hc
  have q := h.l _ q1 q3
  rw [Int.toNat_of_nonneg q0] at q
  exact q
theorem Shp.nB_8_1 {S : Sh} (_ : Shp S) {c : Int} (hc : isTo c) : c + 1 ≠ -1 := by
  obtain ⟨q0, q1, q2, q3⟩ := ck_8_1 c hc
  omega
theorem ck_8_2 : ∀ c ∈ lTo, 0 ≤ c + 2 ∧ (c + 2).toNat < 358 ∧ kT.getD (c + 2).toNat 0 = 14 ∧ lT.getD (c + 2).toNat 0 = 36 := by decide +kernel
theorem Shp.kB_8_2 {S : Sh} (h : Shp S) {c : Int} (hc : isTo c) : isK S (c + 2) 14 := by
  obtain ⟨q0, q1, q2, q3⟩ := ck_8_2 c hc
  have q := h.k _ q1 q2
  rw [Int.toNat_of_nonneg q0] at q
  exact q
theorem Shp.lB_8_2 {S : Sh} (h : Shp S) {c : Int} (hc : isTo c) : S.2.2 (c + 2) = 36 := by
  obtain ⟨q0, q1, q2, q3⟩ := ck_8_2 c hc
  have q := h.l _ q1 q3
  rw [Int.toNat_of_nonneg q0] at q
  exact q
theorem Shp.nB_8_2 {S : Sh} (_ : Shp S) {c : Int} (hc : isTo c) : c + 2 ≠ -1 := by
  obtain ⟨q0, q1, q2, q3⟩ := ck_8_2 c hc
  omega
theorem ck_8_3 : ∀ c ∈ lTo, 0 ≤ c + 3 ∧ (c + 3).toNat < 358 ∧ kT.getD (c + 3).toNat 0 = 14 ∧ lT.getD (c + 3).toNat 0 = 5 := by decide +kernel
theorem Shp.kB_8_3 {S : Sh} (h : Shp S) {c : Int} (hc : isTo c) : isK S (c + 3) 14 := by
  obtain ⟨q0, q1, q2, q3⟩ := ck_8_3 c hc
  have q := h.k _ q1 q2
  rw [Int.toNat_of_nonneg q0] at q
  exact q
theorem Shp.lB_8_3 {S : Sh} (h : Shp S) {c : Int} (hc : isTo c) : S.2.2 (c + 3) = 5 := by
  obtain ⟨q0, q1, q2, q3⟩ := ck_8_3 c hc
  have q := h.l _ q1 q3
  rw [Int.toNat_of_nonneg q0] at q
  exact q
theorem Shp.nB_8_3 {S : Sh} (_ : Shp S) {c : Int} (hc : isTo c) : c + 3 ≠ -1 := by
  obtain ⟨q0, q1, q2, q3⟩ := ck_8_3 c hc
  omega
theorem ck_8_4 : ∀ c ∈ lTo, 0 ≤ c + 4 ∧ (c + 4).toNat < 358 ∧ kT.getD (c + 4).toNat 0 = 14 ∧ lT.getD (c + 4).toNat 0 = 5 := by decide +kernel
theorem Shp.kB_8_4 {S : Sh} (h : Shp S) {c : Int} (hc : isTo c) : isK S (c + 4) 14 := by
  obtain ⟨q0, q1, q2, q3⟩ := ck_8_4 c hc
  have q := h.k _ q1 q2
  rw [Int.toNat_of_nonneg q0] at q
  exact q
theorem Shp.lB_8_4 {S : Sh} (h : Shp S) {c : Int} (hc : isTo c) : S.2.2 (c + 4) = 5 := by
  obtain ⟨q0, q1, q2, q3⟩ := ck_8_4 c hc
  have q := h.l _ q1 q3
  rw [Int.toNat_of_nonneg q0] at q
  exact q
theorem Shp.nB_8_4 {S : Sh} (_ : Shp S) {c : Int} (hc : isTo c) : c + 4 ≠ -1 := by
  obtain ⟨q0, q1, q2, q3⟩ := ck_8_4 c hc
  omega
theorem ck_8_5 : ∀ c ∈ lTo, 0 ≤ c + 5 ∧ (c + 5).toNat < 358 ∧ kT.getD (c + 5).toNat 0 = 14 ∧ lT.getD (c + 5).toNat 0 = 4 := by decide +kernel
theorem Shp.kB_8_5 {S : Sh} (h : Shp S) {c : Int} (hc : isTo c) : isK S (c + 5) 14 := by
  obtain ⟨q0, q1, q2, q3⟩ := ck_8_5 c hc
  have q := h.k _ q1 q2
  rw [Int.toNat_of_nonneg q0] at q
  exact q
theorem Shp.lB_8_5 {S : Sh} (h : Shp S) {c : Int} (hc : isTo c) : S.2.2 (c + 5) = 4 := by
  obtain ⟨q0, q1, q2, q3⟩ := ck_8_5 c hc
  have q := h.l _ q1 q3
  rw [Int.toNat_of_nonneg q0] at q
  exact q
theorem Shp.nB_8_5 {S : Sh} (_ : Shp S) {c : Int} (hc : isTo c) : c + 5 ≠ -1 := by
  obtain ⟨q0, q1, q2, q3⟩ := ck_8_5 c hc
  omega
theorem ck_8_6 : ∀ c ∈ lTo, 0 ≤ c + 6 ∧ (c + 6).toNat < 358 ∧ kT.getD (c + 6).toNat 0 = 14 ∧ lT.getD (c + 6).toNat 0 = 4 := by decide +kernel
theorem Shp.kB_8_6 {S : Sh} (h : Shp S) {c : Int} (hc : isTo c) : isK S (c + 6) 14 := by
  obtain ⟨q0, q1, q2, q3⟩ := ck_8_6 c hc
  have q := h.k _ q1 q2
  rw [Int.toNat_of_nonneg q0] at q
  exact q
theorem Shp.lB_8_6 {S : Sh} (h : Shp S) {c : Int} (hc : isTo c) : S.2.2 (c + 6) = 4 := by
  obtain ⟨q0, q1, q2, q3⟩ := ck_8_6 c hc
  have q := h.l _ q1 q3
  rw [Int.toNat_of_nonneg q0] at q
  exact q
theorem Shp.nB_8_6 {S : Sh} (_ : Shp S) {c : Int} (hc : isTo c) : c + 6 ≠ -1 := by
  obtain ⟨q0, q1, q2, q3⟩ := ck_8_6 c hc
  omega
theorem ck_8_7 : ∀ c ∈ lTo, 0 ≤ c + 7 ∧ (c + 7).toNat < 358 ∧ kT.getD (c + 7).toNat 0 = 14 ∧ lT.getD (c + 7).toNat 0 = 4 := by decide +kernel
theorem Shp.kB_8_7 {S : Sh} (h : Shp S) {c : Int} (hc : isTo c) : isK S (c + 7) 14 := by
  obtain ⟨q0, q1, q2, q3⟩ := ck_8_7 c hc
  have q := h.k _ q1 q2
  rw [Int.toNat_of_nonneg q0] at q
  exact q
theorem Shp.lB_8_7 {S : Sh} (h : Shp S) {c : Int} (hc : isTo c) : S.2.2 (c + 7) = 4 := by
  obtain ⟨q0, q1, q2, q3⟩ := ck_8_7 c hc
  have q := h.l _ q1 q3
  rw [Int.toNat_of_nonneg q0] at q
  exact q
theorem Shp.nB_8_7 {S : Sh} (_ : Shp S) {c : Int} (hc : isTo c) : c + 7 ≠ -1 := by
  obtain ⟨q0, q1, q2, q3⟩ := ck_8_7 c hc
  omega
theorem ck_8_8 : ∀ c ∈ lTo, 0 ≤ c + 8 ∧ (c + 8).toNat < 358 ∧ kT.getD (c + 8).toNat 0 = 14 ∧ lT.getD (c + 8).toNat 0 = 6 := by decide +kernel
theorem Shp.kB_8_8 {S : Sh} (h : Shp S) {c : Int} (hc : isTo c) : isK S (c + 8) 14 := by
  obtain ⟨q0, q1, q2, q3⟩ := ck_8_8 c hc
  have q := h.k _ q1 q2
  rw [Int.toNat_of_nonneg q0] at q
  exact q
theorem Shp.lB_8_8 {S : Sh} (h : Shp S) {c : Int} (hc : isTo c) : S.2.2 (c + 8) = 6 := by
  obtain ⟨q0, q1, q2, q3⟩ := ck_8_8 c hc
  have q := h.l _ q1 q3
  rw [Int.toNat_of_nonneg q0] at q
  exact q
theorem Shp.nB_8_8 {S : Sh} (_ : Shp S) {c : Int} (hc : isTo c) : c + 8 ≠ -1 := by
  obtain ⟨q0, q1, q2, q3⟩ := ck_8_8 c hc
  omega
theorem ck_8_9 : ∀ c ∈ lTo, 0 ≤ c + 9 ∧ (c + 9).toNat < 358 ∧ kT.getD (c + 9).toNat 0 = 14 ∧ lT.getD (c + 9).toNat 0 = 6 := by decide +kernel
theorem Shp.kB_8_9 {S : Sh} (h : Shp S) {c : Int} (hc : isTo c) : isK S (c + 9) 14 := by
  obtain ⟨q0, q1, q2, q3⟩ := ck_8_9 c hc
  have q := h.k _ q1 q2
  rw [Int.toNat_of_nonneg q0] at q
  exact q
theorem Shp.lB_8_9 {S : Sh} (h : Shp S) {c : Int} (hc : isTo c) : S.2.2 (c + 9) = 6 := by
  obtain ⟨q0, q1, q2, q3⟩ := ck_8_9 c hc
  have q := h.l _ q1 q3
  rw [Int.toNat_of_nonneg q0] at q
  exact q
theorem Shp.nB_8_9 {S : Sh} (_ : Shp S) {c : Int} (hc : isTo c) : c + 9 ≠ -1 := by
  obtain ⟨q0, q1, q2, q3⟩ := ck_8_9 c hc
  omega
theorem ck_8_10 : ∀ c ∈ lTo, 0 ≤ c + 10 ∧ (c + 10).toNat < 358 ∧ kT.getD (c + 10).toNat 0 = 14 ∧ lT.getD (c + 10).toNat 0 = 6 := by decide +kernel
theorem Shp.kB_8_10 {S : Sh} (h : Shp S) {c : Int} (hc : isTo c) : isK S (c + 10) 14 := by
  obtain ⟨q0, q1, q2, q3⟩ := ck_8_10 c hc
  have q := h.k _ q1 q2
  rw [Int.toNat_of_nonneg q0] at q
  exact q
theorem Shp.lB_8_10 {S : Sh} (h : Shp S) {c : Int} (hc : isTo c) : S.2.2 (c + 10) = 6 := by
  obtain ⟨q0, q1, q2, q3⟩ := ck_8_10 c hc
  have q := h.l _ q1 q3
  rw [Int.toNat_of_nonneg q0] at q
  exact q
theorem Shp.nB_8_10 {S : Sh} (_ : Shp S) {c : Int} (hc : isTo c) : c + 10 ≠ -1 := by
  obtain ⟨q0, q1, q2, q3⟩ := ck_8_10 c hc
  omega
theorem ck_8_11 : ∀ c ∈ lTo, 0 ≤ c + 11 ∧ (c + 11).toNat < 358 ∧ kT.getD (c + 11).toNat 0 = 14 ∧ lT.getD (c + 11).toNat 0 = 6 := by decide +kernel
theorem Shp.kB_8_11 {S : Sh} (h : Shp S) {c : Int} (hc : isTo c) : isK S (c + 11) 14 := by
  obtain ⟨q0, q1, q2, q3⟩ := ck_8_11 c hc
  have q := h.k _ q1 q2
  rw [Int.toNat_of_nonneg q0] at q
  exact q
theorem Shp.lB_8_11 {S : Sh} (h : Shp S) {c : Int} (hc : isTo c) : S.2.2 (c + 11) = 6 := by
  obtain ⟨q0, q1, q2, q3⟩ := ck_8_11 c hc
  have q := h.l _ q1 q3
  rw [Int.toNat_of_nonneg q0] at q
  exact q
theorem Shp.nB_8_11 {S : Sh} (_ : Shp S) {c : Int} (hc : isTo c) : c + 11 ≠ -1 := by
  obtain ⟨q0, q1, q2, q3⟩ := ck_8_11 c hc
  omega
theorem cf_8_0 : ∀ c ∈ lTo, 0 ≤ c ∧ c.toNat < 358 ∧ 0 < pT.getD c.toNat 0 ∧ bd c.toNat 0 = (0, 6) ∧ c ≠ 30 ∧ c ≠ 55 ∧ ¬ c = 336 ∧ ¬ c = 355 ∧ ¬ c = 356 ∧ ¬ c = 357 ∧ ¬ c = 346 ∧ ¬ c = 347 ∧ ¬ c = 354 ∧ ¬ c = 348 ∧ ¬ c = 338 ∧ ¬ c = 340 ∧ ¬ c = 341 ∧ ¬ c = 337 ∧ ¬ c = 1 ∧ ¬ c = 2 ∧ ¬ c = 0 ∧ ¬ (c = 3 ∨ c = 76 ∨ c = 101 ∨ c = 126 ∨ c = 151) := by decide +kernel
theorem Inv.fB_8_0 {X : Mm} {S : Sh} {M : Mm} (h : Inv X S M) {c : Int} (hc : isTo c) : 0 ≤ M c 0 ∧ M c 0 ≤ 6 := by
  obtain ⟨q0, q1, q2, q3, -⟩ := cf_8_0 c hc
  have q := h.rd c.toNat 0 _ _ q1 q2 q3 (by decide)
  rw [Int.toNat_of_nonneg q0] at q
  exact q
theorem Inv.wB_8_0 {X : Mm} {S : Sh} {M : Mm} (h : Inv X S M) {c v : Int} (hc : isTo c) (hl : 0 ≤ v) (hu : v ≤ 6) : Inv X S (up M c 0 v) := by
  obtain ⟨q0, q1, q2, q3, q4⟩ := cf_8_0 c hc
  have e : ((c.toNat : Nat) : Int) = c := Int.toNat_of_nonneg q0
  have q := h.wl c.toNat 0 (by rw [e]; exact h.pl.put (nq_p q4) (fun z => absurd z (nq_46 q4))) (okb_of q3 hl hu) (by rw [e]; exact nsp_q q4) (by rw [e]; exact nq_30 q4) (by rw [e]; exact fun z => q4.2.1 z.1)
  rw [e] at q
  exact q
theorem cf_8_1 : ∀ c ∈ lTo, 0 ≤ c ∧ c.toNat < 358 ∧ 1 < pT.getD c.toNat 0 ∧ bd c.toNat 1 = (0, 9) ∧ c ≠ 30 ∧ c ≠ 55 ∧ ¬ c = 336 ∧ ¬ c = 355 ∧ ¬ c = 356 ∧ ¬ c = 357 ∧ ¬ c = 346 ∧ ¬ c = 347 ∧ ¬ c = 354 ∧ ¬ c = 348 ∧ ¬ c = 338 ∧ ¬ c = 340 ∧ ¬ c = 341 ∧ ¬ c = 337 ∧ ¬ c = 1 ∧ ¬ c = 2 ∧ ¬ c = 0 ∧ ¬ (c = 3 ∨ c = 76 ∨ c = 101 ∨ c = 126 ∨ c = 151) := by decide +kernel
theorem Inv.fB_8_1 {X : Mm} {S : Sh} {M : Mm} (h : Inv X S M) {c : Int} (hc : isTo c) : 0 ≤ M c 1 ∧ M c 1 ≤ 9 := by
  obtain ⟨q0, q1, q2, q3, -⟩ := cf_8_1 c hc
  have q := h.rd c.toNat 1 _ _ q1 q2 q3 (by decide)
  rw [Int.toNat_of_nonneg q0] at q
  exact q
theorem Inv.wB_8_1 {X : Mm} {S : Sh} {M : Mm} (h : Inv X S M) {c v : Int} (hc : isTo c) (hl : 0 ≤ v) (hu : v ≤ 9) : Inv X S (up M c 1 v) := by
  obtain ⟨q0, q1, q2, q3, q4⟩ := cf_8_1 c hc
  have e : ((c.toNat : Nat) : Int) = c := Int.toNat_of_nonneg q0
  have q := h.wl c.toNat 1 (by rw [e]; exact h.pl.put (nq_p q4) (fun z => absurd z (nq_46 q4))) (okb_of q3 hl hu) (by rw [e]; exact nsp_q q4) (by rw [e]; exact nq_30 q4) (by rw [e]; exact fun z => q4.2.1 z.1)
  rw [e] at q
  exact q
theorem cf_8_2 : ∀ c ∈ lTo, 0 ≤ c ∧ c.toNat < 358 ∧ 2 < pT.getD c.toNat 0 ∧ bd c.toNat 2 = (0, 99) ∧ c ≠ 30 ∧ c ≠ 55 ∧ ¬ c = 336 ∧ ¬ c = 355 ∧ ¬ c = 356 ∧ ¬ c = 357 ∧ ¬ c = 346 ∧ ¬ c = 347 ∧ ¬ c = 354 ∧ ¬ c = 348 ∧ ¬ c = 338 ∧ ¬ c = 340 ∧ ¬ c = 341 ∧ ¬ c = 337 ∧ ¬ c = 1 ∧ ¬ c = 2 ∧ ¬ c = 0 ∧ ¬ (c = 3 ∨ c = 76 ∨ c = 101 ∨ c = 126 ∨ c = 151) := by decide +kernel
theorem Inv.fB_8_2 {X : Mm} {S : Sh} {M : Mm} (h : Inv X S M) {c : Int} (hc : isTo c) : 0 ≤ M c 2 ∧ M c 2 ≤ 99 := by
  obtain ⟨q0, q1, q2, q3, -⟩ := cf_8_2 c hc
  have q := h.rd c.toNat 2 _ _ q1 q2 q3 (by decide)
  rw [Int.toNat_of_nonneg q0] at q
  exact q
theorem Inv.wB_8_2 {X : Mm} {S : Sh} {M : Mm} (h : Inv X S M) {c v : Int} (hc : isTo c) (hl : 0 ≤ v) (hu : v ≤ 99) : Inv X S (up M c 2 v) := by
  obtain ⟨q0, q1, q2, q3, q4⟩ := cf_8_2 c hc
  have e : ((c.toNat : Nat) : Int) = c := Int.toNat_of_nonneg q0
  have q := h.wl c.toNat 2 (by rw [e]; exact h.pl.put (nq_p q4) (fun z => absurd z (nq_46 q4))) (okb_of q3 hl hu) (by rw [e]; exact nsp_q q4) (by rw [e]; exact nq_30 q4) (by rw [e]; exact fun z => q4.2.1 z.1)
  rw [e] at q
  exact q
theorem cf_8_3 : ∀ c ∈ lTo, 0 ≤ c ∧ c.toNat < 358 ∧ 3 < pT.getD c.toNat 0 ∧ bd c.toNat 3 = (0, 8) ∧ c ≠ 30 ∧ c ≠ 55 ∧ ¬ c = 336 ∧ ¬ c = 355 ∧ ¬ c = 356 ∧ ¬ c = 357 ∧ ¬ c = 346 ∧ ¬ c = 347 ∧ ¬ c = 354 ∧ ¬ c = 348 ∧ ¬ c = 338 ∧ ¬ c = 340 ∧ ¬ c = 341 ∧ ¬ c = 337 ∧ ¬ c = 1 ∧ ¬ c = 2 ∧ ¬ c = 0 ∧ ¬ (c = 3 ∨ c = 76 ∨ c = 101 ∨ c = 126 ∨ c = 151) := by decide +kernel
theorem Inv.fB_8_3 {X : Mm} {S : Sh} {M : Mm} (h : Inv X S M) {c : Int} (hc : isTo c) : 0 ≤ M c 3 ∧ M c 3 ≤ 8 := by
  obtain ⟨q0, q1, q2, q3, -⟩ := cf_8_3 c hc
  have q := h.rd c.toNat 3 _ _ q1 q2 q3 (by decide)
  rw [Int.toNat_of_nonneg q0] at q
  exact q
theorem Inv.wB_8_3 {X : Mm} {S : Sh} {M : Mm} (h : Inv X S M) {c v : Int} (hc : isTo c) (hl : 0 ≤ v) (hu : v ≤ 8) : Inv X S (up M c 3 v) := by
  obtain ⟨q0, q1, q2, q3, q4⟩ := cf_8_3 c hc
  have e : ((c.toNat : Nat) : Int) = c := Int.toNat_of_nonneg q0
  have q := h.wl c.toNat 3 (by rw [e]; exact h.pl.put (nq_p q4) (fun z => absurd z (nq_46 q4))) (okb_of q3 hl hu) (by rw [e]; exact nsp_q q4) (by rw [e]; exact nq_30 q4) (by rw [e]; exact fun z => q4.2.1 z.1)
  rw [e] at q
  exact q
theorem cf_8_4 : ∀ c ∈ lTo, 0 ≤ c ∧ c.toNat < 358 ∧ 4 < pT.getD c.toNat 0 ∧ bd c.toNat 4 = (0, 5) ∧ c ≠ 30 ∧ c ≠ 55 ∧ ¬ c = 336 ∧ ¬ c = 355 ∧ ¬ c = 356 ∧ ¬ c = 357 ∧ ¬ c = 346 ∧ ¬ c = 347 ∧ ¬ c = 354 ∧ ¬ c = 348 ∧ ¬ c = 338 ∧ ¬ c = 340 ∧ ¬ c = 341 ∧ ¬ c = 337 ∧ ¬ c = 1 ∧ ¬ c = 2 ∧ ¬ c = 0 ∧ ¬ (c = 3 ∨ c = 76 ∨ c = 101 ∨ c = 126 ∨ c = 151) := by decide +kernel
theorem Inv.fB_8_4 {X : Mm} {S : Sh} {M : Mm} (h : Inv X S M) {c : Int} (hc : isTo c) : 0 ≤ M c 4 ∧ M c 4 ≤ 5 := by
  obtain ⟨q0, q1, q2, q3, -⟩ := cf_8_4 c hc
  have q := h.rd c.toNat 4 _ _ q1 q2 q3 (by decide)
  rw [Int.toNat_of_nonneg q0] at q
  exact q
theorem Inv.wB_8_4 {X : Mm} {S : Sh} {M : Mm} (h : Inv X S M) {c v : Int} (hc : isTo c) (hl : 0 ≤ v) (hu : v ≤ 5) : Inv X S (up M c 4 v) := by
  obtain ⟨q0, q1, q2, q3, q4⟩ := cf_8_4 c hc
  have e : ((c.toNat : Nat) : Int) = c := Int.toNat_of_nonneg q0
  have q := h.wl c.toNat 4 (by rw [e]; exact h.pl.put (nq_p q4) (fun z => absurd z (nq_46 q4))) (okb_of q3 hl hu) (by rw [e]; exact nsp_q q4) (by rw [e]; exact nq_30 q4) (by rw [e]; exact fun z => q4.2.1 z.1)
  rw [e] at q
  exact q
theorem cf_8_5 : ∀ c ∈ lTo, 0 ≤ c ∧ c.toNat < 358 ∧ 5 < pT.getD c.toNat 0 ∧ bd c.toNat 5 = (0, 4) ∧ c ≠ 30 ∧ c ≠ 55 ∧ ¬ c = 336 ∧ ¬ c = 355 ∧ ¬ c = 356 ∧ ¬ c = 357 ∧ ¬ c = 346 ∧ ¬ c = 347 ∧ ¬ c = 354 ∧ ¬ c = 348 ∧ ¬ c = 338 ∧ ¬ c = 340 ∧ ¬ c = 341 ∧ ¬ c = 337 ∧ ¬ c = 1 ∧ ¬ c = 2 ∧ ¬ c = 0 ∧ ¬ (c = 3 ∨ c = 76 ∨ c = 101 ∨ c = 126 ∨ c = 151) := by decide +kernel
theorem Inv.fB_8_5 {X : Mm} {S : Sh} {M : Mm} (h : Inv X S M) {c : Int} (hc : isTo c) : 0 ≤ M c 5 ∧ M c 5 ≤ 4 := by
  obtain ⟨q0, q1, q2, q3, -⟩ := cf_8_5 c hc
  have q := h.rd c.toNat 5 _ _ q1 q2 q3 (by decide)
  rw [Int.toNat_of_nonneg q0] at q
  exact q
theorem Inv.wB_8_5 {X : Mm} {S : Sh} {M : Mm} (h : Inv X S M) {c v : Int} (hc : isTo c) (hl : 0 ≤ v) (hu : v ≤ 4) : Inv X S (up M c 5 v) := by
  obtain ⟨q0, q1, q2, q3, q4⟩ := cf_8_5 c hc
  have e : ((c.toNat : Nat) : Int) = c := Int.toNat_of_nonneg q0
  have q := h.wl c.toNat 5 (by rw [e]; exact h.pl.put (nq_p q4) (fun z => absurd z (nq_46 q4))) (okb_of q3 hl hu) (by rw [e]; exact nsp_q q4) (by rw [e]; exact nq_30 q4) (by rw [e]; exact fun z => q4.2.1 z.1)
  rw [e] at q
  exact q
theorem cf_8_6 : ∀ c ∈ lTo, 0 ≤ c ∧ c.toNat < 358 ∧ 6 < pT.getD c.toNat 0 ∧ bd c.toNat 6 = (0, 4) ∧ c ≠ 30 ∧ c ≠ 55 ∧ ¬ c = 336 ∧ ¬ c = 355 ∧ ¬ c = 356 ∧ ¬ c = 357 ∧ ¬ c = 346 ∧ ¬ c = 347 ∧ ¬ c = 354 ∧ ¬ c = 348 ∧ ¬ c = 338 ∧ ¬ c = 340 ∧ ¬ c = 341 ∧ ¬ c = 337 ∧ ¬ c = 1 ∧ ¬ c = 2 ∧ ¬ c = 0 ∧ ¬ (c = 3 ∨ c = 76 ∨ c = 101 ∨ c = 126 ∨ c = 151) := by decide +kernel
theorem Inv.fB_8_6 {X : Mm} {S : Sh} {M : Mm} (h : Inv X S M) {c : Int} (hc : isTo c) : 0 ≤ M c 6 ∧ M c 6 ≤ 4 := by
  obtain ⟨q0, q1, q2, q3, -⟩ := cf_8_6 c hc
  have q := h.rd c.toNat 6 _ _ q1 q2 q3 (by decide)
  rw [Int.toNat_of_nonneg q0] at q
  exact q
theorem Inv.wB_8_6 {X : Mm} {S : Sh} {M : Mm} (h : Inv X S M) {c v : Int} (hc : isTo c) (hl : 0 ≤ v) (hu : v ≤ 4) : Inv X S (up M c 6 v) := by
  obtain ⟨q0, q1, q2, q3, q4⟩ := cf_8_6 c hc
  have e : ((c.toNat : Nat) : Int) = c := Int.toNat_of_nonneg q0
  have q := h.wl c.toNat 6 (by rw [e]; exact h.pl.put (nq_p q4) (fun z => absurd z (nq_46 q4))) (okb_of q3 hl hu) (by rw [e]; exact nsp_q q4) (by rw [e]; exact nq_30 q4) (by rw [e]; exact fun z => q4.2.1 z.1)
  rw [e] at q
  exact q
theorem cf_8_7 : ∀ c ∈ lTo, 0 ≤ c ∧ c.toNat < 358 ∧ 7 < pT.getD c.toNat 0 ∧ bd c.toNat 7 = (0, 6) ∧ c ≠ 30 ∧ c ≠ 55 ∧ ¬ c = 336 ∧ ¬ c = 355 ∧ ¬ c = 356 ∧ ¬ c = 357 ∧ ¬ c = 346 ∧ ¬ c = 347 ∧ ¬ c = 354 ∧ ¬ c = 348 ∧ ¬ c = 338 ∧ ¬ c = 340 ∧ ¬ c = 341 ∧ ¬ c = 337 ∧ ¬ c = 1 ∧ ¬ c = 2 ∧ ¬ c = 0 ∧ ¬ (c = 3 ∨ c = 76 ∨ c = 101 ∨ c = 126 ∨ c = 151) := by decide +kernel
theorem Inv.fB_8_7 {X : Mm} {S : Sh} {M : Mm} (h : Inv X S M) {c : Int} (hc : isTo c) : 0 ≤ M c 7 ∧ M c 7 ≤ 6 := by
  obtain ⟨q0, q1, q2, q3, -⟩ := cf_8_7 c hc
  have q := h.rd c.toNat 7 _ _ q1 q2 q3 (by decide)
  rw [Int.toNat_of_nonneg q0] at q
  exact q
theorem Inv.wB_8_7 {X : Mm} {S : Sh} {M : Mm} (h : Inv X S M) {c v : Int} (hc : isTo c) (hl : 0 ≤ v) (hu : v ≤ 6) : Inv X S (up M c 7 v) := by
  obtain ⟨q0, q1, q2, q3, q4⟩ := cf_8_7 c hc
  have e : ((c.toNat : Nat) : Int) = c := Int.toNat_of_nonneg q0
  have q := h.wl c.toNat 7 (by rw [e]; exact h.pl.put (nq_p q4) (fun z => absurd z (nq_46 q4))) (okb_of q3 hl hu) (by rw [e]; exact nsp_q q4) (by rw [e]; exact nq_30 q4) (by rw [e]; exact fun z => q4.2.1 z.1)
  rw [e] at q
  exact q
theorem cf_8_8 : ∀ c ∈ lTo, 0 ≤ c ∧ c.toNat < 358 ∧ 8 < pT.getD c.toNat 0 ∧ bd c.toNat 8 = (c + 1, c + 1) ∧ c ≠ 30 ∧ c ≠ 55 ∧ ¬ c = 336 ∧ ¬ c = 355 ∧ ¬ c = 356 ∧ ¬ c = 357 ∧ ¬ c = 346 ∧ ¬ c = 347 ∧ ¬ c = 354 ∧ ¬ c = 348 ∧ ¬ c = 338 ∧ ¬ c = 340 ∧ ¬ c = 341 ∧ ¬ c = 337 ∧ ¬ c = 1 ∧ ¬ c = 2 ∧ ¬ c = 0 ∧ ¬ (c = 3 ∨ c = 76 ∨ c = 101 ∨ c = 126 ∨ c = 151) := by decide +kernel
theorem Inv.fB_8_8 {X : Mm} {S : Sh} {M : Mm} (h : Inv X S M) {c : Int} (hc : isTo c) : M c 8 = c + 1 := by
  obtain ⟨q0, q1, q2, q3, -⟩ := cf_8_8 c hc
  have q := h.rd c.toNat 8 _ _ q1 q2 q3 (Int.le_refl _)
  rw [Int.toNat_of_nonneg q0] at q
  exact Int.le_antisymm q.2 q.1
theorem cf_8_9 : ∀ c ∈ lTo, 0 ≤ c ∧ c.toNat < 358 ∧ 9 < pT.getD c.toNat 0 ∧ bd c.toNat 9 = (c + 2, c + 2) ∧ c ≠ 30 ∧ c ≠ 55 ∧ ¬ c = 336 ∧ ¬ c = 355 ∧ ¬ c = 356 ∧ ¬ c = 357 ∧ ¬ c = 346 ∧ ¬ c = 347 ∧ ¬ c = 354 ∧ ¬ c = 348 ∧ ¬ c = 338 ∧ ¬ c = 340 ∧ ¬ c = 341 ∧ ¬ c = 337 ∧ ¬ c = 1 ∧ ¬ c = 2 ∧ ¬ c = 0 ∧ ¬ (c = 3 ∨ c = 76 ∨ c = 101 ∨ c = 126 ∨ c = 151) := by decide +kernel
theorem Inv.fB_8_9 {X : Mm} {S : Sh} {M : Mm} (h : Inv X S M) {c : Int} (hc : isTo c) : M c 9 = c + 2 := by
  obtain ⟨q0, q1, q2, q3, -⟩ := cf_8_9 c hc
  have q := h.rd c.toNat 9 _ _ q1 q2 q3 (Int.le_refl _)
  rw [Int.toNat_of_nonneg q0] at q
  exact Int.le_antisymm q.2 q.1
theorem cf_8_10 : ∀ c ∈ lTo, 0 ≤ c ∧ c.toNat < 358 ∧ 10 < pT.getD c.toNat 0 ∧ bd c.toNat 10 = (c + 3, c + 3) ∧ c ≠ 30 ∧ c ≠ 55 ∧ ¬ c = 336 ∧ ¬ c = 355 ∧ ¬ c = 356 ∧ ¬ c = 357 ∧ ¬ c = 346 ∧ ¬ c = 347 ∧ ¬ c = 354 ∧ ¬ c = 348 ∧ ¬ c = 338 ∧ ¬ c = 340 ∧ ¬ c = 341 ∧ ¬ c = 337 ∧ ¬ c = 1 ∧ ¬ c = 2 ∧ ¬ c = 0 ∧ ¬ (c = 3 ∨ c = 76 ∨ c = 101 ∨ c = 126 ∨ c = 151) := by decide +kernel
theorem Inv.fB_8_10 {X : Mm} {S : Sh} {M : Mm} (h : Inv X S M) {c : Int} (hc : isTo c) : M c 10 = c + 3 := by
  obtain ⟨q0, q1, q2, q3, -⟩ := cf_8_10 c hc
  have q := h.rd c.toNat 10 _ _ q1 q2 q3 (Int.le_refl _)
  rw [Int.toNat_of_nonneg q0] at q
  exact Int.le_antisymm q.2 q.1
theorem cf_8_11 : ∀ c ∈ lTo, 0 ≤ c ∧ c.toNat < 358 ∧ 11 < pT.getD c.toNat 0 ∧ bd c.toNat 11 = (c + 4, c + 4) ∧ c ≠ 30 ∧ c ≠ 55 ∧ ¬ c = 336 ∧ ¬ c = 355 ∧ ¬ c = 356 ∧ ¬ c = 357 ∧ ¬ c = 346 ∧ ¬ c = 347 ∧ ¬ c = 354 ∧ ¬ c = 348 ∧ ¬ c = 338 ∧ ¬ c = 340 ∧ ¬ c = 341 ∧ ¬ c = 337 ∧ ¬ c = 1 ∧ ¬ c = 2 ∧ ¬ c = 0 ∧ ¬ (c = 3 ∨ c = 76 ∨ c = 101 ∨ c = 126 ∨ c = 151) := by decide +kernel
theorem Inv.fB_8_11 {X : Mm} {S : Sh} {M : Mm} (h : Inv X S M) {c : Int} (hc : isTo c) : M c 11 = c + 4 := by
  obtain ⟨q0, q1, q2, q3, -⟩ := cf_8_11 c hc
  have q := h.rd c.toNat 11 _ _ q1 q2 q3 (Int.le_refl _)
  rw [Int.toNat_of_nonneg q0] at q
  exact Int.le_antisymm q.2 q.1
theorem cf_8_12 : ∀ c ∈ lTo, 0 ≤ c ∧ c.toNat < 358 ∧ 12 < pT.getD c.toNat 0 ∧ bd c.toNat 12 = (c + 5, c + 5) ∧ c ≠ 30 ∧ c ≠ 55 ∧ ¬ c = 336 ∧ ¬ c = 355 ∧ ¬ c = 356 ∧ ¬ c = 357 ∧ ¬ c = 346 ∧ ¬ c = 347 ∧ ¬ c = 354 ∧ ¬ c = 348 ∧ ¬ c = 338 ∧ ¬ c = 340 ∧ ¬ c = 341 ∧ ¬ c = 337 ∧ ¬ c = 1 ∧ ¬ c = 2 ∧ ¬ c = 0 ∧ ¬ (c = 3 ∨ c = 76 ∨ c = 101 ∨ c = 126 ∨ c = 151) := by decide +kernel
theorem Inv.fB_8_12 {X : Mm} {S : Sh} {M : Mm} (h : Inv X S M) {c : Int} (hc : isTo c) : M c 12 = c + 5 := by
  obtain ⟨q0, q1, q2, q3, -⟩ := cf_8_12 c hc
  have q := h.rd c.toNat 12 _ _ q1 q2 q3 (Int.le_refl _)
  rw [Int.toNat_of_nonneg q0] at q
  exact Int.le_antisymm q.2 q.1
theorem cf_8_13 : ∀ c ∈ lTo, 0 ≤ c ∧ c.toNat < 358 ∧ 13 < pT.getD c.toNat 0 ∧ bd c.toNat 13 = (c + 6, c + 6) ∧ c ≠ 30 ∧ c ≠ 55 ∧ ¬ c = 336 ∧ ¬ c = 355 ∧ ¬ c = 356 ∧ ¬ c = 357 ∧ ¬ c = 346 ∧ ¬ c = 347 ∧ ¬ c = 354 ∧ ¬ c = 348 ∧ ¬ c = 338 ∧ ¬ c = 340 ∧ ¬ c = 341 ∧ ¬ c = 337 ∧ ¬ c = 1 ∧ ¬ c = 2 ∧ ¬ c = 0 ∧ ¬ (c = 3 ∨ c = 76 ∨ c = 101 ∨ c = 126 ∨ c = 151) := by decide +kernel
theorem Inv.fB_8_13 {X : Mm} {S : Sh} {M : Mm} (h : Inv X S M) {c : Int} (hc : isTo c) : M c 13 = c + 6 := by
  obtain ⟨q0, q1, q2, q3, -⟩ := cf_8_13 c hc
  have q := h.rd c.toNat 13 _ _ q1 q2 q3 (Int.le_refl _)
  rw [Int.toNat_of_nonneg q0] at q
  exact Int.le_antisymm q.2 q.1
theorem cf_8_14 : ∀ c ∈ lTo, 0 ≤ c ∧ c.toNat < 358 ∧ 14 < pT.getD c.toNat 0 ∧ bd c.toNat 14 = (c + 7, c + 7) ∧ c ≠ 30 ∧ c ≠ 55 ∧ ¬ c = 336 ∧ ¬ c = 355 ∧ ¬ c = 356 ∧ ¬ c = 357 ∧ ¬ c = 346 ∧ ¬ c = 347 ∧ ¬ c = 354 ∧ ¬ c = 348 ∧ ¬ c = 338 ∧ ¬ c = 340 ∧ ¬ c = 341 ∧ ¬ c = 337 ∧ ¬ c = 1 ∧ ¬ c = 2 ∧ ¬ c = 0 ∧ ¬ (c = 3 ∨ c = 76 ∨ c = 101 ∨ c = 126 ∨ c = 151) := by decide +kernel
theorem Inv.fB_8_14 {X : Mm} {S : Sh} {M : Mm} (h : Inv X S M) {c : Int} (hc : isTo c) : M c 14 = c + 7 := by
  obtain ⟨q0, q1, q2, q3, -⟩ := cf_8_14 c hc
  have q := h.rd c.toNat 14 _ _ q1 q2 q3 (Int.le_refl _)
  rw [Int.toNat_of_nonneg q0] at q
  exact Int.le_antisymm q.2 q.1
theorem cf_8_15 : ∀ c ∈ lTo, 0 ≤ c ∧ c.toNat < 358 ∧ 15 < pT.getD c.toNat 0 ∧ bd c.toNat 15 = (c + 8, c + 8) ∧ c ≠ 30 ∧ c ≠ 55 ∧ ¬ c = 336 ∧ ¬ c = 355 ∧ ¬ c = 356 ∧ ¬ c = 357 ∧ ¬ c = 346 ∧ ¬ c = 347 ∧ ¬ c = 354 ∧ ¬ c = 348 ∧ ¬ c = 338 ∧ ¬ c = 340 ∧ ¬ c = 341 ∧ ¬ c = 337 ∧ ¬ c = 1 ∧ ¬ c = 2 ∧ ¬ c = 0 ∧ ¬ (c = 3 ∨ c = 76 ∨ c = 101 ∨ c = 126 ∨ c = 151) := by decide +kernel
theorem Inv.fB_8_15 {X : Mm} {S : Sh} {M : Mm} (h : Inv X S M) {c : Int} (hc : isTo c) : M c 15 = c + 8 := by
  obtain ⟨q0, q1, q2, q3, -⟩ := cf_8_15 c hc
  have q := h.rd c.toNat 15 _ _ q1 q2 q3 (Int.le_refl _)
  rw [Int.toNat_of_nonneg q0] at q
  exact Int.le_antisymm q.2 q.1
theorem cf_8_16 : ∀ c ∈ lTo, 0 ≤ c ∧ c.toNat < 358 ∧ 16 < pT.getD c.toNat 0 ∧ bd c.toNat 16 = (c + 9, c + 9) ∧ c ≠ 30 ∧ c ≠ 55 ∧ ¬ c = 336 ∧ ¬ c = 355 ∧ ¬ c = 356 ∧ ¬ c = 357 ∧ ¬ c = 346 ∧ ¬ c = 347 ∧ ¬ c = 354 ∧ ¬ c = 348 ∧ ¬ c = 338 ∧ ¬ c = 340 ∧ ¬ c = 341 ∧ ¬ c = 337 ∧ ¬ c = 1 ∧ ¬ c = 2 ∧ ¬ c = 0 ∧ ¬ (c = 3 ∨ c = 76 ∨ c = 101 ∨ c = 126 ∨ c = 151) := by decide +kernel
theorem Inv.fB_8_16 {X : Mm} {S : Sh} {M : Mm} (h : Inv X S M) {c : Int} (hc : isTo c) : M c 16 = c + 9 := by
  obtain ⟨q0, q1, q2, q3, -⟩ := cf_8_16 c hc
  have q := h.rd c.toNat 16 _ _ q1 q2 q3 (Int.le_refl _)
  rw [Int.toNat_of_nonneg q0] at q
  exact Int.le_antisymm q.2 q.1
theorem cf_8_17 : ∀ c ∈ lTo, 0 ≤ c ∧ c.toNat < 358 ∧ 17 < pT.getD c.toNat 0 ∧ bd c.toNat 17 = (c + 10, c + 10) ∧ c ≠ 30 ∧ c ≠ 55 ∧ ¬ c = 336 ∧ ¬ c = 355 ∧ ¬ c = 356 ∧ ¬ c = 357 ∧ ¬ c = 346 ∧ ¬ c = 347 ∧ ¬ c = 354 ∧ ¬ c = 348 ∧ ¬ c = 338 ∧ ¬ c = 340 ∧ ¬ c = 341 ∧ ¬ c = 337 ∧ ¬ c = 1 ∧ ¬ c = 2 ∧ ¬ c = 0 ∧ ¬ (c = 3 ∨ c = 76 ∨ c = 101 ∨ c = 126 ∨ c = 151) := by decide +kernel
theorem Inv.fB_8_17 {X : Mm} {S : Sh} {M : Mm} (h : Inv X S M) {c : Int} (hc : isTo c) : M c 17 = c + 10 := by
  obtain ⟨q0, q1, q2, q3, -⟩ := cf_8_17 c hc
  have q := h.rd c.toNat 17 _ _ q1 q2 q3 (Int.le_refl _)
  rw [Int.toNat_of_nonneg q0] at q
  exact Int.le_antisymm q.2 q.1
theorem cf_8_18 : ∀ c ∈ lTo, 0 ≤ c ∧ c.toNat < 358 ∧ 18 < pT.getD c.toNat 0 ∧ bd c.toNat 18 = (c + 11, c + 11) ∧ c ≠ 30 ∧ c ≠ 55 ∧ ¬ c = 336 ∧ ¬ c = 355 ∧ ¬ c = 356 ∧ ¬ c = 357 ∧ ¬ c = 346 ∧ ¬ c = 347 ∧ ¬ c = 354 ∧ ¬ c = 348 ∧ ¬ c = 338 ∧ ¬ c = 340 ∧ ¬ c = 341 ∧ ¬ c = 337 ∧ ¬ c = 1 ∧ ¬ c = 2 ∧ ¬ c = 0 ∧ ¬ (c = 3 ∨ c = 76 ∨ c = 101 ∨ c = 126 ∨ c = 151) := by decide +kernel
theorem Inv.fB_8_18 {X : Mm} {S : Sh} {M : Mm} (h : Inv X S M) {c : Int} (hc : isTo c) : M c 18 = c + 11 := by
  obtain ⟨q0, q1, q2, q3, -⟩ := cf_8_18 c hc
  have q := h.rd c.toNat 18 _ _ q1 q2 q3 (Int.le_refl _)
  rw [Int.toNat_of_nonneg q0] at q
  exact Int.le_antisymm q.2 q.1
theorem ca_8_1 : ∀ c ∈ lTo, 0 ≤ c + 1 ∧ (c + 1).toNat < 358 ∧ pT.getD (c + 1).toNat 0 = 36 ∧ bT.getD (c + 1).toNat [] = [(0, 5)] ∧ c + 1 ≠ 30 ∧ c + 1 ≠ 55 ∧ ¬ c + 1 = 336 ∧ ¬ c + 1 = 355 ∧ ¬ c + 1 = 356 ∧ ¬ c + 1 = 357 ∧ ¬ c + 1 = 346 ∧ ¬ c + 1 = 347 ∧ ¬ c + 1 = 354 ∧ ¬ c + 1 = 348 ∧ ¬ c + 1 = 338 ∧ ¬ c + 1 = 340 ∧ ¬ c + 1 = 341 ∧ ¬ c + 1 = 337 ∧ ¬ c + 1 = 1 ∧ ¬ c + 1 = 2 ∧ ¬ c + 1 = 0 ∧ ¬ (c + 1 = 3 ∨ c + 1 = 76 ∨ c + 1 = 101 ∨ c + 1 = 126 ∨ c + 1 = 151) := by decide +kernel
theorem Inv.aB_8_1 {X : Mm} {S : Sh} {M : Mm} (h : Inv X S M) {c i : Int} (hc : isTo c) (h0 : 0 ≤ i) (h1 : i < 36) : 0 ≤ M (c + 1) i ∧ M (c + 1) i ≤ 5 := by
  obtain ⟨q0, q1, q2, q3, -⟩ := ca_8_1 c hc
  exact h.rA ⟨q0, q1⟩ q2 q3 (by decide) h0 h1
theorem Inv.cpB_8_1 {X : Mm} {S : Sh} {M : Mm} (h : Inv X S M) {o c n : Int} (ho : isTo o) (hc : isTo c) (hn : n ≤ 36) : Inv X S (cpM M (o + 1) 0 (c + 1) 0 n) := by
  obtain ⟨q0, q1, q2, q3, q4⟩ := ca_8_1 c hc
  refine h.cp (fun c1 p e1 e2 => ?_) (fun p _ _ => nsp_q q4) (nq_30 q4) q4.2.1 (nq_pl q4)
  clear q4
  have e3 : c1 = (c + 1).toNat := by omega
  rw [e3, bd_u q3]
  have q := h.aB_8_1 ho (i := p) (by omega) (by omega)
  exact Or.inr q
theorem ca_8_2 : ∀ c ∈ lTo, 0 ≤ c + 2 ∧ (c + 2).toNat < 358 ∧ pT.getD (c + 2).toNat 0 = 36 ∧ bT.getD (c + 2).toNat [] = [(0, 1000)] ∧ c + 2 ≠ 30 ∧ c + 2 ≠ 55 ∧ ¬ c + 2 = 336 ∧ ¬ c + 2 = 355 ∧ ¬ c + 2 = 356 ∧ ¬ c + 2 = 357 ∧ ¬ c + 2 = 346 ∧ ¬ c + 2 = 347 ∧ ¬ c + 2 = 354 ∧ ¬ c + 2 = 348 ∧ ¬ c + 2 = 338 ∧ ¬ c + 2 = 340 ∧ ¬ c + 2 = 341 ∧ ¬ c + 2 = 337 ∧ ¬ c + 2 = 1 ∧ ¬ c + 2 = 2 ∧ ¬ c + 2 = 0 ∧ ¬ (c + 2 = 3 ∨ c + 2 = 76 ∨ c + 2 = 101 ∨ c + 2 = 126 ∨ c + 2 = 151) := by decide +kernel
theorem Inv.aB_8_2 {X : Mm} {S : Sh} {M : Mm} (h : Inv X S M) {c i : Int} (hc : isTo c) (h0 : 0 ≤ i) (h1 : i < 36) : 0 ≤ M (c + 2) i ∧ M (c + 2) i ≤ 1000 := by
  obtain ⟨q0, q1, q2, q3, -⟩ := ca_8_2 c hc
  exact h.rA ⟨q0, q1⟩ q2 q3 (by decide) h0 h1
theorem Inv.cpB_8_2 {X : Mm} {S : Sh} {M : Mm} (h : Inv X S M) {o c n : Int} (ho : isTo o) (hc : isTo c) (hn : n ≤ 36) : Inv X S (cpM M (o + 2) 0 (c + 2) 0 n) := by
  obtain ⟨q0, q1, q2, q3, q4⟩ := ca_8_2 c hc
  refine h.cp (fun c1 p e1 e2 => ?_) (fun p _ _ => nsp_q q4) (nq_30 q4) q4.2.1 (nq_pl q4)
  clear q4
  have e3 : c1 = (c + 2).toNat := by omega
  rw [e3, bd_u q3]
  have q := h.aB_8_2 ho (i := p) (by omega) (by omega)
  exact Or.inr q
theorem ca_8_3 : ∀ c ∈ lTo, 0 ≤ c + 3 ∧ (c + 3).toNat < 358 ∧ pT.getD (c + 3).toNat 0 = 5 ∧ bT.getD (c + 3).toNat [] = [(0, 20)] ∧ c + 3 ≠ 30 ∧ c + 3 ≠ 55 ∧ ¬ c + 3 = 336 ∧ ¬ c + 3 = 355 ∧ ¬ c + 3 = 356 ∧ ¬ c + 3 = 357 ∧ ¬ c + 3 = 346 ∧ ¬ c + 3 = 347 ∧ ¬ c + 3 = 354 ∧ ¬ c + 3 = 348 ∧ ¬ c + 3 = 338 ∧ ¬ c + 3 = 340 ∧ ¬ c + 3 = 341 ∧ ¬ c + 3 = 337 ∧ ¬ c + 3 = 1 ∧ ¬ c + 3 = 2 ∧ ¬ c + 3 = 0 ∧ ¬ (c + 3 = 3 ∨ c + 3 = 76 ∨ c + 3 = 101 ∨ c + 3 = 126 ∨ c + 3 = 151) := by decide +kernel
theorem Inv.aB_8_3 {X : Mm} {S : Sh} {M : Mm} (h : Inv X S M) {c i : Int} (hc : isTo c) (h0 : 0 ≤ i) (h1 : i < 5) : 0 ≤ M (c + 3) i ∧ M (c + 3) i ≤ 20 := by
  obtain ⟨q0, q1, q2, q3, -⟩ := ca_8_3 c hc
  exact h.rA ⟨q0, q1⟩ q2 q3 (by decide) h0 h1
theorem Inv.cpB_8_3 {X : Mm} {S : Sh} {M : Mm} (h : Inv X S M) {o c n : Int} (ho : isTo o) (hc : isTo c) (hn : n ≤ 5) : Inv X S (cpM M (o + 3) 0 (c + 3) 0 n) := by
  obtain ⟨q0, q1, q2, q3, q4⟩ := ca_8_3 c hc
  refine h.cp (fun c1 p e1 e2 => ?_) (fun p _ _ => nsp_q q4) (nq_30 q4) q4.2.1 (nq_pl q4)
  clear q4
  have e3 : c1 = (c + 3).toNat := by omega
  rw [e3, bd_u q3]
  have q := h.aB_8_3 ho (i := p) (by omega) (by omega)
  exact Or.inr q
theorem ca_8_4 : ∀ c ∈ lTo, 0 ≤ c + 4 ∧ (c + 4).toNat < 358 ∧ pT.getD (c + 4).toNat 0 = 5 ∧ bT.getD (c + 4).toNat [] = [(0, 5)] ∧ c + 4 ≠ 30 ∧ c + 4 ≠ 55 ∧ ¬ c + 4 = 336 ∧ ¬ c + 4 = 355 ∧ ¬ c + 4 = 356 ∧ ¬ c + 4 = 357 ∧ ¬ c + 4 = 346 ∧ ¬ c + 4 = 347 ∧ ¬ c + 4 = 354 ∧ ¬ c + 4 = 348 ∧ ¬ c + 4 = 338 ∧ ¬ c + 4 = 340 ∧ ¬ c + 4 = 341 ∧ ¬ c + 4 = 337 ∧ ¬ c + 4 = 1 ∧ ¬ c + 4 = 2 ∧ ¬ c + 4 = 0 ∧ ¬ (c + 4 = 3 ∨ c + 4 = 76 ∨ c + 4 = 101 ∨ c + 4 = 126 ∨ c + 4 = 151) := by decide +kernel
theorem Inv.aB_8_4 {X : Mm} {S : Sh} {M : Mm} (h : Inv X S M) {c i : Int} (hc : isTo c) (h0 : 0 ≤ i) (h1 : i < 5) : 0 ≤ M (c + 4) i ∧ M (c + 4) i ≤ 5 := by
  obtain ⟨q0, q1, q2, q3, -⟩ := ca_8_4 c hc
  exact h.rA ⟨q0, q1⟩ q2 q3 (by decide) h0 h1
theorem Inv.cpB_8_4 {X : Mm} {S : Sh} {M : Mm} (h : Inv X S M) {o c n : Int} (ho : isTo o) (hc : isTo c) (hn : n ≤ 5) : Inv X S (cpM M (o + 4) 0 (c + 4) 0 n) := by
  obtain ⟨q0, q1, q2, q3, q4⟩ := ca_8_4 c hc
  refine h.cp (fun c1 p e1 e2 => ?_) (fun p _ _ => nsp_q q4) (nq_30 q4) q4.2.1 (nq_pl q4)
  clear q4
  have e3 : c1 = (c + 4).toNat := by omega
  rw [e3, bd_u q3]
  have q := h.aB_8_4 ho (i := p) (by omega) (by omega)
  exact Or.inr q
theorem ca_8_5 : ∀ c ∈ lTo, 0 ≤ c + 5 ∧ (c + 5).toNat < 358 ∧ pT.getD (c + 5).toNat 0 = 4 ∧ bT.getD (c + 5).toNat [] = [(0, 99)] ∧ c + 5 ≠ 30 ∧ c + 5 ≠ 55 ∧ ¬ c + 5 = 336 ∧ ¬ c + 5 = 355 ∧ ¬ c + 5 = 356 ∧ ¬ c + 5 = 357 ∧ ¬ c + 5 = 346 ∧ ¬ c + 5 = 347 ∧ ¬ c + 5 = 354 ∧ ¬ c + 5 = 348 ∧ ¬ c + 5 = 338 ∧ ¬ c + 5 = 340 ∧ ¬ c + 5 = 341 ∧ ¬ c + 5 = 337 ∧ ¬ c + 5 = 1 ∧ ¬ c + 5 = 2 ∧ ¬ c + 5 = 0 ∧ ¬ (c + 5 = 3 ∨ c + 5 = 76 ∨ c + 5 = 101 ∨ c + 5 = 126 ∨ c + 5 = 151) := by decide +kernel
theorem Inv.aB_8_5 {X : Mm} {S : Sh} {M : Mm} (h : Inv X S M) {c i : Int} (hc : isTo c) (h0 : 0 ≤ i) (h1 : i < 4) : 0 ≤ M (c + 5) i ∧ M (c + 5) i ≤ 99 := by
  obtain ⟨q0, q1, q2, q3, -⟩ := ca_8_5 c hc
  exact h.rA ⟨q0, q1⟩ q2 q3 (by decide) h0 h1
theorem Inv.cpB_8_5 {X : Mm} {S : Sh} {M : Mm} (h : Inv X S M) {o c n : Int} (ho : isTo o) (hc : isTo c) (hn : n ≤ 4) : Inv X S (cpM M (o + 5) 0 (c + 5) 0 n) := by
  obtain ⟨q0, q1, q2, q3, q4⟩ := ca_8_5 c hc
  refine h.cp (fun c1 p e1 e2 => ?_) (fun p _ _ => nsp_q q4) (nq_30 q4) q4.2.1 (nq_pl q4)
  clear q4
  have e3 : c1 = (c + 5).toNat := by omega
  rw [e3, bd_u q3]
  have q := h.aB_8_5 ho (i := p) (by omega) (by omega)
  exact Or.inr q
theorem ca_8_6 : ∀ c ∈ lTo, 0 ≤ c + 6 ∧ (c + 6).toNat < 358 ∧ pT.getD (c + 6).toNat 0 = 4 ∧ bT.getD (c + 6).toNat [] = [(0, 99)] ∧ c + 6 ≠ 30 ∧ c + 6 ≠ 55 ∧ ¬ c + 6 = 336 ∧ ¬ c + 6 = 355 ∧ ¬ c + 6 = 356 ∧ ¬ c + 6 = 357 ∧ ¬ c + 6 = 346 ∧ ¬ c + 6 = 347 ∧ ¬ c + 6 = 354 ∧ ¬ c + 6 = 348 ∧ ¬ c + 6 = 338 ∧ ¬ c + 6 = 340 ∧ ¬ c + 6 = 341 ∧ ¬ c + 6 = 337 ∧ ¬ c + 6 = 1 ∧ ¬ c + 6 = 2 ∧ ¬ c + 6 = 0 ∧ ¬ (c + 6 = 3 ∨ c + 6 = 76 ∨ c + 6 = 101 ∨ c + 6 = 126 ∨ c + 6 = 151) := by decide +kernel
theorem Inv.aB_8_6 {X : Mm} {S : Sh} {M : Mm} (h : Inv X S M) {c i : Int} (hc : isTo c) (h0 : 0 ≤ i) (h1 : i < 4) : 0 ≤ M (c + 6) i ∧ M (c + 6) i ≤ 99 := by
  obtain ⟨q0, q1, q2, q3, -⟩ := ca_8_6 c hc
  exact h.rA ⟨q0, q1⟩ q2 q3 (by decide) h0 h1
theorem Inv.cpB_8_6 {X : Mm} {S : Sh} {M : Mm} (h : Inv X S M) {o c n : Int} (ho : isTo o) (hc : isTo c) (hn : n ≤ 4) : Inv X S (cpM M (o + 6) 0 (c + 6) 0 n) := by
  obtain ⟨q0, q1, q2, q3, q4⟩ := ca_8_6 c hc
  refine h.cp (fun c1 p e1 e2 => ?_) (fun p _ _ => nsp_q q4) (nq_30 q4) q4.2.1 (nq_pl q4)
  clear q4
  have e3 : c1 = (c + 6).toNat := by omega
  rw [e3, bd_u q3]
  have q := h.aB_8_6 ho (i := p) (by omega) (by omega)
  exact Or.inr q
theorem ca_8_7 : ∀ c ∈ lTo, 0 ≤ c + 7 ∧ (c + 7).toNat < 358 ∧ pT.getD (c + 7).toNat 0 = 4 ∧ bT.getD (c + 7).toNat [] = [(0, 5)] ∧ c + 7 ≠ 30 ∧ c + 7 ≠ 55 ∧ ¬ c + 7 = 336 ∧ ¬ c + 7 = 355 ∧ ¬ c + 7 = 356 ∧ ¬ c + 7 = 357 ∧ ¬ c + 7 = 346 ∧ ¬ c + 7 = 347 ∧ ¬ c + 7 = 354 ∧ ¬ c + 7 = 348 ∧ ¬ c + 7 = 338 ∧ ¬ c + 7 = 340 ∧ ¬ c + 7 = 341 ∧ ¬ c + 7 = 337 ∧ ¬ c + 7 = 1 ∧ ¬ c + 7 = 2 ∧ ¬ c + 7 = 0 ∧ ¬ (c + 7 = 3 ∨ c + 7 = 76 ∨ c + 7 = 101 ∨ c + 7 = 126 ∨ c + 7 = 151) := by decide +kernel
theorem Inv.aB_8_7 {X : Mm} {S : Sh} {M : Mm} (h : Inv X S M) {c i : Int} (hc : isTo c) (h0 : 0 ≤ i) (h1 : i < 4) : 0 ≤ M (c + 7) i ∧ M (c + 7) i ≤ 5 := by
  obtain ⟨q0, q1, q2, q3, -⟩ := ca_8_7 c hc
  exact h.rA ⟨q0, q1⟩ q2 q3 (by decide) h0 h1
theorem Inv.cpB_8_7 {X : Mm} {S : Sh} {M : Mm} (h : Inv X S M) {o c n : Int} (ho : isTo o) (hc : isTo c) (hn : n ≤ 4) : Inv X S (cpM M (o + 7) 0 (c + 7) 0 n) := by
  obtain ⟨q0, q1, q2, q3, q4⟩ := ca_8_7 c hc
  refine h.cp (fun c1 p e1 e2 => ?_) (fun p _ _ => nsp_q q4) (nq_30 q4) q4.2.1 (nq_pl q4)
  clear q4
  have e3 : c1 = (c + 7).toNat := by omega
  rw [e3, bd_u q3]
  have q := h.aB_8_7 ho (i := p) (by omega) (by omega)
  exact Or.inr q
theorem ca_8_8 : ∀ c ∈ lTo, 0 ≤ c + 8 ∧ (c + 8).toNat < 358 ∧ pT.getD (c + 8).toNat 0 = 6 ∧ bT.getD (c + 8).toNat [] = [(0, 5)] ∧ c + 8 ≠ 30 ∧ c + 8 ≠ 55 ∧ ¬ c + 8 = 336 ∧ ¬ c + 8 = 355 ∧ ¬ c + 8 = 356 ∧ ¬ c + 8 = 357 ∧ ¬ c + 8 = 346 ∧ ¬ c + 8 = 347 ∧ ¬ c + 8 = 354 ∧ ¬ c + 8 = 348 ∧ ¬ c + 8 = 338 ∧ ¬ c + 8 = 340 ∧ ¬ c + 8 = 341 ∧ ¬ c + 8 = 337 ∧ ¬ c + 8 = 1 ∧ ¬ c + 8 = 2 ∧ ¬ c + 8 = 0 ∧ ¬ (c + 8 = 3 ∨ c + 8 = 76 ∨ c + 8 = 101 ∨ c + 8 = 126 ∨ c + 8 = 151) := by decide +kernel
theorem Inv.aB_8_8 {X : Mm} {S : Sh} {M : Mm} (h : Inv X S M) {c i : Int} (hc : isTo c) (h0 : 0 ≤ i) (h1 : i < 6) : 0 ≤ M (c + 8) i ∧ M (c + 8) i ≤ 5 := by
  obtain ⟨q0, q1, q2, q3, -⟩ := ca_8_8 c hc
  exact h.rA ⟨q0, q1⟩ q2 q3 (by decide) h0 h1
theorem Inv.cpB_8_8 {X : Mm} {S : Sh} {M : Mm} (h : Inv X S M) {o c n : Int} (ho : isTo o) (hc : isTo c) (hn : n ≤ 6) : Inv X S (cpM M (o + 8) 0 (c + 8) 0 n) := by
  obtain ⟨q0, q1, q2, q3, q4⟩ := ca_8_8 c hc
  refine h.cp (fun c1 p e1 e2 => ?_) (fun p _ _ => nsp_q q4) (nq_30 q4) q4.2.1 (nq_pl q4)
  clear q4
  have e3 : c1 = (c + 8).toNat := by omega
  rw [e3, bd_u q3]
  have q := h.aB_8_8 ho (i := p) (by omega) (by omega)
  exact Or.inr q
theorem ca_8_9 : ∀ c ∈ lTo, 0 ≤ c + 9 ∧ (c + 9).toNat < 358 ∧ pT.getD (c + 9).toNat 0 = 6 ∧ bT.getD (c + 9).toNat [] = [(0, 99)] ∧ c + 9 ≠ 30 ∧ c + 9 ≠ 55 ∧ ¬ c + 9 = 336 ∧ ¬ c + 9 = 355 ∧ ¬ c + 9 = 356 ∧ ¬ c + 9 = 357 ∧ ¬ c + 9 = 346 ∧ ¬ c + 9 = 347 ∧ ¬ c + 9 = 354 ∧ ¬ c + 9 = 348 ∧ ¬ c + 9 = 338 ∧ ¬ c + 9 = 340 ∧ ¬ c + 9 = 341 ∧ ¬ c + 9 = 337 ∧ ¬ c + 9 = 1 ∧ ¬ c + 9 = 2 ∧ ¬ c + 9 = 0 ∧ ¬ (c + 9 = 3 ∨ c + 9 = 76 ∨ c + 9 = 101 ∨ c + 9 = 126 ∨ c + 9 = 151) := by decide +kernel
theorem Inv.aB_8_9 {X : Mm} {S : Sh} {M : Mm} (h : Inv X S M) {c i : Int} (hc : isTo c) (h0 : 0 ≤ i) (h1 : i < 6) : 0 ≤ M (c + 9) i ∧ M (c + 9) i ≤ 99 := by
  obtain ⟨q0, q1, q2, q3, -⟩ := ca_8_9 c hc
  exact h.rA ⟨q0, q1⟩ q2 q3 (by decide) h0 h1
theorem Inv.cpB_8_9 {X : Mm} {S : Sh} {M : Mm} (h : Inv X S M) {o c n : Int} (ho : isTo o) (hc : isTo c) (hn : n ≤ 6) : Inv X S (cpM M (o + 9) 0 (c + 9) 0 n) := by
  obtain ⟨q0, q1, q2, q3, q4⟩ := ca_8_9 c hc
  refine h.cp (fun c1 p e1 e2 => ?_) (fun p _ _ => nsp_q q4) (nq_30 q4) q4.2.1 (nq_pl q4)
  clear q4
  have e3 : c1 = (c + 9).toNat := by omega
  rw [e3, bd_u q3]
  have q := h.aB_8_9 ho (i := p) (by omega) (by omega)
  exact Or.inr q
theorem ca_8_10 : ∀ c ∈ lTo, 0 ≤ c + 10 ∧ (c + 10).toNat < 358 ∧ pT.getD (c + 10).toNat 0 = 6 ∧ bT.getD (c + 10).toNat [] = [(0, 99)] ∧ c + 10 ≠ 30 ∧ c + 10 ≠ 55 ∧ ¬ c + 10 = 336 ∧ ¬ c + 10 = 355 ∧ ¬ c + 10 = 356 ∧ ¬ c + 10 = 357 ∧ ¬ c + 10 = 346 ∧ ¬ c + 10 = 347 ∧ ¬ c + 10 = 354 ∧ ¬ c + 10 = 348 ∧ ¬ c + 10 = 338 ∧ ¬ c + 10 = 340 ∧ ¬ c + 10 = 341 ∧ ¬ c + 10 = 337 ∧ ¬ c + 10 = 1 ∧ ¬ c + 10 = 2 ∧ ¬ c + 10 = 0 ∧ ¬ (c + 10 = 3 ∨ c + 10 = 76 ∨ c + 10 = 101 ∨ c + 10 = 126 ∨ c + 10 = 151) := by decide +kernel
theorem Inv.aB_8_10 {X : Mm} {S : Sh} {M : Mm} (h : Inv X S M) {c i : Int} (hc : isTo c) (h0 : 0 ≤ i) (h1 : i < 6) : 0 ≤ M (c + 10) i ∧ M (c + 10) i ≤ 99 := by
  obtain ⟨q0, q1, q2, q3, -⟩ := ca_8_10 c hc
  exact h.rA ⟨q0, q1⟩ q2 q3 (by decide) h0 h1
theorem Inv.cpB_8_10 {X : Mm} {S : Sh} {M : Mm} (h : Inv X S M) {o c n : Int} (ho : isTo o) (hc : isTo c) (hn : n ≤ 6) : Inv X S (cpM M (o + 10) 0 (c + 10) 0 n) := by
  obtain ⟨q0, q1, q2, q3, q4⟩ := ca_8_10 c hc
  refine h.cp (fun c1 p e1 e2 => ?_) (fun p _ _ => nsp_q q4) (nq_30 q4) q4.2.1 (nq_pl q4)
  clear q4
  have e3 : c1 = (c + 10).toNat := by omega
  rw [e3, bd_u q3]
  have q := h.aB_8_10 ho (i := p) (by omega) (by omega)
  exact Or.inr q
theorem ca_8_11 : ∀ c ∈ lTo, 0 ≤ c + 11 ∧ (c + 11).toNat < 358 ∧ pT.getD (c + 11).toNat 0 = 6 ∧ bT.getD (c + 11).toNat [] = [(0, 50)] ∧ c + 11 ≠ 30 ∧ c + 11 ≠ 55 ∧ ¬ c + 11 = 336 ∧ ¬ c + 11 = 355 ∧ ¬ c + 11 = 356 ∧ ¬ c + 11 = 357 ∧ ¬ c + 11 = 346 ∧ ¬ c + 11 = 347 ∧ ¬ c + 11 = 354 ∧ ¬ c + 11 = 348 ∧ ¬ c + 11 = 338 ∧ ¬ c + 11 = 340 ∧ ¬ c + 11 = 341 ∧ ¬ c + 11 = 337 ∧ ¬ c + 11 = 1 ∧ ¬ c + 11 = 2 ∧ ¬ c + 11 = 0 ∧ ¬ (c + 11 = 3 ∨ c + 11 = 76 ∨ c + 11 = 101 ∨ c + 11 = 126 ∨ c + 11 = 151) := by decide +kernel
theorem Inv.aB_8_11 {X : Mm} {S : Sh} {M : Mm} (h : Inv X S M) {c i : Int} (hc : isTo c) (h0 : 0 ≤ i) (h1 : i < 6) : 0 ≤ M (c + 11) i ∧ M (c + 11) i ≤ 50 := by
  obtain ⟨q0, q1, q2, q3, -⟩ := ca_8_11 c hc
  exact h.rA ⟨q0, q1⟩ q2 q3 (by decide) h0 h1
theorem Inv.cpB_8_11 {X : Mm} {S : Sh} {M : Mm} (h : Inv X S M) {o c n : Int} (ho : isTo o) (hc : isTo c) (hn : n ≤ 6) : Inv X S (cpM M (o + 11) 0 (c + 11) 0 n) := by
  obtain ⟨q0, q1, q2, q3, q4⟩ := ca_8_11 c hc
  refine h.cp (fun c1 p e1 e2 => ?_) (fun p _ _ => nsp_q q4) (nq_30 q4) q4.2.1 (nq_pl q4)
  clear q4
  have e3 : c1 = (c + 11).toNat := by omega
  rw [e3, bd_u q3]
  have q := h.aB_8_11 ho (i := p) (by omega) (by omega)
  exact Or.inr q
theorem ck_4_0 : ∀ c ∈ lSc, 0 ≤ c ∧ (c).toNat < 358 ∧ kT.getD (c).toNat 0 = 4 ∧ lT.getD (c).toNat 0 = 0 := by decide +kernel
theorem Shp.kB_4_0 {S : Sh} (h : Shp S) {c : Int} (hc : isSc c) : isK S (c) 4 := by
  obtain ⟨q0, q1, q2, q3⟩ := ck_4_0 c hc
  have q := h.k _ q1 q2
  rw [Int.toNat_of_nonneg q0] at q
  exact q
theorem ck_4_21 : ∀ c ∈ lSc, 0 ≤ c + 21 ∧ (c + 21).toNat < 358 ∧ kT.getD (c + 21).toNat 0 = 14 ∧ lT.getD (c + 21).toNat 0 = 10 := by decide +kernel
theorem Shp.kB_4_21 {S : Sh} (h : Shp S) {c : Int} (hc : isSc c) : isK S (c + 21) 14 := by
  obtain ⟨q0, q1, q2, q3⟩ := ck_4_21 c hc
  have q := h.k _ q1 q2
  rw [Int.toNat_of_nonneg q0] at q
  exact q
theorem Shp.lB_4_21 {S : Sh} (h : Shp S) {c : Int} (hc : isSc c) : S.2.2 (c + 21) = 10 := by
  obtain ⟨q0, q1, q2, q3⟩ := ck_4_21 c hc
  have q := h.l _ q1 q3
  rw [Int.toNat_of_nonneg q0] at q
  exact q
theorem ck_4_22 : ∀ c ∈ lSc, 0 ≤ c + 22 ∧ (c + 22).toNat < 358 ∧ kT.getD (c + 22).toNat 0 = 14 ∧ lT.getD (c + 22).toNat 0 = 10 := by decide +kernel
theorem Shp.kB_4_22 {S : Sh} (h : Shp S) {c : Int} (hc : isSc c) : isK S (c + 22) 14 := by
  obtain ⟨q0, q1, q2, q3⟩ := ck_4_22 c hc
  have q := h.k _ q1 q2
  rw [Int.toNat_of_nonneg q0] at q
  exact q
theorem Shp.lB_4_22 {S : Sh} (h : Shp S) {c : Int} (hc : isSc c) : S.2.2 (c + 22) = 10 := by
  obtain ⟨q0, q1, q2, q3⟩ := ck_4_22 c hc
  have q := h.l _ q1 q3
  rw [Int.toNat_of_nonneg q0] at q
  exact q
theorem ck_4_23 : ∀ c ∈ lSc, 0 ≤ c + 23 ∧ (c + 23).toNat < 358 ∧ kT.getD (c + 23).toNat 0 = 14 ∧ lT.getD (c + 23).toNat 0 = 10 := by decide +kernel
theorem Shp.kB_4_23 {S : Sh} (h : Shp S) {c : Int} (hc : isSc c) : isK S (c + 23) 14 := by
  obtain ⟨q0, q1, q2, q3⟩ := ck_4_23 c hc
  have q := h.k _ q1 q2
  rw [Int.toNat_of_nonneg q0] at q
  exact q
theorem Shp.lB_4_23 {S : Sh} (h : Shp S) {c : Int} (hc : isSc c) : S.2.2 (c + 23) = 10 := by
  obtain ⟨q0, q1, q2, q3⟩ := ck_4_23 c hc
  have q := h.l _ q1 q3
  rw [Int.toNat_of_nonneg q0] at q
  exact q
theorem ck_4_24 : ∀ c ∈ lSc, 0 ≤ c + 24 ∧ (c + 24).toNat < 358 ∧ kT.getD (c + 24).toNat 0 = 14 ∧ lT.getD (c + 24).toNat 0 = 10 := by decide +kernel
theorem Shp.kB_4_24 {S : Sh} (h : Shp S) {c : Int} (hc : isSc c) : isK S (c + 24) 14 := by
  obtain ⟨q0, q1, q2, q3⟩ := ck_4_24 c hc
  have q := h.k _ q1 q2
  rw [Int.toNat_of_nonneg q0] at q
  exact q
theorem Shp.lB_4_24 {S : Sh} (h : Shp S) {c : Int} (hc : isSc c) : S.2.2 (c + 24) = 10 := by
  obtain ⟨q0, q1, q2, q3⟩ := ck_4_24 c hc
  have q := h.l _ q1 q3
  rw [Int.toNat_of_nonneg q0] at q
  exact q
theorem cf_4_0 : ∀ c ∈ lSc, 0 ≤ c ∧ c.toNat < 358 ∧ 0 < pT.getD c.toNat 0 ∧ bd c.toNat 0 = (c + 1, c + 1) ∧ c ≠ 30 ∧ c ≠ 55 ∧ ¬ c = 336 ∧ ¬ c = 355 ∧ ¬ c = 356 ∧ ¬ c = 357 ∧ ¬ c = 346 ∧ ¬ c = 347 ∧ ¬ c = 354 ∧ ¬ c = 348 ∧ ¬ c = 338 ∧ ¬ c = 340 ∧ ¬ c = 341 ∧ ¬ c = 337 ∧ ¬ c = 1 ∧ ¬ c = 2 ∧ ¬ c = 0 := by decide +kernel
theorem Inv.fB_4_0 {X : Mm} {S : Sh} {M : Mm} (h : Inv X S M) {c : Int} (hc : isSc c) : M c 0 = c + 1 := by
  obtain ⟨q0, q1, q2, q3, -⟩ := cf_4_0 c hc
  have q := h.rd c.toNat 0 _ _ q1 q2 q3 (Int.le_refl _)
  rw [Int.toNat_of_nonneg q0] at q
  exact Int.le_antisymm q.2 q.1
theorem cf_4_1 : ∀ c ∈ lSc, 0 ≤ c ∧ c.toNat < 358 ∧ 1 < pT.getD c.toNat 0 ∧ bd c.toNat 1 = (c + 13, c + 13) ∧ c ≠ 30 ∧ c ≠ 55 ∧ ¬ c = 336 ∧ ¬ c = 355 ∧ ¬ c = 356 ∧ ¬ c = 357 ∧ ¬ c = 346 ∧ ¬ c = 347 ∧ ¬ c = 354 ∧ ¬ c = 348 ∧ ¬ c = 338 ∧ ¬ c = 340 ∧ ¬ c = 341 ∧ ¬ c = 337 ∧ ¬ c = 1 ∧ ¬ c = 2 ∧ ¬ c = 0 := by decide +kernel
theorem Inv.fB_4_1 {X : Mm} {S : Sh} {M : Mm} (h : Inv X S M) {c : Int} (hc : isSc c) : M c 1 = c + 13 := by
  obtain ⟨q0, q1, q2, q3, -⟩ := cf_4_1 c hc
  have q := h.rd c.toNat 1 _ _ q1 q2 q3 (Int.le_refl _)
  rw [Int.toNat_of_nonneg q0] at q
  exact Int.le_antisymm q.2 q.1
theorem cf_4_2 : ∀ c ∈ lSc, 0 ≤ c ∧ c.toNat < 358 ∧ 2 < pT.getD c.toNat 0 ∧ bd c.toNat 2 = (-1, 5) ∧ c ≠ 30 ∧ c ≠ 55 ∧ ¬ c = 336 ∧ ¬ c = 355 ∧ ¬ c = 356 ∧ ¬ c = 357 ∧ ¬ c = 346 ∧ ¬ c = 347 ∧ ¬ c = 354 ∧ ¬ c = 348 ∧ ¬ c = 338 ∧ ¬ c = 340 ∧ ¬ c = 341 ∧ ¬ c = 337 ∧ ¬ c = 1 ∧ ¬ c = 2 ∧ ¬ c = 0 := by decide +kernel
theorem Inv.fB_4_2 {X : Mm} {S : Sh} {M : Mm} (h : Inv X S M) {c : Int} (hc : isSc c) : (-1) ≤ M c 2 ∧ M c 2 ≤ 5 := by
  obtain ⟨q0, q1, q2, q3, -⟩ := cf_4_2 c hc
  have q := h.rd c.toNat 2 _ _ q1 q2 q3 (by decide)
  rw [Int.toNat_of_nonneg q0] at q
  exact q
theorem cf_4_3 : ∀ c ∈ lSc, 0 ≤ c ∧ c.toNat < 358 ∧ 3 < pT.getD c.toNat 0 ∧ bd c.toNat 3 = (0, 2147483647) ∧ c ≠ 30 ∧ c ≠ 55 ∧ ¬ c = 336 ∧ ¬ c = 355 ∧ ¬ c = 356 ∧ ¬ c = 357 ∧ ¬ c = 346 ∧ ¬ c = 347 ∧ ¬ c = 354 ∧ ¬ c = 348 ∧ ¬ c = 338 ∧ ¬ c = 340 ∧ ¬ c = 341 ∧ ¬ c = 337 ∧ ¬ c = 1 ∧ ¬ c = 2 ∧ ¬ c = 0 := by decide +kernel
theorem Inv.fB_4_3 {X : Mm} {S : Sh} {M : Mm} (h : Inv X S M) {c : Int} (hc : isSc c) : 0 ≤ M c 3 ∧ M c 3 ≤ 2147483647 := by
  obtain ⟨q0, q1, q2, q3, -⟩ := cf_4_3 c hc
  have q := h.rd c.toNat 3 _ _ q1 q2 q3 (by decide)
  rw [Int.toNat_of_nonneg q0] at q
  exact q
theorem cf_4_4 : ∀ c ∈ lSc, 0 ≤ c ∧ c.toNat < 358 ∧ 4 < pT.getD c.toNat 0 ∧ bd c.toNat 4 = (0, 10) ∧ c ≠ 30 ∧ c ≠ 55 ∧ ¬ c = 336 ∧ ¬ c = 355 ∧ ¬ c = 356 ∧ ¬ c = 357 ∧ ¬ c = 346 ∧ ¬ c = 347 ∧ ¬ c = 354 ∧ ¬ c = 348 ∧ ¬ c = 338 ∧ ¬ c = 340 ∧ ¬ c = 341 ∧ ¬ c = 337 ∧ ¬ c = 1 ∧ ¬ c = 2 ∧ ¬ c = 0 := by decide +kernel
theorem Inv.fB_4_4 {X : Mm} {S : Sh} {M : Mm} (h : Inv X S M) {c : Int} (hc : isSc c) : 0 ≤ M c 4 ∧ M c 4 ≤ 10 := by
  obtain ⟨q0, q1, q2, q3, -⟩ := cf_4_4 c hc
  have q := h.rd c.toNat 4 _ _ q1 q2 q3 (by decide)
  rw [Int.toNat_of_nonneg q0] at q
  exact q
theorem Inv.wB_4_4 {X : Mm} {S : Sh} {M : Mm} (h : Inv X S M) {c v : Int} (hc : isSc c) (hl : 0 ≤ v) (hu : v ≤ 10) : Inv X S (up M c 4 v) := by
  obtain ⟨q0, q1, q2, q3, q4⟩ := cf_4_4 c hc
  have q := h.wl c.toNat 4 (h.pl.put (by omega) (fun e => absurd e (by omega))) (okb_of q3 hl hu) (by omega) (by omega) (by omega)
  rw [Int.toNat_of_nonneg q0] at q
  exact q
theorem cf_4_5 : ∀ c ∈ lSc, 0 ≤ c ∧ c.toNat < 358 ∧ 5 < pT.getD c.toNat 0 ∧ bd c.toNat 5 = (c + 21, c + 21) ∧ c ≠ 30 ∧ c ≠ 55 ∧ ¬ c = 336 ∧ ¬ c = 355 ∧ ¬ c = 356 ∧ ¬ c = 357 ∧ ¬ c = 346 ∧ ¬ c = 347 ∧ ¬ c = 354 ∧ ¬ c = 348 ∧ ¬ c = 338 ∧ ¬ c = 340 ∧ ¬ c = 341 ∧ ¬ c = 337 ∧ ¬ c = 1 ∧ ¬ c = 2 ∧ ¬ c = 0 := by decide +kernel
theorem Inv.fB_4_5 {X : Mm} {S : Sh} {M : Mm} (h : Inv X S M) {c : Int} (hc : isSc c) : M c 5 = c + 21 := by
  obtain ⟨q0, q1, q2, q3, -⟩ := cf_4_5 c hc
  have q := h.rd c.toNat 5 _ _ q1 q2 q3 (Int.le_refl _)
  rw [Int.toNat_of_nonneg q0] at q
  exact Int.le_antisymm q.2 q.1
theorem cf_4_6 : ∀ c ∈ lSc, 0 ≤ c ∧ c.toNat < 358 ∧ 6 < pT.getD c.toNat 0 ∧ bd c.toNat 6 = (c + 22, c + 22) ∧ c ≠ 30 ∧ c ≠ 55 ∧ ¬ c = 336 ∧ ¬ c = 355 ∧ ¬ c = 356 ∧ ¬ c = 357 ∧ ¬ c = 346 ∧ ¬ c = 347 ∧ ¬ c = 354 ∧ ¬ c = 348 ∧ ¬ c = 338 ∧ ¬ c = 340 ∧ ¬ c = 341 ∧ ¬ c = 337 ∧ ¬ c = 1 ∧ ¬ c = 2 ∧ ¬ c = 0 := by decide +kernel
theorem Inv.fB_4_6 {X : Mm} {S : Sh} {M : Mm} (h : Inv X S M) {c : Int} (hc : isSc c) : M c 6 = c + 22 := by
  obtain ⟨q0, q1, q2, q3, -⟩ := cf_4_6 c hc
  have q := h.rd c.toNat 6 _ _ q1 q2 q3 (Int.le_refl _)
  rw [Int.toNat_of_nonneg q0] at q
  exact Int.le_antisymm q.2 q.1
theorem cf_4_7 : ∀ c ∈ lSc, 0 ≤ c ∧ c.toNat < 358 ∧ 7 < pT.getD c.toNat 0 ∧ bd c.toNat 7 = (c + 23, c + 23) ∧ c ≠ 30 ∧ c ≠ 55 ∧ ¬ c = 336 ∧ ¬ c = 355 ∧ ¬ c = 356 ∧ ¬ c = 357 ∧ ¬ c = 346 ∧ ¬ c = 347 ∧ ¬ c = 354 ∧ ¬ c = 348 ∧ ¬ c = 338 ∧ ¬ c = 340 ∧ ¬ c = 341 ∧ ¬ c = 337 ∧ ¬ c = 1 ∧ ¬ c = 2 ∧ ¬ c = 0 := by decide +kernel
theorem Inv.fB_4_7 {X : Mm} {S : Sh} {M : Mm} (h : Inv X S M) {c : Int} (hc : isSc c) : M c 7 = c + 23 := by
  obtain ⟨q0, q1, q2, q3, -⟩ := cf_4_7 c hc
  have q := h.rd c.toNat 7 _ _ q1 q2 q3 (Int.le_refl _)
  rw [Int.toNat_of_nonneg q0] at q
  exact Int.le_antisymm q.2 q.1
theorem cf_4_8 : ∀ c ∈ lSc, 0 ≤ c ∧ c.toNat < 358 ∧ 8 < pT.getD c.toNat 0 ∧ bd c.toNat 8 = (c + 24, c + 24) ∧ c ≠ 30 ∧ c ≠ 55 ∧ ¬ c = 336 ∧ ¬ c = 355 ∧ ¬ c = 356 ∧ ¬ c = 357 ∧ ¬ c = 346 ∧ ¬ c = 347 ∧ ¬ c = 354 ∧ ¬ c = 348 ∧ ¬ c = 338 ∧ ¬ c = 340 ∧ ¬ c = 341 ∧ ¬ c = 337 ∧ ¬ c = 1 ∧ ¬ c = 2 ∧ ¬ c = 0 := by decide +kernel
theorem Inv.fB_4_8 {X : Mm} {S : Sh} {M : Mm} (h : Inv X S M) {c : Int} (hc : isSc c) : M c 8 = c + 24 := by
  obtain ⟨q0, q1, q2, q3, -⟩ := cf_4_8 c hc
  have q := h.rd c.toNat 8 _ _ q1 q2 q3 (Int.le_refl _)
  rw [Int.toNat_of_nonneg q0] at q
  exact Int.le_antisymm q.2 q.1
theorem cf_4_9 : ∀ c ∈ lSc, 0 ≤ c ∧ c.toNat < 358 ∧ 9 < pT.getD c.toNat 0 ∧ bd c.toNat 9 = (0, 1) ∧ c ≠ 30 ∧ c ≠ 55 ∧ ¬ c = 336 ∧ ¬ c = 355 ∧ ¬ c = 356 ∧ ¬ c = 357 ∧ ¬ c = 346 ∧ ¬ c = 347 ∧ ¬ c = 354 ∧ ¬ c = 348 ∧ ¬ c = 338 ∧ ¬ c = 340 ∧ ¬ c = 341 ∧ ¬ c = 337 ∧ ¬ c = 1 ∧ ¬ c = 2 ∧ ¬ c = 0 := by decide +kernel
theorem ca_4_21 : ∀ c ∈ lSc, 0 ≤ c + 21 ∧ (c + 21).toNat < 358 ∧ pT.getD (c + 21).toNat 0 = 10 ∧ bT.getD (c + 21).toNat [] = [(0, 999)] ∧ c + 21 ≠ 30 ∧ c + 21 ≠ 55 ∧ ¬ c + 21 = 336 ∧ ¬ c + 21 = 355 ∧ ¬ c + 21 = 356 ∧ ¬ c + 21 = 357 ∧ ¬ c + 21 = 346 ∧ ¬ c + 21 = 347 ∧ ¬ c + 21 = 354 ∧ ¬ c + 21 = 348 ∧ ¬ c + 21 = 338 ∧ ¬ c + 21 = 340 ∧ ¬ c + 21 = 341 ∧ ¬ c + 21 = 337 ∧ ¬ c + 21 = 1 ∧ ¬ c + 21 = 2 ∧ ¬ c + 21 = 0 ∧ ¬ (c + 21 = 3 ∨ c + 21 = 76 ∨ c + 21 = 101 ∨ c + 21 = 126 ∨ c + 21 = 151) := by decide +kernel
theorem Inv.aB_4_21 {X : Mm} {S : Sh} {M : Mm} (h : Inv X S M) {c i : Int} (hc : isSc c) (h0 : 0 ≤ i) (h1 : i < 10) : 0 ≤ M (c + 21) i ∧ M (c + 21) i ≤ 999 := by
  obtain ⟨q0, q1, q2, q3, -⟩ := ca_4_21 c hc
  exact h.rA ⟨q0, q1⟩ q2 q3 (by decide) h0 h1
theorem Inv.cpB_4_21 {X : Mm} {S : Sh} {M : Mm} (h : Inv X S M) {o c n : Int} (ho : isSc o) (hc : isSc c) (hn : n ≤ 10) : Inv X S (cpM M (o + 21) 0 (c + 21) 0 n) := by
  obtain ⟨q0, q1, q2, q3, q4⟩ := ca_4_21 c hc
  refine h.cp (fun c1 p e1 e2 => ?_) (fun p _ _ => nsp_q q4) (nq_30 q4) q4.2.1 (nq_pl q4)
  clear q4
  have e3 : c1 = (c + 21).toNat := by omega
  rw [e3, bd_u q3]
  have q := h.aB_4_21 ho (i := p) (by omega) (by omega)
  exact Or.inr q
theorem ca_4_22 : ∀ c ∈ lSc, 0 ≤ c + 22 ∧ (c + 22).toNat < 358 ∧ pT.getD (c + 22).toNat 0 = 10 ∧ bT.getD (c + 22).toNat [] = [(0, 20)] ∧ c + 22 ≠ 30 ∧ c + 22 ≠ 55 ∧ ¬ c + 22 = 336 ∧ ¬ c + 22 = 355 ∧ ¬ c + 22 = 356 ∧ ¬ c + 22 = 357 ∧ ¬ c + 22 = 346 ∧ ¬ c + 22 = 347 ∧ ¬ c + 22 = 354 ∧ ¬ c + 22 = 348 ∧ ¬ c + 22 = 338 ∧ ¬ c + 22 = 340 ∧ ¬ c + 22 = 341 ∧ ¬ c + 22 = 337 ∧ ¬ c + 22 = 1 ∧ ¬ c + 22 = 2 ∧ ¬ c + 22 = 0 ∧ ¬ (c + 22 = 3 ∨ c + 22 = 76 ∨ c + 22 = 101 ∨ c + 22 = 126 ∨ c + 22 = 151) := by decide +kernel
theorem Inv.aB_4_22 {X : Mm} {S : Sh} {M : Mm} (h : Inv X S M) {c i : Int} (hc : isSc c) (h0 : 0 ≤ i) (h1 : i < 10) : 0 ≤ M (c + 22) i ∧ M (c + 22) i ≤ 20 := by
  obtain ⟨q0, q1, q2, q3, -⟩ := ca_4_22 c hc
  exact h.rA ⟨q0, q1⟩ q2 q3 (by decide) h0 h1
theorem Inv.cpB_4_22 {X : Mm} {S : Sh} {M : Mm} (h : Inv X S M) {o c n : Int} (ho : isSc o) (hc : isSc c) (hn : n ≤ 10) : Inv X S (cpM M (o + 22) 0 (c + 22) 0 n) := by
  obtain ⟨q0, q1, q2, q3, q4⟩ := ca_4_22 c hc
  refine h.cp (fun c1 p e1 e2 => ?_) (fun p _ _ => nsp_q q4) (nq_30 q4) q4.2.1 (nq_pl q4)
  clear q4
  have e3 : c1 = (c + 22).toNat := by omega
  rw [e3, bd_u q3]
  have q := h.aB_4_22 ho (i := p) (by omega) (by omega)
  exact Or.inr q
theorem ca_4_23 : ∀ c ∈ lSc, 0 ≤ c + 23 ∧ (c + 23).toNat < 358 ∧ pT.getD (c + 23).toNat 0 = 10 ∧ bT.getD (c + 23).toNat [] = [(0, 99)] ∧ c + 23 ≠ 30 ∧ c + 23 ≠ 55 ∧ ¬ c + 23 = 336 ∧ ¬ c + 23 = 355 ∧ ¬ c + 23 = 356 ∧ ¬ c + 23 = 357 ∧ ¬ c + 23 = 346 ∧ ¬ c + 23 = 347 ∧ ¬ c + 23 = 354 ∧ ¬ c + 23 = 348 ∧ ¬ c + 23 = 338 ∧ ¬ c + 23 = 340 ∧ ¬ c + 23 = 341 ∧ ¬ c + 23 = 337 ∧ ¬ c + 23 = 1 ∧ ¬ c + 23 = 2 ∧ ¬ c + 23 = 0 ∧ ¬ (c + 23 = 3 ∨ c + 23 = 76 ∨ c + 23 = 101 ∨ c + 23 = 126 ∨ c + 23 = 151) := by decide +kernel
theorem Inv.aB_4_23 {X : Mm} {S : Sh} {M : Mm} (h : Inv X S M) {c i : Int} (hc : isSc c) (h0 : 0 ≤ i) (h1 : i < 10) : 0 ≤ M (c + 23) i ∧ M (c + 23) i ≤ 99 := by
  obtain ⟨q0, q1, q2, q3, -⟩ := ca_4_23 c hc
  exact h.rA ⟨q0, q1⟩ q2 q3 (by decide) h0 h1
theorem Inv.cpB_4_23 {X : Mm} {S : Sh} {M : Mm} (h : Inv X S M) {o c n : Int} (ho : isSc o) (hc : isSc c) (hn : n ≤ 10) : Inv X S (cpM M (o + 23) 0 (c + 23) 0 n) := by
  obtain ⟨q0, q1, q2, q3, q4⟩ := ca_4_23 c hc
  refine h.cp (fun c1 p e1 e2 => ?_) (fun p _ _ => nsp_q q4) (nq_30 q4) q4.2.1 (nq_pl q4)
  clear q4
  have e3 : c1 = (c + 23).toNat := by omega
  rw [e3, bd_u q3]
  have q := h.aB_4_23 ho (i := p) (by omega) (by omega)
  exact Or.inr q
theorem ca_4_24 : ∀ c ∈ lSc, 0 ≤ c + 24 ∧ (c + 24).toNat < 358 ∧ pT.getD (c + 24).toNat 0 = 10 ∧ bT.getD (c + 24).toNat [] = [(0, 999)] ∧ c + 24 ≠ 30 ∧ c + 24 ≠ 55 ∧ ¬ c + 24 = 336 ∧ ¬ c + 24 = 355 ∧ ¬ c + 24 = 356 ∧ ¬ c + 24 = 357 ∧ ¬ c + 24 = 346 ∧ ¬ c + 24 = 347 ∧ ¬ c + 24 = 354 ∧ ¬ c + 24 = 348 ∧ ¬ c + 24 = 338 ∧ ¬ c + 24 = 340 ∧ ¬ c + 24 = 341 ∧ ¬ c + 24 = 337 ∧ ¬ c + 24 = 1 ∧ ¬ c + 24 = 2 ∧ ¬ c + 24 = 0 ∧ ¬ (c + 24 = 3 ∨ c + 24 = 76 ∨ c + 24 = 101 ∨ c + 24 = 126 ∨ c + 24 = 151) := by decide +kernel
theorem Inv.aB_4_24 {X : Mm} {S : Sh} {M : Mm} (h : Inv X S M) {c i : Int} (hc : isSc c) (h0 : 0 ≤ i) (h1 : i < 10) : 0 ≤ M (c + 24) i ∧ M (c + 24) i ≤ 999 := by
  obtain ⟨q0, q1, q2, q3, -⟩ := ca_4_24 c hc
  exact h.rA ⟨q0, q1⟩ q2 q3 (by decide) h0 h1
theorem Inv.cpB_4_24 {X : Mm} {S : Sh} {M : Mm} (h : Inv X S M) {o c n : Int} (ho : isSc o) (hc : isSc c) (hn : n ≤ 10) : Inv X S (cpM M (o + 24) 0 (c + 24) 0 n) := by
  obtain ⟨q0, q1, q2, q3, q4⟩ := ca_4_24 c hc
  refine h.cp (fun c1 p e1 e2 => ?_) (fun p _ _ => nsp_q q4) (nq_30 q4) q4.2.1 (nq_pl q4)
  clear q4
  have e3 : c1 = (c + 24).toNat := by omega
  rw [e3, bd_u q3]
  have q := h.aB_4_24 ho (i := p) (by omega) (by omega)
  exact Or.inr q
