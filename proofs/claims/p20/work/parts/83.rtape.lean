theorem zx_fails {X : Mm} {S : Sh} {m0 : Mm} {K : Int → Mm → Prop} {u a : Int} (hS : Shp S) (hm0 : Inv X S m0) (h9 : m0 336 9 = 0) (u0 : 0 ≤ u) (u1 : u ≤ 4) (a0 : 0 ≤ a) (a1 : a ≤ 400) (hk : ∀ M1 : Mm, Inv X S M1 → (∀ c p : Int, ¬ (c = 336 ∧ p = 9) → M1 c p = m0 c p) → M1 336 9 = 1 + 8 * a + u → K 0 M1) : wp_X12_fails S m0 336 u a K := by
  refine u_X12_fails ?_
  refine g_getu 9 rfl hS.k336 (fun v ev => ?_)
  refine g_ifF (by omega) ?_
  refine g_C ?_
  refine g_C ?_
  refine g_M (by omega) (by omega) ?_
  refine g_A (by omega) (by omega) ?_
  refine g_A (by omega) (by omega) ?_
  refine g_put 9 rfl hS.k336 (hm0.w_336_9 (by omega) (by omega)) (fun m1 e1 hm1 => ?_)
  have f1 : ∀ c p : Int, ¬ (c = 336 ∧ p = 9) → m1 c p = m0 c p := fun c p q => (congrFun (congrFun e1 _) _).trans (up_ne q)
  have y1 : m1 336 9 = 1 + 8 * a + u := (congrFun (congrFun e1 _) _).trans (up_at _ _ _ _)
  exact g_C ⟨by decide, hk m1 hm1 f1 y1⟩
theorem zx_makes {X : Mm} {S : Sh} {m0 : Mm} {K : Int → Mm → Prop} {a : Int} (hS : Shp S) (hm0 : Inv X S m0) (h9 : m0 336 9 = 0) (a0 : 0 ≤ a) (a1 : a ≤ 400) (h1 : ∀ M1 : Mm, Inv X S M1 → (∀ c p : Int, ¬ (c = 336 ∧ p = 12) → M1 c p = m0 c p) → M1 336 12 = m0 336 12 + 1 → ¬ m0 336 12 = 60 → m0 336 12 ≤ 59 → K 1 M1) (h0 : ∀ M1 : Mm, Inv X S M1 → m0 336 12 = 60 → M1 336 9 = 4 + 8 * a → K 0 M1) : wp_X12_makes S m0 336 a K := by
  have b12 := hm0.f_336_12
  refine u_X12_makes ?_
  refine g_getu 12 rfl hS.k336 (fun v ev => ?_)
  refine g_C ?_
  refine g_if (fun w => ?_) (fun w => ?_)
  · refine g_getu 12 rfl hS.k336 (fun v2 ev2 => ?_)
    refine g_C ?_
    refine g_A (by omega) (by omega) ?_
    refine g_put 12 rfl hS.k336 (hm0.w_336_12 (by omega) (by omega)) (fun m1 e1 hm1 => ?_)
    have f1 : ∀ c p : Int, ¬ (c = 336 ∧ p = 12) → m1 c p = m0 c p := fun c p q => (congrFun (congrFun e1 _) _).trans (up_ne q)
    have y1 : m1 336 12 = v2 + 1 := (congrFun (congrFun e1 _) _).trans (up_at _ _ _ _)
    exact g_C ⟨by decide, h1 m1 hm1 f1 (by omega) (by omega) (by omega)⟩
  · refine g_C ?_
    refine ⟨hS.k336, ?_⟩
    refine zx_fails hS hm0 h9 (by decide) (by decide) a0 a1 (fun m1 hm1 f1 y1 => ⟨by decide, h0 m1 hm1 (by omega) (by omega)⟩)
theorem zx_isDigit {X : Mm} {S : Sh} {m : Mm} {K : Int → Mm → Prop} {b : Int → Int} {n i : Int} (hS : Shp S) (hm : Inv X S m) (ht : TR X b n) (i0 : 0 ≤ i) (h1 : i < n → Dg (b i) → K 1 m) (h0 : ¬ (i < n ∧ Dg (b i)) → K 0 m) : wp_X12_isDigit S m 336 i K := by
  have nb := ht.2.1
  have g1 := ht.n hm
  refine u_X12_isDigit ?_
  refine g_getu 1 rfl hS.k336 (fun t et => ?_)
  rw [g1] at et
  refine g_if (fun w => g_C ⟨by decide, h0 (fun z => by omega)⟩) (fun w => ?_)
  refine g_getr 0 337 rfl hS.k336 hm.f_336_0 (by decide) ?_
  refine g_ldu hS.k337 hS.l337 (by omega) (by omega) (fun x ex => ?_)
  rw [ht.b hm i0 (by omega)] at ex
  refine g_C ?_
  refine g_if (fun w2 => g_C ⟨by decide, h0 (fun z => by have := z.2; unfold Dg at this; omega)⟩) (fun w2 => ?_)
  refine g_getr 0 337 rfl hS.k336 hm.f_336_0 (by decide) ?_
  refine g_ldu hS.k337 hS.l337 (by omega) (by omega) (fun y ey => ?_)
  rw [ht.b hm i0 (by omega)] at ey
  refine g_C ?_
  refine g_if (fun w3 => g_C ⟨by decide, h0 (fun z => by have := z.2; unfold Dg at this; omega)⟩) (fun w3 => ?_)
  exact g_C ⟨by decide, h1 (by omega) ⟨by omega, by omega⟩⟩
theorem zx_wordHere {X : Mm} {S : Sh} {m0 : Mm} {K : Int → Mm → Prop} {b : Int → Int} {n q : Int} (hS : Shp S) (hm0 : Inv X S m0) (ht : TR X b n) (hq : m0 336 8 = q) (hqn : q ≤ n) (sq : Sk b n q q) (h1 : ∀ (i : Nat) (M1 : Mm), i < 10 → (∀ j : Nat, j < i → ¬ Wk b n (vws.getD j 0) q) → Wk b n (vws.getD i 0) q → Inv X S M1 → (∀ c p : Int, ¬ (c = 336 ∧ 8 ≤ p ∧ p ≤ 8) → M1 c p = m0 c p) → M1 336 8 = q → K (i : Int) M1) (h0 : ∀ M1 : Mm, (∀ j : Nat, j < 10 → ¬ Wk b n (vws.getD j 0) q) → Inv X S M1 → (∀ c p : Int, ¬ (c = 336 ∧ 8 ≤ p ∧ p ≤ 8) → M1 c p = m0 c p) → M1 336 8 = q → K (-1) M1) : wp_X12_wordHere S m0 336 K := by
  refine u_X12_wordHere ?_
  have F0 : ∀ c p : Int, ¬ (c = 336 ∧ 8 ≤ p ∧ p ≤ 8) → m0 c p = m0 c p := fun _ _ _ => rfl
  have x0 := hq
  refine g_C ?_
  refine ⟨hS.k336, ?_⟩
  refine zx_isWord 2 hS hm0 ht (by omega) (by decide) pw_all.2.2.1.symm (fun q' m1 hm1 f1 sk x1 _ wk => ?_) (fun q' m1 hm1 f1 sk x1 _ n1 => ?_)
  · rw [x0] at sk
    obtain rfl := sk.uniq sq
    have F : ∀ c p : Int, ¬ (c = 336 ∧ 8 ≤ p ∧ p ≤ 8) → m1 c p = m0 c p := fun c p z => (f1 c p z).trans (F0 c p z)
    exact g_ifF (by decide) (g_C (h1 0 m1 (by decide) (fun j hj => absurd hj (Nat.not_lt_zero j)) wk hm1 F x1))
  rw [x0] at sk
  have eqq0 := sk.uniq sq
  rw [eqq0] at x1 n1
  clear eqq0 sk
  have F1 : ∀ c p : Int, ¬ (c = 336 ∧ 8 ≤ p ∧ p ≤ 8) → m1 c p = m0 c p := fun c p z => (f1 c p z).trans (F0 c p z)
  refine g_ifT rfl ?_
  refine g_C ?_
  refine ⟨hS.k336, ?_⟩
  refine zx_isWord 7 hS hm1 ht (by omega) (by decide) pw_all.2.2.2.2.2.2.2.1.symm (fun q' m2 hm2 f2 sk x2 _ wk => ?_) (fun q' m2 hm2 f2 sk x2 _ n2 => ?_)
  · rw [x1] at sk
    obtain rfl := sk.uniq sq
    have F : ∀ c p : Int, ¬ (c = 336 ∧ 8 ≤ p ∧ p ≤ 8) → m2 c p = m0 c p := fun c p z => (f2 c p z).trans (F1 c p z)
    exact g_ifF (by decide) (g_C (h1 1 m2 (by decide) (fun j hj => by rcases (show j = 0 by omega) with e <;> subst e <;> assumption) wk hm2 F x2))
  rw [x1] at sk
  have eqq1 := sk.uniq sq
  rw [eqq1] at x2 n2
  clear eqq1 sk
  have F2 : ∀ c p : Int, ¬ (c = 336 ∧ 8 ≤ p ∧ p ≤ 8) → m2 c p = m0 c p := fun c p z => (f2 c p z).trans (F1 c p z)
  refine g_ifT rfl ?_
  refine g_C ?_
  refine ⟨hS.k336, ?_⟩
  refine zx_isWord 8 hS hm2 ht (by omega) (by decide) pw_all.2.2.2.2.2.2.2.2.1.symm (fun q' m3 hm3 f3 sk x3 _ wk => ?_) (fun q' m3 hm3 f3 sk x3 _ n3 => ?_)
  · rw [x2] at sk
    obtain rfl := sk.uniq sq
    have F : ∀ c p : Int, ¬ (c = 336 ∧ 8 ≤ p ∧ p ≤ 8) → m3 c p = m0 c p := fun c p z => (f3 c p z).trans (F2 c p z)
    exact g_ifF (by decide) (g_C (h1 2 m3 (by decide) (fun j hj => by rcases (show j = 0 ∨ j = 1 by omega) with e | e <;> subst e <;> assumption) wk hm3 F x3))
  rw [x2] at sk
  have eqq2 := sk.uniq sq
  rw [eqq2] at x3 n3
  clear eqq2 sk
  have F3 : ∀ c p : Int, ¬ (c = 336 ∧ 8 ≤ p ∧ p ≤ 8) → m3 c p = m0 c p := fun c p z => (f3 c p z).trans (F2 c p z)
  refine g_ifT rfl ?_
  refine g_C ?_
  refine ⟨hS.k336, ?_⟩
  refine zx_isWord 3 hS hm3 ht (by omega) (by decide) pw_all.2.2.2.1.symm (fun q' m4 hm4 f4 sk x4 _ wk => ?_) (fun q' m4 hm4 f4 sk x4 _ n4 => ?_)
  · rw [x3] at sk
    obtain rfl := sk.uniq sq
    have F : ∀ c p : Int, ¬ (c = 336 ∧ 8 ≤ p ∧ p ≤ 8) → m4 c p = m0 c p := fun c p z => (f4 c p z).trans (F3 c p z)
    exact g_ifF (by decide) (g_C (h1 3 m4 (by decide) (fun j hj => by rcases (show j = 0 ∨ j = 1 ∨ j = 2 by omega) with e | e | e <;> subst e <;> assumption) wk hm4 F x4))
  rw [x3] at sk
  have eqq3 := sk.uniq sq
  rw [eqq3] at x4 n4
  clear eqq3 sk
  have F4 : ∀ c p : Int, ¬ (c = 336 ∧ 8 ≤ p ∧ p ≤ 8) → m4 c p = m0 c p := fun c p z => (f4 c p z).trans (F3 c p z)
  refine g_ifT rfl ?_
  refine g_C ?_
  refine ⟨hS.k336, ?_⟩
  refine zx_isWord 9 hS hm4 ht (by omega) (by decide) pw_all.2.2.2.2.2.2.2.2.2.1.symm (fun q' m5 hm5 f5 sk x5 _ wk => ?_) (fun q' m5 hm5 f5 sk x5 _ n5 => ?_)
  · rw [x4] at sk
    obtain rfl := sk.uniq sq
    have F : ∀ c p : Int, ¬ (c = 336 ∧ 8 ≤ p ∧ p ≤ 8) → m5 c p = m0 c p := fun c p z => (f5 c p z).trans (F4 c p z)
    exact g_ifF (by decide) (g_C (h1 4 m5 (by decide) (fun j hj => by rcases (show j = 0 ∨ j = 1 ∨ j = 2 ∨ j = 3 by omega) with e | e | e | e <;> subst e <;> assumption) wk hm5 F x5))
  rw [x4] at sk
  have eqq4 := sk.uniq sq
  rw [eqq4] at x5 n5
  clear eqq4 sk
  have F5 : ∀ c p : Int, ¬ (c = 336 ∧ 8 ≤ p ∧ p ≤ 8) → m5 c p = m0 c p := fun c p z => (f5 c p z).trans (F4 c p z)
  refine g_ifT rfl ?_
  refine g_C ?_
  refine ⟨hS.k336, ?_⟩
  refine zx_isWord 4 hS hm5 ht (by omega) (by decide) pw_all.2.2.2.2.1.symm (fun q' m6 hm6 f6 sk x6 _ wk => ?_) (fun q' m6 hm6 f6 sk x6 _ n6 => ?_)
  · rw [x5] at sk
    obtain rfl := sk.uniq sq
    have F : ∀ c p : Int, ¬ (c = 336 ∧ 8 ≤ p ∧ p ≤ 8) → m6 c p = m0 c p := fun c p z => (f6 c p z).trans (F5 c p z)
    exact g_ifF (by decide) (g_C (h1 5 m6 (by decide) (fun j hj => by rcases (show j = 0 ∨ j = 1 ∨ j = 2 ∨ j = 3 ∨ j = 4 by omega) with e | e | e | e | e <;> subst e <;> assumption) wk hm6 F x6))
  rw [x5] at sk
  have eqq5 := sk.uniq sq
  rw [eqq5] at x6 n6
  clear eqq5 sk
  have F6 : ∀ c p : Int, ¬ (c = 336 ∧ 8 ≤ p ∧ p ≤ 8) → m6 c p = m0 c p := fun c p z => (f6 c p z).trans (F5 c p z)
  refine g_ifT rfl ?_
  refine g_C ?_
  refine ⟨hS.k336, ?_⟩
  refine zx_isWord 10 hS hm6 ht (by omega) (by decide) pw_all.2.2.2.2.2.2.2.2.2.2.1.symm (fun q' m7 hm7 f7 sk x7 _ wk => ?_) (fun q' m7 hm7 f7 sk x7 _ n7 => ?_)
  · rw [x6] at sk
    obtain rfl := sk.uniq sq
    have F : ∀ c p : Int, ¬ (c = 336 ∧ 8 ≤ p ∧ p ≤ 8) → m7 c p = m0 c p := fun c p z => (f7 c p z).trans (F6 c p z)
    exact g_ifF (by decide) (g_C (h1 6 m7 (by decide) (fun j hj => by rcases (show j = 0 ∨ j = 1 ∨ j = 2 ∨ j = 3 ∨ j = 4 ∨ j = 5 by omega) with e | e | e | e | e | e <;> subst e <;> assumption) wk hm7 F x7))
  rw [x6] at sk
  have eqq6 := sk.uniq sq
  rw [eqq6] at x7 n7
  clear eqq6 sk
  have F7 : ∀ c p : Int, ¬ (c = 336 ∧ 8 ≤ p ∧ p ≤ 8) → m7 c p = m0 c p := fun c p z => (f7 c p z).trans (F6 c p z)
  refine g_ifT rfl ?_
  refine g_C ?_
  refine ⟨hS.k336, ?_⟩
  refine zx_isWord 1 hS hm7 ht (by omega) (by decide) pw_all.2.1.symm (fun q' m8 hm8 f8 sk x8 _ wk => ?_) (fun q' m8 hm8 f8 sk x8 _ n8 => ?_)
  · rw [x7] at sk
    obtain rfl := sk.uniq sq
    have F : ∀ c p : Int, ¬ (c = 336 ∧ 8 ≤ p ∧ p ≤ 8) → m8 c p = m0 c p := fun c p z => (f8 c p z).trans (F7 c p z)
    exact g_ifF (by decide) (g_C (h1 7 m8 (by decide) (fun j hj => by rcases (show j = 0 ∨ j = 1 ∨ j = 2 ∨ j = 3 ∨ j = 4 ∨ j = 5 ∨ j = 6 by omega) with e | e | e | e | e | e | e <;> subst e <;> assumption) wk hm8 F x8))
  rw [x7] at sk
  have eqq7 := sk.uniq sq
  rw [eqq7] at x8 n8
  clear eqq7 sk
  have F8 : ∀ c p : Int, ¬ (c = 336 ∧ 8 ≤ p ∧ p ≤ 8) → m8 c p = m0 c p := fun c p z => (f8 c p z).trans (F7 c p z)
  refine g_ifT rfl ?_
  refine g_C ?_
  refine ⟨hS.k336, ?_⟩
  refine zx_isWord 11 hS hm8 ht (by omega) (by decide) pw_all.2.2.2.2.2.2.2.2.2.2.2.1.symm (fun q' m9 hm9 f9 sk x9 _ wk => ?_) (fun q' m9 hm9 f9 sk x9 _ n9 => ?_)
  · rw [x8] at sk
    obtain rfl := sk.uniq sq
    have F : ∀ c p : Int, ¬ (c = 336 ∧ 8 ≤ p ∧ p ≤ 8) → m9 c p = m0 c p := fun c p z => (f9 c p z).trans (F8 c p z)
    exact g_ifF (by decide) (g_C (h1 8 m9 (by decide) (fun j hj => by rcases (show j = 0 ∨ j = 1 ∨ j = 2 ∨ j = 3 ∨ j = 4 ∨ j = 5 ∨ j = 6 ∨ j = 7 by omega) with e | e | e | e | e | e | e | e <;> subst e <;> assumption) wk hm9 F x9))
  rw [x8] at sk
  have eqq8 := sk.uniq sq
  rw [eqq8] at x9 n9
  clear eqq8 sk
  have F9 : ∀ c p : Int, ¬ (c = 336 ∧ 8 ≤ p ∧ p ≤ 8) → m9 c p = m0 c p := fun c p z => (f9 c p z).trans (F8 c p z)
  refine g_ifT rfl ?_
  refine g_C ?_
  refine ⟨hS.k336, ?_⟩
  refine zx_isWord 12 hS hm9 ht (by omega) (by decide) pw_all.2.2.2.2.2.2.2.2.2.2.2.2.1.symm (fun q' m10 hm10 f10 sk x10 _ wk => ?_) (fun q' m10 hm10 f10 sk x10 _ n10 => ?_)
  · rw [x9] at sk
    obtain rfl := sk.uniq sq
    have F : ∀ c p : Int, ¬ (c = 336 ∧ 8 ≤ p ∧ p ≤ 8) → m10 c p = m0 c p := fun c p z => (f10 c p z).trans (F9 c p z)
    exact g_ifF (by decide) (g_C (h1 9 m10 (by decide) (fun j hj => by rcases (show j = 0 ∨ j = 1 ∨ j = 2 ∨ j = 3 ∨ j = 4 ∨ j = 5 ∨ j = 6 ∨ j = 7 ∨ j = 8 by omega) with e | e | e | e | e | e | e | e | e <;> subst e <;> assumption) wk hm10 F x10))
  rw [x9] at sk
  have eqq9 := sk.uniq sq
  rw [eqq9] at x10 n10
  clear eqq9 sk
  have F10 : ∀ c p : Int, ¬ (c = 336 ∧ 8 ≤ p ∧ p ≤ 8) → m10 c p = m0 c p := fun c p z => (f10 c p z).trans (F9 c p z)
  refine g_ifT rfl ?_
  exact g_C (h0 m10 (fun j hj => by rcases (show j = 0 ∨ j = 1 ∨ j = 2 ∨ j = 3 ∨ j = 4 ∨ j = 5 ∨ j = 6 ∨ j = 7 ∨ j = 8 ∨ j = 9 by omega) with e | e | e | e | e | e | e | e | e | e <;> subst e <;> assumption) hm10 F10 x10)
