section
theorem fr2_X12_tested_49 {X G : Mm} {S : Sh} {k12 k12' : Int → Int → Mm → Prop} {K K' : Int → Mm → Prop} {M : Mm} (hG : Inv X S G) (kk12 : ∀ (a1 : Int) (m : Mm), fr2_F G m → k12 (336) a1 m → k12' (336) a1 m) (k : ∀ (a0 : Int) (m : Mm), fr2_F G m → K a0 m → K' a0 m) (f : fr2_F G M) (h : wp_X12_tested_49 S k12 K (336) M) : wp_X12_tested_49 S k12' K' (336) M := by
  refine m_C h (fun h => ?_)
  refine fr2_X12_tested_54 hG kk12 k f h
theorem fr2_X12_tested_12 {X G : Mm} {S : Sh} {K K' : Int → Mm → Prop} (hG : Inv X S G) (k : ∀ (a0 : Int) (m : Mm), fr2_F G m → K a0 m → K' a0 m) : ∀ (n : Nat) (u1 : Int) (M : Mm), fr2_F G M → wp_X12_tested_12 S K n (336) u1 M → wp_X12_tested_12 S K' n (336) u1 M := by
  intro n
  induction n with
  | zero => intro u1 M f h; exact h
  | succ n ih =>
    intro u1 M f h
    refine m_if h (fun h => ?_) (fun h => ?_)
    · skip
      refine m_and h (fun h => ?_)
      refine fr2_X12_isInside hG (fun _ _ f1 h => ?_) f h
      refine m_if h (fun h => ?_) (fun h => ?_)
      · skip
        refine m_C h (fun h => ?_)
        refine m_and h (fun h => ?_)
        refine fr2_X12_settles hG (fun _ f2 h => ?_) f1 h
        refine m_C h (fun h => ?_)
        refine m_and h (fun h => ?_)
        exact k _ _ f2 h
      · skip
        refine m_and h (fun h => ?_)
        refine fr2_X12_see hG (fun _ _ f3 h => ?_) f1 h
        refine m_C h (fun h => ?_)
        refine m_Get h (fun _ h => ?_)
        refine m_and h (fun h => ?_)
        refine fr2_X12_fails hG (fun _ _ f4 h => ?_) f3 h
        refine m_and h (fun h => ?_)
        exact k _ _ f4 h
    · skip
      refine m_and h (fun h => ?_)
      refine fr2_X12_fact hG (fun _ _ f5 h => ?_) f h
      refine m_if h (fun h => ?_) (fun h => ?_)
      · skip
        refine m_and h (fun h => ?_)
        refine fr2_X12_closes hG (fun _ f6 h => ?_) f5 h
        refine m_C h (fun h => ?_)
        refine m_and h (fun h => ?_)
        refine fr2_X12_isWord hG (fun _ _ f7 h => ?_) f6 h
        refine m_if h (fun h => ?_) (fun h => ?_)
        · skip
          refine fr2_X12_tested_49 hG (fun _ _ f8 h => ?_) k f7 h
          exact ih _ _ f8 h
        · skip
          refine m_C h (fun h => ?_)
          refine m_and h (fun h => ?_)
          refine fr2_X12_isWord hG (fun _ _ f9 h => ?_) f7 h
          refine m_if h (fun h => ?_) (fun h => ?_)
          · skip
            refine m_C h (fun h => ?_)
            refine fr2_X12_tested_54 hG (fun _ _ f10 h => ?_) k f9 h
            exact ih _ _ f10 h
          · skip
            refine fr2_X12_tested_49 hG (fun _ _ f11 h => ?_) k f9 h
            exact ih _ _ f11 h
      · skip
        refine m_C h (fun h => ?_)
        refine m_and h (fun h => ?_)
        exact k _ _ f5 h
theorem fr2_X12_tested {X G : Mm} {S : Sh} {K K' : Int → Mm → Prop} {M : Mm} (hG : Inv X S G) (k : ∀ (a0 : Int) (m : Mm), fr2_F G m → K a0 m → K' a0 m) (f : fr2_F G M) (h : wp_X12_tested S M (336) K) : wp_X12_tested S M (336) K' := by
  refine m_C h (fun h => ?_)
  refine m_Put (fr2_up (by decide) f) h (fun _ f1 h => ?_)
  refine m_C h (fun h => ?_)
  refine m_Put (fr2_up (by decide) f1) h (fun _ f2 h => ?_)
  refine m_C h (fun h => ?_)
  refine m_ex h (fun n9 h => ?_)
  refine fr2_X12_tested_12 hG k _ _ _ f2 h
theorem fr2_X12_isTurnHere_110 {X G : Mm} {S : Sh} {K K' : Int → Mm → Prop} {M : Mm} {u1 : Int} (hG : Inv X S G) (k : ∀ (a0 : Int) (m : Mm), fr2_F G m → K a0 m → K' a0 m) (f : fr2_F G M) (h : wp_X12_isTurnHere_110 S K (336) u1 M) : wp_X12_isTurnHere_110 S K' (336) u1 M := by
  refine m_gr (fr2_c_336_5 hG f) h (fun h => ?_)
  refine m_C h (fun h => ?_)
  refine m_A h (fun _ h => ?_)
  refine m_gr (fr2_c_336_4 hG f) h (fun h => ?_)
  refine m_Get h (fun _ h => ?_)
  refine m_Ld h (fun _ h => ?_)
  refine m_St (fr2_up (fr2_a_340 _) f) h (fun _ f1 h => ?_)
  refine m_gr (fr2_c_336_6 hG f1) h (fun h => ?_)
  refine m_Get h (fun _ h => ?_)
  refine m_Ld h (fun _ h => ?_)
  refine m_C h (fun h => ?_)
  refine m_A h (fun _ h => ?_)
  refine m_St (fr2_up (fr2_a_341 _) f1) h (fun _ f2 h => ?_)
  refine m_C h (fun h => ?_)
  refine m_and h (fun h => ?_)
  exact k _ _ f2 h
theorem fr2_X12_isTurnHere {X G : Mm} {S : Sh} {K K' : Int → Mm → Prop} {M : Mm} (hG : Inv X S G) (k : ∀ (a0 : Int) (m : Mm), fr2_F G m → K a0 m → K' a0 m) (f : fr2_F G M) (h : wp_X12_isTurnHere S M (336) K) : wp_X12_isTurnHere S M (336) K' := by
  refine m_and h (fun h => ?_)
  refine fr2_X12_passWord hG (fun _ f1 h => ?_) f h
  refine m_C h (fun h => ?_)
  refine m_Get h (fun _ h => ?_)
  refine m_M h (fun _ h => ?_)
  refine m_C h (fun h => ?_)
  refine m_gr (fr2_c_336_6 hG f1) h (fun h => ?_)
  refine m_Get h (fun _ h => ?_)
  refine m_Ld h (fun _ h => ?_)
  refine m_M h (fun _ h => ?_)
  refine m_A h (fun _ h => ?_)
  refine m_gr (fr2_c_336_5 hG f1) h (fun h => ?_)
  refine m_gr (fr2_c_336_4 hG f1) h (fun h => ?_)
  refine m_Get h (fun _ h => ?_)
  refine m_Ld h (fun _ h => ?_)
  refine m_St (fr2_up (fr2_a_340 _) f1) h (fun _ f2 h => ?_)
  refine m_and h (fun h => ?_)
  refine fr2_X12_sum hG (fun _ _ f3 h => ?_) f2 h
  refine m_if h (fun h => ?_) (fun h => ?_)
  · skip
    refine m_gr (fr2_c_336_5 hG f3) h (fun h => ?_)
    refine m_C h (fun h => ?_)
    refine m_A h (fun _ h => ?_)
    refine m_gr (fr2_c_336_4 hG f3) h (fun h => ?_)
    refine m_Get h (fun _ h => ?_)
    refine m_Ld h (fun _ h => ?_)
    refine m_St (fr2_up (fr2_a_340 _) f3) h (fun _ f4 h => ?_)
    refine m_gr (fr2_c_336_5 hG f4) h (fun h => ?_)
    refine m_C h (fun h => ?_)
    refine m_A h (fun _ h => ?_)
    refine m_C h (fun h => ?_)
    refine m_St (fr2_up (fr2_a_340 _) f4) h (fun _ f5 h => ?_)
    refine m_C h (fun h => ?_)
    refine m_and h (fun h => ?_)
    refine fr2_X12_takesWord hG (fun _ _ f6 h => ?_) f5 h
    refine m_if h (fun h => ?_) (fun h => ?_)
    · skip
      refine fr2_X12_isTurnHere_110 hG k f6 h
    · skip
      refine m_gr (fr2_c_336_5 hG f6) h (fun h => ?_)
      refine m_C h (fun h => ?_)
      refine m_A h (fun _ h => ?_)
      refine m_gr (fr2_c_336_4 hG f6) h (fun h => ?_)
      refine m_Get h (fun _ h => ?_)
      refine m_Ld h (fun _ h => ?_)
      refine m_St (fr2_up (fr2_a_340 _) f6) h (fun _ f7 h => ?_)
      refine m_and h (fun h => ?_)
      refine fr2_X12_tested hG (fun _ _ f8 h => ?_) f7 h
      refine m_if h (fun h => ?_) (fun h => ?_)
      · skip
        refine fr2_X12_isTurnHere_110 hG k f8 h
      · skip
        refine m_C h (fun h => ?_)
        refine m_and h (fun h => ?_)
        exact k _ _ f8 h
  · skip
    refine m_C h (fun h => ?_)
    refine m_and h (fun h => ?_)
    exact k _ _ f3 h
theorem fr2_X12_clauseHere_71 {X G : Mm} {S : Sh} {K K' : Int → Mm → Prop} {M : Mm} {u1 : Int} {u2 : Int} {t0 : Int} {t1 : Int} (hG : Inv X S G) (k : ∀ (a0 : Int) (m : Mm), fr2_F G m → K a0 m → K' a0 m) (f : fr2_F G M) (h : wp_X12_clauseHere_71 S K (336) u1 u2 t0 t1 M) : wp_X12_clauseHere_71 S K' (336) u1 u2 t0 t1 M := by
  refine m_if h (fun h => ?_) (fun h => ?_)
  · skip
    refine m_Get h (fun _ h => ?_)
    refine m_C h (fun h => ?_)
    refine m_A h (fun _ h => ?_)
    refine m_Put (fr2_up (by decide) f) h (fun _ f1 h => ?_)
    refine m_if h (fun h => ?_) (fun h => ?_)
    · skip
      refine m_and h (fun h => ?_)
      refine fr2_X12_isTurnHere hG (fun _ _ f2 h => ?_) f1 h
      refine m_and h (fun h => ?_)
      exact k _ _ f2 h
    · skip
      refine m_and h (fun h => ?_)
      refine fr2_X12_dairyLineHere hG (fun _ _ f3 h => ?_) f1 h
      refine m_and h (fun h => ?_)
      exact k _ _ f3 h
  · skip
    refine m_C h (fun h => ?_)
    refine m_and h (fun h => ?_)
    refine fr2_X12_fails hG (fun _ _ f4 h => ?_) f h
    refine m_and h (fun h => ?_)
    exact k _ _ f4 h
theorem fr2_X12_clauseHere_56 {X G : Mm} {S : Sh} {K K' : Int → Mm → Prop} {M : Mm} {u1 : Int} {u2 : Int} (hG : Inv X S G) (k : ∀ (a0 : Int) (m : Mm), fr2_F G m → K a0 m → K' a0 m) (f : fr2_F G M) (h : wp_X12_clauseHere_56 S K (336) u1 u2 M) : wp_X12_clauseHere_56 S K' (336) u1 u2 M := by
  refine m_Get h (fun _ h => ?_)
  refine m_if h (fun h => ?_) (fun h => ?_)
  · skip
    refine m_C h (fun h => ?_)
    refine fr2_X12_clauseHere_71 hG k f h
  · skip
    refine m_C h (fun h => ?_)
    refine fr2_X12_clauseHere_71 hG k f h
theorem fr2_X12_clauseHere_49 {X G : Mm} {S : Sh} {K K' : Int → Mm → Prop} {M : Mm} {u1 : Int} (hG : Inv X S G) (k : ∀ (a0 : Int) (m : Mm), fr2_F G m → K a0 m → K' a0 m) (f : fr2_F G M) (h : wp_X12_clauseHere_49 S K (336) u1 M) : wp_X12_clauseHere_49 S K' (336) u1 M := by
  refine m_C h (fun h => ?_)
  refine m_and h (fun h => ?_)
  refine fr2_X12_fails hG (fun _ _ f1 h => ?_) f h
  refine m_and h (fun h => ?_)
  exact k _ _ f1 h
theorem fr2_X12_clauseHere_24 {X G : Mm} {S : Sh} {K K' : Int → Mm → Prop} {M : Mm} {u1 : Int} {t0 : Int} (hG : Inv X S G) (k : ∀ (a0 : Int) (m : Mm), fr2_F G m → K a0 m → K' a0 m) (f : fr2_F G M) (h : wp_X12_clauseHere_24 S K (336) u1 t0 M) : wp_X12_clauseHere_24 S K' (336) u1 t0 M := by
  refine m_if h (fun h => ?_) (fun h => ?_)
  · skip
    refine m_C h (fun h => ?_)
    refine m_and h (fun h => ?_)
    refine fr2_X12_isWord hG (fun _ _ f1 h => ?_) f h
    refine m_if h (fun h => ?_) (fun h => ?_)
    · skip
      refine fr2_X12_clauseHere_56 hG k f1 h
    · skip
      refine fr2_X12_clauseHere_49 hG k f1 h
  · skip
    refine m_and h (fun h => ?_)
    refine fr2_X12_isDairyWord hG (fun _ _ f2 h => ?_) f h
    refine m_if h (fun h => ?_) (fun h => ?_)
    · skip
      refine fr2_X12_clauseHere_56 hG k f2 h
    · skip
      refine fr2_X12_clauseHere_49 hG k f2 h
theorem fr2_X12_clauseHere {X G : Mm} {S : Sh} {K K' : Int → Mm → Prop} {M : Mm} (hG : Inv X S G) (k : ∀ (a0 : Int) (m : Mm), fr2_F G m → K a0 m → K' a0 m) (f : fr2_F G M) (h : wp_X12_clauseHere S M (336) K) : wp_X12_clauseHere S M (336) K' := by
  refine m_and h (fun h => ?_)
  refine fr2_X12_see hG (fun _ _ f1 h => ?_) f h
  refine m_Get h (fun _ h => ?_)
  refine m_Get h (fun _ h => ?_)
  refine m_C h (fun h => ?_)
  refine m_if h (fun h => ?_) (fun h => ?_)
  · skip
    refine m_C h (fun h => ?_)
    refine fr2_X12_clauseHere_24 hG k f1 h
  · skip
    refine m_C h (fun h => ?_)
    refine fr2_X12_clauseHere_24 hG k f1 h
theorem fr2_X12_readsAll_88 {X G : Mm} {S : Sh} {K K' : Int → Mm → Prop} {M : Mm} (hG : Inv X S G) (k : ∀ (a0 : Int) (m : Mm), fr2_F G m → K a0 m → K' a0 m) (f : fr2_F G M) (h : wp_X12_readsAll_88 S K (336) M) : wp_X12_readsAll_88 S K' (336) M := by
  refine m_C h (fun h => ?_)
  refine m_Put (fr2_up (by decide) f) h (fun _ f1 h => ?_)
  refine m_Get h (fun _ h => ?_)
  refine m_if h (fun h => ?_) (fun h => ?_)
  · skip
    refine m_C h (fun h => ?_)
    refine m_and h (fun h => ?_)
    exact k _ _ f1 h
  · skip
    refine m_C h (fun h => ?_)
    refine m_and h (fun h => ?_)
    exact k _ _ f1 h
theorem fr2_X12_readsAll_66 {X G : Mm} {S : Sh} {K K' : Int → Mm → Prop} {M : Mm} {u1 : Int} (hG : Inv X S G) (k : ∀ (a0 : Int) (m : Mm), fr2_F G m → K a0 m → K' a0 m) (f : fr2_F G M) (h : wp_X12_readsAll_66 S K (336) u1 M) : wp_X12_readsAll_66 S K' (336) u1 M := by
  refine m_if h (fun h => ?_) (fun h => ?_)
  · skip
    refine fr2_X12_readsAll_88 hG k f h
  · skip
    refine m_and h (fun h => ?_)
    refine fr2_X12_see hG (fun _ _ f1 h => ?_) f h
    refine m_C h (fun h => ?_)
    refine m_if h (fun h => ?_) (fun h => ?_)
    · skip
      refine fr2_X12_readsAll_88 hG k f1 h
    · skip
      refine m_C h (fun h => ?_)
      refine m_Get h (fun _ h => ?_)
      refine m_and h (fun h => ?_)
      refine fr2_X12_fails hG (fun _ _ f2 h => ?_) f1 h
      refine fr2_X12_readsAll_88 hG k f2 h
theorem fr2_X12_readsAll_35 {X G : Mm} {S : Sh} {K K' : Int → Mm → Prop} (hG : Inv X S G) (k : ∀ (a0 : Int) (m : Mm), fr2_F G m → K a0 m → K' a0 m) : ∀ (n : Nat) (u1 : Int) (M : Mm), fr2_F G M → wp_X12_readsAll_35 S K n (336) u1 M → wp_X12_readsAll_35 S K' n (336) u1 M := by
  intro n
  induction n with
  | zero => intro u1 M f h; exact h
  | succ n ih =>
    intro u1 M f h
    refine m_if h (fun h => ?_) (fun h => ?_)
    · skip
      refine fr2_X12_readsAll_66 hG k f h
    · skip
      refine m_and h (fun h => ?_)
      refine fr2_X12_see hG (fun _ _ f1 h => ?_) f h
      refine m_C h (fun h => ?_)
      refine m_if h (fun h => ?_) (fun h => ?_)
      · skip
        refine fr2_X12_readsAll_66 hG k f1 h
      · skip
        refine m_Get h (fun _ h => ?_)
        refine m_C h (fun h => ?_)
        refine m_A h (fun _ h => ?_)
        refine m_Put (fr2_up (by decide) f1) h (fun _ f2 h => ?_)
        refine m_and h (fun h => ?_)
        refine fr2_X12_clauseHere hG (fun _ _ f3 h => ?_) f2 h
        exact ih _ _ f3 h
theorem fr2_X12_readsAll {X G : Mm} {S : Sh} {K K' : Int → Mm → Prop} {M : Mm} (hG : Inv X S G) (k : ∀ (a0 : Int) (m : Mm), fr2_F G m → K a0 m → K' a0 m) (f : fr2_F G M) (h : wp_X12_readsAll S M (336) K) : wp_X12_readsAll S M (336) K' := by
  refine m_gr (fr2_c_336_4 hG f) h (fun h => ?_)
  refine m_Get h (fun _ h => ?_)
  refine m_C h (fun h => ?_)
  refine m_St (fr2_up (fr2_a_339 _) f) h (fun _ f1 h => ?_)
  refine m_C h (fun h => ?_)
  refine m_Put (fr2_up (by decide) f1) h (fun _ f2 h => ?_)
  refine m_C h (fun h => ?_)
  refine m_Put (fr2_up (by decide) f2) h (fun _ f3 h => ?_)
  refine m_C h (fun h => ?_)
  refine m_Put (fr2_up (by decide) f3) h (fun _ f4 h => ?_)
  refine m_C h (fun h => ?_)
  refine m_Put (fr2_up (by decide) f4) h (fun _ f5 h => ?_)
  refine m_and h (fun h => ?_)
  refine fr2_X12_clauseHere hG (fun _ _ f6 h => ?_) f5 h
  refine m_ex h (fun n9 h => ?_)
  refine fr2_X12_readsAll_35 hG k _ _ _ f6 h
end
section
theorem zx_keepsAct {X : Mm} {S : Sh} {m0 : Mm} {K : Mm → Prop} (hS : Shp S) (hm0 : Inv X S m0)  (hk : ∀ (M2 : Mm) (u s : Int), Inv X S M2 → 0 ≤ u → u ≤ 19 → M2 336 25 = u + 1 → ((s = 0 ∧ u = m0 336 25) ∨ (s = 57 ∧ u = 19 ∧ m0 336 25 = 20)) → (∀ c p : Int, ¬ c = 347 → ¬ (c = 336 ∧ p = 25) → M2 c p = m0 c p) → (∀ j : Int, 0 ≤ j → j < 57 → M2 347 (57 * u + j) = m0 346 j) → (∀ p : Int, 0 ≤ p → p < 57 * u → M2 347 p = m0 347 (p + s)) → K M2) : wp_X12_keepsAct S m0 336 K := by
  have f24 := hm0.f_336_24
  have f20 := hm0.f_336_20
  refine u_X12_keepsAct ?_
  refine g_get 25 0 20 rfl hS.k336 hm0.f_336_25 (fun v ev bv cv => ?_)
  refine g_C ?_
  refine g_if (fun w => ?_) (fun w => ?_)
  · refine k_52 (u := v) hS f24 f20 ev.symm bv (by omega) (fun M2 z1 z2 z3 => hk M2 v 0 ?_ bv (by omega) z1 (Or.inl ⟨rfl, ev⟩) (fun c p a1 a2 => z2 c p (by omega) a2) z3 (fun p a1 a2 => by rw [Int.add_zero]; exact z2 347 p (by omega) (by omega)))
    exact k_inv (s := 0) hm0 bv (by omega) z1 (Or.inl ⟨rfl, ev⟩) (fun c p a1 a2 => z2 c p (by omega) a2) z3 (fun p a1 a2 => by rw [Int.add_zero]; exact z2 347 p (by omega) (by omega)) (fun p a1 a2 => z2 347 p (by omega) (by omega))
  · refine g_C ?_
    have L : ∀ (n : Nat) (k : Int) (M2 : Mm), 57 ≤ k → k ≤ 1140 → (∀ c p : Int, ¬ (c = 347 ∧ 0 ≤ p ∧ p < k - 57) → M2 c p = m0 c p) → (∀ p : Int, 0 ≤ p → p < k - 57 → M2 347 p = m0 347 (p + 57)) → 1141 - k ≤ (n : Int) → wp_X12_keepsAct_12 S K n 336 k M2 := by
      intro n
      induction n with
      | zero => intro k M2 _ _ _ _ h5; exfalso; omega
      | succ n ih =>
        intro k M2 a1 a2 a3 a4 a5
        have e24 : M2 336 24 = 347 := (a3 336 24 (by omega)).trans f24
        have e20 : M2 336 20 = 346 := (a3 336 20 (by omega)).trans f20
        have e25 : M2 336 25 = v := (a3 336 25 (by omega)).trans ev.symm
        refine u_X12_keepsAct_12 ?_
        refine g_C ?_
        refine g_if (fun w => ?_) (fun w => ?_)
        · refine g_getu 25 rfl hS.k336 (fun x ex => ?_)
          refine g_C ?_
          refine g_S (by omega) (by omega) ?_
          refine g_putR 25 rfl hS.k336 (fun M3 e3 => ?_)
          have x25 : M3 336 25 = 19 := by rw [e3, up_at]; omega
          refine k_52 (u := 19) hS ?_ ?_ x25 (by omega) (by omega) (fun M4 z1 z2 z3 => ?_)
          · rw [e3, up_ne (by omega)]; exact e24
          · rw [e3, up_ne (by omega)]; exact e20
          · have w1 : ∀ c p : Int, ¬ c = 347 → ¬ (c = 336 ∧ p = 25) → M4 c p = m0 c p := fun c p b1 b2 => by
              rw [z2 c p (by omega) b2, e3, up_ne (by omega)]; exact a3 c p (by omega)
            have w2 : ∀ j : Int, 0 ≤ j → j < 57 → M4 347 (57 * 19 + j) = m0 346 j := fun j b1 b2 => by
              rw [z3 j b1 b2, e3, up_ne (by omega)]; exact a3 346 j (by omega)
            have w3 : ∀ p : Int, 0 ≤ p → p < 57 * 19 → M4 347 p = m0 347 (p + 57) := fun p b1 b2 => by
              rw [z2 347 p (by omega) (by omega), e3, up_ne (by omega)]; exact a4 p b1 (by omega)
            exact hk M4 19 57 (k_inv (s := 57) (u := 19) hm0 (by omega) (by omega) z1 (Or.inr ⟨rfl, rfl, by omega⟩) w1 w2 w3 (fun p b1 b2 => absurd b1 (by omega))) (by decide) (by decide) z1 (Or.inr ⟨rfl, rfl, by omega⟩) w1 w2 w3
        · refine g_getr 24 347 rfl hS.k336 e24 (by decide) ?_
          refine g_C ?_
          refine g_S (by omega) (by omega) ?_
          refine g_getr 24 347 rfl hS.k336 e24 (by decide) ?_
          refine g_ldu hS.k347 hS.l347 (by omega) (by omega) (fun x ex => ?_)
          refine g_stR hS.k347 hS.l347 (by omega) (by omega) (fun M3 e3 => ?_)
          refine g_A (by omega) (by omega) ?_
          refine ih (k + 1) M3 (by omega) (by omega) (fun c p h1 => ?_) (fun p h1 h2 => ?_) (by omega)
          · rw [e3, up_ne (by omega)]; exact a3 c p (by omega)
          · by_cases z : p = k - 57
            · rw [e3, z, up_at, ex, show k - 57 + 57 = k by omega]
              exact a3 347 k (by omega)
            · rw [e3, up_ne (by omega)]; exact a4 p h1 (by omega)
    exact ⟨1084, L 1084 57 m0 (by omega) (by omega) (fun _ _ _ => rfl) (fun p h1 h2 => absurd h2 (by omega)) (by omega)⟩
theorem zx_keeps {X : Mm} {S : Sh} {m0 : Mm} {K : Mm → Prop} (hS : Shp S) (hm0 : Inv X S m0)  (hk : ∀ (M1 : Mm), Inv (up X (-1) 0 1) S M1 → (∀ c p : Int, ¬ c = 348 → M1 c p = m0 c p) → (∀ j : Int, 0 ≤ j ∧ j < 57 → M1 348 j = m0 346 j) → K M1) : wp_X12_keeps S m0 336 K := by
  refine s_X12_keeps hS hm0.rfm (fun M1 hs hc => hk M1 ?_ (fun c p h => hs c p h) hc)
  refine ⟨fun c p h1 h2 => ?_, fun c p h1 => ?_, fun i h1 h2 => ?_, ?_, good_fl hm0.good, fun hx p hp => ?_, ?_⟩
  · by_cases e : c = 348
    · subst e
      rw [pT_348.1] at h2
      have q := hm0.1 346 p (by decide) (by rw [pT_348.2]; omega)
      rw [bd_348 p h2]
      have q2 := hc p (by omega)
      rw [show ((348 : Nat) : Int) = 348 from rfl, q2]
      exact q
    · rw [hs c p (by omega)]
      exact hm0.1 c p h1 h2
  · have e2 : spX X c p := by
      have h3 : spP c p ∨ (c = 338 ∧ p < 400 * up X (-1) 0 1 336 2) ∨ (c = 340 ∧ p < 48 * up X (-1) 0 1 336 2) ∨ (c = 341 ∧ p < up X (-1) 0 1 336 2) := h1
      rw [fl_e 336 2 (by decide)] at h3
      exact h3
    rw [fl_e c p (by omega), hs c p (by omega)]
    exact hm0.2.1 c p e2
  · rw [hs 30 i (by decide)]; exact hm0.row30 h1 h2
  · rw [hs 55 1 (by decide)]; exact hm0.row55
  · rw [fl_e 346 p (by decide), hc p (by omega)]
    exact hm0.2.1 346 p (by omega)
  · have q := hm0.pl
    have g4 := hm0.g (c := 346) (p := 4) (by decide)
    have g5 := hm0.g (c := 346) (p := 5) (by decide)
    have b4 := hm0.f_346_4
    have b5 := hm0.f_346_5
    have e6 : M1 346 = m0 346 := funext (fun p => hs 346 p (by decide))
    have e7 : M1 347 = m0 347 := funext (fun p => hs 347 p (by decide))
    have e4 : M1 354 = m0 354 := funext (fun p => hs 354 p (by decide))
    have e5 : M1 336 25 = m0 336 25 := hs 336 25 (by decide)
    unfold PLi at q ⊢
    rw [e6, e7, e4, e5, fl_e 346 0 (by decide), fl_e 346 4 (by decide), fl_e 346 5 (by decide)]
    refine ⟨q.1, fun _ => ⟨fun a a1 a2 => ?_, fun a a1 a2 => ?_⟩, q.2.2⟩
    · rw [hc _ (by omega)]; exact q.1.1 a a1 a2
    · rw [hc _ (by omega)]; exact q.1.2 a a1 a2
theorem zx_laysBack {X : Mm} {S : Sh} {m0 : Mm} {K : Mm → Prop} (hS : Shp S) (hm0 : Inv X S m0) (p0 : X (-1) 0 = 1) (hk : ∀ (M1 : Mm), Inv X S M1 → (∀ a j : Int, ¬ (a = 346 ∧ 0 ≤ j ∧ j < 57) → M1 a j = m0 a j) → (∀ j : Int, 0 ≤ j ∧ j < 57 → M1 346 j = m0 348 j) → K M1) : wp_X12_laysBack S m0 336 K := by
  refine s_X12_laysBack hS hm0.rfm (fun M1 hs hc => hk M1 ?_ hs hc)
  refine ⟨fun c p h1 h2 => ?_, fun c p h1 => ?_, fun i h1 h2 => ?_, ?_, hm0.good, fun hx p hp => ?_, ?_⟩
  · by_cases e : c = 346 ∧ p < 57
    · obtain ⟨e1, e2⟩ := e
      subst e1
      have q := hm0.1 348 p (by decide) (by rw [pT_348.1]; omega)
      rw [bd_348 p e2] at q
      have q2 := hc p (by omega)
      rw [show ((346 : Nat) : Int) = 346 from rfl, q2]
      exact q
    · rw [hs c p (by omega)]
      exact hm0.1 c p h1 h2
  · by_cases e : c = 346
    · subst e
      rw [hc p (by omega), hm0.flag p0 (by omega)]
    · rw [hs c p (by omega)]
      exact hm0.2.1 c p h1
  · rw [hs 30 i (by first | decide | exact fun z => absurd z.1 (by decide) | exact ⟨fun z => absurd z.1 (by decide), fun z => absurd z.1 (by decide)⟩ | omega)]; exact hm0.row30 h1 h2
  · rw [hs 55 1 (by first | decide | exact fun z => absurd z.1 (by decide) | exact ⟨fun z => absurd z.1 (by decide), fun z => absurd z.1 (by decide)⟩ | omega)]; exact hm0.row55
  · rw [hs 348 p (by first | decide | exact fun z => absurd z.1 (by decide) | exact ⟨fun z => absurd z.1 (by decide), fun z => absurd z.1 (by decide)⟩ | omega)]; exact hm0.flag hx hp
  · have q := hm0.pl
    have g4 := hm0.g (c := 346) (p := 4) (by decide)
    have g5 := hm0.g (c := 346) (p := 5) (by decide)
    have b4 := hm0.f_346_4
    have b5 := hm0.f_346_5
    have e8 : M1 348 = m0 348 := funext (fun p => hs 348 p (by first | decide | exact fun z => absurd z.1 (by decide) | exact ⟨fun z => absurd z.1 (by decide), fun z => absurd z.1 (by decide)⟩ | omega))
    have e7 : M1 347 = m0 347 := funext (fun p => hs 347 p (by first | decide | exact fun z => absurd z.1 (by decide) | exact ⟨fun z => absurd z.1 (by decide), fun z => absurd z.1 (by decide)⟩ | omega))
    have e4 : M1 354 = m0 354 := funext (fun p => hs 354 p (by first | decide | exact fun z => absurd z.1 (by decide) | exact ⟨fun z => absurd z.1 (by decide), fun z => absurd z.1 (by decide)⟩ | omega))
    have e5 : M1 336 25 = m0 336 25 := hs 336 25 (by first | decide | exact fun z => absurd z.1 (by decide) | exact ⟨fun z => absurd z.1 (by decide), fun z => absurd z.1 (by decide)⟩ | omega)
    unfold PLi at q ⊢
    rw [e8, e7, e4, e5]
    refine ⟨⟨fun a a1 a2 => ?_, fun a a1 a2 => ?_⟩, q.2⟩
    · rw [hc _ (by omega)]; exact (q.2.1 p0).1 a a1 a2
    · rw [hc _ (by omega)]; exact (q.2.1 p0).2 a a1 a2
theorem ps_cell : ∀ p : Nat, p < 20 → p < pT.getD 29 0 ∧ bd 29 p = (176 + 8 * (p : Int), 176 + 8 * (p : Int)) ∧ (176 + 8 * (p : Int)) ∈ lSt := by decide +kernel
theorem Inv.ps {X : Mm} {S : Sh} {M : Mm} (h : Inv X S M) {i : Int} (h0 : 0 ≤ i) (h1 : i ≤ 19) : M 29 i = 176 + 8 * i := by
  obtain ⟨q0, q1, -⟩ := ps_cell i.toNat (by omega)
  have q := h.rd 29 i.toNat _ _ (by decide) q0 q1 (Int.le_refl _)
  rw [Int.toNat_of_nonneg h0] at q
  exact Int.le_antisymm q.2 q.1
theorem ps_st {i : Int} (h0 : 0 ≤ i) (h1 : i ≤ 19) : isSt (176 + 8 * i) := by
  have q := (ps_cell i.toNat (by omega)).2.2
  rw [Int.toNat_of_nonneg h0] at q
  exact q
theorem rem_20 : ∀ k : Nat, k < 40 → iRem (k : Int) 20 = ((k % 20 : Nat) : Int) := by decide +kernel
theorem rem_20' {v : Int} (h0 : 0 ≤ v) (h1 : v < 40) : iRem v 20 = v % 20 := by
  have q := rem_20 v.toNat (by omega)
  rw [Int.toNat_of_nonneg h0] at q
  rw [q]
  omega
/-- the class keeps its STATE: the row of 20, the next place, how many -/
theorem zx_keepPast {X : Mm} {S : Sh} {m0 : Mm} {K : Mm → Prop} (hS : Shp S) (hm0 : Inv X S m0) (hk : ∀ (i : Int) (M1 : Mm), Inv X S M1 → i = m0 0 4 → 0 ≤ i → i ≤ 19 → (∀ c p : Int, ¬ (176 + 8 * i ≤ c ∧ c ≤ 183 + 8 * i) → ¬ (c = 0 ∧ (p = 4 ∨ p = 5)) → M1 c p = m0 c p) → M1 0 4 = (i + 1) % 20 → (M1 0 5 = m0 0 5 + 1 ∨ (M1 0 5 = 20 ∧ m0 0 5 = 20)) → M1 (176 + 8 * i) 0 = m0 16 0 → M1 (176 + 8 * i) 1 = m0 16 1 → (∀ p : Int, 0 ≤ p → p < 5 → M1 (177 + 8 * i) p = m0 17 p ∧ M1 (178 + 8 * i) p = m0 18 p ∧ M1 (179 + 8 * i) p = m0 19 p) → (∀ p : Int, 0 ≤ p → p < 4 → M1 (180 + 8 * i) p = m0 20 p ∧ M1 (181 + 8 * i) p = m0 21 p ∧ M1 (182 + 8 * i) p = m0 22 p) → (∀ p : Int, 0 ≤ p → p < 6 → M1 (183 + 8 * i) p = m0 23 p) → K M1) : wp_X11_keepPast S m0 0 K := by
  refine u_X11_keepPast ?_
  refine g_getr 3 29 rfl hS.k0 hm0.f_0_3 (by decide) ?_
  refine g_get 4 (0) (19) rfl hS.k0 hm0.f_0_4 (fun i ei bi ci => ?_)
  refine g_ldrB (P := fun c => c = 176 + 8 * i) (fun c hc => by omega) hS.k29 hS.l29 (by omega) (by omega) (hm0.ps bi ci) (fun v2 ev2 hv2 => ?_)
  subst hv2
  have st := ps_st bi ci
  refine g_getr 1 3 rfl hS.k0 hm0.f_0_1 (by decide) ?_
  refine g_getr 1 16 rfl hS.k3 hm0.f_3_1 (by decide) ?_
  refine ⟨hS.kB_5_0 st, ?_⟩
  refine zb_state hS hm0 st (by decide) (Or.inl (by omega)) (fun m3 hm3 f3 a0 a1 a2 a3 a4 a5 a6 a7 a8 => ?_)
  refine g_getu 4 rfl hS.k0 (fun v4 ev4 => ?_)
  rw [f3 0 4 (by first | decide | exact fun z => absurd z.1 (by decide) | exact ⟨fun z => absurd z.1 (by decide), fun z => absurd z.1 (by decide)⟩ | omega), ← ei] at ev4
  refine g_C ?_
  refine g_A (by omega) (by omega) ?_
  refine g_C ?_
  refine ⟨by decide, ?_⟩
  rw [rem_20' (by omega) (by omega)]
  refine g_put 4 rfl hS.k0 (hm3.w_0_4 (by omega) (by omega)) (fun m6 em6 hm6 => ?_)
  have f6 : ∀ c p : Int, ¬ (c = 0 ∧ p = 4) → m6 c p = m3 c p := fun c p q => (congrFun (congrFun em6 _) _).trans (up_ne q)
  have x6 : m6 0 4 = (v4 + 1) % 20 := (congrFun (congrFun em6 _) _).trans (up_at _ _ _ _)
  refine g_C ?_
  refine g_get 5 (0) (20) rfl hS.k0 hm6.f_0_5 (fun v7 ev7 bv7 cv7 => ?_)
  rw [f6 0 5 (by first | decide | exact fun z => absurd z.1 (by decide) | exact ⟨fun z => absurd z.1 (by decide), fun z => absurd z.1 (by decide)⟩ | omega), f3 0 5 (by first | decide | exact fun z => absurd z.1 (by decide) | exact ⟨fun z => absurd z.1 (by decide), fun z => absurd z.1 (by decide)⟩ | omega)] at ev7
  refine g_C ?_
  refine g_A (by omega) (by omega) ?_
  refine g_min (fun v8 bv8 cv8 dv8 => ?_)
  refine g_put 5 rfl hS.k0 (hm6.w_0_5 (by omega) (by omega)) (fun m9 em9 hm9 => ?_)
  have f9 : ∀ c p : Int, ¬ (c = 0 ∧ p = 5) → m9 c p = m6 c p := fun c p q => (congrFun (congrFun em9 _) _).trans (up_ne q)
  have x9 : m9 0 5 = v8 := (congrFun (congrFun em9 _) _).trans (up_at _ _ _ _)
  have g9 : ∀ c p : Int, ¬ c = 0 → m9 c p = m3 c p := fun c p q => by rw [f9 c p (by first | exact fun y => absurd (y.1 ▸ z) (by decide) | exact fun y => absurd (y.1 ▸ q) (by decide) | exact z | exact q | exact z.1 | exact q.1 | exact z.2 | exact q.2 | omega), f6 c p (by first | exact fun y => absurd (y.1 ▸ z) (by decide) | exact fun y => absurd (y.1 ▸ q) (by decide) | exact z | exact q | exact z.1 | exact q.1 | exact z.2 | exact q.2 | omega)]
  refine hk i m9 hm9 ei bi ci (fun c p q1 q2 => ?_) (by rw [f9 0 4 (by first | decide | exact fun z => absurd z.1 (by decide) | exact ⟨fun z => absurd z.1 (by decide), fun z => absurd z.1 (by decide)⟩ | omega), x6]; omega) (by omega) (by rw [g9 _ 0 (by omega)]; exact a0) (by rw [g9 _ 1 (by omega)]; exact a1) (fun p p0 p1 => ⟨?_, ?_, ?_⟩) (fun p p0 p1 => ⟨?_, ?_, ?_⟩) (fun p p0 p1 => ?_)
  · rw [f9 c p (by first | exact fun y => absurd (y.1 ▸ z) (by decide) | exact fun y => absurd (y.1 ▸ q) (by decide) | exact z | exact q | exact z.1 | exact q.1 | exact z.2 | exact q.2 | omega), f6 c p (by first | exact fun y => absurd (y.1 ▸ z) (by decide) | exact fun y => absurd (y.1 ▸ q) (by decide) | exact z | exact q | exact z.1 | exact q.1 | exact z.2 | exact q.2 | omega), f3 c p (by first | exact fun y => absurd (y.1 ▸ z) (by decide) | exact fun y => absurd (y.1 ▸ q) (by decide) | exact z | exact q | exact z.1 | exact q.1 | exact z.2 | exact q.2 | omega)]
  · rw [g9 _ p (by omega), show 177 + 8 * i = 176 + 8 * i + 1 by omega]; exact a2 p p0 p1
  · rw [g9 _ p (by omega), show 178 + 8 * i = 176 + 8 * i + 2 by omega]; exact a3 p p0 p1
  · rw [g9 _ p (by omega), show 179 + 8 * i = 176 + 8 * i + 3 by omega]; exact a4 p p0 p1
  · rw [g9 _ p (by omega), show 180 + 8 * i = 176 + 8 * i + 4 by omega]; exact a5 p p0 p1
  · rw [g9 _ p (by omega), show 181 + 8 * i = 176 + 8 * i + 5 by omega]; exact a6 p p0 p1
  · rw [g9 _ p (by omega), show 182 + 8 * i = 176 + 8 * i + 6 by omega]; exact a7 p p0 p1
  · rw [g9 _ p (by omega), show 183 + 8 * i = 176 + 8 * i + 7 by omega]; exact a8 p p0 p1
theorem zx_undo11 {X : Mm} {S : Sh} {m0 : Mm} {K : Int → Mm → Prop} (hS : Shp S) (hm0 : Inv X S m0) (h0 : m0 0 5 = 0 → K (-1) m0) (hk : ∀ (i : Int) (M1 : Mm), Inv X S M1 → ¬ m0 0 5 = 0 → i = (m0 0 4 + 19) % 20 → 0 ≤ i → i ≤ 19 → (∀ c p : Int, ¬ (16 ≤ c ∧ c ≤ 23) → ¬ (c = 0 ∧ (p = 4 ∨ p = 5)) → M1 c p = m0 c p) → M1 0 4 = i → M1 0 5 = m0 0 5 - 1 → M1 16 0 = m0 (176 + 8 * i) 0 → M1 16 1 = m0 (176 + 8 * i) 1 → (∀ p : Int, 0 ≤ p → p < 5 → M1 17 p = m0 (177 + 8 * i) p ∧ M1 18 p = m0 (178 + 8 * i) p ∧ M1 19 p = m0 (179 + 8 * i) p) → (∀ p : Int, 0 ≤ p → p < 4 → M1 20 p = m0 (180 + 8 * i) p ∧ M1 21 p = m0 (181 + 8 * i) p ∧ M1 22 p = m0 (182 + 8 * i) p) → (∀ p : Int, 0 ≤ p → p < 6 → M1 23 p = m0 (183 + 8 * i) p) → K (m0 0 5 - 1) M1) : wp_X11_undo S m0 0 K := by
  refine u_X11_undo ?_
  refine g_get 5 (0) (20) rfl hS.k0 hm0.f_0_5 (fun v1 ev1 bv1 cv1 => ?_)
  refine g_if (fun w2 => ?_) (fun w2 => g_C (h0 (by omega)))
  refine g_get 4 (0) (19) rfl hS.k0 hm0.f_0_4 (fun v3 ev3 bv3 cv3 => ?_)
  refine g_C ?_
  refine g_A (by omega) (by omega) ?_
  refine g_C ?_
  refine g_S (by omega) (by omega) ?_
  refine g_C ?_
  refine ⟨by decide, ?_⟩
  rw [rem_20' (by omega) (by omega)]
  obtain ⟨i, hi⟩ : ∃ i : Int, i = (v3 + 20 - 1) % 20 := ⟨_, rfl⟩
  rw [← hi]
  have i0 : 0 ≤ i := by omega
  have i1 : i ≤ 19 := by omega
  refine g_put 4 rfl hS.k0 (hm0.w_0_4 (by omega) (by omega)) (fun m5 em5 hm5 => ?_)
  have f5 : ∀ c p : Int, ¬ (c = 0 ∧ p = 4) → m5 c p = m0 c p := fun c p q => (congrFun (congrFun em5 _) _).trans (up_ne q)
  have x5 : m5 0 4 = i := (congrFun (congrFun em5 _) _).trans (up_at _ _ _ _)
  refine g_getu 5 rfl hS.k0 (fun v6 ev6 => ?_)
  rw [f5 0 5 (by first | decide | exact fun z => absurd z.1 (by decide) | exact ⟨fun z => absurd z.1 (by decide), fun z => absurd z.1 (by decide)⟩ | omega)] at ev6
  refine g_C ?_
  refine g_S (by omega) (by omega) ?_
  refine g_put 5 rfl hS.k0 (hm5.w_0_5 (by omega) (by omega)) (fun m7 em7 hm7 => ?_)
  have f7 : ∀ c p : Int, ¬ (c = 0 ∧ p = 5) → m7 c p = m5 c p := fun c p q => (congrFun (congrFun em7 _) _).trans (up_ne q)
  have x7 : m7 0 5 = v6 - 1 := (congrFun (congrFun em7 _) _).trans (up_at _ _ _ _)
  have g7 : ∀ c p : Int, ¬ c = 0 → m7 c p = m0 c p := fun c p q => by rw [f7 c p (by first | exact fun y => absurd (y.1 ▸ z) (by decide) | exact fun y => absurd (y.1 ▸ q) (by decide) | exact z | exact q | exact z.1 | exact q.1 | exact z.2 | exact q.2 | omega), f5 c p (by first | exact fun y => absurd (y.1 ▸ z) (by decide) | exact fun y => absurd (y.1 ▸ q) (by decide) | exact z | exact q | exact z.1 | exact q.1 | exact z.2 | exact q.2 | omega)]
  refine g_getr 1 3 rfl hS.k0 hm7.f_0_1 (by decide) ?_
  refine g_getr 1 16 rfl hS.k3 hm7.f_3_1 (by decide) ?_
  refine g_getr 3 29 rfl hS.k0 hm7.f_0_3 (by decide) ?_
  refine g_getu 4 rfl hS.k0 (fun v8 ev8 => ?_)
  rw [f7 0 4 (by first | decide | exact fun z => absurd z.1 (by decide) | exact ⟨fun z => absurd z.1 (by decide), fun z => absurd z.1 (by decide)⟩ | omega), x5] at ev8
  subst ev8
  refine g_ldrB (P := fun c => c = 176 + 8 * v8) (fun c hc => by omega) hS.k29 hS.l29 (by omega) (by omega) (hm7.ps i0 i1) (fun v9 ev9 hv9 => ?_)
  subst hv9
  have st := ps_st i0 i1
  refine ⟨hS.k16, ?_⟩
  refine zb_state hS hm7 (by decide) st (Or.inr (by omega)) (fun m10 hm10 f10 a0 a1 a2 a3 a4 a5 a6 a7 a8 => ?_)
  refine g_getu 5 rfl hS.k0 (fun v11 ev11 => ?_)
  rw [f10 0 5 (by first | decide | exact fun z => absurd z.1 (by decide) | exact ⟨fun z => absurd z.1 (by decide), fun z => absurd z.1 (by decide)⟩ | omega), x7] at ev11
  rw [show v11 = m0 0 5 - 1 by omega]
  refine hk v8 m10 hm10 (by omega) (by omega) i0 i1 (fun c p q1 q2 => ?_) (by rw [f10 0 4 (by first | decide | exact fun z => absurd z.1 (by decide) | exact ⟨fun z => absurd z.1 (by decide), fun z => absurd z.1 (by decide)⟩ | omega), f7 0 4 (by first | decide | exact fun z => absurd z.1 (by decide) | exact ⟨fun z => absurd z.1 (by decide), fun z => absurd z.1 (by decide)⟩ | omega), x5]) (by rw [f10 0 5 (by first | decide | exact fun z => absurd z.1 (by decide) | exact ⟨fun z => absurd z.1 (by decide), fun z => absurd z.1 (by decide)⟩ | omega), x7]; omega) (by rw [← g7 _ 0 (by omega)]; exact a0) (by rw [← g7 _ 1 (by omega)]; exact a1) (fun p p0 p1 => ⟨?_, ?_, ?_⟩) (fun p p0 p1 => ⟨?_, ?_, ?_⟩) (fun p p0 p1 => ?_)
  · rw [f10 c p (by first | exact fun y => absurd (y.1 ▸ z) (by decide) | exact fun y => absurd (y.1 ▸ q) (by decide) | exact z | exact q | exact z.1 | exact q.1 | exact z.2 | exact q.2 | omega), f7 c p (by first | exact fun y => absurd (y.1 ▸ z) (by decide) | exact fun y => absurd (y.1 ▸ q) (by decide) | exact z | exact q | exact z.1 | exact q.1 | exact z.2 | exact q.2 | omega), f5 c p (by first | exact fun y => absurd (y.1 ▸ z) (by decide) | exact fun y => absurd (y.1 ▸ q) (by decide) | exact z | exact q | exact z.1 | exact q.1 | exact z.2 | exact q.2 | omega)]
  · rw [← g7 _ p (by omega), show 177 + 8 * v8 = 176 + 8 * v8 + 1 by omega]; exact a2 p p0 p1
  · rw [← g7 _ p (by omega), show 178 + 8 * v8 = 176 + 8 * v8 + 2 by omega]; exact a3 p p0 p1
  · rw [← g7 _ p (by omega), show 179 + 8 * v8 = 176 + 8 * v8 + 3 by omega]; exact a4 p p0 p1
  · rw [← g7 _ p (by omega), show 180 + 8 * v8 = 176 + 8 * v8 + 4 by omega]; exact a5 p p0 p1
  · rw [← g7 _ p (by omega), show 181 + 8 * v8 = 176 + 8 * v8 + 5 by omega]; exact a6 p p0 p1
  · rw [← g7 _ p (by omega), show 182 + 8 * v8 = 176 + 8 * v8 + 6 by omega]; exact a7 p p0 p1
  · rw [← g7 _ p (by omega), show 183 + 8 * v8 = 176 + 8 * v8 + 7 by omega]; exact a8 p p0 p1
end
section
/-! small methods of both sides, to the letter -/
/-- the JUGS that a HAND holds, as bits -/
def hbt (f : Int → Int) (h : Int) : Nat → Int
  | 0 => 0
  | n + 1 => if f n = h then iOr (hbt f h n) (iShl 1 (n : Int)) else hbt f h n
theorem hbt_same {f g : Int → Int} {h : Int} : ∀ n : Nat, (∀ j : Int, 0 ≤ j → j < n → g j = f j) → hbt g h n = hbt f h n := by
  intro n
  induction n with
  | zero => intro _; rfl
  | succ n ih =>
    intro e
    show (if g (n : Int) = h then iOr (hbt g h n) (iShl 1 (n : Int)) else hbt g h n) = (if f (n : Int) = h then iOr (hbt f h n) (iShl 1 (n : Int)) else hbt f h n)
    rw [ih (fun j a c => e j a (by omega)), e (n : Int) (by omega) (by omega)]
theorem or_t : ∀ n : Nat, n < 4 → ∀ v : Nat, v < 2 ^ n → (0 ≤ iOr (v : Int) (iShl 1 (n : Int)) ∧ iOr (v : Int) (iShl 1 (n : Int)) < 2 ^ (n + 1)) := by decide +kernel
theorem or_0 : ∀ v : Nat, v < 16 → iOr (v : Int) 0 = (v : Int) := by decide +kernel
theorem hbt_b {f : Int → Int} {h : Int} : ∀ n : Nat, n ≤ 4 → 0 ≤ hbt f h n ∧ hbt f h n < 2 ^ n := by
  intro n
  induction n with
  | zero => intro _; exact ⟨Int.le_refl 0, by show (0 : Int) < 2 ^ 0; decide⟩
  | succ n ih =>
    intro hn
    have q := ih (by omega)
    show 0 ≤ (if f (n : Int) = h then iOr (hbt f h n) (iShl 1 (n : Int)) else hbt f h n) ∧ (if f (n : Int) = h then iOr (hbt f h n) (iShl 1 (n : Int)) else hbt f h n) < 2 ^ (n + 1)
    by_cases e : f (n : Int) = h
    · rw [if_pos e]
      have z := or_t n (by omega) (hbt f h n).toNat (by
        have c : ((2 ^ n : Nat) : Int) = 2 ^ n := by rw [Int.natCast_pow]; rfl
        omega)
      rw [Int.toNat_of_nonneg q.1] at z
      exact z
    · rw [if_neg e, Int.pow_succ]
      omega
theorem hbt_15 {f : Int → Int} {h : Int} {n : Nat} (hn : n ≤ 4) : 0 ≤ hbt f h n ∧ hbt f h n ≤ 15 := by
  have q := hbt_b (f := f) (h := h) n hn
  rcases (show n = 0 ∨ n = 1 ∨ n = 2 ∨ n = 3 ∨ n = 4 by omega) with e | e | e | e | e <;> subst e
  · exact ⟨q.1, Int.le_trans (Int.le_of_lt q.2) (by decide)⟩
  · exact ⟨q.1, Int.le_trans (Int.le_of_lt q.2) (by decide)⟩
  · exact ⟨q.1, Int.le_trans (Int.le_of_lt q.2) (by decide)⟩
  · exact ⟨q.1, Int.le_trans (Int.le_of_lt q.2) (by decide)⟩
  · exact ⟨q.1, Int.le_of_lt_add_one q.2⟩
/-- JUGS that are not there are held by nobody -/
theorem hbt_ext {f : Int → Int} {h : Int} {n : Nat} : ∀ k : Nat, (∀ j : Int, (n : Int) ≤ j → j < ((n + k : Nat) : Int) → ¬ f j = h) → hbt f h (n + k) = hbt f h n := by
  intro k
  induction k with
  | zero => intro _; rfl
  | succ k ih =>
    intro e
    show (if f ((n + k : Nat) : Int) = h then iOr (hbt f h (n + k)) (iShl 1 ((n + k : Nat) : Int)) else hbt f h (n + k)) = _
    rw [if_neg (e _ (by omega) (by omega))]
    exact ih (fun j a c => e j a (by omega))
theorem zt_heldBits {X : Mm} {S : Sh} {m : Mm} {K : Int → Mm → Prop} {c h : Int} (hS : Shp S) (hm : Inv X S m) (hb : isSt c) (hk : K (hbt (m (c + 5)) h 4) m) : wp_X5_heldBits S m c h K := by
  refine u_X5_heldBits ?_
  refine g_C ?_
  refine g_C ?_
  have L : ∀ (n : Nat) (i : Nat), i ≤ 4 → 5 - (i : Int) ≤ (n : Int) → wp_X5_heldBits_4 S K n c h (hbt (m (c + 5)) h i) (i : Int) m := by
    intro n
    induction n with
    | zero => intro i hi hn; exfalso; omega
    | succ n ih =>
      intro i hi hn
      refine u_X5_heldBits_4 ?_
      refine g_C ?_
      refine g_if (fun w => ?_) (fun w => ?_)
      · have e : i = 4 := by omega
        subst e
        exact hk
      · refine g_getr 6 (c + 5) rfl (hS.kB_5_0 hb) (hm.fB_5_6 hb) (hS.nB_5_5 hb) ?_
        refine g_ldu (hS.kB_5_5 hb) (hS.lB_5_5 hb) (by omega) (by omega) (fun v ev => ?_)
        have nx : ∀ u : Int, u = hbt (m (c + 5)) h (i + 1) → wp_X5_heldBits_25 S (fun a0 a1 a2 a3 M => wp_X5_heldBits_4 S K n a0 a1 a2 a3 M) K c h u (i : Int) m := by
          intro u eu
          rw [eu]
          refine u_X5_heldBits_25 ?_
          refine g_A (by omega) (by omega) ?_
          rw [show (i : Int) + 1 = ((i + 1 : Nat) : Int) by omega]
          exact ih (i + 1) (by omega) (by omega)
        have e1 : hbt (m (c + 5)) h (i + 1) = (if m (c + 5) (i : Int) = h then iOr (hbt (m (c + 5)) h i) (iShl 1 (i : Int)) else hbt (m (c + 5)) h i) := rfl
        refine g_if (fun w2 => ?_) (fun w2 => ?_)
        · exact nx _ (by rw [e1, if_neg (by rw [← ev]; exact w2)])
        · refine g_C ?_
          refine g_Oe (fun a ea => ?_)
          refine g_Oe (fun b eb => ?_)
          refine nx b ?_
          rw [e1, if_pos (by rw [← ev]; omega), eb, ea]
  exact ⟨5, L 5 0 (by decide) (by decide)⟩
theorem zt_held {X : Mm} {S : Sh} {m : Mm} {K : Int → Mm → Prop} {h : Int} (hS : Shp S) (hm : Inv X S m) (hk : K (hbt (fun j => m 346 (36 + 4 * j)) h (m 346 5).toNat) m) : wp_X12_held S m 336 h K := by
  have b5 := hm.f_346_5
  refine u_X12_held ?_
  refine g_C ?_
  refine g_C ?_
  have L : ∀ (n : Nat) (i : Nat), (i : Int) ≤ m 346 5 → 5 - (i : Int) ≤ (n : Int) → wp_X12_held_4 S K n 336 h (hbt (fun j => m 346 (36 + 4 * j)) h i) (i : Int) m := by
    intro n
    induction n with
    | zero => intro i hi hn; exfalso; omega
    | succ n ih =>
      intro i hi hn
      refine u_X12_held_4 ?_
      refine g_getr 20 346 rfl hS.k336 hm.f_336_20 (by decide) ?_
      refine g_C ?_
      refine g_ldu hS.k346 hS.l346 (by omega) (by omega) (fun v ev => ?_)
      refine g_if (fun w => ?_) (fun w => ?_)
      · have e : i = (m 346 5).toNat := by omega
        subst e
        exact hk
      · refine g_C ?_
        refine ⟨hS.k336, ?_⟩
        refine u_X12_jugOf ?_
        refine g_getr 20 346 rfl hS.k336 hm.f_336_20 (by decide) ?_
        refine g_C ?_
        refine g_C ?_
        refine g_M (by omega) (by omega) ?_
        refine g_A (by omega) (by omega) ?_
        refine g_A (by omega) (by omega) ?_
        refine g_ldu hS.k346 hS.l346 (by omega) (by omega) (fun v2 ev2 => ?_)
        rw [show 35 + 4 * (i : Int) + 1 = 36 + 4 * (i : Int) by omega] at ev2
        have bb := hbt_15 (f := fun j => m 346 (36 + 4 * j)) (h := h) (n := i) (by omega)
        have nx : ∀ u : Int, iOr (hbt (fun j => m 346 (36 + 4 * j)) h i) u = hbt (fun j => m 346 (36 + 4 * j)) h (i + 1) → wp_X12_held_32 S (fun a0 a1 a2 a3 M => wp_X12_held_4 S K n a0 a1 a2 a3 M) K 336 h (i : Int) (hbt (fun j => m 346 (36 + 4 * j)) h i) u m := by
          intro u eu
          refine u_X12_held_32 ?_
          refine g_Oe (fun b eb => ?_)
          rw [eb, eu]
          refine g_A (by omega) (by omega) ?_
          rw [show (i : Int) + 1 = ((i + 1 : Nat) : Int) by omega]
          exact ih (i + 1) (by omega) (by omega)
        have e1 : hbt (fun j => m 346 (36 + 4 * j)) h (i + 1) = (if m 346 (36 + 4 * (i : Int)) = h then iOr (hbt (fun j => m 346 (36 + 4 * j)) h i) (iShl 1 (i : Int)) else hbt (fun j => m 346 (36 + 4 * j)) h i) := rfl
        refine g_if (fun w2 => ?_) (fun w2 => ?_)
        · refine g_C ?_
          refine nx 0 ?_
          rw [e1, if_neg (by rw [← ev2]; exact w2)]
          have z := or_0 (hbt (fun j => m 346 (36 + 4 * j)) h i).toNat (by omega)
          rw [Int.toNat_of_nonneg bb.1] at z
          exact z
        · refine g_C ?_
          refine g_Oe (fun a ea => ?_)
          refine nx a ?_
          rw [e1, if_pos (by rw [← ev2]; omega), ea]
  exact ⟨5, L 5 0 (by omega) (by decide)⟩
/-- how many bits there are -/
def bcF (u : Int) : Int :=
  let a := w32 (u - iAnd (iUshr u 1) 1431655765)
  let b := w32 (iAnd a 858993459 + iAnd (iUshr a 2) 858993459)
  let c := iAnd (w32 (b + iUshr b 4)) 252645135
  let d := w32 (c + iUshr c 8)
  iAnd (w32 (d + iUshr d 16)) 63
theorem zt_bitCount {S : Sh} {m : Mm} {K : Int → Mm → Prop} {u : Int} (hk : K (bcF u) m) : wp_J6_bitCount_0f7a4 S m u K := hk
def bcR : Nat → Int → Int → Int
  | 0, n, _ => n
  | k + 1, n, s => if s = 0 then n else bcR k (n + 1) (iAnd s (s - 1))
theorem bc_t : ∀ v : Nat, v < 16 → 0 ≤ bcF (v : Int) ∧ bcF (v : Int) ≤ 4 := by decide +kernel
theorem and_d : ∀ v : Nat, v < 16 → ¬ v = 0 → 0 ≤ iAnd (v : Int) ((v : Int) - 1) ∧ iAnd (v : Int) ((v : Int) - 1) < (v : Int) := by decide +kernel
def dn : Nat → Int → Bool
  | 0, s => s == 0
  | k + 1, s => s == 0 || dn k (iAnd s (s - 1))
theorem dn_t : ∀ v : Nat, v < 16 → dn 4 (v : Int) = true ∧ bcR 4 0 (v : Int) = bcF (v : Int) := by decide +kernel
theorem zt_bits_aux {S : Sh} {m : Mm} {K : Int → Mm → Prop} : ∀ (k : Nat) (n s : Int), 0 ≤ s → s ≤ 15 → 0 ≤ n → n + (k : Int) ≤ 100 → dn k s = true → K (bcR k n s) m → wp_X12_bits_4 S K (k + 1) n s m := by
  intro k
  induction k with
  | zero =>
    intro n s s0 s1 n0 n1 hd hk
    have e : s = 0 := of_decide_eq_true hd
    refine u_X12_bits_4 ?_
    exact g_ifT e hk
  | succ k ih =>
    intro n s s0 s1 n0 n1 hd hk
    refine u_X12_bits_4 ?_
    by_cases e : s = 0
    · refine g_ifT e ?_
      have e2 : bcR (k + 1) n s = n := if_pos e
      rw [e2] at hk
      exact hk
    · refine g_ifF e ?_
      have e2 : bcR (k + 1) n s = bcR k (n + 1) (iAnd s (s - 1)) := if_neg e
      rw [e2] at hk
      have hd2 : dn k (iAnd s (s - 1)) = true := by
        have h : (s == 0 || dn k (iAnd s (s - 1))) = true := hd
        rcases Bool.or_eq_true_iff.mp h with z | z
        · exact absurd (of_decide_eq_true z) e
        · exact z
      have q := and_d s.toNat (by omega) (by omega)
      rw [Int.toNat_of_nonneg s0] at q
      refine g_A (by omega) (by omega) ?_
      refine g_C ?_
      refine g_S (by omega) (by omega) ?_
      refine g_Oe (fun v ev => ?_)
      rw [ev]
      exact ih (n + 1) (iAnd s (s - 1)) q.1 (by omega) (by omega) (by omega) hd2 hk
theorem zt_bits {S : Sh} {m : Mm} {K : Int → Mm → Prop} {u : Int} (h0 : 0 ≤ u) (h1 : u ≤ 15) (hk : K (bcF u) m) : wp_X12_bits S m u K := by
  have q := dn_t u.toNat (by omega)
  rw [Int.toNat_of_nonneg h0] at q
  rw [← q.2] at hk
  refine u_X12_bits ?_
  refine g_C ?_
  exact ⟨5, zt_bits_aux 4 0 u h0 h1 (by decide) (by decide) q.1 hk⟩
/-! small tests of the class -/
theorem zt_jug0 {X : Mm} {S : Sh} {m : Mm} {K : Int → Mm → Prop} {c j : Int} (hS : Shp S) (hm : Inv X S m) (hb : isSt c) (j0 : 0 ≤ j) (j1 : j ≤ 3) (h1 : ¬ m (c + 4) j = -1 → K 1 m) (h0 : m (c + 4) j = -1 → K 0 m) : wp_X5_stands S m c j K := by
  refine u_X5_stands ?_
  refine g_getr 5 (c + 4) rfl (hS.kB_5_0 hb) (hm.fB_5_5 hb) (hS.nB_5_4 hb) ?_
  refine g_ldu (hS.kB_5_4 hb) (hS.lB_5_4 hb) (by omega) (by omega) (fun v ev => ?_)
  refine g_C ?_
  exact g_if (fun w => g_C ⟨by decide, h0 (by omega)⟩) (fun w => g_C ⟨by decide, h1 (by omega)⟩)
theorem zt_atPlace {X : Mm} {S : Sh} {m : Mm} {K : Int → Mm → Prop} {c h : Int} (hS : Shp S) (hm : Inv X S m) (hb : isSt c) (j0 : 0 ≤ h) (j1 : h ≤ 4) (h1 : m (c + 2) h = 0 → K 1 m) (h0 : ¬ m (c + 2) h = 0 → K 0 m) : wp_X5_isAtPlace S m c h K := by
  refine u_X5_isAtPlace ?_
  refine g_getr 3 (c + 2) rfl (hS.kB_5_0 hb) (hm.fB_5_3 hb) (hS.nB_5_2 hb) ?_
  refine g_ldu (hS.kB_5_2 hb) (hS.lB_5_2 hb) (by omega) (by omega) (fun v ev => ?_)
  exact g_if (fun w => g_C ⟨by decide, h0 (by omega)⟩) (fun w => g_C ⟨by decide, h1 (by omega)⟩)
theorem zt_more {X : Mm} {S : Sh} {m : Mm} {K : Int → Mm → Prop} {c h : Int} (hS : Shp S) (hm : Inv X S m) (hb : isSt c) (j0 : 0 ≤ h) (j1 : h ≤ 4) (h1 : m (c + 2) h = 0 → bcF (hbt (m (c + 5)) h 4) < 2 → K 1 m) (h0 : ¬ (m (c + 2) h = 0 ∧ bcF (hbt (m (c + 5)) h 4) < 2) → K 0 m) : wp_X5_canHoldMore S m c h K := by
  refine u_X5_canHoldMore ?_
  refine ⟨hS.kB_5_0 hb, ?_⟩
  refine zt_atPlace hS hm hb j0 j1 (fun w => ?_) (fun w => ?_)
  · refine g_ifF (by decide) ?_
    refine ⟨hS.kB_5_0 hb, ?_⟩
    refine u_X5_howManyHeld ?_
    refine ⟨hS.kB_5_0 hb, ?_⟩
    refine zt_heldBits hS hm hb ?_
    refine zt_bitCount ?_
    refine g_C ?_
    exact g_if (fun w2 => g_C ⟨by decide, h0 (fun z => by omega)⟩) (fun w2 => g_C ⟨by decide, h1 w (by omega)⟩)
  · exact g_ifT rfl (g_C ⟨by decide, h0 (fun z => w z.1)⟩)
theorem zt_canTake {X : Mm} {S : Sh} {m : Mm} {K : Int → Mm → Prop} {c h j : Int} (hS : Shp S) (hm : Inv X S m) (hb : isSt c) (i0 : 0 ≤ h) (i1 : h ≤ 4) (j0 : 0 ≤ j) (j1 : j ≤ 3) (h1 : (¬ m (c + 4) j = -1 ∧ m (c + 4) j = m (c + 1) h ∧ m (c + 2) h = 0 ∧ bcF (hbt (m (c + 5)) h 4) < 2) → K 1 m) (h0 : ¬ (¬ m (c + 4) j = -1 ∧ m (c + 4) j = m (c + 1) h ∧ m (c + 2) h = 0 ∧ bcF (hbt (m (c + 5)) h 4) < 2) → K 0 m) : wp_X5_canTake S m c h j K := by
  refine u_X5_canTake ?_
  refine ⟨hS.kB_5_0 hb, ?_⟩
  refine zt_jug0 hS hm hb j0 j1 (fun w => ?_) (fun w => g_ifT rfl (g_C ⟨by decide, h0 (fun z => z.1 w)⟩))
  refine g_ifF (by decide) ?_
  refine g_getr 5 (c + 4) rfl (hS.kB_5_0 hb) (hm.fB_5_5 hb) (hS.nB_5_4 hb) ?_
  refine g_ldu (hS.kB_5_4 hb) (hS.lB_5_4 hb) (by omega) (by omega) (fun v ev => ?_)
  refine g_getr 2 (c + 1) rfl (hS.kB_5_0 hb) (hm.fB_5_2 hb) (hS.nB_5_1 hb) ?_
  refine g_ldu (hS.kB_5_1 hb) (hS.lB_5_1 hb) (by omega) (by omega) (fun v2 ev2 => ?_)
  refine g_if (fun w2 => g_C ⟨by decide, h0 (fun z => w2 (by rw [ev, ev2]; exact z.2.1))⟩) (fun w2 => ?_)
  refine ⟨hS.kB_5_0 hb, ?_⟩
  exact zt_more hS hm hb i0 i1 (fun z1 z2 => g_ifF (by decide) (g_C ⟨by decide, h1 ⟨w, by omega, z1, z2⟩⟩)) (fun z => g_ifT rfl (g_C ⟨by decide, h0 (fun y => z ⟨y.2.2.1, y.2.2.2⟩)⟩))
theorem zt_canGive {X : Mm} {S : Sh} {m : Mm} {K : Int → Mm → Prop} {c g h : Int} (hS : Shp S) (hm : Inv X S m) (hb : isSt c) (g0 : 0 ≤ g) (g1 : g ≤ 4) (i0 : 0 ≤ h) (i1 : h ≤ 4) (h1 : (m (c + 2) g = 0 ∧ m (c + 1) g = m (c + 1) h ∧ m (c + 2) h = 0 ∧ bcF (hbt (m (c + 5)) h 4) < 2) → K 1 m) (h0 : ¬ (m (c + 2) g = 0 ∧ m (c + 1) g = m (c + 1) h ∧ m (c + 2) h = 0 ∧ bcF (hbt (m (c + 5)) h 4) < 2) → K 0 m) : wp_X5_canGive S m c g h K := by
  refine u_X5_canGive ?_
  refine ⟨hS.kB_5_0 hb, ?_⟩
  refine zt_atPlace hS hm hb g0 g1 (fun w => ?_) (fun w => g_ifT rfl (g_C ⟨by decide, h0 (fun z => w z.1)⟩))
  refine g_ifF (by decide) ?_
  refine g_getr 2 (c + 1) rfl (hS.kB_5_0 hb) (hm.fB_5_2 hb) (hS.nB_5_1 hb) ?_
  refine g_ldu (hS.kB_5_1 hb) (hS.lB_5_1 hb) (by omega) (by omega) (fun v ev => ?_)
  refine g_getr 2 (c + 1) rfl (hS.kB_5_0 hb) (hm.fB_5_2 hb) (hS.nB_5_1 hb) ?_
  refine g_ldu (hS.kB_5_1 hb) (hS.lB_5_1 hb) (by omega) (by omega) (fun v2 ev2 => ?_)
  refine g_if (fun w2 => g_C ⟨by decide, h0 (fun z => w2 (by rw [ev, ev2]; exact z.2.1))⟩) (fun w2 => ?_)
  refine ⟨hS.kB_5_0 hb, ?_⟩
  exact zt_more hS hm hb i0 i1 (fun z1 z2 => g_ifF (by decide) (g_C ⟨by decide, h1 ⟨w, by omega, z1, z2⟩⟩)) (fun z => g_ifT rfl (g_C ⟨by decide, h0 (fun y => z ⟨y.2.2.1, y.2.2.2⟩)⟩))
/-! small tests of the reference -/
theorem zt_jugOf {X : Mm} {S : Sh} {m : Mm} {K : Int → Mm → Prop} {j w : Int} (hS : Shp S) (hm : Inv X S m) (j0 : 0 ≤ j) (j1 : j ≤ 3) (w0 : 0 ≤ w) (w1 : w ≤ 3) (hk : K (m 346 (35 + 4 * j + w)) m) : wp_X12_jugOf S m 336 j w K := by
  refine u_X12_jugOf ?_
  refine g_getr 20 346 rfl hS.k336 hm.f_336_20 (by decide) ?_
  refine g_C ?_
  refine g_C ?_
  refine g_M (by omega) (by omega) ?_
  refine g_A (by omega) (by omega) ?_
  refine g_A (by omega) (by omega) ?_
  refine g_ldu hS.k346 hS.l346 (by omega) (by omega) (fun v ev => ?_)
  rw [ev]
  exact hk
theorem zt_handOf {X : Mm} {S : Sh} {m : Mm} {K : Int → Mm → Prop} {j w : Int} (hS : Shp S) (hm : Inv X S m) (j0 : 0 ≤ j) (j1 : j ≤ 4) (w0 : 0 ≤ w) (w1 : w ≤ 4) (hk : K (m 346 (10 + 5 * j + w)) m) : wp_X12_handOf S m 336 j w K := by
  refine u_X12_handOf ?_
  refine g_getr 20 346 rfl hS.k336 hm.f_336_20 (by decide) ?_
  refine g_C ?_
  refine g_C ?_
  refine g_M (by omega) (by omega) ?_
  refine g_A (by omega) (by omega) ?_
  refine g_A (by omega) (by omega) ?_
  refine g_ldu hS.k346 hS.l346 (by omega) (by omega) (fun v ev => ?_)
  rw [ev]
  exact hk
theorem zt_wantOf {X : Mm} {S : Sh} {m : Mm} {K : Int → Mm → Prop} {j w : Int} (hS : Shp S) (hm : Inv X S m) (j0 : 0 ≤ j) (j1 : j ≤ 5) (w0 : 0 ≤ w) (w1 : w ≤ 3) (hk : K (m 346 (93 + 4 * j + w)) m) : wp_X12_wantOf S m 336 j w K := by
  refine u_X12_wantOf ?_
  refine g_getr 20 346 rfl hS.k336 hm.f_336_20 (by decide) ?_
  refine g_C ?_
  refine g_C ?_
  refine g_M (by omega) (by omega) ?_
  refine g_A (by omega) (by omega) ?_
  refine g_A (by omega) (by omega) ?_
  refine g_ldu hS.k346 hS.l346 (by omega) (by omega) (fun v ev => ?_)
  rw [ev]
  exact hk
/-- a JUG stands, by the reference -/
def StR (m : Mm) (j : Int) : Prop := m 346 (35 + 4 * j + 1) < 0 ∧ m 346 (35 + 4 * j + 3) = 0
theorem zt_stands {X : Mm} {S : Sh} {m : Mm} {K : Int → Mm → Prop} {j : Int} (hS : Shp S) (hm : Inv X S m) (j0 : 0 ≤ j) (j1 : j ≤ 3) (h1 : StR m j → K 1 m) (h0 : ¬ StR m j → K 0 m) : wp_X12_stands S m 336 j K := by
  refine u_X12_stands ?_
  refine g_C ?_
  refine ⟨hS.k336, ?_⟩
  refine zt_jugOf hS hm j0 j1 (by decide) (by decide) ?_
  refine g_if (fun w => g_C ⟨by decide, h0 (fun z => by have := z.1; omega)⟩) (fun w => ?_)
  refine g_C ?_
  refine ⟨hS.k336, ?_⟩
  refine zt_jugOf hS hm j0 j1 (by decide) (by decide) ?_
  exact g_if (fun w2 => g_C ⟨by decide, h0 (fun z => w2 z.2)⟩) (fun w2 => g_C ⟨by decide, h1 ⟨by omega, by omega⟩⟩)
theorem zt_atR {X : Mm} {S : Sh} {m : Mm} {K : Int → Mm → Prop} {h : Int} (hS : Shp S) (hm : Inv X S m) (j0 : 0 ≤ h) (j1 : h ≤ 4) (h1 : m 346 (10 + 5 * h + 1) = 0 → K 1 m) (h0 : ¬ m 346 (10 + 5 * h + 1) = 0 → K 0 m) : wp_X12_isAtPlace S m 336 h K := by
  refine u_X12_isAtPlace ?_
  refine g_C ?_
  refine ⟨hS.k336, ?_⟩
  refine zt_handOf hS hm j0 j1 (by decide) (by decide) ?_
  exact g_if (fun w => g_C ⟨by decide, h0 w⟩) (fun w => g_C ⟨by decide, h1 (by omega)⟩)
/-- as bits, by the reference -/
def hbR (m : Mm) (h : Int) : Int := hbt (fun j => m 346 (36 + 4 * j)) h (m 346 5).toNat
theorem zt_takeR {X : Mm} {S : Sh} {m : Mm} {K : Int → Mm → Prop} {h j : Int} (hS : Shp S) (hm : Inv X S m) (i0 : 0 ≤ h) (i1 : h ≤ 4) (j0 : 0 ≤ j) (j1 : j ≤ 3) (h1 : (m 346 (10 + 5 * h + 1) = 0 ∧ StR m j ∧ m 346 (35 + 4 * j + 0) = m 346 (10 + 5 * h + 0) ∧ bcF (hbR m h) < 2) → K 1 m) (h0 : ¬ (m 346 (10 + 5 * h + 1) = 0 ∧ StR m j ∧ m 346 (35 + 4 * j + 0) = m 346 (10 + 5 * h + 0) ∧ bcF (hbR m h) < 2) → K 0 m) : wp_X12_canTake S m 336 h j K := by
  have b5 := hm.f_346_5
  refine u_X12_canTake ?_
  refine ⟨hS.k336, ?_⟩
  refine zt_atR hS hm i0 i1 (fun w1 => ?_) (fun w1 => g_ifT rfl (g_C ⟨by decide, h0 (fun z => w1 z.1)⟩))
  refine g_ifF (by decide) ?_
  refine ⟨hS.k336, ?_⟩
  refine zt_stands hS hm j0 j1 (fun w2 => ?_) (fun w2 => g_ifT rfl (g_C ⟨by decide, h0 (fun z => w2 z.2.1)⟩))
  refine g_ifF (by decide) ?_
  refine g_C ?_
  refine ⟨hS.k336, ?_⟩
  refine zt_jugOf hS hm j0 j1 (by decide) (by decide) ?_
  refine g_C ?_
  refine ⟨hS.k336, ?_⟩
  refine zt_handOf hS hm i0 i1 (by decide) (by decide) ?_
  refine g_if (fun w3 => g_C ⟨by decide, h0 (fun z => w3 z.2.2.1)⟩) (fun w3 => ?_)
  refine ⟨hS.k336, ?_⟩
  refine zt_held hS hm ?_
  have bb := hbt_15 (f := fun j => m 346 (36 + 4 * j)) (h := h) (n := (m 346 5).toNat) (by omega)
  refine zt_bits bb.1 bb.2 ?_
  refine g_C ?_
  refine g_if (fun w4 => g_C ⟨by decide, h0 (fun z => ?_)⟩) (fun w4 => g_C ⟨by decide, h1 ⟨w1, w2, by omega, ?_⟩⟩)
  · have z2 : bcF (hbt (fun j => m 346 (36 + 4 * j)) h (m 346 5).toNat) < 2 := z.2.2.2
    omega
  · show bcF (hbt (fun j => m 346 (36 + 4 * j)) h (m 346 5).toNat) < 2
    omega
end
section
/-! a STATE of the class (cell c) beside the reference's row D -/
def SRj (M : Mm) (c : Int) (D : Int → Int) (j : Int) : Prop := M (c + 5) j = D (35 + 4 * j + 1) ∧ M (c + 6) j = D (35 + 4 * j + 2) ∧ ((M (c + 4) j = D (35 + 4 * j) ∧ D (35 + 4 * j + 1) = -1 ∧ D (35 + 4 * j + 3) = 0 ∧ 0 ≤ D (35 + 4 * j)) ∨ (M (c + 4) j = -1 ∧ 0 ≤ D (35 + 4 * j + 1) ∧ D (35 + 4 * j + 1) < D 4 ∧ D (35 + 4 * j + 3) = 0) ∨ (M (c + 4) j = -1 ∧ D (35 + 4 * j + 1) = -1 ∧ D (35 + 4 * j + 3) = 1))
def SRh (M : Mm) (c : Int) (D : Int → Int) (i : Int) : Prop := M (c + 1) i = D (10 + 5 * i) ∧ M (c + 2) i = D (10 + 5 * i + 1) ∧ M (c + 3) i = D (10 + 5 * i + 2)
def SR (M : Mm) (c : Int) (D : Int → Int) : Prop := (M c 0 = D 7 ∧ M c 1 = D 8) ∧ (∀ i : Int, 0 ≤ i → i < D 4 → SRh M c D i) ∧ (∀ j : Int, 0 ≤ j → j < D 5 → SRj M c D j) ∧ (∀ j : Int, D 5 ≤ j → j < 4 → M (c + 4) j = -1 ∧ M (c + 5) j = -1) ∧ (∀ w : Int, 0 ≤ w → w < D 6 → M (c + 7) w = D (51 + w))
theorem SRj.same {M M' : Mm} {c j : Int} {D D' : Int → Int} (h : SRj M c D j) (h4 : M' (c + 4) j = M (c + 4) j) (h5 : M' (c + 5) j = M (c + 5) j) (h6 : M' (c + 6) j = M (c + 6) j) (g0 : D' (35 + 4 * j) = D (35 + 4 * j)) (g1 : D' (35 + 4 * j + 1) = D (35 + 4 * j + 1)) (g2 : D' (35 + 4 * j + 2) = D (35 + 4 * j + 2)) (g3 : D' (35 + 4 * j + 3) = D (35 + 4 * j + 3)) (g4 : D' 4 = D 4) : SRj M' c D' j := by
  unfold SRj at h ⊢
  rw [h4, h5, h6, g0, g1, g2, g3, g4]
  exact h
theorem SRh.same {M M' : Mm} {c i : Int} {D D' : Int → Int} (h : SRh M c D i) (h1 : M' (c + 1) i = M (c + 1) i) (h2 : M' (c + 2) i = M (c + 2) i) (h3 : M' (c + 3) i = M (c + 3) i) (g0 : D' (10 + 5 * i) = D (10 + 5 * i)) (g1 : D' (10 + 5 * i + 1) = D (10 + 5 * i + 1)) (g2 : D' (10 + 5 * i + 2) = D (10 + 5 * i + 2)) : SRh M' c D' i := by
  unfold SRh at h ⊢
  rw [h1, h2, h3, g0, g1, g2]
  exact h
/-- one JUG changes -/
theorem SR.jug {M M' : Mm} {c j : Int} {D D' : Int → Int} (r : SR M c D) (b4 : 0 ≤ D 4 ∧ D 4 ≤ 5) (b5 : D 5 ≤ 4) (b6 : D 6 ≤ 6) (hj : 0 ≤ j ∧ j < D 5) (F : ∀ c' p : Int, ¬ (p = j ∧ (c' = c + 4 ∨ c' = c + 5 ∨ c' = c + 6)) → c ≤ c' ∧ c' ≤ c + 7 → M' c' p = M c' p) (G : ∀ p : Int, ¬ (35 + 4 * j ≤ p ∧ p ≤ 35 + 4 * j + 3) → D' p = D p) (x : SRj M' c D' j) : SR M' c D' := by
  obtain ⟨⟨r1, r2⟩, r3, r4, r5, r6⟩ := r
  have g4 : D' 4 = D 4 := G 4 (by omega)
  have g5 : D' 5 = D 5 := G 5 (by omega)
  have g6 : D' 6 = D 6 := G 6 (by omega)
  refine ⟨⟨by rw [F c 0 (by omega) (by omega), G 7 (by omega)]; exact r1, by rw [F c 1 (by omega) (by omega), G 8 (by omega)]; exact r2⟩, fun i i0 i1 => ?_, fun k k0 k1 => ?_, fun k k0 k1 => ?_, fun w w0 w1 => ?_⟩
  · rw [g4] at i1
    exact (r3 i i0 i1).same (F _ _ (by omega) (by omega)) (F _ _ (by omega) (by omega)) (F _ _ (by omega) (by omega)) (G _ (by omega)) (G _ (by omega)) (G _ (by omega))
  · rw [g5] at k1
    by_cases e : k = j
    · rw [e]; exact x
    · exact (r4 k k0 k1).same (F _ _ (by omega) (by omega)) (F _ _ (by omega) (by omega)) (F _ _ (by omega) (by omega)) (G _ (by omega)) (G _ (by omega)) (G _ (by omega)) (G _ (by omega)) g4
  · rw [g5] at k0
    rw [F (c + 4) k (by omega) (by omega), F (c + 5) k (by omega) (by omega)]
    exact r5 k k0 k1
  · rw [g6] at w1
    rw [F (c + 7) w (by omega) (by omega), G _ (by omega)]
    exact r6 w w0 w1
/-- one HAND changes -/
theorem SR.hand {M M' : Mm} {c i : Int} {D D' : Int → Int} (r : SR M c D) (b4 : D 4 ≤ 5) (b5 : D 5 ≤ 4) (b6 : D 6 ≤ 6) (hi : 0 ≤ i ∧ i < D 4) (F : ∀ c' p : Int, ¬ (p = i ∧ (c' = c + 1 ∨ c' = c + 2 ∨ c' = c + 3)) → c ≤ c' ∧ c' ≤ c + 7 → M' c' p = M c' p) (G : ∀ p : Int, ¬ (10 + 5 * i ≤ p ∧ p ≤ 10 + 5 * i + 2) → D' p = D p) (x : SRh M' c D' i) : SR M' c D' := by
  obtain ⟨⟨r1, r2⟩, r3, r4, r5, r6⟩ := r
  have g4 : D' 4 = D 4 := G 4 (by omega)
  have g5 : D' 5 = D 5 := G 5 (by omega)
  have g6 : D' 6 = D 6 := G 6 (by omega)
  refine ⟨⟨by rw [F c 0 (by omega) (by omega), G 7 (by omega)]; exact r1, by rw [F c 1 (by omega) (by omega), G 8 (by omega)]; exact r2⟩, fun k k0 k1 => ?_, fun k k0 k1 => ?_, fun k k0 k1 => ?_, fun w w0 w1 => ?_⟩
  · rw [g4] at k1
    by_cases e : k = i
    · rw [e]; exact x
    · exact (r3 k k0 k1).same (F _ _ (by omega) (by omega)) (F _ _ (by omega) (by omega)) (F _ _ (by omega) (by omega)) (G _ (by omega)) (G _ (by omega)) (G _ (by omega))
  · rw [g5] at k1
    exact (r4 k k0 k1).same (F _ _ (by omega) (by omega)) (F _ _ (by omega) (by omega)) (F _ _ (by omega) (by omega)) (G _ (by omega)) (G _ (by omega)) (G _ (by omega)) (G _ (by omega)) g4
  · rw [g5] at k0
    rw [F (c + 4) k (by omega) (by omega), F (c + 5) k (by omega) (by omega)]
    exact r5 k k0 k1
  · rw [g6] at w1
    rw [F (c + 7) w (by omega) (by omega), G _ (by omega)]
    exact r6 w w0 w1
/-- both sides hold the same JUGS in a HAND -/
theorem SR.held {X : Mm} {S : Sh} {M : Mm} {c h : Int} (hm : Inv X S M) (r : SR M c (M 346)) (h0 : 0 ≤ h) : hbt (M (c + 5)) h 4 = hbR M h := by
  have b5 := hm.f_346_5
  obtain ⟨_, _, r4, r5, _⟩ := r
  unfold hbR
  have e : (4 : Nat) = (M 346 5).toNat + (4 - (M 346 5).toNat) := by omega
  rw [e, hbt_ext _ (fun j j0 j1 => ?_)]
  · refine hbt_same _ (fun j j0 j1 => ?_)
    have q := (r4 j j0 (by omega)).1
    show M (c + 5) j = M 346 (36 + 4 * j)
    rw [q]
    congr 1
    omega
  · have q := (r5 j (by omega) (by omega)).2
    omega
end
