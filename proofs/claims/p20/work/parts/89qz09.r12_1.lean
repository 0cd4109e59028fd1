theorem fr2_X12_tested_49 {X G : Mm} {S : Sh} {k12 k12' : Int → Int → Mm → Prop} {K K' : Int → Mm → Prop} {M : Mm} (hG : Inv X S G) (kk12 : ∀ (a1 : Int) (m : Mm), fr2_F G m → k12 (336) a1 m → k12' (336) a1 m) (k : ∀ (a0 : Int) (m : Mm), fr2_F G m → K a0 m → K' a0 m) (f : fr2_F G M) (h : wp_X12_tested_49 S k12 K (336) M) : wp_X12_tested_49 S k12' K' (336) M := by
  refine m_C h (fun h => ?_)
  refine fr2_X12_tested_54 hG kk12 k f h
theorem fr2_X12_tested_12 {X G : Mm} {S : Sh} {K K' : Int → Mm → Prop} (hG : Inv X S G) (k : ∀ (a0 : Int) (m : Mm), fr2_F G m → K a0 m → K' a0 m) : ∀ (n : Nat) (u1 : Int) (M : Mm), fr2_F G M → wp_X12_tested_12 S K n (336) u1 M → wp_X12_tested_12 S K' n (336) u1 M := by
  intro n
  induction n with
  | zero => intro u1 M f h; exact h
  | succ n ih =>
    intro u1 M f h
    refine m_if h (fun h => ?_) (fun h => ?_)
    · skip
      refine m_and h (fun h => ?_)
      refine fr2_X12_isInside hG (fun _ _ f1 h => ?_) f h
      refine m_if h (fun h => ?_) (fun h => ?_)
      · skip
        refine m_C h (fun h => ?_)
        refine m_and h (fun h => ?_)
        refine fr2_X12_settles hG (fun _ f2 h => ?_) f1 h
        refine m_C h (fun h => ?_)
        refine m_and h (fun h => ?_)
        exact k _ _ f2 h
      · skip
        refine m_and h (fun h => ?_)
        refine fr2_X12_see hG (fun _ _ f3 h => ?_) f1 h
        refine m_C h (fun h => ?_)
        refine m_Get h (fun _ h => ?_)
        refine m_and h (fun h => ?_)
        refine fr2_X12_fails hG (fun _ _ f4 h => ?_) f3 h
        refine m_and h (fun h => ?_)
        exact k _ _ f4 h
    · skip
      refine m_and h (fun h => ?_)
      refine fr2_X12_fact hG (fun _ _ f5 h => ?_) f h
      refine m_if h (fun h => ?_) (fun h => ?_)
      · skip
        refine m_and h (fun h => ?_)
        refine fr2_X12_closes hG (fun _ f6 h => ?_) f5 h
        refine m_C h (fun h => ?_)
        refine m_and h (fun h => ?_)
        refine fr2_X12_isWord hG (fun _ _ f7 h => ?_) f6 h
        refine m_if h (fun h => ?_) (fun h => ?_)
        · skip
          refine fr2_X12_tested_49 hG (fun _ _ f8 h => ?_) k f7 h
          exact ih _ _ f8 h
        · skip
          refine m_C h (fun h => ?_)
          refine m_and h (fun h => ?_)
          refine fr2_X12_isWord hG (fun _ _ f9 h => ?_) f7 h
          refine m_if h (fun h => ?_) (fun h => ?_)
          · skip
            refine m_C h (fun h => ?_)
            refine fr2_X12_tested_54 hG (fun _ _ f10 h => ?_) k f9 h
            exact ih _ _ f10 h
          · skip
            refine fr2_X12_tested_49 hG (fun _ _ f11 h => ?_) k f9 h
            exact ih _ _ f11 h
      · skip
        refine m_C h (fun h => ?_)
        refine m_and h (fun h => ?_)
        exact k _ _ f5 h
theorem fr2_X12_tested {X G : Mm} {S : Sh} {K K' : Int → Mm → Prop} {M : Mm} (hG : Inv X S G) (k : ∀ (a0 : Int) (m : Mm), fr2_F G m → K a0 m → K' a0 m) (f : fr2_F G M) (h : wp_X12_tested S M (336) K) : wp_X12_tested S M (336) K' := by
  refine m_C h (fun h => ?_)
  refine m_Put (fr2_up (by decide) f) h (fun _ f1 h => ?_)
  refine m_C h (fun h => ?_)
  refine m_Put (fr2_up (by decide) f1) h (fun _ f2 h => ?_)
  refine m_C h (fun h => ?_)
  refine m_ex h (fun n9 h => ?_)
  refine fr2_X12_tested_12 hG k _ _ _ f2 h
theorem fr2_X12_isTurnHere_110 {X G : Mm} {S : Sh} {K K' : Int → Mm → Prop} {M : Mm} {u1 : Int} (hG : Inv X S G) (k : ∀ (a0 : Int) (m : Mm), fr2_F G m → K a0 m → K' a0 m) (f : fr2_F G M) (h : wp_X12_isTurnHere_110 S K (336) u1 M) : wp_X12_isTurnHere_110 S K' (336) u1 M := by
  refine m_gr (fr2_c_336_5 hG f) h (fun h => ?_)
  refine m_C h (fun h => ?_)
  refine m_A h (fun _ h => ?_)
  refine m_gr (fr2_c_336_4 hG f) h (fun h => ?_)
  refine m_Get h (fun _ h => ?_)
  refine m_Ld h (fun _ h => ?_)
  refine m_St (fr2_up (fr2_a_340 _) f) h (fun _ f1 h => ?_)
  refine m_gr (fr2_c_336_6 hG f1) h (fun h => ?_)
  refine m_Get h (fun _ h => ?_)
  refine m_Ld h (fun _ h => ?_)
  refine m_C h (fun h => ?_)
  refine m_A h (fun _ h => ?_)
  refine m_St (fr2_up (fr2_a_341 _) f1) h (fun _ f2 h => ?_)
  refine m_C h (fun h => ?_)
  refine m_and h (fun h => ?_)
  exact k _ _ f2 h
theorem fr2_X12_isTurnHere {X G : Mm} {S : Sh} {K K' : Int → Mm → Prop} {M : Mm} (hG : Inv X S G) (k : ∀ (a0 : Int) (m : Mm), fr2_F G m → K a0 m → K' a0 m) (f : fr2_F G M) (h : wp_X12_isTurnHere S M (336) K) : wp_X12_isTurnHere S M (336) K' := by
  refine m_and h (fun h => ?_)
  refine fr2_X12_passWord hG (fun _ f1 h => ?_) f h
  refine m_C h (fun h => ?_)
  refine m_Get h (fun _ h => ?_)
  refine m_M h (fun _ h => ?_)
  refine m_C h (fun h => ?_)
  refine m_gr (fr2_c_336_6 hG f1) h (fun h => ?_)
  refine m_Get h (fun _ h => ?_)
  refine m_Ld h (fun _ h => ?_)
  refine m_M h (fun _ h => ?_)
  refine m_A h (fun _ h => ?_)
  refine m_gr (fr2_c_336_5 hG f1) h (fun h => ?_)
  refine m_gr (fr2_c_336_4 hG f1) h (fun h => ?_)
  refine m_Get h (fun _ h => ?_)
  refine m_Ld h (fun _ h => ?_)
  refine m_St (fr2_up (fr2_a_340 _) f1) h (fun _ f2 h => ?_)
  refine m_and h (fun h => ?_)
  refine fr2_X12_sum hG (fun _ _ f3 h => ?_) f2 h
  refine m_if h (fun h => ?_) (fun h => ?_)
  · skip
    refine m_gr (fr2_c_336_5 hG f3) h (fun h => ?_)
    refine m_C h (fun h => ?_)
    refine m_A h (fun _ h => ?_)
    refine m_gr (fr2_c_336_4 hG f3) h (fun h => ?_)
    refine m_Get h (fun _ h => ?_)
    refine m_Ld h (fun _ h => ?_)
    refine m_St (fr2_up (fr2_a_340 _) f3) h (fun _ f4 h => ?_)
    refine m_gr (fr2_c_336_5 hG f4) h (fun h => ?_)
    refine m_C h (fun h => ?_)
    refine m_A h (fun _ h => ?_)
    refine m_C h (fun h => ?_)
    refine m_St (fr2_up (fr2_a_340 _) f4) h (fun _ f5 h => ?_)
    refine m_C h (fun h => ?_)
    refine m_and h (fun h => ?_)
    refine fr2_X12_takesWord hG (fun _ _ f6 h => ?_) f5 h
    refine m_if h (fun h => ?_) (fun h => ?_)
    · skip
      refine fr2_X12_isTurnHere_110 hG k f6 h
    · skip
      refine m_gr (fr2_c_336_5 hG f6) h (fun h => ?_)
      refine m_C h (fun h => ?_)
      refine m_A h (fun _ h => ?_)
      refine m_gr (fr2_c_336_4 hG f6) h (fun h => ?_)
      refine m_Get h (fun _ h => ?_)
      refine m_Ld h (fun _ h => ?_)
      refine m_St (fr2_up (fr2_a_340 _) f6) h (fun _ f7 h => ?_)
      refine m_and h (fun h => ?_)
      refine fr2_X12_tested hG (fun _ _ f8 h => ?_) f7 h
      refine m_if h (fun h => ?_) (fun h => ?_)
      · skip
        refine fr2_X12_isTurnHere_110 hG k f8 h
      · skip
        refine m_C h (fun h => ?_)
        refine m_and h (fun h => ?_)
        exact k _ _ f8 h
  · skip
    refine m_C h (fun h => ?_)
    refine m_and h (fun h => ?_)
    exact k _ _ f3 h
theorem fr2_X12_clauseHere_71 {X G : Mm} {S : Sh} {K K' : Int → Mm → Prop} {M : Mm} {u1 : Int} {u2 : Int} {t0 : Int} {t1 : Int} (hG : Inv X S G) (k : ∀ (a0 : Int) (m : Mm), fr2_F G m → K a0 m → K' a0 m) (f : fr2_F G M) (h : wp_X12_clauseHere_71 S K (336) u1 u2 t0 t1 M) : wp_X12_clauseHere_71 S K' (336) u1 u2 t0 t1 M := by
  refine m_if h (fun h => ?_) (fun h => ?_)
  · skip
    refine m_Get h (fun _ h => ?_)
    refine m_C h (fun h => ?_)
    refine m_A h (fun _ h => ?_)
    refine m_Put (fr2_up (by decide) f) h (fun _ f1 h => ?_)
    refine m_if h (fun h => ?_) (fun h => ?_)
    · skip
      refine m_and h (fun h => ?_)
      refine fr2_X12_isTurnHere hG (fun _ _ f2 h => ?_) f1 h
      refine m_and h (fun h => ?_)
      exact k _ _ f2 h
    · skip
      refine m_and h (fun h => ?_)
      refine fr2_X12_dairyLineHere hG (fun _ _ f3 h => ?_) f1 h
      refine m_and h (fun h => ?_)
      exact k _ _ f3 h
  · skip
    refine m_C h (fun h => ?_)
    refine m_and h (fun h => ?_)
    refine fr2_X12_fails hG (fun _ _ f4 h => ?_) f h
    refine m_and h (fun h => ?_)
    exact k _ _ f4 h
theorem fr2_X12_clauseHere_56 {X G : Mm} {S : Sh} {K K' : Int → Mm → Prop} {M : Mm} {u1 : Int} {u2 : Int} (hG : Inv X S G) (k : ∀ (a0 : Int) (m : Mm), fr2_F G m → K a0 m → K' a0 m) (f : fr2_F G M) (h : wp_X12_clauseHere_56 S K (336) u1 u2 M) : wp_X12_clauseHere_56 S K' (336) u1 u2 M := by
  refine m_Get h (fun _ h => ?_)
  refine m_if h (fun h => ?_) (fun h => ?_)
  · skip
    refine m_C h (fun h => ?_)
    refine fr2_X12_clauseHere_71 hG k f h
  · skip
    refine m_C h (fun h => ?_)
    refine fr2_X12_clauseHere_71 hG k f h
theorem fr2_X12_clauseHere_49 {X G : Mm} {S : Sh} {K K' : Int → Mm → Prop} {M : Mm} {u1 : Int} (hG : Inv X S G) (k : ∀ (a0 : Int) (m : Mm), fr2_F G m → K a0 m → K' a0 m) (f : fr2_F G M) (h : wp_X12_clauseHere_49 S K (336) u1 M) : wp_X12_clauseHere_49 S K' (336) u1 M := by
  refine m_C h (fun h => ?_)
  refine m_and h (fun h => ?_)
  refine fr2_X12_fails hG (fun _ _ f1 h => ?_) f h
  refine m_and h (fun h => ?_)
  exact k _ _ f1 h
theorem fr2_X12_clauseHere_24 {X G : Mm} {S : Sh} {K K' : Int → Mm → Prop} {M : Mm} {u1 : Int} {t0 : Int} (hG : Inv X S G) (k : ∀ (a0 : Int) (m : Mm), fr2_F G m → K a0 m → K' a0 m) (f : fr2_F G M) (h : wp_X12_clauseHere_24 S K (336) u1 t0 M) : wp_X12_clauseHere_24 S K' (336) u1 t0 M := by
  refine m_if h (fun h => ?_) (fun h => ?_)
  · skip
    refine m_C h (fun h => ?_)
    refine m_and h (fun h => ?_)
    refine fr2_X12_isWord hG (fun _ _ f1 h => ?_) f h
    refine m_if h (fun h => ?_) (fun h => ?_)
    · skip
      refine fr2_X12_clauseHere_56 hG k f1 h
    · skip
      refine fr2_X12_clauseHere_49 hG k f1 h
  · skip
    refine m_and h (fun h => ?_)
    refine fr2_X12_isDairyWord hG (fun _ _ f2 h => ?_) f h
    refine m_if h (fun h => ?_) (fun h => ?_)
    · skip
      refine fr2_X12_clauseHere_56 hG k f2 h
    · skip
      refine fr2_X12_clauseHere_49 hG k f2 h
theorem fr2_X12_clauseHere {X G : Mm} {S : Sh} {K K' : Int → Mm → Prop} {M : Mm} (hG : Inv X S G) (k : ∀ (a0 : Int) (m : Mm), fr2_F G m → K a0 m → K' a0 m) (f : fr2_F G M) (h : wp_X12_clauseHere S M (336) K) : wp_X12_clauseHere S M (336) K' := by
  refine m_and h (fun h => ?_)
  refine fr2_X12_see hG (fun _ _ f1 h => ?_) f h
  refine m_Get h (fun _ h => ?_)
  refine m_Get h (fun _ h => ?_)
  refine m_C h (fun h => ?_)
  refine m_if h (fun h => ?_) (fun h => ?_)
  · skip
    refine m_C h (fun h => ?_)
    refine fr2_X12_clauseHere_24 hG k f1 h
  · skip
    refine m_C h (fun h => ?_)
    refine fr2_X12_clauseHere_24 hG k f1 h
theorem fr2_X12_readsAll_88 {X G : Mm} {S : Sh} {K K' : Int → Mm → Prop} {M : Mm} (hG : Inv X S G) (k : ∀ (a0 : Int) (m : Mm), fr2_F G m → K a0 m → K' a0 m) (f : fr2_F G M) (h : wp_X12_readsAll_88 S K (336) M) : wp_X12_readsAll_88 S K' (336) M := by
  refine m_C h (fun h => ?_)
  refine m_Put (fr2_up (by decide) f) h (fun _ f1 h => ?_)
  refine m_Get h (fun _ h => ?_)
  refine m_if h (fun h => ?_) (fun h => ?_)
  · skip
    refine m_C h (fun h => ?_)
    refine m_and h (fun h => ?_)
    exact k _ _ f1 h
  · skip
    refine m_C h (fun h => ?_)
    refine m_and h (fun h => ?_)
    exact k _ _ f1 h
theorem fr2_X12_readsAll_66 {X G : Mm} {S : Sh} {K K' : Int → Mm → Prop} {M : Mm} {u1 : Int} (hG : Inv X S G) (k : ∀ (a0 : Int) (m : Mm), fr2_F G m → K a0 m → K' a0 m) (f : fr2_F G M) (h : wp_X12_readsAll_66 S K (336) u1 M) : wp_X12_readsAll_66 S K' (336) u1 M := by
  refine m_if h (fun h => ?_) (fun h => ?_)
  · skip
    refine fr2_X12_readsAll_88 hG k f h
  · skip
    refine m_and h (fun h => ?_)
    refine fr2_X12_see hG (fun _ _ f1 h => ?_) f h
    refine m_C h (fun h => ?_)
    refine m_if h (fun h => ?_) (fun h => ?_)
    · skip
      refine fr2_X12_readsAll_88 hG k f1 h
    · skip
      refine m_C h (fun h => ?_)
      refine m_Get h (fun _ h => ?_)
      refine m_and h (fun h => ?_)
      refine fr2_X12_fails hG (fun _ _ f2 h => ?_) f1 h
      refine fr2_X12_readsAll_88 hG k f2 h
theorem fr2_X12_readsAll_35 {X G : Mm} {S : Sh} {K K' : Int → Mm → Prop} (hG : Inv X S G) (k : ∀ (a0 : Int) (m : Mm), fr2_F G m → K a0 m → K' a0 m) : ∀ (n : Nat) (u1 : Int) (M : Mm), fr2_F G M → wp_X12_readsAll_35 S K n (336) u1 M → wp_X12_readsAll_35 S K' n (336) u1 M := by
  intro n
  induction n with
  | zero => intro u1 M f h; exact h
  | succ n ih =>
    intro u1 M f h
    refine m_if h (fun h => ?_) (fun h => ?_)
    · skip
      refine fr2_X12_readsAll_66 hG k f h
    · skip
      refine m_and h (fun h => ?_)
      refine fr2_X12_see hG (fun _ _ f1 h => ?_) f h
      refine m_C h (fun h => ?_)
      refine m_if h (fun h => ?_) (fun h => ?_)
      · skip
        refine fr2_X12_readsAll_66 hG k f1 h
      · skip
        refine m_Get h (fun _ h => ?_)
        refine m_C h (fun h => ?_)
        refine m_A h (fun _ h => ?_)
        refine m_Put (fr2_up (by decide) f1) h (fun _ f2 h => ?_)
        refine m_and h (fun h => ?_)
        refine fr2_X12_clauseHere hG (fun _ _ f3 h => ?_) f2 h
        exact ih _ _ f3 h
theorem fr2_X12_readsAll {X G : Mm} {S : Sh} {K K' : Int → Mm → Prop} {M : Mm} (hG : Inv X S G) (k : ∀ (a0 : Int) (m : Mm), fr2_F G m → K a0 m → K' a0 m) (f : fr2_F G M) (h : wp_X12_readsAll S M (336) K) : wp_X12_readsAll S M (336) K' := by
  refine m_gr (fr2_c_336_4 hG f) h (fun h => ?_)
  refine m_Get h (fun _ h => ?_)
  refine m_C h (fun h => ?_)
  refine m_St (fr2_up (fr2_a_339 _) f) h (fun _ f1 h => ?_)
  refine m_C h (fun h => ?_)
  refine m_Put (fr2_up (by decide) f1) h (fun _ f2 h => ?_)
  refine m_C h (fun h => ?_)
  refine m_Put (fr2_up (by decide) f2) h (fun _ f3 h => ?_)
  refine m_C h (fun h => ?_)
  refine m_Put (fr2_up (by decide) f3) h (fun _ f4 h => ?_)
  refine m_C h (fun h => ?_)
  refine m_Put (fr2_up (by decide) f4) h (fun _ f5 h => ?_)
  refine m_and h (fun h => ?_)
  refine fr2_X12_clauseHere hG (fun _ _ f6 h => ?_) f5 h
  refine m_ex h (fun n9 h => ?_)
  refine fr2_X12_readsAll_35 hG k _ _ _ f6 h
