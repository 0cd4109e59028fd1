theorem fr1_X3_endsHere_21 {X G : Mm} {S : Sh} {K K' : Int → Mm → Prop} {M : Mm} (hG : Inv X S G) (k : ∀ (a0 : Int) (m : Mm), fr1_F G m → K a0 m → K' a0 m) (f : fr1_F G M) (h : wp_X3_endsHere_21 S K (52) M) : wp_X3_endsHere_21 S K' (52) M := by
  refine m_C h (fun h => ?_)
  refine fr1_X3_endsHere_26 hG k f h
theorem fr1_X3_endsHere_25 {X G : Mm} {S : Sh} {K K' : Int → Mm → Prop} {M : Mm} (hG : Inv X S G) (k : ∀ (a0 : Int) (m : Mm), fr1_F G m → K a0 m → K' a0 m) (f : fr1_F G M) (h : wp_X3_endsHere_25 S K (52) M) : wp_X3_endsHere_25 S K' (52) M := by
  refine m_C h (fun h => ?_)
  refine fr1_X3_endsHere_26 hG k f h
theorem fr1_X3_endsHere {X G : Mm} {S : Sh} {K K' : Int → Mm → Prop} {M : Mm} (hG : Inv X S G) (k : ∀ (a0 : Int) (m : Mm), fr1_F G m → K a0 m → K' a0 m) (f : fr1_F G M) (h : wp_X3_endsHere S M (52) K) : wp_X3_endsHere S M (52) K' := by
  refine m_Get h (fun _ h => ?_)
  refine m_if h (fun h => ?_) (fun h => ?_)
  · skip
    refine fr1_X3_endsHere_21 hG k f h
  · skip
    refine m_Get h (fun _ h => ?_)
    refine m_if h (fun h => ?_) (fun h => ?_)
    · skip
      refine fr1_X3_endsHere_25 hG k f h
    · skip
      refine m_and h (fun h => ?_)
      refine fr1_X3_isFactWhole hG (fun _ _ f1 h => ?_) f h
      refine m_if h (fun h => ?_) (fun h => ?_)
      · skip
        refine fr1_X3_endsHere_25 hG k f1 h
      · skip
        refine fr1_X3_endsHere_21 hG k f1 h
theorem fr1_X3_takeArithmetic {X G : Mm} {S : Sh} {K K' : Int → Mm → Prop} {M : Mm} (hG : Inv X S G) (k : ∀ (a0 : Int) (m : Mm), fr1_F G m → K a0 m → K' a0 m) (f : fr1_F G M) (h : wp_X3_takeArithmetic S M (52) K) : wp_X3_takeArithmetic S M (52) K' := by
  refine m_gr (fr1_c_52_0 hG f) h (fun h => ?_)
  refine m_C h (fun h => ?_)
  refine m_and h (fun h => ?_)
  refine fr1_X7_takesSign hG (fun _ _ f1 h => ?_) f h
  refine m_if h (fun h => ?_) (fun h => ?_)
  · skip
    refine m_gr (fr1_c_52_0 hG f1) h (fun h => ?_)
    refine m_C h (fun h => ?_)
    refine m_and h (fun h => ?_)
    refine fr1_X7_takesSign hG (fun _ _ f2 h => ?_) f1 h
    refine m_if h (fun h => ?_) (fun h => ?_)
    · skip
      refine m_gr (fr1_c_52_0 hG f2) h (fun h => ?_)
      refine m_C h (fun h => ?_)
      refine m_and h (fun h => ?_)
      refine fr1_X7_takesSign hG (fun _ _ f3 h => ?_) f2 h
      refine m_if h (fun h => ?_) (fun h => ?_)
      · skip
        refine m_gr (fr1_c_52_0 hG f3) h (fun h => ?_)
        refine m_C h (fun h => ?_)
        refine m_and h (fun h => ?_)
        refine fr1_X7_takesSign hG (fun _ _ f4 h => ?_) f3 h
        refine m_if h (fun h => ?_) (fun h => ?_)
        · skip
          refine m_gr (fr1_c_52_0 hG f4) h (fun h => ?_)
          refine m_C h (fun h => ?_)
          refine m_and h (fun h => ?_)
          refine fr1_X7_takesSign hG (fun _ _ f5 h => ?_) f4 h
          refine m_if h (fun h => ?_) (fun h => ?_)
          · skip
            refine m_C h (fun h => ?_)
            exact k _ _ f5 h
          · skip
            refine m_C h (fun h => ?_)
            exact k _ _ f5 h
        · skip
          refine m_C h (fun h => ?_)
          exact k _ _ f4 h
      · skip
        refine m_C h (fun h => ?_)
        exact k _ _ f3 h
    · skip
      refine m_C h (fun h => ?_)
      exact k _ _ f2 h
  · skip
    refine m_C h (fun h => ?_)
    exact k _ _ f1 h
theorem fr1_X3_push {X G : Mm} {S : Sh} {K K' : Mm → Prop} {M : Mm} {u1 : Int} (hG : Inv X S G) (k : ∀ (m : Mm), fr1_F G m → K m → K' m) (f : fr1_F G M) (h : wp_X3_push S M (52) u1 K) : wp_X3_push S M (52) u1 K' := by
  refine m_Get h (fun _ h => ?_)
  refine m_C h (fun h => ?_)
  refine m_if h (fun h => ?_) (fun h => ?_)
  · skip
    exact k _ f h
  · skip
    refine m_gr (fr1_c_52_4 hG f) h (fun h => ?_)
    refine m_Get h (fun _ h => ?_)
    refine m_St (fr1_up (fr1_a_54 _) f) h (fun _ f1 h => ?_)
    refine m_Get h (fun _ h => ?_)
    refine m_C h (fun h => ?_)
    refine m_A h (fun _ h => ?_)
    refine m_Put (fr1_up (by decide) f1) h (fun _ f2 h => ?_)
    exact k _ f2 h
theorem fr1_X3_pileUp {X G : Mm} {S : Sh} {K K' : Mm → Prop} {M : Mm} {u1 : Int} (hG : Inv X S G) (k : ∀ (m : Mm), fr1_F G m → K m → K' m) (f : fr1_F G M) (h : wp_X3_pileUp S M (52) u1 K) : wp_X3_pileUp S M (52) u1 K' := by
  refine fr1_X3_bindingOf hG (fun _ _ f1 h => ?_) f h
  refine m_and h (fun h => ?_)
  refine fr1_X3_unpile hG (fun _ f2 h => ?_) f1 h
  refine m_and h (fun h => ?_)
  refine fr1_X3_push hG (fun _ f3 h => ?_) f2 h
  exact k _ f3 h
theorem fr1_X3_beginFact_99 {X G : Mm} {S : Sh} {k7 k7' : Int → Int → Mm → Prop} {K K' : Int → Mm → Prop} {M : Mm} {u1 : Int} {t1 : Int} (hG : Inv X S G) (kk7 : ∀ (a1 : Int) (m : Mm), fr1_F G m → k7 (52) a1 m → k7' (52) a1 m) (k : ∀ (a0 : Int) (m : Mm), fr1_F G m → K a0 m → K' a0 m) (f : fr1_F G M) (h : wp_X3_beginFact_99 S k7 K (52) u1 (52) t1 M) : wp_X3_beginFact_99 S k7' K' (52) u1 (52) t1 M := by
  refine m_and h (fun h => ?_)
  refine fr1_X3_push hG (fun _ f1 h => ?_) f h
  refine m_A h (fun _ h => ?_)
  exact kk7 _ _ f1 h
theorem fr1_X3_beginFact_83 {X G : Mm} {S : Sh} {k7 k7' : Int → Int → Mm → Prop} {K K' : Int → Mm → Prop} {M : Mm} {u1 : Int} {u2 : Int} {t1 : Int} {t2 : Int} (hG : Inv X S G) (kk7 : ∀ (a1 : Int) (m : Mm), fr1_F G m → k7 (52) a1 m → k7' (52) a1 m) (k : ∀ (a0 : Int) (m : Mm), fr1_F G m → K a0 m → K' a0 m) (f : fr1_F G M) (h : wp_X3_beginFact_83 S k7 K (52) u1 u2 (52) t1 t2 M) : wp_X3_beginFact_83 S k7' K' (52) u1 u2 (52) t1 t2 M := by
  refine m_A h (fun _ h => ?_)
  refine m_Put (fr1_up (by decide) f) h (fun _ f1 h => ?_)
  refine m_if h (fun h => ?_) (fun h => ?_)
  · skip
    refine m_C h (fun h => ?_)
    refine fr1_X3_beginFact_99 hG kk7 k f1 h
  · skip
    refine m_C h (fun h => ?_)
    refine fr1_X3_beginFact_99 hG kk7 k f1 h
theorem fr1_X3_beginFact_41 {X G : Mm} {S : Sh} {k7 k7' : Int → Int → Mm → Prop} {K K' : Int → Mm → Prop} {M : Mm} {u1 : Int} {u2 : Int} (hG : Inv X S G) (kk7 : ∀ (a1 : Int) (m : Mm), fr1_F G m → k7 (52) a1 m → k7' (52) a1 m) (k : ∀ (a0 : Int) (m : Mm), fr1_F G m → K a0 m → K' a0 m) (f : fr1_F G M) (h : wp_X3_beginFact_41 S k7 K (52) u1 u2 M) : wp_X3_beginFact_41 S k7' K' (52) u1 u2 M := by
  refine m_Get h (fun _ h => ?_)
  refine m_C h (fun h => ?_)
  refine m_if h (fun h => ?_) (fun h => ?_)
  · skip
    refine m_Get h (fun _ h => ?_)
    refine m_C h (fun h => ?_)
    refine m_A h (fun _ h => ?_)
    refine m_Put (fr1_up (by decide) f) h (fun _ f1 h => ?_)
    refine m_Get h (fun _ h => ?_)
    refine m_if h (fun h => ?_) (fun h => ?_)
    · skip
      refine m_C h (fun h => ?_)
      refine fr1_X3_beginFact_83 hG kk7 k f1 h
    · skip
      refine m_C h (fun h => ?_)
      refine fr1_X3_beginFact_83 hG kk7 k f1 h
  · skip
    refine m_gr (fr1_c_52_0 hG f) h (fun h => ?_)
    refine m_C h (fun h => ?_)
    refine m_and h (fun h => ?_)
    refine fr1_X7_refuse hG (fun _ _ f2 h => ?_) f h
    refine m_and h (fun h => ?_)
    exact k _ _ f2 h
theorem fr1_X3_beginFact_7 {X G : Mm} {S : Sh} {K K' : Int → Mm → Prop} (hG : Inv X S G) (k : ∀ (a0 : Int) (m : Mm), fr1_F G m → K a0 m → K' a0 m) : ∀ (n : Nat) (u1 : Int) (M : Mm), fr1_F G M → wp_X3_beginFact_7 S K n (52) u1 M → wp_X3_beginFact_7 S K' n (52) u1 M := by
  intro n
  induction n with
  | zero => intro u1 M f h; exact h
  | succ n ih =>
    intro u1 M f h
    refine m_C h (fun h => ?_)
    refine m_if h (fun h => ?_) (fun h => ?_)
    · skip
      refine m_C h (fun h => ?_)
      refine m_and h (fun h => ?_)
      exact k _ _ f h
    · skip
      refine m_gr (fr1_c_52_0 hG f) h (fun h => ?_)
      refine m_C h (fun h => ?_)
      refine m_and h (fun h => ?_)
      refine fr1_X7_takesSign hG (fun _ _ f1 h => ?_) f h
      refine m_if h (fun h => ?_) (fun h => ?_)
      · skip
        refine fr1_X3_beginFact_41 hG (fun _ _ f2 h => ?_) k f1 h
        exact ih _ _ f2 h
      · skip
        refine m_gr (fr1_c_52_0 hG f1) h (fun h => ?_)
        refine m_C h (fun h => ?_)
        refine m_and h (fun h => ?_)
        refine fr1_X7_takesWord hG (fun _ _ f3 h => ?_) f1 h
        refine m_if h (fun h => ?_) (fun h => ?_)
        · skip
          refine fr1_X3_beginFact_41 hG (fun _ _ f4 h => ?_) k f3 h
          exact ih _ _ f4 h
        · skip
          refine m_C h (fun h => ?_)
          refine m_and h (fun h => ?_)
          exact k _ _ f3 h
theorem fr1_X3_beginFact {X G : Mm} {S : Sh} {K K' : Int → Mm → Prop} {M : Mm} (hG : Inv X S G) (k : ∀ (a0 : Int) (m : Mm), fr1_F G m → K a0 m → K' a0 m) (f : fr1_F G M) (h : wp_X3_beginFact S M (52) K) : wp_X3_beginFact S M (52) K' := by
  refine m_C h (fun h => ?_)
  refine m_Put (fr1_up (by decide) f) h (fun _ f1 h => ?_)
  refine m_C h (fun h => ?_)
  refine m_ex h (fun n9 h => ?_)
  refine fr1_X3_beginFact_7 hG k _ _ _ f1 h
theorem fr1_X3_readIf {X G : Mm} {S : Sh} {K K' : Int → Mm → Prop} {M : Mm} (hG : Inv X S G) (k : ∀ (a0 : Int) (m : Mm), fr1_F G m → K a0 m → K' a0 m) (f : fr1_F G M) (h : wp_X3_readIf S M (52) K) : wp_X3_readIf S M (52) K' := by
  refine m_gr (fr1_c_52_0 hG f) h (fun h => ?_)
  refine m_C h (fun h => ?_)
  refine m_and h (fun h => ?_)
  refine fr1_X7_takesWord hG (fun _ _ f1 h => ?_) f h
  refine m_if h (fun h => ?_) (fun h => ?_)
  · skip
    refine m_C h (fun h => ?_)
    refine m_and h (fun h => ?_)
    refine fr1_X3_unpile hG (fun _ f2 h => ?_) f1 h
    refine m_and h (fun h => ?_)
    refine fr1_X3_beginFact hG (fun _ _ f3 h => ?_) f2 h
    refine m_and h (fun h => ?_)
    exact k _ _ f3 h
  · skip
    refine m_gr (fr1_c_52_0 hG f1) h (fun h => ?_)
    refine m_C h (fun h => ?_)
    refine m_and h (fun h => ?_)
    refine fr1_X7_refuse hG (fun _ _ f4 h => ?_) f1 h
    refine m_and h (fun h => ?_)
    exact k _ _ f4 h
theorem fr1_X7_continuesWith {X G : Mm} {S : Sh} {K K' : Int → Mm → Prop} {M : Mm} (hG : Inv X S G) (k : ∀ (a0 : Int) (m : Mm), fr1_F G m → K a0 m → K' a0 m) (f : fr1_F G M) (h : wp_X7_continuesWith S M (1) (61) K) : wp_X7_continuesWith S M (1) (61) K' := by
  refine m_Get h (fun _ h => ?_)
  refine m_and h (fun h => ?_)
  refine fr1_X7_byteAt hG (fun _ _ f1 h => ?_) f h
  refine m_if h (fun h => ?_) (fun h => ?_)
  · skip
    refine m_Get h (fun _ h => ?_)
    refine m_C h (fun h => ?_)
    refine m_A h (fun _ h => ?_)
    refine m_Put (fr1_up (by decide) f1) h (fun _ f2 h => ?_)
    refine m_C h (fun h => ?_)
    refine m_and h (fun h => ?_)
    exact k _ _ f2 h
  · skip
    refine m_C h (fun h => ?_)
    refine m_and h (fun h => ?_)
    exact k _ _ f1 h
theorem fr1_X3_takeComparison {X G : Mm} {S : Sh} {K K' : Int → Mm → Prop} {M : Mm} (hG : Inv X S G) (k : ∀ (a0 : Int) (m : Mm), fr1_F G m → K a0 m → K' a0 m) (f : fr1_F G M) (h : wp_X3_takeComparison S M (52) K) : wp_X3_takeComparison S M (52) K' := by
  refine m_gr (fr1_c_52_0 hG f) h (fun h => ?_)
  refine m_C h (fun h => ?_)
  refine m_and h (fun h => ?_)
  refine fr1_X7_takesSign hG (fun _ _ f1 h => ?_) f h
  refine m_if h (fun h => ?_) (fun h => ?_)
  · skip
    refine m_gr (fr1_c_52_0 hG f1) h (fun h => ?_)
    refine m_C h (fun h => ?_)
    refine m_and h (fun h => ?_)
    refine fr1_X7_takesSign hG (fun _ _ f2 h => ?_) f1 h
    refine m_if h (fun h => ?_) (fun h => ?_)
    · skip
      refine m_gr (fr1_c_52_0 hG f2) h (fun h => ?_)
      refine m_C h (fun h => ?_)
      refine m_and h (fun h => ?_)
      refine fr1_X7_takesSign hG (fun _ _ f3 h => ?_) f2 h
      refine m_if h (fun h => ?_) (fun h => ?_)
      · skip
        refine m_C h (fun h => ?_)
        exact k _ _ f3 h
      · skip
        refine m_gr (fr1_c_52_0 hG f3) h (fun h => ?_)
        refine m_C h (fun h => ?_)
        refine m_and h (fun h => ?_)
        refine fr1_X7_continuesWith hG (fun _ _ f4 h => ?_) f3 h
        refine m_if h (fun h => ?_) (fun h => ?_)
        · skip
          refine m_C h (fun h => ?_)
          exact k _ _ f4 h
        · skip
          refine m_C h (fun h => ?_)
          exact k _ _ f4 h
    · skip
      refine m_gr (fr1_c_52_0 hG f2) h (fun h => ?_)
      refine m_C h (fun h => ?_)
      refine m_and h (fun h => ?_)
      refine fr1_X7_continuesWith hG (fun _ _ f5 h => ?_) f2 h
      refine m_if h (fun h => ?_) (fun h => ?_)
      · skip
        refine m_C h (fun h => ?_)
        exact k _ _ f5 h
      · skip
        refine m_C h (fun h => ?_)
        exact k _ _ f5 h
  · skip
    refine m_C h (fun h => ?_)
    exact k _ _ f1 h
theorem fr1_X3_readComparison {X G : Mm} {S : Sh} {K K' : Int → Mm → Prop} {M : Mm} (hG : Inv X S G) (k : ∀ (a0 : Int) (m : Mm), fr1_F G m → K a0 m → K' a0 m) (f : fr1_F G M) (h : wp_X3_readComparison S M (52) K) : wp_X3_readComparison S M (52) K' := by
  refine m_and h (fun h => ?_)
  refine fr1_X3_takeComparison hG (fun _ _ f1 h => ?_) f h
  refine m_if h (fun h => ?_) (fun h => ?_)
  · skip
    refine m_Get h (fun _ h => ?_)
    refine m_C h (fun h => ?_)
    refine m_if h (fun h => ?_) (fun h => ?_)
    · skip
      refine m_Get h (fun _ h => ?_)
      refine m_C h (fun h => ?_)
      refine m_A h (fun _ h => ?_)
      refine m_Put (fr1_up (by decide) f1) h (fun _ f2 h => ?_)
      refine m_and h (fun h => ?_)
      refine fr1_X3_pileUp hG (fun _ f3 h => ?_) f2 h
      refine m_C h (fun h => ?_)
      refine m_Put (fr1_up (by decide) f3) h (fun _ f4 h => ?_)
      refine m_C h (fun h => ?_)
      refine m_and h (fun h => ?_)
      exact k _ _ f4 h
    · skip
      refine m_gr (fr1_c_52_0 hG f1) h (fun h => ?_)
      refine m_C h (fun h => ?_)
      refine m_and h (fun h => ?_)
      refine fr1_X7_refuse hG (fun _ _ f5 h => ?_) f1 h
      refine m_and h (fun h => ?_)
      exact k _ _ f5 h
  · skip
    refine m_gr (fr1_c_52_0 hG f1) h (fun h => ?_)
    refine m_C h (fun h => ?_)
    refine m_and h (fun h => ?_)
    refine fr1_X7_refuse hG (fun _ _ f6 h => ?_) f1 h
    refine m_and h (fun h => ?_)
    exact k _ _ f6 h
theorem fr1_X3_readJoint_88 {X G : Mm} {S : Sh} {K K' : Int → Mm → Prop} {M : Mm} {t0 : Int} (hG : Inv X S G) (k : ∀ (a0 : Int) (m : Mm), fr1_F G m → K a0 m → K' a0 m) (f : fr1_F G M) (h : wp_X3_readJoint_88 S K (52) t0 M) : wp_X3_readJoint_88 S K' (52) t0 M := by
  refine m_if h (fun h => ?_) (fun h => ?_)
  · skip
    refine m_and h (fun h => ?_)
    refine fr1_X3_pileUp hG (fun _ f1 h => ?_) f h
    refine m_and h (fun h => ?_)
    refine fr1_X3_beginFact hG (fun _ _ f2 h => ?_) f1 h
    refine m_and h (fun h => ?_)
    exact k _ _ f2 h
  · skip
    refine m_gr (fr1_c_52_0 hG f) h (fun h => ?_)
    refine m_C h (fun h => ?_)
    refine m_and h (fun h => ?_)
    refine fr1_X7_refuse hG (fun _ _ f3 h => ?_) f h
    refine m_and h (fun h => ?_)
    exact k _ _ f3 h
theorem fr1_X3_readJoint_16 {X G : Mm} {S : Sh} {K K' : Int → Mm → Prop} {M : Mm} {t0 : Int} (hG : Inv X S G) (k : ∀ (a0 : Int) (m : Mm), fr1_F G m → K a0 m → K' a0 m) (f : fr1_F G M) (h : wp_X3_readJoint_16 S K (52) t0 M) : wp_X3_readJoint_16 S K' (52) t0 M := by
  refine m_if h (fun h => ?_) (fun h => ?_)
  · skip
    refine m_Get h (fun _ h => ?_)
    refine m_if h (fun h => ?_) (fun h => ?_)
    · skip
      refine m_Get h (fun _ h => ?_)
      refine m_C h (fun h => ?_)
      refine m_if h (fun h => ?_) (fun h => ?_)
      · skip
        refine m_gr (fr1_c_52_0 hG f) h (fun h => ?_)
        refine m_C h (fun h => ?_)
        refine m_and h (fun h => ?_)
        refine fr1_X7_takesWord hG (fun _ _ f1 h => ?_) f h
        refine m_if h (fun h => ?_) (fun h => ?_)
        · skip
          refine m_gr (fr1_c_52_0 hG f1) h (fun h => ?_)
          refine m_C h (fun h => ?_)
          refine m_and h (fun h => ?_)
          refine fr1_X7_takesWord hG (fun _ _ f2 h => ?_) f1 h
          refine m_if h (fun h => ?_) (fun h => ?_)
          · skip
            refine m_C h (fun h => ?_)
            refine fr1_X3_readJoint_88 hG k f2 h
          · skip
            refine m_C h (fun h => ?_)
            refine fr1_X3_readJoint_88 hG k f2 h
        · skip
          refine m_C h (fun h => ?_)
          refine fr1_X3_readJoint_88 hG k f1 h
      · skip
        refine m_and h (fun h => ?_)
        refine fr1_X3_readComparison hG (fun _ _ f3 h => ?_) f h
        refine m_and h (fun h => ?_)
        exact k _ _ f3 h
    · skip
      refine m_and h (fun h => ?_)
      refine fr1_X3_readIf hG (fun _ _ f4 h => ?_) f h
      refine m_and h (fun h => ?_)
      exact k _ _ f4 h
  · skip
    refine m_and h (fun h => ?_)
    refine fr1_X3_pileUp hG (fun _ f5 h => ?_) f h
    refine m_C h (fun h => ?_)
    refine m_and h (fun h => ?_)
    exact k _ _ f5 h
theorem fr1_X3_readJoint {X G : Mm} {S : Sh} {K K' : Int → Mm → Prop} {M : Mm} (hG : Inv X S G) (k : ∀ (a0 : Int) (m : Mm), fr1_F G m → K a0 m → K' a0 m) (f : fr1_F G M) (h : wp_X3_readJoint S M (52) K) : wp_X3_readJoint S M (52) K' := by
  refine m_Get h (fun _ h => ?_)
  refine m_C h (fun h => ?_)
  refine m_if h (fun h => ?_) (fun h => ?_)
  · skip
    refine m_and h (fun h => ?_)
    refine fr1_X3_takeArithmetic hG (fun _ _ f1 h => ?_) f h
    refine fr1_X3_readJoint_16 hG k f1 h
  · skip
    refine m_C h (fun h => ?_)
    refine fr1_X3_readJoint_16 hG k f h
theorem fr1_X3_readClause_105 {X G : Mm} {S : Sh} {K K' : Int → Mm → Prop} {M : Mm} {t1 : Int} (hG : Inv X S G) (k : ∀ (a0 : Int) (m : Mm), fr1_F G m → K a0 m → K' a0 m) (f : fr1_F G M) (h : wp_X3_readClause_105 S K (52) t1 M) : wp_X3_readClause_105 S K' (52) t1 M := by
  refine m_and h (fun h => ?_)
  refine fr1_X3_write hG (fun _ f1 h => ?_) f h
  refine m_C h (fun h => ?_)
  refine m_and h (fun h => ?_)
  exact k _ _ f1 h
theorem fr1_X3_readClause_58 {X G : Mm} {S : Sh} {K K' : Int → Mm → Prop} (hG : Inv X S G) (k : ∀ (a0 : Int) (m : Mm), fr1_F G m → K a0 m → K' a0 m) : ∀ (n : Nat) (u2 : Int) (M : Mm), fr1_F G M → wp_X3_readClause_58 S K n (52) u2 M → wp_X3_readClause_58 S K' n (52) u2 M := by
  intro n
  induction n with
  | zero => intro u2 M f h; exact h
  | succ n ih =>
    intro u2 M f h
    refine m_C h (fun h => ?_)
    refine m_if h (fun h => ?_) (fun h => ?_)
    · skip
      refine m_C h (fun h => ?_)
      refine m_and h (fun h => ?_)
      exact k _ _ f h
    · skip
      refine m_and h (fun h => ?_)
      refine fr1_X3_readValue hG (fun _ _ f1 h => ?_) f h
      refine m_if h (fun h => ?_) (fun h => ?_)
      · skip
        refine m_and h (fun h => ?_)
        refine fr1_X3_closeBrackets hG (fun _ f2 h => ?_) f1 h
        refine m_and h (fun h => ?_)
        refine fr1_X3_endsHere hG (fun _ _ f3 h => ?_) f2 h
        refine m_if h (fun h => ?_) (fun h => ?_)
        · skip
          refine m_and h (fun h => ?_)
          refine fr1_X3_readJoint hG (fun _ _ f4 h => ?_) f3 h
          refine m_if h (fun h => ?_) (fun h => ?_)
          · skip
            refine m_A h (fun _ h => ?_)
            exact ih _ _ f4 h
          · skip
            refine m_C h (fun h => ?_)
            refine m_and h (fun h => ?_)
            exact k _ _ f4 h
        · skip
          refine m_C h (fun h => ?_)
          refine m_and h (fun h => ?_)
          refine fr1_X3_unpile hG (fun _ f5 h => ?_) f3 h
          refine m_Get h (fun _ h => ?_)
          refine m_if h (fun h => ?_) (fun h => ?_)
          · skip
            refine m_C h (fun h => ?_)
            refine fr1_X3_readClause_105 hG k f5 h
          · skip
            refine m_C h (fun h => ?_)
            refine fr1_X3_readClause_105 hG k f5 h
      · skip
        refine m_C h (fun h => ?_)
        refine m_and h (fun h => ?_)
        exact k _ _ f1 h
theorem fr1_X3_readClause {X G : Mm} {S : Sh} {K K' : Int → Mm → Prop} {M : Mm} {u1 : Int} (hG : Inv X S G) (k : ∀ (a0 : Int) (m : Mm), fr1_F G m → K a0 m → K' a0 m) (f : fr1_F G M) (h : wp_X3_readClause S M (52) u1 K) : wp_X3_readClause S M (52) u1 K' := by
  refine m_gr (fr1_c_52_0 hG f) h (fun h => ?_)
  refine m_C h (fun h => ?_)
  refine m_and h (fun h => ?_)
  refine fr1_X7_takesWord hG (fun _ _ f1 h => ?_) f h
  refine m_if h (fun h => ?_) (fun h => ?_)
  · skip
    refine m_C h (fun h => ?_)
    refine m_if h (fun h => ?_) (fun h => ?_)
    · skip
      refine m_C h (fun h => ?_)
      refine m_Put (fr1_up (by decide) f1) h (fun _ f2 h => ?_)
      refine m_C h (fun h => ?_)
      refine m_Put (fr1_up (by decide) f2) h (fun _ f3 h => ?_)
      refine m_C h (fun h => ?_)
      refine m_Put (fr1_up (by decide) f3) h (fun _ f4 h => ?_)
      refine m_C h (fun h => ?_)
      refine m_Put (fr1_up (by decide) f4) h (fun _ f5 h => ?_)
      refine m_C h (fun h => ?_)
      refine m_ex h (fun n9 h => ?_)
      refine fr1_X3_readClause_58 hG k _ _ _ f5 h
    · skip
      refine m_gr (fr1_c_52_0 hG f1) h (fun h => ?_)
      refine m_C h (fun h => ?_)
      refine m_and h (fun h => ?_)
      refine fr1_X7_refuse hG (fun _ _ f6 h => ?_) f1 h
      refine m_and h (fun h => ?_)
      exact k _ _ f6 h
  · skip
    refine m_gr (fr1_c_52_0 hG f1) h (fun h => ?_)
    refine m_C h (fun h => ?_)
    refine m_and h (fun h => ?_)
    refine fr1_X7_refuse hG (fun _ _ f7 h => ?_) f1 h
    refine m_and h (fun h => ?_)
    exact k _ _ f7 h
theorem fr1_X3_read_19 {X G : Mm} {S : Sh} {K K' : Int → Mm → Prop} (hG : Inv X S G) (k : ∀ (a0 : Int) (m : Mm), fr1_F G m → K a0 m → K' a0 m) : ∀ (n : Nat) (u1 : Int) (M : Mm), fr1_F G M → wp_X3_read_19 S K n (52) u1 M → wp_X3_read_19 S K' n (52) u1 M := by
  intro n
  induction n with
  | zero => intro u1 M f h; exact h
  | succ n ih =>
    intro u1 M f h
    refine m_C h (fun h => ?_)
    refine m_if h (fun h => ?_) (fun h => ?_)
    · skip
      refine m_C h (fun h => ?_)
      refine m_and h (fun h => ?_)
      exact k _ _ f h
    · skip
      refine m_and h (fun h => ?_)
      refine fr1_X3_readClause hG (fun _ _ f1 h => ?_) f h
      refine m_if h (fun h => ?_) (fun h => ?_)
      · skip
        refine m_gr (fr1_c_52_0 hG f1) h (fun h => ?_)
        refine m_and h (fun h => ?_)
        refine fr1_X7_isAtEnd hG (fun _ _ f2 h => ?_) f1 h
        refine m_if h (fun h => ?_) (fun h => ?_)
        · skip
          refine m_gr (fr1_c_52_0 hG f2) h (fun h => ?_)
          refine m_C h (fun h => ?_)
          refine m_and h (fun h => ?_)
          refine fr1_X7_takesSign hG (fun _ _ f3 h => ?_) f2 h
          refine m_if h (fun h => ?_) (fun h => ?_)
          · skip
            refine m_A h (fun _ h => ?_)
            exact ih _ _ f3 h
          · skip
            refine m_gr (fr1_c_52_0 hG f3) h (fun h => ?_)
            refine m_C h (fun h => ?_)
            refine m_and h (fun h => ?_)
            refine fr1_X7_refuse hG (fun _ _ f4 h => ?_) f3 h
            refine m_and h (fun h => ?_)
            exact k _ _ f4 h
        · skip
          refine m_C h (fun h => ?_)
          refine m_and h (fun h => ?_)
          exact k _ _ f2 h
      · skip
        refine m_C h (fun h => ?_)
        refine m_and h (fun h => ?_)
        exact k _ _ f1 h
theorem fr1_X3_read {X G : Mm} {S : Sh} {K K' : Int → Mm → Prop} {M : Mm} (hG : Inv X S G) (k : ∀ (a0 : Int) (m : Mm), fr1_F G m → K a0 m → K' a0 m) (f : fr1_F G M) (h : wp_X3_read S M (52) K) : wp_X3_read S M (52) K' := by
  refine m_C h (fun h => ?_)
  refine m_Put (fr1_up (by decide) f) h (fun _ f1 h => ?_)
  refine m_C h (fun h => ?_)
  refine m_Put (fr1_up (by decide) f1) h (fun _ f2 h => ?_)
  refine m_gr (fr1_c_52_0 hG f2) h (fun h => ?_)
  refine m_and h (fun h => ?_)
  refine fr1_X7_rewind hG (fun _ f3 h => ?_) f2 h
  refine m_C h (fun h => ?_)
  refine m_ex h (fun n9 h => ?_)
  refine fr1_X3_read_19 hG k _ _ _ f3 h
