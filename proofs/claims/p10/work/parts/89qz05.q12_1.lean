theorem fq2_X12_payBy_118 {X G : Mm} {S : Sh} {k7 k7' : Int → Int → Int → Int → Int → Mm → Prop} {K K' : Int → Mm → Prop} {M : Mm} {u1 : Int} {u2 : Int} {u3 : Int} {u4 : Int} (hG : Inv X S G) (kk7 : ∀ (a1 : Int) (a2 : Int) (a3 : Int) (a4 : Int) (m : Mm), fq2_F G m → k7 (336) a1 a2 a3 a4 m → k7' (336) a1 a2 a3 a4 m) (k : ∀ (a0 : Int) (m : Mm), fq2_F G m → K a0 m → K' a0 m) (f : fq2_F G M) (h : wp_X12_payBy_118 S k7 K (336) u1 u2 u3 u4 M) : wp_X12_payBy_118 S k7' K' (336) u1 u2 u3 u4 M := by
  refine m_A h (fun _ h => ?_)
  exact kk7 _ _ _ _ _ f h
theorem fq2_X12_payBy_7 {X G : Mm} {S : Sh} {K K' : Int → Mm → Prop} (hG : Inv X S G) (k : ∀ (a0 : Int) (m : Mm), fq2_F G m → K a0 m → K' a0 m) : ∀ (n : Nat) (u1 : Int) (u2 : Int) (u3 : Int) (u4 : Int) (M : Mm), fq2_F G M → wp_X12_payBy_7 S K n (336) u1 u2 u3 u4 M → wp_X12_payBy_7 S K' n (336) u1 u2 u3 u4 M := by
  intro n
  induction n with
  | zero => intro u1 u2 u3 u4 M f h; exact h
  | succ n ih =>
    intro u1 u2 u3 u4 M f h
    refine m_gr (fq2_c_336_20 hG f) h (fun h => ?_)
    refine m_C h (fun h => ?_)
    refine m_Ld h (fun _ h => ?_)
    refine m_if h (fun h => ?_) (fun h => ?_)
    · skip
      exact k _ _ f h
    · skip
      refine m_and h (fun h => ?_)
      refine fq2_X12_jugIn hG (fun _ _ f1 h => ?_) f h
      refine m_if h (fun h => ?_) (fun h => ?_)
      · skip
        refine m_gr (fq2_c_336_20 hG f1) h (fun h => ?_)
        refine m_C h (fun h => ?_)
        refine m_A h (fun _ h => ?_)
        refine m_Ld h (fun _ h => ?_)
        refine m_if h (fun h => ?_) (fun h => ?_)
        · skip
          refine m_C h (fun h => ?_)
          exact k _ _ f1 h
        · skip
          refine m_C h (fun h => ?_)
          refine m_and h (fun h => ?_)
          refine fq2_X12_jugOf hG (fun _ _ f2 h => ?_) f1 h
          refine m_C h (fun h => ?_)
          refine m_if h (fun h => ?_) (fun h => ?_)
          · skip
            refine m_C h (fun h => ?_)
            exact k _ _ f2 h
          · skip
            refine fq2_X12_isOf hG (fun _ _ f3 h => ?_) f2 h
            refine m_if h (fun h => ?_) (fun h => ?_)
            · skip
              refine m_C h (fun h => ?_)
              exact k _ _ f3 h
            · skip
              refine m_C h (fun h => ?_)
              refine m_and h (fun h => ?_)
              refine fq2_X12_jugOf hG (fun _ _ f4 h => ?_) f3 h
              refine m_C h (fun h => ?_)
              refine m_C h (fun h => ?_)
              refine m_and h (fun h => ?_)
              refine fq2_X12_wantOf hG (fun _ _ f5 h => ?_) f4 h
              refine m_C h (fun h => ?_)
              refine m_C h (fun h => ?_)
              refine m_and h (fun h => ?_)
              refine fq2_X12_wantOf hG (fun _ _ f6 h => ?_) f5 h
              refine m_C h (fun h => ?_)
              refine fq2_X12_in hG (fun _ _ f7 h => ?_) f6 h
              refine m_if h (fun h => ?_) (fun h => ?_)
              · skip
                refine m_C h (fun h => ?_)
                refine m_O h (fun _ h => ?_)
                refine m_O h (fun _ h => ?_)
                refine m_C h (fun h => ?_)
                refine m_and h (fun h => ?_)
                refine fq2_X12_wantOf hG (fun _ _ f8 h => ?_) f7 h
                refine m_A h (fun _ h => ?_)
                refine fq2_X12_payBy_118 hG (fun _ _ _ _ _ f9 h => ?_) k f8 h
                exact ih _ _ _ _ _ f9 h
              · skip
                refine m_C h (fun h => ?_)
                exact k _ _ f7 h
      · skip
        refine fq2_X12_payBy_118 hG (fun _ _ _ _ _ f10 h => ?_) k f1 h
        exact ih _ _ _ _ _ f10 h
theorem fq2_X12_payBy {X G : Mm} {S : Sh} {K K' : Int → Mm → Prop} {M : Mm} {u1 : Int} (hG : Inv X S G) (k : ∀ (a0 : Int) (m : Mm), fq2_F G m → K a0 m → K' a0 m) (f : fq2_F G M) (h : wp_X12_payBy S M (336) u1 K) : wp_X12_payBy S M (336) u1 K' := by
  refine m_C h (fun h => ?_)
  refine m_C h (fun h => ?_)
  refine m_C h (fun h => ?_)
  refine m_ex h (fun n9 h => ?_)
  refine fq2_X12_payBy_7 hG k _ _ _ _ _ _ f h
theorem fq2_X12_match_75 {X G : Mm} {S : Sh} {k29 k29' : Int → Int → Int → Int → Int → Mm → Prop} {K K' : Int → Mm → Prop} {M : Mm} {u1 : Int} {u2 : Int} {u3 : Int} {u4 : Int} (hG : Inv X S G) (kk29 : ∀ (a1 : Int) (a2 : Int) (a3 : Int) (a4 : Int) (m : Mm), fq2_F G m → k29 (336) a1 a2 a3 a4 m → k29' (336) a1 a2 a3 a4 m) (k : ∀ (a0 : Int) (m : Mm), fq2_F G m → K a0 m → K' a0 m) (f : fq2_F G M) (h : wp_X12_match_75 S k29 K (336) u1 u2 u3 u4 M) : wp_X12_match_75 S k29' K' (336) u1 u2 u3 u4 M := by
  refine m_A h (fun _ h => ?_)
  exact kk29 _ _ _ _ _ f h
theorem fq2_X12_match_29 {X G : Mm} {S : Sh} {K K' : Int → Mm → Prop} (hG : Inv X S G) (k : ∀ (a0 : Int) (m : Mm), fq2_F G m → K a0 m → K' a0 m) : ∀ (n : Nat) (u1 : Int) (u2 : Int) (u3 : Int) (u4 : Int) (M : Mm), fq2_F G M → wp_X12_match_29 S K n (336) u1 u2 u3 u4 M → wp_X12_match_29 S K' n (336) u1 u2 u3 u4 M := by
  intro n
  induction n with
  | zero => intro u1 u2 u3 u4 M f h; exact h
  | succ n ih =>
    intro u1 u2 u3 u4 M f h
    refine m_gr (fq2_c_336_20 hG f) h (fun h => ?_)
    refine m_C h (fun h => ?_)
    refine m_Ld h (fun _ h => ?_)
    refine m_C h (fun h => ?_)
    refine m_A h (fun _ h => ?_)
    refine m_gr (fq2_c_336_20 hG f) h (fun h => ?_)
    refine m_C h (fun h => ?_)
    refine m_Ld h (fun _ h => ?_)
    refine fq2_X12_power hG (fun _ _ f1 h => ?_) f h
    refine m_if h (fun h => ?_) (fun h => ?_)
    · skip
      refine m_if h (fun h => ?_) (fun h => ?_)
      · skip
        refine m_gr (fq2_c_336_20 hG f1) h (fun h => ?_)
        refine m_C h (fun h => ?_)
        refine m_Ld h (fun _ h => ?_)
        refine m_if h (fun h => ?_) (fun h => ?_)
        · skip
          refine m_C h (fun h => ?_)
          refine m_S h (fun _ h => ?_)
          refine m_and h (fun h => ?_)
          refine fq2_X12_jugIn hG (fun _ _ f2 h => ?_) f1 h
          exact k _ _ f2 h
        · skip
          refine m_C h (fun h => ?_)
          exact k _ _ f1 h
      · skip
        exact k _ _ f1 h
    · skip
      refine m_and h (fun h => ?_)
      refine fq2_X12_payBy hG (fun _ _ f3 h => ?_) f1 h
      refine m_if h (fun h => ?_) (fun h => ?_)
      · skip
        refine fq2_X12_match_75 hG (fun _ _ _ _ _ f4 h => ?_) k f3 h
        exact ih _ _ _ _ _ f4 h
      · skip
        refine fq2_X12_match_75 hG (fun _ _ _ _ _ f5 h => ?_) k f3 h
        exact ih _ _ _ _ _ f5 h
theorem fq2_X12_match {X G : Mm} {S : Sh} {K K' : Int → Mm → Prop} {M : Mm} {u1 : Int} (hG : Inv X S G) (k : ∀ (a0 : Int) (m : Mm), fq2_F G m → K a0 m → K' a0 m) (f : fq2_F G M) (h : wp_X12_match S M (336) u1 K) : wp_X12_match S M (336) u1 K' := by
  refine m_and h (fun h => ?_)
  refine fq2_X12_isDairy hG (fun _ _ f1 h => ?_) f h
  refine m_if h (fun h => ?_) (fun h => ?_)
  · skip
    refine m_C h (fun h => ?_)
    exact k _ _ f1 h
  · skip
    refine m_C h (fun h => ?_)
    refine m_C h (fun h => ?_)
    refine m_C h (fun h => ?_)
    refine fq2_X12_in hG (fun _ _ f2 h => ?_) f1 h
    refine m_if h (fun h => ?_) (fun h => ?_)
    · skip
      refine m_C h (fun h => ?_)
      refine m_C h (fun h => ?_)
      refine m_C h (fun h => ?_)
      refine m_ex h (fun n9 h => ?_)
      refine fq2_X12_match_29 hG k _ _ _ _ _ _ f2 h
    · skip
      refine m_C h (fun h => ?_)
      exact k _ _ f2 h
theorem fq2_X12_turnedResting_89 {X G : Mm} {S : Sh} {k14 k14' : Int → Int → Int → Int → Int → Int → Int → Mm → Prop} {K K' : Int → Mm → Prop} {M : Mm} {u1 : Int} {u2 : Int} {u3 : Int} {u4 : Int} {u5 : Int} {u6 : Int} (hG : Inv X S G) (kk14 : ∀ (a1 : Int) (a2 : Int) (a3 : Int) (a4 : Int) (a5 : Int) (a6 : Int) (m : Mm), fq2_F G m → k14 (336) a1 a2 a3 a4 a5 a6 m → k14' (336) a1 a2 a3 a4 a5 a6 m) (k : ∀ (a0 : Int) (m : Mm), fq2_F G m → K a0 m → K' a0 m) (f : fq2_F G M) (h : wp_X12_turnedResting_89 S k14 K (336) u1 u2 u3 u4 u5 u6 M) : wp_X12_turnedResting_89 S k14' K' (336) u1 u2 u3 u4 u5 u6 M := by
  refine m_A h (fun _ h => ?_)
  exact kk14 _ _ _ _ _ _ _ f h
theorem fq2_X12_turnedResting_86 {X G : Mm} {S : Sh} {k14 k14' : Int → Int → Int → Int → Int → Int → Int → Mm → Prop} {K K' : Int → Mm → Prop} {M : Mm} {u1 : Int} {u2 : Int} {u3 : Int} {u4 : Int} {u6 : Int} {t0 : Int} {t1 : Int} (hG : Inv X S G) (kk14 : ∀ (a1 : Int) (a2 : Int) (a3 : Int) (a4 : Int) (a5 : Int) (a6 : Int) (m : Mm), fq2_F G m → k14 (336) a1 a2 a3 a4 a5 a6 m → k14' (336) a1 a2 a3 a4 a5 a6 m) (k : ∀ (a0 : Int) (m : Mm), fq2_F G m → K a0 m → K' a0 m) (f : fq2_F G M) (h : wp_X12_turnedResting_86 S k14 K (336) u1 u2 u3 u4 u6 t0 t1 M) : wp_X12_turnedResting_86 S k14' K' (336) u1 u2 u3 u4 u6 t0 t1 M := by
  refine m_S h (fun _ h => ?_)
  refine fq2_X12_turnedResting_89 hG kk14 k f h
theorem fq2_X12_turnedResting_14 {X G : Mm} {S : Sh} {K K' : Int → Mm → Prop} (hG : Inv X S G) (k : ∀ (a0 : Int) (m : Mm), fq2_F G m → K a0 m → K' a0 m) : ∀ (n : Nat) (u1 : Int) (u2 : Int) (u3 : Int) (u4 : Int) (u5 : Int) (u6 : Int) (M : Mm), fq2_F G M → wp_X12_turnedResting_14 S K n (336) u1 u2 u3 u4 u5 u6 M → wp_X12_turnedResting_14 S K' n (336) u1 u2 u3 u4 u5 u6 M := by
  intro n
  induction n with
  | zero => intro u1 u2 u3 u4 u5 u6 M f h; exact h
  | succ n ih =>
    intro u1 u2 u3 u4 u5 u6 M f h
    refine m_if h (fun h => ?_) (fun h => ?_)
    · skip
      exact k _ _ f h
    · skip
      refine fq2_X12_isOf hG (fun _ _ f1 h => ?_) f h
      refine m_if h (fun h => ?_) (fun h => ?_)
      · skip
        refine m_if h (fun h => ?_) (fun h => ?_)
        · skip
          refine m_C h (fun h => ?_)
          refine fq2_X12_turnedResting_86 hG (fun _ _ _ _ _ _ _ f2 h => ?_) k f1 h
          exact ih _ _ _ _ _ _ _ f2 h
        · skip
          refine m_C h (fun h => ?_)
          refine fq2_X12_turnedResting_86 hG (fun _ _ _ _ _ _ _ f3 h => ?_) k f1 h
          exact ih _ _ _ _ _ _ _ f3 h
      · skip
        refine m_C h (fun h => ?_)
        refine m_gr (fq2_c_336_20 hG f1) h (fun h => ?_)
        refine m_C h (fun h => ?_)
        refine m_Ld h (fun _ h => ?_)
        refine m_A h (fun _ h => ?_)
        refine m_C h (fun h => ?_)
        refine m_C h (fun h => ?_)
        refine m_and h (fun h => ?_)
        refine fq2_X12_turnsIn hG (fun _ _ f4 h => ?_) f1 h
        refine m_A h (fun _ h => ?_)
        refine m_C h (fun h => ?_)
        refine fq2_X12_atMost hG (fun _ _ f5 h => ?_) f4 h
        refine m_and h (fun h => ?_)
        refine fq2_X12_moreTired hG (fun _ _ f6 h => ?_) f5 h
        refine fq2_X12_turnedResting_89 hG (fun _ _ _ _ _ _ _ f7 h => ?_) k f6 h
        exact ih _ _ _ _ _ _ _ f7 h
theorem fq2_X12_turnedResting {X G : Mm} {S : Sh} {K K' : Int → Mm → Prop} {M : Mm} {u1 : Int} {u2 : Int} {u3 : Int} (hG : Inv X S G) (k : ∀ (a0 : Int) (m : Mm), fq2_F G m → K a0 m → K' a0 m) (f : fq2_F G M) (h : wp_X12_turnedResting S M (336) u1 u2 u3 K) : wp_X12_turnedResting S M (336) u1 u2 u3 K' := by
  refine m_C h (fun h => ?_)
  refine m_C h (fun h => ?_)
  refine m_and h (fun h => ?_)
  refine fq2_X12_handOf hG (fun _ _ f1 h => ?_) f h
  refine m_C h (fun h => ?_)
  refine m_ex h (fun n9 h => ?_)
  refine fq2_X12_turnedResting_14 hG k _ _ _ _ _ _ _ _ f1 h
theorem fq2_X12_rest_106 {X G : Mm} {S : Sh} {k53 k53' : Int → Int → Int → Int → Int → Int → Int → Int → Mm → Prop} {K K' : Int → Mm → Prop} {M : Mm} {u1 : Int} {u2 : Int} {u3 : Int} {u4 : Int} {u5 : Int} {u6 : Int} {u7 : Int} (hG : Inv X S G) (kk53 : ∀ (a1 : Int) (a2 : Int) (a3 : Int) (a4 : Int) (a5 : Int) (a6 : Int) (a7 : Int) (m : Mm), fq2_F G m → k53 (336) a1 a2 a3 a4 a5 a6 a7 m → k53' (336) a1 a2 a3 a4 a5 a6 a7 m) (k : ∀ (a0 : Int) (m : Mm), fq2_F G m → K a0 m → K' a0 m) (f : fq2_F G M) (h : wp_X12_rest_106 S k53 K (336) u1 u2 u3 u4 u5 u6 u7 M) : wp_X12_rest_106 S k53' K' (336) u1 u2 u3 u4 u5 u6 u7 M := by
  refine m_A h (fun _ h => ?_)
  exact kk53 _ _ _ _ _ _ _ _ f h
theorem fq2_X12_rest_98 {X G : Mm} {S : Sh} {k53 k53' : Int → Int → Int → Int → Int → Int → Int → Int → Mm → Prop} {K K' : Int → Mm → Prop} {M : Mm} {u1 : Int} {u2 : Int} {u3 : Int} {u4 : Int} {u7 : Int} {u8 : Int} (hG : Inv X S G) (kk53 : ∀ (a1 : Int) (a2 : Int) (a3 : Int) (a4 : Int) (a5 : Int) (a6 : Int) (a7 : Int) (m : Mm), fq2_F G m → k53 (336) a1 a2 a3 a4 a5 a6 a7 m → k53' (336) a1 a2 a3 a4 a5 a6 a7 m) (k : ∀ (a0 : Int) (m : Mm), fq2_F G m → K a0 m → K' a0 m) (f : fq2_F G M) (h : wp_X12_rest_98 S k53 K (336) u1 u2 u3 u4 u7 u8 M) : wp_X12_rest_98 S k53' K' (336) u1 u2 u3 u4 u7 u8 M := by
  refine fq2_X12_rest_106 hG kk53 k f h
theorem fq2_X12_rest_53 {X G : Mm} {S : Sh} {K K' : Int → Mm → Prop} (hG : Inv X S G) (k : ∀ (a0 : Int) (m : Mm), fq2_F G m → K a0 m → K' a0 m) : ∀ (n : Nat) (u1 : Int) (u2 : Int) (u3 : Int) (u4 : Int) (u5 : Int) (u6 : Int) (u7 : Int) (M : Mm), fq2_F G M → wp_X12_rest_53 S K n (336) u1 u2 u3 u4 u5 u6 u7 M → wp_X12_rest_53 S K' n (336) u1 u2 u3 u4 u5 u6 u7 M := by
  intro n
  induction n with
  | zero => intro u1 u2 u3 u4 u5 u6 u7 M f h; exact h
  | succ n ih =>
    intro u1 u2 u3 u4 u5 u6 u7 M f h
    refine m_C h (fun h => ?_)
    refine m_O h (fun _ h => ?_)
    refine m_if h (fun h => ?_) (fun h => ?_)
    · skip
      refine m_if h (fun h => ?_) (fun h => ?_)
      · skip
        exact k _ _ f h
      · skip
        exact k _ _ f h
    · skip
      refine fq2_X12_bits hG (fun _ _ f1 h => ?_) f h
      refine m_if h (fun h => ?_) (fun h => ?_)
      · skip
        refine m_and h (fun h => ?_)
        refine fq2_X12_turnedResting hG (fun _ _ f2 h => ?_) f1 h
        refine m_if h (fun h => ?_) (fun h => ?_)
        · skip
          refine fq2_X12_rest_98 hG (fun _ _ _ _ _ _ _ _ f3 h => ?_) k f2 h
          exact ih _ _ _ _ _ _ _ _ f3 h
        · skip
          refine m_if h (fun h => ?_) (fun h => ?_)
          · skip
            refine fq2_X12_rest_98 hG (fun _ _ _ _ _ _ _ _ f4 h => ?_) k f2 h
            exact ih _ _ _ _ _ _ _ _ f4 h
          · skip
            refine fq2_X12_rest_106 hG (fun _ _ _ _ _ _ _ _ f5 h => ?_) k f2 h
            exact ih _ _ _ _ _ _ _ _ f5 h
      · skip
        refine fq2_X12_rest_106 hG (fun _ _ _ _ _ _ _ _ f6 h => ?_) k f1 h
        exact ih _ _ _ _ _ _ _ _ f6 h
theorem fq2_X12_rest {X G : Mm} {S : Sh} {K K' : Int → Mm → Prop} {M : Mm} {u1 : Int} {u2 : Int} {u3 : Int} {u4 : Int} (hG : Inv X S G) (k : ∀ (a0 : Int) (m : Mm), fq2_F G m → K a0 m → K' a0 m) (f : fq2_F G M) (h : wp_X12_rest S M (336) u1 u2 u3 u4 K) : wp_X12_rest S M (336) u1 u2 u3 u4 K' := by
  refine m_and h (fun h => ?_)
  refine fq2_X12_isHand hG (fun _ _ f1 h => ?_) f h
  refine m_if h (fun h => ?_) (fun h => ?_)
  · skip
    refine m_C h (fun h => ?_)
    exact k _ _ f1 h
  · skip
    refine m_C h (fun h => ?_)
    refine m_C h (fun h => ?_)
    refine m_C h (fun h => ?_)
    refine fq2_X12_in hG (fun _ _ f2 h => ?_) f1 h
    refine m_if h (fun h => ?_) (fun h => ?_)
    · skip
      refine m_C h (fun h => ?_)
      exact k _ _ f2 h
    · skip
      refine m_C h (fun h => ?_)
      refine m_C h (fun h => ?_)
      refine m_C h (fun h => ?_)
      refine fq2_X12_in hG (fun _ _ f3 h => ?_) f2 h
      refine m_if h (fun h => ?_) (fun h => ?_)
      · skip
        refine m_C h (fun h => ?_)
        exact k _ _ f3 h
      · skip
        refine m_C h (fun h => ?_)
        refine m_C h (fun h => ?_)
        refine m_C h (fun h => ?_)
        refine fq2_X12_in hG (fun _ _ f4 h => ?_) f3 h
        refine m_if h (fun h => ?_) (fun h => ?_)
        · skip
          refine m_C h (fun h => ?_)
          refine m_C h (fun h => ?_)
          refine m_C h (fun h => ?_)
          refine m_ex h (fun n9 h => ?_)
          refine fq2_X12_rest_53 hG k _ _ _ _ _ _ _ _ _ f4 h
        · skip
          refine m_C h (fun h => ?_)
          exact k _ _ f4 h
theorem fq2_X12_fitsTests_2 {X G : Mm} {S : Sh} {K K' : Int → Mm → Prop} (hG : Inv X S G) (k : ∀ (a0 : Int) (m : Mm), fq2_F G m → K a0 m → K' a0 m) : ∀ (n : Nat) (u1 : Int) (u2 : Int) (M : Mm), fq2_F G M → wp_X12_fitsTests_2 S K n (336) u1 u2 M → wp_X12_fitsTests_2 S K' n (336) u1 u2 M := by
  intro n
  induction n with
  | zero => intro u1 u2 M f h; exact h
  | succ n ih =>
    intro u1 u2 M f h
    refine m_gr (fq2_c_336_20 hG f) h (fun h => ?_)
    refine m_C h (fun h => ?_)
    refine m_Ld h (fun _ h => ?_)
    refine m_if h (fun h => ?_) (fun h => ?_)
    · skip
      refine m_C h (fun h => ?_)
      refine m_and h (fun h => ?_)
      exact k _ _ f h
    · skip
      refine m_C h (fun h => ?_)
      refine m_C h (fun h => ?_)
      refine m_M h (fun _ h => ?_)
      refine m_A h (fun _ h => ?_)
      refine m_C h (fun h => ?_)
      refine m_gr (fq2_c_336_20 hG f) h (fun h => ?_)
      refine m_Ld h (fun _ h => ?_)
      refine m_gr (fq2_c_336_20 hG f) h (fun h => ?_)
      refine m_C h (fun h => ?_)
      refine m_A h (fun _ h => ?_)
      refine m_Ld h (fun _ h => ?_)
      refine m_gr (fq2_c_336_20 hG f) h (fun h => ?_)
      refine m_C h (fun h => ?_)
      refine m_A h (fun _ h => ?_)
      refine m_Ld h (fun _ h => ?_)
      refine m_C h (fun h => ?_)
      refine m_and h (fun h => ?_)
      refine fq2_X12_turnedBy hG (fun _ _ f1 h => ?_) f h
      refine m_gr (fq2_c_336_20 hG f1) h (fun h => ?_)
      refine m_C h (fun h => ?_)
      refine m_A h (fun _ h => ?_)
      refine m_Ld h (fun _ h => ?_)
      refine m_if h (fun h => ?_) (fun h => ?_)
      · skip
        refine m_A h (fun _ h => ?_)
        exact ih _ _ _ f1 h
      · skip
        refine m_C h (fun h => ?_)
        refine m_and h (fun h => ?_)
        exact k _ _ f1 h
theorem fq2_X12_fitsTests {X G : Mm} {S : Sh} {K K' : Int → Mm → Prop} {M : Mm} {u1 : Int} (hG : Inv X S G) (k : ∀ (a0 : Int) (m : Mm), fq2_F G m → K a0 m → K' a0 m) (f : fq2_F G M) (h : wp_X12_fitsTests S M (336) u1 K) : wp_X12_fitsTests S M (336) u1 K' := by
  refine m_C h (fun h => ?_)
  refine m_ex h (fun n9 h => ?_)
  refine fq2_X12_fitsTests_2 hG k _ _ _ _ f h
theorem fq2_X12_fitting_30 {X G : Mm} {S : Sh} {k4 k4' : Int → Int → Int → Mm → Prop} {K K' : Int → Mm → Prop} {M : Mm} {u2 : Int} {t0 : Int} {t1 : Int} (hG : Inv X S G) (kk4 : ∀ (a1 : Int) (a2 : Int) (m : Mm), fq2_F G m → k4 (336) a1 a2 m → k4' (336) a1 a2 m) (k : ∀ (a0 : Int) (m : Mm), fq2_F G m → K a0 m → K' a0 m) (f : fq2_F G M) (h : wp_X12_fitting_30 S k4 K (336) u2 t0 t1 M) : wp_X12_fitting_30 S k4' K' (336) u2 t0 t1 M := by
  refine m_O h (fun _ h => ?_)
  refine m_A h (fun _ h => ?_)
  exact kk4 _ _ _ f h
theorem fq2_X12_fitting_4 {X G : Mm} {S : Sh} {K K' : Int → Mm → Prop} (hG : Inv X S G) (k : ∀ (a0 : Int) (m : Mm), fq2_F G m → K a0 m → K' a0 m) : ∀ (n : Nat) (u1 : Int) (u2 : Int) (M : Mm), fq2_F G M → wp_X12_fitting_4 S K n (336) u1 u2 M → wp_X12_fitting_4 S K' n (336) u1 u2 M := by
  intro n
  induction n with
  | zero => intro u1 u2 M f h; exact h
  | succ n ih =>
    intro u1 u2 M f h
    refine m_gr (fq2_c_336_20 hG f) h (fun h => ?_)
    refine m_C h (fun h => ?_)
    refine m_Ld h (fun _ h => ?_)
    refine m_if h (fun h => ?_) (fun h => ?_)
    · skip
      exact k _ _ f h
    · skip
      refine m_and h (fun h => ?_)
      refine fq2_X12_fitsTests hG (fun _ _ f1 h => ?_) f h
      refine m_if h (fun h => ?_) (fun h => ?_)
      · skip
        refine m_C h (fun h => ?_)
        refine fq2_X12_fitting_30 hG (fun _ _ _ f2 h => ?_) k f1 h
        exact ih _ _ _ f2 h
      · skip
        refine m_C h (fun h => ?_)
        refine m_O h (fun _ h => ?_)
        refine fq2_X12_fitting_30 hG (fun _ _ _ f3 h => ?_) k f1 h
        exact ih _ _ _ f3 h
theorem fq2_X12_fitting {X G : Mm} {S : Sh} {K K' : Int → Mm → Prop} {M : Mm} (hG : Inv X S G) (k : ∀ (a0 : Int) (m : Mm), fq2_F G m → K a0 m → K' a0 m) (f : fq2_F G M) (h : wp_X12_fitting S M (336) K) : wp_X12_fitting S M (336) K' := by
  refine m_C h (fun h => ?_)
  refine m_C h (fun h => ?_)
  refine m_ex h (fun n9 h => ?_)
  refine fq2_X12_fitting_4 hG k _ _ _ _ f h
theorem fq2_X12_who_46 {X G : Mm} {S : Sh} {K K' : Int → Mm → Prop} (hG : Inv X S G) (k : ∀ (a0 : Int) (m : Mm), fq2_F G m → K a0 m → K' a0 m) : ∀ (n : Nat) (u2 : Int) (u3 : Int) (M : Mm), fq2_F G M → wp_X12_who_46 S K n (336) u2 u3 M → wp_X12_who_46 S K' n (336) u2 u3 M := by
  intro n
  induction n with
  | zero => intro u2 u3 M f h; exact h
  | succ n ih =>
    intro u2 u3 M f h
    refine m_gr (fq2_c_336_20 hG f) h (fun h => ?_)
    refine m_C h (fun h => ?_)
    refine m_Ld h (fun _ h => ?_)
    refine m_if h (fun h => ?_) (fun h => ?_)
    · skip
      refine m_C h (fun h => ?_)
      exact k _ _ f h
    · skip
      refine fq2_X12_isOf hG (fun _ _ f1 h => ?_) f h
      refine m_if h (fun h => ?_) (fun h => ?_)
      · skip
        refine m_A h (fun _ h => ?_)
        exact ih _ _ _ f1 h
      · skip
        exact k _ _ f1 h
theorem fq2_X12_who {X G : Mm} {S : Sh} {K K' : Int → Mm → Prop} {M : Mm} {u1 : Int} (hG : Inv X S G) (k : ∀ (a0 : Int) (m : Mm), fq2_F G m → K a0 m → K' a0 m) (f : fq2_F G M) (h : wp_X12_who S M (336) u1 K) : wp_X12_who S M (336) u1 K' := by
  refine m_and h (fun h => ?_)
  refine fq2_X12_isDairy hG (fun _ _ f1 h => ?_) f h
  refine m_if h (fun h => ?_) (fun h => ?_)
  · skip
    refine m_C h (fun h => ?_)
    exact k _ _ f1 h
  · skip
    refine m_C h (fun h => ?_)
    refine m_C h (fun h => ?_)
    refine m_C h (fun h => ?_)
    refine fq2_X12_in hG (fun _ _ f2 h => ?_) f1 h
    refine m_if h (fun h => ?_) (fun h => ?_)
    · skip
      refine m_and h (fun h => ?_)
      refine fq2_X12_fitting hG (fun _ _ f3 h => ?_) f2 h
      refine m_C h (fun h => ?_)
      refine m_if h (fun h => ?_) (fun h => ?_)
      · skip
        refine m_C h (fun h => ?_)
        refine m_ex h (fun n9 h => ?_)
        refine fq2_X12_who_46 hG k _ _ _ _ f3 h
      · skip
        refine m_if h (fun h => ?_) (fun h => ?_)
        · skip
          exact k _ _ f3 h
        · skip
          refine fq2_X12_bits hG (fun _ _ f4 h => ?_) f3 h
          exact k _ _ f4 h
    · skip
      refine m_C h (fun h => ?_)
      exact k _ _ f2 h
theorem fq2_X12_alikeBy_140 {X G : Mm} {S : Sh} {k57 k57' : Int → Int → Int → Mm → Prop} {K K' : Int → Mm → Prop} {M : Mm} {u4 : Int} {t0 : Int} (hG : Inv X S G) (kk57 : ∀ (a1 : Int) (a2 : Int) (m : Mm), fq2_F G m → k57 (336) a1 a2 m → k57' (336) a1 a2 m) (k : ∀ (a0 : Int) (m : Mm), fq2_F G m → K a0 m → K' a0 m) (f : fq2_F G M) (h : wp_X12_alikeBy_140 S k57 K (336) u4 t0 M) : wp_X12_alikeBy_140 S k57' K' (336) u4 t0 M := by
  refine m_A h (fun _ h => ?_)
  exact kk57 _ _ _ f h
theorem fq2_X12_alikeBy_119 {X G : Mm} {S : Sh} {k57 k57' : Int → Int → Int → Mm → Prop} {k74 k74' : Int → Int → Int → Int → Int → Mm → Prop} {K K' : Int → Mm → Prop} {M : Mm} {u3 : Int} {u4 : Int} {u6 : Int} {t0 : Int} {t1 : Int} (hG : Inv X S G) (kk57 : ∀ (a2 : Int) (m : Mm), fq2_F G m → k57 (336) (0) a2 m → k57' (336) (0) a2 m) (kk74 : ∀ (a1 : Int) (a2 : Int) (a3 : Int) (a4 : Int) (m : Mm), fq2_F G m → k74 (336) a1 a2 a3 a4 m → k74' (336) a1 a2 a3 a4 m) (k : ∀ (a0 : Int) (m : Mm), fq2_F G m → K a0 m → K' a0 m) (f : fq2_F G M) (h : wp_X12_alikeBy_119 S k57 k74 K (336) u3 u4 u6 t0 t1 M) : wp_X12_alikeBy_119 S k57' k74' K' (336) u3 u4 u6 t0 t1 M := by
  refine m_A h (fun _ h => ?_)
  refine m_A h (fun _ h => ?_)
  exact kk74 _ _ _ _ _ f h
theorem fq2_X12_alikeBy_118 {X G : Mm} {S : Sh} {k57 k57' : Int → Int → Int → Mm → Prop} {k74 k74' : Int → Int → Int → Int → Int → Mm → Prop} {K K' : Int → Mm → Prop} {M : Mm} {u3 : Int} {u4 : Int} {u6 : Int} {t0 : Int} (hG : Inv X S G) (kk57 : ∀ (a2 : Int) (m : Mm), fq2_F G m → k57 (336) (0) a2 m → k57' (336) (0) a2 m) (kk74 : ∀ (a1 : Int) (a2 : Int) (a3 : Int) (a4 : Int) (m : Mm), fq2_F G m → k74 (336) a1 a2 a3 a4 m → k74' (336) a1 a2 a3 a4 m) (k : ∀ (a0 : Int) (m : Mm), fq2_F G m → K a0 m → K' a0 m) (f : fq2_F G M) (h : wp_X12_alikeBy_118 S k57 k74 K (336) u3 u4 u6 t0 M) : wp_X12_alikeBy_118 S k57' k74' K' (336) u3 u4 u6 t0 M := by
  refine m_C h (fun h => ?_)
  refine fq2_X12_alikeBy_119 hG kk57 kk74 k f h
theorem fq2_X12_alikeBy_74 {X G : Mm} {S : Sh} {k57 k57' : Int → Int → Int → Mm → Prop} {K K' : Int → Mm → Prop} (hG : Inv X S G) (kk57 : ∀ (a1 : Int) (a2 : Int) (m : Mm), fq2_F G m → k57 (336) a1 a2 m → k57' (336) a1 a2 m) (k : ∀ (a0 : Int) (m : Mm), fq2_F G m → K a0 m → K' a0 m) : ∀ (n : Nat) (u3 : Int) (u4 : Int) (u5 : Int) (u6 : Int) (M : Mm), fq2_F G M → wp_X12_alikeBy_74 S k57 K n (336) u3 u4 u5 u6 M → wp_X12_alikeBy_74 S k57' K' n (336) u3 u4 u5 u6 M := by
  intro n
  induction n with
  | zero => intro u3 u4 u5 u6 M f h; exact h
  | succ n ih =>
    intro u3 u4 u5 u6 M f h
    refine m_gr (fq2_c_336_20 hG f) h (fun h => ?_)
    refine m_C h (fun h => ?_)
    refine m_Ld h (fun _ h => ?_)
    refine m_if h (fun h => ?_) (fun h => ?_)
    · skip
      refine m_if h (fun h => ?_) (fun h => ?_)
      · skip
        refine fq2_X12_alikeBy_140 hG kk57 k f h
      · skip
        refine fq2_X12_alikeBy_140 hG kk57 k f h
    · skip
      refine m_gr (fq2_c_336_30 hG f) h (fun h => ?_)
      refine m_Ld h (fun _ h => ?_)
      refine m_if h (fun h => ?_) (fun h => ?_)
      · skip
        refine fq2_X12_alikeBy_118 hG (fun b2 m f h => kk57 (0) b2 m f h) (fun _ _ _ _ _ f1 h => ?_) k f h
        exact ih _ _ _ _ _ f1 h
      · skip
        refine m_gr (fq2_c_336_30 hG f) h (fun h => ?_)
        refine m_Ld h (fun _ h => ?_)
        refine m_gr (fq2_c_336_30 hG f) h (fun h => ?_)
        refine m_Ld h (fun _ h => ?_)
        refine m_if h (fun h => ?_) (fun h => ?_)
        · skip
          refine fq2_X12_alikeBy_118 hG (fun b2 m f h => kk57 (0) b2 m f h) (fun _ _ _ _ _ f2 h => ?_) k f h
          exact ih _ _ _ _ _ f2 h
        · skip
          refine m_C h (fun h => ?_)
          refine fq2_X12_alikeBy_119 hG (fun b2 m f h => kk57 (0) b2 m f h) (fun _ _ _ _ _ f3 h => ?_) k f h
          exact ih _ _ _ _ _ f3 h
theorem fq2_X12_alikeBy_57 {X G : Mm} {S : Sh} {K K' : Int → Mm → Prop} (hG : Inv X S G) (k : ∀ (a0 : Int) (m : Mm), fq2_F G m → K a0 m → K' a0 m) : ∀ (n : Nat) (u3 : Int) (u4 : Int) (M : Mm), fq2_F G M → wp_X12_alikeBy_57 S K n (336) u3 u4 M → wp_X12_alikeBy_57 S K' n (336) u3 u4 M := by
  intro n
  induction n with
  | zero => intro u3 u4 M f h; exact h
  | succ n ih =>
    intro u3 u4 M f h
    refine m_gr (fq2_c_336_20 hG f) h (fun h => ?_)
    refine m_C h (fun h => ?_)
    refine m_Ld h (fun _ h => ?_)
    refine m_if h (fun h => ?_) (fun h => ?_)
    · skip
      exact k _ _ f h
    · skip
      refine m_C h (fun h => ?_)
      refine m_C h (fun h => ?_)
      refine m_ex h (fun n9 h => ?_)
      refine fq2_X12_alikeBy_74 hG (fun _ _ _ f1 h => ?_) k _ _ _ _ _ _ f h
      exact ih _ _ _ f1 h
theorem fq2_X12_alikeBy_45 {X G : Mm} {S : Sh} {k2 k2' : Int → Int → Int → Int → Mm → Prop} {K K' : Int → Mm → Prop} {M : Mm} {u1 : Int} {u2 : Int} {u3 : Int} {t1 : Int} {t2 : Int} (hG : Inv X S G) (kk2 : ∀ (a1 : Int) (a2 : Int) (a3 : Int) (m : Mm), fq2_F G m → k2 (336) a1 a2 a3 m → k2' (336) a1 a2 a3 m) (k : ∀ (a0 : Int) (m : Mm), fq2_F G m → K a0 m → K' a0 m) (f : fq2_F G M) (h : wp_X12_alikeBy_45 S k2 K (336) u1 u2 u3 (351) t1 t2 M) : wp_X12_alikeBy_45 S k2' K' (336) u1 u2 u3 (351) t1 t2 M := by
  refine m_St (fq2_up (fq2_a_351 _) f) h (fun _ f1 h => ?_)
  refine m_A h (fun _ h => ?_)
  exact kk2 _ _ _ _ f1 h
theorem fq2_X12_alikeBy_2 {X G : Mm} {S : Sh} {K K' : Int → Mm → Prop} (hG : Inv X S G) (k : ∀ (a0 : Int) (m : Mm), fq2_F G m → K a0 m → K' a0 m) : ∀ (n : Nat) (u1 : Int) (u2 : Int) (u3 : Int) (M : Mm), fq2_F G M → wp_X12_alikeBy_2 S K n (336) u1 u2 u3 M → wp_X12_alikeBy_2 S K' n (336) u1 u2 u3 M := by
  intro n
  induction n with
  | zero => intro u1 u2 u3 M f h; exact h
  | succ n ih =>
    intro u1 u2 u3 M f h
    refine m_gr (fq2_c_336_20 hG f) h (fun h => ?_)
    refine m_C h (fun h => ?_)
    refine m_Ld h (fun _ h => ?_)
    refine m_if h (fun h => ?_) (fun h => ?_)
    · skip
      refine m_C h (fun h => ?_)
      refine m_C h (fun h => ?_)
      refine m_ex h (fun n9 h => ?_)
      refine fq2_X12_alikeBy_57 hG k _ _ _ _ f h
    · skip
      refine m_gr (fq2_c_336_30 hG f) h (fun h => ?_)
      refine fq2_X12_isOf hG (fun _ _ f1 h => ?_) f h
      refine m_if h (fun h => ?_) (fun h => ?_)
      · skip
        refine m_C h (fun h => ?_)
        refine fq2_X12_alikeBy_45 hG (fun _ _ _ _ f2 h => ?_) k f1 h
        exact ih _ _ _ _ f2 h
      · skip
        refine m_C h (fun h => ?_)
        refine m_C h (fun h => ?_)
        refine m_gr (fq2_c_336_20 hG f1) h (fun h => ?_)
        refine m_C h (fun h => ?_)
        refine m_Ld h (fun _ h => ?_)
        refine m_C h (fun h => ?_)
        refine m_and h (fun h => ?_)
        refine fq2_X12_turnedBy hG (fun _ _ f3 h => ?_) f1 h
        refine fq2_X12_alikeBy_45 hG (fun _ _ _ _ f4 h => ?_) k f3 h
        exact ih _ _ _ _ f4 h
theorem fq2_X12_alikeBy {X G : Mm} {S : Sh} {K K' : Int → Mm → Prop} {M : Mm} {u1 : Int} {u2 : Int} (hG : Inv X S G) (k : ∀ (a0 : Int) (m : Mm), fq2_F G m → K a0 m → K' a0 m) (f : fq2_F G M) (h : wp_X12_alikeBy S M (336) u1 u2 K) : wp_X12_alikeBy S M (336) u1 u2 K' := by
  refine m_C h (fun h => ?_)
  refine m_ex h (fun n9 h => ?_)
  refine fq2_X12_alikeBy_2 hG k _ _ _ _ _ f h
theorem fq2_X12_probe_62 {X G : Mm} {S : Sh} {k36 k36' : Int → Int → Int → Int → Int → Mm → Prop} {K K' : Int → Mm → Prop} {M : Mm} {u1 : Int} {u2 : Int} {u3 : Int} {u4 : Int} (hG : Inv X S G) (kk36 : ∀ (a1 : Int) (a2 : Int) (a3 : Int) (a4 : Int) (m : Mm), fq2_F G m → k36 (336) a1 a2 a3 a4 m → k36' (336) a1 a2 a3 a4 m) (k : ∀ (a0 : Int) (m : Mm), fq2_F G m → K a0 m → K' a0 m) (f : fq2_F G M) (h : wp_X12_probe_62 S k36 K (336) u1 u2 u3 u4 M) : wp_X12_probe_62 S k36' K' (336) u1 u2 u3 u4 M := by
  refine m_A h (fun _ h => ?_)
  exact kk36 _ _ _ _ _ f h
theorem fq2_X12_probe_36 {X G : Mm} {S : Sh} {K K' : Int → Mm → Prop} (hG : Inv X S G) (k : ∀ (a0 : Int) (m : Mm), fq2_F G m → K a0 m → K' a0 m) : ∀ (n : Nat) (u1 : Int) (u2 : Int) (u3 : Int) (u4 : Int) (M : Mm), fq2_F G M → wp_X12_probe_36 S K n (336) u1 u2 u3 u4 M → wp_X12_probe_36 S K' n (336) u1 u2 u3 u4 M := by
  intro n
  induction n with
  | zero => intro u1 u2 u3 u4 M f h; exact h
  | succ n ih =>
    intro u1 u2 u3 u4 M f h
    refine m_C h (fun h => ?_)
    refine m_if h (fun h => ?_) (fun h => ?_)
    · skip
      refine m_if h (fun h => ?_) (fun h => ?_)
      · skip
        refine m_and h (fun h => ?_)
        refine fq2_X12_alikeBy hG (fun _ _ f1 h => ?_) f h
        exact k _ _ f1 h
      · skip
        exact k _ _ f h
    · skip
      refine m_and h (fun h => ?_)
      refine fq2_X12_alikeBy hG (fun _ _ f2 h => ?_) f h
      refine m_and h (fun h => ?_)
      refine fq2_X12_alikeBy hG (fun _ _ f3 h => ?_) f2 h
      refine m_if h (fun h => ?_) (fun h => ?_)
      · skip
        refine fq2_X12_probe_62 hG (fun _ _ _ _ _ f4 h => ?_) k f3 h
        exact ih _ _ _ _ _ f4 h
      · skip
        refine fq2_X12_probe_62 hG (fun _ _ _ _ _ f5 h => ?_) k f3 h
        exact ih _ _ _ _ _ f5 h
theorem fq2_X12_probe {X G : Mm} {S : Sh} {K K' : Int → Mm → Prop} {M : Mm} {u1 : Int} (hG : Inv X S G) (k : ∀ (a0 : Int) (m : Mm), fq2_F G m → K a0 m → K' a0 m) (f : fq2_F G M) (h : wp_X12_probe S M (336) u1 K) : wp_X12_probe S M (336) u1 K' := by
  refine m_and h (fun h => ?_)
  refine fq2_X12_isDairy hG (fun _ _ f1 h => ?_) f h
  refine m_if h (fun h => ?_) (fun h => ?_)
  · skip
    refine m_C h (fun h => ?_)
    exact k _ _ f1 h
  · skip
    refine m_C h (fun h => ?_)
    refine m_C h (fun h => ?_)
    refine m_C h (fun h => ?_)
    refine fq2_X12_in hG (fun _ _ f2 h => ?_) f1 h
    refine m_if h (fun h => ?_) (fun h => ?_)
    · skip
      refine m_and h (fun h => ?_)
      refine fq2_X12_fitting hG (fun _ _ f3 h => ?_) f2 h
      refine m_if h (fun h => ?_) (fun h => ?_)
      · skip
        refine m_C h (fun h => ?_)
        refine m_C h (fun h => ?_)
        refine m_ex h (fun n9 h => ?_)
        refine fq2_X12_probe_36 hG k _ _ _ _ _ _ f3 h
      · skip
        refine m_C h (fun h => ?_)
        exact k _ _ f3 h
    · skip
      refine m_C h (fun h => ?_)
      exact k _ _ f2 h
