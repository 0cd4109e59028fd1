section
theorem fq1_X11_isStandingJug {X G : Mm} {S : Sh} {K K' : Int → Mm → Prop} {M : Mm} {u1 : Int} (hG : Inv X S G) (k : ∀ (a0 : Int) (m : Mm), fq1_F G m → K a0 m → K' a0 m) (f : fq1_F G M) (h : wp_X11_isStandingJug S M (0) u1 K) : wp_X11_isStandingJug S M (0) u1 K' := by
  refine m_and h (fun h => ?_)
  refine fq1_X11_isJug hG (fun _ _ f1 h => ?_) f h
  refine m_if h (fun h => ?_) (fun h => ?_)
  · skip
    refine m_C h (fun h => ?_)
    refine m_and h (fun h => ?_)
    exact k _ _ f1 h
  · skip
    refine m_gr (fq1_c_0_1 hG f1) h (fun h => ?_)
    refine m_gr (fq1_c_3_1 hG f1) h (fun h => ?_)
    refine m_and h (fun h => ?_)
    refine fq1_X5_stands hG (fun _ _ f2 h => ?_) f1 h
    refine m_if h (fun h => ?_) (fun h => ?_)
    · skip
      refine m_C h (fun h => ?_)
      refine m_and h (fun h => ?_)
      exact k _ _ f2 h
    · skip
      refine m_C h (fun h => ?_)
      refine m_and h (fun h => ?_)
      exact k _ _ f2 h
theorem fq1_X10_suppose {X G : Mm} {S : Sh} {K K' : Mm → Prop} {M : Mm} {u1 : Int} {u2 : Int} {u3 : Int} {u4 : Int} (hG : Inv X S G) (k : ∀ (m : Mm), fq1_F G m → K m → K' m) (f : fq1_F G M) (h : wp_X10_suppose S M (55) u1 u2 u3 u4 K) : wp_X10_suppose S M (55) u1 u2 u3 u4 K' := by
  refine m_Put (fq1_up (by decide) f) h (fun _ f1 h => ?_)
  refine m_Put (fq1_up (by decide) f1) h (fun _ f2 h => ?_)
  refine m_Put (fq1_up (by decide) f2) h (fun _ f3 h => ?_)
  refine m_C h (fun h => ?_)
  refine m_Put (fq1_up (by decide) f3) h (fun _ f4 h => ?_)
  refine m_Put (fq1_up (by decide) f4) h (fun _ f5 h => ?_)
  refine m_C h (fun h => ?_)
  refine m_Put (fq1_up (by decide) f5) h (fun _ f6 h => ?_)
  refine m_C h (fun h => ?_)
  refine m_Put (fq1_up (by decide) f6) h (fun _ f7 h => ?_)
  exact k _ f7 h
theorem fq1_X10_holdFor_2 {X G : Mm} {S : Sh} {K K' : Mm → Prop} (hG : Inv X S G) (k : ∀ (m : Mm), fq1_F G m → K m → K' m) : ∀ (n : Nat) (u1 : Int) (u2 : Int) (M : Mm), fq1_F G M → wp_X10_holdFor_2 S K n (55) u1 u2 M → wp_X10_holdFor_2 S K' n (55) u1 u2 M := by
  intro n
  induction n with
  | zero => intro u1 u2 M f h; exact h
  | succ n ih =>
    intro u1 u2 M f h
    refine m_if h (fun h => ?_) (fun h => ?_)
    · skip
      exact k _ f h
    · skip
      refine m_C h (fun h => ?_)
      refine m_Get h (fun _ h => ?_)
      refine m_and h (fun h => ?_)
      refine fq1_X10_turns hG (fun _ _ f1 h => ?_) f h
      refine m_A h (fun _ h => ?_)
      refine m_O h (fun _ h => ?_)
      refine m_Put (fq1_up (by decide) f1) h (fun _ f2 h => ?_)
      refine m_C h (fun h => ?_)
      refine m_Get h (fun _ h => ?_)
      refine m_gr (fq1_c_55_0 hG f2) h (fun h => ?_)
      refine m_gr (fq1_c_4_11 hG f2) h (fun h => ?_)
      refine m_Get h (fun _ h => ?_)
      refine m_Ld h (fun _ h => ?_)
      refine m_A h (fun _ h => ?_)
      refine m_O h (fun _ h => ?_)
      refine m_Put (fq1_up (by decide) f2) h (fun _ f3 h => ?_)
      refine m_C h (fun h => ?_)
      refine m_Get h (fun _ h => ?_)
      refine m_C h (fun h => ?_)
      refine m_A h (fun _ h => ?_)
      refine m_O h (fun _ h => ?_)
      refine m_Put (fq1_up (by decide) f3) h (fun _ f4 h => ?_)
      refine m_A h (fun _ h => ?_)
      exact ih _ _ _ f4 h
theorem fq1_X10_holdFor {X G : Mm} {S : Sh} {K K' : Mm → Prop} {M : Mm} {u1 : Int} (hG : Inv X S G) (k : ∀ (m : Mm), fq1_F G m → K m → K' m) (f : fq1_F G M) (h : wp_X10_holdFor S M (55) u1 K) : wp_X10_holdFor S M (55) u1 K' := by
  refine m_C h (fun h => ?_)
  refine m_ex h (fun n9 h => ?_)
  refine fq1_X10_holdFor_2 hG k _ _ _ _ f h
theorem fq1_X11_brings {X G : Mm} {S : Sh} {K K' : Int → Mm → Prop} {M : Mm} {u1 : Int} {u2 : Int} {u3 : Int} (hG : Inv X S G) (k : ∀ (a0 : Int) (m : Mm), fq1_F G m → K a0 m → K' a0 m) (f : fq1_F G M) (h : wp_X11_brings S M (0) u1 u2 u3 K) : wp_X11_brings S M (0) u1 u2 u3 K' := by
  refine m_and h (fun h => ?_)
  refine fq1_X11_isHand hG (fun _ _ f1 h => ?_) f h
  refine m_if h (fun h => ?_) (fun h => ?_)
  · skip
    refine m_C h (fun h => ?_)
    exact k _ _ f1 h
  · skip
    refine m_and h (fun h => ?_)
    refine fq1_X11_isStandingJug hG (fun _ _ f2 h => ?_) f1 h
    refine m_if h (fun h => ?_) (fun h => ?_)
    · skip
      refine m_C h (fun h => ?_)
      exact k _ _ f2 h
    · skip
      refine m_and h (fun h => ?_)
      refine fq1_X11_isPlace hG (fun _ _ f3 h => ?_) f2 h
      refine m_if h (fun h => ?_) (fun h => ?_)
      · skip
        refine m_gr (fq1_c_0_1 hG f3) h (fun h => ?_)
        refine m_gr (fq1_c_3_1 hG f3) h (fun h => ?_)
        refine m_gr (fq1_c_16_5 hG f3) h (fun h => ?_)
        refine m_Ld h (fun _ h => ?_)
        refine m_gr (fq1_c_0_1 hG f3) h (fun h => ?_)
        refine m_gr (fq1_c_3_0 hG f3) h (fun h => ?_)
        refine m_and h (fun h => ?_)
        refine fq1_X8_hasWay hG (fun _ _ f4 h => ?_) f3 h
        refine m_if h (fun h => ?_) (fun h => ?_)
        · skip
          refine m_gr (fq1_c_0_10 hG f4) h (fun h => ?_)
          refine m_gr (fq1_c_0_1 hG f4) h (fun h => ?_)
          refine m_gr (fq1_c_3_1 hG f4) h (fun h => ?_)
          refine m_gr (fq1_c_16_7 hG f4) h (fun h => ?_)
          refine m_Ld h (fun _ h => ?_)
          refine m_gr (fq1_c_0_1 hG f4) h (fun h => ?_)
          refine m_gr (fq1_c_3_1 hG f4) h (fun h => ?_)
          refine m_Get h (fun _ h => ?_)
          refine m_and h (fun h => ?_)
          refine fq1_X10_suppose hG (fun _ f5 h => ?_) f4 h
          refine m_gr (fq1_c_0_10 hG f5) h (fun h => ?_)
          refine m_C h (fun h => ?_)
          refine m_Put (fq1_up (by decide) f5) h (fun _ f6 h => ?_)
          refine m_gr (fq1_c_0_10 hG f6) h (fun h => ?_)
          refine m_gr (fq1_c_0_1 hG f6) h (fun h => ?_)
          refine m_gr (fq1_c_3_0 hG f6) h (fun h => ?_)
          refine m_and h (fun h => ?_)
          refine fq1_X8_wayHours hG (fun _ _ f7 h => ?_) f6 h
          refine m_and h (fun h => ?_)
          refine fq1_X10_holdFor hG (fun _ f8 h => ?_) f7 h
          refine m_gr (fq1_c_0_10 hG f8) h (fun h => ?_)
          refine m_Get h (fun _ h => ?_)
          exact k _ _ f8 h
        · skip
          refine m_C h (fun h => ?_)
          exact k _ _ f4 h
      · skip
        refine m_C h (fun h => ?_)
        exact k _ _ f3 h
theorem fq1_X11_isTurned {X G : Mm} {S : Sh} {K K' : Int → Mm → Prop} {M : Mm} {u0 : Int} (hG : Inv X S G) (k : ∀ (a0 : Int) (m : Mm), fq1_F G m → K a0 m → K' a0 m) (f : fq1_F G M) (h : wp_X11_isTurned S M u0 K) : wp_X11_isTurned S M u0 K' := by
  refine m_if h (fun h => ?_) (fun h => ?_)
  · skip
    refine m_C h (fun h => ?_)
    refine m_and h (fun h => ?_)
    exact k _ _ f h
  · skip
    refine m_C h (fun h => ?_)
    refine m_if h (fun h => ?_) (fun h => ?_)
    · skip
      refine m_C h (fun h => ?_)
      refine m_and h (fun h => ?_)
      exact k _ _ f h
    · skip
      refine m_C h (fun h => ?_)
      refine m_and h (fun h => ?_)
      exact k _ _ f h
theorem fq1_X2_setOut_17 {X G : Mm} {S : Sh} {K K' : Mm → Prop} (hG : Inv X S G) (k : ∀ (m : Mm), fq1_F G m → K m → K' m) : ∀ (n : Nat) (u3 : Int) (u5 : Int) (u6 : Int) (M : Mm), fq1_F G M → wp_X2_setOut_17 S K n (58) u3 u5 u6 M → wp_X2_setOut_17 S K' n (58) u3 u5 u6 M := by
  intro n
  induction n with
  | zero => intro u3 u5 u6 M f h; exact h
  | succ n ih =>
    intro u3 u5 u6 M f h
    refine m_Get h (fun _ h => ?_)
    refine m_C h (fun h => ?_)
    refine m_if h (fun h => ?_) (fun h => ?_)
    · skip
      exact k _ f h
    · skip
      refine m_if h (fun h => ?_) (fun h => ?_)
      · skip
        exact k _ f h
      · skip
        refine m_gr (fq1_c_58_1 hG f) h (fun h => ?_)
        refine m_and h (fun h => ?_)
        refine fq1_X8_nextPlace hG (fun _ _ f1 h => ?_) f h
        refine m_C h (fun h => ?_)
        refine m_if h (fun h => ?_) (fun h => ?_)
        · skip
          refine m_gr (fq1_c_58_2 hG f1) h (fun h => ?_)
          refine m_Get h (fun _ h => ?_)
          refine m_gr (fq1_c_58_1 hG f1) h (fun h => ?_)
          refine m_and h (fun h => ?_)
          refine fq1_X8_roadHours hG (fun _ _ f2 h => ?_) f1 h
          refine m_St (fq1_up (fq1_a_59 _) f2) h (fun _ f3 h => ?_)
          refine m_gr (fq1_c_58_3 hG f3) h (fun h => ?_)
          refine m_Get h (fun _ h => ?_)
          refine m_C h (fun h => ?_)
          refine m_O h (fun _ h => ?_)
          refine m_St (fq1_up (fq1_a_60 _) f3) h (fun _ f4 h => ?_)
          refine m_gr (fq1_c_58_2 hG f4) h (fun h => ?_)
          refine m_Get h (fun _ h => ?_)
          refine m_Ld h (fun _ h => ?_)
          refine m_A h (fun _ h => ?_)
          refine m_Get h (fun _ h => ?_)
          refine m_C h (fun h => ?_)
          refine m_A h (fun _ h => ?_)
          refine m_Put (fq1_up (by decide) f4) h (fun _ f5 h => ?_)
          exact ih _ _ _ _ f5 h
        · skip
          exact k _ f1 h
theorem fq1_X2_setOut {X G : Mm} {S : Sh} {K K' : Mm → Prop} {M : Mm} {u1 : Int} {u2 : Int} {u3 : Int} {u4 : Int} (hG : Inv X S G) (k : ∀ (m : Mm), fq1_F G m → K m → K' m) (f : fq1_F G M) (h : wp_X2_setOut S M (58) u1 u2 u3 u4 K) : wp_X2_setOut S M (58) u1 u2 u3 u4 K' := by
  refine m_Put (fq1_up (by decide) f) h (fun _ f1 h => ?_)
  refine m_C h (fun h => ?_)
  refine m_Put (fq1_up (by decide) f1) h (fun _ f2 h => ?_)
  refine m_ex h (fun n9 h => ?_)
  refine fq1_X2_setOut_17 hG k _ _ _ _ _ f2 h
theorem fq1_X2_carried {X G : Mm} {S : Sh} {K K' : Int → Mm → Prop} {M : Mm} {u1 : Int} {u2 : Int} {u3 : Int} (hG : Inv X S G) (k : ∀ (a0 : Int) (m : Mm), fq1_F G m → K a0 m → K' a0 m) (f : fq1_F G M) (h : wp_X2_carried S M (58) u1 u2 u3 K) : wp_X2_carried S M (58) u1 u2 u3 K' := by
  refine m_gr (fq1_c_58_0 hG f) h (fun h => ?_)
  refine m_Get h (fun _ h => ?_)
  refine m_gr (fq1_c_58_3 hG f) h (fun h => ?_)
  refine m_Ld h (fun _ h => ?_)
  refine m_and h (fun h => ?_)
  refine fq1_X10_suppose hG (fun _ f1 h => ?_) f h
  refine m_gr (fq1_c_58_0 hG f1) h (fun h => ?_)
  refine m_C h (fun h => ?_)
  refine m_Put (fq1_up (by decide) f1) h (fun _ f2 h => ?_)
  refine m_gr (fq1_c_58_0 hG f2) h (fun h => ?_)
  refine m_gr (fq1_c_58_2 hG f2) h (fun h => ?_)
  refine m_Ld h (fun _ h => ?_)
  refine m_and h (fun h => ?_)
  refine fq1_X10_holdFor hG (fun _ f3 h => ?_) f2 h
  refine m_gr (fq1_c_58_0 hG f3) h (fun h => ?_)
  refine m_Get h (fun _ h => ?_)
  exact k _ _ f3 h
theorem fq1_X2_visit_d0_78 {X G : Mm} {S : Sh} {K K' : Mm → Prop} (hG : Inv X S G) (k : ∀ (m : Mm), fq1_F G m → K m → K' m) : ∀ (n : Nat) (u1 : Int) (u2 : Int) (u3 : Int) (M : Mm), fq1_F G M → wp_X2_visit_d0_78 S K n (58) u1 u2 u3 (0) (999) (0) M → wp_X2_visit_d0_78 S K' n (58) u1 u2 u3 (0) (999) (0) M := by
  intro n
  induction n with
  | zero => intro u1 u2 u3 M f h; exact h
  | succ n ih =>
    intro u1 u2 u3 M f h
    unfold wp_X2_visit_d0_78 at h ⊢
    refine m_gr (fq1_c_58_1 hG f) h (fun h => ?_)
    refine m_Get h (fun _ h => ?_)
    refine m_if h (fun h => ?_) (fun h => ?_)
    · skip
      refine m_gr (fq1_c_58_4 hG f) h (fun h => ?_)
      refine m_St (fq1_up (fq1_a_61 _) f) h (fun _ f1 h => ?_)
      refine m_gr (fq1_c_58_5 hG f1) h (fun h => ?_)
      refine m_St (fq1_up (fq1_a_62 _) f1) h (fun _ f2 h => ?_)
      exact k _ f2 h
    · skip
      refine m_and h (fun h => ?_)
      refine fq1_X2_carried hG (fun _ _ f3 h => ?_) f h
      refine m_C h (fun h => ?_)
      refine m_A h (fun _ h => ?_)
      exact h
theorem fq1_X2_visit_d0_58 {X G : Mm} {S : Sh} {K K' : Mm → Prop} {M : Mm} {u2 : Int} {u3 : Int} {t1 : Int} {t2 : Int} (hG : Inv X S G) (k : ∀ (m : Mm), fq1_F G m → K m → K' m) (f : fq1_F G M) (h : wp_X2_visit_d0_58 S K (58) u2 u3 (61) t1 t2 M) : wp_X2_visit_d0_58 S K' (58) u2 u3 (61) t1 t2 M := by
  refine m_St (fq1_up (fq1_a_61 _) f) h (fun _ f1 h => ?_)
  refine m_gr (fq1_c_58_5 hG f1) h (fun h => ?_)
  refine m_St (fq1_up (fq1_a_62 _) f1) h (fun _ f2 h => ?_)
  exact k _ f2 h
theorem fq1_X2_visit_d0_57 {X G : Mm} {S : Sh} {K K' : Mm → Prop} {M : Mm} {u2 : Int} {u3 : Int} {t1 : Int} (hG : Inv X S G) (k : ∀ (m : Mm), fq1_F G m → K m → K' m) (f : fq1_F G M) (h : wp_X2_visit_d0_57 S K (58) u2 u3 (61) t1 M) : wp_X2_visit_d0_57 S K' (58) u2 u3 (61) t1 M := by
  refine m_C h (fun h => ?_)
  refine fq1_X2_visit_d0_58 hG k f h
theorem fq1_X2_visit_d0 {X G : Mm} {S : Sh} {K K' : Mm → Prop} {M : Mm} {u1 : Int} {u2 : Int} (hG : Inv X S G) (k : ∀ (m : Mm), fq1_F G m → K m → K' m) (f : fq1_F G M) (h : wp_X2_visit_d0 S M (58) u1 u2 K) : wp_X2_visit_d0 S M (58) u1 u2 K' := by
  refine m_C h (fun h => ?_)
  refine m_M h (fun _ h => ?_)
  refine m_A h (fun _ h => ?_)
  refine m_C h (fun h => ?_)
  refine m_if h (fun h => ?_) (fun h => ?_)
  · skip
    exact k _ f h
  · skip
    refine m_gr (fq1_c_58_4 hG f) h (fun h => ?_)
    refine m_Ld h (fun _ h => ?_)
    refine m_C h (fun h => ?_)
    refine m_if h (fun h => ?_) (fun h => ?_)
    · skip
      refine m_Get h (fun _ h => ?_)
      refine m_if h (fun h => ?_) (fun h => ?_)
      · skip
        refine m_C h (fun h => ?_)
        refine m_C h (fun h => ?_)
        refine m_C h (fun h => ?_)
        refine m_ex h (fun n9 h => ?_)
        refine fq1_X2_visit_d0_78 hG k _ _ _ _ _ f h
      · skip
        refine m_gr (fq1_c_58_4 hG f) h (fun h => ?_)
        refine m_Get h (fun _ h => ?_)
        refine m_if h (fun h => ?_) (fun h => ?_)
        · skip
          refine fq1_X2_visit_d0_57 hG k f h
        · skip
          refine m_Get h (fun _ h => ?_)
          refine m_if h (fun h => ?_) (fun h => ?_)
          · skip
            refine fq1_X2_visit_d0_57 hG k f h
          · skip
            refine m_C h (fun h => ?_)
            refine fq1_X2_visit_d0_58 hG k f h
    · skip
      exact k _ f h
theorem fq1_X2_visit_d1_78 {X G : Mm} {S : Sh} {K K' : Mm → Prop} (hG : Inv X S G) (k : ∀ (m : Mm), fq1_F G m → K m → K' m) : ∀ (n : Nat) (u1 : Int) (u2 : Int) (u3 : Int) (u4 : Int) (u5 : Int) (u6 : Int) (M : Mm), fq1_F G M → wp_X2_visit_d1_78 S K n (58) u1 u2 u3 u4 u5 u6 M → wp_X2_visit_d1_78 S K' n (58) u1 u2 u3 u4 u5 u6 M := by
  intro n
  induction n with
  | zero => intro u1 u2 u3 u4 u5 u6 M f h; exact h
  | succ n ih =>
    intro u1 u2 u3 u4 u5 u6 M f h
    refine m_gr (fq1_c_58_1 hG f) h (fun h => ?_)
    refine m_Get h (fun _ h => ?_)
    refine m_if h (fun h => ?_) (fun h => ?_)
    · skip
      refine m_gr (fq1_c_58_4 hG f) h (fun h => ?_)
      refine m_St (fq1_up (fq1_a_61 _) f) h (fun _ f1 h => ?_)
      refine m_gr (fq1_c_58_5 hG f1) h (fun h => ?_)
      refine m_St (fq1_up (fq1_a_62 _) f1) h (fun _ f2 h => ?_)
      exact k _ f2 h
    · skip
      refine m_and h (fun h => ?_)
      refine fq1_X2_carried hG (fun _ _ f3 h => ?_) f h
      refine m_C h (fun h => ?_)
      refine m_A h (fun _ h => ?_)
      refine m_and h (fun h => ?_)
      refine fq1_X2_visit_d0 hG (fun _ f4 h => ?_) f3 h
      refine m_gr (fq1_c_58_4 hG f4) h (fun h => ?_)
      refine m_C h (fun h => ?_)
      refine m_A h (fun _ h => ?_)
      refine m_C h (fun h => ?_)
      refine m_M h (fun _ h => ?_)
      refine m_A h (fun _ h => ?_)
      refine m_Ld h (fun _ h => ?_)
      refine m_A h (fun _ h => ?_)
      refine m_gr (fq1_c_58_5 hG f4) h (fun h => ?_)
      refine m_C h (fun h => ?_)
      refine m_A h (fun _ h => ?_)
      refine m_C h (fun h => ?_)
      refine m_M h (fun _ h => ?_)
      refine m_A h (fun _ h => ?_)
      refine m_Ld h (fun _ h => ?_)
      refine m_O h (fun _ h => ?_)
      refine m_A h (fun _ h => ?_)
      exact ih _ _ _ _ _ _ _ f4 h
theorem fq1_X2_visit_d1_58 {X G : Mm} {S : Sh} {K K' : Mm → Prop} {M : Mm} {u2 : Int} {u3 : Int} {t1 : Int} {t2 : Int} (hG : Inv X S G) (k : ∀ (m : Mm), fq1_F G m → K m → K' m) (f : fq1_F G M) (h : wp_X2_visit_d1_58 S K (58) u2 u3 (61) t1 t2 M) : wp_X2_visit_d1_58 S K' (58) u2 u3 (61) t1 t2 M := by
  refine m_St (fq1_up (fq1_a_61 _) f) h (fun _ f1 h => ?_)
  refine m_gr (fq1_c_58_5 hG f1) h (fun h => ?_)
  refine m_St (fq1_up (fq1_a_62 _) f1) h (fun _ f2 h => ?_)
  exact k _ f2 h
theorem fq1_X2_visit_d1_57 {X G : Mm} {S : Sh} {K K' : Mm → Prop} {M : Mm} {u2 : Int} {u3 : Int} {t1 : Int} (hG : Inv X S G) (k : ∀ (m : Mm), fq1_F G m → K m → K' m) (f : fq1_F G M) (h : wp_X2_visit_d1_57 S K (58) u2 u3 (61) t1 M) : wp_X2_visit_d1_57 S K' (58) u2 u3 (61) t1 M := by
  refine m_C h (fun h => ?_)
  refine fq1_X2_visit_d1_58 hG k f h
theorem fq1_X2_visit_d1 {X G : Mm} {S : Sh} {K K' : Mm → Prop} {M : Mm} {u1 : Int} {u2 : Int} (hG : Inv X S G) (k : ∀ (m : Mm), fq1_F G m → K m → K' m) (f : fq1_F G M) (h : wp_X2_visit_d1 S M (58) u1 u2 K) : wp_X2_visit_d1 S M (58) u1 u2 K' := by
  refine m_C h (fun h => ?_)
  refine m_M h (fun _ h => ?_)
  refine m_A h (fun _ h => ?_)
  refine m_C h (fun h => ?_)
  refine m_if h (fun h => ?_) (fun h => ?_)
  · skip
    exact k _ f h
  · skip
    refine m_gr (fq1_c_58_4 hG f) h (fun h => ?_)
    refine m_Ld h (fun _ h => ?_)
    refine m_C h (fun h => ?_)
    refine m_if h (fun h => ?_) (fun h => ?_)
    · skip
      refine m_Get h (fun _ h => ?_)
      refine m_if h (fun h => ?_) (fun h => ?_)
      · skip
        refine m_C h (fun h => ?_)
        refine m_C h (fun h => ?_)
        refine m_C h (fun h => ?_)
        refine m_ex h (fun n9 h => ?_)
        refine fq1_X2_visit_d1_78 hG k _ _ _ _ _ _ _ _ f h
      · skip
        refine m_gr (fq1_c_58_4 hG f) h (fun h => ?_)
        refine m_Get h (fun _ h => ?_)
        refine m_if h (fun h => ?_) (fun h => ?_)
        · skip
          refine fq1_X2_visit_d1_57 hG k f h
        · skip
          refine m_Get h (fun _ h => ?_)
          refine m_if h (fun h => ?_) (fun h => ?_)
          · skip
            refine fq1_X2_visit_d1_57 hG k f h
          · skip
            refine m_C h (fun h => ?_)
            refine fq1_X2_visit_d1_58 hG k f h
    · skip
      exact k _ f h
theorem fq1_X2_visit_d2_78 {X G : Mm} {S : Sh} {K K' : Mm → Prop} (hG : Inv X S G) (k : ∀ (m : Mm), fq1_F G m → K m → K' m) : ∀ (n : Nat) (u1 : Int) (u2 : Int) (u3 : Int) (u4 : Int) (u5 : Int) (u6 : Int) (M : Mm), fq1_F G M → wp_X2_visit_d2_78 S K n (58) u1 u2 u3 u4 u5 u6 M → wp_X2_visit_d2_78 S K' n (58) u1 u2 u3 u4 u5 u6 M := by
  intro n
  induction n with
  | zero => intro u1 u2 u3 u4 u5 u6 M f h; exact h
  | succ n ih =>
    intro u1 u2 u3 u4 u5 u6 M f h
    refine m_gr (fq1_c_58_1 hG f) h (fun h => ?_)
    refine m_Get h (fun _ h => ?_)
    refine m_if h (fun h => ?_) (fun h => ?_)
    · skip
      refine m_gr (fq1_c_58_4 hG f) h (fun h => ?_)
      refine m_St (fq1_up (fq1_a_61 _) f) h (fun _ f1 h => ?_)
      refine m_gr (fq1_c_58_5 hG f1) h (fun h => ?_)
      refine m_St (fq1_up (fq1_a_62 _) f1) h (fun _ f2 h => ?_)
      exact k _ f2 h
    · skip
      refine m_and h (fun h => ?_)
      refine fq1_X2_carried hG (fun _ _ f3 h => ?_) f h
      refine m_C h (fun h => ?_)
      refine m_A h (fun _ h => ?_)
      refine m_and h (fun h => ?_)
      refine fq1_X2_visit_d1 hG (fun _ f4 h => ?_) f3 h
      refine m_gr (fq1_c_58_4 hG f4) h (fun h => ?_)
      refine m_C h (fun h => ?_)
      refine m_A h (fun _ h => ?_)
      refine m_C h (fun h => ?_)
      refine m_M h (fun _ h => ?_)
      refine m_A h (fun _ h => ?_)
      refine m_Ld h (fun _ h => ?_)
      refine m_A h (fun _ h => ?_)
      refine m_gr (fq1_c_58_5 hG f4) h (fun h => ?_)
      refine m_C h (fun h => ?_)
      refine m_A h (fun _ h => ?_)
      refine m_C h (fun h => ?_)
      refine m_M h (fun _ h => ?_)
      refine m_A h (fun _ h => ?_)
      refine m_Ld h (fun _ h => ?_)
      refine m_O h (fun _ h => ?_)
      refine m_A h (fun _ h => ?_)
      exact ih _ _ _ _ _ _ _ f4 h
theorem fq1_X2_visit_d2_58 {X G : Mm} {S : Sh} {K K' : Mm → Prop} {M : Mm} {u2 : Int} {u3 : Int} {t1 : Int} {t2 : Int} (hG : Inv X S G) (k : ∀ (m : Mm), fq1_F G m → K m → K' m) (f : fq1_F G M) (h : wp_X2_visit_d2_58 S K (58) u2 u3 (61) t1 t2 M) : wp_X2_visit_d2_58 S K' (58) u2 u3 (61) t1 t2 M := by
  refine m_St (fq1_up (fq1_a_61 _) f) h (fun _ f1 h => ?_)
  refine m_gr (fq1_c_58_5 hG f1) h (fun h => ?_)
  refine m_St (fq1_up (fq1_a_62 _) f1) h (fun _ f2 h => ?_)
  exact k _ f2 h
theorem fq1_X2_visit_d2_57 {X G : Mm} {S : Sh} {K K' : Mm → Prop} {M : Mm} {u2 : Int} {u3 : Int} {t1 : Int} (hG : Inv X S G) (k : ∀ (m : Mm), fq1_F G m → K m → K' m) (f : fq1_F G M) (h : wp_X2_visit_d2_57 S K (58) u2 u3 (61) t1 M) : wp_X2_visit_d2_57 S K' (58) u2 u3 (61) t1 M := by
  refine m_C h (fun h => ?_)
  refine fq1_X2_visit_d2_58 hG k f h
theorem fq1_X2_visit_d2 {X G : Mm} {S : Sh} {K K' : Mm → Prop} {M : Mm} {u1 : Int} {u2 : Int} (hG : Inv X S G) (k : ∀ (m : Mm), fq1_F G m → K m → K' m) (f : fq1_F G M) (h : wp_X2_visit_d2 S M (58) u1 u2 K) : wp_X2_visit_d2 S M (58) u1 u2 K' := by
  refine m_C h (fun h => ?_)
  refine m_M h (fun _ h => ?_)
  refine m_A h (fun _ h => ?_)
  refine m_C h (fun h => ?_)
  refine m_if h (fun h => ?_) (fun h => ?_)
  · skip
    exact k _ f h
  · skip
    refine m_gr (fq1_c_58_4 hG f) h (fun h => ?_)
    refine m_Ld h (fun _ h => ?_)
    refine m_C h (fun h => ?_)
    refine m_if h (fun h => ?_) (fun h => ?_)
    · skip
      refine m_Get h (fun _ h => ?_)
      refine m_if h (fun h => ?_) (fun h => ?_)
      · skip
        refine m_C h (fun h => ?_)
        refine m_C h (fun h => ?_)
        refine m_C h (fun h => ?_)
        refine m_ex h (fun n9 h => ?_)
        refine fq1_X2_visit_d2_78 hG k _ _ _ _ _ _ _ _ f h
      · skip
        refine m_gr (fq1_c_58_4 hG f) h (fun h => ?_)
        refine m_Get h (fun _ h => ?_)
        refine m_if h (fun h => ?_) (fun h => ?_)
        · skip
          refine fq1_X2_visit_d2_57 hG k f h
        · skip
          refine m_Get h (fun _ h => ?_)
          refine m_if h (fun h => ?_) (fun h => ?_)
          · skip
            refine fq1_X2_visit_d2_57 hG k f h
          · skip
            refine m_C h (fun h => ?_)
            refine fq1_X2_visit_d2_58 hG k f h
    · skip
      exact k _ f h
theorem fq1_X2_visit_d3_78 {X G : Mm} {S : Sh} {K K' : Mm → Prop} (hG : Inv X S G) (k : ∀ (m : Mm), fq1_F G m → K m → K' m) : ∀ (n : Nat) (u1 : Int) (u2 : Int) (u3 : Int) (u4 : Int) (u5 : Int) (u6 : Int) (M : Mm), fq1_F G M → wp_X2_visit_d3_78 S K n (58) u1 u2 u3 u4 u5 u6 M → wp_X2_visit_d3_78 S K' n (58) u1 u2 u3 u4 u5 u6 M := by
  intro n
  induction n with
  | zero => intro u1 u2 u3 u4 u5 u6 M f h; exact h
  | succ n ih =>
    intro u1 u2 u3 u4 u5 u6 M f h
    refine m_gr (fq1_c_58_1 hG f) h (fun h => ?_)
    refine m_Get h (fun _ h => ?_)
    refine m_if h (fun h => ?_) (fun h => ?_)
    · skip
      refine m_gr (fq1_c_58_4 hG f) h (fun h => ?_)
      refine m_St (fq1_up (fq1_a_61 _) f) h (fun _ f1 h => ?_)
      refine m_gr (fq1_c_58_5 hG f1) h (fun h => ?_)
      refine m_St (fq1_up (fq1_a_62 _) f1) h (fun _ f2 h => ?_)
      exact k _ f2 h
    · skip
      refine m_and h (fun h => ?_)
      refine fq1_X2_carried hG (fun _ _ f3 h => ?_) f h
      refine m_C h (fun h => ?_)
      refine m_A h (fun _ h => ?_)
      refine m_and h (fun h => ?_)
      refine fq1_X2_visit_d2 hG (fun _ f4 h => ?_) f3 h
      refine m_gr (fq1_c_58_4 hG f4) h (fun h => ?_)
      refine m_C h (fun h => ?_)
      refine m_A h (fun _ h => ?_)
      refine m_C h (fun h => ?_)
      refine m_M h (fun _ h => ?_)
      refine m_A h (fun _ h => ?_)
      refine m_Ld h (fun _ h => ?_)
      refine m_A h (fun _ h => ?_)
      refine m_gr (fq1_c_58_5 hG f4) h (fun h => ?_)
      refine m_C h (fun h => ?_)
      refine m_A h (fun _ h => ?_)
      refine m_C h (fun h => ?_)
      refine m_M h (fun _ h => ?_)
      refine m_A h (fun _ h => ?_)
      refine m_Ld h (fun _ h => ?_)
      refine m_O h (fun _ h => ?_)
      refine m_A h (fun _ h => ?_)
      exact ih _ _ _ _ _ _ _ f4 h
theorem fq1_X2_visit_d3_58 {X G : Mm} {S : Sh} {K K' : Mm → Prop} {M : Mm} {u2 : Int} {u3 : Int} {t1 : Int} {t2 : Int} (hG : Inv X S G) (k : ∀ (m : Mm), fq1_F G m → K m → K' m) (f : fq1_F G M) (h : wp_X2_visit_d3_58 S K (58) u2 u3 (61) t1 t2 M) : wp_X2_visit_d3_58 S K' (58) u2 u3 (61) t1 t2 M := by
  refine m_St (fq1_up (fq1_a_61 _) f) h (fun _ f1 h => ?_)
  refine m_gr (fq1_c_58_5 hG f1) h (fun h => ?_)
  refine m_St (fq1_up (fq1_a_62 _) f1) h (fun _ f2 h => ?_)
  exact k _ f2 h
theorem fq1_X2_visit_d3_57 {X G : Mm} {S : Sh} {K K' : Mm → Prop} {M : Mm} {u2 : Int} {u3 : Int} {t1 : Int} (hG : Inv X S G) (k : ∀ (m : Mm), fq1_F G m → K m → K' m) (f : fq1_F G M) (h : wp_X2_visit_d3_57 S K (58) u2 u3 (61) t1 M) : wp_X2_visit_d3_57 S K' (58) u2 u3 (61) t1 M := by
  refine m_C h (fun h => ?_)
  refine fq1_X2_visit_d3_58 hG k f h
theorem fq1_X2_visit_d3 {X G : Mm} {S : Sh} {K K' : Mm → Prop} {M : Mm} {u1 : Int} {u2 : Int} (hG : Inv X S G) (k : ∀ (m : Mm), fq1_F G m → K m → K' m) (f : fq1_F G M) (h : wp_X2_visit_d3 S M (58) u1 u2 K) : wp_X2_visit_d3 S M (58) u1 u2 K' := by
  refine m_C h (fun h => ?_)
  refine m_M h (fun _ h => ?_)
  refine m_A h (fun _ h => ?_)
  refine m_C h (fun h => ?_)
  refine m_if h (fun h => ?_) (fun h => ?_)
  · skip
    exact k _ f h
  · skip
    refine m_gr (fq1_c_58_4 hG f) h (fun h => ?_)
    refine m_Ld h (fun _ h => ?_)
    refine m_C h (fun h => ?_)
    refine m_if h (fun h => ?_) (fun h => ?_)
    · skip
      refine m_Get h (fun _ h => ?_)
      refine m_if h (fun h => ?_) (fun h => ?_)
      · skip
        refine m_C h (fun h => ?_)
        refine m_C h (fun h => ?_)
        refine m_C h (fun h => ?_)
        refine m_ex h (fun n9 h => ?_)
        refine fq1_X2_visit_d3_78 hG k _ _ _ _ _ _ _ _ f h
      · skip
        refine m_gr (fq1_c_58_4 hG f) h (fun h => ?_)
        refine m_Get h (fun _ h => ?_)
        refine m_if h (fun h => ?_) (fun h => ?_)
        · skip
          refine fq1_X2_visit_d3_57 hG k f h
        · skip
          refine m_Get h (fun _ h => ?_)
          refine m_if h (fun h => ?_) (fun h => ?_)
          · skip
            refine fq1_X2_visit_d3_57 hG k f h
          · skip
            refine m_C h (fun h => ?_)
            refine fq1_X2_visit_d3_58 hG k f h
    · skip
      exact k _ f h
theorem fq1_X2_visit_d4_78 {X G : Mm} {S : Sh} {K K' : Mm → Prop} (hG : Inv X S G) (k : ∀ (m : Mm), fq1_F G m → K m → K' m) : ∀ (n : Nat) (u1 : Int) (u2 : Int) (u3 : Int) (u4 : Int) (u5 : Int) (u6 : Int) (M : Mm), fq1_F G M → wp_X2_visit_d4_78 S K n (58) u1 u2 u3 u4 u5 u6 M → wp_X2_visit_d4_78 S K' n (58) u1 u2 u3 u4 u5 u6 M := by
  intro n
  induction n with
  | zero => intro u1 u2 u3 u4 u5 u6 M f h; exact h
  | succ n ih =>
    intro u1 u2 u3 u4 u5 u6 M f h
    refine m_gr (fq1_c_58_1 hG f) h (fun h => ?_)
    refine m_Get h (fun _ h => ?_)
    refine m_if h (fun h => ?_) (fun h => ?_)
    · skip
      refine m_gr (fq1_c_58_4 hG f) h (fun h => ?_)
      refine m_St (fq1_up (fq1_a_61 _) f) h (fun _ f1 h => ?_)
      refine m_gr (fq1_c_58_5 hG f1) h (fun h => ?_)
      refine m_St (fq1_up (fq1_a_62 _) f1) h (fun _ f2 h => ?_)
      exact k _ f2 h
    · skip
      refine m_and h (fun h => ?_)
      refine fq1_X2_carried hG (fun _ _ f3 h => ?_) f h
      refine m_C h (fun h => ?_)
      refine m_A h (fun _ h => ?_)
      refine m_and h (fun h => ?_)
      refine fq1_X2_visit_d3 hG (fun _ f4 h => ?_) f3 h
      refine m_gr (fq1_c_58_4 hG f4) h (fun h => ?_)
      refine m_C h (fun h => ?_)
      refine m_A h (fun _ h => ?_)
      refine m_C h (fun h => ?_)
      refine m_M h (fun _ h => ?_)
      refine m_A h (fun _ h => ?_)
      refine m_Ld h (fun _ h => ?_)
      refine m_A h (fun _ h => ?_)
      refine m_gr (fq1_c_58_5 hG f4) h (fun h => ?_)
      refine m_C h (fun h => ?_)
      refine m_A h (fun _ h => ?_)
      refine m_C h (fun h => ?_)
      refine m_M h (fun _ h => ?_)
      refine m_A h (fun _ h => ?_)
      refine m_Ld h (fun _ h => ?_)
      refine m_O h (fun _ h => ?_)
      refine m_A h (fun _ h => ?_)
      exact ih _ _ _ _ _ _ _ f4 h
theorem fq1_X2_visit_d4_58 {X G : Mm} {S : Sh} {K K' : Mm → Prop} {M : Mm} {u2 : Int} {u3 : Int} {t1 : Int} {t2 : Int} (hG : Inv X S G) (k : ∀ (m : Mm), fq1_F G m → K m → K' m) (f : fq1_F G M) (h : wp_X2_visit_d4_58 S K (58) u2 u3 (61) t1 t2 M) : wp_X2_visit_d4_58 S K' (58) u2 u3 (61) t1 t2 M := by
  refine m_St (fq1_up (fq1_a_61 _) f) h (fun _ f1 h => ?_)
  refine m_gr (fq1_c_58_5 hG f1) h (fun h => ?_)
  refine m_St (fq1_up (fq1_a_62 _) f1) h (fun _ f2 h => ?_)
  exact k _ f2 h
theorem fq1_X2_visit_d4_57 {X G : Mm} {S : Sh} {K K' : Mm → Prop} {M : Mm} {u2 : Int} {u3 : Int} {t1 : Int} (hG : Inv X S G) (k : ∀ (m : Mm), fq1_F G m → K m → K' m) (f : fq1_F G M) (h : wp_X2_visit_d4_57 S K (58) u2 u3 (61) t1 M) : wp_X2_visit_d4_57 S K' (58) u2 u3 (61) t1 M := by
  refine m_C h (fun h => ?_)
  refine fq1_X2_visit_d4_58 hG k f h
theorem fq1_X2_visit_d4 {X G : Mm} {S : Sh} {K K' : Mm → Prop} {M : Mm} {u1 : Int} {u2 : Int} (hG : Inv X S G) (k : ∀ (m : Mm), fq1_F G m → K m → K' m) (f : fq1_F G M) (h : wp_X2_visit_d4 S M (58) u1 u2 K) : wp_X2_visit_d4 S M (58) u1 u2 K' := by
  refine m_C h (fun h => ?_)
  refine m_M h (fun _ h => ?_)
  refine m_A h (fun _ h => ?_)
  refine m_C h (fun h => ?_)
  refine m_if h (fun h => ?_) (fun h => ?_)
  · skip
    exact k _ f h
  · skip
    refine m_gr (fq1_c_58_4 hG f) h (fun h => ?_)
    refine m_Ld h (fun _ h => ?_)
    refine m_C h (fun h => ?_)
    refine m_if h (fun h => ?_) (fun h => ?_)
    · skip
      refine m_Get h (fun _ h => ?_)
      refine m_if h (fun h => ?_) (fun h => ?_)
      · skip
        refine m_C h (fun h => ?_)
        refine m_C h (fun h => ?_)
        refine m_C h (fun h => ?_)
        refine m_ex h (fun n9 h => ?_)
        refine fq1_X2_visit_d4_78 hG k _ _ _ _ _ _ _ _ f h
      · skip
        refine m_gr (fq1_c_58_4 hG f) h (fun h => ?_)
        refine m_Get h (fun _ h => ?_)
        refine m_if h (fun h => ?_) (fun h => ?_)
        · skip
          refine fq1_X2_visit_d4_57 hG k f h
        · skip
          refine m_Get h (fun _ h => ?_)
          refine m_if h (fun h => ?_) (fun h => ?_)
          · skip
            refine fq1_X2_visit_d4_57 hG k f h
          · skip
            refine m_C h (fun h => ?_)
            refine fq1_X2_visit_d4_58 hG k f h
    · skip
      exact k _ f h
theorem fq1_X2_visit_d5_78 {X G : Mm} {S : Sh} {K K' : Mm → Prop} (hG : Inv X S G) (k : ∀ (m : Mm), fq1_F G m → K m → K' m) : ∀ (n : Nat) (u2 : Int) (u3 : Int) (u4 : Int) (u5 : Int) (u6 : Int) (M : Mm), fq1_F G M → wp_X2_visit_d5_78 S K n (58) (0) u2 u3 u4 u5 u6 M → wp_X2_visit_d5_78 S K' n (58) (0) u2 u3 u4 u5 u6 M := by
  intro n
  induction n with
  | zero => intro u2 u3 u4 u5 u6 M f h; exact h
  | succ n ih =>
    intro u2 u3 u4 u5 u6 M f h
    refine m_gr (fq1_c_58_1 hG f) h (fun h => ?_)
    refine m_Get h (fun _ h => ?_)
    refine m_if h (fun h => ?_) (fun h => ?_)
    · skip
      refine m_gr (fq1_c_58_4 hG f) h (fun h => ?_)
      refine m_St (fq1_up (fq1_a_61 _) f) h (fun _ f1 h => ?_)
      refine m_gr (fq1_c_58_5 hG f1) h (fun h => ?_)
      refine m_St (fq1_up (fq1_a_62 _) f1) h (fun _ f2 h => ?_)
      exact k _ f2 h
    · skip
      refine m_and h (fun h => ?_)
      refine fq1_X2_carried hG (fun _ _ f3 h => ?_) f h
      refine m_C h (fun h => ?_)
      refine m_A h (fun _ h => ?_)
      refine m_and h (fun h => ?_)
      refine fq1_X2_visit_d4 hG (fun _ f4 h => ?_) f3 h
      refine m_gr (fq1_c_58_4 hG f4) h (fun h => ?_)
      refine m_C h (fun h => ?_)
      refine m_A h (fun _ h => ?_)
      refine m_C h (fun h => ?_)
      refine m_M h (fun _ h => ?_)
      refine m_A h (fun _ h => ?_)
      refine m_Ld h (fun _ h => ?_)
      refine m_A h (fun _ h => ?_)
      refine m_gr (fq1_c_58_5 hG f4) h (fun h => ?_)
      refine m_C h (fun h => ?_)
      refine m_A h (fun _ h => ?_)
      refine m_C h (fun h => ?_)
      refine m_M h (fun _ h => ?_)
      refine m_A h (fun _ h => ?_)
      refine m_Ld h (fun _ h => ?_)
      refine m_O h (fun _ h => ?_)
      refine m_A h (fun _ h => ?_)
      exact ih _ _ _ _ _ _ f4 h
theorem fq1_X2_visit_d5_58 {X G : Mm} {S : Sh} {K K' : Mm → Prop} {M : Mm} {u2 : Int} {u3 : Int} {t1 : Int} {t2 : Int} (hG : Inv X S G) (k : ∀ (m : Mm), fq1_F G m → K m → K' m) (f : fq1_F G M) (h : wp_X2_visit_d5_58 S K (58) u2 u3 (61) t1 t2 M) : wp_X2_visit_d5_58 S K' (58) u2 u3 (61) t1 t2 M := by
  refine m_St (fq1_up (fq1_a_61 _) f) h (fun _ f1 h => ?_)
  refine m_gr (fq1_c_58_5 hG f1) h (fun h => ?_)
  refine m_St (fq1_up (fq1_a_62 _) f1) h (fun _ f2 h => ?_)
  exact k _ f2 h
theorem fq1_X2_visit_d5_57 {X G : Mm} {S : Sh} {K K' : Mm → Prop} {M : Mm} {u2 : Int} {u3 : Int} {t1 : Int} (hG : Inv X S G) (k : ∀ (m : Mm), fq1_F G m → K m → K' m) (f : fq1_F G M) (h : wp_X2_visit_d5_57 S K (58) u2 u3 (61) t1 M) : wp_X2_visit_d5_57 S K' (58) u2 u3 (61) t1 M := by
  refine m_C h (fun h => ?_)
  refine fq1_X2_visit_d5_58 hG k f h
theorem fq1_X2_visit_d5 {X G : Mm} {S : Sh} {K K' : Mm → Prop} {M : Mm} {u2 : Int} (hG : Inv X S G) (k : ∀ (m : Mm), fq1_F G m → K m → K' m) (f : fq1_F G M) (h : wp_X2_visit_d5 S M (58) (0) u2 K) : wp_X2_visit_d5 S M (58) (0) u2 K' := by
  refine m_C h (fun h => ?_)
  refine m_M h (fun _ h => ?_)
  refine m_A h (fun _ h => ?_)
  refine m_C h (fun h => ?_)
  refine m_if h (fun h => ?_) (fun h => ?_)
  · skip
    exact k _ f h
  · skip
    refine m_gr (fq1_c_58_4 hG f) h (fun h => ?_)
    refine m_Ld h (fun _ h => ?_)
    refine m_C h (fun h => ?_)
    refine m_if h (fun h => ?_) (fun h => ?_)
    · skip
      refine m_Get h (fun _ h => ?_)
      refine m_if h (fun h => ?_) (fun h => ?_)
      · skip
        refine m_C h (fun h => ?_)
        refine m_C h (fun h => ?_)
        refine m_C h (fun h => ?_)
        refine m_ex h (fun n9 h => ?_)
        refine fq1_X2_visit_d5_78 hG k _ _ _ _ _ _ _ f h
      · skip
        refine m_gr (fq1_c_58_4 hG f) h (fun h => ?_)
        refine m_Get h (fun _ h => ?_)
        refine m_if h (fun h => ?_) (fun h => ?_)
        · skip
          refine fq1_X2_visit_d5_57 hG k f h
        · skip
          refine m_Get h (fun _ h => ?_)
          refine m_if h (fun h => ?_) (fun h => ?_)
          · skip
            refine fq1_X2_visit_d5_57 hG k f h
          · skip
            refine m_C h (fun h => ?_)
            refine fq1_X2_visit_d5_58 hG k f h
    · skip
      exact k _ f h
theorem fq1_X2_solve {X G : Mm} {S : Sh} {K K' : Mm → Prop} {M : Mm} {u1 : Int} {u2 : Int} {u3 : Int} (hG : Inv X S G) (k : ∀ (m : Mm), fq1_F G m → K m → K' m) (f : fq1_F G M) (h : wp_X2_solve S M (58) u1 u2 u3 K) : wp_X2_solve S M (58) u1 u2 u3 K' := by
  refine m_Put (fq1_up (by decide) f) h (fun _ f1 h => ?_)
  refine m_Put (fq1_up (by decide) f1) h (fun _ f2 h => ?_)
  refine m_Put (fq1_up (by decide) f2) h (fun _ f3 h => ?_)
  refine m_gr (fq1_c_58_4 hG f3) h (fun h => ?_)
  refine m_C h (fun h => ?_)
  refine m_Get h (fun _ h => ?_)
  refine m_C h (fun h => ?_)
  refine m_A h (fun _ h => ?_)
  refine m_C h (fun h => ?_)
  refine m_M h (fun _ h => ?_)
  refine m_C h (fun h => ?_)
  refine fq1_J7_fill_fda19 hG fq1_a_61 (fun _ f4 h => ?_) f3 h
  refine m_C h (fun h => ?_)
  refine m_and h (fun h => ?_)
  refine fq1_X2_visit_d5 hG (fun _ f5 h => ?_) f4 h
  exact k _ f5 h
theorem fq1_X2_howMany {X G : Mm} {S : Sh} {K K' : Int → Mm → Prop} {M : Mm} (hG : Inv X S G) (k : ∀ (a0 : Int) (m : Mm), fq1_F G m → K a0 m → K' a0 m) (f : fq1_F G M) (h : wp_X2_howMany S M (58) K) : wp_X2_howMany S M (58) K' := by
  refine m_gr (fq1_c_58_4 hG f) h (fun h => ?_)
  refine m_Get h (fun _ h => ?_)
  refine m_Ld h (fun _ h => ?_)
  exact k _ _ f h
theorem fq1_X2_leastTurned {X G : Mm} {S : Sh} {K K' : Int → Mm → Prop} {M : Mm} (hG : Inv X S G) (k : ∀ (a0 : Int) (m : Mm), fq1_F G m → K a0 m → K' a0 m) (f : fq1_F G M) (h : wp_X2_leastTurned S M (58) K) : wp_X2_leastTurned S M (58) K' := by
  refine m_gr (fq1_c_58_5 hG f) h (fun h => ?_)
  refine m_Get h (fun _ h => ?_)
  refine m_Ld h (fun _ h => ?_)
  exact k _ _ f h
theorem fq1_X2_firstHand_2 {X G : Mm} {S : Sh} {K K' : Int → Mm → Prop} (hG : Inv X S G) (k : ∀ (a0 : Int) (m : Mm), fq1_F G m → K a0 m → K' a0 m) : ∀ (n : Nat) (u1 : Int) (u2 : Int) (u3 : Int) (M : Mm), fq1_F G M → wp_X2_firstHand_2 S K n (58) u1 u2 u3 M → wp_X2_firstHand_2 S K' n (58) u1 u2 u3 M := by
  intro n
  induction n with
  | zero => intro u1 u2 u3 M f h; exact h
  | succ n ih =>
    intro u1 u2 u3 M f h
    refine m_gr (fq1_c_58_1 hG f) h (fun h => ?_)
    refine m_Get h (fun _ h => ?_)
    refine m_if h (fun h => ?_) (fun h => ?_)
    · skip
      refine m_C h (fun h => ?_)
      exact k _ _ f h
    · skip
      refine m_gr (fq1_c_58_4 hG f) h (fun h => ?_)
      refine m_C h (fun h => ?_)
      refine m_A h (fun _ h => ?_)
      refine m_C h (fun h => ?_)
      refine m_M h (fun _ h => ?_)
      refine m_and h (fun h => ?_)
      refine fq1_X2_carried hG (fun _ _ f1 h => ?_) f h
      refine m_A h (fun _ h => ?_)
      refine m_Ld h (fun _ h => ?_)
      refine m_if h (fun h => ?_) (fun h => ?_)
      · skip
        refine m_A h (fun _ h => ?_)
        exact ih _ _ _ _ f1 h
      · skip
        exact k _ _ f1 h
theorem fq1_X2_firstHand {X G : Mm} {S : Sh} {K K' : Int → Mm → Prop} {M : Mm} {u1 : Int} {u2 : Int} (hG : Inv X S G) (k : ∀ (a0 : Int) (m : Mm), fq1_F G m → K a0 m → K' a0 m) (f : fq1_F G M) (h : wp_X2_firstHand S M (58) u1 u2 K) : wp_X2_firstHand S M (58) u1 u2 K' := by
  refine m_C h (fun h => ?_)
  refine m_ex h (fun n9 h => ?_)
  refine fq1_X2_firstHand_2 hG k _ _ _ _ _ f h
theorem fq1_X2_handOfFirst_25 {X G : Mm} {S : Sh} {K K' : Int → Mm → Prop} (hG : Inv X S G) (k : ∀ (a0 : Int) (m : Mm), fq1_F G m → K a0 m → K' a0 m) : ∀ (n : Nat) (u1 : Int) (u2 : Int) (u3 : Int) (M : Mm), fq1_F G M → wp_X2_handOfFirst_25 S K n (58) u1 u2 u3 M → wp_X2_handOfFirst_25 S K' n (58) u1 u2 u3 M := by
  intro n
  induction n with
  | zero => intro u1 u2 u3 M f h; exact h
  | succ n ih =>
    intro u1 u2 u3 M f h
    refine m_if h (fun h => ?_) (fun h => ?_)
    · skip
      refine m_and h (fun h => ?_)
      refine fq1_X2_firstHand hG (fun _ _ f1 h => ?_) f h
      exact k _ _ f1 h
    · skip
      refine m_and h (fun h => ?_)
      refine fq1_X2_firstHand hG (fun _ _ f2 h => ?_) f h
      refine m_and h (fun h => ?_)
      refine fq1_X2_carried hG (fun _ _ f3 h => ?_) f2 h
      refine m_A h (fun _ h => ?_)
      exact ih _ _ _ _ f3 h
theorem fq1_X2_handOfFirst {X G : Mm} {S : Sh} {K K' : Int → Mm → Prop} {M : Mm} {u1 : Int} (hG : Inv X S G) (k : ∀ (a0 : Int) (m : Mm), fq1_F G m → K a0 m → K' a0 m) (f : fq1_F G M) (h : wp_X2_handOfFirst S M (58) u1 K) : wp_X2_handOfFirst S M (58) u1 K' := by
  refine m_Get h (fun _ h => ?_)
  refine m_if h (fun h => ?_) (fun h => ?_)
  · skip
    refine m_C h (fun h => ?_)
    exact k _ _ f h
  · skip
    refine m_and h (fun h => ?_)
    refine fq1_X2_howMany hG (fun _ _ f1 h => ?_) f h
    refine m_if h (fun h => ?_) (fun h => ?_)
    · skip
      refine m_Get h (fun _ h => ?_)
      refine m_C h (fun h => ?_)
      refine m_ex h (fun n9 h => ?_)
      refine fq1_X2_handOfFirst_25 hG k _ _ _ _ _ f1 h
    · skip
      refine m_C h (fun h => ?_)
      exact k _ _ f1 h
theorem fq1_X11_relay_107 {X G : Mm} {S : Sh} {K K' : Int → Mm → Prop} {M : Mm} {u1 : Int} {u2 : Int} {u3 : Int} {u4 : Int} {u5 : Int} {u6 : Int} (hG : Inv X S G) (k : ∀ (a0 : Int) (m : Mm), fq1_F G m → K a0 m → K' a0 m) (f : fq1_F G M) (h : wp_X11_relay_107 S K (0) u1 u2 u3 u4 u5 u6 M) : wp_X11_relay_107 S K' (0) u1 u2 u3 u4 u5 u6 M := by
  refine m_gr (fq1_c_0_12 hG f) h (fun h => ?_)
  refine m_gr (fq1_c_0_1 hG f) h (fun h => ?_)
  refine m_gr (fq1_c_3_1 hG f) h (fun h => ?_)
  refine m_Get h (fun _ h => ?_)
  refine m_and h (fun h => ?_)
  refine fq1_X2_setOut hG (fun _ f1 h => ?_) f h
  refine m_gr (fq1_c_0_12 hG f1) h (fun h => ?_)
  refine m_gr (fq1_c_0_1 hG f1) h (fun h => ?_)
  refine m_gr (fq1_c_3_1 hG f1) h (fun h => ?_)
  refine m_gr (fq1_c_16_7 hG f1) h (fun h => ?_)
  refine m_Ld h (fun _ h => ?_)
  refine m_and h (fun h => ?_)
  refine fq1_X2_solve hG (fun _ f2 h => ?_) f1 h
  refine m_if h (fun h => ?_) (fun h => ?_)
  · skip
    refine m_gr (fq1_c_0_12 hG f2) h (fun h => ?_)
    refine m_and h (fun h => ?_)
    refine fq1_X2_howMany hG (fun _ _ f3 h => ?_) f2 h
    exact k _ _ f3 h
  · skip
    refine m_if h (fun h => ?_) (fun h => ?_)
    · skip
      refine m_gr (fq1_c_0_12 hG f2) h (fun h => ?_)
      refine m_and h (fun h => ?_)
      refine fq1_X2_leastTurned hG (fun _ _ f4 h => ?_) f2 h
      exact k _ _ f4 h
    · skip
      refine m_gr (fq1_c_0_12 hG f2) h (fun h => ?_)
      refine m_C h (fun h => ?_)
      refine m_S h (fun _ h => ?_)
      refine m_and h (fun h => ?_)
      refine fq1_X2_handOfFirst hG (fun _ _ f5 h => ?_) f2 h
      exact k _ _ f5 h
theorem fq1_X11_relay {X G : Mm} {S : Sh} {K K' : Int → Mm → Prop} {M : Mm} {u1 : Int} {u2 : Int} {u3 : Int} {u4 : Int} {u5 : Int} (hG : Inv X S G) (k : ∀ (a0 : Int) (m : Mm), fq1_F G m → K a0 m → K' a0 m) (f : fq1_F G M) (h : wp_X11_relay S M (0) u1 u2 u3 u4 u5 K) : wp_X11_relay S M (0) u1 u2 u3 u4 u5 K' := by
  refine m_and h (fun h => ?_)
  refine fq1_X11_isStandingJug hG (fun _ _ f1 h => ?_) f h
  refine m_if h (fun h => ?_) (fun h => ?_)
  · skip
    refine m_C h (fun h => ?_)
    exact k _ _ f1 h
  · skip
    refine m_and h (fun h => ?_)
    refine fq1_X11_isPlace hG (fun _ _ f2 h => ?_) f1 h
    refine m_if h (fun h => ?_) (fun h => ?_)
    · skip
      refine m_C h (fun h => ?_)
      exact k _ _ f2 h
    · skip
      refine m_if h (fun h => ?_) (fun h => ?_)
      · skip
        refine m_C h (fun h => ?_)
        exact k _ _ f2 h
      · skip
        refine m_C h (fun h => ?_)
        refine m_if h (fun h => ?_) (fun h => ?_)
        · skip
          refine fq1_X11_isTurned hG (fun _ _ f3 h => ?_) f2 h
          refine m_if h (fun h => ?_) (fun h => ?_)
          · skip
            refine m_C h (fun h => ?_)
            exact k _ _ f3 h
          · skip
            refine fq1_X11_isTurned hG (fun _ _ f4 h => ?_) f3 h
            refine m_if h (fun h => ?_) (fun h => ?_)
            · skip
              refine m_C h (fun h => ?_)
              exact k _ _ f4 h
            · skip
              refine m_if h (fun h => ?_) (fun h => ?_)
              · skip
                refine m_gr (fq1_c_0_1 hG f4) h (fun h => ?_)
                refine m_gr (fq1_c_3_1 hG f4) h (fun h => ?_)
                refine m_gr (fq1_c_16_5 hG f4) h (fun h => ?_)
                refine m_Ld h (fun _ h => ?_)
                refine m_gr (fq1_c_0_1 hG f4) h (fun h => ?_)
                refine m_gr (fq1_c_3_0 hG f4) h (fun h => ?_)
                refine m_and h (fun h => ?_)
                refine fq1_X8_hasWay hG (fun _ _ f5 h => ?_) f4 h
                refine m_if h (fun h => ?_) (fun h => ?_)
                · skip
                  refine m_C h (fun h => ?_)
                  exact k _ _ f5 h
                · skip
                  refine m_if h (fun h => ?_) (fun h => ?_)
                  · skip
                    refine fq1_X11_relay_107 hG k f5 h
                  · skip
                    refine m_gr (fq1_c_0_1 hG f5) h (fun h => ?_)
                    refine m_gr (fq1_c_3_0 hG f5) h (fun h => ?_)
                    refine m_Get h (fun _ h => ?_)
                    refine m_if h (fun h => ?_) (fun h => ?_)
                    · skip
                      refine fq1_X11_relay_107 hG k f5 h
                    · skip
                      refine m_C h (fun h => ?_)
                      exact k _ _ f5 h
              · skip
                refine m_C h (fun h => ?_)
                exact k _ _ f4 h
        · skip
          refine m_C h (fun h => ?_)
          exact k _ _ f2 h
theorem fq1_X6_payWith_47 {X G : Mm} {S : Sh} {K K' : Int → Mm → Prop} {M : Mm} {u2 : Int} {u3 : Int} {u4 : Int} {u5 : Int} {t0 : Int} (hG : Inv X S G) (k : ∀ (a0 : Int) (m : Mm), fq1_F G m → K a0 m → K' a0 m) (f : fq1_F G M) (h : wp_X6_payWith_47 S K (63) (16) u2 u3 u4 u5 t0 M) : wp_X6_payWith_47 S K' (63) (16) u2 u3 u4 u5 t0 M := by
  refine m_if h (fun h => ?_) (fun h => ?_)
  · skip
    refine m_C h (fun h => ?_)
    exact k _ _ f h
  · skip
    refine m_gr (fq1_c_16_8 hG f) h (fun h => ?_)
    refine m_Ld h (fun _ h => ?_)
    refine m_C h (fun h => ?_)
    refine m_if h (fun h => ?_) (fun h => ?_)
    · skip
      refine m_C h (fun h => ?_)
      exact k _ _ f h
    · skip
      refine m_gr (fq1_c_63_0 hG f) h (fun h => ?_)
      refine m_gr (fq1_c_16_7 hG f) h (fun h => ?_)
      refine m_Ld h (fun _ h => ?_)
      refine m_and h (fun h => ?_)
      refine fq1_X8_suits hG (fun _ _ f1 h => ?_) f h
      refine m_if h (fun h => ?_) (fun h => ?_)
      · skip
        refine m_gr (fq1_c_63_0 hG f1) h (fun h => ?_)
        refine m_gr (fq1_c_4_18 hG f1) h (fun h => ?_)
        refine m_Ld h (fun _ h => ?_)
        refine m_gr (fq1_c_63_1 hG f1) h (fun h => ?_)
        refine m_C h (fun h => ?_)
        refine m_O h (fun _ h => ?_)
        refine m_O h (fun _ h => ?_)
        refine m_A h (fun _ h => ?_)
        refine m_Ld h (fun _ h => ?_)
        refine m_A h (fun _ h => ?_)
        exact k _ _ f1 h
      · skip
        refine m_C h (fun h => ?_)
        exact k _ _ f1 h
theorem fq1_X6_payWith_46 {X G : Mm} {S : Sh} {K K' : Int → Mm → Prop} {M : Mm} {u2 : Int} {u3 : Int} {u4 : Int} {u5 : Int} (hG : Inv X S G) (k : ∀ (a0 : Int) (m : Mm), fq1_F G m → K a0 m → K' a0 m) (f : fq1_F G M) (h : wp_X6_payWith_46 S K (63) (16) u2 u3 u4 u5 M) : wp_X6_payWith_46 S K' (63) (16) u2 u3 u4 u5 M := by
  refine m_C h (fun h => ?_)
  refine fq1_X6_payWith_47 hG k f h
theorem fq1_X6_payWith {X G : Mm} {S : Sh} {K K' : Int → Mm → Prop} {M : Mm} {u2 : Int} {u3 : Int} {u4 : Int} (hG : Inv X S G) (k : ∀ (a0 : Int) (m : Mm), fq1_F G m → K a0 m → K' a0 m) (f : fq1_F G M) (h : wp_X6_payWith S M (63) (16) u2 u3 u4 K) : wp_X6_payWith S M (63) (16) u2 u3 u4 K' := by
  refine m_C h (fun h => ?_)
  refine m_A h (fun _ h => ?_)
  refine m_C h (fun h => ?_)
  refine m_M h (fun _ h => ?_)
  refine m_C h (fun h => ?_)
  refine m_if h (fun h => ?_) (fun h => ?_)
  · skip
    refine m_O h (fun _ h => ?_)
    refine m_C h (fun h => ?_)
    refine m_O h (fun _ h => ?_)
    refine m_if h (fun h => ?_) (fun h => ?_)
    · skip
      refine fq1_X6_payWith_46 hG k f h
    · skip
      refine m_and h (fun h => ?_)
      refine fq1_X5_isGone hG (fun _ _ f1 h => ?_) f h
      refine m_if h (fun h => ?_) (fun h => ?_)
      · skip
        refine fq1_X6_payWith_46 hG k f1 h
      · skip
        refine m_C h (fun h => ?_)
        refine fq1_X6_payWith_47 hG k f1 h
  · skip
    refine m_gr (fq1_c_63_1 hG f) h (fun h => ?_)
    refine m_A h (fun _ h => ?_)
    refine m_Ld h (fun _ h => ?_)
    exact k _ _ f h
theorem fq1_X6_matchWants_43 {X G : Mm} {S : Sh} {k18 k18' : Int → Int → Int → Mm → Prop} {k24 k24' : Int → Int → Int → Int → Mm → Prop} {K K' : Mm → Prop} (hG : Inv X S G) (kk18 : ∀ (a2 : Int) (m : Mm), fq1_F G m → k18 (63) (16) a2 m → k18' (63) (16) a2 m) (kk24 : ∀ (a2 : Int) (a3 : Int) (m : Mm), fq1_F G m → k24 (63) (16) a2 a3 m → k24' (63) (16) a2 a3 m) (k : ∀ (m : Mm), fq1_F G m → K m → K' m) : ∀ (n : Nat) (u2 : Int) (u3 : Int) (u4 : Int) (u5 : Int) (M : Mm), fq1_F G M → wp_X6_matchWants_43 S k18 k24 K n (63) (16) u2 u3 u4 u5 M → wp_X6_matchWants_43 S k18' k24' K' n (63) (16) u2 u3 u4 u5 M := by
  intro n
  induction n with
  | zero => intro u2 u3 u4 u5 M f h; exact h
  | succ n ih =>
    intro u2 u3 u4 u5 M f h
    refine m_gr (fq1_c_63_0 hG f) h (fun h => ?_)
    refine m_Get h (fun _ h => ?_)
    refine m_if h (fun h => ?_) (fun h => ?_)
    · skip
      refine m_gr (fq1_c_63_1 hG f) h (fun h => ?_)
      refine m_C h (fun h => ?_)
      refine m_M h (fun _ h => ?_)
      refine m_A h (fun _ h => ?_)
      refine m_St (fq1_up (fq1_a_64 _) f) h (fun _ f1 h => ?_)
      refine m_A h (fun _ h => ?_)
      exact kk24 _ _ _ f1 h
    · skip
      refine m_and h (fun h => ?_)
      refine fq1_X6_payWith hG (fun _ _ f2 h => ?_) f h
      refine m_O h (fun _ h => ?_)
      refine m_A h (fun _ h => ?_)
      exact ih _ _ _ _ _ f2 h
theorem fq1_X6_matchWants_24 {X G : Mm} {S : Sh} {k18 k18' : Int → Int → Int → Mm → Prop} {K K' : Mm → Prop} (hG : Inv X S G) (kk18 : ∀ (a2 : Int) (m : Mm), fq1_F G m → k18 (63) (16) a2 m → k18' (63) (16) a2 m) (k : ∀ (m : Mm), fq1_F G m → K m → K' m) : ∀ (n : Nat) (u2 : Int) (u3 : Int) (M : Mm), fq1_F G M → wp_X6_matchWants_24 S k18 K n (63) (16) u2 u3 M → wp_X6_matchWants_24 S k18' K' n (63) (16) u2 u3 M := by
  intro n
  induction n with
  | zero => intro u2 u3 M f h; exact h
  | succ n ih =>
    intro u2 u3 M f h
    refine m_C h (fun h => ?_)
    refine m_if h (fun h => ?_) (fun h => ?_)
    · skip
      refine m_A h (fun _ h => ?_)
      exact kk18 _ _ f h
    · skip
      refine m_C h (fun h => ?_)
      refine m_and h (fun h => ?_)
      refine fq1_X6_payWith hG (fun _ _ f1 h => ?_) f h
      refine m_C h (fun h => ?_)
      refine m_ex h (fun n9 h => ?_)
      refine fq1_X6_matchWants_43 hG kk18 (fun _ _ _ f2 h => ?_) k _ _ _ _ _ _ f1 h
      exact ih _ _ _ f2 h
theorem fq1_X6_matchWants_18 {X G : Mm} {S : Sh} {K K' : Mm → Prop} (hG : Inv X S G) (k : ∀ (m : Mm), fq1_F G m → K m → K' m) : ∀ (n : Nat) (u2 : Int) (M : Mm), fq1_F G M → wp_X6_matchWants_18 S K n (63) (16) u2 M → wp_X6_matchWants_18 S K' n (63) (16) u2 M := by
  intro n
  induction n with
  | zero => intro u2 M f h; exact h
  | succ n ih =>
    intro u2 M f h
    refine m_if h (fun h => ?_) (fun h => ?_)
    · skip
      exact k _ f h
    · skip
      refine m_C h (fun h => ?_)
      refine m_ex h (fun n9 h => ?_)
      refine fq1_X6_matchWants_24 hG (fun _ _ f1 h => ?_) k _ _ _ _ f h
      exact ih _ _ f1 h
theorem fq1_X6_matchWants {X G : Mm} {S : Sh} {K K' : Mm → Prop} {M : Mm} (hG : Inv X S G) (k : ∀ (m : Mm), fq1_F G m → K m → K' m) (f : fq1_F G M) (h : wp_X6_matchWants S M (63) (16) K) : wp_X6_matchWants S M (63) (16) K' := by
  refine m_gr (fq1_c_63_1 hG f) h (fun h => ?_)
  refine m_C h (fun h => ?_)
  refine fq1_J7_fill_53178 hG fq1_a_64 (fun _ f1 h => ?_) f h
  refine m_gr (fq1_c_63_0 hG f1) h (fun h => ?_)
  refine m_Get h (fun _ h => ?_)
  refine m_C h (fun h => ?_)
  refine m_S h (fun _ h => ?_)
  refine m_ex h (fun n9 h => ?_)
  refine fq1_X6_matchWants_18 hG k _ _ _ f1 h
theorem fq1_X6_mostPay {X G : Mm} {S : Sh} {K K' : Int → Mm → Prop} {M : Mm} (hG : Inv X S G) (k : ∀ (a0 : Int) (m : Mm), fq1_F G m → K a0 m → K' a0 m) (f : fq1_F G M) (h : wp_X6_mostPay S M (63) K) : wp_X6_mostPay S M (63) K' := by
  refine m_gr (fq1_c_63_1 hG f) h (fun h => ?_)
  refine m_C h (fun h => ?_)
  refine m_Ld h (fun _ h => ?_)
  exact k _ _ f h
theorem fq1_X6_firstBest_3 {X G : Mm} {S : Sh} {K K' : Int → Mm → Prop} (hG : Inv X S G) (k : ∀ (a0 : Int) (m : Mm), fq1_F G m → K a0 m → K' a0 m) : ∀ (n : Nat) (u2 : Int) (u3 : Int) (u4 : Int) (M : Mm), fq1_F G M → wp_X6_firstBest_3 S K n (63) (16) u2 u3 u4 M → wp_X6_firstBest_3 S K' n (63) (16) u2 u3 u4 M := by
  intro n
  induction n with
  | zero => intro u2 u3 u4 M f h; exact h
  | succ n ih =>
    intro u2 u3 u4 M f h
    refine m_gr (fq1_c_63_0 hG f) h (fun h => ?_)
    refine m_Get h (fun _ h => ?_)
    refine m_if h (fun h => ?_) (fun h => ?_)
    · skip
      refine m_C h (fun h => ?_)
      exact k _ _ f h
    · skip
      refine m_and h (fun h => ?_)
      refine fq1_X6_payWith hG (fun _ _ f1 h => ?_) f h
      refine m_gr (fq1_c_63_1 hG f1) h (fun h => ?_)
      refine m_C h (fun h => ?_)
      refine m_M h (fun _ h => ?_)
      refine m_A h (fun _ h => ?_)
      refine m_Ld h (fun _ h => ?_)
      refine m_if h (fun h => ?_) (fun h => ?_)
      · skip
        refine m_A h (fun _ h => ?_)
        exact ih _ _ _ _ f1 h
      · skip
        exact k _ _ f1 h
theorem fq1_X6_firstBest {X G : Mm} {S : Sh} {K K' : Int → Mm → Prop} {M : Mm} {u2 : Int} {u3 : Int} (hG : Inv X S G) (k : ∀ (a0 : Int) (m : Mm), fq1_F G m → K a0 m → K' a0 m) (f : fq1_F G M) (h : wp_X6_firstBest S M (63) (16) u2 u3 K) : wp_X6_firstBest S M (63) (16) u2 u3 K' := by
  refine m_C h (fun h => ?_)
  refine m_ex h (fun n9 h => ?_)
  refine fq1_X6_firstBest_3 hG k _ _ _ _ _ f h
theorem fq1_X6_jugOfWant_39 {X G : Mm} {S : Sh} {k8 k8' : Int → Int → Int → Int → Int → Int → Mm → Prop} {K K' : Int → Mm → Prop} {M : Mm} {u2 : Int} {u4 : Int} {u5 : Int} {t0 : Int} {t1 : Int} (hG : Inv X S G) (kk8 : ∀ (a2 : Int) (a3 : Int) (a4 : Int) (a5 : Int) (m : Mm), fq1_F G m → k8 (63) (16) a2 a3 a4 a5 m → k8' (63) (16) a2 a3 a4 a5 m) (k : ∀ (a0 : Int) (m : Mm), fq1_F G m → K a0 m → K' a0 m) (f : fq1_F G M) (h : wp_X6_jugOfWant_39 S k8 K (63) (16) u2 u4 u5 t0 t1 M) : wp_X6_jugOfWant_39 S k8' K' (63) (16) u2 u4 u5 t0 t1 M := by
  refine m_O h (fun _ h => ?_)
  refine m_A h (fun _ h => ?_)
  exact kk8 _ _ _ _ _ f h
theorem fq1_X6_jugOfWant_8 {X G : Mm} {S : Sh} {K K' : Int → Mm → Prop} (hG : Inv X S G) (k : ∀ (a0 : Int) (m : Mm), fq1_F G m → K a0 m → K' a0 m) : ∀ (n : Nat) (u2 : Int) (u3 : Int) (u4 : Int) (u5 : Int) (M : Mm), fq1_F G M → wp_X6_jugOfWant_8 S K n (63) (16) u2 u3 u4 u5 M → wp_X6_jugOfWant_8 S K' n (63) (16) u2 u3 u4 u5 M := by
  intro n
  induction n with
  | zero => intro u2 u3 u4 u5 M f h; exact h
  | succ n ih =>
    intro u2 u3 u4 u5 M f h
    refine m_if h (fun h => ?_) (fun h => ?_)
    · skip
      exact k _ _ f h
    · skip
      refine m_and h (fun h => ?_)
      refine fq1_X6_firstBest hG (fun _ _ f1 h => ?_) f h
      refine m_C h (fun h => ?_)
      refine m_if h (fun h => ?_) (fun h => ?_)
      · skip
        refine m_C h (fun h => ?_)
        refine m_O h (fun _ h => ?_)
        refine fq1_X6_jugOfWant_39 hG (fun _ _ _ _ _ f2 h => ?_) k f1 h
        exact ih _ _ _ _ _ f2 h
      · skip
        refine m_C h (fun h => ?_)
        refine fq1_X6_jugOfWant_39 hG (fun _ _ _ _ _ f3 h => ?_) k f1 h
        exact ih _ _ _ _ _ f3 h
theorem fq1_X6_jugOfWant {X G : Mm} {S : Sh} {K K' : Int → Mm → Prop} {M : Mm} {u2 : Int} (hG : Inv X S G) (k : ∀ (a0 : Int) (m : Mm), fq1_F G m → K a0 m → K' a0 m) (f : fq1_F G M) (h : wp_X6_jugOfWant S M (63) (16) u2 K) : wp_X6_jugOfWant S M (63) (16) u2 K' := by
  refine m_C h (fun h => ?_)
  refine m_C h (fun h => ?_)
  refine m_C h (fun h => ?_)
  refine m_ex h (fun n9 h => ?_)
  refine fq1_X6_jugOfWant_8 hG k _ _ _ _ _ _ f h
theorem fq1_X11_match {X G : Mm} {S : Sh} {K K' : Int → Mm → Prop} {M : Mm} {u1 : Int} (hG : Inv X S G) (k : ∀ (a0 : Int) (m : Mm), fq1_F G m → K a0 m → K' a0 m) (f : fq1_F G M) (h : wp_X11_match S M (0) u1 K) : wp_X11_match S M (0) u1 K' := by
  refine m_gr (fq1_c_0_1 hG f) h (fun h => ?_)
  refine m_gr (fq1_c_3_0 hG f) h (fun h => ?_)
  refine m_Get h (fun _ h => ?_)
  refine m_if h (fun h => ?_) (fun h => ?_)
  · skip
    refine m_C h (fun h => ?_)
    exact k _ _ f h
  · skip
    refine m_if h (fun h => ?_) (fun h => ?_)
    · skip
      refine m_C h (fun h => ?_)
      exact k _ _ f h
    · skip
      refine m_C h (fun h => ?_)
      refine m_if h (fun h => ?_) (fun h => ?_)
      · skip
        refine m_gr (fq1_c_0_1 hG f) h (fun h => ?_)
        refine m_gr (fq1_c_3_0 hG f) h (fun h => ?_)
        refine m_Get h (fun _ h => ?_)
        refine m_if h (fun h => ?_) (fun h => ?_)
        · skip
          refine m_gr (fq1_c_0_13 hG f) h (fun h => ?_)
          refine m_gr (fq1_c_0_1 hG f) h (fun h => ?_)
          refine m_gr (fq1_c_3_1 hG f) h (fun h => ?_)
          refine m_and h (fun h => ?_)
          refine fq1_X6_matchWants hG (fun _ f1 h => ?_) f h
          refine m_if h (fun h => ?_) (fun h => ?_)
          · skip
            refine m_gr (fq1_c_0_13 hG f1) h (fun h => ?_)
            refine m_gr (fq1_c_0_1 hG f1) h (fun h => ?_)
            refine m_gr (fq1_c_3_1 hG f1) h (fun h => ?_)
            refine m_C h (fun h => ?_)
            refine m_S h (fun _ h => ?_)
            refine m_and h (fun h => ?_)
            refine fq1_X6_jugOfWant hG (fun _ _ f2 h => ?_) f1 h
            exact k _ _ f2 h
          · skip
            refine m_gr (fq1_c_0_13 hG f1) h (fun h => ?_)
            refine m_and h (fun h => ?_)
            refine fq1_X6_mostPay hG (fun _ _ f3 h => ?_) f1 h
            exact k _ _ f3 h
        · skip
          refine m_C h (fun h => ?_)
          exact k _ _ f h
      · skip
        refine m_C h (fun h => ?_)
        exact k _ _ f h
theorem fq1_X10_restAnHour {X G : Mm} {S : Sh} {K K' : Mm → Prop} {M : Mm} (hG : Inv X S G) (k : ∀ (m : Mm), fq1_F G m → K m → K' m) (f : fq1_F G M) (h : wp_X10_restAnHour S M (55) K) : wp_X10_restAnHour S M (55) K' := by
  refine m_C h (fun h => ?_)
  refine m_Get h (fun _ h => ?_)
  refine m_C h (fun h => ?_)
  refine m_S h (fun _ h => ?_)
  refine m_O h (fun _ h => ?_)
  refine m_Put (fq1_up (by decide) f) h (fun _ f1 h => ?_)
  refine m_C h (fun h => ?_)
  refine m_Get h (fun _ h => ?_)
  refine m_C h (fun h => ?_)
  refine m_A h (fun _ h => ?_)
  refine m_O h (fun _ h => ?_)
  refine m_Put (fq1_up (by decide) f1) h (fun _ f2 h => ?_)
  exact k _ f2 h
theorem fq1_X9_turnedByTurns_105 {X G : Mm} {S : Sh} {k42 k42' : Int → Int → Int → Int → Int → Mm → Prop} {K K' : Int → Mm → Prop} {M : Mm} {u1 : Int} {u2 : Int} {u3 : Int} {u4 : Int} (hG : Inv X S G) (kk42 : ∀ (a1 : Int) (a2 : Int) (a3 : Int) (a4 : Int) (m : Mm), fq1_F G m → k42 (66) a1 a2 a3 a4 m → k42' (66) a1 a2 a3 a4 m) (k : ∀ (a0 : Int) (m : Mm), fq1_F G m → K a0 m → K' a0 m) (f : fq1_F G M) (h : wp_X9_turnedByTurns_105 S k42 K (66) u1 u2 u3 u4 M) : wp_X9_turnedByTurns_105 S k42' K' (66) u1 u2 u3 u4 M := by
  refine m_A h (fun _ h => ?_)
  exact kk42 _ _ _ _ _ f h
theorem fq1_X9_turnedByTurns_74 {X G : Mm} {S : Sh} {k42 k42' : Int → Int → Int → Int → Int → Mm → Prop} {K K' : Int → Mm → Prop} {M : Mm} {u1 : Int} {u2 : Int} {u3 : Int} {u4 : Int} {t1 : Int} (hG : Inv X S G) (kk42 : ∀ (a1 : Int) (a2 : Int) (a3 : Int) (a4 : Int) (m : Mm), fq1_F G m → k42 (66) a1 a2 a3 a4 m → k42' (66) a1 a2 a3 a4 m) (k : ∀ (a0 : Int) (m : Mm), fq1_F G m → K a0 m → K' a0 m) (f : fq1_F G M) (h : wp_X9_turnedByTurns_74 S k42 K (66) u1 u2 u3 u4 (55) t1 M) : wp_X9_turnedByTurns_74 S k42' K' (66) u1 u2 u3 u4 (55) t1 M := by
  refine m_Put (fq1_up (by decide) f) h (fun _ f1 h => ?_)
  refine m_O h (fun _ h => ?_)
  refine m_C h (fun h => ?_)
  refine m_O h (fun _ h => ?_)
  refine m_C h (fun h => ?_)
  refine m_if h (fun h => ?_) (fun h => ?_)
  · skip
    refine m_gr (fq1_c_66_1 hG f1) h (fun h => ?_)
    refine m_and h (fun h => ?_)
    refine fq1_X10_restAnHour hG (fun _ f2 h => ?_) f1 h
    refine fq1_X9_turnedByTurns_105 hG kk42 k f2 h
  · skip
    refine m_gr (fq1_c_66_1 hG f1) h (fun h => ?_)
    refine m_C h (fun h => ?_)
    refine m_and h (fun h => ?_)
    refine fq1_X10_holdFor hG (fun _ f3 h => ?_) f1 h
    refine fq1_X9_turnedByTurns_105 hG kk42 k f3 h
theorem fq1_X9_turnedByTurns_42 {X G : Mm} {S : Sh} {K K' : Int → Mm → Prop} (hG : Inv X S G) (k : ∀ (a0 : Int) (m : Mm), fq1_F G m → K a0 m → K' a0 m) : ∀ (n : Nat) (u1 : Int) (u2 : Int) (u3 : Int) (u4 : Int) (M : Mm), fq1_F G M → wp_X9_turnedByTurns_42 S K n (66) u1 u2 u3 u4 M → wp_X9_turnedByTurns_42 S K' n (66) u1 u2 u3 u4 M := by
  intro n
  induction n with
  | zero => intro u1 u2 u3 u4 M f h; exact h
  | succ n ih =>
    intro u1 u2 u3 u4 M f h
    refine m_if h (fun h => ?_) (fun h => ?_)
    · skip
      refine m_gr (fq1_c_66_1 hG f) h (fun h => ?_)
      refine m_Get h (fun _ h => ?_)
      exact k _ _ f h
    · skip
      refine m_gr (fq1_c_66_1 hG f) h (fun h => ?_)
      refine m_gr (fq1_c_66_0 hG f) h (fun h => ?_)
      refine m_gr (fq1_c_3_1 hG f) h (fun h => ?_)
      refine m_gr (fq1_c_16_3 hG f) h (fun h => ?_)
      refine m_Ld h (fun _ h => ?_)
      refine m_if h (fun h => ?_) (fun h => ?_)
      · skip
        refine m_C h (fun h => ?_)
        refine fq1_X9_turnedByTurns_74 hG (fun _ _ _ _ _ f1 h => ?_) k f h
        exact ih _ _ _ _ _ f1 h
      · skip
        refine m_C h (fun h => ?_)
        refine fq1_X9_turnedByTurns_74 hG (fun _ _ _ _ _ f2 h => ?_) k f h
        exact ih _ _ _ _ _ f2 h
theorem fq1_X9_turnedByTurns {X G : Mm} {S : Sh} {K K' : Int → Mm → Prop} {M : Mm} {u1 : Int} {u2 : Int} {u3 : Int} (hG : Inv X S G) (k : ∀ (a0 : Int) (m : Mm), fq1_F G m → K a0 m → K' a0 m) (f : fq1_F G M) (h : wp_X9_turnedByTurns S M (66) u1 u2 u3 K) : wp_X9_turnedByTurns S M (66) u1 u2 u3 K' := by
  refine m_gr (fq1_c_66_1 hG f) h (fun h => ?_)
  refine m_C h (fun h => ?_)
  refine m_C h (fun h => ?_)
  refine m_gr (fq1_c_66_0 hG f) h (fun h => ?_)
  refine m_gr (fq1_c_3_1 hG f) h (fun h => ?_)
  refine m_Get h (fun _ h => ?_)
  refine m_and h (fun h => ?_)
  refine fq1_X10_suppose hG (fun _ f1 h => ?_) f h
  refine m_gr (fq1_c_66_1 hG f1) h (fun h => ?_)
  refine m_gr (fq1_c_66_0 hG f1) h (fun h => ?_)
  refine m_gr (fq1_c_3_1 hG f1) h (fun h => ?_)
  refine m_gr (fq1_c_16_4 hG f1) h (fun h => ?_)
  refine m_Ld h (fun _ h => ?_)
  refine m_Put (fq1_up (by decide) f1) h (fun _ f2 h => ?_)
  refine m_C h (fun h => ?_)
  refine m_ex h (fun n9 h => ?_)
  refine fq1_X9_turnedByTurns_42 hG k _ _ _ _ _ _ f2 h
theorem fq1_X11_rest_97 {X G : Mm} {S : Sh} {k52 k52' : Int → Int → Int → Int → Int → Int → Int → Int → Mm → Prop} {K K' : Int → Mm → Prop} {M : Mm} {u1 : Int} {u2 : Int} {u3 : Int} {u4 : Int} {u5 : Int} {u6 : Int} {u7 : Int} (hG : Inv X S G) (kk52 : ∀ (a1 : Int) (a2 : Int) (a3 : Int) (a4 : Int) (a5 : Int) (a6 : Int) (a7 : Int) (m : Mm), fq1_F G m → k52 (0) a1 a2 a3 a4 a5 a6 a7 m → k52' (0) a1 a2 a3 a4 a5 a6 a7 m) (k : ∀ (a0 : Int) (m : Mm), fq1_F G m → K a0 m → K' a0 m) (f : fq1_F G M) (h : wp_X11_rest_97 S k52 K (0) u1 u2 u3 u4 u5 u6 u7 M) : wp_X11_rest_97 S k52' K' (0) u1 u2 u3 u4 u5 u6 u7 M := by
  refine m_A h (fun _ h => ?_)
  exact kk52 _ _ _ _ _ _ _ _ f h
theorem fq1_X11_rest_52 {X G : Mm} {S : Sh} {K K' : Int → Mm → Prop} (hG : Inv X S G) (k : ∀ (a0 : Int) (m : Mm), fq1_F G m → K a0 m → K' a0 m) : ∀ (n : Nat) (u1 : Int) (u2 : Int) (u3 : Int) (u4 : Int) (u5 : Int) (u6 : Int) (u7 : Int) (M : Mm), fq1_F G M → wp_X11_rest_52 S K n (0) u1 u2 u3 u4 u5 u6 u7 M → wp_X11_rest_52 S K' n (0) u1 u2 u3 u4 u5 u6 u7 M := by
  intro n
  induction n with
  | zero => intro u1 u2 u3 u4 u5 u6 u7 M f h; exact h
  | succ n ih =>
    intro u1 u2 u3 u4 u5 u6 u7 M f h
    refine m_C h (fun h => ?_)
    refine m_O h (fun _ h => ?_)
    refine m_if h (fun h => ?_) (fun h => ?_)
    · skip
      refine m_if h (fun h => ?_) (fun h => ?_)
      · skip
        exact k _ _ f h
      · skip
        exact k _ _ f h
    · skip
      refine fq1_J6_bitCount_0f7a4 hG (fun _ _ f1 h => ?_) f h
      refine m_if h (fun h => ?_) (fun h => ?_)
      · skip
        refine fq1_X11_rest_97 hG (fun _ _ _ _ _ _ _ _ f2 h => ?_) k f1 h
        exact ih _ _ _ _ _ _ _ _ f2 h
      · skip
        refine m_gr (fq1_c_0_14 hG f1) h (fun h => ?_)
        refine m_and h (fun h => ?_)
        refine fq1_X9_turnedByTurns hG (fun _ _ f3 h => ?_) f1 h
        refine m_if h (fun h => ?_) (fun h => ?_)
        · skip
          refine fq1_X11_rest_97 hG (fun _ _ _ _ _ _ _ _ f4 h => ?_) k f3 h
          exact ih _ _ _ _ _ _ _ _ f4 h
        · skip
          refine fq1_X11_rest_97 hG (fun _ _ _ _ _ _ _ _ f5 h => ?_) k f3 h
          exact ih _ _ _ _ _ _ _ _ f5 h
theorem fq1_X11_rest {X G : Mm} {S : Sh} {K K' : Int → Mm → Prop} {M : Mm} {u1 : Int} {u2 : Int} {u3 : Int} {u4 : Int} (hG : Inv X S G) (k : ∀ (a0 : Int) (m : Mm), fq1_F G m → K a0 m → K' a0 m) (f : fq1_F G M) (h : wp_X11_rest S M (0) u1 u2 u3 u4 K) : wp_X11_rest S M (0) u1 u2 u3 u4 K' := by
  refine m_and h (fun h => ?_)
  refine fq1_X11_isHand hG (fun _ _ f1 h => ?_) f h
  refine m_if h (fun h => ?_) (fun h => ?_)
  · skip
    refine m_C h (fun h => ?_)
    exact k _ _ f1 h
  · skip
    refine m_C h (fun h => ?_)
    refine m_if h (fun h => ?_) (fun h => ?_)
    · skip
      refine m_C h (fun h => ?_)
      exact k _ _ f1 h
    · skip
      refine m_C h (fun h => ?_)
      refine m_if h (fun h => ?_) (fun h => ?_)
      · skip
        refine m_C h (fun h => ?_)
        exact k _ _ f1 h
      · skip
        refine m_if h (fun h => ?_) (fun h => ?_)
        · skip
          refine m_C h (fun h => ?_)
          exact k _ _ f1 h
        · skip
          refine m_if h (fun h => ?_) (fun h => ?_)
          · skip
            refine m_C h (fun h => ?_)
            exact k _ _ f1 h
          · skip
            refine m_if h (fun h => ?_) (fun h => ?_)
            · skip
              refine m_C h (fun h => ?_)
              exact k _ _ f1 h
            · skip
              refine m_C h (fun h => ?_)
              refine m_if h (fun h => ?_) (fun h => ?_)
              · skip
                refine m_C h (fun h => ?_)
                refine m_C h (fun h => ?_)
                refine m_C h (fun h => ?_)
                refine m_ex h (fun n9 h => ?_)
                refine fq1_X11_rest_52 hG k _ _ _ _ _ _ _ _ _ f1 h
              · skip
                refine m_C h (fun h => ?_)
                exact k _ _ f1 h
theorem fq1_X9_passesAll_2 {X G : Mm} {S : Sh} {K K' : Int → Mm → Prop} (hG : Inv X S G) (k : ∀ (a0 : Int) (m : Mm), fq1_F G m → K a0 m → K' a0 m) : ∀ (n : Nat) (u1 : Int) (u2 : Int) (M : Mm), fq1_F G M → wp_X9_passesAll_2 S K n (66) u1 u2 M → wp_X9_passesAll_2 S K' n (66) u1 u2 M := by
  intro n
  induction n with
  | zero => intro u1 u2 M f h; exact h
  | succ n ih =>
    intro u1 u2 M f h
    refine m_gr (fq1_c_66_0 hG f) h (fun h => ?_)
    refine m_Get h (fun _ h => ?_)
    refine m_if h (fun h => ?_) (fun h => ?_)
    · skip
      refine m_C h (fun h => ?_)
      refine m_and h (fun h => ?_)
      exact k _ _ f h
    · skip
      refine m_gr (fq1_c_66_1 hG f) h (fun h => ?_)
      refine m_C h (fun h => ?_)
      refine m_gr (fq1_c_66_0 hG f) h (fun h => ?_)
      refine m_gr (fq1_c_3_5 hG f) h (fun h => ?_)
      refine m_Ld h (fun _ h => ?_)
      refine m_gr (fq1_c_66_0 hG f) h (fun h => ?_)
      refine m_gr (fq1_c_3_7 hG f) h (fun h => ?_)
      refine m_Ld h (fun _ h => ?_)
      refine m_and h (fun h => ?_)
      refine fq1_X10_suppose hG (fun _ f1 h => ?_) f h
      refine m_gr (fq1_c_66_1 hG f1) h (fun h => ?_)
      refine m_gr (fq1_c_66_0 hG f1) h (fun h => ?_)
      refine m_gr (fq1_c_3_6 hG f1) h (fun h => ?_)
      refine m_Ld h (fun _ h => ?_)
      refine m_and h (fun h => ?_)
      refine fq1_X10_holdFor hG (fun _ f2 h => ?_) f1 h
      refine m_gr (fq1_c_66_1 hG f2) h (fun h => ?_)
      refine m_Get h (fun _ h => ?_)
      refine m_gr (fq1_c_66_0 hG f2) h (fun h => ?_)
      refine m_gr (fq1_c_3_8 hG f2) h (fun h => ?_)
      refine m_Ld h (fun _ h => ?_)
      refine m_if h (fun h => ?_) (fun h => ?_)
      · skip
        refine m_A h (fun _ h => ?_)
        exact ih _ _ _ f2 h
      · skip
        refine m_C h (fun h => ?_)
        refine m_and h (fun h => ?_)
        exact k _ _ f2 h
theorem fq1_X9_passesAll {X G : Mm} {S : Sh} {K K' : Int → Mm → Prop} {M : Mm} {u1 : Int} (hG : Inv X S G) (k : ∀ (a0 : Int) (m : Mm), fq1_F G m → K a0 m → K' a0 m) (f : fq1_F G M) (h : wp_X9_passesAll S M (66) u1 K) : wp_X9_passesAll S M (66) u1 K' := by
  refine m_C h (fun h => ?_)
  refine m_ex h (fun n9 h => ?_)
  refine fq1_X9_passesAll_2 hG k _ _ _ _ f h
theorem fq1_X9_handsByTests_32 {X G : Mm} {S : Sh} {k4 k4' : Int → Int → Int → Mm → Prop} {K K' : Int → Mm → Prop} {M : Mm} {u1 : Int} {u2 : Int} (hG : Inv X S G) (kk4 : ∀ (a1 : Int) (a2 : Int) (m : Mm), fq1_F G m → k4 (66) a1 a2 m → k4' (66) a1 a2 m) (k : ∀ (a0 : Int) (m : Mm), fq1_F G m → K a0 m → K' a0 m) (f : fq1_F G M) (h : wp_X9_handsByTests_32 S k4 K (66) u1 u2 M) : wp_X9_handsByTests_32 S k4' K' (66) u1 u2 M := by
  refine m_A h (fun _ h => ?_)
  exact kk4 _ _ _ f h
theorem fq1_X9_handsByTests_4 {X G : Mm} {S : Sh} {K K' : Int → Mm → Prop} (hG : Inv X S G) (k : ∀ (a0 : Int) (m : Mm), fq1_F G m → K a0 m → K' a0 m) : ∀ (n : Nat) (u1 : Int) (u2 : Int) (M : Mm), fq1_F G M → wp_X9_handsByTests_4 S K n (66) u1 u2 M → wp_X9_handsByTests_4 S K' n (66) u1 u2 M := by
  intro n
  induction n with
  | zero => intro u1 u2 M f h; exact h
  | succ n ih =>
    intro u1 u2 M f h
    refine m_gr (fq1_c_66_0 hG f) h (fun h => ?_)
    refine m_gr (fq1_c_3_0 hG f) h (fun h => ?_)
    refine m_Get h (fun _ h => ?_)
    refine m_if h (fun h => ?_) (fun h => ?_)
    · skip
      exact k _ _ f h
    · skip
      refine m_and h (fun h => ?_)
      refine fq1_X9_passesAll hG (fun _ _ f1 h => ?_) f h
      refine m_if h (fun h => ?_) (fun h => ?_)
      · skip
        refine fq1_X9_handsByTests_32 hG (fun _ _ _ f2 h => ?_) k f1 h
        exact ih _ _ _ f2 h
      · skip
        refine m_C h (fun h => ?_)
        refine m_O h (fun _ h => ?_)
        refine m_O h (fun _ h => ?_)
        refine fq1_X9_handsByTests_32 hG (fun _ _ _ f3 h => ?_) k f1 h
        exact ih _ _ _ f3 h
theorem fq1_X9_handsByTests {X G : Mm} {S : Sh} {K K' : Int → Mm → Prop} {M : Mm} (hG : Inv X S G) (k : ∀ (a0 : Int) (m : Mm), fq1_F G m → K a0 m → K' a0 m) (f : fq1_F G M) (h : wp_X9_handsByTests S M (66) K) : wp_X9_handsByTests S M (66) K' := by
  refine m_C h (fun h => ?_)
  refine m_C h (fun h => ?_)
  refine m_ex h (fun n9 h => ?_)
  refine fq1_X9_handsByTests_4 hG k _ _ _ _ f h
theorem fq1_X11_who {X G : Mm} {S : Sh} {K K' : Int → Mm → Prop} {M : Mm} {u1 : Int} (hG : Inv X S G) (k : ∀ (a0 : Int) (m : Mm), fq1_F G m → K a0 m → K' a0 m) (f : fq1_F G M) (h : wp_X11_who S M (0) u1 K) : wp_X11_who S M (0) u1 K' := by
  refine m_gr (fq1_c_0_1 hG f) h (fun h => ?_)
  refine m_gr (fq1_c_3_0 hG f) h (fun h => ?_)
  refine m_Get h (fun _ h => ?_)
  refine m_if h (fun h => ?_) (fun h => ?_)
  · skip
    refine m_C h (fun h => ?_)
    exact k _ _ f h
  · skip
    refine m_if h (fun h => ?_) (fun h => ?_)
    · skip
      refine m_C h (fun h => ?_)
      exact k _ _ f h
    · skip
      refine m_C h (fun h => ?_)
      refine m_if h (fun h => ?_) (fun h => ?_)
      · skip
        refine m_gr (fq1_c_0_14 hG f) h (fun h => ?_)
        refine m_and h (fun h => ?_)
        refine fq1_X9_handsByTests hG (fun _ _ f1 h => ?_) f h
        refine m_if h (fun h => ?_) (fun h => ?_)
        · skip
          refine fq1_J6_bitCount_0f7a4 hG (fun _ _ f2 h => ?_) f1 h
          exact k _ _ f2 h
        · skip
          refine m_if h (fun h => ?_) (fun h => ?_)
          · skip
            refine m_if h (fun h => ?_) (fun h => ?_)
            · skip
              refine fq1_J6_numberOfTrailingZeros_0f7a4 hG (fun _ _ f3 h => ?_) f1 h
              exact k _ _ f3 h
            · skip
              refine m_C h (fun h => ?_)
              exact k _ _ f1 h
          · skip
            exact k _ _ f1 h
      · skip
        refine m_C h (fun h => ?_)
        exact k _ _ f h
theorem fq1_X9_mostAlike_119 {X G : Mm} {S : Sh} {k5 k5' : Int → Int → Int → Int → Int → Mm → Prop} {K K' : Int → Mm → Prop} {M : Mm} {u1 : Int} {u2 : Int} {u4 : Int} {t0 : Int} (hG : Inv X S G) (kk5 : ∀ (a1 : Int) (a2 : Int) (a3 : Int) (a4 : Int) (m : Mm), fq1_F G m → k5 (66) a1 a2 a3 a4 m → k5' (66) a1 a2 a3 a4 m) (k : ∀ (a0 : Int) (m : Mm), fq1_F G m → K a0 m → K' a0 m) (f : fq1_F G M) (h : wp_X9_mostAlike_119 S k5 K (66) u1 u2 u4 t0 M) : wp_X9_mostAlike_119 S k5' K' (66) u1 u2 u4 t0 M := by
  refine m_A h (fun _ h => ?_)
  exact kk5 _ _ _ _ _ f h
theorem fq1_X9_mostAlike_90 {X G : Mm} {S : Sh} {k5 k5' : Int → Int → Int → Int → Int → Mm → Prop} {k26 k26' : Int → Int → Int → Int → Int → Int → Int → Mm → Prop} {K K' : Int → Mm → Prop} {M : Mm} {u1 : Int} {u2 : Int} {u3 : Int} {u4 : Int} {u6 : Int} {t0 : Int} {t1 : Int} (hG : Inv X S G) (kk5 : ∀ (a1 : Int) (a2 : Int) (a3 : Int) (a4 : Int) (m : Mm), fq1_F G m → k5 (66) a1 a2 a3 a4 m → k5' (66) a1 a2 a3 a4 m) (kk26 : ∀ (a1 : Int) (a2 : Int) (a3 : Int) (a4 : Int) (a5 : Int) (a6 : Int) (m : Mm), fq1_F G m → k26 (66) a1 a2 a3 a4 a5 a6 m → k26' (66) a1 a2 a3 a4 a5 a6 m) (k : ∀ (a0 : Int) (m : Mm), fq1_F G m → K a0 m → K' a0 m) (f : fq1_F G M) (h : wp_X9_mostAlike_90 S k5 k26 K (66) u1 u2 u3 u4 u6 t0 t1 M) : wp_X9_mostAlike_90 S k5' k26' K' (66) u1 u2 u3 u4 u6 t0 t1 M := by
  refine m_A h (fun _ h => ?_)
  refine m_A h (fun _ h => ?_)
  exact kk26 _ _ _ _ _ _ _ f h
theorem fq1_X9_mostAlike_89 {X G : Mm} {S : Sh} {k5 k5' : Int → Int → Int → Int → Int → Mm → Prop} {k26 k26' : Int → Int → Int → Int → Int → Int → Int → Mm → Prop} {K K' : Int → Mm → Prop} {M : Mm} {u1 : Int} {u2 : Int} {u3 : Int} {u4 : Int} {u6 : Int} {t0 : Int} (hG : Inv X S G) (kk5 : ∀ (a1 : Int) (a2 : Int) (a3 : Int) (a4 : Int) (m : Mm), fq1_F G m → k5 (66) a1 a2 a3 a4 m → k5' (66) a1 a2 a3 a4 m) (kk26 : ∀ (a1 : Int) (a2 : Int) (a3 : Int) (a4 : Int) (a5 : Int) (a6 : Int) (m : Mm), fq1_F G m → k26 (66) a1 a2 a3 a4 a5 a6 m → k26' (66) a1 a2 a3 a4 a5 a6 m) (k : ∀ (a0 : Int) (m : Mm), fq1_F G m → K a0 m → K' a0 m) (f : fq1_F G M) (h : wp_X9_mostAlike_89 S k5 k26 K (66) u1 u2 u3 u4 u6 t0 M) : wp_X9_mostAlike_89 S k5' k26' K' (66) u1 u2 u3 u4 u6 t0 M := by
  refine m_C h (fun h => ?_)
  refine fq1_X9_mostAlike_90 hG kk5 kk26 k f h
theorem fq1_X9_mostAlike_26 {X G : Mm} {S : Sh} {k5 k5' : Int → Int → Int → Int → Int → Mm → Prop} {K K' : Int → Mm → Prop} (hG : Inv X S G) (kk5 : ∀ (a1 : Int) (a2 : Int) (a3 : Int) (a4 : Int) (m : Mm), fq1_F G m → k5 (66) a1 a2 a3 a4 m → k5' (66) a1 a2 a3 a4 m) (k : ∀ (a0 : Int) (m : Mm), fq1_F G m → K a0 m → K' a0 m) : ∀ (n : Nat) (u1 : Int) (u2 : Int) (u3 : Int) (u4 : Int) (u5 : Int) (u6 : Int) (M : Mm), fq1_F G M → wp_X9_mostAlike_26 S k5 K n (66) u1 u2 u3 u4 u5 u6 M → wp_X9_mostAlike_26 S k5' K' n (66) u1 u2 u3 u4 u5 u6 M := by
  intro n
  induction n with
  | zero => intro u1 u2 u3 u4 u5 u6 M f h; exact h
  | succ n ih =>
    intro u1 u2 u3 u4 u5 u6 M f h
    refine m_gr (fq1_c_66_0 hG f) h (fun h => ?_)
    refine m_gr (fq1_c_3_0 hG f) h (fun h => ?_)
    refine m_Get h (fun _ h => ?_)
    refine m_if h (fun h => ?_) (fun h => ?_)
    · skip
      refine m_O h (fun _ h => ?_)
      refine m_C h (fun h => ?_)
      refine m_O h (fun _ h => ?_)
      refine m_C h (fun h => ?_)
      refine m_if h (fun h => ?_) (fun h => ?_)
      · skip
        refine fq1_X9_mostAlike_119 hG kk5 k f h
      · skip
        refine m_O h (fun _ h => ?_)
        refine fq1_X9_mostAlike_119 hG kk5 k f h
    · skip
      refine m_gr (fq1_c_66_2 hG f) h (fun h => ?_)
      refine m_C h (fun h => ?_)
      refine m_M h (fun _ h => ?_)
      refine m_A h (fun _ h => ?_)
      refine m_Ld h (fun _ h => ?_)
      refine m_gr (fq1_c_66_2 hG f) h (fun h => ?_)
      refine m_C h (fun h => ?_)
      refine m_M h (fun _ h => ?_)
      refine m_A h (fun _ h => ?_)
      refine m_Ld h (fun _ h => ?_)
      refine m_S h (fun _ h => ?_)
      refine m_if h (fun h => ?_) (fun h => ?_)
      · skip
        refine fq1_X9_mostAlike_89 hG kk5 (fun _ _ _ _ _ _ _ f1 h => ?_) k f h
        exact ih _ _ _ _ _ _ _ f1 h
      · skip
        refine m_O h (fun _ h => ?_)
        refine m_C h (fun h => ?_)
        refine m_O h (fun _ h => ?_)
        refine m_C h (fun h => ?_)
        refine m_if h (fun h => ?_) (fun h => ?_)
        · skip
          refine fq1_X9_mostAlike_89 hG kk5 (fun _ _ _ _ _ _ _ f2 h => ?_) k f h
          exact ih _ _ _ _ _ _ _ f2 h
        · skip
          refine m_C h (fun h => ?_)
          refine fq1_X9_mostAlike_90 hG kk5 (fun _ _ _ _ _ _ _ f3 h => ?_) k f h
          exact ih _ _ _ _ _ _ _ f3 h
theorem fq1_X9_mostAlike_5 {X G : Mm} {S : Sh} {K K' : Int → Mm → Prop} (hG : Inv X S G) (k : ∀ (a0 : Int) (m : Mm), fq1_F G m → K a0 m → K' a0 m) : ∀ (n : Nat) (u1 : Int) (u2 : Int) (u3 : Int) (u4 : Int) (M : Mm), fq1_F G M → wp_X9_mostAlike_5 S K n (66) u1 u2 u3 u4 M → wp_X9_mostAlike_5 S K' n (66) u1 u2 u3 u4 M := by
  intro n
  induction n with
  | zero => intro u1 u2 u3 u4 M f h; exact h
  | succ n ih =>
    intro u1 u2 u3 u4 M f h
    refine m_gr (fq1_c_66_0 hG f) h (fun h => ?_)
    refine m_gr (fq1_c_3_0 hG f) h (fun h => ?_)
    refine m_Get h (fun _ h => ?_)
    refine m_if h (fun h => ?_) (fun h => ?_)
    · skip
      exact k _ _ f h
    · skip
      refine m_C h (fun h => ?_)
      refine m_C h (fun h => ?_)
      refine m_ex h (fun n9 h => ?_)
      refine fq1_X9_mostAlike_26 hG (fun _ _ _ _ _ f1 h => ?_) k _ _ _ _ _ _ _ _ f h
      exact ih _ _ _ _ _ f1 h
end
section
theorem fq1_X9_mostAlike {X G : Mm} {S : Sh} {K K' : Int → Mm → Prop} {M : Mm} {u1 : Int} {u2 : Int} (hG : Inv X S G) (k : ∀ (a0 : Int) (m : Mm), fq1_F G m → K a0 m → K' a0 m) (f : fq1_F G M) (h : wp_X9_mostAlike S M (66) u1 u2 K) : wp_X9_mostAlike S M (66) u1 u2 K' := by
  refine m_C h (fun h => ?_)
  refine m_C h (fun h => ?_)
  refine m_ex h (fun n9 h => ?_)
  refine fq1_X9_mostAlike_5 hG k _ _ _ _ _ _ f h
theorem fq1_X9_findBestProbe_123 {X G : Mm} {S : Sh} {k90 k90' : Int → Int → Int → Mm → Prop} {K K' : Mm → Prop} {M : Mm} {u1 : Int} {u2 : Int} (hG : Inv X S G) (kk90 : ∀ (a1 : Int) (a2 : Int) (m : Mm), fq1_F G m → k90 (66) a1 a2 m → k90' (66) a1 a2 m) (k : ∀ (m : Mm), fq1_F G m → K m → K' m) (f : fq1_F G M) (h : wp_X9_findBestProbe_123 S k90 K (66) u1 u2 M) : wp_X9_findBestProbe_123 S k90' K' (66) u1 u2 M := by
  refine m_A h (fun _ h => ?_)
  exact kk90 _ _ _ f h
theorem fq1_X9_findBestProbe_90 {X G : Mm} {S : Sh} {K K' : Mm → Prop} (hG : Inv X S G) (k : ∀ (m : Mm), fq1_F G m → K m → K' m) : ∀ (n : Nat) (u1 : Int) (u2 : Int) (M : Mm), fq1_F G M → wp_X9_findBestProbe_90 S K n (66) u1 u2 M → wp_X9_findBestProbe_90 S K' n (66) u1 u2 M := by
  intro n
  induction n with
  | zero => intro u1 u2 M f h; exact h
  | succ n ih =>
    intro u1 u2 M f h
    refine m_C h (fun h => ?_)
    refine m_if h (fun h => ?_) (fun h => ?_)
    · skip
      exact k _ f h
    · skip
      refine m_and h (fun h => ?_)
      refine fq1_X9_mostAlike hG (fun _ _ f1 h => ?_) f h
      refine m_Get h (fun _ h => ?_)
      refine m_if h (fun h => ?_) (fun h => ?_)
      · skip
        refine fq1_X9_findBestProbe_123 hG (fun _ _ _ f2 h => ?_) k f1 h
        exact ih _ _ _ f2 h
      · skip
        refine m_Put (fq1_up (by decide) f1) h (fun _ f3 h => ?_)
        refine m_C h (fun h => ?_)
        refine m_A h (fun _ h => ?_)
        refine m_Put (fq1_up (by decide) f3) h (fun _ f4 h => ?_)
        refine fq1_X9_findBestProbe_123 hG (fun _ _ _ f5 h => ?_) k f4 h
        exact ih _ _ _ f5 h
theorem fq1_X9_findBestProbe_38 {X G : Mm} {S : Sh} {k2 k2' : Int → Int → Int → Mm → Prop} {K K' : Mm → Prop} (hG : Inv X S G) (kk2 : ∀ (a1 : Int) (a2 : Int) (m : Mm), fq1_F G m → k2 (66) a1 a2 m → k2' (66) a1 a2 m) (k : ∀ (m : Mm), fq1_F G m → K m → K' m) : ∀ (n : Nat) (u1 : Int) (u2 : Int) (u3 : Int) (M : Mm), fq1_F G M → wp_X9_findBestProbe_38 S k2 K n (66) u1 u2 u3 M → wp_X9_findBestProbe_38 S k2' K' n (66) u1 u2 u3 M := by
  intro n
  induction n with
  | zero => intro u1 u2 u3 M f h; exact h
  | succ n ih =>
    intro u1 u2 u3 M f h
    refine m_C h (fun h => ?_)
    refine m_if h (fun h => ?_) (fun h => ?_)
    · skip
      refine m_A h (fun _ h => ?_)
      exact kk2 _ _ _ f h
    · skip
      refine m_gr (fq1_c_66_1 hG f) h (fun h => ?_)
      refine m_C h (fun h => ?_)
      refine m_and h (fun h => ?_)
      refine fq1_X10_holdFor hG (fun _ f1 h => ?_) f h
      refine m_gr (fq1_c_66_2 hG f1) h (fun h => ?_)
      refine m_C h (fun h => ?_)
      refine m_M h (fun _ h => ?_)
      refine m_A h (fun _ h => ?_)
      refine m_gr (fq1_c_66_1 hG f1) h (fun h => ?_)
      refine m_Get h (fun _ h => ?_)
      refine m_St (fq1_up (fq1_a_67 _) f1) h (fun _ f2 h => ?_)
      refine m_A h (fun _ h => ?_)
      exact ih _ _ _ _ f2 h
theorem fq1_X9_findBestProbe_2 {X G : Mm} {S : Sh} {K K' : Mm → Prop} (hG : Inv X S G) (k : ∀ (m : Mm), fq1_F G m → K m → K' m) : ∀ (n : Nat) (u1 : Int) (u2 : Int) (M : Mm), fq1_F G M → wp_X9_findBestProbe_2 S K n (66) u1 u2 M → wp_X9_findBestProbe_2 S K' n (66) u1 u2 M := by
  intro n
  induction n with
  | zero => intro u1 u2 M f h; exact h
  | succ n ih =>
    intro u1 u2 M f h
    refine m_gr (fq1_c_66_0 hG f) h (fun h => ?_)
    refine m_gr (fq1_c_3_0 hG f) h (fun h => ?_)
    refine m_Get h (fun _ h => ?_)
    refine m_if h (fun h => ?_) (fun h => ?_)
    · skip
      refine m_C h (fun h => ?_)
      refine m_Put (fq1_up (by decide) f) h (fun _ f1 h => ?_)
      refine m_C h (fun h => ?_)
      refine m_ex h (fun n9 h => ?_)
      refine fq1_X9_findBestProbe_90 hG k _ _ _ _ f1 h
    · skip
      refine m_gr (fq1_c_66_1 hG f) h (fun h => ?_)
      refine m_C h (fun h => ?_)
      refine m_C h (fun h => ?_)
      refine m_gr (fq1_c_66_0 hG f) h (fun h => ?_)
      refine m_gr (fq1_c_3_1 hG f) h (fun h => ?_)
      refine m_Get h (fun _ h => ?_)
      refine m_and h (fun h => ?_)
      refine fq1_X10_suppose hG (fun _ f2 h => ?_) f h
      refine m_C h (fun h => ?_)
      refine m_ex h (fun n9 h => ?_)
      refine fq1_X9_findBestProbe_38 hG (fun _ _ _ f3 h => ?_) k _ _ _ _ _ f2 h
      exact ih _ _ _ f3 h
theorem fq1_X9_findBestProbe {X G : Mm} {S : Sh} {K K' : Mm → Prop} {M : Mm} {u1 : Int} (hG : Inv X S G) (k : ∀ (m : Mm), fq1_F G m → K m → K' m) (f : fq1_F G M) (h : wp_X9_findBestProbe S M (66) u1 K) : wp_X9_findBestProbe S M (66) u1 K' := by
  refine m_C h (fun h => ?_)
  refine m_ex h (fun n9 h => ?_)
  refine fq1_X9_findBestProbe_2 hG k _ _ _ _ f h
theorem fq1_X11_probe {X G : Mm} {S : Sh} {K K' : Int → Mm → Prop} {M : Mm} {u1 : Int} (hG : Inv X S G) (k : ∀ (a0 : Int) (m : Mm), fq1_F G m → K a0 m → K' a0 m) (f : fq1_F G M) (h : wp_X11_probe S M (0) u1 K) : wp_X11_probe S M (0) u1 K' := by
  refine m_gr (fq1_c_0_1 hG f) h (fun h => ?_)
  refine m_gr (fq1_c_3_0 hG f) h (fun h => ?_)
  refine m_Get h (fun _ h => ?_)
  refine m_if h (fun h => ?_) (fun h => ?_)
  · skip
    refine m_C h (fun h => ?_)
    exact k _ _ f h
  · skip
    refine m_if h (fun h => ?_) (fun h => ?_)
    · skip
      refine m_C h (fun h => ?_)
      exact k _ _ f h
    · skip
      refine m_C h (fun h => ?_)
      refine m_if h (fun h => ?_) (fun h => ?_)
      · skip
        refine m_gr (fq1_c_0_14 hG f) h (fun h => ?_)
        refine m_and h (fun h => ?_)
        refine fq1_X9_handsByTests hG (fun _ _ f1 h => ?_) f h
        refine m_if h (fun h => ?_) (fun h => ?_)
        · skip
          refine m_gr (fq1_c_0_14 hG f1) h (fun h => ?_)
          refine m_and h (fun h => ?_)
          refine fq1_X9_findBestProbe hG (fun _ f2 h => ?_) f1 h
          refine m_if h (fun h => ?_) (fun h => ?_)
          · skip
            refine m_gr (fq1_c_0_14 hG f2) h (fun h => ?_)
            refine m_Get h (fun _ h => ?_)
            exact k _ _ f2 h
          · skip
            refine m_gr (fq1_c_0_14 hG f2) h (fun h => ?_)
            refine m_Get h (fun _ h => ?_)
            exact k _ _ f2 h
        · skip
          refine m_C h (fun h => ?_)
          exact k _ _ f1 h
      · skip
        refine m_C h (fun h => ?_)
        exact k _ _ f h
theorem fq1_X5_turnedTogether_28 {X G : Mm} {S : Sh} {k4 k4' : Int → Int → Int → Mm → Prop} {K K' : Int → Mm → Prop} {M : Mm} {u2 : Int} {t0 : Int} {t1 : Int} (hG : Inv X S G) (kk4 : ∀ (a1 : Int) (a2 : Int) (m : Mm), fq1_F G m → k4 (68) a1 a2 m → k4' (68) a1 a2 m) (k : ∀ (a0 : Int) (m : Mm), fq1_F G m → K a0 m → K' a0 m) (f : fq1_F G M) (h : wp_X5_turnedTogether_28 S k4 K (68) u2 t0 t1 M) : wp_X5_turnedTogether_28 S k4' K' (68) u2 t0 t1 M := by
  refine m_A h (fun _ h => ?_)
  refine m_A h (fun _ h => ?_)
  exact kk4 _ _ _ f h
theorem fq1_X5_turnedTogether_4 {X G : Mm} {S : Sh} {K K' : Int → Mm → Prop} (hG : Inv X S G) (k : ∀ (a0 : Int) (m : Mm), fq1_F G m → K a0 m → K' a0 m) : ∀ (n : Nat) (u1 : Int) (u2 : Int) (M : Mm), fq1_F G M → wp_X5_turnedTogether_4 S K n (68) u1 u2 M → wp_X5_turnedTogether_4 S K' n (68) u1 u2 M := by
  intro n
  induction n with
  | zero => intro u1 u2 M f h; exact h
  | succ n ih =>
    intro u1 u2 M f h
    refine m_C h (fun h => ?_)
    refine m_if h (fun h => ?_) (fun h => ?_)
    · skip
      exact k _ _ f h
    · skip
      refine m_and h (fun h => ?_)
      refine fq1_X5_isGone hG (fun _ _ f1 h => ?_) f h
      refine m_if h (fun h => ?_) (fun h => ?_)
      · skip
        refine m_gr (fq1_c_68_7 hG f1) h (fun h => ?_)
        refine m_Ld h (fun _ h => ?_)
        refine fq1_X5_turnedTogether_28 hG (fun _ _ _ f2 h => ?_) k f1 h
        exact ih _ _ _ f2 h
      · skip
        refine m_C h (fun h => ?_)
        refine fq1_X5_turnedTogether_28 hG (fun _ _ _ f3 h => ?_) k f1 h
        exact ih _ _ _ f3 h
theorem fq1_X5_turnedTogether {X G : Mm} {S : Sh} {K K' : Int → Mm → Prop} {M : Mm} (hG : Inv X S G) (k : ∀ (a0 : Int) (m : Mm), fq1_F G m → K a0 m → K' a0 m) (f : fq1_F G M) (h : wp_X5_turnedTogether S M (68) K) : wp_X5_turnedTogether S M (68) K' := by
  refine m_C h (fun h => ?_)
  refine m_C h (fun h => ?_)
  refine m_ex h (fun n9 h => ?_)
  refine fq1_X5_turnedTogether_4 hG k _ _ _ _ f h
theorem fq1_X1_draw {X G : Mm} {S : Sh} {K K' : Int → Mm → Prop} {M : Mm} (hG : Inv X S G) (k : ∀ (a0 : Int) (m : Mm), fq1_F G m → K a0 m → K' a0 m) (f : fq1_F G M) (h : wp_X1_draw S M (57) K) : wp_X1_draw S M (57) K' := by
  refine m_Get h (fun _ h => ?_)
  refine m_C h (fun h => ?_)
  refine m_C h (fun h => ?_)
  refine m_LM h (fun _ h => ?_)
  refine m_C h (fun h => ?_)
  refine m_LA h (fun _ h => ?_)
  refine m_C h (fun h => ?_)
  refine m_O h (fun _ h => ?_)
  refine m_O1 h (fun _ h => ?_)
  refine m_Put (fq1_up (by decide) f) h (fun _ f1 h => ?_)
  refine m_Get h (fun _ h => ?_)
  refine m_C h (fun h => ?_)
  refine m_D h (fun _ h => ?_)
  exact k _ _ f1 h
theorem fq1_X1_drawRoads_69 {X G : Mm} {S : Sh} {k2 k2' : Int → Int → Int → Mm → Prop} {K K' : Mm → Prop} {M : Mm} {u2 : Int} (hG : Inv X S G) (kk2 : ∀ (a2 : Int) (m : Mm), fq1_F G m → k2 (57) (68) a2 m → k2' (57) (68) a2 m) (k : ∀ (m : Mm), fq1_F G m → K m → K' m) (f : fq1_F G M) (h : wp_X1_drawRoads_69 S k2 K (57) (68) u2 M) : wp_X1_drawRoads_69 S k2' K' (57) (68) u2 M := by
  refine m_A h (fun _ h => ?_)
  exact kk2 _ _ f h
theorem fq1_X1_drawRoads_2 {X G : Mm} {S : Sh} {K K' : Mm → Prop} (hG : Inv X S G) (k : ∀ (m : Mm), fq1_F G m → K m → K' m) : ∀ (n : Nat) (u2 : Int) (M : Mm), fq1_F G M → wp_X1_drawRoads_2 S K n (57) (68) u2 M → wp_X1_drawRoads_2 S K' n (57) (68) u2 M := by
  intro n
  induction n with
  | zero => intro u2 M f h; exact h
  | succ n ih =>
    intro u2 M f h
    refine m_gr (fq1_c_57_1 hG f) h (fun h => ?_)
    refine m_Get h (fun _ h => ?_)
    refine m_if h (fun h => ?_) (fun h => ?_)
    · skip
      exact k _ f h
    · skip
      refine m_and h (fun h => ?_)
      refine fq1_X5_isAtPlace hG (fun _ _ f1 h => ?_) f h
      refine m_if h (fun h => ?_) (fun h => ?_)
      · skip
        refine fq1_X1_drawRoads_69 hG (fun _ _ f2 h => ?_) k f1 h
        exact ih _ _ f2 h
      · skip
        refine m_gr (fq1_c_57_1 hG f1) h (fun h => ?_)
        refine m_Get h (fun _ h => ?_)
        refine m_if h (fun h => ?_) (fun h => ?_)
        · skip
          refine fq1_X1_drawRoads_69 hG (fun _ _ f3 h => ?_) k f1 h
          exact ih _ _ f3 h
        · skip
          refine m_and h (fun h => ?_)
          refine fq1_X1_draw hG (fun _ _ f4 h => ?_) f1 h
          refine m_gr (fq1_c_57_1 hG f4) h (fun h => ?_)
          refine m_Get h (fun _ h => ?_)
          refine m_D h (fun _ h => ?_)
          refine m_gr (fq1_c_57_1 hG f4) h (fun h => ?_)
          refine m_and h (fun h => ?_)
          refine fq1_X5_roadFor hG (fun _ _ f5 h => ?_) f4 h
          refine m_if h (fun h => ?_) (fun h => ?_)
          · skip
            refine fq1_X1_drawRoads_69 hG (fun _ _ f6 h => ?_) k f5 h
            exact ih _ _ f6 h
          · skip
            refine m_and h (fun h => ?_)
            refine fq1_X5_setOut hG (fun _ f7 h => ?_) f5 h
            refine fq1_X1_drawRoads_69 hG (fun _ _ f8 h => ?_) k f7 h
            exact ih _ _ f8 h
theorem fq1_X1_drawRoads {X G : Mm} {S : Sh} {K K' : Mm → Prop} {M : Mm} (hG : Inv X S G) (k : ∀ (m : Mm), fq1_F G m → K m → K' m) (f : fq1_F G M) (h : wp_X1_drawRoads S M (57) (68) K) : wp_X1_drawRoads S M (57) (68) K' := by
  refine m_C h (fun h => ?_)
  refine m_ex h (fun n9 h => ?_)
  refine fq1_X1_drawRoads_2 hG k _ _ _ f h
theorem fq1_X1_drawHolders_59 {X G : Mm} {S : Sh} {k2 k2' : Int → Int → Int → Mm → Prop} {K K' : Mm → Prop} {M : Mm} {u2 : Int} (hG : Inv X S G) (kk2 : ∀ (a2 : Int) (m : Mm), fq1_F G m → k2 (57) (68) a2 m → k2' (57) (68) a2 m) (k : ∀ (m : Mm), fq1_F G m → K m → K' m) (f : fq1_F G M) (h : wp_X1_drawHolders_59 S k2 K (57) (68) u2 M) : wp_X1_drawHolders_59 S k2' K' (57) (68) u2 M := by
  refine m_A h (fun _ h => ?_)
  exact kk2 _ _ f h
theorem fq1_X1_drawHolders_2 {X G : Mm} {S : Sh} {K K' : Mm → Prop} (hG : Inv X S G) (k : ∀ (m : Mm), fq1_F G m → K m → K' m) : ∀ (n : Nat) (u2 : Int) (M : Mm), fq1_F G M → wp_X1_drawHolders_2 S K n (57) (68) u2 M → wp_X1_drawHolders_2 S K' n (57) (68) u2 M := by
  intro n
  induction n with
  | zero => intro u2 M f h; exact h
  | succ n ih =>
    intro u2 M f h
    refine m_gr (fq1_c_57_1 hG f) h (fun h => ?_)
    refine m_Get h (fun _ h => ?_)
    refine m_if h (fun h => ?_) (fun h => ?_)
    · skip
      exact k _ f h
    · skip
      refine m_and h (fun h => ?_)
      refine fq1_X5_stands hG (fun _ _ f1 h => ?_) f h
      refine m_if h (fun h => ?_) (fun h => ?_)
      · skip
        refine fq1_X1_drawHolders_59 hG (fun _ _ f2 h => ?_) k f1 h
        exact ih _ _ f2 h
      · skip
        refine m_gr (fq1_c_57_1 hG f1) h (fun h => ?_)
        refine m_Get h (fun _ h => ?_)
        refine m_if h (fun h => ?_) (fun h => ?_)
        · skip
          refine fq1_X1_drawHolders_59 hG (fun _ _ f3 h => ?_) k f1 h
          exact ih _ _ f3 h
        · skip
          refine m_and h (fun h => ?_)
          refine fq1_X1_draw hG (fun _ _ f4 h => ?_) f1 h
          refine m_gr (fq1_c_57_1 hG f4) h (fun h => ?_)
          refine m_Get h (fun _ h => ?_)
          refine m_D h (fun _ h => ?_)
          refine m_and h (fun h => ?_)
          refine fq1_X5_canTake hG (fun _ _ f5 h => ?_) f4 h
          refine m_if h (fun h => ?_) (fun h => ?_)
          · skip
            refine fq1_X1_drawHolders_59 hG (fun _ _ f6 h => ?_) k f5 h
            exact ih _ _ f6 h
          · skip
            refine m_and h (fun h => ?_)
            refine fq1_X5_giveTo hG (fun _ f7 h => ?_) f5 h
            refine fq1_X1_drawHolders_59 hG (fun _ _ f8 h => ?_) k f7 h
            exact ih _ _ f8 h
theorem fq1_X1_drawHolders {X G : Mm} {S : Sh} {K K' : Mm → Prop} {M : Mm} (hG : Inv X S G) (k : ∀ (m : Mm), fq1_F G m → K m → K' m) (f : fq1_F G M) (h : wp_X1_drawHolders S M (57) (68) K) : wp_X1_drawHolders S M (57) (68) K' := by
  refine m_C h (fun h => ?_)
  refine m_ex h (fun n9 h => ?_)
  refine fq1_X1_drawHolders_2 hG k _ _ _ f h
theorem fq1_X1_passByDraws_2 {X G : Mm} {S : Sh} {K K' : Mm → Prop} (hG : Inv X S G) (k : ∀ (m : Mm), fq1_F G m → K m → K' m) : ∀ (n : Nat) (u2 : Int) (u3 : Int) (M : Mm), fq1_F G M → wp_X1_passByDraws_2 S K n (57) (68) u2 u3 M → wp_X1_passByDraws_2 S K' n (57) (68) u2 u3 M := by
  intro n
  induction n with
  | zero => intro u2 u3 M f h; exact h
  | succ n ih =>
    intro u2 u3 M f h
    refine m_if h (fun h => ?_) (fun h => ?_)
    · skip
      exact k _ f h
    · skip
      refine m_and h (fun h => ?_)
      refine fq1_X1_drawRoads hG (fun _ f1 h => ?_) f h
      refine m_and h (fun h => ?_)
      refine fq1_X1_drawHolders hG (fun _ f2 h => ?_) f1 h
      refine m_and h (fun h => ?_)
      refine fq1_X1_pass hG (fun _ _ f3 h => ?_) f2 h
      refine m_A h (fun _ h => ?_)
      exact ih _ _ _ f3 h
theorem fq1_X1_passByDraws {X G : Mm} {S : Sh} {K K' : Mm → Prop} {M : Mm} {u2 : Int} (hG : Inv X S G) (k : ∀ (m : Mm), fq1_F G m → K m → K' m) (f : fq1_F G M) (h : wp_X1_passByDraws S M (57) (68) u2 K) : wp_X1_passByDraws S M (57) (68) u2 K' := by
  refine m_C h (fun h => ?_)
  refine m_ex h (fun n9 h => ?_)
  refine fq1_X1_passByDraws_2 hG k _ _ _ _ f h
theorem fq1_X5_howManySour_33 {X G : Mm} {S : Sh} {k4 k4' : Int → Int → Int → Int → Mm → Prop} {K K' : Int → Mm → Prop} {M : Mm} {u1 : Int} {u3 : Int} {t0 : Int} {t1 : Int} (hG : Inv X S G) (kk4 : ∀ (a1 : Int) (a2 : Int) (a3 : Int) (m : Mm), fq1_F G m → k4 (68) a1 a2 a3 m → k4' (68) a1 a2 a3 m) (k : ∀ (a0 : Int) (m : Mm), fq1_F G m → K a0 m → K' a0 m) (f : fq1_F G M) (h : wp_X5_howManySour_33 S k4 K (68) u1 u3 t0 t1 M) : wp_X5_howManySour_33 S k4' K' (68) u1 u3 t0 t1 M := by
  refine m_A h (fun _ h => ?_)
  refine m_A h (fun _ h => ?_)
  exact kk4 _ _ _ _ f h
theorem fq1_X5_howManySour_32 {X G : Mm} {S : Sh} {k4 k4' : Int → Int → Int → Int → Mm → Prop} {K K' : Int → Mm → Prop} {M : Mm} {u1 : Int} {u3 : Int} {t0 : Int} (hG : Inv X S G) (kk4 : ∀ (a1 : Int) (a2 : Int) (a3 : Int) (m : Mm), fq1_F G m → k4 (68) a1 a2 a3 m → k4' (68) a1 a2 a3 m) (k : ∀ (a0 : Int) (m : Mm), fq1_F G m → K a0 m → K' a0 m) (f : fq1_F G M) (h : wp_X5_howManySour_32 S k4 K (68) u1 u3 t0 M) : wp_X5_howManySour_32 S k4' K' (68) u1 u3 t0 M := by
  refine m_C h (fun h => ?_)
  refine fq1_X5_howManySour_33 hG kk4 k f h
theorem fq1_X5_howManySour_4 {X G : Mm} {S : Sh} {K K' : Int → Mm → Prop} (hG : Inv X S G) (k : ∀ (a0 : Int) (m : Mm), fq1_F G m → K a0 m → K' a0 m) : ∀ (n : Nat) (u1 : Int) (u2 : Int) (u3 : Int) (M : Mm), fq1_F G M → wp_X5_howManySour_4 S K n (68) u1 u2 u3 M → wp_X5_howManySour_4 S K' n (68) u1 u2 u3 M := by
  intro n
  induction n with
  | zero => intro u1 u2 u3 M f h; exact h
  | succ n ih =>
    intro u1 u2 u3 M f h
    refine m_C h (fun h => ?_)
    refine m_if h (fun h => ?_) (fun h => ?_)
    · skip
      exact k _ _ f h
    · skip
      refine m_and h (fun h => ?_)
      refine fq1_X5_isGone hG (fun _ _ f1 h => ?_) f h
      refine m_if h (fun h => ?_) (fun h => ?_)
      · skip
        refine fq1_X5_howManySour_32 hG (fun _ _ _ _ f2 h => ?_) k f1 h
        exact ih _ _ _ _ f2 h
      · skip
        refine m_gr (fq1_c_68_7 hG f1) h (fun h => ?_)
        refine m_Ld h (fun _ h => ?_)
        refine m_if h (fun h => ?_) (fun h => ?_)
        · skip
          refine fq1_X5_howManySour_32 hG (fun _ _ _ _ f3 h => ?_) k f1 h
          exact ih _ _ _ _ f3 h
        · skip
          refine m_C h (fun h => ?_)
          refine fq1_X5_howManySour_33 hG (fun _ _ _ _ f4 h => ?_) k f1 h
          exact ih _ _ _ _ f4 h
theorem fq1_X5_howManySour {X G : Mm} {S : Sh} {K K' : Int → Mm → Prop} {M : Mm} {u1 : Int} (hG : Inv X S G) (k : ∀ (a0 : Int) (m : Mm), fq1_F G m → K a0 m → K' a0 m) (f : fq1_F G M) (h : wp_X5_howManySour S M (68) u1 K) : wp_X5_howManySour S M (68) u1 K' := by
  refine m_C h (fun h => ?_)
  refine m_C h (fun h => ?_)
  refine m_ex h (fun n9 h => ?_)
  refine fq1_X5_howManySour_4 hG k _ _ _ _ _ f h
theorem fq1_X11_years_131 {X G : Mm} {S : Sh} {k66 k66' : Int → Int → Int → Int → Int → Int → Mm → Prop} {K K' : Int → Mm → Prop} {M : Mm} {u1 : Int} {u2 : Int} {u3 : Int} {u5 : Int} {t0 : Int} {t1 : Int} (hG : Inv X S G) (kk66 : ∀ (a1 : Int) (a2 : Int) (a3 : Int) (a4 : Int) (a5 : Int) (m : Mm), fq1_F G m → k66 (0) a1 a2 a3 a4 a5 m → k66' (0) a1 a2 a3 a4 a5 m) (k : ∀ (a0 : Int) (m : Mm), fq1_F G m → K a0 m → K' a0 m) (f : fq1_F G M) (h : wp_X11_years_131 S k66 K (0) u1 u2 u3 u5 t0 t1 M) : wp_X11_years_131 S k66' K' (0) u1 u2 u3 u5 t0 t1 M := by
  refine m_A h (fun _ h => ?_)
  refine m_A h (fun _ h => ?_)
  exact kk66 _ _ _ _ _ _ f h
theorem fq1_X11_years_66 {X G : Mm} {S : Sh} {K K' : Int → Mm → Prop} (hG : Inv X S G) (k : ∀ (a0 : Int) (m : Mm), fq1_F G m → K a0 m → K' a0 m) : ∀ (n : Nat) (u1 : Int) (u2 : Int) (u3 : Int) (u4 : Int) (u5 : Int) (M : Mm), fq1_F G M → wp_X11_years_66 S K n (0) u1 u2 u3 u4 u5 M → wp_X11_years_66 S K' n (0) u1 u2 u3 u4 u5 M := by
  intro n
  induction n with
  | zero => intro u1 u2 u3 u4 u5 M f h; exact h
  | succ n ih =>
    intro u1 u2 u3 u4 u5 M f h
    refine m_if h (fun h => ?_) (fun h => ?_)
    · skip
      exact k _ _ f h
    · skip
      refine m_gr (fq1_c_0_15 hG f) h (fun h => ?_)
      refine m_gr (fq1_c_0_1 hG f) h (fun h => ?_)
      refine m_gr (fq1_c_3_1 hG f) h (fun h => ?_)
      refine m_and h (fun h => ?_)
      refine fq1_X5_become hG (fun _ f1 h => ?_) f h
      refine m_gr (fq1_c_0_11 hG f1) h (fun h => ?_)
      refine m_gr (fq1_c_0_15 hG f1) h (fun h => ?_)
      refine m_and h (fun h => ?_)
      refine fq1_X1_passByDraws hG (fun _ f2 h => ?_) f1 h
      refine m_if h (fun h => ?_) (fun h => ?_)
      · skip
        refine m_gr (fq1_c_0_15 hG f2) h (fun h => ?_)
        refine m_and h (fun h => ?_)
        refine fq1_X5_turnedTogether hG (fun _ _ f3 h => ?_) f2 h
        refine fq1_X11_years_131 hG (fun _ _ _ _ _ _ f4 h => ?_) k f3 h
        exact ih _ _ _ _ _ _ f4 h
      · skip
        refine m_gr (fq1_c_0_15 hG f2) h (fun h => ?_)
        refine m_gr (fq1_c_0_1 hG f2) h (fun h => ?_)
        refine m_gr (fq1_c_3_0 hG f2) h (fun h => ?_)
        refine m_Get h (fun _ h => ?_)
        refine m_and h (fun h => ?_)
        refine fq1_X5_howManySour hG (fun _ _ f5 h => ?_) f2 h
        refine fq1_X11_years_131 hG (fun _ _ _ _ _ _ f6 h => ?_) k f5 h
        exact ih _ _ _ _ _ _ f6 h
theorem fq1_X11_years {X G : Mm} {S : Sh} {K K' : Int → Mm → Prop} {M : Mm} {u1 : Int} {u2 : Int} {u3 : Int} (hG : Inv X S G) (k : ∀ (a0 : Int) (m : Mm), fq1_F G m → K a0 m → K' a0 m) (f : fq1_F G M) (h : wp_X11_years S M (0) u1 u2 u3 K) : wp_X11_years S M (0) u1 u2 u3 K' := by
  refine m_gr (fq1_c_0_1 hG f) h (fun h => ?_)
  refine m_gr (fq1_c_3_0 hG f) h (fun h => ?_)
  refine m_Get h (fun _ h => ?_)
  refine m_if h (fun h => ?_) (fun h => ?_)
  · skip
    refine m_C h (fun h => ?_)
    exact k _ _ f h
  · skip
    refine m_C h (fun h => ?_)
    refine m_if h (fun h => ?_) (fun h => ?_)
    · skip
      refine m_C h (fun h => ?_)
      exact k _ _ f h
    · skip
      refine m_C h (fun h => ?_)
      refine m_if h (fun h => ?_) (fun h => ?_)
      · skip
        refine m_C h (fun h => ?_)
        exact k _ _ f h
      · skip
        refine m_C h (fun h => ?_)
        refine m_if h (fun h => ?_) (fun h => ?_)
        · skip
          refine m_C h (fun h => ?_)
          exact k _ _ f h
        · skip
          refine m_C h (fun h => ?_)
          refine m_if h (fun h => ?_) (fun h => ?_)
          · skip
            refine m_C h (fun h => ?_)
            exact k _ _ f h
          · skip
            refine m_if h (fun h => ?_) (fun h => ?_)
            · skip
              refine m_C h (fun h => ?_)
              exact k _ _ f h
            · skip
              refine m_C h (fun h => ?_)
              refine m_if h (fun h => ?_) (fun h => ?_)
              · skip
                refine m_C h (fun h => ?_)
                refine m_gr (fq1_c_0_11 hG f) h (fun h => ?_)
                refine m_gr (fq1_c_0_1 hG f) h (fun h => ?_)
                refine m_Get h (fun _ h => ?_)
                refine m_Put (fq1_up (by decide) f) h (fun _ f1 h => ?_)
                refine m_C h (fun h => ?_)
                refine m_ex h (fun n9 h => ?_)
                refine fq1_X11_years_66 hG k _ _ _ _ _ _ _ f1 h
              · skip
                refine m_C h (fun h => ?_)
                exact k _ _ f h
end
