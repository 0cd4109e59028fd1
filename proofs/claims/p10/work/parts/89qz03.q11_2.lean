theorem fq1_X9_mostAlike {X G : Mm} {S : Sh} {K K' : Int → Mm → Prop} {M : Mm} {u1 : Int} {u2 : Int} (hG : Inv X S G) (k : ∀ (a0 : Int) (m : Mm), fq1_F G m → K a0 m → K' a0 m) (f : fq1_F G M) (h : wp_X9_mostAlike S M (66) u1 u2 K) : wp_X9_mostAlike S M (66) u1 u2 K' := by
  refine m_C h (fun h => ?_)
  refine m_C h (fun h => ?_)
  refine m_ex h (fun n9 h => ?_)
  refine fq1_X9_mostAlike_5 hG k _ _ _ _ _ _ f h
theorem fq1_X9_findBestProbe_123 {X G : Mm} {S : Sh} {k90 k90' : Int → Int → Int → Mm → Prop} {K K' : Mm → Prop} {M : Mm} {u1 : Int} {u2 : Int} (hG : Inv X S G) (kk90 : ∀ (a1 : Int) (a2 : Int) (m : Mm), fq1_F G m → k90 (66) a1 a2 m → k90' (66) a1 a2 m) (k : ∀ (m : Mm), fq1_F G m → K m → K' m) (f : fq1_F G M) (h : wp_X9_findBestProbe_123 S k90 K (66) u1 u2 M) : wp_X9_findBestProbe_123 S k90' K' (66) u1 u2 M := by
  refine m_A h (fun _ h => ?_)
  exact kk90 _ _ _ f h
theorem fq1_X9_findBestProbe_90 {X G : Mm} {S : Sh} {K K' : Mm → Prop} (hG : Inv X S G) (k : ∀ (m : Mm), fq1_F G m → K m → K' m) : ∀ (n : Nat) (u1 : Int) (u2 : Int) (M : Mm), fq1_F G M → wp_X9_findBestProbe_90 S K n (66) u1 u2 M → wp_X9_findBestProbe_90 S K' n (66) u1 u2 M := by
  intro n
  induction n with
  | zero => intro u1 u2 M f h; exact h
  | succ n ih =>
    intro u1 u2 M f h
    refine m_C h (fun h => ?_)
    refine m_if h (fun h => ?_) (fun h => ?_)
    · skip
      exact k _ f h
    · skip
      refine m_and h (fun h => ?_)
      refine fq1_X9_mostAlike hG (fun _ _ f1 h => ?_) f h
      refine m_Get h (fun _ h => ?_)
      refine m_if h (fun h => ?_) (fun h => ?_)
      · skip
        refine fq1_X9_findBestProbe_123 hG (fun _ _ _ f2 h => ?_) k f1 h
        exact ih _ _ _ f2 h
      · skip
        refine m_Put (fq1_up (by decide) f1) h (fun _ f3 h => ?_)
        refine m_C h (fun h => ?_)
        refine m_A h (fun _ h => ?_)
        refine m_Put (fq1_up (by decide) f3) h (fun _ f4 h => ?_)
        refine fq1_X9_findBestProbe_123 hG (fun _ _ _ f5 h => ?_) k f4 h
        exact ih _ _ _ f5 h
theorem fq1_X9_findBestProbe_38 {X G : Mm} {S : Sh} {k2 k2' : Int → Int → Int → Mm → Prop} {K K' : Mm → Prop} (hG : Inv X S G) (kk2 : ∀ (a1 : Int) (a2 : Int) (m : Mm), fq1_F G m → k2 (66) a1 a2 m → k2' (66) a1 a2 m) (k : ∀ (m : Mm), fq1_F G m → K m → K' m) : ∀ (n : Nat) (u1 : Int) (u2 : Int) (u3 : Int) (M : Mm), fq1_F G M → wp_X9_findBestProbe_38 S k2 K n (66) u1 u2 u3 M → wp_X9_findBestProbe_38 S k2' K' n (66) u1 u2 u3 M := by
  intro n
  induction n with
  | zero => intro u1 u2 u3 M f h; exact h
  | succ n ih =>
    intro u1 u2 u3 M f h
    refine m_C h (fun h => ?_)
    refine m_if h (fun h => ?_) (fun h => ?_)
    · skip
      refine m_A h (fun _ h => ?_)
      exact kk2 _ _ _ f h
    · skip
      refine m_gr (fq1_c_66_1 hG f) h (fun h => ?_)
      refine m_C h (fun h => ?_)
      refine m_and h (fun h => ?_)
      refine fq1_X10_holdFor hG (fun _ f1 h => ?_) f h
      refine m_gr (fq1_c_66_2 hG f1) h (fun h => ?_)
      refine m_C h (fun h => ?_)
      refine m_M h (fun _ h => ?_)
      refine m_A h (fun _ h => ?_)
      refine m_gr (fq1_c_66_1 hG f1) h (fun h => ?_)
      refine m_Get h (fun _ h => ?_)
      refine m_St (fq1_up (fq1_a_67 _) f1) h (fun _ f2 h => ?_)
      refine m_A h (fun _ h => ?_)
      exact ih _ _ _ _ f2 h
theorem fq1_X9_findBestProbe_2 {X G : Mm} {S : Sh} {K K' : Mm → Prop} (hG : Inv X S G) (k : ∀ (m : Mm), fq1_F G m → K m → K' m) : ∀ (n : Nat) (u1 : Int) (u2 : Int) (M : Mm), fq1_F G M → wp_X9_findBestProbe_2 S K n (66) u1 u2 M → wp_X9_findBestProbe_2 S K' n (66) u1 u2 M := by
  intro n
  induction n with
  | zero => intro u1 u2 M f h; exact h
  | succ n ih =>
    intro u1 u2 M f h
    refine m_gr (fq1_c_66_0 hG f) h (fun h => ?_)
    refine m_gr (fq1_c_3_0 hG f) h (fun h => ?_)
    refine m_Get h (fun _ h => ?_)
    refine m_if h (fun h => ?_) (fun h => ?_)
    · skip
      refine m_C h (fun h => ?_)
      refine m_Put (fq1_up (by decide) f) h (fun _ f1 h => ?_)
      refine m_C h (fun h => ?_)
      refine m_ex h (fun n9 h => ?_)
      refine fq1_X9_findBestProbe_90 hG k _ _ _ _ f1 h
    · skip
      refine m_gr (fq1_c_66_1 hG f) h (fun h => ?_)
      refine m_C h (fun h => ?_)
      refine m_C h (fun h => ?_)
      refine m_gr (fq1_c_66_0 hG f) h (fun h => ?_)
      refine m_gr (fq1_c_3_1 hG f) h (fun h => ?_)
      refine m_Get h (fun _ h => ?_)
      refine m_and h (fun h => ?_)
      refine fq1_X10_suppose hG (fun _ f2 h => ?_) f h
      refine m_C h (fun h => ?_)
      refine m_ex h (fun n9 h => ?_)
      refine fq1_X9_findBestProbe_38 hG (fun _ _ _ f3 h => ?_) k _ _ _ _ _ f2 h
      exact ih _ _ _ f3 h
theorem fq1_X9_findBestProbe {X G : Mm} {S : Sh} {K K' : Mm → Prop} {M : Mm} {u1 : Int} (hG : Inv X S G) (k : ∀ (m : Mm), fq1_F G m → K m → K' m) (f : fq1_F G M) (h : wp_X9_findBestProbe S M (66) u1 K) : wp_X9_findBestProbe S M (66) u1 K' := by
  refine m_C h (fun h => ?_)
  refine m_ex h (fun n9 h => ?_)
  refine fq1_X9_findBestProbe_2 hG k _ _ _ _ f h
theorem fq1_X11_probe {X G : Mm} {S : Sh} {K K' : Int → Mm → Prop} {M : Mm} {u1 : Int} (hG : Inv X S G) (k : ∀ (a0 : Int) (m : Mm), fq1_F G m → K a0 m → K' a0 m) (f : fq1_F G M) (h : wp_X11_probe S M (0) u1 K) : wp_X11_probe S M (0) u1 K' := by
  refine m_gr (fq1_c_0_1 hG f) h (fun h => ?_)
  refine m_gr (fq1_c_3_0 hG f) h (fun h => ?_)
  refine m_Get h (fun _ h => ?_)
  refine m_if h (fun h => ?_) (fun h => ?_)
  · skip
    refine m_C h (fun h => ?_)
    exact k _ _ f h
  · skip
    refine m_if h (fun h => ?_) (fun h => ?_)
    · skip
      refine m_C h (fun h => ?_)
      exact k _ _ f h
    · skip
      refine m_C h (fun h => ?_)
      refine m_if h (fun h => ?_) (fun h => ?_)
      · skip
        refine m_gr (fq1_c_0_14 hG f) h (fun h => ?_)
        refine m_and h (fun h => ?_)
        refine fq1_X9_handsByTests hG (fun _ _ f1 h => ?_) f h
        refine m_if h (fun h => ?_) (fun h => ?_)
        · skip
          refine m_gr (fq1_c_0_14 hG f1) h (fun h => ?_)
          refine m_and h (fun h => ?_)
          refine fq1_X9_findBestProbe hG (fun _ f2 h => ?_) f1 h
          refine m_if h (fun h => ?_) (fun h => ?_)
          · skip
            refine m_gr (fq1_c_0_14 hG f2) h (fun h => ?_)
            refine m_Get h (fun _ h => ?_)
            exact k _ _ f2 h
          · skip
            refine m_gr (fq1_c_0_14 hG f2) h (fun h => ?_)
            refine m_Get h (fun _ h => ?_)
            exact k _ _ f2 h
        · skip
          refine m_C h (fun h => ?_)
          exact k _ _ f1 h
      · skip
        refine m_C h (fun h => ?_)
        exact k _ _ f h
theorem fq1_X5_turnedTogether_28 {X G : Mm} {S : Sh} {k4 k4' : Int → Int → Int → Mm → Prop} {K K' : Int → Mm → Prop} {M : Mm} {u2 : Int} {t0 : Int} {t1 : Int} (hG : Inv X S G) (kk4 : ∀ (a1 : Int) (a2 : Int) (m : Mm), fq1_F G m → k4 (68) a1 a2 m → k4' (68) a1 a2 m) (k : ∀ (a0 : Int) (m : Mm), fq1_F G m → K a0 m → K' a0 m) (f : fq1_F G M) (h : wp_X5_turnedTogether_28 S k4 K (68) u2 t0 t1 M) : wp_X5_turnedTogether_28 S k4' K' (68) u2 t0 t1 M := by
  refine m_A h (fun _ h => ?_)
  refine m_A h (fun _ h => ?_)
  exact kk4 _ _ _ f h
theorem fq1_X5_turnedTogether_4 {X G : Mm} {S : Sh} {K K' : Int → Mm → Prop} (hG : Inv X S G) (k : ∀ (a0 : Int) (m : Mm), fq1_F G m → K a0 m → K' a0 m) : ∀ (n : Nat) (u1 : Int) (u2 : Int) (M : Mm), fq1_F G M → wp_X5_turnedTogether_4 S K n (68) u1 u2 M → wp_X5_turnedTogether_4 S K' n (68) u1 u2 M := by
  intro n
  induction n with
  | zero => intro u1 u2 M f h; exact h
  | succ n ih =>
    intro u1 u2 M f h
    refine m_C h (fun h => ?_)
    refine m_if h (fun h => ?_) (fun h => ?_)
    · skip
      exact k _ _ f h
    · skip
      refine m_and h (fun h => ?_)
      refine fq1_X5_isGone hG (fun _ _ f1 h => ?_) f h
      refine m_if h (fun h => ?_) (fun h => ?_)
      · skip
        refine m_gr (fq1_c_68_7 hG f1) h (fun h => ?_)
        refine m_Ld h (fun _ h => ?_)
        refine fq1_X5_turnedTogether_28 hG (fun _ _ _ f2 h => ?_) k f1 h
        exact ih _ _ _ f2 h
      · skip
        refine m_C h (fun h => ?_)
        refine fq1_X5_turnedTogether_28 hG (fun _ _ _ f3 h => ?_) k f1 h
        exact ih _ _ _ f3 h
theorem fq1_X5_turnedTogether {X G : Mm} {S : Sh} {K K' : Int → Mm → Prop} {M : Mm} (hG : Inv X S G) (k : ∀ (a0 : Int) (m : Mm), fq1_F G m → K a0 m → K' a0 m) (f : fq1_F G M) (h : wp_X5_turnedTogether S M (68) K) : wp_X5_turnedTogether S M (68) K' := by
  refine m_C h (fun h => ?_)
  refine m_C h (fun h => ?_)
  refine m_ex h (fun n9 h => ?_)
  refine fq1_X5_turnedTogether_4 hG k _ _ _ _ f h
theorem fq1_X1_draw {X G : Mm} {S : Sh} {K K' : Int → Mm → Prop} {M : Mm} (hG : Inv X S G) (k : ∀ (a0 : Int) (m : Mm), fq1_F G m → K a0 m → K' a0 m) (f : fq1_F G M) (h : wp_X1_draw S M (57) K) : wp_X1_draw S M (57) K' := by
  refine m_Get h (fun _ h => ?_)
  refine m_C h (fun h => ?_)
  refine m_C h (fun h => ?_)
  refine m_LM h (fun _ h => ?_)
  refine m_C h (fun h => ?_)
  refine m_LA h (fun _ h => ?_)
  refine m_C h (fun h => ?_)
  refine m_O h (fun _ h => ?_)
  refine m_O1 h (fun _ h => ?_)
  refine m_Put (fq1_up (by decide) f) h (fun _ f1 h => ?_)
  refine m_Get h (fun _ h => ?_)
  refine m_C h (fun h => ?_)
  refine m_D h (fun _ h => ?_)
  exact k _ _ f1 h
theorem fq1_X1_drawRoads_69 {X G : Mm} {S : Sh} {k2 k2' : Int → Int → Int → Mm → Prop} {K K' : Mm → Prop} {M : Mm} {u2 : Int} (hG : Inv X S G) (kk2 : ∀ (a2 : Int) (m : Mm), fq1_F G m → k2 (57) (68) a2 m → k2' (57) (68) a2 m) (k : ∀ (m : Mm), fq1_F G m → K m → K' m) (f : fq1_F G M) (h : wp_X1_drawRoads_69 S k2 K (57) (68) u2 M) : wp_X1_drawRoads_69 S k2' K' (57) (68) u2 M := by
  refine m_A h (fun _ h => ?_)
  exact kk2 _ _ f h
theorem fq1_X1_drawRoads_2 {X G : Mm} {S : Sh} {K K' : Mm → Prop} (hG : Inv X S G) (k : ∀ (m : Mm), fq1_F G m → K m → K' m) : ∀ (n : Nat) (u2 : Int) (M : Mm), fq1_F G M → wp_X1_drawRoads_2 S K n (57) (68) u2 M → wp_X1_drawRoads_2 S K' n (57) (68) u2 M := by
  intro n
  induction n with
  | zero => intro u2 M f h; exact h
  | succ n ih =>
    intro u2 M f h
    refine m_gr (fq1_c_57_1 hG f) h (fun h => ?_)
    refine m_Get h (fun _ h => ?_)
    refine m_if h (fun h => ?_) (fun h => ?_)
    · skip
      exact k _ f h
    · skip
      refine m_and h (fun h => ?_)
      refine fq1_X5_isAtPlace hG (fun _ _ f1 h => ?_) f h
      refine m_if h (fun h => ?_) (fun h => ?_)
      · skip
        refine fq1_X1_drawRoads_69 hG (fun _ _ f2 h => ?_) k f1 h
        exact ih _ _ f2 h
      · skip
        refine m_gr (fq1_c_57_1 hG f1) h (fun h => ?_)
        refine m_Get h (fun _ h => ?_)
        refine m_if h (fun h => ?_) (fun h => ?_)
        · skip
          refine fq1_X1_drawRoads_69 hG (fun _ _ f3 h => ?_) k f1 h
          exact ih _ _ f3 h
        · skip
          refine m_and h (fun h => ?_)
          refine fq1_X1_draw hG (fun _ _ f4 h => ?_) f1 h
          refine m_gr (fq1_c_57_1 hG f4) h (fun h => ?_)
          refine m_Get h (fun _ h => ?_)
          refine m_D h (fun _ h => ?_)
          refine m_gr (fq1_c_57_1 hG f4) h (fun h => ?_)
          refine m_and h (fun h => ?_)
          refine fq1_X5_roadFor hG (fun _ _ f5 h => ?_) f4 h
          refine m_if h (fun h => ?_) (fun h => ?_)
          · skip
            refine fq1_X1_drawRoads_69 hG (fun _ _ f6 h => ?_) k f5 h
            exact ih _ _ f6 h
          · skip
            refine m_and h (fun h => ?_)
            refine fq1_X5_setOut hG (fun _ f7 h => ?_) f5 h
            refine fq1_X1_drawRoads_69 hG (fun _ _ f8 h => ?_) k f7 h
            exact ih _ _ f8 h
theorem fq1_X1_drawRoads {X G : Mm} {S : Sh} {K K' : Mm → Prop} {M : Mm} (hG : Inv X S G) (k : ∀ (m : Mm), fq1_F G m → K m → K' m) (f : fq1_F G M) (h : wp_X1_drawRoads S M (57) (68) K) : wp_X1_drawRoads S M (57) (68) K' := by
  refine m_C h (fun h => ?_)
  refine m_ex h (fun n9 h => ?_)
  refine fq1_X1_drawRoads_2 hG k _ _ _ f h
theorem fq1_X1_drawHolders_59 {X G : Mm} {S : Sh} {k2 k2' : Int → Int → Int → Mm → Prop} {K K' : Mm → Prop} {M : Mm} {u2 : Int} (hG : Inv X S G) (kk2 : ∀ (a2 : Int) (m : Mm), fq1_F G m → k2 (57) (68) a2 m → k2' (57) (68) a2 m) (k : ∀ (m : Mm), fq1_F G m → K m → K' m) (f : fq1_F G M) (h : wp_X1_drawHolders_59 S k2 K (57) (68) u2 M) : wp_X1_drawHolders_59 S k2' K' (57) (68) u2 M := by
  refine m_A h (fun _ h => ?_)
  exact kk2 _ _ f h
theorem fq1_X1_drawHolders_2 {X G : Mm} {S : Sh} {K K' : Mm → Prop} (hG : Inv X S G) (k : ∀ (m : Mm), fq1_F G m → K m → K' m) : ∀ (n : Nat) (u2 : Int) (M : Mm), fq1_F G M → wp_X1_drawHolders_2 S K n (57) (68) u2 M → wp_X1_drawHolders_2 S K' n (57) (68) u2 M := by
  intro n
  induction n with
  | zero => intro u2 M f h; exact h
  | succ n ih =>
    intro u2 M f h
    refine m_gr (fq1_c_57_1 hG f) h (fun h => ?_)
    refine m_Get h (fun _ h => ?_)
    refine m_if h (fun h => ?_) (fun h => ?_)
    · skip
      exact k _ f h
    · skip
      refine m_and h (fun h => ?_)
      refine fq1_X5_stands hG (fun _ _ f1 h => ?_) f h
      refine m_if h (fun h => ?_) (fun h => ?_)
      · skip
        refine fq1_X1_drawHolders_59 hG (fun _ _ f2 h => ?_) k f1 h
        exact ih _ _ f2 h
      · skip
        refine m_gr (fq1_c_57_1 hG f1) h (fun h => ?_)
        refine m_Get h (fun _ h => ?_)
        refine m_if h (fun h => ?_) (fun h => ?_)
        · skip
          refine fq1_X1_drawHolders_59 hG (fun _ _ f3 h => ?_) k f1 h
          exact ih _ _ f3 h
        · skip
          refine m_and h (fun h => ?_)
          refine fq1_X1_draw hG (fun _ _ f4 h => ?_) f1 h
          refine m_gr (fq1_c_57_1 hG f4) h (fun h => ?_)
          refine m_Get h (fun _ h => ?_)
          refine m_D h (fun _ h => ?_)
          refine m_and h (fun h => ?_)
          refine fq1_X5_canTake hG (fun _ _ f5 h => ?_) f4 h
          refine m_if h (fun h => ?_) (fun h => ?_)
          · skip
            refine fq1_X1_drawHolders_59 hG (fun _ _ f6 h => ?_) k f5 h
            exact ih _ _ f6 h
          · skip
            refine m_and h (fun h => ?_)
            refine fq1_X5_giveTo hG (fun _ f7 h => ?_) f5 h
            refine fq1_X1_drawHolders_59 hG (fun _ _ f8 h => ?_) k f7 h
            exact ih _ _ f8 h
theorem fq1_X1_drawHolders {X G : Mm} {S : Sh} {K K' : Mm → Prop} {M : Mm} (hG : Inv X S G) (k : ∀ (m : Mm), fq1_F G m → K m → K' m) (f : fq1_F G M) (h : wp_X1_drawHolders S M (57) (68) K) : wp_X1_drawHolders S M (57) (68) K' := by
  refine m_C h (fun h => ?_)
  refine m_ex h (fun n9 h => ?_)
  refine fq1_X1_drawHolders_2 hG k _ _ _ f h
theorem fq1_X1_passByDraws_2 {X G : Mm} {S : Sh} {K K' : Mm → Prop} (hG : Inv X S G) (k : ∀ (m : Mm), fq1_F G m → K m → K' m) : ∀ (n : Nat) (u2 : Int) (u3 : Int) (M : Mm), fq1_F G M → wp_X1_passByDraws_2 S K n (57) (68) u2 u3 M → wp_X1_passByDraws_2 S K' n (57) (68) u2 u3 M := by
  intro n
  induction n with
  | zero => intro u2 u3 M f h; exact h
  | succ n ih =>
    intro u2 u3 M f h
    refine m_if h (fun h => ?_) (fun h => ?_)
    · skip
      exact k _ f h
    · skip
      refine m_and h (fun h => ?_)
      refine fq1_X1_drawRoads hG (fun _ f1 h => ?_) f h
      refine m_and h (fun h => ?_)
      refine fq1_X1_drawHolders hG (fun _ f2 h => ?_) f1 h
      refine m_and h (fun h => ?_)
      refine fq1_X1_pass hG (fun _ _ f3 h => ?_) f2 h
      refine m_A h (fun _ h => ?_)
      exact ih _ _ _ f3 h
theorem fq1_X1_passByDraws {X G : Mm} {S : Sh} {K K' : Mm → Prop} {M : Mm} {u2 : Int} (hG : Inv X S G) (k : ∀ (m : Mm), fq1_F G m → K m → K' m) (f : fq1_F G M) (h : wp_X1_passByDraws S M (57) (68) u2 K) : wp_X1_passByDraws S M (57) (68) u2 K' := by
  refine m_C h (fun h => ?_)
  refine m_ex h (fun n9 h => ?_)
  refine fq1_X1_passByDraws_2 hG k _ _ _ _ f h
theorem fq1_X5_howManySour_33 {X G : Mm} {S : Sh} {k4 k4' : Int → Int → Int → Int → Mm → Prop} {K K' : Int → Mm → Prop} {M : Mm} {u1 : Int} {u3 : Int} {t0 : Int} {t1 : Int} (hG : Inv X S G) (kk4 : ∀ (a1 : Int) (a2 : Int) (a3 : Int) (m : Mm), fq1_F G m → k4 (68) a1 a2 a3 m → k4' (68) a1 a2 a3 m) (k : ∀ (a0 : Int) (m : Mm), fq1_F G m → K a0 m → K' a0 m) (f : fq1_F G M) (h : wp_X5_howManySour_33 S k4 K (68) u1 u3 t0 t1 M) : wp_X5_howManySour_33 S k4' K' (68) u1 u3 t0 t1 M := by
  refine m_A h (fun _ h => ?_)
  refine m_A h (fun _ h => ?_)
  exact kk4 _ _ _ _ f h
theorem fq1_X5_howManySour_32 {X G : Mm} {S : Sh} {k4 k4' : Int → Int → Int → Int → Mm → Prop} {K K' : Int → Mm → Prop} {M : Mm} {u1 : Int} {u3 : Int} {t0 : Int} (hG : Inv X S G) (kk4 : ∀ (a1 : Int) (a2 : Int) (a3 : Int) (m : Mm), fq1_F G m → k4 (68) a1 a2 a3 m → k4' (68) a1 a2 a3 m) (k : ∀ (a0 : Int) (m : Mm), fq1_F G m → K a0 m → K' a0 m) (f : fq1_F G M) (h : wp_X5_howManySour_32 S k4 K (68) u1 u3 t0 M) : wp_X5_howManySour_32 S k4' K' (68) u1 u3 t0 M := by
  refine m_C h (fun h => ?_)
  refine fq1_X5_howManySour_33 hG kk4 k f h
theorem fq1_X5_howManySour_4 {X G : Mm} {S : Sh} {K K' : Int → Mm → Prop} (hG : Inv X S G) (k : ∀ (a0 : Int) (m : Mm), fq1_F G m → K a0 m → K' a0 m) : ∀ (n : Nat) (u1 : Int) (u2 : Int) (u3 : Int) (M : Mm), fq1_F G M → wp_X5_howManySour_4 S K n (68) u1 u2 u3 M → wp_X5_howManySour_4 S K' n (68) u1 u2 u3 M := by
  intro n
  induction n with
  | zero => intro u1 u2 u3 M f h; exact h
  | succ n ih =>
    intro u1 u2 u3 M f h
    refine m_C h (fun h => ?_)
    refine m_if h (fun h => ?_) (fun h => ?_)
    · skip
      exact k _ _ f h
    · skip
      refine m_and h (fun h => ?_)
      refine fq1_X5_isGone hG (fun _ _ f1 h => ?_) f h
      refine m_if h (fun h => ?_) (fun h => ?_)
      · skip
        refine fq1_X5_howManySour_32 hG (fun _ _ _ _ f2 h => ?_) k f1 h
        exact ih _ _ _ _ f2 h
      · skip
        refine m_gr (fq1_c_68_7 hG f1) h (fun h => ?_)
        refine m_Ld h (fun _ h => ?_)
        refine m_if h (fun h => ?_) (fun h => ?_)
        · skip
          refine fq1_X5_howManySour_32 hG (fun _ _ _ _ f3 h => ?_) k f1 h
          exact ih _ _ _ _ f3 h
        · skip
          refine m_C h (fun h => ?_)
          refine fq1_X5_howManySour_33 hG (fun _ _ _ _ f4 h => ?_) k f1 h
          exact ih _ _ _ _ f4 h
theorem fq1_X5_howManySour {X G : Mm} {S : Sh} {K K' : Int → Mm → Prop} {M : Mm} {u1 : Int} (hG : Inv X S G) (k : ∀ (a0 : Int) (m : Mm), fq1_F G m → K a0 m → K' a0 m) (f : fq1_F G M) (h : wp_X5_howManySour S M (68) u1 K) : wp_X5_howManySour S M (68) u1 K' := by
  refine m_C h (fun h => ?_)
  refine m_C h (fun h => ?_)
  refine m_ex h (fun n9 h => ?_)
  refine fq1_X5_howManySour_4 hG k _ _ _ _ _ f h
theorem fq1_X11_years_131 {X G : Mm} {S : Sh} {k66 k66' : Int → Int → Int → Int → Int → Int → Mm → Prop} {K K' : Int → Mm → Prop} {M : Mm} {u1 : Int} {u2 : Int} {u3 : Int} {u5 : Int} {t0 : Int} {t1 : Int} (hG : Inv X S G) (kk66 : ∀ (a1 : Int) (a2 : Int) (a3 : Int) (a4 : Int) (a5 : Int) (m : Mm), fq1_F G m → k66 (0) a1 a2 a3 a4 a5 m → k66' (0) a1 a2 a3 a4 a5 m) (k : ∀ (a0 : Int) (m : Mm), fq1_F G m → K a0 m → K' a0 m) (f : fq1_F G M) (h : wp_X11_years_131 S k66 K (0) u1 u2 u3 u5 t0 t1 M) : wp_X11_years_131 S k66' K' (0) u1 u2 u3 u5 t0 t1 M := by
  refine m_A h (fun _ h => ?_)
  refine m_A h (fun _ h => ?_)
  exact kk66 _ _ _ _ _ _ f h
theorem fq1_X11_years_66 {X G : Mm} {S : Sh} {K K' : Int → Mm → Prop} (hG : Inv X S G) (k : ∀ (a0 : Int) (m : Mm), fq1_F G m → K a0 m → K' a0 m) : ∀ (n : Nat) (u1 : Int) (u2 : Int) (u3 : Int) (u4 : Int) (u5 : Int) (M : Mm), fq1_F G M → wp_X11_years_66 S K n (0) u1 u2 u3 u4 u5 M → wp_X11_years_66 S K' n (0) u1 u2 u3 u4 u5 M := by
  intro n
  induction n with
  | zero => intro u1 u2 u3 u4 u5 M f h; exact h
  | succ n ih =>
    intro u1 u2 u3 u4 u5 M f h
    refine m_if h (fun h => ?_) (fun h => ?_)
    · skip
      exact k _ _ f h
    · skip
      refine m_gr (fq1_c_0_15 hG f) h (fun h => ?_)
      refine m_gr (fq1_c_0_1 hG f) h (fun h => ?_)
      refine m_gr (fq1_c_3_1 hG f) h (fun h => ?_)
      refine m_and h (fun h => ?_)
      refine fq1_X5_become hG (fun _ f1 h => ?_) f h
      refine m_gr (fq1_c_0_11 hG f1) h (fun h => ?_)
      refine m_gr (fq1_c_0_15 hG f1) h (fun h => ?_)
      refine m_and h (fun h => ?_)
      refine fq1_X1_passByDraws hG (fun _ f2 h => ?_) f1 h
      refine m_if h (fun h => ?_) (fun h => ?_)
      · skip
        refine m_gr (fq1_c_0_15 hG f2) h (fun h => ?_)
        refine m_and h (fun h => ?_)
        refine fq1_X5_turnedTogether hG (fun _ _ f3 h => ?_) f2 h
        refine fq1_X11_years_131 hG (fun _ _ _ _ _ _ f4 h => ?_) k f3 h
        exact ih _ _ _ _ _ _ f4 h
      · skip
        refine m_gr (fq1_c_0_15 hG f2) h (fun h => ?_)
        refine m_gr (fq1_c_0_1 hG f2) h (fun h => ?_)
        refine m_gr (fq1_c_3_0 hG f2) h (fun h => ?_)
        refine m_Get h (fun _ h => ?_)
        refine m_and h (fun h => ?_)
        refine fq1_X5_howManySour hG (fun _ _ f5 h => ?_) f2 h
        refine fq1_X11_years_131 hG (fun _ _ _ _ _ _ f6 h => ?_) k f5 h
        exact ih _ _ _ _ _ _ f6 h
theorem fq1_X11_years {X G : Mm} {S : Sh} {K K' : Int → Mm → Prop} {M : Mm} {u1 : Int} {u2 : Int} {u3 : Int} (hG : Inv X S G) (k : ∀ (a0 : Int) (m : Mm), fq1_F G m → K a0 m → K' a0 m) (f : fq1_F G M) (h : wp_X11_years S M (0) u1 u2 u3 K) : wp_X11_years S M (0) u1 u2 u3 K' := by
  refine m_gr (fq1_c_0_1 hG f) h (fun h => ?_)
  refine m_gr (fq1_c_3_0 hG f) h (fun h => ?_)
  refine m_Get h (fun _ h => ?_)
  refine m_if h (fun h => ?_) (fun h => ?_)
  · skip
    refine m_C h (fun h => ?_)
    exact k _ _ f h
  · skip
    refine m_C h (fun h => ?_)
    refine m_if h (fun h => ?_) (fun h => ?_)
    · skip
      refine m_C h (fun h => ?_)
      exact k _ _ f h
    · skip
      refine m_C h (fun h => ?_)
      refine m_if h (fun h => ?_) (fun h => ?_)
      · skip
        refine m_C h (fun h => ?_)
        exact k _ _ f h
      · skip
        refine m_C h (fun h => ?_)
        refine m_if h (fun h => ?_) (fun h => ?_)
        · skip
          refine m_C h (fun h => ?_)
          exact k _ _ f h
        · skip
          refine m_C h (fun h => ?_)
          refine m_if h (fun h => ?_) (fun h => ?_)
          · skip
            refine m_C h (fun h => ?_)
            exact k _ _ f h
          · skip
            refine m_if h (fun h => ?_) (fun h => ?_)
            · skip
              refine m_C h (fun h => ?_)
              exact k _ _ f h
            · skip
              refine m_C h (fun h => ?_)
              refine m_if h (fun h => ?_) (fun h => ?_)
              · skip
                refine m_C h (fun h => ?_)
                refine m_gr (fq1_c_0_11 hG f) h (fun h => ?_)
                refine m_gr (fq1_c_0_1 hG f) h (fun h => ?_)
                refine m_Get h (fun _ h => ?_)
                refine m_Put (fq1_up (by decide) f) h (fun _ f1 h => ?_)
                refine m_C h (fun h => ?_)
                refine m_ex h (fun n9 h => ?_)
                refine fq1_X11_years_66 hG k _ _ _ _ _ _ _ f1 h
              · skip
                refine m_C h (fun h => ?_)
                exact k _ _ f h
