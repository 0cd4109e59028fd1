/-- what these methods may write -/
abbrev fq1_W (c p : Int) : Prop := (c = 55 ∧ 4 ≤ p) ∨ c = 56 ∨ (c = 57 ∧ p = 2) ∨ (c = 58 ∧ 6 ≤ p) ∨ (59 ≤ c ∧ c ≤ 62) ∨ c = 64 ∨ c = 65 ∨ (c = 66 ∧ 3 ≤ p) ∨ c = 67 ∨ (c = 68 ∧ p ≤ 1) ∨ (69 ≤ c ∧ c ≤ 75)
def fq1_F (G M : Mm) : Prop := ∀ c p : Int, ¬ fq1_W c p → M c p = G c p
theorem fq1_up {G M : Mm} {x i v : Int} (w : fq1_W x i) (f : fq1_F G M) : fq1_F G (up M x i v) := fun c p q => (up_ne (fun e => by obtain ⟨e1, e2⟩ := e; subst e1; subst e2; exact q w)).trans (f c p q)
theorem fq1_cp {G M : Mm} {x sp y dp n : Int} (w : ∀ i : Int, fq1_W y i) (f : fq1_F G M) : fq1_F G (cpM M x sp y dp n) := fun c p q => by
  unfold cpM
  rw [if_neg (fun z => q (by rw [z.1]; exact w p))]
  exact f c p q
theorem fq1_a_56 (i : Int) : fq1_W 56 i := by unfold fq1_W; omega
theorem fq1_a_59 (i : Int) : fq1_W 59 i := by unfold fq1_W; omega
theorem fq1_a_60 (i : Int) : fq1_W 60 i := by unfold fq1_W; omega
theorem fq1_a_61 (i : Int) : fq1_W 61 i := by unfold fq1_W; omega
theorem fq1_a_62 (i : Int) : fq1_W 62 i := by unfold fq1_W; omega
theorem fq1_a_64 (i : Int) : fq1_W 64 i := by unfold fq1_W; omega
theorem fq1_a_67 (i : Int) : fq1_W 67 i := by unfold fq1_W; omega
theorem fq1_a_69 (i : Int) : fq1_W 69 i := by unfold fq1_W; omega
theorem fq1_a_70 (i : Int) : fq1_W 70 i := by unfold fq1_W; omega
theorem fq1_a_71 (i : Int) : fq1_W 71 i := by unfold fq1_W; omega
theorem fq1_a_72 (i : Int) : fq1_W 72 i := by unfold fq1_W; omega
theorem fq1_a_73 (i : Int) : fq1_W 73 i := by unfold fq1_W; omega
theorem fq1_a_74 (i : Int) : fq1_W 74 i := by unfold fq1_W; omega
theorem fq1_a_75 (i : Int) : fq1_W 75 i := by unfold fq1_W; omega
theorem fq1_c_0_1 {X G M : Mm} {S : Sh} (hG : Inv X S G) (f : fq1_F G M) : M 0 1 = 3 := (f 0 1 (by decide)).trans hG.f_0_1
theorem fq1_c_0_10 {X G M : Mm} {S : Sh} (hG : Inv X S G) (f : fq1_F G M) : M 0 10 = 55 := (f 0 10 (by decide)).trans hG.f_0_10
theorem fq1_c_0_11 {X G M : Mm} {S : Sh} (hG : Inv X S G) (f : fq1_F G M) : M 0 11 = 57 := (f 0 11 (by decide)).trans hG.f_0_11
theorem fq1_c_0_12 {X G M : Mm} {S : Sh} (hG : Inv X S G) (f : fq1_F G M) : M 0 12 = 58 := (f 0 12 (by decide)).trans hG.f_0_12
theorem fq1_c_0_13 {X G M : Mm} {S : Sh} (hG : Inv X S G) (f : fq1_F G M) : M 0 13 = 63 := (f 0 13 (by decide)).trans hG.f_0_13
theorem fq1_c_0_14 {X G M : Mm} {S : Sh} (hG : Inv X S G) (f : fq1_F G M) : M 0 14 = 66 := (f 0 14 (by decide)).trans hG.f_0_14
theorem fq1_c_0_15 {X G M : Mm} {S : Sh} (hG : Inv X S G) (f : fq1_F G M) : M 0 15 = 68 := (f 0 15 (by decide)).trans hG.f_0_15
theorem fq1_c_3_0 {X G M : Mm} {S : Sh} (hG : Inv X S G) (f : fq1_F G M) : M 3 0 = 4 := (f 3 0 (by decide)).trans hG.f_3_0
theorem fq1_c_3_1 {X G M : Mm} {S : Sh} (hG : Inv X S G) (f : fq1_F G M) : M 3 1 = 16 := (f 3 1 (by decide)).trans hG.f_3_1
theorem fq1_c_3_5 {X G M : Mm} {S : Sh} (hG : Inv X S G) (f : fq1_F G M) : M 3 5 = 24 := (f 3 5 (by decide)).trans hG.f_3_5
theorem fq1_c_3_6 {X G M : Mm} {S : Sh} (hG : Inv X S G) (f : fq1_F G M) : M 3 6 = 25 := (f 3 6 (by decide)).trans hG.f_3_6
theorem fq1_c_3_7 {X G M : Mm} {S : Sh} (hG : Inv X S G) (f : fq1_F G M) : M 3 7 = 26 := (f 3 7 (by decide)).trans hG.f_3_7
theorem fq1_c_3_8 {X G M : Mm} {S : Sh} (hG : Inv X S G) (f : fq1_F G M) : M 3 8 = 27 := (f 3 8 (by decide)).trans hG.f_3_8
theorem fq1_c_4_8 {X G M : Mm} {S : Sh} (hG : Inv X S G) (f : fq1_F G M) : M 4 8 = 5 := (f 4 8 (by decide)).trans hG.f_4_8
theorem fq1_c_4_9 {X G M : Mm} {S : Sh} (hG : Inv X S G) (f : fq1_F G M) : M 4 9 = 6 := (f 4 9 (by decide)).trans hG.f_4_9
theorem fq1_c_4_10 {X G M : Mm} {S : Sh} (hG : Inv X S G) (f : fq1_F G M) : M 4 10 = 7 := (f 4 10 (by decide)).trans hG.f_4_10
theorem fq1_c_4_11 {X G M : Mm} {S : Sh} (hG : Inv X S G) (f : fq1_F G M) : M 4 11 = 8 := (f 4 11 (by decide)).trans hG.f_4_11
theorem fq1_c_4_12 {X G M : Mm} {S : Sh} (hG : Inv X S G) (f : fq1_F G M) : M 4 12 = 9 := (f 4 12 (by decide)).trans hG.f_4_12
theorem fq1_c_4_13 {X G M : Mm} {S : Sh} (hG : Inv X S G) (f : fq1_F G M) : M 4 13 = 10 := (f 4 13 (by decide)).trans hG.f_4_13
theorem fq1_c_4_14 {X G M : Mm} {S : Sh} (hG : Inv X S G) (f : fq1_F G M) : M 4 14 = 11 := (f 4 14 (by decide)).trans hG.f_4_14
theorem fq1_c_4_16 {X G M : Mm} {S : Sh} (hG : Inv X S G) (f : fq1_F G M) : M 4 16 = 13 := (f 4 16 (by decide)).trans hG.f_4_16
theorem fq1_c_4_17 {X G M : Mm} {S : Sh} (hG : Inv X S G) (f : fq1_F G M) : M 4 17 = 14 := (f 4 17 (by decide)).trans hG.f_4_17
theorem fq1_c_4_18 {X G M : Mm} {S : Sh} (hG : Inv X S G) (f : fq1_F G M) : M 4 18 = 15 := (f 4 18 (by decide)).trans hG.f_4_18
theorem fq1_c_16_2 {X G M : Mm} {S : Sh} (hG : Inv X S G) (f : fq1_F G M) : M 16 2 = 17 := (f 16 2 (by decide)).trans hG.f_16_2
theorem fq1_c_16_3 {X G M : Mm} {S : Sh} (hG : Inv X S G) (f : fq1_F G M) : M 16 3 = 18 := (f 16 3 (by decide)).trans hG.f_16_3
theorem fq1_c_16_4 {X G M : Mm} {S : Sh} (hG : Inv X S G) (f : fq1_F G M) : M 16 4 = 19 := (f 16 4 (by decide)).trans hG.f_16_4
theorem fq1_c_16_5 {X G M : Mm} {S : Sh} (hG : Inv X S G) (f : fq1_F G M) : M 16 5 = 20 := (f 16 5 (by decide)).trans hG.f_16_5
theorem fq1_c_16_6 {X G M : Mm} {S : Sh} (hG : Inv X S G) (f : fq1_F G M) : M 16 6 = 21 := (f 16 6 (by decide)).trans hG.f_16_6
theorem fq1_c_16_7 {X G M : Mm} {S : Sh} (hG : Inv X S G) (f : fq1_F G M) : M 16 7 = 22 := (f 16 7 (by decide)).trans hG.f_16_7
theorem fq1_c_16_8 {X G M : Mm} {S : Sh} (hG : Inv X S G) (f : fq1_F G M) : M 16 8 = 23 := (f 16 8 (by decide)).trans hG.f_16_8
theorem fq1_c_55_0 {X G M : Mm} {S : Sh} (hG : Inv X S G) (f : fq1_F G M) : M 55 0 = 4 := (f 55 0 (by decide)).trans hG.f_55_0
theorem fq1_c_55_3 {X G M : Mm} {S : Sh} (hG : Inv X S G) (f : fq1_F G M) : M 55 3 = 56 := (f 55 3 (by decide)).trans hG.f_55_3
theorem fq1_c_57_0 {X G M : Mm} {S : Sh} (hG : Inv X S G) (f : fq1_F G M) : M 57 0 = 55 := (f 57 0 (by decide)).trans hG.f_57_0
theorem fq1_c_57_1 {X G M : Mm} {S : Sh} (hG : Inv X S G) (f : fq1_F G M) : M 57 1 = 4 := (f 57 1 (by decide)).trans hG.f_57_1
theorem fq1_c_58_0 {X G M : Mm} {S : Sh} (hG : Inv X S G) (f : fq1_F G M) : M 58 0 = 55 := (f 58 0 (by decide)).trans hG.f_58_0
theorem fq1_c_58_1 {X G M : Mm} {S : Sh} (hG : Inv X S G) (f : fq1_F G M) : M 58 1 = 4 := (f 58 1 (by decide)).trans hG.f_58_1
theorem fq1_c_58_2 {X G M : Mm} {S : Sh} (hG : Inv X S G) (f : fq1_F G M) : M 58 2 = 59 := (f 58 2 (by decide)).trans hG.f_58_2
theorem fq1_c_58_3 {X G M : Mm} {S : Sh} (hG : Inv X S G) (f : fq1_F G M) : M 58 3 = 60 := (f 58 3 (by decide)).trans hG.f_58_3
theorem fq1_c_58_4 {X G M : Mm} {S : Sh} (hG : Inv X S G) (f : fq1_F G M) : M 58 4 = 61 := (f 58 4 (by decide)).trans hG.f_58_4
theorem fq1_c_58_5 {X G M : Mm} {S : Sh} (hG : Inv X S G) (f : fq1_F G M) : M 58 5 = 62 := (f 58 5 (by decide)).trans hG.f_58_5
theorem fq1_c_63_0 {X G M : Mm} {S : Sh} (hG : Inv X S G) (f : fq1_F G M) : M 63 0 = 4 := (f 63 0 (by decide)).trans hG.f_63_0
theorem fq1_c_63_1 {X G M : Mm} {S : Sh} (hG : Inv X S G) (f : fq1_F G M) : M 63 1 = 64 := (f 63 1 (by decide)).trans hG.f_63_1
theorem fq1_c_66_0 {X G M : Mm} {S : Sh} (hG : Inv X S G) (f : fq1_F G M) : M 66 0 = 3 := (f 66 0 (by decide)).trans hG.f_66_0
theorem fq1_c_66_1 {X G M : Mm} {S : Sh} (hG : Inv X S G) (f : fq1_F G M) : M 66 1 = 55 := (f 66 1 (by decide)).trans hG.f_66_1
theorem fq1_c_66_2 {X G M : Mm} {S : Sh} (hG : Inv X S G) (f : fq1_F G M) : M 66 2 = 67 := (f 66 2 (by decide)).trans hG.f_66_2
theorem fq1_c_68_2 {X G M : Mm} {S : Sh} (hG : Inv X S G) (f : fq1_F G M) : M 68 2 = 69 := (f 68 2 (by decide)).trans hG.f_68_2
theorem fq1_c_68_3 {X G M : Mm} {S : Sh} (hG : Inv X S G) (f : fq1_F G M) : M 68 3 = 70 := (f 68 3 (by decide)).trans hG.f_68_3
theorem fq1_c_68_4 {X G M : Mm} {S : Sh} (hG : Inv X S G) (f : fq1_F G M) : M 68 4 = 71 := (f 68 4 (by decide)).trans hG.f_68_4
theorem fq1_c_68_5 {X G M : Mm} {S : Sh} (hG : Inv X S G) (f : fq1_F G M) : M 68 5 = 72 := (f 68 5 (by decide)).trans hG.f_68_5
theorem fq1_c_68_6 {X G M : Mm} {S : Sh} (hG : Inv X S G) (f : fq1_F G M) : M 68 6 = 73 := (f 68 6 (by decide)).trans hG.f_68_6
theorem fq1_c_68_7 {X G M : Mm} {S : Sh} (hG : Inv X S G) (f : fq1_F G M) : M 68 7 = 74 := (f 68 7 (by decide)).trans hG.f_68_7
theorem fq1_c_68_8 {X G M : Mm} {S : Sh} (hG : Inv X S G) (f : fq1_F G M) : M 68 8 = 75 := (f 68 8 (by decide)).trans hG.f_68_8
theorem fq1_J7_fill_53178_5 {X G : Mm} {S : Sh} {u0 : Int} {K K' : Mm → Prop} (hG : Inv X S G) (w : ∀ i : Int, fq1_W u0 i) (k : ∀ (m : Mm), fq1_F G m → K m → K' m) : ∀ (n : Nat) (u2 : Int) (u3 : Int) (M : Mm), fq1_F G M → wp_J7_fill_53178_5 S K n u0 (0) u2 u3 M → wp_J7_fill_53178_5 S K' n u0 (0) u2 u3 M := by
  intro n
  induction n with
  | zero => intro u2 u3 M f h; exact h
  | succ n ih =>
    intro u2 u3 M f h
    refine m_if h (fun h => ?_) (fun h => ?_)
    · skip
      exact k _ f h
    · skip
      refine m_St (fq1_up (w _) f) h (fun _ f1 h => ?_)
      refine m_A h (fun _ h => ?_)
      exact ih _ _ _ f1 h
theorem fq1_J7_fill_53178 {X G : Mm} {S : Sh} {u0 : Int} {K K' : Mm → Prop} {M : Mm} (hG : Inv X S G) (w : ∀ i : Int, fq1_W u0 i) (k : ∀ (m : Mm), fq1_F G m → K m → K' m) (f : fq1_F G M) (h : wp_J7_fill_53178 S M u0 (0) K) : wp_J7_fill_53178 S M u0 (0) K' := by
  refine m_C h (fun h => ?_)
  refine m_Len h (fun _ h => ?_)
  refine m_ex h (fun n9 h => ?_)
  refine fq1_J7_fill_53178_5 hG w k _ _ _ _ f h
theorem fq1_J6_bitCount_0f7a4 {X G : Mm} {S : Sh} {K K' : Int → Mm → Prop} {M : Mm} {u0 : Int} (hG : Inv X S G) (k : ∀ (a0 : Int) (m : Mm), fq1_F G m → K a0 m → K' a0 m) (f : fq1_F G M) (h : wp_J6_bitCount_0f7a4 S M u0 K) : wp_J6_bitCount_0f7a4 S M u0 K' := by
  refine m_C h (fun h => ?_)
  refine m_O h (fun _ h => ?_)
  refine m_C h (fun h => ?_)
  refine m_O h (fun _ h => ?_)
  refine m_S h (fun _ h => ?_)
  refine m_C h (fun h => ?_)
  refine m_O h (fun _ h => ?_)
  refine m_C h (fun h => ?_)
  refine m_O h (fun _ h => ?_)
  refine m_C h (fun h => ?_)
  refine m_O h (fun _ h => ?_)
  refine m_A h (fun _ h => ?_)
  refine m_C h (fun h => ?_)
  refine m_O h (fun _ h => ?_)
  refine m_A h (fun _ h => ?_)
  refine m_C h (fun h => ?_)
  refine m_O h (fun _ h => ?_)
  refine m_C h (fun h => ?_)
  refine m_O h (fun _ h => ?_)
  refine m_A h (fun _ h => ?_)
  refine m_C h (fun h => ?_)
  refine m_O h (fun _ h => ?_)
  refine m_A h (fun _ h => ?_)
  refine m_C h (fun h => ?_)
  refine m_O h (fun _ h => ?_)
  exact k _ _ f h
theorem fq1_J7_rangeCheck_23922 {X G : Mm} {S : Sh} {K K' : Mm → Prop} {M : Mm} {u0 : Int} {u2 : Int} (hG : Inv X S G) (k : ∀ (m : Mm), fq1_F G m → K m → K' m) (f : fq1_F G M) (h : wp_J7_rangeCheck_23922 S M u0 (0) u2 K) : wp_J7_rangeCheck_23922 S M u0 (0) u2 K' := by
  refine m_if h (fun h => ?_) (fun h => ?_)
  · skip
    refine m_if h (fun h => ?_) (fun h => ?_)
    · skip
      refine m_if h (fun h => ?_) (fun h => ?_)
      · skip
        exact k _ f h
      · skip
        exact h
    · skip
      exact h
  · skip
    exact h
theorem fq1_J7_fill_fda19_10 {X G : Mm} {S : Sh} {u0 : Int} {K K' : Mm → Prop} (hG : Inv X S G) (w : ∀ i : Int, fq1_W u0 i) (k : ∀ (m : Mm), fq1_F G m → K m → K' m) : ∀ (n : Nat) (u2 : Int) (u3 : Int) (u4 : Int) (M : Mm), fq1_F G M → wp_J7_fill_fda19_10 S K n u0 u2 u3 u4 M → wp_J7_fill_fda19_10 S K' n u0 u2 u3 u4 M := by
  intro n
  induction n with
  | zero => intro u2 u3 u4 M f h; exact h
  | succ n ih =>
    intro u2 u3 u4 M f h
    refine m_if h (fun h => ?_) (fun h => ?_)
    · skip
      exact k _ f h
    · skip
      refine m_St (fq1_up (w _) f) h (fun _ f1 h => ?_)
      refine m_A h (fun _ h => ?_)
      exact ih _ _ _ _ f1 h
theorem fq1_J7_fill_fda19 {X G : Mm} {S : Sh} {u0 : Int} {K K' : Mm → Prop} {M : Mm} {u2 : Int} {u3 : Int} (hG : Inv X S G) (w : ∀ i : Int, fq1_W u0 i) (k : ∀ (m : Mm), fq1_F G m → K m → K' m) (f : fq1_F G M) (h : wp_J7_fill_fda19 S M u0 (0) u2 u3 K) : wp_J7_fill_fda19 S M u0 (0) u2 u3 K' := by
  refine m_Len h (fun _ h => ?_)
  refine fq1_J7_rangeCheck_23922 hG (fun _ f1 h => ?_) f h
  refine m_ex h (fun n9 h => ?_)
  refine fq1_J7_fill_fda19_10 hG w k _ _ _ _ _ f1 h
theorem fq1_J6_numberOfTrailingZeros_0f7a4_74 {X G : Mm} {S : Sh} {K K' : Int → Mm → Prop} {M : Mm} {u0 : Int} {u1 : Int} (hG : Inv X S G) (k : ∀ (a0 : Int) (m : Mm), fq1_F G m → K a0 m → K' a0 m) (f : fq1_F G M) (h : wp_J6_numberOfTrailingZeros_0f7a4_74 S K u0 u1 M) : wp_J6_numberOfTrailingZeros_0f7a4_74 S K' u0 u1 M := by
  refine m_C h (fun h => ?_)
  refine m_O h (fun _ h => ?_)
  refine m_A h (fun _ h => ?_)
  exact k _ _ f h
theorem fq1_J6_numberOfTrailingZeros_0f7a4_62 {X G : Mm} {S : Sh} {K K' : Int → Mm → Prop} {M : Mm} {u0 : Int} {u1 : Int} (hG : Inv X S G) (k : ∀ (a0 : Int) (m : Mm), fq1_F G m → K a0 m → K' a0 m) (f : fq1_F G M) (h : wp_J6_numberOfTrailingZeros_0f7a4_62 S K u0 u1 M) : wp_J6_numberOfTrailingZeros_0f7a4_62 S K' u0 u1 M := by
  refine m_C h (fun h => ?_)
  refine m_if h (fun h => ?_) (fun h => ?_)
  · skip
    refine fq1_J6_numberOfTrailingZeros_0f7a4_74 hG k f h
  · skip
    refine m_A h (fun _ h => ?_)
    refine m_C h (fun h => ?_)
    refine m_O h (fun _ h => ?_)
    refine fq1_J6_numberOfTrailingZeros_0f7a4_74 hG k f h
theorem fq1_J6_numberOfTrailingZeros_0f7a4_49 {X G : Mm} {S : Sh} {K K' : Int → Mm → Prop} {M : Mm} {u0 : Int} {u1 : Int} (hG : Inv X S G) (k : ∀ (a0 : Int) (m : Mm), fq1_F G m → K a0 m → K' a0 m) (f : fq1_F G M) (h : wp_J6_numberOfTrailingZeros_0f7a4_49 S K u0 u1 M) : wp_J6_numberOfTrailingZeros_0f7a4_49 S K' u0 u1 M := by
  refine m_C h (fun h => ?_)
  refine m_if h (fun h => ?_) (fun h => ?_)
  · skip
    refine fq1_J6_numberOfTrailingZeros_0f7a4_62 hG k f h
  · skip
    refine m_A h (fun _ h => ?_)
    refine m_C h (fun h => ?_)
    refine m_O h (fun _ h => ?_)
    refine fq1_J6_numberOfTrailingZeros_0f7a4_62 hG k f h
theorem fq1_J6_numberOfTrailingZeros_0f7a4_34 {X G : Mm} {S : Sh} {K K' : Int → Mm → Prop} {M : Mm} {u0 : Int} {u1 : Int} (hG : Inv X S G) (k : ∀ (a0 : Int) (m : Mm), fq1_F G m → K a0 m → K' a0 m) (f : fq1_F G M) (h : wp_J6_numberOfTrailingZeros_0f7a4_34 S K u0 u1 M) : wp_J6_numberOfTrailingZeros_0f7a4_34 S K' u0 u1 M := by
  refine m_C h (fun h => ?_)
  refine m_if h (fun h => ?_) (fun h => ?_)
  · skip
    refine fq1_J6_numberOfTrailingZeros_0f7a4_49 hG k f h
  · skip
    refine m_A h (fun _ h => ?_)
    refine m_C h (fun h => ?_)
    refine m_O h (fun _ h => ?_)
    refine fq1_J6_numberOfTrailingZeros_0f7a4_49 hG k f h
theorem fq1_J6_numberOfTrailingZeros_0f7a4 {X G : Mm} {S : Sh} {K K' : Int → Mm → Prop} {M : Mm} {u0 : Int} (hG : Inv X S G) (k : ∀ (a0 : Int) (m : Mm), fq1_F G m → K a0 m → K' a0 m) (f : fq1_F G M) (h : wp_J6_numberOfTrailingZeros_0f7a4 S M u0 K) : wp_J6_numberOfTrailingZeros_0f7a4 S M u0 K' := by
  refine m_C h (fun h => ?_)
  refine m_O h (fun _ h => ?_)
  refine m_C h (fun h => ?_)
  refine m_S h (fun _ h => ?_)
  refine m_O h (fun _ h => ?_)
  refine m_if h (fun h => ?_) (fun h => ?_)
  · skip
    refine m_C h (fun h => ?_)
    refine m_C h (fun h => ?_)
    refine m_if h (fun h => ?_) (fun h => ?_)
    · skip
      refine fq1_J6_numberOfTrailingZeros_0f7a4_34 hG k f h
    · skip
      refine m_A h (fun _ h => ?_)
      refine m_C h (fun h => ?_)
      refine m_O h (fun _ h => ?_)
      refine fq1_J6_numberOfTrailingZeros_0f7a4_34 hG k f h
  · skip
    refine m_C h (fun h => ?_)
    refine m_O h (fun _ h => ?_)
    exact k _ _ f h
theorem fq1_X8_pair {X G : Mm} {S : Sh} {K K' : Int → Mm → Prop} {M : Mm} {u0 : Int} {u1 : Int} (hG : Inv X S G) (k : ∀ (a0 : Int) (m : Mm), fq1_F G m → K a0 m → K' a0 m) (f : fq1_F G M) (h : wp_X8_pair S M u0 u1 K) : wp_X8_pair S M u0 u1 K' := by
  refine m_C h (fun h => ?_)
  refine m_M h (fun _ h => ?_)
  refine m_A h (fun _ h => ?_)
  exact k _ _ f h
theorem fq1_X8_roadHours {X G : Mm} {S : Sh} {K K' : Int → Mm → Prop} {M : Mm} {u1 : Int} {u2 : Int} (hG : Inv X S G) (k : ∀ (a0 : Int) (m : Mm), fq1_F G m → K a0 m → K' a0 m) (f : fq1_F G M) (h : wp_X8_roadHours S M (4) u1 u2 K) : wp_X8_roadHours S M (4) u1 u2 K' := by
  refine m_gr (fq1_c_4_8 hG f) h (fun h => ?_)
  refine fq1_X8_pair hG (fun _ _ f1 h => ?_) f h
  refine m_Ld h (fun _ h => ?_)
  exact k _ _ f1 h
theorem fq1_X5_become {X G : Mm} {S : Sh} {K K' : Mm → Prop} {M : Mm} (hG : Inv X S G) (k : ∀ (m : Mm), fq1_F G m → K m → K' m) (f : fq1_F G M) (h : wp_X5_become S M (68) (16) K) : wp_X5_become S M (68) (16) K' := by
  refine m_Get h (fun _ h => ?_)
  refine m_Put (fq1_up (by decide) f) h (fun _ f1 h => ?_)
  refine m_Get h (fun _ h => ?_)
  refine m_Put (fq1_up (by decide) f1) h (fun _ f2 h => ?_)
  refine m_gr (fq1_c_16_2 hG f2) h (fun h => ?_)
  refine m_C h (fun h => ?_)
  refine m_gr (fq1_c_68_2 hG f2) h (fun h => ?_)
  refine m_C h (fun h => ?_)
  refine m_C h (fun h => ?_)
  refine m_Cpy (fq1_cp (fq1_a_69) f2) h (fun _ f3 h => ?_)
  refine m_gr (fq1_c_16_3 hG f3) h (fun h => ?_)
  refine m_C h (fun h => ?_)
  refine m_gr (fq1_c_68_3 hG f3) h (fun h => ?_)
  refine m_C h (fun h => ?_)
  refine m_C h (fun h => ?_)
  refine m_Cpy (fq1_cp (fq1_a_70) f3) h (fun _ f4 h => ?_)
  refine m_gr (fq1_c_16_4 hG f4) h (fun h => ?_)
  refine m_C h (fun h => ?_)
  refine m_gr (fq1_c_68_4 hG f4) h (fun h => ?_)
  refine m_C h (fun h => ?_)
  refine m_C h (fun h => ?_)
  refine m_Cpy (fq1_cp (fq1_a_71) f4) h (fun _ f5 h => ?_)
  refine m_gr (fq1_c_16_5 hG f5) h (fun h => ?_)
  refine m_C h (fun h => ?_)
  refine m_gr (fq1_c_68_5 hG f5) h (fun h => ?_)
  refine m_C h (fun h => ?_)
  refine m_C h (fun h => ?_)
  refine m_Cpy (fq1_cp (fq1_a_72) f5) h (fun _ f6 h => ?_)
  refine m_gr (fq1_c_16_6 hG f6) h (fun h => ?_)
  refine m_C h (fun h => ?_)
  refine m_gr (fq1_c_68_6 hG f6) h (fun h => ?_)
  refine m_C h (fun h => ?_)
  refine m_C h (fun h => ?_)
  refine m_Cpy (fq1_cp (fq1_a_73) f6) h (fun _ f7 h => ?_)
  refine m_gr (fq1_c_16_7 hG f7) h (fun h => ?_)
  refine m_C h (fun h => ?_)
  refine m_gr (fq1_c_68_7 hG f7) h (fun h => ?_)
  refine m_C h (fun h => ?_)
  refine m_C h (fun h => ?_)
  refine m_Cpy (fq1_cp (fq1_a_74) f7) h (fun _ f8 h => ?_)
  refine m_gr (fq1_c_16_8 hG f8) h (fun h => ?_)
  refine m_C h (fun h => ?_)
  refine m_gr (fq1_c_68_8 hG f8) h (fun h => ?_)
  refine m_C h (fun h => ?_)
  refine m_C h (fun h => ?_)
  refine m_Cpy (fq1_cp (fq1_a_75) f8) h (fun _ f9 h => ?_)
  exact k _ f9 h
theorem fq1_X11_isHand {X G : Mm} {S : Sh} {K K' : Int → Mm → Prop} {M : Mm} {u1 : Int} (hG : Inv X S G) (k : ∀ (a0 : Int) (m : Mm), fq1_F G m → K a0 m → K' a0 m) (f : fq1_F G M) (h : wp_X11_isHand S M (0) u1 K) : wp_X11_isHand S M (0) u1 K' := by
  refine m_if h (fun h => ?_) (fun h => ?_)
  · skip
    refine m_C h (fun h => ?_)
    refine m_and h (fun h => ?_)
    exact k _ _ f h
  · skip
    refine m_gr (fq1_c_0_1 hG f) h (fun h => ?_)
    refine m_gr (fq1_c_3_0 hG f) h (fun h => ?_)
    refine m_Get h (fun _ h => ?_)
    refine m_if h (fun h => ?_) (fun h => ?_)
    · skip
      refine m_C h (fun h => ?_)
      refine m_and h (fun h => ?_)
      exact k _ _ f h
    · skip
      refine m_C h (fun h => ?_)
      refine m_and h (fun h => ?_)
      exact k _ _ f h
theorem fq1_X5_heldBits_25 {X G : Mm} {S : Sh} {k4 k4' : Int → Int → Int → Int → Mm → Prop} {K K' : Int → Mm → Prop} {M : Mm} {u0 : Int} {u1 : Int} {u2 : Int} {u3 : Int} (hG : Inv X S G) (kk4 : ∀ (a0 : Int) (a1 : Int) (a2 : Int) (a3 : Int) (m : Mm), fq1_F G m → k4 a0 a1 a2 a3 m → k4' a0 a1 a2 a3 m) (k : ∀ (a0 : Int) (m : Mm), fq1_F G m → K a0 m → K' a0 m) (f : fq1_F G M) (h : wp_X5_heldBits_25 S k4 K u0 u1 u2 u3 M) : wp_X5_heldBits_25 S k4' K' u0 u1 u2 u3 M := by
  refine m_A h (fun _ h => ?_)
  exact kk4 _ _ _ _ _ f h
theorem fq1_X5_heldBits_4 {X G : Mm} {S : Sh} {K K' : Int → Mm → Prop} (hG : Inv X S G) (k : ∀ (a0 : Int) (m : Mm), fq1_F G m → K a0 m → K' a0 m) : ∀ (n : Nat) (u0 : Int) (u1 : Int) (u2 : Int) (u3 : Int) (M : Mm), fq1_F G M → wp_X5_heldBits_4 S K n u0 u1 u2 u3 M → wp_X5_heldBits_4 S K' n u0 u1 u2 u3 M := by
  intro n
  induction n with
  | zero => intro u0 u1 u2 u3 M f h; exact h
  | succ n ih =>
    intro u0 u1 u2 u3 M f h
    refine m_C h (fun h => ?_)
    refine m_if h (fun h => ?_) (fun h => ?_)
    · skip
      exact k _ _ f h
    · skip
      refine m_GetR h (fun _ h => ?_)
      refine m_Ld h (fun _ h => ?_)
      refine m_if h (fun h => ?_) (fun h => ?_)
      · skip
        refine fq1_X5_heldBits_25 hG (fun _ _ _ _ _ f1 h => ?_) k f h
        exact ih _ _ _ _ _ f1 h
      · skip
        refine m_C h (fun h => ?_)
        refine m_O h (fun _ h => ?_)
        refine m_O h (fun _ h => ?_)
        refine fq1_X5_heldBits_25 hG (fun _ _ _ _ _ f2 h => ?_) k f h
        exact ih _ _ _ _ _ f2 h
theorem fq1_X5_heldBits {X G : Mm} {S : Sh} {K K' : Int → Mm → Prop} {M : Mm} {u0 : Int} {u1 : Int} (hG : Inv X S G) (k : ∀ (a0 : Int) (m : Mm), fq1_F G m → K a0 m → K' a0 m) (f : fq1_F G M) (h : wp_X5_heldBits S M u0 u1 K) : wp_X5_heldBits S M u0 u1 K' := by
  refine m_C h (fun h => ?_)
  refine m_C h (fun h => ?_)
  refine m_ex h (fun n9 h => ?_)
  refine fq1_X5_heldBits_4 hG k _ _ _ _ _ _ f h
theorem fq1_X11_isJug {X G : Mm} {S : Sh} {K K' : Int → Mm → Prop} {M : Mm} {u1 : Int} (hG : Inv X S G) (k : ∀ (a0 : Int) (m : Mm), fq1_F G m → K a0 m → K' a0 m) (f : fq1_F G M) (h : wp_X11_isJug S M (0) u1 K) : wp_X11_isJug S M (0) u1 K' := by
  refine m_if h (fun h => ?_) (fun h => ?_)
  · skip
    refine m_C h (fun h => ?_)
    refine m_and h (fun h => ?_)
    exact k _ _ f h
  · skip
    refine m_gr (fq1_c_0_1 hG f) h (fun h => ?_)
    refine m_gr (fq1_c_3_0 hG f) h (fun h => ?_)
    refine m_Get h (fun _ h => ?_)
    refine m_if h (fun h => ?_) (fun h => ?_)
    · skip
      refine m_C h (fun h => ?_)
      refine m_and h (fun h => ?_)
      exact k _ _ f h
    · skip
      refine m_C h (fun h => ?_)
      refine m_and h (fun h => ?_)
      exact k _ _ f h
theorem fq1_X5_isGone {X G : Mm} {S : Sh} {K K' : Int → Mm → Prop} {M : Mm} {u0 : Int} {u1 : Int} (hG : Inv X S G) (k : ∀ (a0 : Int) (m : Mm), fq1_F G m → K a0 m → K' a0 m) (f : fq1_F G M) (h : wp_X5_isGone S M u0 u1 K) : wp_X5_isGone S M u0 u1 K' := by
  refine m_GetR h (fun _ h => ?_)
  refine m_Ld h (fun _ h => ?_)
  refine m_C h (fun h => ?_)
  refine m_if h (fun h => ?_) (fun h => ?_)
  · skip
    refine m_C h (fun h => ?_)
    refine m_and h (fun h => ?_)
    exact k _ _ f h
  · skip
    refine m_GetR h (fun _ h => ?_)
    refine m_Ld h (fun _ h => ?_)
    refine m_C h (fun h => ?_)
    refine m_if h (fun h => ?_) (fun h => ?_)
    · skip
      refine m_C h (fun h => ?_)
      refine m_and h (fun h => ?_)
      exact k _ _ f h
    · skip
      refine m_C h (fun h => ?_)
      refine m_and h (fun h => ?_)
      exact k _ _ f h
theorem fq1_X8_suits {X G : Mm} {S : Sh} {K K' : Int → Mm → Prop} {M : Mm} {u1 : Int} {u2 : Int} (hG : Inv X S G) (k : ∀ (a0 : Int) (m : Mm), fq1_F G m → K a0 m → K' a0 m) (f : fq1_F G M) (h : wp_X8_suits S M (4) u1 u2 K) : wp_X8_suits S M (4) u1 u2 K' := by
  refine m_gr (fq1_c_4_16 hG f) h (fun h => ?_)
  refine m_Ld h (fun _ h => ?_)
  refine m_if h (fun h => ?_) (fun h => ?_)
  · skip
    refine m_C h (fun h => ?_)
    refine m_and h (fun h => ?_)
    exact k _ _ f h
  · skip
    refine m_gr (fq1_c_4_17 hG f) h (fun h => ?_)
    refine m_Ld h (fun _ h => ?_)
    refine m_if h (fun h => ?_) (fun h => ?_)
    · skip
      refine m_C h (fun h => ?_)
      refine m_and h (fun h => ?_)
      exact k _ _ f h
    · skip
      refine m_C h (fun h => ?_)
      refine m_and h (fun h => ?_)
      exact k _ _ f h
theorem fq1_X5_stands {X G : Mm} {S : Sh} {K K' : Int → Mm → Prop} {M : Mm} {u0 : Int} {u1 : Int} (hG : Inv X S G) (k : ∀ (a0 : Int) (m : Mm), fq1_F G m → K a0 m → K' a0 m) (f : fq1_F G M) (h : wp_X5_stands S M u0 u1 K) : wp_X5_stands S M u0 u1 K' := by
  refine m_GetR h (fun _ h => ?_)
  refine m_Ld h (fun _ h => ?_)
  refine m_C h (fun h => ?_)
  refine m_if h (fun h => ?_) (fun h => ?_)
  · skip
    refine m_C h (fun h => ?_)
    refine m_and h (fun h => ?_)
    exact k _ _ f h
  · skip
    refine m_C h (fun h => ?_)
    refine m_and h (fun h => ?_)
    exact k _ _ f h
theorem fq1_X8_heatIn_41 {X G : Mm} {S : Sh} {k4 k4' : Int → Int → Int → Int → Mm → Prop} {K K' : Int → Mm → Prop} {M : Mm} {u1 : Int} {u2 : Int} {u3 : Int} (hG : Inv X S G) (kk4 : ∀ (a1 : Int) (a2 : Int) (a3 : Int) (m : Mm), fq1_F G m → k4 (4) a1 a2 a3 m → k4' (4) a1 a2 a3 m) (k : ∀ (a0 : Int) (m : Mm), fq1_F G m → K a0 m → K' a0 m) (f : fq1_F G M) (h : wp_X8_heatIn_41 S k4 K (4) u1 u2 u3 M) : wp_X8_heatIn_41 S k4' K' (4) u1 u2 u3 M := by
  refine m_A h (fun _ h => ?_)
  exact kk4 _ _ _ _ f h
theorem fq1_X8_heatIn_4 {X G : Mm} {S : Sh} {K K' : Int → Mm → Prop} (hG : Inv X S G) (k : ∀ (a0 : Int) (m : Mm), fq1_F G m → K a0 m → K' a0 m) : ∀ (n : Nat) (u1 : Int) (u2 : Int) (u3 : Int) (M : Mm), fq1_F G M → wp_X8_heatIn_4 S K n (4) u1 u2 u3 M → wp_X8_heatIn_4 S K' n (4) u1 u2 u3 M := by
  intro n
  induction n with
  | zero => intro u1 u2 u3 M f h; exact h
  | succ n ih =>
    intro u1 u2 u3 M f h
    refine m_Get h (fun _ h => ?_)
    refine m_if h (fun h => ?_) (fun h => ?_)
    · skip
      exact k _ _ f h
    · skip
      refine m_gr (fq1_c_4_12 hG f) h (fun h => ?_)
      refine m_Ld h (fun _ h => ?_)
      refine m_if h (fun h => ?_) (fun h => ?_)
      · skip
        refine fq1_X8_heatIn_41 hG (fun _ _ _ _ f1 h => ?_) k f h
        exact ih _ _ _ _ f1 h
      · skip
        refine m_gr (fq1_c_4_13 hG f) h (fun h => ?_)
        refine m_Ld h (fun _ h => ?_)
        refine m_if h (fun h => ?_) (fun h => ?_)
        · skip
          refine fq1_X8_heatIn_41 hG (fun _ _ _ _ f2 h => ?_) k f h
          exact ih _ _ _ _ f2 h
        · skip
          refine m_gr (fq1_c_4_14 hG f) h (fun h => ?_)
          refine m_Ld h (fun _ h => ?_)
          refine m_A h (fun _ h => ?_)
          refine fq1_X8_heatIn_41 hG (fun _ _ _ _ f3 h => ?_) k f h
          exact ih _ _ _ _ f3 h
theorem fq1_X8_heatIn {X G : Mm} {S : Sh} {K K' : Int → Mm → Prop} {M : Mm} {u1 : Int} (hG : Inv X S G) (k : ∀ (a0 : Int) (m : Mm), fq1_F G m → K a0 m → K' a0 m) (f : fq1_F G M) (h : wp_X8_heatIn S M (4) u1 K) : wp_X8_heatIn S M (4) u1 K' := by
  refine m_C h (fun h => ?_)
  refine m_C h (fun h => ?_)
  refine m_ex h (fun n9 h => ?_)
  refine fq1_X8_heatIn_4 hG k _ _ _ _ _ f h
theorem fq1_X10_heatIn {X G : Mm} {S : Sh} {K K' : Int → Mm → Prop} {M : Mm} {u1 : Int} (hG : Inv X S G) (k : ∀ (a0 : Int) (m : Mm), fq1_F G m → K a0 m → K' a0 m) (f : fq1_F G M) (h : wp_X10_heatIn S M (55) u1 K) : wp_X10_heatIn S M (55) u1 K' := by
  refine m_Get h (fun _ h => ?_)
  refine m_if h (fun h => ?_) (fun h => ?_)
  · skip
    refine m_gr (fq1_c_55_0 hG f) h (fun h => ?_)
    refine m_and h (fun h => ?_)
    refine fq1_X8_heatIn hG (fun _ _ f1 h => ?_) f h
    exact k _ _ f1 h
  · skip
    refine m_C h (fun h => ?_)
    exact k _ _ f h
theorem fq1_X5_isAtPlace {X G : Mm} {S : Sh} {K K' : Int → Mm → Prop} {M : Mm} {u1 : Int} (hG : Inv X S G) (k : ∀ (a0 : Int) (m : Mm), fq1_F G m → K a0 m → K' a0 m) (f : fq1_F G M) (h : wp_X5_isAtPlace S M (68) u1 K) : wp_X5_isAtPlace S M (68) u1 K' := by
  refine m_gr (fq1_c_68_3 hG f) h (fun h => ?_)
  refine m_Ld h (fun _ h => ?_)
  refine m_if h (fun h => ?_) (fun h => ?_)
  · skip
    refine m_C h (fun h => ?_)
    refine m_and h (fun h => ?_)
    exact k _ _ f h
  · skip
    refine m_C h (fun h => ?_)
    refine m_and h (fun h => ?_)
    exact k _ _ f h
theorem fq1_X5_howManyHeld {X G : Mm} {S : Sh} {K K' : Int → Mm → Prop} {M : Mm} {u1 : Int} (hG : Inv X S G) (k : ∀ (a0 : Int) (m : Mm), fq1_F G m → K a0 m → K' a0 m) (f : fq1_F G M) (h : wp_X5_howManyHeld S M (68) u1 K) : wp_X5_howManyHeld S M (68) u1 K' := by
  refine m_and h (fun h => ?_)
  refine fq1_X5_heldBits hG (fun _ _ f1 h => ?_) f h
  refine fq1_J6_bitCount_0f7a4 hG (fun _ _ f2 h => ?_) f1 h
  exact k _ _ f2 h
theorem fq1_X10_see_52 {X G : Mm} {S : Sh} {K K' : Mm → Prop} {M : Mm} {u2 : Int} {t1 : Int} (hG : Inv X S G) (k : ∀ (m : Mm), fq1_F G m → K m → K' m) (f : fq1_F G M) (h : wp_X10_see_52 S K (55) (68) u2 (55) t1 M) : wp_X10_see_52 S K' (55) (68) u2 (55) t1 M := by
  refine m_Put (fq1_up (by decide) f) h (fun _ f1 h => ?_)
  refine m_and h (fun h => ?_)
  refine fq1_X5_howManyHeld hG (fun _ _ f2 h => ?_) f1 h
  refine m_Put (fq1_up (by decide) f2) h (fun _ f3 h => ?_)
  exact k _ f3 h
theorem fq1_X10_see {X G : Mm} {S : Sh} {K K' : Mm → Prop} {M : Mm} {u2 : Int} {u3 : Int} (hG : Inv X S G) (k : ∀ (m : Mm), fq1_F G m → K m → K' m) (f : fq1_F G M) (h : wp_X10_see S M (55) (68) u2 u3 K) : wp_X10_see S M (55) (68) u2 u3 K' := by
  refine m_Put (fq1_up (by decide) f) h (fun _ f1 h => ?_)
  refine m_Put (fq1_up (by decide) f1) h (fun _ f2 h => ?_)
  refine m_gr (fq1_c_68_7 hG f2) h (fun h => ?_)
  refine m_Ld h (fun _ h => ?_)
  refine m_Put (fq1_up (by decide) f2) h (fun _ f3 h => ?_)
  refine m_gr (fq1_c_68_4 hG f3) h (fun h => ?_)
  refine m_Ld h (fun _ h => ?_)
  refine m_Put (fq1_up (by decide) f3) h (fun _ f4 h => ?_)
  refine m_Get h (fun _ h => ?_)
  refine m_Put (fq1_up (by decide) f4) h (fun _ f5 h => ?_)
  refine m_and h (fun h => ?_)
  refine fq1_X5_isAtPlace hG (fun _ _ f6 h => ?_) f5 h
  refine m_if h (fun h => ?_) (fun h => ?_)
  · skip
    refine m_C h (fun h => ?_)
    refine fq1_X10_see_52 hG k f6 h
  · skip
    refine m_C h (fun h => ?_)
    refine fq1_X10_see_52 hG k f6 h
theorem fq1_X10_valueOf {X G : Mm} {S : Sh} {K K' : Int → Mm → Prop} {M : Mm} {u1 : Int} (hG : Inv X S G) (k : ∀ (a0 : Int) (m : Mm), fq1_F G m → K a0 m → K' a0 m) (f : fq1_F G M) (h : wp_X10_valueOf S M (55) u1 K) : wp_X10_valueOf S M (55) u1 K' := by
  refine m_C h (fun h => ?_)
  refine m_S h (fun _ h => ?_)
  refine m_if h (fun h => ?_) (fun h => ?_)
  · skip
    refine m_Get h (fun _ h => ?_)
    refine m_C h (fun h => ?_)
    exact k _ _ f h
  · skip
    refine m_if h (fun h => ?_) (fun h => ?_)
    · skip
      refine m_gr (fq1_c_55_0 hG f) h (fun h => ?_)
      refine m_gr (fq1_c_4_10 hG f) h (fun h => ?_)
      refine m_Get h (fun _ h => ?_)
      refine m_Ld h (fun _ h => ?_)
      refine m_C h (fun h => ?_)
      exact k _ _ f h
    · skip
      refine m_if h (fun h => ?_) (fun h => ?_)
      · skip
        refine m_Get h (fun _ h => ?_)
        refine m_C h (fun h => ?_)
        exact k _ _ f h
      · skip
        refine m_if h (fun h => ?_) (fun h => ?_)
        · skip
          refine m_Get h (fun _ h => ?_)
          refine m_C h (fun h => ?_)
          exact k _ _ f h
        · skip
          refine m_if h (fun h => ?_) (fun h => ?_)
          · skip
            refine m_Get h (fun _ h => ?_)
            refine m_C h (fun h => ?_)
            exact k _ _ f h
          · skip
            refine m_if h (fun h => ?_) (fun h => ?_)
            · skip
              refine m_Get h (fun _ h => ?_)
              refine m_C h (fun h => ?_)
              exact k _ _ f h
            · skip
              refine m_if h (fun h => ?_) (fun h => ?_)
              · skip
                refine m_Get h (fun _ h => ?_)
                refine m_C h (fun h => ?_)
                exact k _ _ f h
              · skip
                refine m_if h (fun h => ?_) (fun h => ?_)
                · skip
                  refine m_Get h (fun _ h => ?_)
                  refine m_C h (fun h => ?_)
                  exact k _ _ f h
                · skip
                  refine m_if h (fun h => ?_) (fun h => ?_)
                  · skip
                    refine m_Get h (fun _ h => ?_)
                    refine m_C h (fun h => ?_)
                    exact k _ _ f h
                  · skip
                    refine m_Get h (fun _ h => ?_)
                    refine m_gr (fq1_c_55_0 hG f) h (fun h => ?_)
                    refine m_Get h (fun _ h => ?_)
                    refine m_if h (fun h => ?_) (fun h => ?_)
                    · skip
                      refine m_C h (fun h => ?_)
                      exact k _ _ f h
                    · skip
                      refine m_C h (fun h => ?_)
                      exact k _ _ f h
theorem fq1_X10_joined {X G : Mm} {S : Sh} {K K' : Int → Mm → Prop} {M : Mm} {u0 : Int} {u1 : Int} {u3 : Int} (hG : Inv X S G) (k : ∀ (a0 : Int) (m : Mm), fq1_F G m → K a0 m → K' a0 m) (f : fq1_F G M) (h : wp_X10_joined S M u0 u1 u3 K) : wp_X10_joined S M u0 u1 u3 K' := by
  refine m_if h (fun h => ?_) (fun h => ?_)
  · skip
    refine m_O h (fun _ h => ?_)
    exact k _ _ f h
  · skip
    refine m_if h (fun h => ?_) (fun h => ?_)
    · skip
      refine m_O h (fun _ h => ?_)
      exact k _ _ f h
    · skip
      refine m_if h (fun h => ?_) (fun h => ?_)
      · skip
        refine m_Cmp h (fun _ h => ?_)
        refine m_if h (fun h => ?_) (fun h => ?_)
        · skip
          refine m_C h (fun h => ?_)
          exact k _ _ f h
        · skip
          refine m_C h (fun h => ?_)
          exact k _ _ f h
      · skip
        refine m_if h (fun h => ?_) (fun h => ?_)
        · skip
          refine m_Cmp h (fun _ h => ?_)
          refine m_if h (fun h => ?_) (fun h => ?_)
          · skip
            refine m_C h (fun h => ?_)
            exact k _ _ f h
          · skip
            refine m_C h (fun h => ?_)
            exact k _ _ f h
        · skip
          refine m_if h (fun h => ?_) (fun h => ?_)
          · skip
            refine m_Cmp h (fun _ h => ?_)
            refine m_if h (fun h => ?_) (fun h => ?_)
            · skip
              refine m_C h (fun h => ?_)
              exact k _ _ f h
            · skip
              refine m_C h (fun h => ?_)
              exact k _ _ f h
          · skip
            refine m_if h (fun h => ?_) (fun h => ?_)
            · skip
              refine m_Cmp h (fun _ h => ?_)
              refine m_if h (fun h => ?_) (fun h => ?_)
              · skip
                refine m_C h (fun h => ?_)
                exact k _ _ f h
              · skip
                refine m_C h (fun h => ?_)
                exact k _ _ f h
            · skip
              refine m_if h (fun h => ?_) (fun h => ?_)
              · skip
                refine m_Cmp h (fun _ h => ?_)
                refine m_if h (fun h => ?_) (fun h => ?_)
                · skip
                  refine m_C h (fun h => ?_)
                  exact k _ _ f h
                · skip
                  refine m_C h (fun h => ?_)
                  exact k _ _ f h
              · skip
                refine m_if h (fun h => ?_) (fun h => ?_)
                · skip
                  refine m_LS h (fun _ h => ?_)
                  exact k _ _ f h
                · skip
                  refine m_if h (fun h => ?_) (fun h => ?_)
                  · skip
                    refine m_LA h (fun _ h => ?_)
                    exact k _ _ f h
                  · skip
                    refine m_if h (fun h => ?_) (fun h => ?_)
                    · skip
                      refine m_C h (fun h => ?_)
                      refine m_Cmp h (fun _ h => ?_)
                      refine m_if h (fun h => ?_) (fun h => ?_)
                      · skip
                        refine m_D h (fun _ h => ?_)
                        exact k _ _ f h
                      · skip
                        refine m_C h (fun h => ?_)
                        exact k _ _ f h
                    · skip
                      refine m_if h (fun h => ?_) (fun h => ?_)
                      · skip
                        refine m_C h (fun h => ?_)
                        refine m_Cmp h (fun _ h => ?_)
                        refine m_if h (fun h => ?_) (fun h => ?_)
                        · skip
                          refine m_D h (fun _ h => ?_)
                          exact k _ _ f h
                        · skip
                          refine m_C h (fun h => ?_)
                          exact k _ _ f h
                      · skip
                        refine m_if h (fun h => ?_) (fun h => ?_)
                        · skip
                          refine m_LM h (fun _ h => ?_)
                          exact k _ _ f h
                        · skip
                          refine m_O h (fun _ h => ?_)
                          exact k _ _ f h
theorem fq1_X10_sumByRule_170 {X G : Mm} {S : Sh} {k4 k4' : Int → Int → Int → Mm → Prop} {K K' : Int → Mm → Prop} {M : Mm} {u1 : Int} {u2 : Int} (hG : Inv X S G) (kk4 : ∀ (a1 : Int) (a2 : Int) (m : Mm), fq1_F G m → k4 (55) a1 a2 m → k4' (55) a1 a2 m) (k : ∀ (a0 : Int) (m : Mm), fq1_F G m → K a0 m → K' a0 m) (f : fq1_F G M) (h : wp_X10_sumByRule_170 S k4 K (55) u1 u2 M) : wp_X10_sumByRule_170 S k4' K' (55) u1 u2 M := by
  refine m_A h (fun _ h => ?_)
  exact kk4 _ _ _ f h
theorem fq1_X10_sumByRule_58 {X G : Mm} {S : Sh} {k4 k4' : Int → Int → Int → Mm → Prop} {K K' : Int → Mm → Prop} {M : Mm} {u1 : Int} {u2 : Int} {t1 : Int} {t2 : Int} (hG : Inv X S G) (kk4 : ∀ (a1 : Int) (a2 : Int) (m : Mm), fq1_F G m → k4 (55) a1 a2 m → k4' (55) a1 a2 m) (k : ∀ (a0 : Int) (m : Mm), fq1_F G m → K a0 m → K' a0 m) (f : fq1_F G M) (h : wp_X10_sumByRule_58 S k4 K (55) u1 u2 (56) t1 t2 M) : wp_X10_sumByRule_58 S k4' K' (55) u1 u2 (56) t1 t2 M := by
  refine m_St (fq1_up (fq1_a_56 _) f) h (fun _ f1 h => ?_)
  refine fq1_X10_sumByRule_170 hG kk4 k f1 h
theorem fq1_X10_sumByRule_4 {X G : Mm} {S : Sh} {K K' : Int → Mm → Prop} (hG : Inv X S G) (k : ∀ (a0 : Int) (m : Mm), fq1_F G m → K a0 m → K' a0 m) : ∀ (n : Nat) (u1 : Int) (u2 : Int) (M : Mm), fq1_F G M → wp_X10_sumByRule_4 S K n (55) u1 u2 M → wp_X10_sumByRule_4 S K' n (55) u1 u2 M := by
  intro n
  induction n with
  | zero => intro u1 u2 M f h; exact h
  | succ n ih =>
    intro u1 u2 M f h
    refine m_GetR h (fun _ h => ?_)
    refine m_Len h (fun _ h => ?_)
    refine m_if h (fun h => ?_) (fun h => ?_)
    · skip
      refine m_C h (fun h => ?_)
      exact k _ _ f h
    · skip
      refine m_GetR h (fun _ h => ?_)
      refine m_Ld h (fun _ h => ?_)
      refine m_C h (fun h => ?_)
      refine m_if h (fun h => ?_) (fun h => ?_)
      · skip
        refine m_if h (fun h => ?_) (fun h => ?_)
        · skip
          refine m_C h (fun h => ?_)
          refine m_if h (fun h => ?_) (fun h => ?_)
          · skip
            refine m_C h (fun h => ?_)
            refine m_if h (fun h => ?_) (fun h => ?_)
            · skip
              refine m_C h (fun h => ?_)
              refine m_if h (fun h => ?_) (fun h => ?_)
              · skip
                refine m_C h (fun h => ?_)
                refine m_if h (fun h => ?_) (fun h => ?_)
                · skip
                  refine m_A h (fun _ h => ?_)
                  refine m_gr (fq1_c_55_3 hG f) h (fun h => ?_)
                  refine m_gr (fq1_c_55_3 hG f) h (fun h => ?_)
                  refine m_Ld h (fun _ h => ?_)
                  refine m_gr (fq1_c_55_3 hG f) h (fun h => ?_)
                  refine m_C h (fun h => ?_)
                  refine m_A h (fun _ h => ?_)
                  refine m_Ld h (fun _ h => ?_)
                  refine fq1_X10_joined hG (fun _ _ f1 h => ?_) f h
                  refine m_St (fq1_up (fq1_a_56 _) f1) h (fun _ f2 h => ?_)
                  refine fq1_X10_sumByRule_170 hG (fun _ _ _ f3 h => ?_) k f2 h
                  exact ih _ _ _ f3 h
                · skip
                  refine m_gr (fq1_c_55_3 hG f) h (fun h => ?_)
                  refine m_Ld h (fun _ h => ?_)
                  refine m_C h (fun h => ?_)
                  refine m_Cmp h (fun _ h => ?_)
                  refine m_if h (fun h => ?_) (fun h => ?_)
                  · skip
                    refine m_A h (fun _ h => ?_)
                    refine fq1_X10_sumByRule_170 hG (fun _ _ _ f4 h => ?_) k f h
                    exact ih _ _ _ f4 h
                  · skip
                    refine m_gr (fq1_c_55_3 hG f) h (fun h => ?_)
                    refine m_C h (fun h => ?_)
                    refine m_S h (fun _ h => ?_)
                    refine m_Ld h (fun _ h => ?_)
                    exact k _ _ f h
              · skip
                refine m_C h (fun h => ?_)
                exact k _ _ f h
            · skip
              refine m_gr (fq1_c_55_3 hG f) h (fun h => ?_)
              refine m_C h (fun h => ?_)
              refine m_gr (fq1_c_55_3 hG f) h (fun h => ?_)
              refine m_Ld h (fun _ h => ?_)
              refine m_LS h (fun _ h => ?_)
              refine m_St (fq1_up (fq1_a_56 _) f) h (fun _ f5 h => ?_)
              refine fq1_X10_sumByRule_170 hG (fun _ _ _ f6 h => ?_) k f5 h
              exact ih _ _ _ f6 h
          · skip
            refine m_gr (fq1_c_55_3 hG f) h (fun h => ?_)
            refine m_Ld h (fun _ h => ?_)
            exact k _ _ f h
        · skip
          refine m_C h (fun h => ?_)
          exact k _ _ f h
      · skip
        refine m_C h (fun h => ?_)
        refine m_A h (fun _ h => ?_)
        refine m_C h (fun h => ?_)
        refine m_if h (fun h => ?_) (fun h => ?_)
        · skip
          refine m_A h (fun _ h => ?_)
          refine m_gr (fq1_c_55_3 hG f) h (fun h => ?_)
          refine m_if h (fun h => ?_) (fun h => ?_)
          · skip
            refine m_and h (fun h => ?_)
            refine fq1_X10_valueOf hG (fun _ _ f7 h => ?_) f h
            refine fq1_X10_sumByRule_58 hG (fun _ _ _ f8 h => ?_) k f7 h
            exact ih _ _ _ f8 h
          · skip
            refine m_C h (fun h => ?_)
            refine fq1_X10_sumByRule_58 hG (fun _ _ _ f9 h => ?_) k f h
            exact ih _ _ _ f9 h
        · skip
          refine m_C h (fun h => ?_)
          exact k _ _ f h
theorem fq1_X10_sumByRule {X G : Mm} {S : Sh} {K K' : Int → Mm → Prop} {M : Mm} (hG : Inv X S G) (k : ∀ (a0 : Int) (m : Mm), fq1_F G m → K a0 m → K' a0 m) (f : fq1_F G M) (h : wp_X10_sumByRule S M (55) K) : wp_X10_sumByRule S M (55) K' := by
  refine m_C h (fun h => ?_)
  refine m_C h (fun h => ?_)
  refine m_ex h (fun n9 h => ?_)
  refine fq1_X10_sumByRule_4 hG k _ _ _ _ f h
theorem fq1_X10_turns {X G : Mm} {S : Sh} {K K' : Int → Mm → Prop} {M : Mm} (hG : Inv X S G) (k : ∀ (a0 : Int) (m : Mm), fq1_F G m → K a0 m → K' a0 m) (f : fq1_F G M) (h : wp_X10_turns S M (55) K) : wp_X10_turns S M (55) K' := by
  refine m_Get h (fun _ h => ?_)
  refine m_and h (fun h => ?_)
  refine fq1_X10_heatIn hG (fun _ _ f1 h => ?_) f h
  refine m_Put (fq1_up (by decide) f1) h (fun _ f2 h => ?_)
  refine m_GetR h (fun _ h => ?_)
  refine m_Len h (fun _ h => ?_)
  refine m_if h (fun h => ?_) (fun h => ?_)
  · skip
    refine m_C h (fun h => ?_)
    refine m_C h (fun h => ?_)
    refine m_and h (fun h => ?_)
    refine fq1_X10_sumByRule hG (fun _ _ f3 h => ?_) f2 h
    refine m_O h (fun _ h => ?_)
    refine m_O h (fun _ h => ?_)
    refine m_O1 h (fun _ h => ?_)
    exact k _ _ f3 h
  · skip
    refine m_gr (fq1_c_55_0 hG f2) h (fun h => ?_)
    refine m_gr (fq1_c_4_10 hG f2) h (fun h => ?_)
    refine m_Get h (fun _ h => ?_)
    refine m_Ld h (fun _ h => ?_)
    refine m_Get h (fun _ h => ?_)
    refine m_C h (fun h => ?_)
    refine m_D h (fun _ h => ?_)
    refine m_A h (fun _ h => ?_)
    refine m_Get h (fun _ h => ?_)
    refine m_A h (fun _ h => ?_)
    exact k _ _ f2 h
theorem fq1_X1_turnsIn {X G : Mm} {S : Sh} {K K' : Int → Mm → Prop} {M : Mm} {u2 : Int} (hG : Inv X S G) (k : ∀ (a0 : Int) (m : Mm), fq1_F G m → K a0 m → K' a0 m) (f : fq1_F G M) (h : wp_X1_turnsIn S M (57) (68) u2 K) : wp_X1_turnsIn S M (57) (68) u2 K' := by
  refine m_and h (fun h => ?_)
  refine fq1_X5_stands hG (fun _ _ f1 h => ?_) f h
  refine m_if h (fun h => ?_) (fun h => ?_)
  · skip
    refine m_and h (fun h => ?_)
    refine fq1_X5_isGone hG (fun _ _ f2 h => ?_) f1 h
    refine m_if h (fun h => ?_) (fun h => ?_)
    · skip
      refine m_gr (fq1_c_57_0 hG f2) h (fun h => ?_)
      refine m_gr (fq1_c_68_6 hG f2) h (fun h => ?_)
      refine m_Ld h (fun _ h => ?_)
      refine m_and h (fun h => ?_)
      refine fq1_X10_see hG (fun _ f3 h => ?_) f2 h
      refine m_gr (fq1_c_57_0 hG f3) h (fun h => ?_)
      refine m_and h (fun h => ?_)
      refine fq1_X10_turns hG (fun _ _ f4 h => ?_) f3 h
      exact k _ _ f4 h
    · skip
      refine m_C h (fun h => ?_)
      exact k _ _ f2 h
  · skip
    refine m_gr (fq1_c_57_1 hG f1) h (fun h => ?_)
    refine m_Get h (fun _ h => ?_)
    refine m_gr (fq1_c_57_0 hG f1) h (fun h => ?_)
    refine m_Get h (fun _ h => ?_)
    refine m_and h (fun h => ?_)
    refine fq1_X10_heatIn hG (fun _ _ f5 h => ?_) f1 h
    refine m_A h (fun _ h => ?_)
    exact k _ _ f5 h
theorem fq1_X5_tire {X G : Mm} {S : Sh} {K K' : Mm → Prop} {M : Mm} {u1 : Int} {u2 : Int} (hG : Inv X S G) (k : ∀ (m : Mm), fq1_F G m → K m → K' m) (f : fq1_F G M) (h : wp_X5_tire S M (68) u1 u2 K) : wp_X5_tire S M (68) u1 u2 K' := by
  refine m_and h (fun h => ?_)
  refine fq1_X5_heldBits hG (fun _ _ f1 h => ?_) f h
  refine m_if h (fun h => ?_) (fun h => ?_)
  · skip
    refine m_gr (fq1_c_68_4 hG f1) h (fun h => ?_)
    refine m_C h (fun h => ?_)
    refine m_gr (fq1_c_68_4 hG f1) h (fun h => ?_)
    refine m_Ld h (fun _ h => ?_)
    refine m_C h (fun h => ?_)
    refine m_S h (fun _ h => ?_)
    refine m_O h (fun _ h => ?_)
    refine m_St (fq1_up (fq1_a_71 _) f1) h (fun _ f2 h => ?_)
    exact k _ f2 h
  · skip
    refine m_gr (fq1_c_68_4 hG f1) h (fun h => ?_)
    refine m_C h (fun h => ?_)
    refine m_gr (fq1_c_68_4 hG f1) h (fun h => ?_)
    refine m_Ld h (fun _ h => ?_)
    refine m_A h (fun _ h => ?_)
    refine m_O h (fun _ h => ?_)
    refine m_St (fq1_up (fq1_a_71 _) f1) h (fun _ f3 h => ?_)
    exact k _ f3 h
theorem fq1_X1_pass_83 {X G : Mm} {S : Sh} {K K' : Int → Mm → Prop} (hG : Inv X S G) (k : ∀ (a0 : Int) (m : Mm), fq1_F G m → K a0 m → K' a0 m) : ∀ (n : Nat) (u2 : Int) (u3 : Int) (M : Mm), fq1_F G M → wp_X1_pass_83 S K n (57) (68) u2 u3 M → wp_X1_pass_83 S K' n (57) (68) u2 u3 M := by
  intro n
  induction n with
  | zero => intro u2 u3 M f h; exact h
  | succ n ih =>
    intro u2 u3 M f h
    refine m_gr (fq1_c_57_1 hG f) h (fun h => ?_)
    refine m_Get h (fun _ h => ?_)
    refine m_if h (fun h => ?_) (fun h => ?_)
    · skip
      refine m_C h (fun h => ?_)
      refine m_Get h (fun _ h => ?_)
      refine m_C h (fun h => ?_)
      refine m_A h (fun _ h => ?_)
      refine m_O h (fun _ h => ?_)
      refine m_Put (fq1_up (by decide) f) h (fun _ f1 h => ?_)
      exact k _ _ f1 h
    · skip
      refine m_gr (fq1_c_57_1 hG f) h (fun h => ?_)
      refine m_gr (fq1_c_4_11 hG f) h (fun h => ?_)
      refine m_Ld h (fun _ h => ?_)
      refine m_and h (fun h => ?_)
      refine fq1_X5_tire hG (fun _ f2 h => ?_) f h
      refine m_gr (fq1_c_68_3 hG f2) h (fun h => ?_)
      refine m_C h (fun h => ?_)
      refine m_gr (fq1_c_68_3 hG f2) h (fun h => ?_)
      refine m_Ld h (fun _ h => ?_)
      refine m_C h (fun h => ?_)
      refine m_S h (fun _ h => ?_)
      refine m_O h (fun _ h => ?_)
      refine m_St (fq1_up (fq1_a_70 _) f2) h (fun _ f3 h => ?_)
      refine m_A h (fun _ h => ?_)
      exact ih _ _ _ f3 h
theorem fq1_X1_pass_75 {X G : Mm} {S : Sh} {k4 k4' : Int → Int → Int → Int → Mm → Prop} {K K' : Int → Mm → Prop} {M : Mm} {u2 : Int} {u3 : Int} (hG : Inv X S G) (kk4 : ∀ (a2 : Int) (a3 : Int) (m : Mm), fq1_F G m → k4 (57) (68) a2 a3 m → k4' (57) (68) a2 a3 m) (k : ∀ (a0 : Int) (m : Mm), fq1_F G m → K a0 m → K' a0 m) (f : fq1_F G M) (h : wp_X1_pass_75 S k4 K (57) (68) u2 u3 M) : wp_X1_pass_75 S k4' K' (57) (68) u2 u3 M := by
  refine m_A h (fun _ h => ?_)
  exact kk4 _ _ _ f h
theorem fq1_X1_pass_4 {X G : Mm} {S : Sh} {K K' : Int → Mm → Prop} (hG : Inv X S G) (k : ∀ (a0 : Int) (m : Mm), fq1_F G m → K a0 m → K' a0 m) : ∀ (n : Nat) (u2 : Int) (u3 : Int) (M : Mm), fq1_F G M → wp_X1_pass_4 S K n (57) (68) u2 u3 M → wp_X1_pass_4 S K' n (57) (68) u2 u3 M := by
  intro n
  induction n with
  | zero => intro u2 u3 M f h; exact h
  | succ n ih =>
    intro u2 u3 M f h
    refine m_gr (fq1_c_57_1 hG f) h (fun h => ?_)
    refine m_Get h (fun _ h => ?_)
    refine m_if h (fun h => ?_) (fun h => ?_)
    · skip
      refine m_C h (fun h => ?_)
      refine m_ex h (fun n9 h => ?_)
      refine fq1_X1_pass_83 hG k _ _ _ _ f h
    · skip
      refine m_gr (fq1_c_68_7 hG f) h (fun h => ?_)
      refine m_Ld h (fun _ h => ?_)
      refine m_gr (fq1_c_68_7 hG f) h (fun h => ?_)
      refine m_C h (fun h => ?_)
      refine m_and h (fun h => ?_)
      refine fq1_X1_turnsIn hG (fun _ _ f1 h => ?_) f h
      refine m_A h (fun _ h => ?_)
      refine m_O h (fun _ h => ?_)
      refine m_St (fq1_up (fq1_a_74 _) f1) h (fun _ f2 h => ?_)
      refine m_gr (fq1_c_57_1 hG f2) h (fun h => ?_)
      refine m_Get h (fun _ h => ?_)
      refine m_if h (fun h => ?_) (fun h => ?_)
      · skip
        refine fq1_X1_pass_75 hG (fun _ _ _ f3 h => ?_) k f2 h
        exact ih _ _ _ f3 h
      · skip
        refine m_gr (fq1_c_68_7 hG f2) h (fun h => ?_)
        refine m_Ld h (fun _ h => ?_)
        refine m_gr (fq1_c_57_1 hG f2) h (fun h => ?_)
        refine m_Get h (fun _ h => ?_)
        refine m_if h (fun h => ?_) (fun h => ?_)
        · skip
          refine fq1_X1_pass_75 hG (fun _ _ _ f4 h => ?_) k f2 h
          exact ih _ _ _ f4 h
        · skip
          refine m_A h (fun _ h => ?_)
          refine fq1_X1_pass_75 hG (fun _ _ _ f5 h => ?_) k f2 h
          exact ih _ _ _ f5 h
theorem fq1_X1_pass {X G : Mm} {S : Sh} {K K' : Int → Mm → Prop} {M : Mm} (hG : Inv X S G) (k : ∀ (a0 : Int) (m : Mm), fq1_F G m → K a0 m → K' a0 m) (f : fq1_F G M) (h : wp_X1_pass S M (57) (68) K) : wp_X1_pass S M (57) (68) K' := by
  refine m_C h (fun h => ?_)
  refine m_C h (fun h => ?_)
  refine m_ex h (fun n9 h => ?_)
  refine fq1_X1_pass_4 hG k _ _ _ _ f h
theorem fq1_X5_canHoldMore {X G : Mm} {S : Sh} {K K' : Int → Mm → Prop} {M : Mm} {u1 : Int} (hG : Inv X S G) (k : ∀ (a0 : Int) (m : Mm), fq1_F G m → K a0 m → K' a0 m) (f : fq1_F G M) (h : wp_X5_canHoldMore S M (68) u1 K) : wp_X5_canHoldMore S M (68) u1 K' := by
  refine m_and h (fun h => ?_)
  refine fq1_X5_isAtPlace hG (fun _ _ f1 h => ?_) f h
  refine m_if h (fun h => ?_) (fun h => ?_)
  · skip
    refine m_C h (fun h => ?_)
    refine m_and h (fun h => ?_)
    exact k _ _ f1 h
  · skip
    refine m_and h (fun h => ?_)
    refine fq1_X5_howManyHeld hG (fun _ _ f2 h => ?_) f1 h
    refine m_C h (fun h => ?_)
    refine m_if h (fun h => ?_) (fun h => ?_)
    · skip
      refine m_C h (fun h => ?_)
      refine m_and h (fun h => ?_)
      exact k _ _ f2 h
    · skip
      refine m_C h (fun h => ?_)
      refine m_and h (fun h => ?_)
      exact k _ _ f2 h
theorem fq1_X5_canTake {X G : Mm} {S : Sh} {K K' : Int → Mm → Prop} {M : Mm} {u1 : Int} {u2 : Int} (hG : Inv X S G) (k : ∀ (a0 : Int) (m : Mm), fq1_F G m → K a0 m → K' a0 m) (f : fq1_F G M) (h : wp_X5_canTake S M (68) u1 u2 K) : wp_X5_canTake S M (68) u1 u2 K' := by
  refine m_and h (fun h => ?_)
  refine fq1_X5_stands hG (fun _ _ f1 h => ?_) f h
  refine m_if h (fun h => ?_) (fun h => ?_)
  · skip
    refine m_C h (fun h => ?_)
    refine m_and h (fun h => ?_)
    exact k _ _ f1 h
  · skip
    refine m_gr (fq1_c_68_5 hG f1) h (fun h => ?_)
    refine m_Ld h (fun _ h => ?_)
    refine m_gr (fq1_c_68_2 hG f1) h (fun h => ?_)
    refine m_Ld h (fun _ h => ?_)
    refine m_if h (fun h => ?_) (fun h => ?_)
    · skip
      refine m_C h (fun h => ?_)
      refine m_and h (fun h => ?_)
      exact k _ _ f1 h
    · skip
      refine m_and h (fun h => ?_)
      refine fq1_X5_canHoldMore hG (fun _ _ f2 h => ?_) f1 h
      refine m_if h (fun h => ?_) (fun h => ?_)
      · skip
        refine m_C h (fun h => ?_)
        refine m_and h (fun h => ?_)
        exact k _ _ f2 h
      · skip
        refine m_C h (fun h => ?_)
        refine m_and h (fun h => ?_)
        exact k _ _ f2 h
theorem fq1_X5_giveTo {X G : Mm} {S : Sh} {K K' : Mm → Prop} {M : Mm} {u1 : Int} {u2 : Int} (hG : Inv X S G) (k : ∀ (m : Mm), fq1_F G m → K m → K' m) (f : fq1_F G M) (h : wp_X5_giveTo S M (68) u1 u2 K) : wp_X5_giveTo S M (68) u1 u2 K' := by
  refine m_gr (fq1_c_68_6 hG f) h (fun h => ?_)
  refine m_St (fq1_up (fq1_a_73 _) f) h (fun _ f1 h => ?_)
  refine m_gr (fq1_c_68_5 hG f1) h (fun h => ?_)
  refine m_C h (fun h => ?_)
  refine m_St (fq1_up (fq1_a_72 _) f1) h (fun _ f2 h => ?_)
  exact k _ f2 h
theorem fq1_X11_isPlace {X G : Mm} {S : Sh} {K K' : Int → Mm → Prop} {M : Mm} {u1 : Int} (hG : Inv X S G) (k : ∀ (a0 : Int) (m : Mm), fq1_F G m → K a0 m → K' a0 m) (f : fq1_F G M) (h : wp_X11_isPlace S M (0) u1 K) : wp_X11_isPlace S M (0) u1 K' := by
  refine m_if h (fun h => ?_) (fun h => ?_)
  · skip
    refine m_C h (fun h => ?_)
    refine m_and h (fun h => ?_)
    exact k _ _ f h
  · skip
    refine m_gr (fq1_c_0_1 hG f) h (fun h => ?_)
    refine m_gr (fq1_c_3_0 hG f) h (fun h => ?_)
    refine m_Get h (fun _ h => ?_)
    refine m_if h (fun h => ?_) (fun h => ?_)
    · skip
      refine m_C h (fun h => ?_)
      refine m_and h (fun h => ?_)
      exact k _ _ f h
    · skip
      refine m_C h (fun h => ?_)
      refine m_and h (fun h => ?_)
      exact k _ _ f h
theorem fq1_X5_roadFor {X G : Mm} {S : Sh} {K K' : Int → Mm → Prop} {M : Mm} {u2 : Int} {u3 : Int} (hG : Inv X S G) (k : ∀ (a0 : Int) (m : Mm), fq1_F G m → K a0 m → K' a0 m) (f : fq1_F G M) (h : wp_X5_roadFor S M (68) (4) u2 u3 K) : wp_X5_roadFor S M (68) (4) u2 u3 K' := by
  refine m_and h (fun h => ?_)
  refine fq1_X5_isAtPlace hG (fun _ _ f1 h => ?_) f h
  refine m_if h (fun h => ?_) (fun h => ?_)
  · skip
    refine m_C h (fun h => ?_)
    exact k _ _ f1 h
  · skip
    refine m_gr (fq1_c_68_2 hG f1) h (fun h => ?_)
    refine m_Ld h (fun _ h => ?_)
    refine m_and h (fun h => ?_)
    refine fq1_X8_roadHours hG (fun _ _ f2 h => ?_) f1 h
    exact k _ _ f2 h
theorem fq1_X5_setOut {X G : Mm} {S : Sh} {K K' : Mm → Prop} {M : Mm} {u1 : Int} {u2 : Int} {u3 : Int} (hG : Inv X S G) (k : ∀ (m : Mm), fq1_F G m → K m → K' m) (f : fq1_F G M) (h : wp_X5_setOut S M (68) u1 u2 u3 K) : wp_X5_setOut S M (68) u1 u2 u3 K' := by
  refine m_gr (fq1_c_68_2 hG f) h (fun h => ?_)
  refine m_St (fq1_up (fq1_a_69 _) f) h (fun _ f1 h => ?_)
  refine m_gr (fq1_c_68_3 hG f1) h (fun h => ?_)
  refine m_St (fq1_up (fq1_a_70 _) f1) h (fun _ f2 h => ?_)
  exact k _ f2 h
theorem fq1_X8_hasWay {X G : Mm} {S : Sh} {K K' : Int → Mm → Prop} {M : Mm} {u1 : Int} {u2 : Int} (hG : Inv X S G) (k : ∀ (a0 : Int) (m : Mm), fq1_F G m → K a0 m → K' a0 m) (f : fq1_F G M) (h : wp_X8_hasWay S M (4) u1 u2 K) : wp_X8_hasWay S M (4) u1 u2 K' := by
  refine m_gr (fq1_c_4_9 hG f) h (fun h => ?_)
  refine fq1_X8_pair hG (fun _ _ f1 h => ?_) f h
  refine m_Ld h (fun _ h => ?_)
  refine m_C h (fun h => ?_)
  refine m_if h (fun h => ?_) (fun h => ?_)
  · skip
    refine m_C h (fun h => ?_)
    refine m_and h (fun h => ?_)
    exact k _ _ f1 h
  · skip
    refine m_C h (fun h => ?_)
    refine m_and h (fun h => ?_)
    exact k _ _ f1 h
theorem fq1_X8_wayHours {X G : Mm} {S : Sh} {K K' : Int → Mm → Prop} {M : Mm} {u1 : Int} {u2 : Int} (hG : Inv X S G) (k : ∀ (a0 : Int) (m : Mm), fq1_F G m → K a0 m → K' a0 m) (f : fq1_F G M) (h : wp_X8_wayHours S M (4) u1 u2 K) : wp_X8_wayHours S M (4) u1 u2 K' := by
  refine m_gr (fq1_c_4_9 hG f) h (fun h => ?_)
  refine fq1_X8_pair hG (fun _ _ f1 h => ?_) f h
  refine m_Ld h (fun _ h => ?_)
  exact k _ _ f1 h
theorem fq1_X8_nextPlace_43 {X G : Mm} {S : Sh} {k2 k2' : Int → Int → Int → Int → Mm → Prop} {K K' : Int → Mm → Prop} {M : Mm} {u1 : Int} {u2 : Int} {u3 : Int} (hG : Inv X S G) (kk2 : ∀ (a1 : Int) (a2 : Int) (a3 : Int) (m : Mm), fq1_F G m → k2 (4) a1 a2 a3 m → k2' (4) a1 a2 a3 m) (k : ∀ (a0 : Int) (m : Mm), fq1_F G m → K a0 m → K' a0 m) (f : fq1_F G M) (h : wp_X8_nextPlace_43 S k2 K (4) u1 u2 u3 M) : wp_X8_nextPlace_43 S k2' K' (4) u1 u2 u3 M := by
  refine m_A h (fun _ h => ?_)
  exact kk2 _ _ _ _ f h
theorem fq1_X8_nextPlace_2 {X G : Mm} {S : Sh} {K K' : Int → Mm → Prop} (hG : Inv X S G) (k : ∀ (a0 : Int) (m : Mm), fq1_F G m → K a0 m → K' a0 m) : ∀ (n : Nat) (u1 : Int) (u2 : Int) (u3 : Int) (M : Mm), fq1_F G M → wp_X8_nextPlace_2 S K n (4) u1 u2 u3 M → wp_X8_nextPlace_2 S K' n (4) u1 u2 u3 M := by
  intro n
  induction n with
  | zero => intro u1 u2 u3 M f h; exact h
  | succ n ih =>
    intro u1 u2 u3 M f h
    refine m_Get h (fun _ h => ?_)
    refine m_if h (fun h => ?_) (fun h => ?_)
    · skip
      refine m_C h (fun h => ?_)
      exact k _ _ f h
    · skip
      refine m_and h (fun h => ?_)
      refine fq1_X8_roadHours hG (fun _ _ f1 h => ?_) f h
      refine m_if h (fun h => ?_) (fun h => ?_)
      · skip
        refine fq1_X8_nextPlace_43 hG (fun _ _ _ _ f2 h => ?_) k f1 h
        exact ih _ _ _ _ f2 h
      · skip
        refine m_and h (fun h => ?_)
        refine fq1_X8_wayHours hG (fun _ _ f3 h => ?_) f1 h
        refine m_A h (fun _ h => ?_)
        refine m_and h (fun h => ?_)
        refine fq1_X8_wayHours hG (fun _ _ f4 h => ?_) f3 h
        refine m_if h (fun h => ?_) (fun h => ?_)
        · skip
          refine fq1_X8_nextPlace_43 hG (fun _ _ _ _ f5 h => ?_) k f4 h
          exact ih _ _ _ _ f5 h
        · skip
          exact k _ _ f4 h
theorem fq1_X8_nextPlace {X G : Mm} {S : Sh} {K K' : Int → Mm → Prop} {M : Mm} {u1 : Int} {u2 : Int} (hG : Inv X S G) (k : ∀ (a0 : Int) (m : Mm), fq1_F G m → K a0 m → K' a0 m) (f : fq1_F G M) (h : wp_X8_nextPlace S M (4) u1 u2 K) : wp_X8_nextPlace S M (4) u1 u2 K' := by
  refine m_C h (fun h => ?_)
  refine m_ex h (fun n9 h => ?_)
  refine fq1_X8_nextPlace_2 hG k _ _ _ _ _ f h
theorem fq1_X11_way {X G : Mm} {S : Sh} {K K' : Int → Mm → Prop} {M : Mm} {u1 : Int} {u2 : Int} {u3 : Int} (hG : Inv X S G) (k : ∀ (a0 : Int) (m : Mm), fq1_F G m → K a0 m → K' a0 m) (f : fq1_F G M) (h : wp_X11_way S M (0) u1 u2 u3 K) : wp_X11_way S M (0) u1 u2 u3 K' := by
  refine m_and h (fun h => ?_)
  refine fq1_X11_isPlace hG (fun _ _ f1 h => ?_) f h
  refine m_if h (fun h => ?_) (fun h => ?_)
  · skip
    refine m_C h (fun h => ?_)
    exact k _ _ f1 h
  · skip
    refine m_and h (fun h => ?_)
    refine fq1_X11_isPlace hG (fun _ _ f2 h => ?_) f1 h
    refine m_if h (fun h => ?_) (fun h => ?_)
    · skip
      refine m_C h (fun h => ?_)
      exact k _ _ f2 h
    · skip
      refine m_if h (fun h => ?_) (fun h => ?_)
      · skip
        refine m_C h (fun h => ?_)
        exact k _ _ f2 h
      · skip
        refine m_C h (fun h => ?_)
        refine m_if h (fun h => ?_) (fun h => ?_)
        · skip
          refine m_gr (fq1_c_0_1 hG f2) h (fun h => ?_)
          refine m_gr (fq1_c_3_0 hG f2) h (fun h => ?_)
          refine m_and h (fun h => ?_)
          refine fq1_X8_hasWay hG (fun _ _ f3 h => ?_) f2 h
          refine m_if h (fun h => ?_) (fun h => ?_)
          · skip
            refine m_if h (fun h => ?_) (fun h => ?_)
            · skip
              refine m_gr (fq1_c_0_1 hG f3) h (fun h => ?_)
              refine m_gr (fq1_c_3_0 hG f3) h (fun h => ?_)
              refine m_and h (fun h => ?_)
              refine fq1_X8_nextPlace hG (fun _ _ f4 h => ?_) f3 h
              exact k _ _ f4 h
            · skip
              refine m_gr (fq1_c_0_1 hG f3) h (fun h => ?_)
              refine m_gr (fq1_c_3_0 hG f3) h (fun h => ?_)
              refine m_and h (fun h => ?_)
              refine fq1_X8_wayHours hG (fun _ _ f5 h => ?_) f3 h
              exact k _ _ f5 h
          · skip
            refine m_C h (fun h => ?_)
            exact k _ _ f3 h
        · skip
          refine m_C h (fun h => ?_)
          exact k _ _ f2 h
