section
/-- what these methods may write -/
abbrev fr1_W (c p : Int) : Prop := (c = 1 ∧ 2 ≤ p) ∨ (c = 32 ∧ p ≤ 7) ∨ (33 ≤ c ∧ c ≤ 43) ∨ (c = 44 ∧ p ≤ 1) ∨ (45 ≤ c ∧ c ≤ 51) ∨ (c = 52 ∧ (p = 2 ∨ p = 3 ∨ 5 ≤ p)) ∨ c = 53 ∨ c = 54
def fr1_F (G M : Mm) : Prop := ∀ c p : Int, ¬ fr1_W c p → M c p = G c p
theorem fr1_up {G M : Mm} {x i v : Int} (w : fr1_W x i) (f : fr1_F G M) : fr1_F G (up M x i v) := fun c p q => (up_ne (fun e => by obtain ⟨e1, e2⟩ := e; subst e1; subst e2; exact q w)).trans (f c p q)
theorem fr1_a_33 (i : Int) : fr1_W 33 i := by unfold fr1_W; omega
theorem fr1_a_34 (i : Int) : fr1_W 34 i := by unfold fr1_W; omega
theorem fr1_a_35 (i : Int) : fr1_W 35 i := by unfold fr1_W; omega
theorem fr1_a_36 (i : Int) : fr1_W 36 i := by unfold fr1_W; omega
theorem fr1_a_37 (i : Int) : fr1_W 37 i := by unfold fr1_W; omega
theorem fr1_a_38 (i : Int) : fr1_W 38 i := by unfold fr1_W; omega
theorem fr1_a_39 (i : Int) : fr1_W 39 i := by unfold fr1_W; omega
theorem fr1_a_40 (i : Int) : fr1_W 40 i := by unfold fr1_W; omega
theorem fr1_a_41 (i : Int) : fr1_W 41 i := by unfold fr1_W; omega
theorem fr1_a_42 (i : Int) : fr1_W 42 i := by unfold fr1_W; omega
theorem fr1_a_43 (i : Int) : fr1_W 43 i := by unfold fr1_W; omega
theorem fr1_a_45 (i : Int) : fr1_W 45 i := by unfold fr1_W; omega
theorem fr1_a_46 (i : Int) : fr1_W 46 i := by unfold fr1_W; omega
theorem fr1_a_47 (i : Int) : fr1_W 47 i := by unfold fr1_W; omega
theorem fr1_a_48 (i : Int) : fr1_W 48 i := by unfold fr1_W; omega
theorem fr1_a_49 (i : Int) : fr1_W 49 i := by unfold fr1_W; omega
theorem fr1_a_50 (i : Int) : fr1_W 50 i := by unfold fr1_W; omega
theorem fr1_a_51 (i : Int) : fr1_W 51 i := by unfold fr1_W; omega
theorem fr1_a_53 (i : Int) : fr1_W 53 i := by unfold fr1_W; omega
theorem fr1_a_54 (i : Int) : fr1_W 54 i := by unfold fr1_W; omega
theorem fr1_c_1_0 {X G M : Mm} {S : Sh} (hG : Inv X S G) (f : fr1_F G M) : M 1 0 = 2 := (f 1 0 (by decide)).trans hG.f_1_0
theorem fr1_c_31_0 {X G M : Mm} {S : Sh} (hG : Inv X S G) (f : fr1_F G M) : M 31 0 = 1 := (f 31 0 (by decide)).trans hG.f_31_0
theorem fr1_c_31_1 {X G M : Mm} {S : Sh} (hG : Inv X S G) (f : fr1_F G M) : M 31 1 = 32 := (f 31 1 (by decide)).trans hG.f_31_1
theorem fr1_c_31_2 {X G M : Mm} {S : Sh} (hG : Inv X S G) (f : fr1_F G M) : M 31 2 = 44 := (f 31 2 (by decide)).trans hG.f_31_2
theorem fr1_c_32_8 {X G M : Mm} {S : Sh} (hG : Inv X S G) (f : fr1_F G M) : M 32 8 = 33 := (f 32 8 (by decide)).trans hG.f_32_8
theorem fr1_c_32_9 {X G M : Mm} {S : Sh} (hG : Inv X S G) (f : fr1_F G M) : M 32 9 = 34 := (f 32 9 (by decide)).trans hG.f_32_9
theorem fr1_c_32_10 {X G M : Mm} {S : Sh} (hG : Inv X S G) (f : fr1_F G M) : M 32 10 = 35 := (f 32 10 (by decide)).trans hG.f_32_10
theorem fr1_c_32_11 {X G M : Mm} {S : Sh} (hG : Inv X S G) (f : fr1_F G M) : M 32 11 = 36 := (f 32 11 (by decide)).trans hG.f_32_11
theorem fr1_c_32_12 {X G M : Mm} {S : Sh} (hG : Inv X S G) (f : fr1_F G M) : M 32 12 = 37 := (f 32 12 (by decide)).trans hG.f_32_12
theorem fr1_c_32_13 {X G M : Mm} {S : Sh} (hG : Inv X S G) (f : fr1_F G M) : M 32 13 = 38 := (f 32 13 (by decide)).trans hG.f_32_13
theorem fr1_c_32_14 {X G M : Mm} {S : Sh} (hG : Inv X S G) (f : fr1_F G M) : M 32 14 = 39 := (f 32 14 (by decide)).trans hG.f_32_14
theorem fr1_c_32_15 {X G M : Mm} {S : Sh} (hG : Inv X S G) (f : fr1_F G M) : M 32 15 = 40 := (f 32 15 (by decide)).trans hG.f_32_15
theorem fr1_c_32_16 {X G M : Mm} {S : Sh} (hG : Inv X S G) (f : fr1_F G M) : M 32 16 = 41 := (f 32 16 (by decide)).trans hG.f_32_16
theorem fr1_c_32_17 {X G M : Mm} {S : Sh} (hG : Inv X S G) (f : fr1_F G M) : M 32 17 = 42 := (f 32 17 (by decide)).trans hG.f_32_17
theorem fr1_c_32_18 {X G M : Mm} {S : Sh} (hG : Inv X S G) (f : fr1_F G M) : M 32 18 = 43 := (f 32 18 (by decide)).trans hG.f_32_18
theorem fr1_c_44_2 {X G M : Mm} {S : Sh} (hG : Inv X S G) (f : fr1_F G M) : M 44 2 = 45 := (f 44 2 (by decide)).trans hG.f_44_2
theorem fr1_c_44_3 {X G M : Mm} {S : Sh} (hG : Inv X S G) (f : fr1_F G M) : M 44 3 = 46 := (f 44 3 (by decide)).trans hG.f_44_3
theorem fr1_c_44_4 {X G M : Mm} {S : Sh} (hG : Inv X S G) (f : fr1_F G M) : M 44 4 = 47 := (f 44 4 (by decide)).trans hG.f_44_4
theorem fr1_c_44_5 {X G M : Mm} {S : Sh} (hG : Inv X S G) (f : fr1_F G M) : M 44 5 = 48 := (f 44 5 (by decide)).trans hG.f_44_5
theorem fr1_c_44_6 {X G M : Mm} {S : Sh} (hG : Inv X S G) (f : fr1_F G M) : M 44 6 = 49 := (f 44 6 (by decide)).trans hG.f_44_6
theorem fr1_c_44_7 {X G M : Mm} {S : Sh} (hG : Inv X S G) (f : fr1_F G M) : M 44 7 = 50 := (f 44 7 (by decide)).trans hG.f_44_7
theorem fr1_c_44_8 {X G M : Mm} {S : Sh} (hG : Inv X S G) (f : fr1_F G M) : M 44 8 = 51 := (f 44 8 (by decide)).trans hG.f_44_8
theorem fr1_c_52_0 {X G M : Mm} {S : Sh} (hG : Inv X S G) (f : fr1_F G M) : M 52 0 = 1 := (f 52 0 (by decide)).trans hG.f_52_0
theorem fr1_c_52_1 {X G M : Mm} {S : Sh} (hG : Inv X S G) (f : fr1_F G M) : M 52 1 = 53 := (f 52 1 (by decide)).trans hG.f_52_1
theorem fr1_c_52_4 {X G M : Mm} {S : Sh} (hG : Inv X S G) (f : fr1_F G M) : M 52 4 = 54 := (f 52 4 (by decide)).trans hG.f_52_4
theorem fr1_J7_fill_53178_5 {X G : Mm} {S : Sh} {u0 : Int} {K K' : Mm → Prop} (hG : Inv X S G) (w : ∀ i : Int, fr1_W u0 i) (k : ∀ (m : Mm), fr1_F G m → K m → K' m) : ∀ (n : Nat) (u1 : Int) (u2 : Int) (u3 : Int) (M : Mm), fr1_F G M → wp_J7_fill_53178_5 S K n u0 u1 u2 u3 M → wp_J7_fill_53178_5 S K' n u0 u1 u2 u3 M := by
  intro n
  induction n with
  | zero => intro u1 u2 u3 M f h; exact h
  | succ n ih =>
    intro u1 u2 u3 M f h
    refine m_if h (fun h => ?_) (fun h => ?_)
    · skip
      exact k _ f h
    · skip
      refine m_St (fr1_up (w _) f) h (fun _ f1 h => ?_)
      refine m_A h (fun _ h => ?_)
      exact ih _ _ _ _ f1 h
theorem fr1_J7_fill_53178 {X G : Mm} {S : Sh} {u0 : Int} {K K' : Mm → Prop} {M : Mm} {u1 : Int} (hG : Inv X S G) (w : ∀ i : Int, fr1_W u0 i) (k : ∀ (m : Mm), fr1_F G m → K m → K' m) (f : fr1_F G M) (h : wp_J7_fill_53178 S M u0 u1 K) : wp_J7_fill_53178 S M u0 u1 K' := by
  refine m_C h (fun h => ?_)
  refine m_Len h (fun _ h => ?_)
  refine m_ex h (fun n9 h => ?_)
  refine fr1_J7_fill_53178_5 hG w k _ _ _ _ _ f h
theorem fr1_X8_clear {X G : Mm} {S : Sh} {K K' : Mm → Prop} {M : Mm} (hG : Inv X S G) (k : ∀ (m : Mm), fr1_F G m → K m → K' m) (f : fr1_F G M) (h : wp_X8_clear S M (32) K) : wp_X8_clear S M (32) K' := by
  refine m_C h (fun h => ?_)
  refine m_Put (fr1_up (by decide) f) h (fun _ f1 h => ?_)
  refine m_C h (fun h => ?_)
  refine m_Put (fr1_up (by decide) f1) h (fun _ f2 h => ?_)
  refine m_C h (fun h => ?_)
  refine m_Put (fr1_up (by decide) f2) h (fun _ f3 h => ?_)
  refine m_C h (fun h => ?_)
  refine m_Put (fr1_up (by decide) f3) h (fun _ f4 h => ?_)
  refine m_C h (fun h => ?_)
  refine m_Put (fr1_up (by decide) f4) h (fun _ f5 h => ?_)
  refine m_C h (fun h => ?_)
  refine m_Put (fr1_up (by decide) f5) h (fun _ f6 h => ?_)
  refine m_C h (fun h => ?_)
  refine m_Put (fr1_up (by decide) f6) h (fun _ f7 h => ?_)
  refine m_C h (fun h => ?_)
  refine m_Put (fr1_up (by decide) f7) h (fun _ f8 h => ?_)
  refine m_gr (fr1_c_32_8 hG f8) h (fun h => ?_)
  refine m_C h (fun h => ?_)
  refine fr1_J7_fill_53178 hG fr1_a_33 (fun _ f9 h => ?_) f8 h
  exact k _ f9 h
theorem fr1_X5_clear {X G : Mm} {S : Sh} {K K' : Mm → Prop} {M : Mm} (hG : Inv X S G) (k : ∀ (m : Mm), fr1_F G m → K m → K' m) (f : fr1_F G M) (h : wp_X5_clear S M (44) K) : wp_X5_clear S M (44) K' := by
  refine m_C h (fun h => ?_)
  refine m_Put (fr1_up (by decide) f) h (fun _ f1 h => ?_)
  refine m_C h (fun h => ?_)
  refine m_Put (fr1_up (by decide) f1) h (fun _ f2 h => ?_)
  refine m_gr (fr1_c_44_2 hG f2) h (fun h => ?_)
  refine m_C h (fun h => ?_)
  refine fr1_J7_fill_53178 hG fr1_a_45 (fun _ f3 h => ?_) f2 h
  refine m_gr (fr1_c_44_3 hG f3) h (fun h => ?_)
  refine m_C h (fun h => ?_)
  refine fr1_J7_fill_53178 hG fr1_a_46 (fun _ f4 h => ?_) f3 h
  refine m_gr (fr1_c_44_4 hG f4) h (fun h => ?_)
  refine m_C h (fun h => ?_)
  refine fr1_J7_fill_53178 hG fr1_a_47 (fun _ f5 h => ?_) f4 h
  refine m_gr (fr1_c_44_5 hG f5) h (fun h => ?_)
  refine m_C h (fun h => ?_)
  refine fr1_J7_fill_53178 hG fr1_a_48 (fun _ f6 h => ?_) f5 h
  refine m_gr (fr1_c_44_6 hG f6) h (fun h => ?_)
  refine m_C h (fun h => ?_)
  refine fr1_J7_fill_53178 hG fr1_a_49 (fun _ f7 h => ?_) f6 h
  refine m_gr (fr1_c_44_7 hG f7) h (fun h => ?_)
  refine m_C h (fun h => ?_)
  refine fr1_J7_fill_53178 hG fr1_a_50 (fun _ f8 h => ?_) f7 h
  refine m_gr (fr1_c_44_8 hG f8) h (fun h => ?_)
  refine m_C h (fun h => ?_)
  refine fr1_J7_fill_53178 hG fr1_a_51 (fun _ f9 h => ?_) f8 h
  exact k _ f9 h
theorem fr1_X7_rewind {X G : Mm} {S : Sh} {K K' : Mm → Prop} {M : Mm} (hG : Inv X S G) (k : ∀ (m : Mm), fr1_F G m → K m → K' m) (f : fr1_F G M) (h : wp_X7_rewind S M (1) K) : wp_X7_rewind S M (1) K' := by
  refine m_C h (fun h => ?_)
  refine m_Put (fr1_up (by decide) f) h (fun _ f1 h => ?_)
  refine m_C h (fun h => ?_)
  refine m_Put (fr1_up (by decide) f1) h (fun _ f2 h => ?_)
  refine m_C h (fun h => ?_)
  refine m_Put (fr1_up (by decide) f2) h (fun _ f3 h => ?_)
  exact k _ f3 h
theorem fr1_X0_nameOf {X G : Mm} {S : Sh} {K K' : Int → Mm → Prop} {M : Mm} {u0 : Int} (hG : Inv X S G) (k : ∀ (a0 : Int) (m : Mm), fr1_F G m → K a0 m → K' a0 m) (f : fr1_F G M) (h : wp_X0_nameOf S M u0 K) : wp_X0_nameOf S M u0 K' := by
  refine m_if h (fun h => ?_) (fun h => ?_)
  · skip
    refine m_C h (fun h => ?_)
    exact k _ _ f h
  · skip
    refine m_if h (fun h => ?_) (fun h => ?_)
    · skip
      refine m_C h (fun h => ?_)
      exact k _ _ f h
    · skip
      refine m_if h (fun h => ?_) (fun h => ?_)
      · skip
        refine m_C h (fun h => ?_)
        exact k _ _ f h
      · skip
        refine m_if h (fun h => ?_) (fun h => ?_)
        · skip
          refine m_C h (fun h => ?_)
          exact k _ _ f h
        · skip
          refine m_if h (fun h => ?_) (fun h => ?_)
          · skip
            refine m_C h (fun h => ?_)
            exact k _ _ f h
          · skip
            refine m_C h (fun h => ?_)
            exact k _ _ f h
theorem fr1_X7_look_38 {X G : Mm} {S : Sh} {K K' : Int → Mm → Prop} {M : Mm} (hG : Inv X S G) (k : ∀ (a0 : Int) (m : Mm), fr1_F G m → K a0 m → K' a0 m) (f : fr1_F G M) (h : wp_X7_look_38 S K (1) M) : wp_X7_look_38 S K' (1) M := by
  refine m_Get h (fun _ h => ?_)
  refine m_Put (fr1_up (by decide) f) h (fun _ f1 h => ?_)
  refine m_Get h (fun _ h => ?_)
  refine m_Get h (fun _ h => ?_)
  refine m_if h (fun h => ?_) (fun h => ?_)
  · skip
    refine m_C h (fun h => ?_)
    exact k _ _ f1 h
  · skip
    refine m_gr (fr1_c_1_0 hG f1) h (fun h => ?_)
    refine m_Get h (fun _ h => ?_)
    refine m_Ld h (fun _ h => ?_)
    refine m_C h (fun h => ?_)
    refine m_O h (fun _ h => ?_)
    exact k _ _ f1 h
theorem fr1_X7_look_0 {X G : Mm} {S : Sh} {K K' : Int → Mm → Prop} (hG : Inv X S G) (k : ∀ (a0 : Int) (m : Mm), fr1_F G m → K a0 m → K' a0 m) : ∀ (n : Nat) (M : Mm), fr1_F G M → wp_X7_look_0 S K n (1) M → wp_X7_look_0 S K' n (1) M := by
  intro n
  induction n with
  | zero => intro M f h; exact h
  | succ n ih =>
    intro M f h
    refine m_Get h (fun _ h => ?_)
    refine m_Get h (fun _ h => ?_)
    refine m_if h (fun h => ?_) (fun h => ?_)
    · skip
      refine fr1_X7_look_38 hG k f h
    · skip
      refine m_gr (fr1_c_1_0 hG f) h (fun h => ?_)
      refine m_Get h (fun _ h => ?_)
      refine m_Ld h (fun _ h => ?_)
      refine m_C h (fun h => ?_)
      refine m_if h (fun h => ?_) (fun h => ?_)
      · skip
        refine fr1_X7_look_38 hG k f h
      · skip
        refine m_Get h (fun _ h => ?_)
        refine m_C h (fun h => ?_)
        refine m_A h (fun _ h => ?_)
        refine m_Put (fr1_up (by decide) f) h (fun _ f1 h => ?_)
        exact ih _ f1 h
theorem fr1_X7_look {X G : Mm} {S : Sh} {K K' : Int → Mm → Prop} {M : Mm} (hG : Inv X S G) (k : ∀ (a0 : Int) (m : Mm), fr1_F G m → K a0 m → K' a0 m) (f : fr1_F G M) (h : wp_X7_look S M (1) K) : wp_X7_look S M (1) K' := by
  refine m_ex h (fun n9 h => ?_)
  refine fr1_X7_look_0 hG k _ _ f h
theorem fr1_X7_byteAt {X G : Mm} {S : Sh} {K K' : Int → Mm → Prop} {M : Mm} {u1 : Int} (hG : Inv X S G) (k : ∀ (a0 : Int) (m : Mm), fr1_F G m → K a0 m → K' a0 m) (f : fr1_F G M) (h : wp_X7_byteAt S M (1) u1 K) : wp_X7_byteAt S M (1) u1 K' := by
  refine m_if h (fun h => ?_) (fun h => ?_)
  · skip
    refine m_C h (fun h => ?_)
    exact k _ _ f h
  · skip
    refine m_Get h (fun _ h => ?_)
    refine m_if h (fun h => ?_) (fun h => ?_)
    · skip
      refine m_C h (fun h => ?_)
      exact k _ _ f h
    · skip
      refine m_C h (fun h => ?_)
      refine m_if h (fun h => ?_) (fun h => ?_)
      · skip
        refine m_C h (fun h => ?_)
        exact k _ _ f h
      · skip
        refine m_gr (fr1_c_1_0 hG f) h (fun h => ?_)
        refine m_Ld h (fun _ h => ?_)
        refine m_C h (fun h => ?_)
        refine m_O h (fun _ h => ?_)
        exact k _ _ f h
theorem fr1_X7_takesWord_68 {X G : Mm} {S : Sh} {K K' : Int → Mm → Prop} {M : Mm} {u2 : Int} (hG : Inv X S G) (k : ∀ (a0 : Int) (m : Mm), fr1_F G m → K a0 m → K' a0 m) (f : fr1_F G M) (h : wp_X7_takesWord_68 S K (1) u2 M) : wp_X7_takesWord_68 S K' (1) u2 M := by
  refine m_Get h (fun _ h => ?_)
  refine m_A h (fun _ h => ?_)
  refine m_Put (fr1_up (by decide) f) h (fun _ f1 h => ?_)
  refine m_C h (fun h => ?_)
  refine m_and h (fun h => ?_)
  exact k _ _ f1 h
theorem fr1_X7_takesWord_12 {X G : Mm} {S : Sh} {K K' : Int → Mm → Prop} (hG : Inv X S G) (k : ∀ (a0 : Int) (m : Mm), fr1_F G m → K a0 m → K' a0 m) : ∀ (n : Nat) (u1 : Int) (u2 : Int) (u3 : Int) (M : Mm), fr1_F G M → wp_X7_takesWord_12 S K n (1) u1 u2 u3 M → wp_X7_takesWord_12 S K' n (1) u1 u2 u3 M := by
  intro n
  induction n with
  | zero => intro u1 u2 u3 M f h; exact h
  | succ n ih =>
    intro u1 u2 u3 M f h
    refine m_if h (fun h => ?_) (fun h => ?_)
    · skip
      refine m_Get h (fun _ h => ?_)
      refine m_A h (fun _ h => ?_)
      refine m_and h (fun h => ?_)
      refine fr1_X7_byteAt hG (fun _ _ f1 h => ?_) f h
      refine m_C h (fun h => ?_)
      refine m_if h (fun h => ?_) (fun h => ?_)
      · skip
        refine fr1_X7_takesWord_68 hG k f1 h
      · skip
        refine m_C h (fun h => ?_)
        refine m_if h (fun h => ?_) (fun h => ?_)
        · skip
          refine fr1_X7_takesWord_68 hG k f1 h
        · skip
          refine m_C h (fun h => ?_)
          refine m_and h (fun h => ?_)
          exact k _ _ f1 h
    · skip
      refine m_Get h (fun _ h => ?_)
      refine m_A h (fun _ h => ?_)
      refine m_and h (fun h => ?_)
      refine fr1_X7_byteAt hG (fun _ _ f2 h => ?_) f h
      refine m_Sch h (fun _ h => ?_)
      refine m_if h (fun h => ?_) (fun h => ?_)
      · skip
        refine m_A h (fun _ h => ?_)
        exact ih _ _ _ _ f2 h
      · skip
        refine m_C h (fun h => ?_)
        refine m_and h (fun h => ?_)
        exact k _ _ f2 h
theorem fr1_X7_takesWord {X G : Mm} {S : Sh} {K K' : Int → Mm → Prop} {M : Mm} {u1 : Int} (hG : Inv X S G) (k : ∀ (a0 : Int) (m : Mm), fr1_F G m → K a0 m → K' a0 m) (f : fr1_F G M) (h : wp_X7_takesWord S M (1) u1 K) : wp_X7_takesWord S M (1) u1 K' := by
  refine m_and h (fun h => ?_)
  refine fr1_X7_look hG (fun _ _ f1 h => ?_) f h
  refine m_Slen h (fun _ h => ?_)
  refine m_C h (fun h => ?_)
  refine m_ex h (fun n9 h => ?_)
  refine fr1_X7_takesWord_12 hG k _ _ _ _ _ f1 h
theorem fr1_X0_takeKind_2 {X G : Mm} {S : Sh} {K K' : Int → Mm → Prop} (hG : Inv X S G) (k : ∀ (a0 : Int) (m : Mm), fr1_F G m → K a0 m → K' a0 m) : ∀ (n : Nat) (u1 : Int) (M : Mm), fr1_F G M → wp_X0_takeKind_2 S K n (31) u1 M → wp_X0_takeKind_2 S K' n (31) u1 M := by
  intro n
  induction n with
  | zero => intro u1 M f h; exact h
  | succ n ih =>
    intro u1 M f h
    refine m_C h (fun h => ?_)
    refine m_if h (fun h => ?_) (fun h => ?_)
    · skip
      refine m_C h (fun h => ?_)
      exact k _ _ f h
    · skip
      refine m_gr (fr1_c_31_0 hG f) h (fun h => ?_)
      refine fr1_X0_nameOf hG (fun _ _ f1 h => ?_) f h
      refine m_and h (fun h => ?_)
      refine fr1_X7_takesWord hG (fun _ _ f2 h => ?_) f1 h
      refine m_if h (fun h => ?_) (fun h => ?_)
      · skip
        refine m_A h (fun _ h => ?_)
        exact ih _ _ f2 h
      · skip
        exact k _ _ f2 h
theorem fr1_X0_takeKind {X G : Mm} {S : Sh} {K K' : Int → Mm → Prop} {M : Mm} (hG : Inv X S G) (k : ∀ (a0 : Int) (m : Mm), fr1_F G m → K a0 m → K' a0 m) (f : fr1_F G M) (h : wp_X0_takeKind S M (31) K) : wp_X0_takeKind S M (31) K' := by
  refine m_C h (fun h => ?_)
  refine m_ex h (fun n9 h => ?_)
  refine fr1_X0_takeKind_2 hG k _ _ _ f h
theorem fr1_X7_refuse {X G : Mm} {S : Sh} {K K' : Int → Mm → Prop} {M : Mm} {u1 : Int} (hG : Inv X S G) (k : ∀ (a0 : Int) (m : Mm), fr1_F G m → K a0 m → K' a0 m) (f : fr1_F G M) (h : wp_X7_refuse S M (1) u1 K) : wp_X7_refuse S M (1) u1 K' := by
  refine m_Get h (fun _ h => ?_)
  refine m_if h (fun h => ?_) (fun h => ?_)
  · skip
    refine m_C h (fun h => ?_)
    refine m_and h (fun h => ?_)
    exact k _ _ f h
  · skip
    refine m_C h (fun h => ?_)
    refine m_C h (fun h => ?_)
    refine m_Get h (fun _ h => ?_)
    refine m_M h (fun _ h => ?_)
    refine m_A h (fun _ h => ?_)
    refine m_A h (fun _ h => ?_)
    refine m_Put (fr1_up (by decide) f) h (fun _ f1 h => ?_)
    refine m_C h (fun h => ?_)
    refine m_and h (fun h => ?_)
    exact k _ _ f1 h
theorem fr1_X0_hasRoomFor {X G : Mm} {S : Sh} {K K' : Int → Mm → Prop} {M : Mm} {u1 : Int} (hG : Inv X S G) (k : ∀ (a0 : Int) (m : Mm), fr1_F G m → K a0 m → K' a0 m) (f : fr1_F G M) (h : wp_X0_hasRoomFor S M (31) u1 K) : wp_X0_hasRoomFor S M (31) u1 K' := by
  refine m_if h (fun h => ?_) (fun h => ?_)
  · skip
    refine m_C h (fun h => ?_)
    refine m_and h (fun h => ?_)
    exact k _ _ f h
  · skip
    refine m_if h (fun h => ?_) (fun h => ?_)
    · skip
      refine m_gr (fr1_c_31_1 hG f) h (fun h => ?_)
      refine m_Get h (fun _ h => ?_)
      refine m_C h (fun h => ?_)
      refine m_if h (fun h => ?_) (fun h => ?_)
      · skip
        refine m_C h (fun h => ?_)
        refine m_and h (fun h => ?_)
        exact k _ _ f h
      · skip
        refine m_C h (fun h => ?_)
        refine m_and h (fun h => ?_)
        exact k _ _ f h
    · skip
      refine m_if h (fun h => ?_) (fun h => ?_)
      · skip
        refine m_gr (fr1_c_31_1 hG f) h (fun h => ?_)
        refine m_Get h (fun _ h => ?_)
        refine m_C h (fun h => ?_)
        refine m_if h (fun h => ?_) (fun h => ?_)
        · skip
          refine m_C h (fun h => ?_)
          refine m_and h (fun h => ?_)
          exact k _ _ f h
        · skip
          refine m_C h (fun h => ?_)
          refine m_and h (fun h => ?_)
          exact k _ _ f h
      · skip
        refine m_if h (fun h => ?_) (fun h => ?_)
        · skip
          refine m_gr (fr1_c_31_1 hG f) h (fun h => ?_)
          refine m_Get h (fun _ h => ?_)
          refine m_C h (fun h => ?_)
          refine m_if h (fun h => ?_) (fun h => ?_)
          · skip
            refine m_C h (fun h => ?_)
            refine m_and h (fun h => ?_)
            exact k _ _ f h
          · skip
            refine m_C h (fun h => ?_)
            refine m_and h (fun h => ?_)
            exact k _ _ f h
        · skip
          refine m_if h (fun h => ?_) (fun h => ?_)
          · skip
            refine m_gr (fr1_c_31_1 hG f) h (fun h => ?_)
            refine m_Get h (fun _ h => ?_)
            refine m_C h (fun h => ?_)
            refine m_if h (fun h => ?_) (fun h => ?_)
            · skip
              refine m_C h (fun h => ?_)
              refine m_and h (fun h => ?_)
              exact k _ _ f h
            · skip
              refine m_C h (fun h => ?_)
              refine m_and h (fun h => ?_)
              exact k _ _ f h
          · skip
            refine m_gr (fr1_c_31_1 hG f) h (fun h => ?_)
            refine m_Get h (fun _ h => ?_)
            refine m_C h (fun h => ?_)
            refine m_if h (fun h => ?_) (fun h => ?_)
            · skip
              refine m_C h (fun h => ?_)
              refine m_and h (fun h => ?_)
              exact k _ _ f h
            · skip
              refine m_C h (fun h => ?_)
              refine m_and h (fun h => ?_)
              exact k _ _ f h
theorem fr1_X7_isDigit {X G : Mm} {S : Sh} {K K' : Int → Mm → Prop} {M : Mm} {u0 : Int} (hG : Inv X S G) (k : ∀ (a0 : Int) (m : Mm), fr1_F G m → K a0 m → K' a0 m) (f : fr1_F G M) (h : wp_X7_isDigit S M u0 K) : wp_X7_isDigit S M u0 K' := by
  refine m_C h (fun h => ?_)
  refine m_if h (fun h => ?_) (fun h => ?_)
  · skip
    refine m_C h (fun h => ?_)
    refine m_and h (fun h => ?_)
    exact k _ _ f h
  · skip
    refine m_C h (fun h => ?_)
    refine m_if h (fun h => ?_) (fun h => ?_)
    · skip
      refine m_C h (fun h => ?_)
      refine m_and h (fun h => ?_)
      exact k _ _ f h
    · skip
      refine m_C h (fun h => ?_)
      refine m_and h (fun h => ?_)
      exact k _ _ f h
theorem fr1_X7_takeNumber_115 {X G : Mm} {S : Sh} {K K' : Int → Mm → Prop} {M : Mm} (hG : Inv X S G) (k : ∀ (a0 : Int) (m : Mm), fr1_F G m → K a0 m → K' a0 m) (f : fr1_F G M) (h : wp_X7_takeNumber_115 S K (1) M) : wp_X7_takeNumber_115 S K' (1) M := by
  refine m_C h (fun h => ?_)
  refine m_and h (fun h => ?_)
  refine fr1_X7_refuse hG (fun _ _ f1 h => ?_) f h
  refine m_C h (fun h => ?_)
  exact k _ _ f1 h
theorem fr1_X7_takeNumber_92 {X G : Mm} {S : Sh} {K K' : Int → Mm → Prop} {M : Mm} {u1 : Int} {u2 : Int} {u3 : Int} (hG : Inv X S G) (k : ∀ (a0 : Int) (m : Mm), fr1_F G m → K a0 m → K' a0 m) (f : fr1_F G M) (h : wp_X7_takeNumber_92 S K (1) u1 u2 u3 M) : wp_X7_takeNumber_92 S K' (1) u1 u2 u3 M := by
  refine m_Get h (fun _ h => ?_)
  refine m_Get h (fun _ h => ?_)
  refine m_S h (fun _ h => ?_)
  refine m_C h (fun h => ?_)
  refine m_if h (fun h => ?_) (fun h => ?_)
  · skip
    refine fr1_X7_takeNumber_115 hG k f h
  · skip
    refine m_if h (fun h => ?_) (fun h => ?_)
    · skip
      refine fr1_X7_takeNumber_115 hG k f h
    · skip
      refine m_if h (fun h => ?_) (fun h => ?_)
      · skip
        exact k _ _ f h
      · skip
        refine fr1_X7_takeNumber_115 hG k f h
theorem fr1_X7_takeNumber_78 {X G : Mm} {S : Sh} {k20 k20' : Int → Int → Int → Int → Mm → Prop} {K K' : Int → Mm → Prop} {M : Mm} {u1 : Int} {u2 : Int} {t0 : Int} (hG : Inv X S G) (kk20 : ∀ (a1 : Int) (a2 : Int) (a3 : Int) (m : Mm), fr1_F G m → k20 (1) a1 a2 a3 m → k20' (1) a1 a2 a3 m) (k : ∀ (a0 : Int) (m : Mm), fr1_F G m → K a0 m → K' a0 m) (f : fr1_F G M) (h : wp_X7_takeNumber_78 S k20 K (1) u1 u2 t0 M) : wp_X7_takeNumber_78 S k20' K' (1) u1 u2 t0 M := by
  refine m_Get h (fun _ h => ?_)
  refine m_C h (fun h => ?_)
  refine m_A h (fun _ h => ?_)
  refine m_Put (fr1_up (by decide) f) h (fun _ f1 h => ?_)
  exact kk20 _ _ _ _ f1 h
theorem fr1_X7_takeNumber_20 {X G : Mm} {S : Sh} {K K' : Int → Mm → Prop} (hG : Inv X S G) (k : ∀ (a0 : Int) (m : Mm), fr1_F G m → K a0 m → K' a0 m) : ∀ (n : Nat) (u1 : Int) (u2 : Int) (u3 : Int) (M : Mm), fr1_F G M → wp_X7_takeNumber_20 S K n (1) u1 u2 u3 M → wp_X7_takeNumber_20 S K' n (1) u1 u2 u3 M := by
  intro n
  induction n with
  | zero => intro u1 u2 u3 M f h; exact h
  | succ n ih =>
    intro u1 u2 u3 M f h
    refine m_Get h (fun _ h => ?_)
    refine m_Get h (fun _ h => ?_)
    refine m_if h (fun h => ?_) (fun h => ?_)
    · skip
      refine fr1_X7_takeNumber_92 hG k f h
    · skip
      refine m_Get h (fun _ h => ?_)
      refine m_and h (fun h => ?_)
      refine fr1_X7_byteAt hG (fun _ _ f1 h => ?_) f h
      refine fr1_X7_isDigit hG (fun _ _ f2 h => ?_) f1 h
      refine m_if h (fun h => ?_) (fun h => ?_)
      · skip
        refine fr1_X7_takeNumber_92 hG k f2 h
      · skip
        refine m_Get h (fun _ h => ?_)
        refine m_Get h (fun _ h => ?_)
        refine m_S h (fun _ h => ?_)
        refine m_C h (fun h => ?_)
        refine m_if h (fun h => ?_) (fun h => ?_)
        · skip
          refine fr1_X7_takeNumber_78 hG (fun _ _ _ _ f3 h => ?_) k f2 h
          exact ih _ _ _ _ f3 h
        · skip
          refine m_C h (fun h => ?_)
          refine m_M h (fun _ h => ?_)
          refine m_Get h (fun _ h => ?_)
          refine m_and h (fun h => ?_)
          refine fr1_X7_byteAt hG (fun _ _ f4 h => ?_) f2 h
          refine m_A h (fun _ h => ?_)
          refine m_C h (fun h => ?_)
          refine m_S h (fun _ h => ?_)
          refine fr1_X7_takeNumber_78 hG (fun _ _ _ _ f5 h => ?_) k f4 h
          exact ih _ _ _ _ f5 h
theorem fr1_X7_takeNumber {X G : Mm} {S : Sh} {K K' : Int → Mm → Prop} {M : Mm} {u1 : Int} {u2 : Int} (hG : Inv X S G) (k : ∀ (a0 : Int) (m : Mm), fr1_F G m → K a0 m → K' a0 m) (f : fr1_F G M) (h : wp_X7_takeNumber S M (1) u1 u2 K) : wp_X7_takeNumber S M (1) u1 u2 K' := by
  refine m_and h (fun h => ?_)
  refine fr1_X7_look hG (fun _ _ f1 h => ?_) f h
  refine fr1_X7_isDigit hG (fun _ _ f2 h => ?_) f1 h
  refine m_if h (fun h => ?_) (fun h => ?_)
  · skip
    refine m_C h (fun h => ?_)
    refine m_ex h (fun n9 h => ?_)
    refine fr1_X7_takeNumber_20 hG k _ _ _ _ _ f2 h
  · skip
    refine m_C h (fun h => ?_)
    refine m_and h (fun h => ?_)
    refine fr1_X7_refuse hG (fun _ _ f3 h => ?_) f2 h
    refine m_C h (fun h => ?_)
    exact k _ _ f3 h
theorem fr1_X0_readDairy_51 {X G : Mm} {S : Sh} {K K' : Int → Mm → Prop} {M : Mm} {u1 : Int} {u2 : Int} {t0 : Int} (hG : Inv X S G) (k : ∀ (a0 : Int) (m : Mm), fr1_F G m → K a0 m → K' a0 m) (f : fr1_F G M) (h : wp_X0_readDairy_51 S K (31) u1 u2 t0 M) : wp_X0_readDairy_51 S K' (31) u1 u2 t0 M := by
  refine m_C h (fun h => ?_)
  refine m_if h (fun h => ?_) (fun h => ?_)
  · skip
    refine m_gr (fr1_c_31_1 hG f) h (fun h => ?_)
    refine m_Put (fr1_up (by decide) f) h (fun _ f1 h => ?_)
    refine m_gr (fr1_c_31_1 hG f1) h (fun h => ?_)
    refine m_Put (fr1_up (by decide) f1) h (fun _ f2 h => ?_)
    refine m_gr (fr1_c_31_1 hG f2) h (fun h => ?_)
    refine m_Put (fr1_up (by decide) f2) h (fun _ f3 h => ?_)
    refine m_C h (fun h => ?_)
    refine m_and h (fun h => ?_)
    exact k _ _ f3 h
  · skip
    refine m_C h (fun h => ?_)
    refine m_and h (fun h => ?_)
    exact k _ _ f h
theorem fr1_X0_readDairy_30 {X G : Mm} {S : Sh} {K K' : Int → Mm → Prop} {M : Mm} {u1 : Int} {t0 : Int} (hG : Inv X S G) (k : ∀ (a0 : Int) (m : Mm), fr1_F G m → K a0 m → K' a0 m) (f : fr1_F G M) (h : wp_X0_readDairy_30 S K (31) u1 t0 M) : wp_X0_readDairy_30 S K' (31) u1 t0 M := by
  refine m_C h (fun h => ?_)
  refine m_if h (fun h => ?_) (fun h => ?_)
  · skip
    refine m_gr (fr1_c_31_0 hG f) h (fun h => ?_)
    refine m_C h (fun h => ?_)
    refine m_C h (fun h => ?_)
    refine m_and h (fun h => ?_)
    refine fr1_X7_takeNumber hG (fun _ _ f1 h => ?_) f h
    refine fr1_X0_readDairy_51 hG k f1 h
  · skip
    refine m_C h (fun h => ?_)
    refine fr1_X0_readDairy_51 hG k f h
theorem fr1_X0_readDairy {X G : Mm} {S : Sh} {K K' : Int → Mm → Prop} {M : Mm} (hG : Inv X S G) (k : ∀ (a0 : Int) (m : Mm), fr1_F G m → K a0 m → K' a0 m) (f : fr1_F G M) (h : wp_X0_readDairy S M (31) K) : wp_X0_readDairy S M (31) K' := by
  refine m_gr (fr1_c_31_0 hG f) h (fun h => ?_)
  refine m_C h (fun h => ?_)
  refine m_C h (fun h => ?_)
  refine m_and h (fun h => ?_)
  refine fr1_X7_takeNumber hG (fun _ _ f1 h => ?_) f h
  refine m_C h (fun h => ?_)
  refine m_if h (fun h => ?_) (fun h => ?_)
  · skip
    refine m_gr (fr1_c_31_0 hG f1) h (fun h => ?_)
    refine m_C h (fun h => ?_)
    refine m_C h (fun h => ?_)
    refine m_and h (fun h => ?_)
    refine fr1_X7_takeNumber hG (fun _ _ f2 h => ?_) f1 h
    refine fr1_X0_readDairy_30 hG k f2 h
  · skip
    refine m_C h (fun h => ?_)
    refine fr1_X0_readDairy_30 hG k f1 h
theorem fr1_X0_takePlace {X G : Mm} {S : Sh} {K K' : Int → Mm → Prop} {M : Mm} (hG : Inv X S G) (k : ∀ (a0 : Int) (m : Mm), fr1_F G m → K a0 m → K' a0 m) (f : fr1_F G M) (h : wp_X0_takePlace S M (31) K) : wp_X0_takePlace S M (31) K' := by
  refine m_gr (fr1_c_31_0 hG f) h (fun h => ?_)
  refine m_C h (fun h => ?_)
  refine m_gr (fr1_c_31_1 hG f) h (fun h => ?_)
  refine m_Get h (fun _ h => ?_)
  refine m_C h (fun h => ?_)
  refine m_S h (fun _ h => ?_)
  refine m_and h (fun h => ?_)
  refine fr1_X7_takeNumber hG (fun _ _ f1 h => ?_) f h
  exact k _ _ f1 h
theorem fr1_X8_pair {X G : Mm} {S : Sh} {K K' : Int → Mm → Prop} {M : Mm} {u0 : Int} {u1 : Int} (hG : Inv X S G) (k : ∀ (a0 : Int) (m : Mm), fr1_F G m → K a0 m → K' a0 m) (f : fr1_F G M) (h : wp_X8_pair S M u0 u1 K) : wp_X8_pair S M u0 u1 K' := by
  refine m_C h (fun h => ?_)
  refine m_M h (fun _ h => ?_)
  refine m_A h (fun _ h => ?_)
  exact k _ _ f h
theorem fr1_X8_roadHours {X G : Mm} {S : Sh} {K K' : Int → Mm → Prop} {M : Mm} {u1 : Int} {u2 : Int} (hG : Inv X S G) (k : ∀ (a0 : Int) (m : Mm), fr1_F G m → K a0 m → K' a0 m) (f : fr1_F G M) (h : wp_X8_roadHours S M (32) u1 u2 K) : wp_X8_roadHours S M (32) u1 u2 K' := by
  refine m_gr (fr1_c_32_8 hG f) h (fun h => ?_)
  refine fr1_X8_pair hG (fun _ _ f1 h => ?_) f h
  refine m_Ld h (fun _ h => ?_)
  exact k _ _ f1 h
theorem fr1_X8_addRoad {X G : Mm} {S : Sh} {K K' : Mm → Prop} {M : Mm} {u1 : Int} {u2 : Int} {u3 : Int} (hG : Inv X S G) (k : ∀ (m : Mm), fr1_F G m → K m → K' m) (f : fr1_F G M) (h : wp_X8_addRoad S M (32) u1 u2 u3 K) : wp_X8_addRoad S M (32) u1 u2 u3 K' := by
  refine m_gr (fr1_c_32_8 hG f) h (fun h => ?_)
  refine fr1_X8_pair hG (fun _ _ f1 h => ?_) f h
  refine m_St (fr1_up (fr1_a_33 _) f1) h (fun _ f2 h => ?_)
  refine m_gr (fr1_c_32_8 hG f2) h (fun h => ?_)
  refine fr1_X8_pair hG (fun _ _ f3 h => ?_) f2 h
  refine m_St (fr1_up (fr1_a_33 _) f3) h (fun _ f4 h => ?_)
  refine m_Get h (fun _ h => ?_)
  refine m_C h (fun h => ?_)
  refine m_A h (fun _ h => ?_)
  refine m_Put (fr1_up (by decide) f4) h (fun _ f5 h => ?_)
  exact k _ f5 h
theorem fr1_X0_readRoad_43 {X G : Mm} {S : Sh} {K K' : Int → Mm → Prop} {M : Mm} (hG : Inv X S G) (k : ∀ (a0 : Int) (m : Mm), fr1_F G m → K a0 m → K' a0 m) (f : fr1_F G M) (h : wp_X0_readRoad_43 S K (31) M) : wp_X0_readRoad_43 S K' (31) M := by
  refine m_gr (fr1_c_31_0 hG f) h (fun h => ?_)
  refine m_C h (fun h => ?_)
  refine m_and h (fun h => ?_)
  refine fr1_X7_refuse hG (fun _ _ f1 h => ?_) f h
  refine m_and h (fun h => ?_)
  exact k _ _ f1 h
theorem fr1_X0_readRoad_18 {X G : Mm} {S : Sh} {K K' : Int → Mm → Prop} {M : Mm} {u1 : Int} {t0 : Int} (hG : Inv X S G) (k : ∀ (a0 : Int) (m : Mm), fr1_F G m → K a0 m → K' a0 m) (f : fr1_F G M) (h : wp_X0_readRoad_18 S K (31) u1 t0 M) : wp_X0_readRoad_18 S K' (31) u1 t0 M := by
  refine m_C h (fun h => ?_)
  refine m_if h (fun h => ?_) (fun h => ?_)
  · skip
    refine m_if h (fun h => ?_) (fun h => ?_)
    · skip
      refine fr1_X0_readRoad_43 hG k f h
    · skip
      refine m_gr (fr1_c_31_1 hG f) h (fun h => ?_)
      refine m_and h (fun h => ?_)
      refine fr1_X8_roadHours hG (fun _ _ f1 h => ?_) f h
      refine m_if h (fun h => ?_) (fun h => ?_)
      · skip
        refine m_gr (fr1_c_31_0 hG f1) h (fun h => ?_)
        refine m_C h (fun h => ?_)
        refine m_C h (fun h => ?_)
        refine m_and h (fun h => ?_)
        refine fr1_X7_takeNumber hG (fun _ _ f2 h => ?_) f1 h
        refine m_C h (fun h => ?_)
        refine m_if h (fun h => ?_) (fun h => ?_)
        · skip
          refine m_gr (fr1_c_31_1 hG f2) h (fun h => ?_)
          refine m_and h (fun h => ?_)
          refine fr1_X8_addRoad hG (fun _ f3 h => ?_) f2 h
          refine m_C h (fun h => ?_)
          refine m_and h (fun h => ?_)
          exact k _ _ f3 h
        · skip
          refine m_C h (fun h => ?_)
          refine m_and h (fun h => ?_)
          exact k _ _ f2 h
      · skip
        refine fr1_X0_readRoad_43 hG k f1 h
  · skip
    refine m_C h (fun h => ?_)
    refine m_and h (fun h => ?_)
    exact k _ _ f h
theorem fr1_X0_readRoad {X G : Mm} {S : Sh} {K K' : Int → Mm → Prop} {M : Mm} (hG : Inv X S G) (k : ∀ (a0 : Int) (m : Mm), fr1_F G m → K a0 m → K' a0 m) (f : fr1_F G M) (h : wp_X0_readRoad S M (31) K) : wp_X0_readRoad S M (31) K' := by
  refine m_and h (fun h => ?_)
  refine fr1_X0_takePlace hG (fun _ _ f1 h => ?_) f h
  refine m_C h (fun h => ?_)
  refine m_if h (fun h => ?_) (fun h => ?_)
  · skip
    refine m_and h (fun h => ?_)
    refine fr1_X0_takePlace hG (fun _ _ f2 h => ?_) f1 h
    refine fr1_X0_readRoad_18 hG k f2 h
  · skip
    refine m_C h (fun h => ?_)
    refine fr1_X0_readRoad_18 hG k f1 h
theorem fr1_X0_readHand_43 {X G : Mm} {S : Sh} {K K' : Int → Mm → Prop} {M : Mm} {u1 : Int} {u2 : Int} {t0 : Int} (hG : Inv X S G) (k : ∀ (a0 : Int) (m : Mm), fr1_F G m → K a0 m → K' a0 m) (f : fr1_F G M) (h : wp_X0_readHand_43 S K (31) u1 u2 t0 M) : wp_X0_readHand_43 S K' (31) u1 u2 t0 M := by
  refine m_C h (fun h => ?_)
  refine m_if h (fun h => ?_) (fun h => ?_)
  · skip
    refine m_gr (fr1_c_31_2 hG f) h (fun h => ?_)
    refine m_gr (fr1_c_44_2 hG f) h (fun h => ?_)
    refine m_gr (fr1_c_31_1 hG f) h (fun h => ?_)
    refine m_Get h (fun _ h => ?_)
    refine m_St (fr1_up (fr1_a_45 _) f) h (fun _ f1 h => ?_)
    refine m_gr (fr1_c_31_1 hG f1) h (fun h => ?_)
    refine m_gr (fr1_c_32_10 hG f1) h (fun h => ?_)
    refine m_gr (fr1_c_31_1 hG f1) h (fun h => ?_)
    refine m_Get h (fun _ h => ?_)
    refine m_St (fr1_up (fr1_a_35 _) f1) h (fun _ f2 h => ?_)
    refine m_gr (fr1_c_31_1 hG f2) h (fun h => ?_)
    refine m_gr (fr1_c_32_11 hG f2) h (fun h => ?_)
    refine m_gr (fr1_c_31_1 hG f2) h (fun h => ?_)
    refine m_Get h (fun _ h => ?_)
    refine m_St (fr1_up (fr1_a_36 _) f2) h (fun _ f3 h => ?_)
    refine m_gr (fr1_c_31_1 hG f3) h (fun h => ?_)
    refine m_Get h (fun _ h => ?_)
    refine m_C h (fun h => ?_)
    refine m_A h (fun _ h => ?_)
    refine m_Put (fr1_up (by decide) f3) h (fun _ f4 h => ?_)
    refine m_C h (fun h => ?_)
    refine m_and h (fun h => ?_)
    exact k _ _ f4 h
  · skip
    refine m_C h (fun h => ?_)
    refine m_and h (fun h => ?_)
    exact k _ _ f h
theorem fr1_X0_readHand_24 {X G : Mm} {S : Sh} {K K' : Int → Mm → Prop} {M : Mm} {u1 : Int} {t0 : Int} (hG : Inv X S G) (k : ∀ (a0 : Int) (m : Mm), fr1_F G m → K a0 m → K' a0 m) (f : fr1_F G M) (h : wp_X0_readHand_24 S K (31) u1 t0 M) : wp_X0_readHand_24 S K' (31) u1 t0 M := by
  refine m_C h (fun h => ?_)
  refine m_if h (fun h => ?_) (fun h => ?_)
  · skip
    refine m_gr (fr1_c_31_0 hG f) h (fun h => ?_)
    refine m_C h (fun h => ?_)
    refine m_C h (fun h => ?_)
    refine m_and h (fun h => ?_)
    refine fr1_X7_takeNumber hG (fun _ _ f1 h => ?_) f h
    refine fr1_X0_readHand_43 hG k f1 h
  · skip
    refine m_C h (fun h => ?_)
    refine fr1_X0_readHand_43 hG k f h
theorem fr1_X0_readHand {X G : Mm} {S : Sh} {K K' : Int → Mm → Prop} {M : Mm} (hG : Inv X S G) (k : ∀ (a0 : Int) (m : Mm), fr1_F G m → K a0 m → K' a0 m) (f : fr1_F G M) (h : wp_X0_readHand S M (31) K) : wp_X0_readHand S M (31) K' := by
  refine m_and h (fun h => ?_)
  refine fr1_X0_takePlace hG (fun _ _ f1 h => ?_) f h
  refine m_C h (fun h => ?_)
  refine m_if h (fun h => ?_) (fun h => ?_)
  · skip
    refine m_gr (fr1_c_31_0 hG f1) h (fun h => ?_)
    refine m_C h (fun h => ?_)
    refine m_C h (fun h => ?_)
    refine m_and h (fun h => ?_)
    refine fr1_X7_takeNumber hG (fun _ _ f2 h => ?_) f1 h
    refine fr1_X0_readHand_24 hG k f2 h
  · skip
    refine m_C h (fun h => ?_)
    refine fr1_X0_readHand_24 hG k f1 h
theorem fr1_X0_readJug_24 {X G : Mm} {S : Sh} {K K' : Int → Mm → Prop} {M : Mm} {u1 : Int} {t0 : Int} (hG : Inv X S G) (k : ∀ (a0 : Int) (m : Mm), fr1_F G m → K a0 m → K' a0 m) (f : fr1_F G M) (h : wp_X0_readJug_24 S K (31) u1 t0 M) : wp_X0_readJug_24 S K' (31) u1 t0 M := by
  refine m_C h (fun h => ?_)
  refine m_if h (fun h => ?_) (fun h => ?_)
  · skip
    refine m_gr (fr1_c_31_2 hG f) h (fun h => ?_)
    refine m_gr (fr1_c_44_5 hG f) h (fun h => ?_)
    refine m_gr (fr1_c_31_1 hG f) h (fun h => ?_)
    refine m_Get h (fun _ h => ?_)
    refine m_St (fr1_up (fr1_a_48 _) f) h (fun _ f1 h => ?_)
    refine m_gr (fr1_c_31_2 hG f1) h (fun h => ?_)
    refine m_gr (fr1_c_44_7 hG f1) h (fun h => ?_)
    refine m_gr (fr1_c_31_1 hG f1) h (fun h => ?_)
    refine m_Get h (fun _ h => ?_)
    refine m_St (fr1_up (fr1_a_50 _) f1) h (fun _ f2 h => ?_)
    refine m_gr (fr1_c_31_1 hG f2) h (fun h => ?_)
    refine m_Get h (fun _ h => ?_)
    refine m_C h (fun h => ?_)
    refine m_A h (fun _ h => ?_)
    refine m_Put (fr1_up (by decide) f2) h (fun _ f3 h => ?_)
    refine m_C h (fun h => ?_)
    refine m_and h (fun h => ?_)
    exact k _ _ f3 h
  · skip
    refine m_C h (fun h => ?_)
    refine m_and h (fun h => ?_)
    exact k _ _ f h
theorem fr1_X0_readJug {X G : Mm} {S : Sh} {K K' : Int → Mm → Prop} {M : Mm} (hG : Inv X S G) (k : ∀ (a0 : Int) (m : Mm), fr1_F G m → K a0 m → K' a0 m) (f : fr1_F G M) (h : wp_X0_readJug S M (31) K) : wp_X0_readJug S M (31) K' := by
  refine m_and h (fun h => ?_)
  refine fr1_X0_takePlace hG (fun _ _ f1 h => ?_) f h
  refine m_C h (fun h => ?_)
  refine m_if h (fun h => ?_) (fun h => ?_)
  · skip
    refine m_gr (fr1_c_31_0 hG f1) h (fun h => ?_)
    refine m_C h (fun h => ?_)
    refine m_C h (fun h => ?_)
    refine m_and h (fun h => ?_)
    refine fr1_X7_takeNumber hG (fun _ _ f2 h => ?_) f1 h
    refine fr1_X0_readJug_24 hG k f2 h
  · skip
    refine m_C h (fun h => ?_)
    refine fr1_X0_readJug_24 hG k f1 h
theorem fr1_X0_readHeat_49 {X G : Mm} {S : Sh} {K K' : Int → Mm → Prop} {M : Mm} {u1 : Int} {u2 : Int} {t0 : Int} (hG : Inv X S G) (k : ∀ (a0 : Int) (m : Mm), fr1_F G m → K a0 m → K' a0 m) (f : fr1_F G M) (h : wp_X0_readHeat_49 S K (31) u1 u2 t0 M) : wp_X0_readHeat_49 S K' (31) u1 u2 t0 M := by
  refine m_C h (fun h => ?_)
  refine m_if h (fun h => ?_) (fun h => ?_)
  · skip
    refine m_gr (fr1_c_31_1 hG f) h (fun h => ?_)
    refine m_gr (fr1_c_32_12 hG f) h (fun h => ?_)
    refine m_gr (fr1_c_31_1 hG f) h (fun h => ?_)
    refine m_Get h (fun _ h => ?_)
    refine m_St (fr1_up (fr1_a_37 _) f) h (fun _ f1 h => ?_)
    refine m_gr (fr1_c_31_1 hG f1) h (fun h => ?_)
    refine m_gr (fr1_c_32_13 hG f1) h (fun h => ?_)
    refine m_gr (fr1_c_31_1 hG f1) h (fun h => ?_)
    refine m_Get h (fun _ h => ?_)
    refine m_St (fr1_up (fr1_a_38 _) f1) h (fun _ f2 h => ?_)
    refine m_gr (fr1_c_31_1 hG f2) h (fun h => ?_)
    refine m_gr (fr1_c_32_14 hG f2) h (fun h => ?_)
    refine m_gr (fr1_c_31_1 hG f2) h (fun h => ?_)
    refine m_Get h (fun _ h => ?_)
    refine m_St (fr1_up (fr1_a_39 _) f2) h (fun _ f3 h => ?_)
    refine m_gr (fr1_c_31_1 hG f3) h (fun h => ?_)
    refine m_Get h (fun _ h => ?_)
    refine m_C h (fun h => ?_)
    refine m_A h (fun _ h => ?_)
    refine m_Put (fr1_up (by decide) f3) h (fun _ f4 h => ?_)
    refine m_C h (fun h => ?_)
    refine m_and h (fun h => ?_)
    exact k _ _ f4 h
  · skip
    refine m_C h (fun h => ?_)
    refine m_and h (fun h => ?_)
    exact k _ _ f h
theorem fr1_X0_readHeat_30 {X G : Mm} {S : Sh} {K K' : Int → Mm → Prop} {M : Mm} {u1 : Int} {t0 : Int} (hG : Inv X S G) (k : ∀ (a0 : Int) (m : Mm), fr1_F G m → K a0 m → K' a0 m) (f : fr1_F G M) (h : wp_X0_readHeat_30 S K (31) u1 t0 M) : wp_X0_readHeat_30 S K' (31) u1 t0 M := by
  refine m_C h (fun h => ?_)
  refine m_if h (fun h => ?_) (fun h => ?_)
  · skip
    refine m_gr (fr1_c_31_0 hG f) h (fun h => ?_)
    refine m_C h (fun h => ?_)
    refine m_C h (fun h => ?_)
    refine m_and h (fun h => ?_)
    refine fr1_X7_takeNumber hG (fun _ _ f1 h => ?_) f h
    refine fr1_X0_readHeat_49 hG k f1 h
  · skip
    refine m_C h (fun h => ?_)
    refine fr1_X0_readHeat_49 hG k f h
theorem fr1_X0_readHeat {X G : Mm} {S : Sh} {K K' : Int → Mm → Prop} {M : Mm} (hG : Inv X S G) (k : ∀ (a0 : Int) (m : Mm), fr1_F G m → K a0 m → K' a0 m) (f : fr1_F G M) (h : wp_X0_readHeat S M (31) K) : wp_X0_readHeat S M (31) K' := by
  refine m_gr (fr1_c_31_0 hG f) h (fun h => ?_)
  refine m_C h (fun h => ?_)
  refine m_C h (fun h => ?_)
  refine m_and h (fun h => ?_)
  refine fr1_X7_takeNumber hG (fun _ _ f1 h => ?_) f h
  refine m_C h (fun h => ?_)
  refine m_if h (fun h => ?_) (fun h => ?_)
  · skip
    refine m_gr (fr1_c_31_0 hG f1) h (fun h => ?_)
    refine m_C h (fun h => ?_)
    refine m_and h (fun h => ?_)
    refine fr1_X7_takeNumber hG (fun _ _ f2 h => ?_) f1 h
    refine fr1_X0_readHeat_30 hG k f2 h
  · skip
    refine m_C h (fun h => ?_)
    refine fr1_X0_readHeat_30 hG k f1 h
theorem fr1_X0_readWant_64 {X G : Mm} {S : Sh} {K K' : Int → Mm → Prop} {M : Mm} {u1 : Int} {u2 : Int} {u3 : Int} {t0 : Int} (hG : Inv X S G) (k : ∀ (a0 : Int) (m : Mm), fr1_F G m → K a0 m → K' a0 m) (f : fr1_F G M) (h : wp_X0_readWant_64 S K (31) u1 u2 u3 t0 M) : wp_X0_readWant_64 S K' (31) u1 u2 u3 t0 M := by
  refine m_C h (fun h => ?_)
  refine m_if h (fun h => ?_) (fun h => ?_)
  · skip
    refine m_gr (fr1_c_31_1 hG f) h (fun h => ?_)
    refine m_gr (fr1_c_32_15 hG f) h (fun h => ?_)
    refine m_gr (fr1_c_31_1 hG f) h (fun h => ?_)
    refine m_Get h (fun _ h => ?_)
    refine m_St (fr1_up (fr1_a_40 _) f) h (fun _ f1 h => ?_)
    refine m_gr (fr1_c_31_1 hG f1) h (fun h => ?_)
    refine m_gr (fr1_c_32_16 hG f1) h (fun h => ?_)
    refine m_gr (fr1_c_31_1 hG f1) h (fun h => ?_)
    refine m_Get h (fun _ h => ?_)
    refine m_St (fr1_up (fr1_a_41 _) f1) h (fun _ f2 h => ?_)
    refine m_gr (fr1_c_31_1 hG f2) h (fun h => ?_)
    refine m_gr (fr1_c_32_17 hG f2) h (fun h => ?_)
    refine m_gr (fr1_c_31_1 hG f2) h (fun h => ?_)
    refine m_Get h (fun _ h => ?_)
    refine m_St (fr1_up (fr1_a_42 _) f2) h (fun _ f3 h => ?_)
    refine m_gr (fr1_c_31_1 hG f3) h (fun h => ?_)
    refine m_gr (fr1_c_32_18 hG f3) h (fun h => ?_)
    refine m_gr (fr1_c_31_1 hG f3) h (fun h => ?_)
    refine m_Get h (fun _ h => ?_)
    refine m_St (fr1_up (fr1_a_43 _) f3) h (fun _ f4 h => ?_)
    refine m_gr (fr1_c_31_1 hG f4) h (fun h => ?_)
    refine m_Get h (fun _ h => ?_)
    refine m_C h (fun h => ?_)
    refine m_A h (fun _ h => ?_)
    refine m_Put (fr1_up (by decide) f4) h (fun _ f5 h => ?_)
    refine m_C h (fun h => ?_)
    refine m_and h (fun h => ?_)
    exact k _ _ f5 h
  · skip
    refine m_C h (fun h => ?_)
    refine m_and h (fun h => ?_)
    exact k _ _ f h
theorem fr1_X0_readWant_44 {X G : Mm} {S : Sh} {K K' : Int → Mm → Prop} {M : Mm} {u1 : Int} {u2 : Int} {t0 : Int} (hG : Inv X S G) (k : ∀ (a0 : Int) (m : Mm), fr1_F G m → K a0 m → K' a0 m) (f : fr1_F G M) (h : wp_X0_readWant_44 S K (31) u1 u2 t0 M) : wp_X0_readWant_44 S K' (31) u1 u2 t0 M := by
  refine m_C h (fun h => ?_)
  refine m_if h (fun h => ?_) (fun h => ?_)
  · skip
    refine m_gr (fr1_c_31_0 hG f) h (fun h => ?_)
    refine m_C h (fun h => ?_)
    refine m_C h (fun h => ?_)
    refine m_and h (fun h => ?_)
    refine fr1_X7_takeNumber hG (fun _ _ f1 h => ?_) f h
    refine fr1_X0_readWant_64 hG k f1 h
  · skip
    refine m_C h (fun h => ?_)
    refine fr1_X0_readWant_64 hG k f h
theorem fr1_X0_readWant_24 {X G : Mm} {S : Sh} {K K' : Int → Mm → Prop} {M : Mm} {u1 : Int} {t0 : Int} (hG : Inv X S G) (k : ∀ (a0 : Int) (m : Mm), fr1_F G m → K a0 m → K' a0 m) (f : fr1_F G M) (h : wp_X0_readWant_24 S K (31) u1 t0 M) : wp_X0_readWant_24 S K' (31) u1 t0 M := by
  refine m_C h (fun h => ?_)
  refine m_if h (fun h => ?_) (fun h => ?_)
  · skip
    refine m_gr (fr1_c_31_0 hG f) h (fun h => ?_)
    refine m_C h (fun h => ?_)
    refine m_and h (fun h => ?_)
    refine fr1_X7_takeNumber hG (fun _ _ f1 h => ?_) f h
    refine fr1_X0_readWant_44 hG k f1 h
  · skip
    refine m_C h (fun h => ?_)
    refine fr1_X0_readWant_44 hG k f h
theorem fr1_X0_readWant {X G : Mm} {S : Sh} {K K' : Int → Mm → Prop} {M : Mm} (hG : Inv X S G) (k : ∀ (a0 : Int) (m : Mm), fr1_F G m → K a0 m → K' a0 m) (f : fr1_F G M) (h : wp_X0_readWant S M (31) K) : wp_X0_readWant S M (31) K' := by
  refine m_and h (fun h => ?_)
  refine fr1_X0_takePlace hG (fun _ _ f1 h => ?_) f h
  refine m_C h (fun h => ?_)
  refine m_if h (fun h => ?_) (fun h => ?_)
  · skip
    refine m_gr (fr1_c_31_0 hG f1) h (fun h => ?_)
    refine m_C h (fun h => ?_)
    refine m_C h (fun h => ?_)
    refine m_and h (fun h => ?_)
    refine fr1_X7_takeNumber hG (fun _ _ f2 h => ?_) f1 h
    refine fr1_X0_readWant_24 hG k f2 h
  · skip
    refine m_C h (fun h => ?_)
    refine fr1_X0_readWant_24 hG k f1 h
theorem fr1_X0_readClause_64 {X G : Mm} {S : Sh} {K K' : Int → Mm → Prop} {M : Mm} (hG : Inv X S G) (k : ∀ (a0 : Int) (m : Mm), fr1_F G m → K a0 m → K' a0 m) (f : fr1_F G M) (h : wp_X0_readClause_64 S K (31) M) : wp_X0_readClause_64 S K' (31) M := by
  refine m_gr (fr1_c_31_0 hG f) h (fun h => ?_)
  refine m_C h (fun h => ?_)
  refine m_and h (fun h => ?_)
  refine fr1_X7_refuse hG (fun _ _ f1 h => ?_) f h
  refine m_and h (fun h => ?_)
  exact k _ _ f1 h
theorem fr1_X0_readClause_45 {X G : Mm} {S : Sh} {K K' : Int → Mm → Prop} {M : Mm} {u1 : Int} {u2 : Int} {t0 : Int} (hG : Inv X S G) (k : ∀ (a0 : Int) (m : Mm), fr1_F G m → K a0 m → K' a0 m) (f : fr1_F G M) (h : wp_X0_readClause_45 S K (31) u1 u2 t0 M) : wp_X0_readClause_45 S K' (31) u1 u2 t0 M := by
  refine m_C h (fun h => ?_)
  refine m_if h (fun h => ?_) (fun h => ?_)
  · skip
    refine fr1_X0_readClause_64 hG k f h
  · skip
    refine m_if h (fun h => ?_) (fun h => ?_)
    · skip
      refine fr1_X0_readClause_64 hG k f h
    · skip
      refine m_and h (fun h => ?_)
      refine fr1_X0_hasRoomFor hG (fun _ _ f1 h => ?_) f h
      refine m_if h (fun h => ?_) (fun h => ?_)
      · skip
        refine m_if h (fun h => ?_) (fun h => ?_)
        · skip
          refine m_and h (fun h => ?_)
          refine fr1_X0_readDairy hG (fun _ _ f2 h => ?_) f1 h
          refine m_and h (fun h => ?_)
          exact k _ _ f2 h
        · skip
          refine m_if h (fun h => ?_) (fun h => ?_)
          · skip
            refine m_and h (fun h => ?_)
            refine fr1_X0_readRoad hG (fun _ _ f3 h => ?_) f1 h
            refine m_and h (fun h => ?_)
            exact k _ _ f3 h
          · skip
            refine m_if h (fun h => ?_) (fun h => ?_)
            · skip
              refine m_and h (fun h => ?_)
              refine fr1_X0_readHand hG (fun _ _ f4 h => ?_) f1 h
              refine m_and h (fun h => ?_)
              exact k _ _ f4 h
            · skip
              refine m_if h (fun h => ?_) (fun h => ?_)
              · skip
                refine m_and h (fun h => ?_)
                refine fr1_X0_readJug hG (fun _ _ f5 h => ?_) f1 h
                refine m_and h (fun h => ?_)
                exact k _ _ f5 h
              · skip
                refine m_if h (fun h => ?_) (fun h => ?_)
                · skip
                  refine m_and h (fun h => ?_)
                  refine fr1_X0_readHeat hG (fun _ _ f6 h => ?_) f1 h
                  refine m_and h (fun h => ?_)
                  exact k _ _ f6 h
                · skip
                  refine m_and h (fun h => ?_)
                  refine fr1_X0_readWant hG (fun _ _ f7 h => ?_) f1 h
                  refine m_and h (fun h => ?_)
                  exact k _ _ f7 h
      · skip
        refine fr1_X0_readClause_64 hG k f1 h
theorem fr1_X0_readClause_37 {X G : Mm} {S : Sh} {K K' : Int → Mm → Prop} {M : Mm} {u1 : Int} {u2 : Int} {t0 : Int} {t1 : Int} (hG : Inv X S G) (k : ∀ (a0 : Int) (m : Mm), fr1_F G m → K a0 m → K' a0 m) (f : fr1_F G M) (h : wp_X0_readClause_37 S K (31) u1 u2 t0 t1 M) : wp_X0_readClause_37 S K' (31) u1 u2 t0 t1 M := by
  refine m_if h (fun h => ?_) (fun h => ?_)
  · skip
    refine m_C h (fun h => ?_)
    refine fr1_X0_readClause_45 hG k f h
  · skip
    refine m_C h (fun h => ?_)
    refine fr1_X0_readClause_45 hG k f h
theorem fr1_X0_readClause_28 {X G : Mm} {S : Sh} {K K' : Int → Mm → Prop} {M : Mm} {u1 : Int} {u2 : Int} {t0 : Int} (hG : Inv X S G) (k : ∀ (a0 : Int) (m : Mm), fr1_F G m → K a0 m → K' a0 m) (f : fr1_F G M) (h : wp_X0_readClause_28 S K (31) u1 u2 t0 M) : wp_X0_readClause_28 S K' (31) u1 u2 t0 M := by
  refine m_if h (fun h => ?_) (fun h => ?_)
  · skip
    refine m_C h (fun h => ?_)
    refine fr1_X0_readClause_37 hG k f h
  · skip
    refine m_C h (fun h => ?_)
    refine fr1_X0_readClause_37 hG k f h
theorem fr1_X0_readClause {X G : Mm} {S : Sh} {K K' : Int → Mm → Prop} {M : Mm} {u1 : Int} (hG : Inv X S G) (k : ∀ (a0 : Int) (m : Mm), fr1_F G m → K a0 m → K' a0 m) (f : fr1_F G M) (h : wp_X0_readClause S M (31) u1 K) : wp_X0_readClause S M (31) u1 K' := by
  refine m_and h (fun h => ?_)
  refine fr1_X0_takeKind hG (fun _ _ f1 h => ?_) f h
  refine m_C h (fun h => ?_)
  refine m_if h (fun h => ?_) (fun h => ?_)
  · skip
    refine m_if h (fun h => ?_) (fun h => ?_)
    · skip
      refine m_C h (fun h => ?_)
      refine fr1_X0_readClause_28 hG k f1 h
    · skip
      refine m_C h (fun h => ?_)
      refine fr1_X0_readClause_28 hG k f1 h
  · skip
    refine m_gr (fr1_c_31_0 hG f1) h (fun h => ?_)
    refine m_C h (fun h => ?_)
    refine m_and h (fun h => ?_)
    refine fr1_X7_refuse hG (fun _ _ f2 h => ?_) f1 h
    refine m_and h (fun h => ?_)
    exact k _ _ f2 h
theorem fr1_X7_isAtEnd {X G : Mm} {S : Sh} {K K' : Int → Mm → Prop} {M : Mm} (hG : Inv X S G) (k : ∀ (a0 : Int) (m : Mm), fr1_F G m → K a0 m → K' a0 m) (f : fr1_F G M) (h : wp_X7_isAtEnd S M (1) K) : wp_X7_isAtEnd S M (1) K' := by
  refine m_and h (fun h => ?_)
  refine fr1_X7_look hG (fun _ _ f1 h => ?_) f h
  refine m_C h (fun h => ?_)
  refine m_if h (fun h => ?_) (fun h => ?_)
  · skip
    refine m_C h (fun h => ?_)
    refine m_and h (fun h => ?_)
    exact k _ _ f1 h
  · skip
    refine m_C h (fun h => ?_)
    refine m_and h (fun h => ?_)
    exact k _ _ f1 h
theorem fr1_X8_measureWays_91 {X G : Mm} {S : Sh} {k71 k71' : Int → Int → Mm → Prop} {k81 k81' : Int → Int → Int → Mm → Prop} {K K' : Mm → Prop} (hG : Inv X S G) (kk71 : ∀ (a1 : Int) (m : Mm), fr1_F G m → k71 (32) a1 m → k71' (32) a1 m) (kk81 : ∀ (a1 : Int) (a2 : Int) (m : Mm), fr1_F G m → k81 (32) a1 a2 m → k81' (32) a1 a2 m) (k : ∀ (m : Mm), fr1_F G m → K m → K' m) : ∀ (n : Nat) (u1 : Int) (u2 : Int) (u3 : Int) (M : Mm), fr1_F G M → wp_X8_measureWays_91 S k71 k81 K n (32) u1 u2 u3 M → wp_X8_measureWays_91 S k71' k81' K' n (32) u1 u2 u3 M := by
  intro n
  induction n with
  | zero => intro u1 u2 u3 M f h; exact h
  | succ n ih =>
    intro u1 u2 u3 M f h
    refine m_Get h (fun _ h => ?_)
    refine m_if h (fun h => ?_) (fun h => ?_)
    · skip
      refine m_A h (fun _ h => ?_)
      exact kk81 _ _ _ f h
    · skip
      refine m_gr (fr1_c_32_9 hG f) h (fun h => ?_)
      refine fr1_X8_pair hG (fun _ _ f1 h => ?_) f h
      refine m_Ld h (fun _ h => ?_)
      refine m_gr (fr1_c_32_9 hG f1) h (fun h => ?_)
      refine fr1_X8_pair hG (fun _ _ f2 h => ?_) f1 h
      refine m_Ld h (fun _ h => ?_)
      refine m_A h (fun _ h => ?_)
      refine m_gr (fr1_c_32_9 hG f2) h (fun h => ?_)
      refine fr1_X8_pair hG (fun _ _ f3 h => ?_) f2 h
      refine m_gr (fr1_c_32_9 hG f3) h (fun h => ?_)
      refine fr1_X8_pair hG (fun _ _ f4 h => ?_) f3 h
      refine m_Ld h (fun _ h => ?_)
      refine m_O h (fun _ h => ?_)
      refine m_St (fr1_up (fr1_a_34 _) f4) h (fun _ f5 h => ?_)
      refine m_A h (fun _ h => ?_)
      exact ih _ _ _ _ f5 h
theorem fr1_X8_measureWays_81 {X G : Mm} {S : Sh} {k71 k71' : Int → Int → Mm → Prop} {K K' : Mm → Prop} (hG : Inv X S G) (kk71 : ∀ (a1 : Int) (m : Mm), fr1_F G m → k71 (32) a1 m → k71' (32) a1 m) (k : ∀ (m : Mm), fr1_F G m → K m → K' m) : ∀ (n : Nat) (u1 : Int) (u2 : Int) (M : Mm), fr1_F G M → wp_X8_measureWays_81 S k71 K n (32) u1 u2 M → wp_X8_measureWays_81 S k71' K' n (32) u1 u2 M := by
  intro n
  induction n with
  | zero => intro u1 u2 M f h; exact h
  | succ n ih =>
    intro u1 u2 M f h
    refine m_Get h (fun _ h => ?_)
    refine m_if h (fun h => ?_) (fun h => ?_)
    · skip
      refine m_A h (fun _ h => ?_)
      exact kk71 _ _ f h
    · skip
      refine m_C h (fun h => ?_)
      refine m_ex h (fun n9 h => ?_)
      refine fr1_X8_measureWays_91 hG kk71 (fun _ _ _ f1 h => ?_) k _ _ _ _ _ f h
      exact ih _ _ _ f1 h
theorem fr1_X8_measureWays_71 {X G : Mm} {S : Sh} {K K' : Mm → Prop} (hG : Inv X S G) (k : ∀ (m : Mm), fr1_F G m → K m → K' m) : ∀ (n : Nat) (u1 : Int) (M : Mm), fr1_F G M → wp_X8_measureWays_71 S K n (32) u1 M → wp_X8_measureWays_71 S K' n (32) u1 M := by
  intro n
  induction n with
  | zero => intro u1 M f h; exact h
  | succ n ih =>
    intro u1 M f h
    refine m_Get h (fun _ h => ?_)
    refine m_if h (fun h => ?_) (fun h => ?_)
    · skip
      exact k _ f h
    · skip
      refine m_C h (fun h => ?_)
      refine m_ex h (fun n9 h => ?_)
      refine fr1_X8_measureWays_81 hG (fun _ _ f1 h => ?_) k _ _ _ _ f h
      exact ih _ _ f1 h
theorem fr1_X8_measureWays_56 {X G : Mm} {S : Sh} {k2 k2' : Int → Int → Mm → Prop} {k12 k12' : Int → Int → Int → Mm → Prop} {K K' : Mm → Prop} {M : Mm} {u1 : Int} {u2 : Int} {t1 : Int} {t2 : Int} (hG : Inv X S G) (kk2 : ∀ (a1 : Int) (m : Mm), fr1_F G m → k2 (32) a1 m → k2' (32) a1 m) (kk12 : ∀ (a1 : Int) (a2 : Int) (m : Mm), fr1_F G m → k12 (32) a1 a2 m → k12' (32) a1 a2 m) (k : ∀ (m : Mm), fr1_F G m → K m → K' m) (f : fr1_F G M) (h : wp_X8_measureWays_56 S k2 k12 K (32) u1 u2 (34) t1 t2 M) : wp_X8_measureWays_56 S k2' k12' K' (32) u1 u2 (34) t1 t2 M := by
  refine m_St (fr1_up (fr1_a_34 _) f) h (fun _ f1 h => ?_)
  refine m_A h (fun _ h => ?_)
  exact kk12 _ _ _ f1 h
theorem fr1_X8_measureWays_12 {X G : Mm} {S : Sh} {k2 k2' : Int → Int → Mm → Prop} {K K' : Mm → Prop} (hG : Inv X S G) (kk2 : ∀ (a1 : Int) (m : Mm), fr1_F G m → k2 (32) a1 m → k2' (32) a1 m) (k : ∀ (m : Mm), fr1_F G m → K m → K' m) : ∀ (n : Nat) (u1 : Int) (u2 : Int) (M : Mm), fr1_F G M → wp_X8_measureWays_12 S k2 K n (32) u1 u2 M → wp_X8_measureWays_12 S k2' K' n (32) u1 u2 M := by
  intro n
  induction n with
  | zero => intro u1 u2 M f h; exact h
  | succ n ih =>
    intro u1 u2 M f h
    refine m_Get h (fun _ h => ?_)
    refine m_if h (fun h => ?_) (fun h => ?_)
    · skip
      refine m_A h (fun _ h => ?_)
      exact kk2 _ _ f h
    · skip
      refine m_and h (fun h => ?_)
      refine fr1_X8_roadHours hG (fun _ _ f1 h => ?_) f h
      refine m_gr (fr1_c_32_9 hG f1) h (fun h => ?_)
      refine fr1_X8_pair hG (fun _ _ f2 h => ?_) f1 h
      refine m_if h (fun h => ?_) (fun h => ?_)
      · skip
        refine m_if h (fun h => ?_) (fun h => ?_)
        · skip
          refine m_C h (fun h => ?_)
          refine fr1_X8_measureWays_56 hG kk2 (fun _ _ _ f3 h => ?_) k f2 h
          exact ih _ _ _ f3 h
        · skip
          refine fr1_X8_measureWays_56 hG kk2 (fun _ _ _ f4 h => ?_) k f2 h
          exact ih _ _ _ f4 h
      · skip
        refine m_C h (fun h => ?_)
        refine fr1_X8_measureWays_56 hG kk2 (fun _ _ _ f5 h => ?_) k f2 h
        exact ih _ _ _ f5 h
theorem fr1_X8_measureWays_2 {X G : Mm} {S : Sh} {K K' : Mm → Prop} (hG : Inv X S G) (k : ∀ (m : Mm), fr1_F G m → K m → K' m) : ∀ (n : Nat) (u1 : Int) (M : Mm), fr1_F G M → wp_X8_measureWays_2 S K n (32) u1 M → wp_X8_measureWays_2 S K' n (32) u1 M := by
  intro n
  induction n with
  | zero => intro u1 M f h; exact h
  | succ n ih =>
    intro u1 M f h
    refine m_Get h (fun _ h => ?_)
    refine m_if h (fun h => ?_) (fun h => ?_)
    · skip
      refine m_C h (fun h => ?_)
      refine m_ex h (fun n9 h => ?_)
      refine fr1_X8_measureWays_71 hG k _ _ _ f h
    · skip
      refine m_C h (fun h => ?_)
      refine m_ex h (fun n9 h => ?_)
      refine fr1_X8_measureWays_12 hG (fun _ _ f1 h => ?_) k _ _ _ _ f h
      exact ih _ _ f1 h
theorem fr1_X8_measureWays {X G : Mm} {S : Sh} {K K' : Mm → Prop} {M : Mm} (hG : Inv X S G) (k : ∀ (m : Mm), fr1_F G m → K m → K' m) (f : fr1_F G M) (h : wp_X8_measureWays S M (32) K) : wp_X8_measureWays S M (32) K' := by
  refine m_C h (fun h => ?_)
  refine m_ex h (fun n9 h => ?_)
  refine fr1_X8_measureWays_2 hG k _ _ _ f h
theorem fr1_X7_takesSign {X G : Mm} {S : Sh} {K K' : Int → Mm → Prop} {M : Mm} {u1 : Int} (hG : Inv X S G) (k : ∀ (a0 : Int) (m : Mm), fr1_F G m → K a0 m → K' a0 m) (f : fr1_F G M) (h : wp_X7_takesSign S M (1) u1 K) : wp_X7_takesSign S M (1) u1 K' := by
  refine m_and h (fun h => ?_)
  refine fr1_X7_look hG (fun _ _ f1 h => ?_) f h
  refine m_if h (fun h => ?_) (fun h => ?_)
  · skip
    refine m_Get h (fun _ h => ?_)
    refine m_C h (fun h => ?_)
    refine m_A h (fun _ h => ?_)
    refine m_Put (fr1_up (by decide) f1) h (fun _ f2 h => ?_)
    refine m_C h (fun h => ?_)
    refine m_and h (fun h => ?_)
    exact k _ _ f2 h
  · skip
    refine m_C h (fun h => ?_)
    refine m_and h (fun h => ?_)
    exact k _ _ f1 h
theorem fr1_X0_read_23 {X G : Mm} {S : Sh} {K K' : Int → Mm → Prop} (hG : Inv X S G) (k : ∀ (a0 : Int) (m : Mm), fr1_F G m → K a0 m → K' a0 m) : ∀ (n : Nat) (u1 : Int) (M : Mm), fr1_F G M → wp_X0_read_23 S K n (31) u1 M → wp_X0_read_23 S K' n (31) u1 M := by
  intro n
  induction n with
  | zero => intro u1 M f h; exact h
  | succ n ih =>
    intro u1 M f h
    refine m_C h (fun h => ?_)
    refine m_if h (fun h => ?_) (fun h => ?_)
    · skip
      refine m_C h (fun h => ?_)
      refine m_and h (fun h => ?_)
      exact k _ _ f h
    · skip
      refine m_and h (fun h => ?_)
      refine fr1_X0_readClause hG (fun _ _ f1 h => ?_) f h
      refine m_if h (fun h => ?_) (fun h => ?_)
      · skip
        refine m_gr (fr1_c_31_0 hG f1) h (fun h => ?_)
        refine m_and h (fun h => ?_)
        refine fr1_X7_isAtEnd hG (fun _ _ f2 h => ?_) f1 h
        refine m_if h (fun h => ?_) (fun h => ?_)
        · skip
          refine m_gr (fr1_c_31_0 hG f2) h (fun h => ?_)
          refine m_C h (fun h => ?_)
          refine m_and h (fun h => ?_)
          refine fr1_X7_takesSign hG (fun _ _ f3 h => ?_) f2 h
          refine m_if h (fun h => ?_) (fun h => ?_)
          · skip
            refine m_A h (fun _ h => ?_)
            exact ih _ _ f3 h
          · skip
            refine m_gr (fr1_c_31_0 hG f3) h (fun h => ?_)
            refine m_C h (fun h => ?_)
            refine m_and h (fun h => ?_)
            refine fr1_X7_refuse hG (fun _ _ f4 h => ?_) f3 h
            refine m_and h (fun h => ?_)
            exact k _ _ f4 h
        · skip
          refine m_gr (fr1_c_31_1 hG f2) h (fun h => ?_)
          refine m_and h (fun h => ?_)
          refine fr1_X8_measureWays hG (fun _ f5 h => ?_) f2 h
          refine m_C h (fun h => ?_)
          refine m_and h (fun h => ?_)
          exact k _ _ f5 h
      · skip
        refine m_C h (fun h => ?_)
        refine m_and h (fun h => ?_)
        exact k _ _ f1 h
theorem fr1_X0_read {X G : Mm} {S : Sh} {K K' : Int → Mm → Prop} {M : Mm} (hG : Inv X S G) (k : ∀ (a0 : Int) (m : Mm), fr1_F G m → K a0 m → K' a0 m) (f : fr1_F G M) (h : wp_X0_read S M (31) K) : wp_X0_read S M (31) K' := by
  refine m_gr (fr1_c_31_1 hG f) h (fun h => ?_)
  refine m_and h (fun h => ?_)
  refine fr1_X8_clear hG (fun _ f1 h => ?_) f h
  refine m_gr (fr1_c_31_2 hG f1) h (fun h => ?_)
  refine m_and h (fun h => ?_)
  refine fr1_X5_clear hG (fun _ f2 h => ?_) f1 h
  refine m_gr (fr1_c_31_0 hG f2) h (fun h => ?_)
  refine m_and h (fun h => ?_)
  refine fr1_X7_rewind hG (fun _ f3 h => ?_) f2 h
  refine m_C h (fun h => ?_)
  refine m_ex h (fun n9 h => ?_)
  refine fr1_X0_read_23 hG k _ _ _ f3 h
theorem fr1_X7_isAtDigit {X G : Mm} {S : Sh} {K K' : Int → Mm → Prop} {M : Mm} (hG : Inv X S G) (k : ∀ (a0 : Int) (m : Mm), fr1_F G m → K a0 m → K' a0 m) (f : fr1_F G M) (h : wp_X7_isAtDigit S M (1) K) : wp_X7_isAtDigit S M (1) K' := by
  refine m_and h (fun h => ?_)
  refine fr1_X7_look hG (fun _ _ f1 h => ?_) f h
  refine fr1_X7_isDigit hG (fun _ _ f2 h => ?_) f1 h
  refine m_and h (fun h => ?_)
  exact k _ _ f2 h
theorem fr1_X10_nameOf {X G : Mm} {S : Sh} {K K' : Int → Mm → Prop} {M : Mm} {u0 : Int} (hG : Inv X S G) (k : ∀ (a0 : Int) (m : Mm), fr1_F G m → K a0 m → K' a0 m) (f : fr1_F G M) (h : wp_X10_nameOf S M u0 K) : wp_X10_nameOf S M u0 K' := by
  refine m_if h (fun h => ?_) (fun h => ?_)
  · skip
    refine m_C h (fun h => ?_)
    exact k _ _ f h
  · skip
    refine m_if h (fun h => ?_) (fun h => ?_)
    · skip
      refine m_C h (fun h => ?_)
      exact k _ _ f h
    · skip
      refine m_if h (fun h => ?_) (fun h => ?_)
      · skip
        refine m_C h (fun h => ?_)
        exact k _ _ f h
      · skip
        refine m_if h (fun h => ?_) (fun h => ?_)
        · skip
          refine m_C h (fun h => ?_)
          exact k _ _ f h
        · skip
          refine m_if h (fun h => ?_) (fun h => ?_)
          · skip
            refine m_C h (fun h => ?_)
            exact k _ _ f h
          · skip
            refine m_if h (fun h => ?_) (fun h => ?_)
            · skip
              refine m_C h (fun h => ?_)
              exact k _ _ f h
            · skip
              refine m_if h (fun h => ?_) (fun h => ?_)
              · skip
                refine m_C h (fun h => ?_)
                exact k _ _ f h
              · skip
                refine m_if h (fun h => ?_) (fun h => ?_)
                · skip
                  refine m_C h (fun h => ?_)
                  exact k _ _ f h
                · skip
                  refine m_if h (fun h => ?_) (fun h => ?_)
                  · skip
                    refine m_C h (fun h => ?_)
                    exact k _ _ f h
                  · skip
                    refine m_C h (fun h => ?_)
                    exact k _ _ f h
theorem fr1_X3_takeValueWord_2 {X G : Mm} {S : Sh} {K K' : Int → Mm → Prop} (hG : Inv X S G) (k : ∀ (a0 : Int) (m : Mm), fr1_F G m → K a0 m → K' a0 m) : ∀ (n : Nat) (u1 : Int) (M : Mm), fr1_F G M → wp_X3_takeValueWord_2 S K n (52) u1 M → wp_X3_takeValueWord_2 S K' n (52) u1 M := by
  intro n
  induction n with
  | zero => intro u1 M f h; exact h
  | succ n ih =>
    intro u1 M f h
    refine m_C h (fun h => ?_)
    refine m_if h (fun h => ?_) (fun h => ?_)
    · skip
      refine m_C h (fun h => ?_)
      exact k _ _ f h
    · skip
      refine m_gr (fr1_c_52_0 hG f) h (fun h => ?_)
      refine fr1_X10_nameOf hG (fun _ _ f1 h => ?_) f h
      refine m_and h (fun h => ?_)
      refine fr1_X7_takesWord hG (fun _ _ f2 h => ?_) f1 h
      refine m_if h (fun h => ?_) (fun h => ?_)
      · skip
        refine m_A h (fun _ h => ?_)
        exact ih _ _ f2 h
      · skip
        refine m_C h (fun h => ?_)
        refine m_S h (fun _ h => ?_)
        exact k _ _ f2 h
theorem fr1_X3_takeValueWord {X G : Mm} {S : Sh} {K K' : Int → Mm → Prop} {M : Mm} (hG : Inv X S G) (k : ∀ (a0 : Int) (m : Mm), fr1_F G m → K a0 m → K' a0 m) (f : fr1_F G M) (h : wp_X3_takeValueWord S M (52) K) : wp_X3_takeValueWord S M (52) K' := by
  refine m_C h (fun h => ?_)
  refine m_ex h (fun n9 h => ?_)
  refine fr1_X3_takeValueWord_2 hG k _ _ _ f h
theorem fr1_X3_write {X G : Mm} {S : Sh} {K K' : Mm → Prop} {M : Mm} {u1 : Int} (hG : Inv X S G) (k : ∀ (m : Mm), fr1_F G m → K m → K' m) (f : fr1_F G M) (h : wp_X3_write S M (52) u1 K) : wp_X3_write S M (52) u1 K' := by
  refine m_Get h (fun _ h => ?_)
  refine m_C h (fun h => ?_)
  refine m_if h (fun h => ?_) (fun h => ?_)
  · skip
    exact k _ f h
  · skip
    refine m_gr (fr1_c_52_1 hG f) h (fun h => ?_)
    refine m_Get h (fun _ h => ?_)
    refine m_St (fr1_up (fr1_a_53 _) f) h (fun _ f1 h => ?_)
    refine m_Get h (fun _ h => ?_)
    refine m_C h (fun h => ?_)
    refine m_A h (fun _ h => ?_)
    refine m_Put (fr1_up (by decide) f1) h (fun _ f2 h => ?_)
    exact k _ f2 h
theorem fr1_X3_readValue_27 {X G : Mm} {S : Sh} {K K' : Int → Mm → Prop} {M : Mm} {t0 : Int} (hG : Inv X S G) (k : ∀ (a0 : Int) (m : Mm), fr1_F G m → K a0 m → K' a0 m) (f : fr1_F G M) (h : wp_X3_readValue_27 S K (52) t0 M) : wp_X3_readValue_27 S K' (52) t0 M := by
  refine m_C h (fun h => ?_)
  refine m_if h (fun h => ?_) (fun h => ?_)
  · skip
    refine m_Get h (fun _ h => ?_)
    refine m_C h (fun h => ?_)
    refine m_if h (fun h => ?_) (fun h => ?_)
    · skip
      refine m_Get h (fun _ h => ?_)
      refine m_C h (fun h => ?_)
      refine m_A h (fun _ h => ?_)
      refine m_Put (fr1_up (by decide) f) h (fun _ f1 h => ?_)
      refine m_and h (fun h => ?_)
      refine fr1_X3_write hG (fun _ f2 h => ?_) f1 h
      refine m_C h (fun h => ?_)
      refine m_and h (fun h => ?_)
      exact k _ _ f2 h
    · skip
      refine m_gr (fr1_c_52_0 hG f) h (fun h => ?_)
      refine m_C h (fun h => ?_)
      refine m_and h (fun h => ?_)
      refine fr1_X7_refuse hG (fun _ _ f3 h => ?_) f h
      refine m_and h (fun h => ?_)
      exact k _ _ f3 h
  · skip
    refine m_gr (fr1_c_52_0 hG f) h (fun h => ?_)
    refine m_C h (fun h => ?_)
    refine m_and h (fun h => ?_)
    refine fr1_X7_refuse hG (fun _ _ f4 h => ?_) f h
    refine m_and h (fun h => ?_)
    exact k _ _ f4 h
theorem fr1_X3_readValue {X G : Mm} {S : Sh} {K K' : Int → Mm → Prop} {M : Mm} (hG : Inv X S G) (k : ∀ (a0 : Int) (m : Mm), fr1_F G m → K a0 m → K' a0 m) (f : fr1_F G M) (h : wp_X3_readValue S M (52) K) : wp_X3_readValue S M (52) K' := by
  refine m_gr (fr1_c_52_0 hG f) h (fun h => ?_)
  refine m_and h (fun h => ?_)
  refine fr1_X7_isAtDigit hG (fun _ _ f1 h => ?_) f h
  refine m_if h (fun h => ?_) (fun h => ?_)
  · skip
    refine m_and h (fun h => ?_)
    refine fr1_X3_takeValueWord hG (fun _ _ f2 h => ?_) f1 h
    refine fr1_X3_readValue_27 hG k f2 h
  · skip
    refine m_gr (fr1_c_52_0 hG f1) h (fun h => ?_)
    refine m_C h (fun h => ?_)
    refine m_C h (fun h => ?_)
    refine m_and h (fun h => ?_)
    refine fr1_X7_takeNumber hG (fun _ _ f3 h => ?_) f1 h
    refine fr1_X3_readValue_27 hG k f3 h
theorem fr1_X3_isFactWhole_16 {X G : Mm} {S : Sh} {K K' : Int → Mm → Prop} {M : Mm} (hG : Inv X S G) (k : ∀ (a0 : Int) (m : Mm), fr1_F G m → K a0 m → K' a0 m) (f : fr1_F G M) (h : wp_X3_isFactWhole_16 S K M) : wp_X3_isFactWhole_16 S K' M := by
  refine m_C h (fun h => ?_)
  refine m_and h (fun h => ?_)
  exact k _ _ f h
theorem fr1_X3_isFactWhole {X G : Mm} {S : Sh} {K K' : Int → Mm → Prop} {M : Mm} (hG : Inv X S G) (k : ∀ (a0 : Int) (m : Mm), fr1_F G m → K a0 m → K' a0 m) (f : fr1_F G M) (h : wp_X3_isFactWhole S M (52) K) : wp_X3_isFactWhole S M (52) K' := by
  refine m_Get h (fun _ h => ?_)
  refine m_C h (fun h => ?_)
  refine m_if h (fun h => ?_) (fun h => ?_)
  · skip
    refine fr1_X3_isFactWhole_16 hG k f h
  · skip
    refine m_Get h (fun _ h => ?_)
    refine m_C h (fun h => ?_)
    refine m_if h (fun h => ?_) (fun h => ?_)
    · skip
      refine m_C h (fun h => ?_)
      refine m_and h (fun h => ?_)
      exact k _ _ f h
    · skip
      refine fr1_X3_isFactWhole_16 hG k f h
theorem fr1_X3_bindingOf {X G : Mm} {S : Sh} {K K' : Int → Mm → Prop} {M : Mm} {u0 : Int} (hG : Inv X S G) (k : ∀ (a0 : Int) (m : Mm), fr1_F G m → K a0 m → K' a0 m) (f : fr1_F G M) (h : wp_X3_bindingOf S M u0 K) : wp_X3_bindingOf S M u0 K' := by
  refine m_if h (fun h => ?_) (fun h => ?_)
  · skip
    refine m_C h (fun h => ?_)
    exact k _ _ f h
  · skip
    refine m_if h (fun h => ?_) (fun h => ?_)
    · skip
      refine m_C h (fun h => ?_)
      exact k _ _ f h
    · skip
      refine m_if h (fun h => ?_) (fun h => ?_)
      · skip
        refine m_C h (fun h => ?_)
        exact k _ _ f h
      · skip
        refine m_if h (fun h => ?_) (fun h => ?_)
        · skip
          refine m_C h (fun h => ?_)
          exact k _ _ f h
        · skip
          refine m_if h (fun h => ?_) (fun h => ?_)
          · skip
            refine m_C h (fun h => ?_)
            exact k _ _ f h
          · skip
            refine m_if h (fun h => ?_) (fun h => ?_)
            · skip
              refine m_C h (fun h => ?_)
              exact k _ _ f h
            · skip
              refine m_if h (fun h => ?_) (fun h => ?_)
              · skip
                refine m_C h (fun h => ?_)
                exact k _ _ f h
              · skip
                refine m_if h (fun h => ?_) (fun h => ?_)
                · skip
                  refine m_C h (fun h => ?_)
                  exact k _ _ f h
                · skip
                  refine m_if h (fun h => ?_) (fun h => ?_)
                  · skip
                    refine m_C h (fun h => ?_)
                    exact k _ _ f h
                  · skip
                    refine m_if h (fun h => ?_) (fun h => ?_)
                    · skip
                      refine m_C h (fun h => ?_)
                      exact k _ _ f h
                    · skip
                      refine m_if h (fun h => ?_) (fun h => ?_)
                      · skip
                        refine m_C h (fun h => ?_)
                        exact k _ _ f h
                      · skip
                        refine m_if h (fun h => ?_) (fun h => ?_)
                        · skip
                          refine m_C h (fun h => ?_)
                          exact k _ _ f h
                        · skip
                          refine m_if h (fun h => ?_) (fun h => ?_)
                          · skip
                            refine m_C h (fun h => ?_)
                            exact k _ _ f h
                          · skip
                            refine m_C h (fun h => ?_)
                            exact k _ _ f h
theorem fr1_X3_dropTop_45 {X G : Mm} {S : Sh} {K K' : Mm → Prop} {M : Mm} (hG : Inv X S G) (k : ∀ (m : Mm), fr1_F G m → K m → K' m) (f : fr1_F G M) (h : wp_X3_dropTop_45 S K (52) M) : wp_X3_dropTop_45 S K' (52) M := by
  refine m_Get h (fun _ h => ?_)
  refine m_C h (fun h => ?_)
  refine m_S h (fun _ h => ?_)
  refine m_Put (fr1_up (by decide) f) h (fun _ f1 h => ?_)
  exact k _ f1 h
theorem fr1_X3_dropTop {X G : Mm} {S : Sh} {K K' : Mm → Prop} {M : Mm} (hG : Inv X S G) (k : ∀ (m : Mm), fr1_F G m → K m → K' m) (f : fr1_F G M) (h : wp_X3_dropTop S M (52) K) : wp_X3_dropTop S M (52) K' := by
  refine m_Get h (fun _ h => ?_)
  refine m_if h (fun h => ?_) (fun h => ?_)
  · skip
    exact k _ f h
  · skip
    refine m_Get h (fun _ h => ?_)
    refine m_C h (fun h => ?_)
    refine m_S h (fun _ h => ?_)
    refine m_Put (fr1_up (by decide) f) h (fun _ f1 h => ?_)
    refine m_gr (fr1_c_52_4 hG f1) h (fun h => ?_)
    refine m_Get h (fun _ h => ?_)
    refine m_Ld h (fun _ h => ?_)
    refine m_C h (fun h => ?_)
    refine m_if h (fun h => ?_) (fun h => ?_)
    · skip
      refine fr1_X3_dropTop_45 hG k f1 h
    · skip
      refine m_gr (fr1_c_52_4 hG f1) h (fun h => ?_)
      refine m_Get h (fun _ h => ?_)
      refine m_Ld h (fun _ h => ?_)
      refine m_C h (fun h => ?_)
      refine m_if h (fun h => ?_) (fun h => ?_)
      · skip
        exact k _ f1 h
      · skip
        refine fr1_X3_dropTop_45 hG k f1 h
theorem fr1_X3_unpile_7 {X G : Mm} {S : Sh} {K K' : Mm → Prop} (hG : Inv X S G) (k : ∀ (m : Mm), fr1_F G m → K m → K' m) : ∀ (n : Nat) (u1 : Int) (u2 : Int) (M : Mm), fr1_F G M → wp_X3_unpile_7 S K n (52) u1 u2 M → wp_X3_unpile_7 S K' n (52) u1 u2 M := by
  intro n
  induction n with
  | zero => intro u1 u2 M f h; exact h
  | succ n ih =>
    intro u1 u2 M f h
    refine m_if h (fun h => ?_) (fun h => ?_)
    · skip
      exact k _ f h
    · skip
      refine m_gr (fr1_c_52_4 hG f) h (fun h => ?_)
      refine m_Ld h (fun _ h => ?_)
      refine m_C h (fun h => ?_)
      refine m_if h (fun h => ?_) (fun h => ?_)
      · skip
        exact k _ f h
      · skip
        refine m_gr (fr1_c_52_4 hG f) h (fun h => ?_)
        refine m_Ld h (fun _ h => ?_)
        refine fr1_X3_bindingOf hG (fun _ _ f1 h => ?_) f h
        refine m_if h (fun h => ?_) (fun h => ?_)
        · skip
          refine m_gr (fr1_c_52_4 hG f1) h (fun h => ?_)
          refine m_Ld h (fun _ h => ?_)
          refine m_and h (fun h => ?_)
          refine fr1_X3_write hG (fun _ f2 h => ?_) f1 h
          refine m_and h (fun h => ?_)
          refine fr1_X3_dropTop hG (fun _ f3 h => ?_) f2 h
          refine m_A h (fun _ h => ?_)
          exact ih _ _ _ f3 h
        · skip
          exact k _ f1 h
theorem fr1_X3_unpile {X G : Mm} {S : Sh} {K K' : Mm → Prop} {M : Mm} {u1 : Int} (hG : Inv X S G) (k : ∀ (m : Mm), fr1_F G m → K m → K' m) (f : fr1_F G M) (h : wp_X3_unpile S M (52) u1 K) : wp_X3_unpile S M (52) u1 K' := by
  refine m_Get h (fun _ h => ?_)
  refine m_C h (fun h => ?_)
  refine m_S h (fun _ h => ?_)
  refine m_ex h (fun n9 h => ?_)
  refine fr1_X3_unpile_7 hG k _ _ _ _ f h
theorem fr1_X3_closeBrackets_0 {X G : Mm} {S : Sh} {K K' : Mm → Prop} (hG : Inv X S G) (k : ∀ (m : Mm), fr1_F G m → K m → K' m) : ∀ (n : Nat) (M : Mm), fr1_F G M → wp_X3_closeBrackets_0 S K n (52) M → wp_X3_closeBrackets_0 S K' n (52) M := by
  intro n
  induction n with
  | zero => intro M f h; exact h
  | succ n ih =>
    intro M f h
    refine m_Get h (fun _ h => ?_)
    refine m_if h (fun h => ?_) (fun h => ?_)
    · skip
      exact k _ f h
    · skip
      refine m_and h (fun h => ?_)
      refine fr1_X3_isFactWhole hG (fun _ _ f1 h => ?_) f h
      refine m_if h (fun h => ?_) (fun h => ?_)
      · skip
        exact k _ f1 h
      · skip
        refine m_gr (fr1_c_52_0 hG f1) h (fun h => ?_)
        refine m_C h (fun h => ?_)
        refine m_and h (fun h => ?_)
        refine fr1_X7_takesSign hG (fun _ _ f2 h => ?_) f1 h
        refine m_if h (fun h => ?_) (fun h => ?_)
        · skip
          exact k _ f2 h
        · skip
          refine m_C h (fun h => ?_)
          refine m_and h (fun h => ?_)
          refine fr1_X3_unpile hG (fun _ f3 h => ?_) f2 h
          refine m_and h (fun h => ?_)
          refine fr1_X3_dropTop hG (fun _ f4 h => ?_) f3 h
          refine m_Get h (fun _ h => ?_)
          refine m_C h (fun h => ?_)
          refine m_S h (fun _ h => ?_)
          refine m_Put (fr1_up (by decide) f4) h (fun _ f5 h => ?_)
          refine m_C h (fun h => ?_)
          refine m_Put (fr1_up (by decide) f5) h (fun _ f6 h => ?_)
          exact ih _ f6 h
theorem fr1_X3_closeBrackets {X G : Mm} {S : Sh} {K K' : Mm → Prop} {M : Mm} (hG : Inv X S G) (k : ∀ (m : Mm), fr1_F G m → K m → K' m) (f : fr1_F G M) (h : wp_X3_closeBrackets S M (52) K) : wp_X3_closeBrackets S M (52) K' := by
  refine m_ex h (fun n9 h => ?_)
  refine fr1_X3_closeBrackets_0 hG k _ _ f h
theorem fr1_X3_endsHere_53 {X G : Mm} {S : Sh} {K K' : Int → Mm → Prop} {M : Mm} (hG : Inv X S G) (k : ∀ (a0 : Int) (m : Mm), fr1_F G m → K a0 m → K' a0 m) (f : fr1_F G M) (h : wp_X3_endsHere_53 S K M) : wp_X3_endsHere_53 S K' M := by
  refine m_C h (fun h => ?_)
  refine m_and h (fun h => ?_)
  exact k _ _ f h
theorem fr1_X3_endsHere_26 {X G : Mm} {S : Sh} {K K' : Int → Mm → Prop} {M : Mm} {t0 : Int} (hG : Inv X S G) (k : ∀ (a0 : Int) (m : Mm), fr1_F G m → K a0 m → K' a0 m) (f : fr1_F G M) (h : wp_X3_endsHere_26 S K (52) t0 M) : wp_X3_endsHere_26 S K' (52) t0 M := by
  refine m_if h (fun h => ?_) (fun h => ?_)
  · skip
    refine m_C h (fun h => ?_)
    refine m_and h (fun h => ?_)
    exact k _ _ f h
  · skip
    refine m_gr (fr1_c_52_0 hG f) h (fun h => ?_)
    refine m_and h (fun h => ?_)
    refine fr1_X7_isAtEnd hG (fun _ _ f1 h => ?_) f h
    refine m_if h (fun h => ?_) (fun h => ?_)
    · skip
      refine fr1_X3_endsHere_53 hG k f1 h
    · skip
      refine m_gr (fr1_c_52_0 hG f1) h (fun h => ?_)
      refine m_and h (fun h => ?_)
      refine fr1_X7_look hG (fun _ _ f2 h => ?_) f1 h
      refine m_C h (fun h => ?_)
      refine m_if h (fun h => ?_) (fun h => ?_)
      · skip
        refine m_C h (fun h => ?_)
        refine m_and h (fun h => ?_)
        exact k _ _ f2 h
      · skip
        refine fr1_X3_endsHere_53 hG k f2 h
end
section
theorem fr1_X3_endsHere_21 {X G : Mm} {S : Sh} {K K' : Int → Mm → Prop} {M : Mm} (hG : Inv X S G) (k : ∀ (a0 : Int) (m : Mm), fr1_F G m → K a0 m → K' a0 m) (f : fr1_F G M) (h : wp_X3_endsHere_21 S K (52) M) : wp_X3_endsHere_21 S K' (52) M := by
  refine m_C h (fun h => ?_)
  refine fr1_X3_endsHere_26 hG k f h
theorem fr1_X3_endsHere_25 {X G : Mm} {S : Sh} {K K' : Int → Mm → Prop} {M : Mm} (hG : Inv X S G) (k : ∀ (a0 : Int) (m : Mm), fr1_F G m → K a0 m → K' a0 m) (f : fr1_F G M) (h : wp_X3_endsHere_25 S K (52) M) : wp_X3_endsHere_25 S K' (52) M := by
  refine m_C h (fun h => ?_)
  refine fr1_X3_endsHere_26 hG k f h
theorem fr1_X3_endsHere {X G : Mm} {S : Sh} {K K' : Int → Mm → Prop} {M : Mm} (hG : Inv X S G) (k : ∀ (a0 : Int) (m : Mm), fr1_F G m → K a0 m → K' a0 m) (f : fr1_F G M) (h : wp_X3_endsHere S M (52) K) : wp_X3_endsHere S M (52) K' := by
  refine m_Get h (fun _ h => ?_)
  refine m_if h (fun h => ?_) (fun h => ?_)
  · skip
    refine fr1_X3_endsHere_21 hG k f h
  · skip
    refine m_Get h (fun _ h => ?_)
    refine m_if h (fun h => ?_) (fun h => ?_)
    · skip
      refine fr1_X3_endsHere_25 hG k f h
    · skip
      refine m_and h (fun h => ?_)
      refine fr1_X3_isFactWhole hG (fun _ _ f1 h => ?_) f h
      refine m_if h (fun h => ?_) (fun h => ?_)
      · skip
        refine fr1_X3_endsHere_25 hG k f1 h
      · skip
        refine fr1_X3_endsHere_21 hG k f1 h
theorem fr1_X3_takeArithmetic {X G : Mm} {S : Sh} {K K' : Int → Mm → Prop} {M : Mm} (hG : Inv X S G) (k : ∀ (a0 : Int) (m : Mm), fr1_F G m → K a0 m → K' a0 m) (f : fr1_F G M) (h : wp_X3_takeArithmetic S M (52) K) : wp_X3_takeArithmetic S M (52) K' := by
  refine m_gr (fr1_c_52_0 hG f) h (fun h => ?_)
  refine m_C h (fun h => ?_)
  refine m_and h (fun h => ?_)
  refine fr1_X7_takesSign hG (fun _ _ f1 h => ?_) f h
  refine m_if h (fun h => ?_) (fun h => ?_)
  · skip
    refine m_gr (fr1_c_52_0 hG f1) h (fun h => ?_)
    refine m_C h (fun h => ?_)
    refine m_and h (fun h => ?_)
    refine fr1_X7_takesSign hG (fun _ _ f2 h => ?_) f1 h
    refine m_if h (fun h => ?_) (fun h => ?_)
    · skip
      refine m_gr (fr1_c_52_0 hG f2) h (fun h => ?_)
      refine m_C h (fun h => ?_)
      refine m_and h (fun h => ?_)
      refine fr1_X7_takesSign hG (fun _ _ f3 h => ?_) f2 h
      refine m_if h (fun h => ?_) (fun h => ?_)
      · skip
        refine m_gr (fr1_c_52_0 hG f3) h (fun h => ?_)
        refine m_C h (fun h => ?_)
        refine m_and h (fun h => ?_)
        refine fr1_X7_takesSign hG (fun _ _ f4 h => ?_) f3 h
        refine m_if h (fun h => ?_) (fun h => ?_)
        · skip
          refine m_gr (fr1_c_52_0 hG f4) h (fun h => ?_)
          refine m_C h (fun h => ?_)
          refine m_and h (fun h => ?_)
          refine fr1_X7_takesSign hG (fun _ _ f5 h => ?_) f4 h
          refine m_if h (fun h => ?_) (fun h => ?_)
          · skip
            refine m_C h (fun h => ?_)
            exact k _ _ f5 h
          · skip
            refine m_C h (fun h => ?_)
            exact k _ _ f5 h
        · skip
          refine m_C h (fun h => ?_)
          exact k _ _ f4 h
      · skip
        refine m_C h (fun h => ?_)
        exact k _ _ f3 h
    · skip
      refine m_C h (fun h => ?_)
      exact k _ _ f2 h
  · skip
    refine m_C h (fun h => ?_)
    exact k _ _ f1 h
theorem fr1_X3_push {X G : Mm} {S : Sh} {K K' : Mm → Prop} {M : Mm} {u1 : Int} (hG : Inv X S G) (k : ∀ (m : Mm), fr1_F G m → K m → K' m) (f : fr1_F G M) (h : wp_X3_push S M (52) u1 K) : wp_X3_push S M (52) u1 K' := by
  refine m_Get h (fun _ h => ?_)
  refine m_C h (fun h => ?_)
  refine m_if h (fun h => ?_) (fun h => ?_)
  · skip
    exact k _ f h
  · skip
    refine m_gr (fr1_c_52_4 hG f) h (fun h => ?_)
    refine m_Get h (fun _ h => ?_)
    refine m_St (fr1_up (fr1_a_54 _) f) h (fun _ f1 h => ?_)
    refine m_Get h (fun _ h => ?_)
    refine m_C h (fun h => ?_)
    refine m_A h (fun _ h => ?_)
    refine m_Put (fr1_up (by decide) f1) h (fun _ f2 h => ?_)
    exact k _ f2 h
theorem fr1_X3_pileUp {X G : Mm} {S : Sh} {K K' : Mm → Prop} {M : Mm} {u1 : Int} (hG : Inv X S G) (k : ∀ (m : Mm), fr1_F G m → K m → K' m) (f : fr1_F G M) (h : wp_X3_pileUp S M (52) u1 K) : wp_X3_pileUp S M (52) u1 K' := by
  refine fr1_X3_bindingOf hG (fun _ _ f1 h => ?_) f h
  refine m_and h (fun h => ?_)
  refine fr1_X3_unpile hG (fun _ f2 h => ?_) f1 h
  refine m_and h (fun h => ?_)
  refine fr1_X3_push hG (fun _ f3 h => ?_) f2 h
  exact k _ f3 h
theorem fr1_X3_beginFact_99 {X G : Mm} {S : Sh} {k7 k7' : Int → Int → Mm → Prop} {K K' : Int → Mm → Prop} {M : Mm} {u1 : Int} {t1 : Int} (hG : Inv X S G) (kk7 : ∀ (a1 : Int) (m : Mm), fr1_F G m → k7 (52) a1 m → k7' (52) a1 m) (k : ∀ (a0 : Int) (m : Mm), fr1_F G m → K a0 m → K' a0 m) (f : fr1_F G M) (h : wp_X3_beginFact_99 S k7 K (52) u1 (52) t1 M) : wp_X3_beginFact_99 S k7' K' (52) u1 (52) t1 M := by
  refine m_and h (fun h => ?_)
  refine fr1_X3_push hG (fun _ f1 h => ?_) f h
  refine m_A h (fun _ h => ?_)
  exact kk7 _ _ f1 h
theorem fr1_X3_beginFact_83 {X G : Mm} {S : Sh} {k7 k7' : Int → Int → Mm → Prop} {K K' : Int → Mm → Prop} {M : Mm} {u1 : Int} {u2 : Int} {t1 : Int} {t2 : Int} (hG : Inv X S G) (kk7 : ∀ (a1 : Int) (m : Mm), fr1_F G m → k7 (52) a1 m → k7' (52) a1 m) (k : ∀ (a0 : Int) (m : Mm), fr1_F G m → K a0 m → K' a0 m) (f : fr1_F G M) (h : wp_X3_beginFact_83 S k7 K (52) u1 u2 (52) t1 t2 M) : wp_X3_beginFact_83 S k7' K' (52) u1 u2 (52) t1 t2 M := by
  refine m_A h (fun _ h => ?_)
  refine m_Put (fr1_up (by decide) f) h (fun _ f1 h => ?_)
  refine m_if h (fun h => ?_) (fun h => ?_)
  · skip
    refine m_C h (fun h => ?_)
    refine fr1_X3_beginFact_99 hG kk7 k f1 h
  · skip
    refine m_C h (fun h => ?_)
    refine fr1_X3_beginFact_99 hG kk7 k f1 h
theorem fr1_X3_beginFact_41 {X G : Mm} {S : Sh} {k7 k7' : Int → Int → Mm → Prop} {K K' : Int → Mm → Prop} {M : Mm} {u1 : Int} {u2 : Int} (hG : Inv X S G) (kk7 : ∀ (a1 : Int) (m : Mm), fr1_F G m → k7 (52) a1 m → k7' (52) a1 m) (k : ∀ (a0 : Int) (m : Mm), fr1_F G m → K a0 m → K' a0 m) (f : fr1_F G M) (h : wp_X3_beginFact_41 S k7 K (52) u1 u2 M) : wp_X3_beginFact_41 S k7' K' (52) u1 u2 M := by
  refine m_Get h (fun _ h => ?_)
  refine m_C h (fun h => ?_)
  refine m_if h (fun h => ?_) (fun h => ?_)
  · skip
    refine m_Get h (fun _ h => ?_)
    refine m_C h (fun h => ?_)
    refine m_A h (fun _ h => ?_)
    refine m_Put (fr1_up (by decide) f) h (fun _ f1 h => ?_)
    refine m_Get h (fun _ h => ?_)
    refine m_if h (fun h => ?_) (fun h => ?_)
    · skip
      refine m_C h (fun h => ?_)
      refine fr1_X3_beginFact_83 hG kk7 k f1 h
    · skip
      refine m_C h (fun h => ?_)
      refine fr1_X3_beginFact_83 hG kk7 k f1 h
  · skip
    refine m_gr (fr1_c_52_0 hG f) h (fun h => ?_)
    refine m_C h (fun h => ?_)
    refine m_and h (fun h => ?_)
    refine fr1_X7_refuse hG (fun _ _ f2 h => ?_) f h
    refine m_and h (fun h => ?_)
    exact k _ _ f2 h
theorem fr1_X3_beginFact_7 {X G : Mm} {S : Sh} {K K' : Int → Mm → Prop} (hG : Inv X S G) (k : ∀ (a0 : Int) (m : Mm), fr1_F G m → K a0 m → K' a0 m) : ∀ (n : Nat) (u1 : Int) (M : Mm), fr1_F G M → wp_X3_beginFact_7 S K n (52) u1 M → wp_X3_beginFact_7 S K' n (52) u1 M := by
  intro n
  induction n with
  | zero => intro u1 M f h; exact h
  | succ n ih =>
    intro u1 M f h
    refine m_C h (fun h => ?_)
    refine m_if h (fun h => ?_) (fun h => ?_)
    · skip
      refine m_C h (fun h => ?_)
      refine m_and h (fun h => ?_)
      exact k _ _ f h
    · skip
      refine m_gr (fr1_c_52_0 hG f) h (fun h => ?_)
      refine m_C h (fun h => ?_)
      refine m_and h (fun h => ?_)
      refine fr1_X7_takesSign hG (fun _ _ f1 h => ?_) f h
      refine m_if h (fun h => ?_) (fun h => ?_)
      · skip
        refine fr1_X3_beginFact_41 hG (fun _ _ f2 h => ?_) k f1 h
        exact ih _ _ f2 h
      · skip
        refine m_gr (fr1_c_52_0 hG f1) h (fun h => ?_)
        refine m_C h (fun h => ?_)
        refine m_and h (fun h => ?_)
        refine fr1_X7_takesWord hG (fun _ _ f3 h => ?_) f1 h
        refine m_if h (fun h => ?_) (fun h => ?_)
        · skip
          refine fr1_X3_beginFact_41 hG (fun _ _ f4 h => ?_) k f3 h
          exact ih _ _ f4 h
        · skip
          refine m_C h (fun h => ?_)
          refine m_and h (fun h => ?_)
          exact k _ _ f3 h
theorem fr1_X3_beginFact {X G : Mm} {S : Sh} {K K' : Int → Mm → Prop} {M : Mm} (hG : Inv X S G) (k : ∀ (a0 : Int) (m : Mm), fr1_F G m → K a0 m → K' a0 m) (f : fr1_F G M) (h : wp_X3_beginFact S M (52) K) : wp_X3_beginFact S M (52) K' := by
  refine m_C h (fun h => ?_)
  refine m_Put (fr1_up (by decide) f) h (fun _ f1 h => ?_)
  refine m_C h (fun h => ?_)
  refine m_ex h (fun n9 h => ?_)
  refine fr1_X3_beginFact_7 hG k _ _ _ f1 h
theorem fr1_X3_readIf {X G : Mm} {S : Sh} {K K' : Int → Mm → Prop} {M : Mm} (hG : Inv X S G) (k : ∀ (a0 : Int) (m : Mm), fr1_F G m → K a0 m → K' a0 m) (f : fr1_F G M) (h : wp_X3_readIf S M (52) K) : wp_X3_readIf S M (52) K' := by
  refine m_gr (fr1_c_52_0 hG f) h (fun h => ?_)
  refine m_C h (fun h => ?_)
  refine m_and h (fun h => ?_)
  refine fr1_X7_takesWord hG (fun _ _ f1 h => ?_) f h
  refine m_if h (fun h => ?_) (fun h => ?_)
  · skip
    refine m_C h (fun h => ?_)
    refine m_and h (fun h => ?_)
    refine fr1_X3_unpile hG (fun _ f2 h => ?_) f1 h
    refine m_and h (fun h => ?_)
    refine fr1_X3_beginFact hG (fun _ _ f3 h => ?_) f2 h
    refine m_and h (fun h => ?_)
    exact k _ _ f3 h
  · skip
    refine m_gr (fr1_c_52_0 hG f1) h (fun h => ?_)
    refine m_C h (fun h => ?_)
    refine m_and h (fun h => ?_)
    refine fr1_X7_refuse hG (fun _ _ f4 h => ?_) f1 h
    refine m_and h (fun h => ?_)
    exact k _ _ f4 h
theorem fr1_X7_continuesWith {X G : Mm} {S : Sh} {K K' : Int → Mm → Prop} {M : Mm} (hG : Inv X S G) (k : ∀ (a0 : Int) (m : Mm), fr1_F G m → K a0 m → K' a0 m) (f : fr1_F G M) (h : wp_X7_continuesWith S M (1) (61) K) : wp_X7_continuesWith S M (1) (61) K' := by
  refine m_Get h (fun _ h => ?_)
  refine m_and h (fun h => ?_)
  refine fr1_X7_byteAt hG (fun _ _ f1 h => ?_) f h
  refine m_if h (fun h => ?_) (fun h => ?_)
  · skip
    refine m_Get h (fun _ h => ?_)
    refine m_C h (fun h => ?_)
    refine m_A h (fun _ h => ?_)
    refine m_Put (fr1_up (by decide) f1) h (fun _ f2 h => ?_)
    refine m_C h (fun h => ?_)
    refine m_and h (fun h => ?_)
    exact k _ _ f2 h
  · skip
    refine m_C h (fun h => ?_)
    refine m_and h (fun h => ?_)
    exact k _ _ f1 h
theorem fr1_X3_takeComparison {X G : Mm} {S : Sh} {K K' : Int → Mm → Prop} {M : Mm} (hG : Inv X S G) (k : ∀ (a0 : Int) (m : Mm), fr1_F G m → K a0 m → K' a0 m) (f : fr1_F G M) (h : wp_X3_takeComparison S M (52) K) : wp_X3_takeComparison S M (52) K' := by
  refine m_gr (fr1_c_52_0 hG f) h (fun h => ?_)
  refine m_C h (fun h => ?_)
  refine m_and h (fun h => ?_)
  refine fr1_X7_takesSign hG (fun _ _ f1 h => ?_) f h
  refine m_if h (fun h => ?_) (fun h => ?_)
  · skip
    refine m_gr (fr1_c_52_0 hG f1) h (fun h => ?_)
    refine m_C h (fun h => ?_)
    refine m_and h (fun h => ?_)
    refine fr1_X7_takesSign hG (fun _ _ f2 h => ?_) f1 h
    refine m_if h (fun h => ?_) (fun h => ?_)
    · skip
      refine m_gr (fr1_c_52_0 hG f2) h (fun h => ?_)
      refine m_C h (fun h => ?_)
      refine m_and h (fun h => ?_)
      refine fr1_X7_takesSign hG (fun _ _ f3 h => ?_) f2 h
      refine m_if h (fun h => ?_) (fun h => ?_)
      · skip
        refine m_C h (fun h => ?_)
        exact k _ _ f3 h
      · skip
        refine m_gr (fr1_c_52_0 hG f3) h (fun h => ?_)
        refine m_C h (fun h => ?_)
        refine m_and h (fun h => ?_)
        refine fr1_X7_continuesWith hG (fun _ _ f4 h => ?_) f3 h
        refine m_if h (fun h => ?_) (fun h => ?_)
        · skip
          refine m_C h (fun h => ?_)
          exact k _ _ f4 h
        · skip
          refine m_C h (fun h => ?_)
          exact k _ _ f4 h
    · skip
      refine m_gr (fr1_c_52_0 hG f2) h (fun h => ?_)
      refine m_C h (fun h => ?_)
      refine m_and h (fun h => ?_)
      refine fr1_X7_continuesWith hG (fun _ _ f5 h => ?_) f2 h
      refine m_if h (fun h => ?_) (fun h => ?_)
      · skip
        refine m_C h (fun h => ?_)
        exact k _ _ f5 h
      · skip
        refine m_C h (fun h => ?_)
        exact k _ _ f5 h
  · skip
    refine m_C h (fun h => ?_)
    exact k _ _ f1 h
theorem fr1_X3_readComparison {X G : Mm} {S : Sh} {K K' : Int → Mm → Prop} {M : Mm} (hG : Inv X S G) (k : ∀ (a0 : Int) (m : Mm), fr1_F G m → K a0 m → K' a0 m) (f : fr1_F G M) (h : wp_X3_readComparison S M (52) K) : wp_X3_readComparison S M (52) K' := by
  refine m_and h (fun h => ?_)
  refine fr1_X3_takeComparison hG (fun _ _ f1 h => ?_) f h
  refine m_if h (fun h => ?_) (fun h => ?_)
  · skip
    refine m_Get h (fun _ h => ?_)
    refine m_C h (fun h => ?_)
    refine m_if h (fun h => ?_) (fun h => ?_)
    · skip
      refine m_Get h (fun _ h => ?_)
      refine m_C h (fun h => ?_)
      refine m_A h (fun _ h => ?_)
      refine m_Put (fr1_up (by decide) f1) h (fun _ f2 h => ?_)
      refine m_and h (fun h => ?_)
      refine fr1_X3_pileUp hG (fun _ f3 h => ?_) f2 h
      refine m_C h (fun h => ?_)
      refine m_Put (fr1_up (by decide) f3) h (fun _ f4 h => ?_)
      refine m_C h (fun h => ?_)
      refine m_and h (fun h => ?_)
      exact k _ _ f4 h
    · skip
      refine m_gr (fr1_c_52_0 hG f1) h (fun h => ?_)
      refine m_C h (fun h => ?_)
      refine m_and h (fun h => ?_)
      refine fr1_X7_refuse hG (fun _ _ f5 h => ?_) f1 h
      refine m_and h (fun h => ?_)
      exact k _ _ f5 h
  · skip
    refine m_gr (fr1_c_52_0 hG f1) h (fun h => ?_)
    refine m_C h (fun h => ?_)
    refine m_and h (fun h => ?_)
    refine fr1_X7_refuse hG (fun _ _ f6 h => ?_) f1 h
    refine m_and h (fun h => ?_)
    exact k _ _ f6 h
theorem fr1_X3_readJoint_88 {X G : Mm} {S : Sh} {K K' : Int → Mm → Prop} {M : Mm} {t0 : Int} (hG : Inv X S G) (k : ∀ (a0 : Int) (m : Mm), fr1_F G m → K a0 m → K' a0 m) (f : fr1_F G M) (h : wp_X3_readJoint_88 S K (52) t0 M) : wp_X3_readJoint_88 S K' (52) t0 M := by
  refine m_if h (fun h => ?_) (fun h => ?_)
  · skip
    refine m_and h (fun h => ?_)
    refine fr1_X3_pileUp hG (fun _ f1 h => ?_) f h
    refine m_and h (fun h => ?_)
    refine fr1_X3_beginFact hG (fun _ _ f2 h => ?_) f1 h
    refine m_and h (fun h => ?_)
    exact k _ _ f2 h
  · skip
    refine m_gr (fr1_c_52_0 hG f) h (fun h => ?_)
    refine m_C h (fun h => ?_)
    refine m_and h (fun h => ?_)
    refine fr1_X7_refuse hG (fun _ _ f3 h => ?_) f h
    refine m_and h (fun h => ?_)
    exact k _ _ f3 h
theorem fr1_X3_readJoint_16 {X G : Mm} {S : Sh} {K K' : Int → Mm → Prop} {M : Mm} {t0 : Int} (hG : Inv X S G) (k : ∀ (a0 : Int) (m : Mm), fr1_F G m → K a0 m → K' a0 m) (f : fr1_F G M) (h : wp_X3_readJoint_16 S K (52) t0 M) : wp_X3_readJoint_16 S K' (52) t0 M := by
  refine m_if h (fun h => ?_) (fun h => ?_)
  · skip
    refine m_Get h (fun _ h => ?_)
    refine m_if h (fun h => ?_) (fun h => ?_)
    · skip
      refine m_Get h (fun _ h => ?_)
      refine m_C h (fun h => ?_)
      refine m_if h (fun h => ?_) (fun h => ?_)
      · skip
        refine m_gr (fr1_c_52_0 hG f) h (fun h => ?_)
        refine m_C h (fun h => ?_)
        refine m_and h (fun h => ?_)
        refine fr1_X7_takesWord hG (fun _ _ f1 h => ?_) f h
        refine m_if h (fun h => ?_) (fun h => ?_)
        · skip
          refine m_gr (fr1_c_52_0 hG f1) h (fun h => ?_)
          refine m_C h (fun h => ?_)
          refine m_and h (fun h => ?_)
          refine fr1_X7_takesWord hG (fun _ _ f2 h => ?_) f1 h
          refine m_if h (fun h => ?_) (fun h => ?_)
          · skip
            refine m_C h (fun h => ?_)
            refine fr1_X3_readJoint_88 hG k f2 h
          · skip
            refine m_C h (fun h => ?_)
            refine fr1_X3_readJoint_88 hG k f2 h
        · skip
          refine m_C h (fun h => ?_)
          refine fr1_X3_readJoint_88 hG k f1 h
      · skip
        refine m_and h (fun h => ?_)
        refine fr1_X3_readComparison hG (fun _ _ f3 h => ?_) f h
        refine m_and h (fun h => ?_)
        exact k _ _ f3 h
    · skip
      refine m_and h (fun h => ?_)
      refine fr1_X3_readIf hG (fun _ _ f4 h => ?_) f h
      refine m_and h (fun h => ?_)
      exact k _ _ f4 h
  · skip
    refine m_and h (fun h => ?_)
    refine fr1_X3_pileUp hG (fun _ f5 h => ?_) f h
    refine m_C h (fun h => ?_)
    refine m_and h (fun h => ?_)
    exact k _ _ f5 h
theorem fr1_X3_readJoint {X G : Mm} {S : Sh} {K K' : Int → Mm → Prop} {M : Mm} (hG : Inv X S G) (k : ∀ (a0 : Int) (m : Mm), fr1_F G m → K a0 m → K' a0 m) (f : fr1_F G M) (h : wp_X3_readJoint S M (52) K) : wp_X3_readJoint S M (52) K' := by
  refine m_Get h (fun _ h => ?_)
  refine m_C h (fun h => ?_)
  refine m_if h (fun h => ?_) (fun h => ?_)
  · skip
    refine m_and h (fun h => ?_)
    refine fr1_X3_takeArithmetic hG (fun _ _ f1 h => ?_) f h
    refine fr1_X3_readJoint_16 hG k f1 h
  · skip
    refine m_C h (fun h => ?_)
    refine fr1_X3_readJoint_16 hG k f h
theorem fr1_X3_readClause_105 {X G : Mm} {S : Sh} {K K' : Int → Mm → Prop} {M : Mm} {t1 : Int} (hG : Inv X S G) (k : ∀ (a0 : Int) (m : Mm), fr1_F G m → K a0 m → K' a0 m) (f : fr1_F G M) (h : wp_X3_readClause_105 S K (52) t1 M) : wp_X3_readClause_105 S K' (52) t1 M := by
  refine m_and h (fun h => ?_)
  refine fr1_X3_write hG (fun _ f1 h => ?_) f h
  refine m_C h (fun h => ?_)
  refine m_and h (fun h => ?_)
  exact k _ _ f1 h
theorem fr1_X3_readClause_58 {X G : Mm} {S : Sh} {K K' : Int → Mm → Prop} (hG : Inv X S G) (k : ∀ (a0 : Int) (m : Mm), fr1_F G m → K a0 m → K' a0 m) : ∀ (n : Nat) (u2 : Int) (M : Mm), fr1_F G M → wp_X3_readClause_58 S K n (52) u2 M → wp_X3_readClause_58 S K' n (52) u2 M := by
  intro n
  induction n with
  | zero => intro u2 M f h; exact h
  | succ n ih =>
    intro u2 M f h
    refine m_C h (fun h => ?_)
    refine m_if h (fun h => ?_) (fun h => ?_)
    · skip
      refine m_C h (fun h => ?_)
      refine m_and h (fun h => ?_)
      exact k _ _ f h
    · skip
      refine m_and h (fun h => ?_)
      refine fr1_X3_readValue hG (fun _ _ f1 h => ?_) f h
      refine m_if h (fun h => ?_) (fun h => ?_)
      · skip
        refine m_and h (fun h => ?_)
        refine fr1_X3_closeBrackets hG (fun _ f2 h => ?_) f1 h
        refine m_and h (fun h => ?_)
        refine fr1_X3_endsHere hG (fun _ _ f3 h => ?_) f2 h
        refine m_if h (fun h => ?_) (fun h => ?_)
        · skip
          refine m_and h (fun h => ?_)
          refine fr1_X3_readJoint hG (fun _ _ f4 h => ?_) f3 h
          refine m_if h (fun h => ?_) (fun h => ?_)
          · skip
            refine m_A h (fun _ h => ?_)
            exact ih _ _ f4 h
          · skip
            refine m_C h (fun h => ?_)
            refine m_and h (fun h => ?_)
            exact k _ _ f4 h
        · skip
          refine m_C h (fun h => ?_)
          refine m_and h (fun h => ?_)
          refine fr1_X3_unpile hG (fun _ f5 h => ?_) f3 h
          refine m_Get h (fun _ h => ?_)
          refine m_if h (fun h => ?_) (fun h => ?_)
          · skip
            refine m_C h (fun h => ?_)
            refine fr1_X3_readClause_105 hG k f5 h
          · skip
            refine m_C h (fun h => ?_)
            refine fr1_X3_readClause_105 hG k f5 h
      · skip
        refine m_C h (fun h => ?_)
        refine m_and h (fun h => ?_)
        exact k _ _ f1 h
theorem fr1_X3_readClause {X G : Mm} {S : Sh} {K K' : Int → Mm → Prop} {M : Mm} {u1 : Int} (hG : Inv X S G) (k : ∀ (a0 : Int) (m : Mm), fr1_F G m → K a0 m → K' a0 m) (f : fr1_F G M) (h : wp_X3_readClause S M (52) u1 K) : wp_X3_readClause S M (52) u1 K' := by
  refine m_gr (fr1_c_52_0 hG f) h (fun h => ?_)
  refine m_C h (fun h => ?_)
  refine m_and h (fun h => ?_)
  refine fr1_X7_takesWord hG (fun _ _ f1 h => ?_) f h
  refine m_if h (fun h => ?_) (fun h => ?_)
  · skip
    refine m_C h (fun h => ?_)
    refine m_if h (fun h => ?_) (fun h => ?_)
    · skip
      refine m_C h (fun h => ?_)
      refine m_Put (fr1_up (by decide) f1) h (fun _ f2 h => ?_)
      refine m_C h (fun h => ?_)
      refine m_Put (fr1_up (by decide) f2) h (fun _ f3 h => ?_)
      refine m_C h (fun h => ?_)
      refine m_Put (fr1_up (by decide) f3) h (fun _ f4 h => ?_)
      refine m_C h (fun h => ?_)
      refine m_Put (fr1_up (by decide) f4) h (fun _ f5 h => ?_)
      refine m_C h (fun h => ?_)
      refine m_ex h (fun n9 h => ?_)
      refine fr1_X3_readClause_58 hG k _ _ _ f5 h
    · skip
      refine m_gr (fr1_c_52_0 hG f1) h (fun h => ?_)
      refine m_C h (fun h => ?_)
      refine m_and h (fun h => ?_)
      refine fr1_X7_refuse hG (fun _ _ f6 h => ?_) f1 h
      refine m_and h (fun h => ?_)
      exact k _ _ f6 h
  · skip
    refine m_gr (fr1_c_52_0 hG f1) h (fun h => ?_)
    refine m_C h (fun h => ?_)
    refine m_and h (fun h => ?_)
    refine fr1_X7_refuse hG (fun _ _ f7 h => ?_) f1 h
    refine m_and h (fun h => ?_)
    exact k _ _ f7 h
theorem fr1_X3_read_19 {X G : Mm} {S : Sh} {K K' : Int → Mm → Prop} (hG : Inv X S G) (k : ∀ (a0 : Int) (m : Mm), fr1_F G m → K a0 m → K' a0 m) : ∀ (n : Nat) (u1 : Int) (M : Mm), fr1_F G M → wp_X3_read_19 S K n (52) u1 M → wp_X3_read_19 S K' n (52) u1 M := by
  intro n
  induction n with
  | zero => intro u1 M f h; exact h
  | succ n ih =>
    intro u1 M f h
    refine m_C h (fun h => ?_)
    refine m_if h (fun h => ?_) (fun h => ?_)
    · skip
      refine m_C h (fun h => ?_)
      refine m_and h (fun h => ?_)
      exact k _ _ f h
    · skip
      refine m_and h (fun h => ?_)
      refine fr1_X3_readClause hG (fun _ _ f1 h => ?_) f h
      refine m_if h (fun h => ?_) (fun h => ?_)
      · skip
        refine m_gr (fr1_c_52_0 hG f1) h (fun h => ?_)
        refine m_and h (fun h => ?_)
        refine fr1_X7_isAtEnd hG (fun _ _ f2 h => ?_) f1 h
        refine m_if h (fun h => ?_) (fun h => ?_)
        · skip
          refine m_gr (fr1_c_52_0 hG f2) h (fun h => ?_)
          refine m_C h (fun h => ?_)
          refine m_and h (fun h => ?_)
          refine fr1_X7_takesSign hG (fun _ _ f3 h => ?_) f2 h
          refine m_if h (fun h => ?_) (fun h => ?_)
          · skip
            refine m_A h (fun _ h => ?_)
            exact ih _ _ f3 h
          · skip
            refine m_gr (fr1_c_52_0 hG f3) h (fun h => ?_)
            refine m_C h (fun h => ?_)
            refine m_and h (fun h => ?_)
            refine fr1_X7_refuse hG (fun _ _ f4 h => ?_) f3 h
            refine m_and h (fun h => ?_)
            exact k _ _ f4 h
        · skip
          refine m_C h (fun h => ?_)
          refine m_and h (fun h => ?_)
          exact k _ _ f2 h
      · skip
        refine m_C h (fun h => ?_)
        refine m_and h (fun h => ?_)
        exact k _ _ f1 h
theorem fr1_X3_read {X G : Mm} {S : Sh} {K K' : Int → Mm → Prop} {M : Mm} (hG : Inv X S G) (k : ∀ (a0 : Int) (m : Mm), fr1_F G m → K a0 m → K' a0 m) (f : fr1_F G M) (h : wp_X3_read S M (52) K) : wp_X3_read S M (52) K' := by
  refine m_C h (fun h => ?_)
  refine m_Put (fr1_up (by decide) f) h (fun _ f1 h => ?_)
  refine m_C h (fun h => ?_)
  refine m_Put (fr1_up (by decide) f1) h (fun _ f2 h => ?_)
  refine m_gr (fr1_c_52_0 hG f2) h (fun h => ?_)
  refine m_and h (fun h => ?_)
  refine fr1_X7_rewind hG (fun _ f3 h => ?_) f2 h
  refine m_C h (fun h => ?_)
  refine m_ex h (fun n9 h => ?_)
  refine fr1_X3_read_19 hG k _ _ _ f3 h
end
