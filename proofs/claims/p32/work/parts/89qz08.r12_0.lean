section
/-- what these methods may write -/
abbrev fr2_W (c p : Int) : Prop := (c = 336 ∧ (p = 1 ∨ (8 ≤ p ∧ p ≤ 14) ∨ p = 16)) ∨ (338 ≤ c ∧ c ≤ 343)
def fr2_F (G M : Mm) : Prop := ∀ c p : Int, ¬ fr2_W c p → M c p = G c p
theorem fr2_up {G M : Mm} {x i v : Int} (w : fr2_W x i) (f : fr2_F G M) : fr2_F G (up M x i v) := fun c p q => (up_ne (fun e => by obtain ⟨e1, e2⟩ := e; subst e1; subst e2; exact q w)).trans (f c p q)
theorem fr2_a_338 (i : Int) : fr2_W 338 i := by unfold fr2_W; omega
theorem fr2_a_339 (i : Int) : fr2_W 339 i := by unfold fr2_W; omega
theorem fr2_a_340 (i : Int) : fr2_W 340 i := by unfold fr2_W; omega
theorem fr2_a_341 (i : Int) : fr2_W 341 i := by unfold fr2_W; omega
theorem fr2_a_342 (i : Int) : fr2_W 342 i := by unfold fr2_W; omega
theorem fr2_a_343 (i : Int) : fr2_W 343 i := by unfold fr2_W; omega
theorem fr2_c_336_0 {X G M : Mm} {S : Sh} (hG : Inv X S G) (f : fr2_F G M) : M 336 0 = 337 := (f 336 0 (by decide)).trans hG.f_336_0
theorem fr2_c_336_3 {X G M : Mm} {S : Sh} (hG : Inv X S G) (f : fr2_F G M) : M 336 3 = 338 := (f 336 3 (by decide)).trans hG.f_336_3
theorem fr2_c_336_4 {X G M : Mm} {S : Sh} (hG : Inv X S G) (f : fr2_F G M) : M 336 4 = 339 := (f 336 4 (by decide)).trans hG.f_336_4
theorem fr2_c_336_5 {X G M : Mm} {S : Sh} (hG : Inv X S G) (f : fr2_F G M) : M 336 5 = 340 := (f 336 5 (by decide)).trans hG.f_336_5
theorem fr2_c_336_6 {X G M : Mm} {S : Sh} (hG : Inv X S G) (f : fr2_F G M) : M 336 6 = 341 := (f 336 6 (by decide)).trans hG.f_336_6
theorem fr2_c_336_7 {X G M : Mm} {S : Sh} (hG : Inv X S G) (f : fr2_F G M) : M 336 7 = 342 := (f 336 7 (by decide)).trans hG.f_336_7
theorem fr2_c_336_15 {X G M : Mm} {S : Sh} (hG : Inv X S G) (f : fr2_F G M) : M 336 15 = 343 := (f 336 15 (by decide)).trans hG.f_336_15
theorem fr2_X12_see_38 {X G : Mm} {S : Sh} {K K' : Int → Mm → Prop} {M : Mm} (hG : Inv X S G) (k : ∀ (a0 : Int) (m : Mm), fr2_F G m → K a0 m → K' a0 m) (f : fr2_F G M) (h : wp_X12_see_38 S K (336) M) : wp_X12_see_38 S K' (336) M := by
  refine m_Get h (fun _ h => ?_)
  refine m_Get h (fun _ h => ?_)
  refine m_if h (fun h => ?_) (fun h => ?_)
  · skip
    refine m_C h (fun h => ?_)
    exact k _ _ f h
  · skip
    refine m_gr (fr2_c_336_0 hG f) h (fun h => ?_)
    refine m_Get h (fun _ h => ?_)
    refine m_Ld h (fun _ h => ?_)
    refine m_C h (fun h => ?_)
    refine m_O h (fun _ h => ?_)
    exact k _ _ f h
theorem fr2_X12_see_0 {X G : Mm} {S : Sh} {K K' : Int → Mm → Prop} (hG : Inv X S G) (k : ∀ (a0 : Int) (m : Mm), fr2_F G m → K a0 m → K' a0 m) : ∀ (n : Nat) (M : Mm), fr2_F G M → wp_X12_see_0 S K n (336) M → wp_X12_see_0 S K' n (336) M := by
  intro n
  induction n with
  | zero => intro M f h; exact h
  | succ n ih =>
    intro M f h
    refine m_Get h (fun _ h => ?_)
    refine m_Get h (fun _ h => ?_)
    refine m_if h (fun h => ?_) (fun h => ?_)
    · skip
      refine fr2_X12_see_38 hG k f h
    · skip
      refine m_gr (fr2_c_336_0 hG f) h (fun h => ?_)
      refine m_Get h (fun _ h => ?_)
      refine m_Ld h (fun _ h => ?_)
      refine m_C h (fun h => ?_)
      refine m_if h (fun h => ?_) (fun h => ?_)
      · skip
        refine fr2_X12_see_38 hG k f h
      · skip
        refine m_Get h (fun _ h => ?_)
        refine m_C h (fun h => ?_)
        refine m_A h (fun _ h => ?_)
        refine m_Put (fr2_up (by decide) f) h (fun _ f1 h => ?_)
        exact ih _ f1 h
theorem fr2_X12_see {X G : Mm} {S : Sh} {K K' : Int → Mm → Prop} {M : Mm} (hG : Inv X S G) (k : ∀ (a0 : Int) (m : Mm), fr2_F G m → K a0 m → K' a0 m) (f : fr2_F G M) (h : wp_X12_see S M (336) K) : wp_X12_see S M (336) K' := by
  refine m_ex h (fun n9 h => ?_)
  refine fr2_X12_see_0 hG k _ _ f h
theorem fr2_X12_isLetter {X G : Mm} {S : Sh} {K K' : Int → Mm → Prop} {M : Mm} {u1 : Int} (hG : Inv X S G) (k : ∀ (a0 : Int) (m : Mm), fr2_F G m → K a0 m → K' a0 m) (f : fr2_F G M) (h : wp_X12_isLetter S M (336) u1 K) : wp_X12_isLetter S M (336) u1 K' := by
  refine m_Get h (fun _ h => ?_)
  refine m_if h (fun h => ?_) (fun h => ?_)
  · skip
    refine m_C h (fun h => ?_)
    refine m_and h (fun h => ?_)
    exact k _ _ f h
  · skip
    refine m_gr (fr2_c_336_0 hG f) h (fun h => ?_)
    refine m_Ld h (fun _ h => ?_)
    refine m_C h (fun h => ?_)
    refine m_if h (fun h => ?_) (fun h => ?_)
    · skip
      refine m_C h (fun h => ?_)
      refine m_and h (fun h => ?_)
      exact k _ _ f h
    · skip
      refine m_gr (fr2_c_336_0 hG f) h (fun h => ?_)
      refine m_Ld h (fun _ h => ?_)
      refine m_C h (fun h => ?_)
      refine m_if h (fun h => ?_) (fun h => ?_)
      · skip
        refine m_C h (fun h => ?_)
        refine m_and h (fun h => ?_)
        exact k _ _ f h
      · skip
        refine m_C h (fun h => ?_)
        refine m_and h (fun h => ?_)
        exact k _ _ f h
theorem fr2_X12_isWord_50 {X G : Mm} {S : Sh} {k10 k10' : Int → Int → Int → Int → Mm → Prop} {K K' : Int → Mm → Prop} {M : Mm} {u1 : Int} {u3 : Int} {u5 : Int} (hG : Inv X S G) (kk10 : ∀ (a1 : Int) (a2 : Int) (a3 : Int) (m : Mm), fr2_F G m → k10 (336) a1 a2 a3 m → k10' (336) a1 a2 a3 m) (k : ∀ (a0 : Int) (m : Mm), fr2_F G m → K a0 m → K' a0 m) (f : fr2_F G M) (h : wp_X12_isWord_50 S k10 K (336) u1 u3 u5 M) : wp_X12_isWord_50 S k10' K' (336) u1 u3 u5 M := by
  refine m_A h (fun _ h => ?_)
  exact kk10 _ _ _ _ f h
theorem fr2_X12_isWord_10 {X G : Mm} {S : Sh} {K K' : Int → Mm → Prop} (hG : Inv X S G) (k : ∀ (a0 : Int) (m : Mm), fr2_F G m → K a0 m → K' a0 m) : ∀ (n : Nat) (u1 : Int) (u3 : Int) (u5 : Int) (M : Mm), fr2_F G M → wp_X12_isWord_10 S K n (336) u1 u3 u5 M → wp_X12_isWord_10 S K' n (336) u1 u3 u5 M := by
  intro n
  induction n with
  | zero => intro u1 u3 u5 M f h; exact h
  | succ n ih =>
    intro u1 u3 u5 M f h
    refine m_Get h (fun _ h => ?_)
    refine m_A h (fun _ h => ?_)
    refine m_and h (fun h => ?_)
    refine fr2_X12_isLetter hG (fun _ _ f1 h => ?_) f h
    refine m_if h (fun h => ?_) (fun h => ?_)
    · skip
      refine m_if h (fun h => ?_) (fun h => ?_)
      · skip
        refine m_C h (fun h => ?_)
        refine m_and h (fun h => ?_)
        exact k _ _ f1 h
      · skip
        refine m_C h (fun h => ?_)
        refine m_if h (fun h => ?_) (fun h => ?_)
        · skip
          refine m_C h (fun h => ?_)
          refine m_and h (fun h => ?_)
          exact k _ _ f1 h
        · skip
          refine m_Cmp h (fun _ h => ?_)
          refine m_if h (fun h => ?_) (fun h => ?_)
          · skip
            refine m_C h (fun h => ?_)
            refine m_and h (fun h => ?_)
            exact k _ _ f1 h
          · skip
            refine m_C h (fun h => ?_)
            refine m_and h (fun h => ?_)
            exact k _ _ f1 h
    · skip
      refine m_C h (fun h => ?_)
      refine m_if h (fun h => ?_) (fun h => ?_)
      · skip
        refine fr2_X12_isWord_50 hG (fun _ _ _ _ f2 h => ?_) k f1 h
        exact ih _ _ _ _ f2 h
      · skip
        refine m_C h (fun h => ?_)
        refine m_O h (fun _ h => ?_)
        refine m_gr (fr2_c_336_0 hG f1) h (fun h => ?_)
        refine m_Get h (fun _ h => ?_)
        refine m_A h (fun _ h => ?_)
        refine m_Ld h (fun _ h => ?_)
        refine m_C h (fun h => ?_)
        refine m_O h (fun _ h => ?_)
        refine fr2_X12_isWord_50 hG (fun _ _ _ _ f3 h => ?_) k f1 h
        exact ih _ _ _ _ f3 h
theorem fr2_X12_isWord {X G : Mm} {S : Sh} {K K' : Int → Mm → Prop} {M : Mm} {u1 : Int} (hG : Inv X S G) (k : ∀ (a0 : Int) (m : Mm), fr2_F G m → K a0 m → K' a0 m) (f : fr2_F G M) (h : wp_X12_isWord S M (336) u1 K) : wp_X12_isWord S M (336) u1 K' := by
  refine m_and h (fun h => ?_)
  refine fr2_X12_see hG (fun _ _ f1 h => ?_) f h
  refine m_C h (fun h => ?_)
  refine m_C h (fun h => ?_)
  refine m_ex h (fun n9 h => ?_)
  refine fr2_X12_isWord_10 hG k _ _ _ _ _ f1 h
theorem fr2_X12_isDairyWord_60 {X G : Mm} {S : Sh} {K K' : Int → Mm → Prop} {M : Mm} (hG : Inv X S G) (k : ∀ (a0 : Int) (m : Mm), fr2_F G m → K a0 m → K' a0 m) (f : fr2_F G M) (h : wp_X12_isDairyWord_60 S K M) : wp_X12_isDairyWord_60 S K' M := by
  refine m_C h (fun h => ?_)
  refine m_and h (fun h => ?_)
  exact k _ _ f h
theorem fr2_X12_isDairyWord {X G : Mm} {S : Sh} {K K' : Int → Mm → Prop} {M : Mm} (hG : Inv X S G) (k : ∀ (a0 : Int) (m : Mm), fr2_F G m → K a0 m → K' a0 m) (f : fr2_F G M) (h : wp_X12_isDairyWord S M (336) K) : wp_X12_isDairyWord S M (336) K' := by
  refine m_C h (fun h => ?_)
  refine m_and h (fun h => ?_)
  refine fr2_X12_isWord hG (fun _ _ f1 h => ?_) f h
  refine m_if h (fun h => ?_) (fun h => ?_)
  · skip
    refine fr2_X12_isDairyWord_60 hG k f1 h
  · skip
    refine m_C h (fun h => ?_)
    refine m_and h (fun h => ?_)
    refine fr2_X12_isWord hG (fun _ _ f2 h => ?_) f1 h
    refine m_if h (fun h => ?_) (fun h => ?_)
    · skip
      refine fr2_X12_isDairyWord_60 hG k f2 h
    · skip
      refine m_C h (fun h => ?_)
      refine m_and h (fun h => ?_)
      refine fr2_X12_isWord hG (fun _ _ f3 h => ?_) f2 h
      refine m_if h (fun h => ?_) (fun h => ?_)
      · skip
        refine fr2_X12_isDairyWord_60 hG k f3 h
      · skip
        refine m_C h (fun h => ?_)
        refine m_and h (fun h => ?_)
        refine fr2_X12_isWord hG (fun _ _ f4 h => ?_) f3 h
        refine m_if h (fun h => ?_) (fun h => ?_)
        · skip
          refine fr2_X12_isDairyWord_60 hG k f4 h
        · skip
          refine m_C h (fun h => ?_)
          refine m_and h (fun h => ?_)
          refine fr2_X12_isWord hG (fun _ _ f5 h => ?_) f4 h
          refine m_if h (fun h => ?_) (fun h => ?_)
          · skip
            refine fr2_X12_isDairyWord_60 hG k f5 h
          · skip
            refine m_C h (fun h => ?_)
            refine m_and h (fun h => ?_)
            refine fr2_X12_isWord hG (fun _ _ f6 h => ?_) f5 h
            refine m_if h (fun h => ?_) (fun h => ?_)
            · skip
              refine m_C h (fun h => ?_)
              refine m_and h (fun h => ?_)
              exact k _ _ f6 h
            · skip
              refine fr2_X12_isDairyWord_60 hG k f6 h
theorem fr2_X12_fails {X G : Mm} {S : Sh} {K K' : Int → Mm → Prop} {M : Mm} {u1 : Int} {u2 : Int} (hG : Inv X S G) (k : ∀ (a0 : Int) (m : Mm), fr2_F G m → K a0 m → K' a0 m) (f : fr2_F G M) (h : wp_X12_fails S M (336) u1 u2 K) : wp_X12_fails S M (336) u1 u2 K' := by
  refine m_Get h (fun _ h => ?_)
  refine m_if h (fun h => ?_) (fun h => ?_)
  · skip
    refine m_C h (fun h => ?_)
    refine m_and h (fun h => ?_)
    exact k _ _ f h
  · skip
    refine m_C h (fun h => ?_)
    refine m_C h (fun h => ?_)
    refine m_M h (fun _ h => ?_)
    refine m_A h (fun _ h => ?_)
    refine m_A h (fun _ h => ?_)
    refine m_Put (fr2_up (by decide) f) h (fun _ f1 h => ?_)
    refine m_C h (fun h => ?_)
    refine m_and h (fun h => ?_)
    exact k _ _ f1 h
theorem fr2_X12_passWord_0 {X G : Mm} {S : Sh} {K K' : Mm → Prop} (hG : Inv X S G) (k : ∀ (m : Mm), fr2_F G m → K m → K' m) : ∀ (n : Nat) (M : Mm), fr2_F G M → wp_X12_passWord_0 S K n (336) M → wp_X12_passWord_0 S K' n (336) M := by
  intro n
  induction n with
  | zero => intro M f h; exact h
  | succ n ih =>
    intro M f h
    refine m_Get h (fun _ h => ?_)
    refine m_and h (fun h => ?_)
    refine fr2_X12_isLetter hG (fun _ _ f1 h => ?_) f h
    refine m_if h (fun h => ?_) (fun h => ?_)
    · skip
      exact k _ f1 h
    · skip
      refine m_Get h (fun _ h => ?_)
      refine m_C h (fun h => ?_)
      refine m_A h (fun _ h => ?_)
      refine m_Put (fr2_up (by decide) f1) h (fun _ f2 h => ?_)
      exact ih _ f2 h
theorem fr2_X12_passWord {X G : Mm} {S : Sh} {K K' : Mm → Prop} {M : Mm} (hG : Inv X S G) (k : ∀ (m : Mm), fr2_F G m → K m → K' m) (f : fr2_F G M) (h : wp_X12_passWord S M (336) K) : wp_X12_passWord S M (336) K' := by
  refine m_ex h (fun n9 h => ?_)
  refine fr2_X12_passWord_0 hG k _ _ f h
theorem fr2_X12_isDigit {X G : Mm} {S : Sh} {K K' : Int → Mm → Prop} {M : Mm} {u1 : Int} (hG : Inv X S G) (k : ∀ (a0 : Int) (m : Mm), fr2_F G m → K a0 m → K' a0 m) (f : fr2_F G M) (h : wp_X12_isDigit S M (336) u1 K) : wp_X12_isDigit S M (336) u1 K' := by
  refine m_Get h (fun _ h => ?_)
  refine m_if h (fun h => ?_) (fun h => ?_)
  · skip
    refine m_C h (fun h => ?_)
    refine m_and h (fun h => ?_)
    exact k _ _ f h
  · skip
    refine m_gr (fr2_c_336_0 hG f) h (fun h => ?_)
    refine m_Ld h (fun _ h => ?_)
    refine m_C h (fun h => ?_)
    refine m_if h (fun h => ?_) (fun h => ?_)
    · skip
      refine m_C h (fun h => ?_)
      refine m_and h (fun h => ?_)
      exact k _ _ f h
    · skip
      refine m_gr (fr2_c_336_0 hG f) h (fun h => ?_)
      refine m_Ld h (fun _ h => ?_)
      refine m_C h (fun h => ?_)
      refine m_if h (fun h => ?_) (fun h => ?_)
      · skip
        refine m_C h (fun h => ?_)
        refine m_and h (fun h => ?_)
        exact k _ _ f h
      · skip
        refine m_C h (fun h => ?_)
        refine m_and h (fun h => ?_)
        exact k _ _ f h
theorem fr2_X12_in {X G : Mm} {S : Sh} {K K' : Int → Mm → Prop} {M : Mm} {u0 : Int} {u2 : Int} {u4 : Int} (hG : Inv X S G) (k : ∀ (a0 : Int) (m : Mm), fr2_F G m → K a0 m → K' a0 m) (f : fr2_F G M) (h : wp_X12_in S M u0 u2 u4 K) : wp_X12_in S M u0 u2 u4 K' := by
  refine m_Cmp h (fun _ h => ?_)
  refine m_if h (fun h => ?_) (fun h => ?_)
  · skip
    refine m_C h (fun h => ?_)
    refine m_and h (fun h => ?_)
    exact k _ _ f h
  · skip
    refine m_Cmp h (fun _ h => ?_)
    refine m_if h (fun h => ?_) (fun h => ?_)
    · skip
      refine m_C h (fun h => ?_)
      refine m_and h (fun h => ?_)
      exact k _ _ f h
    · skip
      refine m_C h (fun h => ?_)
      refine m_and h (fun h => ?_)
      exact k _ _ f h
theorem fr2_X12_numberHere_126 {X G : Mm} {S : Sh} {K K' : Int → Mm → Prop} {M : Mm} (hG : Inv X S G) (k : ∀ (a0 : Int) (m : Mm), fr2_F G m → K a0 m → K' a0 m) (f : fr2_F G M) (h : wp_X12_numberHere_126 S K M) : wp_X12_numberHere_126 S K' M := by
  refine m_C h (fun h => ?_)
  refine m_and h (fun h => ?_)
  exact k _ _ f h
theorem fr2_X12_numberHere_117 {X G : Mm} {S : Sh} {K K' : Int → Mm → Prop} {M : Mm} {u3 : Int} (hG : Inv X S G) (k : ∀ (a0 : Int) (m : Mm), fr2_F G m → K a0 m → K' a0 m) (f : fr2_F G M) (h : wp_X12_numberHere_117 S K (336) u3 M) : wp_X12_numberHere_117 S K' (336) u3 M := by
  refine m_C h (fun h => ?_)
  refine m_and h (fun h => ?_)
  refine fr2_X12_fails hG (fun _ _ f1 h => ?_) f h
  refine m_if h (fun h => ?_) (fun h => ?_)
  · skip
    refine m_C h (fun h => ?_)
    refine m_and h (fun h => ?_)
    exact k _ _ f1 h
  · skip
    refine fr2_X12_numberHere_126 hG k f1 h
theorem fr2_X12_numberHere_75 {X G : Mm} {S : Sh} {k34 k34' : Int → Int → Int → Int → Int → Mm → Prop} {K K' : Int → Mm → Prop} {M : Mm} {u1 : Int} {u2 : Int} {u3 : Int} {u4 : Int} (hG : Inv X S G) (kk34 : ∀ (a1 : Int) (a2 : Int) (a3 : Int) (a4 : Int) (m : Mm), fr2_F G m → k34 (336) a1 a2 a3 a4 m → k34' (336) a1 a2 a3 a4 m) (k : ∀ (a0 : Int) (m : Mm), fr2_F G m → K a0 m → K' a0 m) (f : fr2_F G M) (h : wp_X12_numberHere_75 S k34 K (336) u1 u2 u3 u4 M) : wp_X12_numberHere_75 S k34' K' (336) u1 u2 u3 u4 M := by
  refine m_Get h (fun _ h => ?_)
  refine m_C h (fun h => ?_)
  refine m_A h (fun _ h => ?_)
  refine m_Put (fr2_up (by decide) f) h (fun _ f1 h => ?_)
  exact kk34 _ _ _ _ _ f1 h
theorem fr2_X12_numberHere_34 {X G : Mm} {S : Sh} {K K' : Int → Mm → Prop} (hG : Inv X S G) (k : ∀ (a0 : Int) (m : Mm), fr2_F G m → K a0 m → K' a0 m) : ∀ (n : Nat) (u1 : Int) (u2 : Int) (u3 : Int) (u4 : Int) (M : Mm), fr2_F G M → wp_X12_numberHere_34 S K n (336) u1 u2 u3 u4 M → wp_X12_numberHere_34 S K' n (336) u1 u2 u3 u4 M := by
  intro n
  induction n with
  | zero => intro u1 u2 u3 u4 M f h; exact h
  | succ n ih =>
    intro u1 u2 u3 u4 M f h
    refine m_Get h (fun _ h => ?_)
    refine m_and h (fun h => ?_)
    refine fr2_X12_isDigit hG (fun _ _ f1 h => ?_) f h
    refine m_if h (fun h => ?_) (fun h => ?_)
    · skip
      refine m_Put (fr2_up (by decide) f1) h (fun _ f2 h => ?_)
      refine m_Get h (fun _ h => ?_)
      refine m_S h (fun _ h => ?_)
      refine m_C h (fun h => ?_)
      refine m_if h (fun h => ?_) (fun h => ?_)
      · skip
        refine fr2_X12_numberHere_117 hG k f2 h
      · skip
        refine m_C h (fun h => ?_)
        refine m_C h (fun h => ?_)
        refine m_C h (fun h => ?_)
        refine fr2_X12_in hG (fun _ _ f3 h => ?_) f2 h
        refine m_if h (fun h => ?_) (fun h => ?_)
        · skip
          refine fr2_X12_numberHere_126 hG k f3 h
        · skip
          refine fr2_X12_numberHere_117 hG k f3 h
    · skip
      refine m_Get h (fun _ h => ?_)
      refine m_S h (fun _ h => ?_)
      refine m_C h (fun h => ?_)
      refine m_if h (fun h => ?_) (fun h => ?_)
      · skip
        refine fr2_X12_numberHere_75 hG (fun _ _ _ _ _ f4 h => ?_) k f1 h
        exact ih _ _ _ _ _ f4 h
      · skip
        refine m_C h (fun h => ?_)
        refine m_M h (fun _ h => ?_)
        refine m_gr (fr2_c_336_0 hG f1) h (fun h => ?_)
        refine m_Get h (fun _ h => ?_)
        refine m_Ld h (fun _ h => ?_)
        refine m_A h (fun _ h => ?_)
        refine m_C h (fun h => ?_)
        refine m_S h (fun _ h => ?_)
        refine fr2_X12_numberHere_75 hG (fun _ _ _ _ _ f5 h => ?_) k f1 h
        exact ih _ _ _ _ _ f5 h
theorem fr2_X12_numberHere {X G : Mm} {S : Sh} {K K' : Int → Mm → Prop} {M : Mm} {u1 : Int} {u2 : Int} (hG : Inv X S G) (k : ∀ (a0 : Int) (m : Mm), fr2_F G m → K a0 m → K' a0 m) (f : fr2_F G M) (h : wp_X12_numberHere S M (336) u1 u2 K) : wp_X12_numberHere S M (336) u1 u2 K' := by
  refine m_and h (fun h => ?_)
  refine fr2_X12_see hG (fun _ _ f1 h => ?_) f h
  refine m_Get h (fun _ h => ?_)
  refine m_and h (fun h => ?_)
  refine fr2_X12_isDigit hG (fun _ _ f2 h => ?_) f1 h
  refine m_if h (fun h => ?_) (fun h => ?_)
  · skip
    refine m_Get h (fun _ h => ?_)
    refine m_C h (fun h => ?_)
    refine m_ex h (fun n9 h => ?_)
    refine fr2_X12_numberHere_34 hG k _ _ _ _ _ _ f2 h
  · skip
    refine m_C h (fun h => ?_)
    refine m_Get h (fun _ h => ?_)
    refine m_and h (fun h => ?_)
    refine fr2_X12_fails hG (fun _ _ f3 h => ?_) f2 h
    refine m_and h (fun h => ?_)
    exact k _ _ f3 h
theorem fr2_X12_cellHere {X G : Mm} {S : Sh} {K K' : Int → Mm → Prop} {M : Mm} {u1 : Int} {u2 : Int} {u3 : Int} (hG : Inv X S G) (k : ∀ (a0 : Int) (m : Mm), fr2_F G m → K a0 m → K' a0 m) (f : fr2_F G M) (h : wp_X12_cellHere S M (336) u1 u2 u3 K) : wp_X12_cellHere S M (336) u1 u2 u3 K' := by
  refine m_and h (fun h => ?_)
  refine fr2_X12_numberHere hG (fun _ _ f1 h => ?_) f h
  refine m_if h (fun h => ?_) (fun h => ?_)
  · skip
    refine m_gr (fr2_c_336_7 hG f1) h (fun h => ?_)
    refine m_Get h (fun _ h => ?_)
    refine m_St (fr2_up (fr2_a_342 _) f1) h (fun _ f2 h => ?_)
    refine m_C h (fun h => ?_)
    refine m_and h (fun h => ?_)
    exact k _ _ f2 h
  · skip
    refine m_C h (fun h => ?_)
    refine m_and h (fun h => ?_)
    exact k _ _ f1 h
theorem fr2_X12_isDairyHere {X G : Mm} {S : Sh} {K K' : Int → Mm → Prop} {M : Mm} {u1 : Int} (hG : Inv X S G) (k : ∀ (a0 : Int) (m : Mm), fr2_F G m → K a0 m → K' a0 m) (f : fr2_F G M) (h : wp_X12_isDairyHere S M (336) u1 K) : wp_X12_isDairyHere S M (336) u1 K' := by
  refine m_gr (fr2_c_336_7 hG f) h (fun h => ?_)
  refine m_C h (fun h => ?_)
  refine m_Ld h (fun _ h => ?_)
  refine m_if h (fun h => ?_) (fun h => ?_)
  · skip
    refine m_and h (fun h => ?_)
    refine fr2_X12_passWord hG (fun _ f1 h => ?_) f h
    refine m_C h (fun h => ?_)
    refine m_C h (fun h => ?_)
    refine m_and h (fun h => ?_)
    refine fr2_X12_numberHere hG (fun _ _ f2 h => ?_) f1 h
    refine m_if h (fun h => ?_) (fun h => ?_)
    · skip
      refine m_Get h (fun _ h => ?_)
      refine m_C h (fun h => ?_)
      refine m_C h (fun h => ?_)
      refine m_C h (fun h => ?_)
      refine m_and h (fun h => ?_)
      refine fr2_X12_cellHere hG (fun _ _ f3 h => ?_) f2 h
      refine m_if h (fun h => ?_) (fun h => ?_)
      · skip
        refine m_C h (fun h => ?_)
        refine m_and h (fun h => ?_)
        exact k _ _ f3 h
      · skip
        refine m_C h (fun h => ?_)
        refine m_C h (fun h => ?_)
        refine m_C h (fun h => ?_)
        refine m_and h (fun h => ?_)
        refine fr2_X12_cellHere hG (fun _ _ f4 h => ?_) f3 h
        refine m_if h (fun h => ?_) (fun h => ?_)
        · skip
          refine m_gr (fr2_c_336_7 hG f4) h (fun h => ?_)
          refine m_C h (fun h => ?_)
          refine m_St (fr2_up (fr2_a_342 _) f4) h (fun _ f5 h => ?_)
          refine m_C h (fun h => ?_)
          refine m_and h (fun h => ?_)
          exact k _ _ f5 h
        · skip
          refine m_C h (fun h => ?_)
          refine m_and h (fun h => ?_)
          exact k _ _ f4 h
    · skip
      refine m_C h (fun h => ?_)
      refine m_and h (fun h => ?_)
      exact k _ _ f2 h
  · skip
    refine m_C h (fun h => ?_)
    refine m_and h (fun h => ?_)
    refine fr2_X12_fails hG (fun _ _ f6 h => ?_) f h
    refine m_and h (fun h => ?_)
    exact k _ _ f6 h
theorem fr2_X12_isRoadTold_70 {X G : Mm} {S : Sh} {k2 k2' : Int → Int → Int → Int → Mm → Prop} {K K' : Int → Mm → Prop} {M : Mm} {u1 : Int} {u2 : Int} {u3 : Int} (hG : Inv X S G) (kk2 : ∀ (a1 : Int) (a2 : Int) (a3 : Int) (m : Mm), fr2_F G m → k2 (336) a1 a2 a3 m → k2' (336) a1 a2 a3 m) (k : ∀ (a0 : Int) (m : Mm), fr2_F G m → K a0 m → K' a0 m) (f : fr2_F G M) (h : wp_X12_isRoadTold_70 S k2 K (336) u1 u2 u3 M) : wp_X12_isRoadTold_70 S k2' K' (336) u1 u2 u3 M := by
  refine m_A h (fun _ h => ?_)
  exact kk2 _ _ _ _ f h
theorem fr2_X12_isRoadTold_44 {X G : Mm} {S : Sh} {k2 k2' : Int → Int → Int → Int → Mm → Prop} {K K' : Int → Mm → Prop} {M : Mm} {u1 : Int} {u2 : Int} {u3 : Int} {u4 : Int} (hG : Inv X S G) (kk2 : ∀ (a1 : Int) (a2 : Int) (a3 : Int) (m : Mm), fr2_F G m → k2 (336) a1 a2 a3 m → k2' (336) a1 a2 a3 m) (k : ∀ (a0 : Int) (m : Mm), fr2_F G m → K a0 m → K' a0 m) (f : fr2_F G M) (h : wp_X12_isRoadTold_44 S k2 K (336) u1 u2 u3 u4 M) : wp_X12_isRoadTold_44 S k2' K' (336) u1 u2 u3 u4 M := by
  refine m_gr (fr2_c_336_7 hG f) h (fun h => ?_)
  refine m_Ld h (fun _ h => ?_)
  refine m_if h (fun h => ?_) (fun h => ?_)
  · skip
    refine fr2_X12_isRoadTold_70 hG kk2 k f h
  · skip
    refine m_gr (fr2_c_336_7 hG f) h (fun h => ?_)
    refine m_C h (fun h => ?_)
    refine m_A h (fun _ h => ?_)
    refine m_Ld h (fun _ h => ?_)
    refine m_if h (fun h => ?_) (fun h => ?_)
    · skip
      refine fr2_X12_isRoadTold_70 hG kk2 k f h
    · skip
      refine m_C h (fun h => ?_)
      refine m_and h (fun h => ?_)
      exact k _ _ f h
theorem fr2_X12_isRoadTold_2 {X G : Mm} {S : Sh} {K K' : Int → Mm → Prop} (hG : Inv X S G) (k : ∀ (a0 : Int) (m : Mm), fr2_F G m → K a0 m → K' a0 m) : ∀ (n : Nat) (u1 : Int) (u2 : Int) (u3 : Int) (M : Mm), fr2_F G M → wp_X12_isRoadTold_2 S K n (336) u1 u2 u3 M → wp_X12_isRoadTold_2 S K' n (336) u1 u2 u3 M := by
  intro n
  induction n with
  | zero => intro u1 u2 u3 M f h; exact h
  | succ n ih =>
    intro u1 u2 u3 M f h
    refine m_gr (fr2_c_336_7 hG f) h (fun h => ?_)
    refine m_C h (fun h => ?_)
    refine m_Ld h (fun _ h => ?_)
    refine m_if h (fun h => ?_) (fun h => ?_)
    · skip
      refine m_C h (fun h => ?_)
      refine m_and h (fun h => ?_)
      exact k _ _ f h
    · skip
      refine m_C h (fun h => ?_)
      refine m_C h (fun h => ?_)
      refine m_M h (fun _ h => ?_)
      refine m_A h (fun _ h => ?_)
      refine m_gr (fr2_c_336_7 hG f) h (fun h => ?_)
      refine m_Ld h (fun _ h => ?_)
      refine m_if h (fun h => ?_) (fun h => ?_)
      · skip
        refine fr2_X12_isRoadTold_44 hG (fun _ _ _ _ f1 h => ?_) k f h
        exact ih _ _ _ _ f1 h
      · skip
        refine m_gr (fr2_c_336_7 hG f) h (fun h => ?_)
        refine m_C h (fun h => ?_)
        refine m_A h (fun _ h => ?_)
        refine m_Ld h (fun _ h => ?_)
        refine m_if h (fun h => ?_) (fun h => ?_)
        · skip
          refine m_C h (fun h => ?_)
          refine m_and h (fun h => ?_)
          exact k _ _ f h
        · skip
          refine fr2_X12_isRoadTold_44 hG (fun _ _ _ _ f2 h => ?_) k f h
          exact ih _ _ _ _ f2 h
theorem fr2_X12_isRoadTold {X G : Mm} {S : Sh} {K K' : Int → Mm → Prop} {M : Mm} {u1 : Int} {u2 : Int} (hG : Inv X S G) (k : ∀ (a0 : Int) (m : Mm), fr2_F G m → K a0 m → K' a0 m) (f : fr2_F G M) (h : wp_X12_isRoadTold S M (336) u1 u2 K) : wp_X12_isRoadTold S M (336) u1 u2 K' := by
  refine m_C h (fun h => ?_)
  refine m_ex h (fun n9 h => ?_)
  refine fr2_X12_isRoadTold_2 hG k _ _ _ _ _ f h
theorem fr2_X12_isRoadHere_122 {X G : Mm} {S : Sh} {K K' : Int → Mm → Prop} {M : Mm} {u3 : Int} (hG : Inv X S G) (k : ∀ (a0 : Int) (m : Mm), fr2_F G m → K a0 m → K' a0 m) (f : fr2_F G M) (h : wp_X12_isRoadHere_122 S K (336) u3 M) : wp_X12_isRoadHere_122 S K' (336) u3 M := by
  refine m_C h (fun h => ?_)
  refine m_and h (fun h => ?_)
  refine fr2_X12_fails hG (fun _ _ f1 h => ?_) f h
  refine m_and h (fun h => ?_)
  exact k _ _ f1 h
theorem fr2_X12_isRoadHere {X G : Mm} {S : Sh} {K K' : Int → Mm → Prop} {M : Mm} {u1 : Int} (hG : Inv X S G) (k : ∀ (a0 : Int) (m : Mm), fr2_F G m → K a0 m → K' a0 m) (f : fr2_F G M) (h : wp_X12_isRoadHere S M (336) u1 K) : wp_X12_isRoadHere S M (336) u1 K' := by
  refine m_gr (fr2_c_336_7 hG f) h (fun h => ?_)
  refine m_C h (fun h => ?_)
  refine m_Ld h (fun _ h => ?_)
  refine m_C h (fun h => ?_)
  refine m_if h (fun h => ?_) (fun h => ?_)
  · skip
    refine m_and h (fun h => ?_)
    refine fr2_X12_passWord hG (fun _ f1 h => ?_) f h
    refine m_C h (fun h => ?_)
    refine m_C h (fun h => ?_)
    refine m_gr (fr2_c_336_7 hG f1) h (fun h => ?_)
    refine m_C h (fun h => ?_)
    refine m_Ld h (fun _ h => ?_)
    refine m_M h (fun _ h => ?_)
    refine m_A h (fun _ h => ?_)
    refine m_C h (fun h => ?_)
    refine m_gr (fr2_c_336_7 hG f1) h (fun h => ?_)
    refine m_C h (fun h => ?_)
    refine m_Ld h (fun _ h => ?_)
    refine m_C h (fun h => ?_)
    refine m_S h (fun _ h => ?_)
    refine m_and h (fun h => ?_)
    refine fr2_X12_cellHere hG (fun _ _ f2 h => ?_) f1 h
    refine m_if h (fun h => ?_) (fun h => ?_)
    · skip
      refine m_and h (fun h => ?_)
      refine fr2_X12_see hG (fun _ _ f3 h => ?_) f2 h
      refine m_Get h (fun _ h => ?_)
      refine m_C h (fun h => ?_)
      refine m_A h (fun _ h => ?_)
      refine m_C h (fun h => ?_)
      refine m_gr (fr2_c_336_7 hG f3) h (fun h => ?_)
      refine m_C h (fun h => ?_)
      refine m_Ld h (fun _ h => ?_)
      refine m_C h (fun h => ?_)
      refine m_S h (fun _ h => ?_)
      refine m_and h (fun h => ?_)
      refine fr2_X12_cellHere hG (fun _ _ f4 h => ?_) f3 h
      refine m_if h (fun h => ?_) (fun h => ?_)
      · skip
        refine m_gr (fr2_c_336_7 hG f4) h (fun h => ?_)
        refine m_Ld h (fun _ h => ?_)
        refine m_gr (fr2_c_336_7 hG f4) h (fun h => ?_)
        refine m_C h (fun h => ?_)
        refine m_A h (fun _ h => ?_)
        refine m_Ld h (fun _ h => ?_)
        refine m_if h (fun h => ?_) (fun h => ?_)
        · skip
          refine fr2_X12_isRoadHere_122 hG k f4 h
        · skip
          refine m_gr (fr2_c_336_7 hG f4) h (fun h => ?_)
          refine m_Ld h (fun _ h => ?_)
          refine m_gr (fr2_c_336_7 hG f4) h (fun h => ?_)
          refine m_C h (fun h => ?_)
          refine m_A h (fun _ h => ?_)
          refine m_Ld h (fun _ h => ?_)
          refine m_and h (fun h => ?_)
          refine fr2_X12_isRoadTold hG (fun _ _ f5 h => ?_) f4 h
          refine m_if h (fun h => ?_) (fun h => ?_)
          · skip
            refine m_C h (fun h => ?_)
            refine m_A h (fun _ h => ?_)
            refine m_C h (fun h => ?_)
            refine m_C h (fun h => ?_)
            refine m_and h (fun h => ?_)
            refine fr2_X12_cellHere hG (fun _ _ f6 h => ?_) f5 h
            refine m_if h (fun h => ?_) (fun h => ?_)
            · skip
              refine m_gr (fr2_c_336_7 hG f6) h (fun h => ?_)
              refine m_C h (fun h => ?_)
              refine m_Ld h (fun _ h => ?_)
              refine m_C h (fun h => ?_)
              refine m_A h (fun _ h => ?_)
              refine m_St (fr2_up (fr2_a_342 _) f6) h (fun _ f7 h => ?_)
              refine m_C h (fun h => ?_)
              refine m_and h (fun h => ?_)
              exact k _ _ f7 h
            · skip
              refine m_C h (fun h => ?_)
              refine m_and h (fun h => ?_)
              exact k _ _ f6 h
          · skip
            refine fr2_X12_isRoadHere_122 hG k f5 h
      · skip
        refine m_C h (fun h => ?_)
        refine m_and h (fun h => ?_)
        exact k _ _ f4 h
    · skip
      refine m_C h (fun h => ?_)
      refine m_and h (fun h => ?_)
      exact k _ _ f2 h
  · skip
    refine m_C h (fun h => ?_)
    refine m_and h (fun h => ?_)
    refine fr2_X12_fails hG (fun _ _ f8 h => ?_) f h
    refine m_and h (fun h => ?_)
    exact k _ _ f8 h
theorem fr2_X12_isHandHere {X G : Mm} {S : Sh} {K K' : Int → Mm → Prop} {M : Mm} {u1 : Int} (hG : Inv X S G) (k : ∀ (a0 : Int) (m : Mm), fr2_F G m → K a0 m → K' a0 m) (f : fr2_F G M) (h : wp_X12_isHandHere S M (336) u1 K) : wp_X12_isHandHere S M (336) u1 K' := by
  refine m_gr (fr2_c_336_7 hG f) h (fun h => ?_)
  refine m_C h (fun h => ?_)
  refine m_Ld h (fun _ h => ?_)
  refine m_C h (fun h => ?_)
  refine m_if h (fun h => ?_) (fun h => ?_)
  · skip
    refine m_and h (fun h => ?_)
    refine fr2_X12_passWord hG (fun _ f1 h => ?_) f h
    refine m_C h (fun h => ?_)
    refine m_C h (fun h => ?_)
    refine m_gr (fr2_c_336_7 hG f1) h (fun h => ?_)
    refine m_C h (fun h => ?_)
    refine m_Ld h (fun _ h => ?_)
    refine m_M h (fun _ h => ?_)
    refine m_A h (fun _ h => ?_)
    refine m_C h (fun h => ?_)
    refine m_gr (fr2_c_336_7 hG f1) h (fun h => ?_)
    refine m_C h (fun h => ?_)
    refine m_Ld h (fun _ h => ?_)
    refine m_C h (fun h => ?_)
    refine m_S h (fun _ h => ?_)
    refine m_and h (fun h => ?_)
    refine fr2_X12_cellHere hG (fun _ _ f2 h => ?_) f1 h
    refine m_if h (fun h => ?_) (fun h => ?_)
    · skip
      refine m_C h (fun h => ?_)
      refine m_and h (fun h => ?_)
      exact k _ _ f2 h
    · skip
      refine m_C h (fun h => ?_)
      refine m_A h (fun _ h => ?_)
      refine m_C h (fun h => ?_)
      refine m_C h (fun h => ?_)
      refine m_and h (fun h => ?_)
      refine fr2_X12_cellHere hG (fun _ _ f3 h => ?_) f2 h
      refine m_if h (fun h => ?_) (fun h => ?_)
      · skip
        refine m_C h (fun h => ?_)
        refine m_and h (fun h => ?_)
        exact k _ _ f3 h
      · skip
        refine m_C h (fun h => ?_)
        refine m_A h (fun _ h => ?_)
        refine m_C h (fun h => ?_)
        refine m_C h (fun h => ?_)
        refine m_and h (fun h => ?_)
        refine fr2_X12_cellHere hG (fun _ _ f4 h => ?_) f3 h
        refine m_if h (fun h => ?_) (fun h => ?_)
        · skip
          refine m_gr (fr2_c_336_7 hG f4) h (fun h => ?_)
          refine m_C h (fun h => ?_)
          refine m_A h (fun _ h => ?_)
          refine m_C h (fun h => ?_)
          refine m_St (fr2_up (fr2_a_342 _) f4) h (fun _ f5 h => ?_)
          refine m_gr (fr2_c_336_7 hG f5) h (fun h => ?_)
          refine m_C h (fun h => ?_)
          refine m_A h (fun _ h => ?_)
          refine m_C h (fun h => ?_)
          refine m_St (fr2_up (fr2_a_342 _) f5) h (fun _ f6 h => ?_)
          refine m_gr (fr2_c_336_7 hG f6) h (fun h => ?_)
          refine m_C h (fun h => ?_)
          refine m_Ld h (fun _ h => ?_)
          refine m_C h (fun h => ?_)
          refine m_A h (fun _ h => ?_)
          refine m_St (fr2_up (fr2_a_342 _) f6) h (fun _ f7 h => ?_)
          refine m_C h (fun h => ?_)
          refine m_and h (fun h => ?_)
          exact k _ _ f7 h
        · skip
          refine m_C h (fun h => ?_)
          refine m_and h (fun h => ?_)
          exact k _ _ f4 h
  · skip
    refine m_C h (fun h => ?_)
    refine m_and h (fun h => ?_)
    refine fr2_X12_fails hG (fun _ _ f8 h => ?_) f h
    refine m_and h (fun h => ?_)
    exact k _ _ f8 h
theorem fr2_X12_isJugHere {X G : Mm} {S : Sh} {K K' : Int → Mm → Prop} {M : Mm} {u1 : Int} (hG : Inv X S G) (k : ∀ (a0 : Int) (m : Mm), fr2_F G m → K a0 m → K' a0 m) (f : fr2_F G M) (h : wp_X12_isJugHere S M (336) u1 K) : wp_X12_isJugHere S M (336) u1 K' := by
  refine m_gr (fr2_c_336_7 hG f) h (fun h => ?_)
  refine m_C h (fun h => ?_)
  refine m_Ld h (fun _ h => ?_)
  refine m_C h (fun h => ?_)
  refine m_if h (fun h => ?_) (fun h => ?_)
  · skip
    refine m_and h (fun h => ?_)
    refine fr2_X12_passWord hG (fun _ f1 h => ?_) f h
    refine m_C h (fun h => ?_)
    refine m_C h (fun h => ?_)
    refine m_gr (fr2_c_336_7 hG f1) h (fun h => ?_)
    refine m_C h (fun h => ?_)
    refine m_Ld h (fun _ h => ?_)
    refine m_M h (fun _ h => ?_)
    refine m_A h (fun _ h => ?_)
    refine m_C h (fun h => ?_)
    refine m_gr (fr2_c_336_7 hG f1) h (fun h => ?_)
    refine m_C h (fun h => ?_)
    refine m_Ld h (fun _ h => ?_)
    refine m_C h (fun h => ?_)
    refine m_S h (fun _ h => ?_)
    refine m_and h (fun h => ?_)
    refine fr2_X12_cellHere hG (fun _ _ f2 h => ?_) f1 h
    refine m_if h (fun h => ?_) (fun h => ?_)
    · skip
      refine m_C h (fun h => ?_)
      refine m_and h (fun h => ?_)
      exact k _ _ f2 h
    · skip
      refine m_C h (fun h => ?_)
      refine m_A h (fun _ h => ?_)
      refine m_C h (fun h => ?_)
      refine m_C h (fun h => ?_)
      refine m_and h (fun h => ?_)
      refine fr2_X12_cellHere hG (fun _ _ f3 h => ?_) f2 h
      refine m_if h (fun h => ?_) (fun h => ?_)
      · skip
        refine m_gr (fr2_c_336_7 hG f3) h (fun h => ?_)
        refine m_C h (fun h => ?_)
        refine m_A h (fun _ h => ?_)
        refine m_C h (fun h => ?_)
        refine m_St (fr2_up (fr2_a_342 _) f3) h (fun _ f4 h => ?_)
        refine m_gr (fr2_c_336_7 hG f4) h (fun h => ?_)
        refine m_C h (fun h => ?_)
        refine m_A h (fun _ h => ?_)
        refine m_C h (fun h => ?_)
        refine m_St (fr2_up (fr2_a_342 _) f4) h (fun _ f5 h => ?_)
        refine m_gr (fr2_c_336_7 hG f5) h (fun h => ?_)
        refine m_C h (fun h => ?_)
        refine m_Ld h (fun _ h => ?_)
        refine m_C h (fun h => ?_)
        refine m_A h (fun _ h => ?_)
        refine m_St (fr2_up (fr2_a_342 _) f5) h (fun _ f6 h => ?_)
        refine m_C h (fun h => ?_)
        refine m_and h (fun h => ?_)
        exact k _ _ f6 h
      · skip
        refine m_C h (fun h => ?_)
        refine m_and h (fun h => ?_)
        exact k _ _ f3 h
  · skip
    refine m_C h (fun h => ?_)
    refine m_and h (fun h => ?_)
    refine fr2_X12_fails hG (fun _ _ f7 h => ?_) f h
    refine m_and h (fun h => ?_)
    exact k _ _ f7 h
theorem fr2_X12_isHeatHere {X G : Mm} {S : Sh} {K K' : Int → Mm → Prop} {M : Mm} {u1 : Int} (hG : Inv X S G) (k : ∀ (a0 : Int) (m : Mm), fr2_F G m → K a0 m → K' a0 m) (f : fr2_F G M) (h : wp_X12_isHeatHere S M (336) u1 K) : wp_X12_isHeatHere S M (336) u1 K' := by
  refine m_gr (fr2_c_336_7 hG f) h (fun h => ?_)
  refine m_C h (fun h => ?_)
  refine m_Ld h (fun _ h => ?_)
  refine m_C h (fun h => ?_)
  refine m_if h (fun h => ?_) (fun h => ?_)
  · skip
    refine m_and h (fun h => ?_)
    refine fr2_X12_passWord hG (fun _ f1 h => ?_) f h
    refine m_C h (fun h => ?_)
    refine m_C h (fun h => ?_)
    refine m_gr (fr2_c_336_7 hG f1) h (fun h => ?_)
    refine m_C h (fun h => ?_)
    refine m_Ld h (fun _ h => ?_)
    refine m_M h (fun _ h => ?_)
    refine m_A h (fun _ h => ?_)
    refine m_C h (fun h => ?_)
    refine m_C h (fun h => ?_)
    refine m_and h (fun h => ?_)
    refine fr2_X12_cellHere hG (fun _ _ f2 h => ?_) f1 h
    refine m_if h (fun h => ?_) (fun h => ?_)
    · skip
      refine m_C h (fun h => ?_)
      refine m_and h (fun h => ?_)
      exact k _ _ f2 h
    · skip
      refine m_C h (fun h => ?_)
      refine m_A h (fun _ h => ?_)
      refine m_gr (fr2_c_336_7 hG f2) h (fun h => ?_)
      refine m_Ld h (fun _ h => ?_)
      refine m_C h (fun h => ?_)
      refine m_and h (fun h => ?_)
      refine fr2_X12_cellHere hG (fun _ _ f3 h => ?_) f2 h
      refine m_if h (fun h => ?_) (fun h => ?_)
      · skip
        refine m_C h (fun h => ?_)
        refine m_and h (fun h => ?_)
        exact k _ _ f3 h
      · skip
        refine m_C h (fun h => ?_)
        refine m_A h (fun _ h => ?_)
        refine m_C h (fun h => ?_)
        refine m_C h (fun h => ?_)
        refine m_and h (fun h => ?_)
        refine fr2_X12_cellHere hG (fun _ _ f4 h => ?_) f3 h
        refine m_if h (fun h => ?_) (fun h => ?_)
        · skip
          refine m_gr (fr2_c_336_7 hG f4) h (fun h => ?_)
          refine m_C h (fun h => ?_)
          refine m_Ld h (fun _ h => ?_)
          refine m_C h (fun h => ?_)
          refine m_A h (fun _ h => ?_)
          refine m_St (fr2_up (fr2_a_342 _) f4) h (fun _ f5 h => ?_)
          refine m_C h (fun h => ?_)
          refine m_and h (fun h => ?_)
          exact k _ _ f5 h
        · skip
          refine m_C h (fun h => ?_)
          refine m_and h (fun h => ?_)
          exact k _ _ f4 h
  · skip
    refine m_C h (fun h => ?_)
    refine m_and h (fun h => ?_)
    refine fr2_X12_fails hG (fun _ _ f6 h => ?_) f h
    refine m_and h (fun h => ?_)
    exact k _ _ f6 h
theorem fr2_X12_isWantHere {X G : Mm} {S : Sh} {K K' : Int → Mm → Prop} {M : Mm} {u1 : Int} (hG : Inv X S G) (k : ∀ (a0 : Int) (m : Mm), fr2_F G m → K a0 m → K' a0 m) (f : fr2_F G M) (h : wp_X12_isWantHere S M (336) u1 K) : wp_X12_isWantHere S M (336) u1 K' := by
  refine m_gr (fr2_c_336_7 hG f) h (fun h => ?_)
  refine m_C h (fun h => ?_)
  refine m_Ld h (fun _ h => ?_)
  refine m_C h (fun h => ?_)
  refine m_if h (fun h => ?_) (fun h => ?_)
  · skip
    refine m_and h (fun h => ?_)
    refine fr2_X12_passWord hG (fun _ f1 h => ?_) f h
    refine m_C h (fun h => ?_)
    refine m_C h (fun h => ?_)
    refine m_gr (fr2_c_336_7 hG f1) h (fun h => ?_)
    refine m_C h (fun h => ?_)
    refine m_Ld h (fun _ h => ?_)
    refine m_M h (fun _ h => ?_)
    refine m_A h (fun _ h => ?_)
    refine m_C h (fun h => ?_)
    refine m_gr (fr2_c_336_7 hG f1) h (fun h => ?_)
    refine m_C h (fun h => ?_)
    refine m_Ld h (fun _ h => ?_)
    refine m_C h (fun h => ?_)
    refine m_S h (fun _ h => ?_)
    refine m_and h (fun h => ?_)
    refine fr2_X12_cellHere hG (fun _ _ f2 h => ?_) f1 h
    refine m_if h (fun h => ?_) (fun h => ?_)
    · skip
      refine m_C h (fun h => ?_)
      refine m_and h (fun h => ?_)
      exact k _ _ f2 h
    · skip
      refine m_C h (fun h => ?_)
      refine m_A h (fun _ h => ?_)
      refine m_C h (fun h => ?_)
      refine m_C h (fun h => ?_)
      refine m_and h (fun h => ?_)
      refine fr2_X12_cellHere hG (fun _ _ f3 h => ?_) f2 h
      refine m_if h (fun h => ?_) (fun h => ?_)
      · skip
        refine m_C h (fun h => ?_)
        refine m_and h (fun h => ?_)
        exact k _ _ f3 h
      · skip
        refine m_C h (fun h => ?_)
        refine m_A h (fun _ h => ?_)
        refine m_gr (fr2_c_336_7 hG f3) h (fun h => ?_)
        refine m_C h (fun h => ?_)
        refine m_A h (fun _ h => ?_)
        refine m_Ld h (fun _ h => ?_)
        refine m_C h (fun h => ?_)
        refine m_and h (fun h => ?_)
        refine fr2_X12_cellHere hG (fun _ _ f4 h => ?_) f3 h
        refine m_if h (fun h => ?_) (fun h => ?_)
        · skip
          refine m_C h (fun h => ?_)
          refine m_and h (fun h => ?_)
          exact k _ _ f4 h
        · skip
          refine m_C h (fun h => ?_)
          refine m_A h (fun _ h => ?_)
          refine m_C h (fun h => ?_)
          refine m_C h (fun h => ?_)
          refine m_and h (fun h => ?_)
          refine fr2_X12_cellHere hG (fun _ _ f5 h => ?_) f4 h
          refine m_if h (fun h => ?_) (fun h => ?_)
          · skip
            refine m_gr (fr2_c_336_7 hG f5) h (fun h => ?_)
            refine m_C h (fun h => ?_)
            refine m_gr (fr2_c_336_7 hG f5) h (fun h => ?_)
            refine m_C h (fun h => ?_)
            refine m_Ld h (fun _ h => ?_)
            refine m_A h (fun _ h => ?_)
            refine m_C h (fun h => ?_)
            refine m_St (fr2_up (fr2_a_342 _) f5) h (fun _ f6 h => ?_)
            refine m_gr (fr2_c_336_7 hG f6) h (fun h => ?_)
            refine m_C h (fun h => ?_)
            refine m_Ld h (fun _ h => ?_)
            refine m_C h (fun h => ?_)
            refine m_A h (fun _ h => ?_)
            refine m_St (fr2_up (fr2_a_342 _) f6) h (fun _ f7 h => ?_)
            refine m_C h (fun h => ?_)
            refine m_and h (fun h => ?_)
            exact k _ _ f7 h
          · skip
            refine m_C h (fun h => ?_)
            refine m_and h (fun h => ?_)
            exact k _ _ f5 h
  · skip
    refine m_C h (fun h => ?_)
    refine m_and h (fun h => ?_)
    refine fr2_X12_fails hG (fun _ _ f8 h => ?_) f h
    refine m_and h (fun h => ?_)
    exact k _ _ f8 h
theorem fr2_X12_dairyLineHere {X G : Mm} {S : Sh} {K K' : Int → Mm → Prop} {M : Mm} {u1 : Int} (hG : Inv X S G) (k : ∀ (a0 : Int) (m : Mm), fr2_F G m → K a0 m → K' a0 m) (f : fr2_F G M) (h : wp_X12_dairyLineHere S M (336) u1 K) : wp_X12_dairyLineHere S M (336) u1 K' := by
  refine m_C h (fun h => ?_)
  refine m_and h (fun h => ?_)
  refine fr2_X12_isWord hG (fun _ _ f1 h => ?_) f h
  refine m_if h (fun h => ?_) (fun h => ?_)
  · skip
    refine m_gr (fr2_c_336_7 hG f1) h (fun h => ?_)
    refine m_C h (fun h => ?_)
    refine m_Ld h (fun _ h => ?_)
    refine m_if h (fun h => ?_) (fun h => ?_)
    · skip
      refine m_C h (fun h => ?_)
      refine m_and h (fun h => ?_)
      refine fr2_X12_isWord hG (fun _ _ f2 h => ?_) f1 h
      refine m_if h (fun h => ?_) (fun h => ?_)
      · skip
        refine m_C h (fun h => ?_)
        refine m_and h (fun h => ?_)
        refine fr2_X12_isWord hG (fun _ _ f3 h => ?_) f2 h
        refine m_if h (fun h => ?_) (fun h => ?_)
        · skip
          refine m_C h (fun h => ?_)
          refine m_and h (fun h => ?_)
          refine fr2_X12_isWord hG (fun _ _ f4 h => ?_) f3 h
          refine m_if h (fun h => ?_) (fun h => ?_)
          · skip
            refine m_C h (fun h => ?_)
            refine m_and h (fun h => ?_)
            refine fr2_X12_isWord hG (fun _ _ f5 h => ?_) f4 h
            refine m_if h (fun h => ?_) (fun h => ?_)
            · skip
              refine m_and h (fun h => ?_)
              refine fr2_X12_isWantHere hG (fun _ _ f6 h => ?_) f5 h
              refine m_and h (fun h => ?_)
              exact k _ _ f6 h
            · skip
              refine m_and h (fun h => ?_)
              refine fr2_X12_isHeatHere hG (fun _ _ f7 h => ?_) f5 h
              refine m_and h (fun h => ?_)
              exact k _ _ f7 h
          · skip
            refine m_and h (fun h => ?_)
            refine fr2_X12_isJugHere hG (fun _ _ f8 h => ?_) f4 h
            refine m_and h (fun h => ?_)
            exact k _ _ f8 h
        · skip
          refine m_and h (fun h => ?_)
          refine fr2_X12_isHandHere hG (fun _ _ f9 h => ?_) f3 h
          refine m_and h (fun h => ?_)
          exact k _ _ f9 h
      · skip
        refine m_and h (fun h => ?_)
        refine fr2_X12_isRoadHere hG (fun _ _ f10 h => ?_) f2 h
        refine m_and h (fun h => ?_)
        exact k _ _ f10 h
    · skip
      refine m_C h (fun h => ?_)
      refine m_and h (fun h => ?_)
      refine fr2_X12_fails hG (fun _ _ f11 h => ?_) f1 h
      refine m_and h (fun h => ?_)
      exact k _ _ f11 h
  · skip
    refine m_and h (fun h => ?_)
    refine fr2_X12_isDairyHere hG (fun _ _ f12 h => ?_) f1 h
    refine m_and h (fun h => ?_)
    exact k _ _ f12 h
theorem fr2_X12_makes {X G : Mm} {S : Sh} {K K' : Int → Mm → Prop} {M : Mm} {u1 : Int} (hG : Inv X S G) (k : ∀ (a0 : Int) (m : Mm), fr2_F G m → K a0 m → K' a0 m) (f : fr2_F G M) (h : wp_X12_makes S M (336) u1 K) : wp_X12_makes S M (336) u1 K' := by
  refine m_Get h (fun _ h => ?_)
  refine m_C h (fun h => ?_)
  refine m_if h (fun h => ?_) (fun h => ?_)
  · skip
    refine m_Get h (fun _ h => ?_)
    refine m_C h (fun h => ?_)
    refine m_A h (fun _ h => ?_)
    refine m_Put (fr2_up (by decide) f) h (fun _ f1 h => ?_)
    refine m_C h (fun h => ?_)
    refine m_and h (fun h => ?_)
    exact k _ _ f1 h
  · skip
    refine m_C h (fun h => ?_)
    refine m_and h (fun h => ?_)
    refine fr2_X12_fails hG (fun _ _ f2 h => ?_) f h
    refine m_and h (fun h => ?_)
    exact k _ _ f2 h
theorem fr2_X12_puts {X G : Mm} {S : Sh} {K K' : Mm → Prop} {M : Mm} {u1 : Int} {u2 : Int} (hG : Inv X S G) (k : ∀ (m : Mm), fr2_F G m → K m → K' m) (f : fr2_F G M) (h : wp_X12_puts S M (336) u1 u2 K) : wp_X12_puts S M (336) u1 u2 K' := by
  refine m_gr (fr2_c_336_3 hG f) h (fun h => ?_)
  refine m_C h (fun h => ?_)
  refine m_Get h (fun _ h => ?_)
  refine m_M h (fun _ h => ?_)
  refine m_gr (fr2_c_336_4 hG f) h (fun h => ?_)
  refine m_Get h (fun _ h => ?_)
  refine m_Ld h (fun _ h => ?_)
  refine m_A h (fun _ h => ?_)
  refine m_C h (fun h => ?_)
  refine m_M h (fun _ h => ?_)
  refine m_A h (fun _ h => ?_)
  refine m_St (fr2_up (fr2_a_338 _) f) h (fun _ f1 h => ?_)
  refine m_gr (fr2_c_336_4 hG f1) h (fun h => ?_)
  refine m_Get h (fun _ h => ?_)
  refine m_Ld h (fun _ h => ?_)
  refine m_C h (fun h => ?_)
  refine m_A h (fun _ h => ?_)
  refine m_St (fr2_up (fr2_a_339 _) f1) h (fun _ f2 h => ?_)
  exact k _ f2 h
theorem fr2_X12_wordHere {X G : Mm} {S : Sh} {K K' : Int → Mm → Prop} {M : Mm} (hG : Inv X S G) (k : ∀ (a0 : Int) (m : Mm), fr2_F G m → K a0 m → K' a0 m) (f : fr2_F G M) (h : wp_X12_wordHere S M (336) K) : wp_X12_wordHere S M (336) K' := by
  refine m_C h (fun h => ?_)
  refine m_and h (fun h => ?_)
  refine fr2_X12_isWord hG (fun _ _ f1 h => ?_) f h
  refine m_if h (fun h => ?_) (fun h => ?_)
  · skip
    refine m_C h (fun h => ?_)
    refine m_and h (fun h => ?_)
    refine fr2_X12_isWord hG (fun _ _ f2 h => ?_) f1 h
    refine m_if h (fun h => ?_) (fun h => ?_)
    · skip
      refine m_C h (fun h => ?_)
      refine m_and h (fun h => ?_)
      refine fr2_X12_isWord hG (fun _ _ f3 h => ?_) f2 h
      refine m_if h (fun h => ?_) (fun h => ?_)
      · skip
        refine m_C h (fun h => ?_)
        refine m_and h (fun h => ?_)
        refine fr2_X12_isWord hG (fun _ _ f4 h => ?_) f3 h
        refine m_if h (fun h => ?_) (fun h => ?_)
        · skip
          refine m_C h (fun h => ?_)
          refine m_and h (fun h => ?_)
          refine fr2_X12_isWord hG (fun _ _ f5 h => ?_) f4 h
          refine m_if h (fun h => ?_) (fun h => ?_)
          · skip
            refine m_C h (fun h => ?_)
            refine m_and h (fun h => ?_)
            refine fr2_X12_isWord hG (fun _ _ f6 h => ?_) f5 h
            refine m_if h (fun h => ?_) (fun h => ?_)
            · skip
              refine m_C h (fun h => ?_)
              refine m_and h (fun h => ?_)
              refine fr2_X12_isWord hG (fun _ _ f7 h => ?_) f6 h
              refine m_if h (fun h => ?_) (fun h => ?_)
              · skip
                refine m_C h (fun h => ?_)
                refine m_and h (fun h => ?_)
                refine fr2_X12_isWord hG (fun _ _ f8 h => ?_) f7 h
                refine m_if h (fun h => ?_) (fun h => ?_)
                · skip
                  refine m_C h (fun h => ?_)
                  refine m_and h (fun h => ?_)
                  refine fr2_X12_isWord hG (fun _ _ f9 h => ?_) f8 h
                  refine m_if h (fun h => ?_) (fun h => ?_)
                  · skip
                    refine m_C h (fun h => ?_)
                    refine m_and h (fun h => ?_)
                    refine fr2_X12_isWord hG (fun _ _ f10 h => ?_) f9 h
                    refine m_if h (fun h => ?_) (fun h => ?_)
                    · skip
                      refine m_C h (fun h => ?_)
                      exact k _ _ f10 h
                    · skip
                      refine m_C h (fun h => ?_)
                      exact k _ _ f10 h
                  · skip
                    refine m_C h (fun h => ?_)
                    exact k _ _ f9 h
                · skip
                  refine m_C h (fun h => ?_)
                  exact k _ _ f8 h
              · skip
                refine m_C h (fun h => ?_)
                exact k _ _ f7 h
            · skip
              refine m_C h (fun h => ?_)
              exact k _ _ f6 h
          · skip
            refine m_C h (fun h => ?_)
            exact k _ _ f5 h
        · skip
          refine m_C h (fun h => ?_)
          exact k _ _ f4 h
      · skip
        refine m_C h (fun h => ?_)
        exact k _ _ f3 h
    · skip
      refine m_C h (fun h => ?_)
      exact k _ _ f2 h
  · skip
    refine m_C h (fun h => ?_)
    exact k _ _ f1 h
theorem fr2_X12_value {X G : Mm} {S : Sh} {K K' : Int → Mm → Prop} {M : Mm} (hG : Inv X S G) (k : ∀ (a0 : Int) (m : Mm), fr2_F G m → K a0 m → K' a0 m) (f : fr2_F G M) (h : wp_X12_value S M (336) K) : wp_X12_value S M (336) K' := by
  refine m_and h (fun h => ?_)
  refine fr2_X12_see hG (fun _ _ f1 h => ?_) f h
  refine m_Get h (fun _ h => ?_)
  refine m_Get h (fun _ h => ?_)
  refine m_and h (fun h => ?_)
  refine fr2_X12_isDigit hG (fun _ _ f2 h => ?_) f1 h
  refine m_if h (fun h => ?_) (fun h => ?_)
  · skip
    refine m_and h (fun h => ?_)
    refine fr2_X12_wordHere hG (fun _ _ f3 h => ?_) f2 h
    refine m_if h (fun h => ?_) (fun h => ?_)
    · skip
      refine m_and h (fun h => ?_)
      refine fr2_X12_makes hG (fun _ _ f4 h => ?_) f3 h
      refine m_if h (fun h => ?_) (fun h => ?_)
      · skip
        refine m_and h (fun h => ?_)
        refine fr2_X12_passWord hG (fun _ f5 h => ?_) f4 h
        refine m_C h (fun h => ?_)
        refine m_and h (fun h => ?_)
        refine fr2_X12_puts hG (fun _ f6 h => ?_) f5 h
        refine m_C h (fun h => ?_)
        refine m_and h (fun h => ?_)
        exact k _ _ f6 h
      · skip
        refine m_C h (fun h => ?_)
        refine m_and h (fun h => ?_)
        exact k _ _ f4 h
    · skip
      refine m_C h (fun h => ?_)
      refine m_and h (fun h => ?_)
      refine fr2_X12_fails hG (fun _ _ f7 h => ?_) f3 h
      refine m_and h (fun h => ?_)
      exact k _ _ f7 h
  · skip
    refine m_C h (fun h => ?_)
    refine m_C h (fun h => ?_)
    refine m_and h (fun h => ?_)
    refine fr2_X12_numberHere hG (fun _ _ f8 h => ?_) f2 h
    refine m_if h (fun h => ?_) (fun h => ?_)
    · skip
      refine m_C h (fun h => ?_)
      refine m_and h (fun h => ?_)
      exact k _ _ f8 h
    · skip
      refine m_and h (fun h => ?_)
      refine fr2_X12_makes hG (fun _ _ f9 h => ?_) f8 h
      refine m_if h (fun h => ?_) (fun h => ?_)
      · skip
        refine m_C h (fun h => ?_)
        refine m_Get h (fun _ h => ?_)
        refine m_and h (fun h => ?_)
        refine fr2_X12_puts hG (fun _ f10 h => ?_) f9 h
        refine m_C h (fun h => ?_)
        refine m_and h (fun h => ?_)
        exact k _ _ f10 h
      · skip
        refine m_C h (fun h => ?_)
        refine m_and h (fun h => ?_)
        exact k _ _ f9 h
theorem fr2_X12_term_74 {X G : Mm} {S : Sh} {k9 k9' : Int → Mm → Prop} {K K' : Int → Mm → Prop} {M : Mm} {t0 : Int} (hG : Inv X S G) (kk9 : ∀ (m : Mm), fr2_F G m → k9 (336) m → k9' (336) m) (k : ∀ (a0 : Int) (m : Mm), fr2_F G m → K a0 m → K' a0 m) (f : fr2_F G M) (h : wp_X12_term_74 S k9 K (336) t0 M) : wp_X12_term_74 S k9' K' (336) t0 M := by
  refine m_Get h (fun _ h => ?_)
  refine m_C h (fun h => ?_)
  refine m_A h (fun _ h => ?_)
  refine m_Put (fr2_up (by decide) f) h (fun _ f1 h => ?_)
  refine m_and h (fun h => ?_)
  refine fr2_X12_value hG (fun _ _ f2 h => ?_) f1 h
  refine m_if h (fun h => ?_) (fun h => ?_)
  · skip
    refine m_C h (fun h => ?_)
    refine m_and h (fun h => ?_)
    refine fr2_X12_puts hG (fun _ f3 h => ?_) f2 h
    exact kk9 _ f3 h
  · skip
    refine m_C h (fun h => ?_)
    refine m_and h (fun h => ?_)
    exact k _ _ f2 h
theorem fr2_X12_term_36 {X G : Mm} {S : Sh} {k9 k9' : Int → Mm → Prop} {K K' : Int → Mm → Prop} {M : Mm} (hG : Inv X S G) (kk9 : ∀ (m : Mm), fr2_F G m → k9 (336) m → k9' (336) m) (k : ∀ (a0 : Int) (m : Mm), fr2_F G m → K a0 m → K' a0 m) (f : fr2_F G M) (h : wp_X12_term_36 S k9 K (336) M) : wp_X12_term_36 S k9' K' (336) M := by
  refine m_gr (fr2_c_336_0 hG f) h (fun h => ?_)
  refine m_Get h (fun _ h => ?_)
  refine m_Ld h (fun _ h => ?_)
  refine m_C h (fun h => ?_)
  refine m_if h (fun h => ?_) (fun h => ?_)
  · skip
    refine m_gr (fr2_c_336_0 hG f) h (fun h => ?_)
    refine m_Get h (fun _ h => ?_)
    refine m_Ld h (fun _ h => ?_)
    refine m_C h (fun h => ?_)
    refine m_if h (fun h => ?_) (fun h => ?_)
    · skip
      refine m_C h (fun h => ?_)
      refine fr2_X12_term_74 hG kk9 k f h
    · skip
      refine m_C h (fun h => ?_)
      refine fr2_X12_term_74 hG kk9 k f h
  · skip
    refine m_C h (fun h => ?_)
    refine fr2_X12_term_74 hG kk9 k f h
theorem fr2_X12_term_9 {X G : Mm} {S : Sh} {K K' : Int → Mm → Prop} (hG : Inv X S G) (k : ∀ (a0 : Int) (m : Mm), fr2_F G m → K a0 m → K' a0 m) : ∀ (n : Nat) (M : Mm), fr2_F G M → wp_X12_term_9 S K n (336) M → wp_X12_term_9 S K' n (336) M := by
  intro n
  induction n with
  | zero => intro M f h; exact h
  | succ n ih =>
    intro M f h
    refine m_and h (fun h => ?_)
    refine fr2_X12_see hG (fun _ _ f1 h => ?_) f h
    refine m_C h (fun h => ?_)
    refine m_if h (fun h => ?_) (fun h => ?_)
    · skip
      refine fr2_X12_term_36 hG (fun _ f2 h => ?_) k f1 h
      exact ih _ f2 h
    · skip
      refine m_and h (fun h => ?_)
      refine fr2_X12_see hG (fun _ _ f3 h => ?_) f1 h
      refine m_C h (fun h => ?_)
      refine m_if h (fun h => ?_) (fun h => ?_)
      · skip
        refine fr2_X12_term_36 hG (fun _ f4 h => ?_) k f3 h
        exact ih _ f4 h
      · skip
        refine m_and h (fun h => ?_)
        refine fr2_X12_see hG (fun _ _ f5 h => ?_) f3 h
        refine m_C h (fun h => ?_)
        refine m_if h (fun h => ?_) (fun h => ?_)
        · skip
          refine m_C h (fun h => ?_)
          refine m_and h (fun h => ?_)
          exact k _ _ f5 h
        · skip
          refine fr2_X12_term_36 hG (fun _ f6 h => ?_) k f5 h
          exact ih _ f6 h
theorem fr2_X12_term {X G : Mm} {S : Sh} {K K' : Int → Mm → Prop} {M : Mm} (hG : Inv X S G) (k : ∀ (a0 : Int) (m : Mm), fr2_F G m → K a0 m → K' a0 m) (f : fr2_F G M) (h : wp_X12_term S M (336) K) : wp_X12_term S M (336) K' := by
  refine m_and h (fun h => ?_)
  refine fr2_X12_value hG (fun _ _ f1 h => ?_) f h
  refine m_if h (fun h => ?_) (fun h => ?_)
  · skip
    refine m_ex h (fun n9 h => ?_)
    refine fr2_X12_term_9 hG k _ _ f1 h
  · skip
    refine m_C h (fun h => ?_)
    refine m_and h (fun h => ?_)
    exact k _ _ f1 h
theorem fr2_X12_sum_46 {X G : Mm} {S : Sh} {k9 k9' : Int → Mm → Prop} {K K' : Int → Mm → Prop} {M : Mm} {t0 : Int} (hG : Inv X S G) (kk9 : ∀ (m : Mm), fr2_F G m → k9 (336) m → k9' (336) m) (k : ∀ (a0 : Int) (m : Mm), fr2_F G m → K a0 m → K' a0 m) (f : fr2_F G M) (h : wp_X12_sum_46 S k9 K (336) t0 M) : wp_X12_sum_46 S k9' K' (336) t0 M := by
  refine m_Get h (fun _ h => ?_)
  refine m_C h (fun h => ?_)
  refine m_A h (fun _ h => ?_)
  refine m_Put (fr2_up (by decide) f) h (fun _ f1 h => ?_)
  refine m_and h (fun h => ?_)
  refine fr2_X12_term hG (fun _ _ f2 h => ?_) f1 h
  refine m_if h (fun h => ?_) (fun h => ?_)
  · skip
    refine m_C h (fun h => ?_)
    refine m_and h (fun h => ?_)
    refine fr2_X12_puts hG (fun _ f3 h => ?_) f2 h
    exact kk9 _ f3 h
  · skip
    refine m_C h (fun h => ?_)
    refine m_and h (fun h => ?_)
    exact k _ _ f2 h
theorem fr2_X12_sum_27 {X G : Mm} {S : Sh} {k9 k9' : Int → Mm → Prop} {K K' : Int → Mm → Prop} {M : Mm} (hG : Inv X S G) (kk9 : ∀ (m : Mm), fr2_F G m → k9 (336) m → k9' (336) m) (k : ∀ (a0 : Int) (m : Mm), fr2_F G m → K a0 m → K' a0 m) (f : fr2_F G M) (h : wp_X12_sum_27 S k9 K (336) M) : wp_X12_sum_27 S k9' K' (336) M := by
  refine m_gr (fr2_c_336_0 hG f) h (fun h => ?_)
  refine m_Get h (fun _ h => ?_)
  refine m_Ld h (fun _ h => ?_)
  refine m_C h (fun h => ?_)
  refine m_if h (fun h => ?_) (fun h => ?_)
  · skip
    refine m_C h (fun h => ?_)
    refine fr2_X12_sum_46 hG kk9 k f h
  · skip
    refine m_C h (fun h => ?_)
    refine fr2_X12_sum_46 hG kk9 k f h
theorem fr2_X12_sum_9 {X G : Mm} {S : Sh} {K K' : Int → Mm → Prop} (hG : Inv X S G) (k : ∀ (a0 : Int) (m : Mm), fr2_F G m → K a0 m → K' a0 m) : ∀ (n : Nat) (M : Mm), fr2_F G M → wp_X12_sum_9 S K n (336) M → wp_X12_sum_9 S K' n (336) M := by
  intro n
  induction n with
  | zero => intro M f h; exact h
  | succ n ih =>
    intro M f h
    refine m_and h (fun h => ?_)
    refine fr2_X12_see hG (fun _ _ f1 h => ?_) f h
    refine m_C h (fun h => ?_)
    refine m_if h (fun h => ?_) (fun h => ?_)
    · skip
      refine fr2_X12_sum_27 hG (fun _ f2 h => ?_) k f1 h
      exact ih _ f2 h
    · skip
      refine m_and h (fun h => ?_)
      refine fr2_X12_see hG (fun _ _ f3 h => ?_) f1 h
      refine m_C h (fun h => ?_)
      refine m_if h (fun h => ?_) (fun h => ?_)
      · skip
        refine m_C h (fun h => ?_)
        refine m_and h (fun h => ?_)
        exact k _ _ f3 h
      · skip
        refine fr2_X12_sum_27 hG (fun _ f4 h => ?_) k f3 h
        exact ih _ f4 h
theorem fr2_X12_sum {X G : Mm} {S : Sh} {K K' : Int → Mm → Prop} {M : Mm} (hG : Inv X S G) (k : ∀ (a0 : Int) (m : Mm), fr2_F G m → K a0 m → K' a0 m) (f : fr2_F G M) (h : wp_X12_sum S M (336) K) : wp_X12_sum S M (336) K' := by
  refine m_and h (fun h => ?_)
  refine fr2_X12_term hG (fun _ _ f1 h => ?_) f h
  refine m_if h (fun h => ?_) (fun h => ?_)
  · skip
    refine m_ex h (fun n9 h => ?_)
    refine fr2_X12_sum_9 hG k _ _ f1 h
  · skip
    refine m_C h (fun h => ?_)
    refine m_and h (fun h => ?_)
    exact k _ _ f1 h
theorem fr2_X12_takesWord {X G : Mm} {S : Sh} {K K' : Int → Mm → Prop} {M : Mm} (hG : Inv X S G) (k : ∀ (a0 : Int) (m : Mm), fr2_F G m → K a0 m → K' a0 m) (f : fr2_F G M) (h : wp_X12_takesWord S M (336) (26982) K) : wp_X12_takesWord S M (336) (26982) K' := by
  refine m_and h (fun h => ?_)
  refine fr2_X12_isWord hG (fun _ _ f1 h => ?_) f h
  refine m_if h (fun h => ?_) (fun h => ?_)
  · skip
    refine m_and h (fun h => ?_)
    refine fr2_X12_passWord hG (fun _ f2 h => ?_) f1 h
    refine m_C h (fun h => ?_)
    refine m_and h (fun h => ?_)
    exact k _ _ f2 h
  · skip
    refine m_C h (fun h => ?_)
    refine m_and h (fun h => ?_)
    exact k _ _ f1 h
theorem fr2_X12_opens {X G : Mm} {S : Sh} {K K' : Int → Mm → Prop} {M : Mm} {u1 : Int} (hG : Inv X S G) (k : ∀ (a0 : Int) (m : Mm), fr2_F G m → K a0 m → K' a0 m) (f : fr2_F G M) (h : wp_X12_opens S M (336) u1 K) : wp_X12_opens S M (336) u1 K' := by
  refine m_Get h (fun _ h => ?_)
  refine m_C h (fun h => ?_)
  refine m_if h (fun h => ?_) (fun h => ?_)
  · skip
    refine m_Get h (fun _ h => ?_)
    refine m_C h (fun h => ?_)
    refine m_A h (fun _ h => ?_)
    refine m_Put (fr2_up (by decide) f) h (fun _ f1 h => ?_)
    refine m_gr (fr2_c_336_15 hG f1) h (fun h => ?_)
    refine m_Get h (fun _ h => ?_)
    refine m_St (fr2_up (fr2_a_343 _) f1) h (fun _ f2 h => ?_)
    refine m_Get h (fun _ h => ?_)
    refine m_C h (fun h => ?_)
    refine m_A h (fun _ h => ?_)
    refine m_Put (fr2_up (by decide) f2) h (fun _ f3 h => ?_)
    refine m_C h (fun h => ?_)
    refine m_and h (fun h => ?_)
    exact k _ _ f3 h
  · skip
    refine m_C h (fun h => ?_)
    refine m_Get h (fun _ h => ?_)
    refine m_and h (fun h => ?_)
    refine fr2_X12_fails hG (fun _ _ f4 h => ?_) f h
    refine m_and h (fun h => ?_)
    exact k _ _ f4 h
theorem fr2_X12_compare_152 {X G : Mm} {S : Sh} {K K' : Int → Mm → Prop} {M : Mm} {t0 : Int} (hG : Inv X S G) (k : ∀ (a0 : Int) (m : Mm), fr2_F G m → K a0 m → K' a0 m) (f : fr2_F G M) (h : wp_X12_compare_152 S K (336) t0 M) : wp_X12_compare_152 S K' (336) t0 M := by
  refine m_and h (fun h => ?_)
  refine fr2_X12_sum hG (fun _ _ f1 h => ?_) f h
  refine m_if h (fun h => ?_) (fun h => ?_)
  · skip
    refine m_C h (fun h => ?_)
    refine m_A h (fun _ h => ?_)
    refine m_C h (fun h => ?_)
    refine m_and h (fun h => ?_)
    refine fr2_X12_puts hG (fun _ f2 h => ?_) f1 h
    refine m_C h (fun h => ?_)
    refine m_and h (fun h => ?_)
    exact k _ _ f2 h
  · skip
    refine m_C h (fun h => ?_)
    refine m_and h (fun h => ?_)
    exact k _ _ f1 h
theorem fr2_X12_compare_105 {X G : Mm} {S : Sh} {K K' : Int → Mm → Prop} {M : Mm} {u1 : Int} {u2 : Int} {u3 : Int} (hG : Inv X S G) (k : ∀ (a0 : Int) (m : Mm), fr2_F G m → K a0 m → K' a0 m) (f : fr2_F G M) (h : wp_X12_compare_105 S K (336) u1 u2 u3 M) : wp_X12_compare_105 S K' (336) u1 u2 u3 M := by
  refine m_and h (fun h => ?_)
  refine fr2_X12_makes hG (fun _ _ f1 h => ?_) f h
  refine m_if h (fun h => ?_) (fun h => ?_)
  · skip
    refine m_C h (fun h => ?_)
    refine m_if h (fun h => ?_) (fun h => ?_)
    · skip
      refine m_C h (fun h => ?_)
      refine m_if h (fun h => ?_) (fun h => ?_)
      · skip
        refine m_if h (fun h => ?_) (fun h => ?_)
        · skip
          refine m_C h (fun h => ?_)
          refine fr2_X12_compare_152 hG k f1 h
        · skip
          refine m_C h (fun h => ?_)
          refine fr2_X12_compare_152 hG k f1 h
      · skip
        refine m_C h (fun h => ?_)
        refine fr2_X12_compare_152 hG k f1 h
    · skip
      refine m_if h (fun h => ?_) (fun h => ?_)
      · skip
        refine m_C h (fun h => ?_)
        refine fr2_X12_compare_152 hG k f1 h
      · skip
        refine m_C h (fun h => ?_)
        refine fr2_X12_compare_152 hG k f1 h
  · skip
    refine m_C h (fun h => ?_)
    refine m_and h (fun h => ?_)
    exact k _ _ f1 h
theorem fr2_X12_compare_90 {X G : Mm} {S : Sh} {K K' : Int → Mm → Prop} {M : Mm} {u1 : Int} {u2 : Int} {t0 : Int} (hG : Inv X S G) (k : ∀ (a0 : Int) (m : Mm), fr2_F G m → K a0 m → K' a0 m) (f : fr2_F G M) (h : wp_X12_compare_90 S K (336) u1 u2 t0 M) : wp_X12_compare_90 S K' (336) u1 u2 t0 M := by
  refine m_if h (fun h => ?_) (fun h => ?_)
  · skip
    refine fr2_X12_compare_105 hG k f h
  · skip
    refine m_Get h (fun _ h => ?_)
    refine m_C h (fun h => ?_)
    refine m_A h (fun _ h => ?_)
    refine m_Put (fr2_up (by decide) f) h (fun _ f1 h => ?_)
    refine fr2_X12_compare_105 hG k f1 h
theorem fr2_X12_compare_89 {X G : Mm} {S : Sh} {K K' : Int → Mm → Prop} {M : Mm} {u1 : Int} {u2 : Int} (hG : Inv X S G) (k : ∀ (a0 : Int) (m : Mm), fr2_F G m → K a0 m → K' a0 m) (f : fr2_F G M) (h : wp_X12_compare_89 S K (336) u1 u2 M) : wp_X12_compare_89 S K' (336) u1 u2 M := by
  refine m_C h (fun h => ?_)
  refine fr2_X12_compare_90 hG k f h
theorem fr2_X12_compare_44 {X G : Mm} {S : Sh} {K K' : Int → Mm → Prop} {M : Mm} {u1 : Int} {u2 : Int} (hG : Inv X S G) (k : ∀ (a0 : Int) (m : Mm), fr2_F G m → K a0 m → K' a0 m) (f : fr2_F G M) (h : wp_X12_compare_44 S K (336) u1 u2 M) : wp_X12_compare_44 S K' (336) u1 u2 M := by
  refine m_Get h (fun _ h => ?_)
  refine m_C h (fun h => ?_)
  refine m_A h (fun _ h => ?_)
  refine m_Put (fr2_up (by decide) f) h (fun _ f1 h => ?_)
  refine m_C h (fun h => ?_)
  refine m_if h (fun h => ?_) (fun h => ?_)
  · skip
    refine fr2_X12_compare_89 hG k f1 h
  · skip
    refine m_Get h (fun _ h => ?_)
    refine m_Get h (fun _ h => ?_)
    refine m_if h (fun h => ?_) (fun h => ?_)
    · skip
      refine fr2_X12_compare_89 hG k f1 h
    · skip
      refine m_gr (fr2_c_336_0 hG f1) h (fun h => ?_)
      refine m_Get h (fun _ h => ?_)
      refine m_Ld h (fun _ h => ?_)
      refine m_C h (fun h => ?_)
      refine m_if h (fun h => ?_) (fun h => ?_)
      · skip
        refine fr2_X12_compare_89 hG k f1 h
      · skip
        refine m_C h (fun h => ?_)
        refine fr2_X12_compare_90 hG k f1 h
theorem fr2_X12_compare {X G : Mm} {S : Sh} {K K' : Int → Mm → Prop} {M : Mm} (hG : Inv X S G) (k : ∀ (a0 : Int) (m : Mm), fr2_F G m → K a0 m → K' a0 m) (f : fr2_F G M) (h : wp_X12_compare S M (336) K) : wp_X12_compare S M (336) K' := by
  refine m_and h (fun h => ?_)
  refine fr2_X12_sum hG (fun _ _ f1 h => ?_) f h
  refine m_if h (fun h => ?_) (fun h => ?_)
  · skip
    refine m_and h (fun h => ?_)
    refine fr2_X12_see hG (fun _ _ f2 h => ?_) f1 h
    refine m_Get h (fun _ h => ?_)
    refine m_C h (fun h => ?_)
    refine m_if h (fun h => ?_) (fun h => ?_)
    · skip
      refine fr2_X12_compare_44 hG k f2 h
    · skip
      refine m_C h (fun h => ?_)
      refine m_if h (fun h => ?_) (fun h => ?_)
      · skip
        refine fr2_X12_compare_44 hG k f2 h
      · skip
        refine m_C h (fun h => ?_)
        refine m_if h (fun h => ?_) (fun h => ?_)
        · skip
          refine fr2_X12_compare_44 hG k f2 h
        · skip
          refine m_C h (fun h => ?_)
          refine m_and h (fun h => ?_)
          refine fr2_X12_fails hG (fun _ _ f3 h => ?_) f2 h
          refine m_and h (fun h => ?_)
          exact k _ _ f3 h
  · skip
    refine m_C h (fun h => ?_)
    refine m_and h (fun h => ?_)
    exact k _ _ f1 h
theorem fr2_X12_fact_72 {X G : Mm} {S : Sh} {k2 k2' : Int → Int → Mm → Prop} {K K' : Int → Mm → Prop} {M : Mm} {u1 : Int} (hG : Inv X S G) (kk2 : ∀ (a1 : Int) (m : Mm), fr2_F G m → k2 (336) a1 m → k2' (336) a1 m) (k : ∀ (a0 : Int) (m : Mm), fr2_F G m → K a0 m → K' a0 m) (f : fr2_F G M) (h : wp_X12_fact_72 S k2 K (336) u1 M) : wp_X12_fact_72 S k2' K' (336) u1 M := by
  exact kk2 _ _ f h
theorem fr2_X12_fact_2 {X G : Mm} {S : Sh} {K K' : Int → Mm → Prop} (hG : Inv X S G) (k : ∀ (a0 : Int) (m : Mm), fr2_F G m → K a0 m → K' a0 m) : ∀ (n : Nat) (u1 : Int) (M : Mm), fr2_F G M → wp_X12_fact_2 S K n (336) u1 M → wp_X12_fact_2 S K' n (336) u1 M := by
  intro n
  induction n with
  | zero => intro u1 M f h; exact h
  | succ n ih =>
    intro u1 M f h
    refine m_if h (fun h => ?_) (fun h => ?_)
    · skip
      refine m_and h (fun h => ?_)
      refine fr2_X12_compare hG (fun _ _ f1 h => ?_) f h
      refine m_and h (fun h => ?_)
      exact k _ _ f1 h
    · skip
      refine m_C h (fun h => ?_)
      refine m_and h (fun h => ?_)
      refine fr2_X12_see hG (fun _ _ f2 h => ?_) f h
      refine m_C h (fun h => ?_)
      refine m_and h (fun h => ?_)
      refine fr2_X12_isWord hG (fun _ _ f3 h => ?_) f2 h
      refine m_if h (fun h => ?_) (fun h => ?_)
      · skip
        refine m_C h (fun h => ?_)
        refine m_if h (fun h => ?_) (fun h => ?_)
        · skip
          refine fr2_X12_fact_72 hG (fun _ _ f4 h => ?_) k f3 h
          exact ih _ _ f4 h
        · skip
          refine m_C h (fun h => ?_)
          refine m_and h (fun h => ?_)
          refine fr2_X12_opens hG (fun _ _ f5 h => ?_) f3 h
          refine m_if h (fun h => ?_) (fun h => ?_)
          · skip
            refine m_Get h (fun _ h => ?_)
            refine m_C h (fun h => ?_)
            refine m_A h (fun _ h => ?_)
            refine m_Put (fr2_up (by decide) f5) h (fun _ f6 h => ?_)
            refine m_C h (fun h => ?_)
            refine fr2_X12_fact_72 hG (fun _ _ f7 h => ?_) k f6 h
            exact ih _ _ f7 h
          · skip
            refine m_C h (fun h => ?_)
            refine m_and h (fun h => ?_)
            exact k _ _ f5 h
      · skip
        refine m_C h (fun h => ?_)
        refine m_and h (fun h => ?_)
        refine fr2_X12_opens hG (fun _ _ f8 h => ?_) f3 h
        refine m_if h (fun h => ?_) (fun h => ?_)
        · skip
          refine m_and h (fun h => ?_)
          refine fr2_X12_passWord hG (fun _ f9 h => ?_) f8 h
          refine m_C h (fun h => ?_)
          refine fr2_X12_fact_72 hG (fun _ _ f10 h => ?_) k f9 h
          exact ih _ _ f10 h
        · skip
          refine m_C h (fun h => ?_)
          refine m_and h (fun h => ?_)
          exact k _ _ f8 h
theorem fr2_X12_fact {X G : Mm} {S : Sh} {K K' : Int → Mm → Prop} {M : Mm} (hG : Inv X S G) (k : ∀ (a0 : Int) (m : Mm), fr2_F G m → K a0 m → K' a0 m) (f : fr2_F G M) (h : wp_X12_fact S M (336) K) : wp_X12_fact S M (336) K' := by
  refine m_C h (fun h => ?_)
  refine m_ex h (fun n9 h => ?_)
  refine fr2_X12_fact_2 hG k _ _ _ f h
theorem fr2_X12_strength {X G : Mm} {S : Sh} {K K' : Int → Mm → Prop} {M : Mm} {u0 : Int} (hG : Inv X S G) (k : ∀ (a0 : Int) (m : Mm), fr2_F G m → K a0 m → K' a0 m) (f : fr2_F G M) (h : wp_X12_strength S M u0 K) : wp_X12_strength S M u0 K' := by
  refine m_C h (fun h => ?_)
  refine m_if h (fun h => ?_) (fun h => ?_)
  · skip
    refine m_C h (fun h => ?_)
    refine m_if h (fun h => ?_) (fun h => ?_)
    · skip
      refine m_C h (fun h => ?_)
      refine m_if h (fun h => ?_) (fun h => ?_)
      · skip
        refine m_C h (fun h => ?_)
        exact k _ _ f h
      · skip
        refine m_C h (fun h => ?_)
        exact k _ _ f h
    · skip
      refine m_C h (fun h => ?_)
      exact k _ _ f h
  · skip
    refine m_C h (fun h => ?_)
    exact k _ _ f h
theorem fr2_X12_settles_0 {X G : Mm} {S : Sh} {K K' : Mm → Prop} (hG : Inv X S G) (k : ∀ (m : Mm), fr2_F G m → K m → K' m) : ∀ (n : Nat) (u1 : Int) (M : Mm), fr2_F G M → wp_X12_settles_0 S K n (336) u1 M → wp_X12_settles_0 S K' n (336) u1 M := by
  intro n
  induction n with
  | zero => intro u1 M f h; exact h
  | succ n ih =>
    intro u1 M f h
    refine m_Get h (fun _ h => ?_)
    refine m_if h (fun h => ?_) (fun h => ?_)
    · skip
      exact k _ f h
    · skip
      refine m_gr (fr2_c_336_15 hG f) h (fun h => ?_)
      refine m_Get h (fun _ h => ?_)
      refine m_C h (fun h => ?_)
      refine m_S h (fun _ h => ?_)
      refine m_Ld h (fun _ h => ?_)
      refine fr2_X12_strength hG (fun _ _ f1 h => ?_) f h
      refine m_if h (fun h => ?_) (fun h => ?_)
      · skip
        exact k _ f1 h
      · skip
        refine m_Get h (fun _ h => ?_)
        refine m_C h (fun h => ?_)
        refine m_S h (fun _ h => ?_)
        refine m_Put (fr2_up (by decide) f1) h (fun _ f2 h => ?_)
        refine m_gr (fr2_c_336_15 hG f2) h (fun h => ?_)
        refine m_Get h (fun _ h => ?_)
        refine m_Ld h (fun _ h => ?_)
        refine m_C h (fun h => ?_)
        refine m_and h (fun h => ?_)
        refine fr2_X12_puts hG (fun _ f3 h => ?_) f2 h
        refine m_gr (fr2_c_336_15 hG f3) h (fun h => ?_)
        refine m_Get h (fun _ h => ?_)
        refine m_Ld h (fun _ h => ?_)
        refine m_C h (fun h => ?_)
        refine m_if h (fun h => ?_) (fun h => ?_)
        · skip
          exact ih _ _ f3 h
        · skip
          refine m_Get h (fun _ h => ?_)
          refine m_C h (fun h => ?_)
          refine m_S h (fun _ h => ?_)
          refine m_Put (fr2_up (by decide) f3) h (fun _ f4 h => ?_)
          exact ih _ _ f4 h
theorem fr2_X12_settles {X G : Mm} {S : Sh} {K K' : Mm → Prop} {M : Mm} {u1 : Int} (hG : Inv X S G) (k : ∀ (m : Mm), fr2_F G m → K m → K' m) (f : fr2_F G M) (h : wp_X12_settles S M (336) u1 K) : wp_X12_settles S M (336) u1 K' := by
  refine m_ex h (fun n9 h => ?_)
  refine fr2_X12_settles_0 hG k _ _ _ f h
theorem fr2_X12_isInside_2 {X G : Mm} {S : Sh} {K K' : Int → Mm → Prop} (hG : Inv X S G) (k : ∀ (a0 : Int) (m : Mm), fr2_F G m → K a0 m → K' a0 m) : ∀ (n : Nat) (u1 : Int) (M : Mm), fr2_F G M → wp_X12_isInside_2 S K n (336) u1 M → wp_X12_isInside_2 S K' n (336) u1 M := by
  intro n
  induction n with
  | zero => intro u1 M f h; exact h
  | succ n ih =>
    intro u1 M f h
    refine m_Get h (fun _ h => ?_)
    refine m_if h (fun h => ?_) (fun h => ?_)
    · skip
      refine m_C h (fun h => ?_)
      refine m_and h (fun h => ?_)
      exact k _ _ f h
    · skip
      refine m_gr (fr2_c_336_15 hG f) h (fun h => ?_)
      refine m_Ld h (fun _ h => ?_)
      refine m_C h (fun h => ?_)
      refine m_if h (fun h => ?_) (fun h => ?_)
      · skip
        refine m_A h (fun _ h => ?_)
        exact ih _ _ f h
      · skip
        refine m_C h (fun h => ?_)
        refine m_and h (fun h => ?_)
        exact k _ _ f h
theorem fr2_X12_isInside {X G : Mm} {S : Sh} {K K' : Int → Mm → Prop} {M : Mm} (hG : Inv X S G) (k : ∀ (a0 : Int) (m : Mm), fr2_F G m → K a0 m → K' a0 m) (f : fr2_F G M) (h : wp_X12_isInside S M (336) K) : wp_X12_isInside S M (336) K' := by
  refine m_C h (fun h => ?_)
  refine m_ex h (fun n9 h => ?_)
  refine fr2_X12_isInside_2 hG k _ _ _ f h
theorem fr2_X12_closes_5 {X G : Mm} {S : Sh} {K K' : Mm → Prop} (hG : Inv X S G) (k : ∀ (m : Mm), fr2_F G m → K m → K' m) : ∀ (n : Nat) (M : Mm), fr2_F G M → wp_X12_closes_5 S K n (336) M → wp_X12_closes_5 S K' n (336) M := by
  intro n
  induction n with
  | zero => intro M f h; exact h
  | succ n ih =>
    intro M f h
    refine m_and h (fun h => ?_)
    refine fr2_X12_see hG (fun _ _ f1 h => ?_) f h
    refine m_C h (fun h => ?_)
    refine m_if h (fun h => ?_) (fun h => ?_)
    · skip
      exact k _ f1 h
    · skip
      refine m_and h (fun h => ?_)
      refine fr2_X12_isInside hG (fun _ _ f2 h => ?_) f1 h
      refine m_if h (fun h => ?_) (fun h => ?_)
      · skip
        exact k _ f2 h
      · skip
        refine m_C h (fun h => ?_)
        refine m_and h (fun h => ?_)
        refine fr2_X12_settles hG (fun _ f3 h => ?_) f2 h
        refine m_Get h (fun _ h => ?_)
        refine m_C h (fun h => ?_)
        refine m_S h (fun _ h => ?_)
        refine m_Put (fr2_up (by decide) f3) h (fun _ f4 h => ?_)
        refine m_Get h (fun _ h => ?_)
        refine m_C h (fun h => ?_)
        refine m_S h (fun _ h => ?_)
        refine m_Put (fr2_up (by decide) f4) h (fun _ f5 h => ?_)
        refine m_Get h (fun _ h => ?_)
        refine m_C h (fun h => ?_)
        refine m_A h (fun _ h => ?_)
        refine m_Put (fr2_up (by decide) f5) h (fun _ f6 h => ?_)
        refine m_C h (fun h => ?_)
        refine m_and h (fun h => ?_)
        refine fr2_X12_settles hG (fun _ f7 h => ?_) f6 h
        exact ih _ f7 h
theorem fr2_X12_closes {X G : Mm} {S : Sh} {K K' : Mm → Prop} {M : Mm} (hG : Inv X S G) (k : ∀ (m : Mm), fr2_F G m → K m → K' m) (f : fr2_F G M) (h : wp_X12_closes S M (336) K) : wp_X12_closes S M (336) K' := by
  refine m_C h (fun h => ?_)
  refine m_and h (fun h => ?_)
  refine fr2_X12_settles hG (fun _ f1 h => ?_) f h
  refine m_ex h (fun n9 h => ?_)
  refine fr2_X12_closes_5 hG k _ _ f1 h
theorem fr2_X12_tested_76 {X G : Mm} {S : Sh} {k12 k12' : Int → Int → Mm → Prop} {K K' : Int → Mm → Prop} {M : Mm} {u1 : Int} {t0 : Int} (hG : Inv X S G) (kk12 : ∀ (a1 : Int) (m : Mm), fr2_F G m → k12 (336) a1 m → k12' (336) a1 m) (k : ∀ (a0 : Int) (m : Mm), fr2_F G m → K a0 m → K' a0 m) (f : fr2_F G M) (h : wp_X12_tested_76 S k12 K (336) u1 t0 M) : wp_X12_tested_76 S k12' K' (336) u1 t0 M := by
  refine m_and h (fun h => ?_)
  refine fr2_X12_passWord hG (fun _ f1 h => ?_) f h
  refine fr2_X12_strength hG (fun _ _ f2 h => ?_) f1 h
  refine m_and h (fun h => ?_)
  refine fr2_X12_settles hG (fun _ f3 h => ?_) f2 h
  refine m_gr (fr2_c_336_15 hG f3) h (fun h => ?_)
  refine m_Get h (fun _ h => ?_)
  refine m_St (fr2_up (fr2_a_343 _) f3) h (fun _ f4 h => ?_)
  refine m_Get h (fun _ h => ?_)
  refine m_C h (fun h => ?_)
  refine m_A h (fun _ h => ?_)
  refine m_Put (fr2_up (by decide) f4) h (fun _ f5 h => ?_)
  exact kk12 _ _ f5 h
theorem fr2_X12_tested_54 {X G : Mm} {S : Sh} {k12 k12' : Int → Int → Mm → Prop} {K K' : Int → Mm → Prop} {M : Mm} {t0 : Int} (hG : Inv X S G) (kk12 : ∀ (a1 : Int) (m : Mm), fr2_F G m → k12 (336) a1 m → k12' (336) a1 m) (k : ∀ (a0 : Int) (m : Mm), fr2_F G m → K a0 m → K' a0 m) (f : fr2_F G M) (h : wp_X12_tested_54 S k12 K (336) t0 M) : wp_X12_tested_54 S k12' K' (336) t0 M := by
  refine m_if h (fun h => ?_) (fun h => ?_)
  · skip
    exact kk12 _ _ f h
  · skip
    refine m_C h (fun h => ?_)
    refine m_and h (fun h => ?_)
    refine fr2_X12_isWord hG (fun _ _ f1 h => ?_) f h
    refine m_if h (fun h => ?_) (fun h => ?_)
    · skip
      refine m_C h (fun h => ?_)
      refine fr2_X12_tested_76 hG kk12 k f1 h
    · skip
      refine m_C h (fun h => ?_)
      refine fr2_X12_tested_76 hG kk12 k f1 h
end
section
theorem fr2_X12_tested_49 {X G : Mm} {S : Sh} {k12 k12' : Int → Int → Mm → Prop} {K K' : Int → Mm → Prop} {M : Mm} (hG : Inv X S G) (kk12 : ∀ (a1 : Int) (m : Mm), fr2_F G m → k12 (336) a1 m → k12' (336) a1 m) (k : ∀ (a0 : Int) (m : Mm), fr2_F G m → K a0 m → K' a0 m) (f : fr2_F G M) (h : wp_X12_tested_49 S k12 K (336) M) : wp_X12_tested_49 S k12' K' (336) M := by
  refine m_C h (fun h => ?_)
  refine fr2_X12_tested_54 hG kk12 k f h
theorem fr2_X12_tested_12 {X G : Mm} {S : Sh} {K K' : Int → Mm → Prop} (hG : Inv X S G) (k : ∀ (a0 : Int) (m : Mm), fr2_F G m → K a0 m → K' a0 m) : ∀ (n : Nat) (u1 : Int) (M : Mm), fr2_F G M → wp_X12_tested_12 S K n (336) u1 M → wp_X12_tested_12 S K' n (336) u1 M := by
  intro n
  induction n with
  | zero => intro u1 M f h; exact h
  | succ n ih =>
    intro u1 M f h
    refine m_if h (fun h => ?_) (fun h => ?_)
    · skip
      refine m_and h (fun h => ?_)
      refine fr2_X12_isInside hG (fun _ _ f1 h => ?_) f h
      refine m_if h (fun h => ?_) (fun h => ?_)
      · skip
        refine m_C h (fun h => ?_)
        refine m_and h (fun h => ?_)
        refine fr2_X12_settles hG (fun _ f2 h => ?_) f1 h
        refine m_C h (fun h => ?_)
        refine m_and h (fun h => ?_)
        exact k _ _ f2 h
      · skip
        refine m_and h (fun h => ?_)
        refine fr2_X12_see hG (fun _ _ f3 h => ?_) f1 h
        refine m_C h (fun h => ?_)
        refine m_Get h (fun _ h => ?_)
        refine m_and h (fun h => ?_)
        refine fr2_X12_fails hG (fun _ _ f4 h => ?_) f3 h
        refine m_and h (fun h => ?_)
        exact k _ _ f4 h
    · skip
      refine m_and h (fun h => ?_)
      refine fr2_X12_fact hG (fun _ _ f5 h => ?_) f h
      refine m_if h (fun h => ?_) (fun h => ?_)
      · skip
        refine m_and h (fun h => ?_)
        refine fr2_X12_closes hG (fun _ f6 h => ?_) f5 h
        refine m_C h (fun h => ?_)
        refine m_and h (fun h => ?_)
        refine fr2_X12_isWord hG (fun _ _ f7 h => ?_) f6 h
        refine m_if h (fun h => ?_) (fun h => ?_)
        · skip
          refine fr2_X12_tested_49 hG (fun _ _ f8 h => ?_) k f7 h
          exact ih _ _ f8 h
        · skip
          refine m_C h (fun h => ?_)
          refine m_and h (fun h => ?_)
          refine fr2_X12_isWord hG (fun _ _ f9 h => ?_) f7 h
          refine m_if h (fun h => ?_) (fun h => ?_)
          · skip
            refine m_C h (fun h => ?_)
            refine fr2_X12_tested_54 hG (fun _ _ f10 h => ?_) k f9 h
            exact ih _ _ f10 h
          · skip
            refine fr2_X12_tested_49 hG (fun _ _ f11 h => ?_) k f9 h
            exact ih _ _ f11 h
      · skip
        refine m_C h (fun h => ?_)
        refine m_and h (fun h => ?_)
        exact k _ _ f5 h
theorem fr2_X12_tested {X G : Mm} {S : Sh} {K K' : Int → Mm → Prop} {M : Mm} (hG : Inv X S G) (k : ∀ (a0 : Int) (m : Mm), fr2_F G m → K a0 m → K' a0 m) (f : fr2_F G M) (h : wp_X12_tested S M (336) K) : wp_X12_tested S M (336) K' := by
  refine m_C h (fun h => ?_)
  refine m_Put (fr2_up (by decide) f) h (fun _ f1 h => ?_)
  refine m_C h (fun h => ?_)
  refine m_Put (fr2_up (by decide) f1) h (fun _ f2 h => ?_)
  refine m_C h (fun h => ?_)
  refine m_ex h (fun n9 h => ?_)
  refine fr2_X12_tested_12 hG k _ _ _ f2 h
theorem fr2_X12_isTurnHere_110 {X G : Mm} {S : Sh} {K K' : Int → Mm → Prop} {M : Mm} {u1 : Int} (hG : Inv X S G) (k : ∀ (a0 : Int) (m : Mm), fr2_F G m → K a0 m → K' a0 m) (f : fr2_F G M) (h : wp_X12_isTurnHere_110 S K (336) u1 M) : wp_X12_isTurnHere_110 S K' (336) u1 M := by
  refine m_gr (fr2_c_336_5 hG f) h (fun h => ?_)
  refine m_C h (fun h => ?_)
  refine m_A h (fun _ h => ?_)
  refine m_gr (fr2_c_336_4 hG f) h (fun h => ?_)
  refine m_Get h (fun _ h => ?_)
  refine m_Ld h (fun _ h => ?_)
  refine m_St (fr2_up (fr2_a_340 _) f) h (fun _ f1 h => ?_)
  refine m_gr (fr2_c_336_6 hG f1) h (fun h => ?_)
  refine m_Get h (fun _ h => ?_)
  refine m_Ld h (fun _ h => ?_)
  refine m_C h (fun h => ?_)
  refine m_A h (fun _ h => ?_)
  refine m_St (fr2_up (fr2_a_341 _) f1) h (fun _ f2 h => ?_)
  refine m_C h (fun h => ?_)
  refine m_and h (fun h => ?_)
  exact k _ _ f2 h
theorem fr2_X12_isTurnHere {X G : Mm} {S : Sh} {K K' : Int → Mm → Prop} {M : Mm} (hG : Inv X S G) (k : ∀ (a0 : Int) (m : Mm), fr2_F G m → K a0 m → K' a0 m) (f : fr2_F G M) (h : wp_X12_isTurnHere S M (336) K) : wp_X12_isTurnHere S M (336) K' := by
  refine m_and h (fun h => ?_)
  refine fr2_X12_passWord hG (fun _ f1 h => ?_) f h
  refine m_C h (fun h => ?_)
  refine m_Get h (fun _ h => ?_)
  refine m_M h (fun _ h => ?_)
  refine m_C h (fun h => ?_)
  refine m_gr (fr2_c_336_6 hG f1) h (fun h => ?_)
  refine m_Get h (fun _ h => ?_)
  refine m_Ld h (fun _ h => ?_)
  refine m_M h (fun _ h => ?_)
  refine m_A h (fun _ h => ?_)
  refine m_gr (fr2_c_336_5 hG f1) h (fun h => ?_)
  refine m_gr (fr2_c_336_4 hG f1) h (fun h => ?_)
  refine m_Get h (fun _ h => ?_)
  refine m_Ld h (fun _ h => ?_)
  refine m_St (fr2_up (fr2_a_340 _) f1) h (fun _ f2 h => ?_)
  refine m_and h (fun h => ?_)
  refine fr2_X12_sum hG (fun _ _ f3 h => ?_) f2 h
  refine m_if h (fun h => ?_) (fun h => ?_)
  · skip
    refine m_gr (fr2_c_336_5 hG f3) h (fun h => ?_)
    refine m_C h (fun h => ?_)
    refine m_A h (fun _ h => ?_)
    refine m_gr (fr2_c_336_4 hG f3) h (fun h => ?_)
    refine m_Get h (fun _ h => ?_)
    refine m_Ld h (fun _ h => ?_)
    refine m_St (fr2_up (fr2_a_340 _) f3) h (fun _ f4 h => ?_)
    refine m_gr (fr2_c_336_5 hG f4) h (fun h => ?_)
    refine m_C h (fun h => ?_)
    refine m_A h (fun _ h => ?_)
    refine m_C h (fun h => ?_)
    refine m_St (fr2_up (fr2_a_340 _) f4) h (fun _ f5 h => ?_)
    refine m_C h (fun h => ?_)
    refine m_and h (fun h => ?_)
    refine fr2_X12_takesWord hG (fun _ _ f6 h => ?_) f5 h
    refine m_if h (fun h => ?_) (fun h => ?_)
    · skip
      refine fr2_X12_isTurnHere_110 hG k f6 h
    · skip
      refine m_gr (fr2_c_336_5 hG f6) h (fun h => ?_)
      refine m_C h (fun h => ?_)
      refine m_A h (fun _ h => ?_)
      refine m_gr (fr2_c_336_4 hG f6) h (fun h => ?_)
      refine m_Get h (fun _ h => ?_)
      refine m_Ld h (fun _ h => ?_)
      refine m_St (fr2_up (fr2_a_340 _) f6) h (fun _ f7 h => ?_)
      refine m_and h (fun h => ?_)
      refine fr2_X12_tested hG (fun _ _ f8 h => ?_) f7 h
      refine m_if h (fun h => ?_) (fun h => ?_)
      · skip
        refine fr2_X12_isTurnHere_110 hG k f8 h
      · skip
        refine m_C h (fun h => ?_)
        refine m_and h (fun h => ?_)
        exact k _ _ f8 h
  · skip
    refine m_C h (fun h => ?_)
    refine m_and h (fun h => ?_)
    exact k _ _ f3 h
theorem fr2_X12_clauseHere_71 {X G : Mm} {S : Sh} {K K' : Int → Mm → Prop} {M : Mm} {u1 : Int} {u2 : Int} {t0 : Int} {t1 : Int} (hG : Inv X S G) (k : ∀ (a0 : Int) (m : Mm), fr2_F G m → K a0 m → K' a0 m) (f : fr2_F G M) (h : wp_X12_clauseHere_71 S K (336) u1 u2 t0 t1 M) : wp_X12_clauseHere_71 S K' (336) u1 u2 t0 t1 M := by
  refine m_if h (fun h => ?_) (fun h => ?_)
  · skip
    refine m_Get h (fun _ h => ?_)
    refine m_C h (fun h => ?_)
    refine m_A h (fun _ h => ?_)
    refine m_Put (fr2_up (by decide) f) h (fun _ f1 h => ?_)
    refine m_if h (fun h => ?_) (fun h => ?_)
    · skip
      refine m_and h (fun h => ?_)
      refine fr2_X12_isTurnHere hG (fun _ _ f2 h => ?_) f1 h
      refine m_and h (fun h => ?_)
      exact k _ _ f2 h
    · skip
      refine m_and h (fun h => ?_)
      refine fr2_X12_dairyLineHere hG (fun _ _ f3 h => ?_) f1 h
      refine m_and h (fun h => ?_)
      exact k _ _ f3 h
  · skip
    refine m_C h (fun h => ?_)
    refine m_and h (fun h => ?_)
    refine fr2_X12_fails hG (fun _ _ f4 h => ?_) f h
    refine m_and h (fun h => ?_)
    exact k _ _ f4 h
theorem fr2_X12_clauseHere_56 {X G : Mm} {S : Sh} {K K' : Int → Mm → Prop} {M : Mm} {u1 : Int} {u2 : Int} (hG : Inv X S G) (k : ∀ (a0 : Int) (m : Mm), fr2_F G m → K a0 m → K' a0 m) (f : fr2_F G M) (h : wp_X12_clauseHere_56 S K (336) u1 u2 M) : wp_X12_clauseHere_56 S K' (336) u1 u2 M := by
  refine m_Get h (fun _ h => ?_)
  refine m_if h (fun h => ?_) (fun h => ?_)
  · skip
    refine m_C h (fun h => ?_)
    refine fr2_X12_clauseHere_71 hG k f h
  · skip
    refine m_C h (fun h => ?_)
    refine fr2_X12_clauseHere_71 hG k f h
theorem fr2_X12_clauseHere_49 {X G : Mm} {S : Sh} {K K' : Int → Mm → Prop} {M : Mm} {u1 : Int} (hG : Inv X S G) (k : ∀ (a0 : Int) (m : Mm), fr2_F G m → K a0 m → K' a0 m) (f : fr2_F G M) (h : wp_X12_clauseHere_49 S K (336) u1 M) : wp_X12_clauseHere_49 S K' (336) u1 M := by
  refine m_C h (fun h => ?_)
  refine m_and h (fun h => ?_)
  refine fr2_X12_fails hG (fun _ _ f1 h => ?_) f h
  refine m_and h (fun h => ?_)
  exact k _ _ f1 h
theorem fr2_X12_clauseHere_24 {X G : Mm} {S : Sh} {K K' : Int → Mm → Prop} {M : Mm} {u1 : Int} {t0 : Int} (hG : Inv X S G) (k : ∀ (a0 : Int) (m : Mm), fr2_F G m → K a0 m → K' a0 m) (f : fr2_F G M) (h : wp_X12_clauseHere_24 S K (336) u1 t0 M) : wp_X12_clauseHere_24 S K' (336) u1 t0 M := by
  refine m_if h (fun h => ?_) (fun h => ?_)
  · skip
    refine m_C h (fun h => ?_)
    refine m_and h (fun h => ?_)
    refine fr2_X12_isWord hG (fun _ _ f1 h => ?_) f h
    refine m_if h (fun h => ?_) (fun h => ?_)
    · skip
      refine fr2_X12_clauseHere_56 hG k f1 h
    · skip
      refine fr2_X12_clauseHere_49 hG k f1 h
  · skip
    refine m_and h (fun h => ?_)
    refine fr2_X12_isDairyWord hG (fun _ _ f2 h => ?_) f h
    refine m_if h (fun h => ?_) (fun h => ?_)
    · skip
      refine fr2_X12_clauseHere_56 hG k f2 h
    · skip
      refine fr2_X12_clauseHere_49 hG k f2 h
theorem fr2_X12_clauseHere {X G : Mm} {S : Sh} {K K' : Int → Mm → Prop} {M : Mm} (hG : Inv X S G) (k : ∀ (a0 : Int) (m : Mm), fr2_F G m → K a0 m → K' a0 m) (f : fr2_F G M) (h : wp_X12_clauseHere S M (336) K) : wp_X12_clauseHere S M (336) K' := by
  refine m_and h (fun h => ?_)
  refine fr2_X12_see hG (fun _ _ f1 h => ?_) f h
  refine m_Get h (fun _ h => ?_)
  refine m_Get h (fun _ h => ?_)
  refine m_C h (fun h => ?_)
  refine m_if h (fun h => ?_) (fun h => ?_)
  · skip
    refine m_C h (fun h => ?_)
    refine fr2_X12_clauseHere_24 hG k f1 h
  · skip
    refine m_C h (fun h => ?_)
    refine fr2_X12_clauseHere_24 hG k f1 h
theorem fr2_X12_readsAll_88 {X G : Mm} {S : Sh} {K K' : Int → Mm → Prop} {M : Mm} (hG : Inv X S G) (k : ∀ (a0 : Int) (m : Mm), fr2_F G m → K a0 m → K' a0 m) (f : fr2_F G M) (h : wp_X12_readsAll_88 S K (336) M) : wp_X12_readsAll_88 S K' (336) M := by
  refine m_C h (fun h => ?_)
  refine m_Put (fr2_up (by decide) f) h (fun _ f1 h => ?_)
  refine m_Get h (fun _ h => ?_)
  refine m_if h (fun h => ?_) (fun h => ?_)
  · skip
    refine m_C h (fun h => ?_)
    refine m_and h (fun h => ?_)
    exact k _ _ f1 h
  · skip
    refine m_C h (fun h => ?_)
    refine m_and h (fun h => ?_)
    exact k _ _ f1 h
theorem fr2_X12_readsAll_66 {X G : Mm} {S : Sh} {K K' : Int → Mm → Prop} {M : Mm} {u1 : Int} (hG : Inv X S G) (k : ∀ (a0 : Int) (m : Mm), fr2_F G m → K a0 m → K' a0 m) (f : fr2_F G M) (h : wp_X12_readsAll_66 S K (336) u1 M) : wp_X12_readsAll_66 S K' (336) u1 M := by
  refine m_if h (fun h => ?_) (fun h => ?_)
  · skip
    refine fr2_X12_readsAll_88 hG k f h
  · skip
    refine m_and h (fun h => ?_)
    refine fr2_X12_see hG (fun _ _ f1 h => ?_) f h
    refine m_C h (fun h => ?_)
    refine m_if h (fun h => ?_) (fun h => ?_)
    · skip
      refine fr2_X12_readsAll_88 hG k f1 h
    · skip
      refine m_C h (fun h => ?_)
      refine m_Get h (fun _ h => ?_)
      refine m_and h (fun h => ?_)
      refine fr2_X12_fails hG (fun _ _ f2 h => ?_) f1 h
      refine fr2_X12_readsAll_88 hG k f2 h
theorem fr2_X12_readsAll_35 {X G : Mm} {S : Sh} {K K' : Int → Mm → Prop} (hG : Inv X S G) (k : ∀ (a0 : Int) (m : Mm), fr2_F G m → K a0 m → K' a0 m) : ∀ (n : Nat) (u1 : Int) (M : Mm), fr2_F G M → wp_X12_readsAll_35 S K n (336) u1 M → wp_X12_readsAll_35 S K' n (336) u1 M := by
  intro n
  induction n with
  | zero => intro u1 M f h; exact h
  | succ n ih =>
    intro u1 M f h
    refine m_if h (fun h => ?_) (fun h => ?_)
    · skip
      refine fr2_X12_readsAll_66 hG k f h
    · skip
      refine m_and h (fun h => ?_)
      refine fr2_X12_see hG (fun _ _ f1 h => ?_) f h
      refine m_C h (fun h => ?_)
      refine m_if h (fun h => ?_) (fun h => ?_)
      · skip
        refine fr2_X12_readsAll_66 hG k f1 h
      · skip
        refine m_Get h (fun _ h => ?_)
        refine m_C h (fun h => ?_)
        refine m_A h (fun _ h => ?_)
        refine m_Put (fr2_up (by decide) f1) h (fun _ f2 h => ?_)
        refine m_and h (fun h => ?_)
        refine fr2_X12_clauseHere hG (fun _ _ f3 h => ?_) f2 h
        exact ih _ _ f3 h
theorem fr2_X12_readsAll {X G : Mm} {S : Sh} {K K' : Int → Mm → Prop} {M : Mm} (hG : Inv X S G) (k : ∀ (a0 : Int) (m : Mm), fr2_F G m → K a0 m → K' a0 m) (f : fr2_F G M) (h : wp_X12_readsAll S M (336) K) : wp_X12_readsAll S M (336) K' := by
  refine m_gr (fr2_c_336_4 hG f) h (fun h => ?_)
  refine m_Get h (fun _ h => ?_)
  refine m_C h (fun h => ?_)
  refine m_St (fr2_up (fr2_a_339 _) f) h (fun _ f1 h => ?_)
  refine m_C h (fun h => ?_)
  refine m_Put (fr2_up (by decide) f1) h (fun _ f2 h => ?_)
  refine m_C h (fun h => ?_)
  refine m_Put (fr2_up (by decide) f2) h (fun _ f3 h => ?_)
  refine m_C h (fun h => ?_)
  refine m_Put (fr2_up (by decide) f3) h (fun _ f4 h => ?_)
  refine m_C h (fun h => ?_)
  refine m_Put (fr2_up (by decide) f4) h (fun _ f5 h => ?_)
  refine m_and h (fun h => ?_)
  refine fr2_X12_clauseHere hG (fun _ _ f6 h => ?_) f5 h
  refine m_ex h (fun n9 h => ?_)
  refine fr2_X12_readsAll_35 hG k _ _ _ f6 h
end
section
theorem zx_keepsAct {X : Mm} {S : Sh} {m0 : Mm} {K : Mm → Prop} (hS : Shp S) (hm0 : Inv X S m0)  (hk : ∀ (M2 : Mm) (u s : Int), Inv X S M2 → 0 ≤ u → u ≤ 19 → M2 336 25 = u + 1 → ((s = 0 ∧ u = m0 336 25) ∨ (s = 57 ∧ u = 19 ∧ m0 336 25 = 20)) → (∀ c p : Int, ¬ c = 347 → ¬ (c = 336 ∧ p = 25) → M2 c p = m0 c p) → (∀ j : Int, 0 ≤ j → j < 57 → M2 347 (57 * u + j) = m0 346 j) → (∀ p : Int, 0 ≤ p → p < 57 * u → M2 347 p = m0 347 (p + s)) → K M2) : wp_X12_keepsAct S m0 336 K := by
  have f24 := hm0.f_336_24
  have f20 := hm0.f_336_20
  refine u_X12_keepsAct ?_
  refine g_get 25 0 20 rfl hS.k336 hm0.f_336_25 (fun v ev bv cv => ?_)
  refine g_C ?_
  refine g_if (fun w => ?_) (fun w => ?_)
  · refine k_52 (u := v) hS f24 f20 ev.symm bv (by omega) (fun M2 z1 z2 z3 => hk M2 v 0 ?_ bv (by omega) z1 (Or.inl ⟨rfl, ev⟩) (fun c p a1 a2 => z2 c p (by omega) a2) z3 (fun p a1 a2 => by rw [Int.add_zero]; exact z2 347 p (by omega) (by omega)))
    exact k_inv (s := 0) hm0 bv (by omega) z1 (Or.inl ⟨rfl, ev⟩) (fun c p a1 a2 => z2 c p (by omega) a2) z3 (fun p a1 a2 => by rw [Int.add_zero]; exact z2 347 p (by omega) (by omega)) (fun p a1 a2 => z2 347 p (by omega) (by omega))
  · refine g_C ?_
    have L : ∀ (n : Nat) (k : Int) (M2 : Mm), 57 ≤ k → k ≤ 1140 → (∀ c p : Int, ¬ (c = 347 ∧ 0 ≤ p ∧ p < k - 57) → M2 c p = m0 c p) → (∀ p : Int, 0 ≤ p → p < k - 57 → M2 347 p = m0 347 (p + 57)) → 1141 - k ≤ (n : Int) → wp_X12_keepsAct_12 S K n 336 k M2 := by
      intro n
      induction n with
      | zero => intro k M2 _ _ _ _ h5; exfalso; omega
      | succ n ih =>
        intro k M2 a1 a2 a3 a4 a5
        have e24 : M2 336 24 = 347 := (a3 336 24 (by omega)).trans f24
        have e20 : M2 336 20 = 346 := (a3 336 20 (by omega)).trans f20
        have e25 : M2 336 25 = v := (a3 336 25 (by omega)).trans ev.symm
        refine u_X12_keepsAct_12 ?_
        refine g_C ?_
        refine g_if (fun w => ?_) (fun w => ?_)
        · refine g_getu 25 rfl hS.k336 (fun x ex => ?_)
          refine g_C ?_
          refine g_S (by omega) (by omega) ?_
          refine g_putR 25 rfl hS.k336 (fun M3 e3 => ?_)
          have x25 : M3 336 25 = 19 := by rw [e3, up_at]; omega
          refine k_52 (u := 19) hS ?_ ?_ x25 (by omega) (by omega) (fun M4 z1 z2 z3 => ?_)
          · rw [e3, up_ne (by omega)]; exact e24
          · rw [e3, up_ne (by omega)]; exact e20
          · have w1 : ∀ c p : Int, ¬ c = 347 → ¬ (c = 336 ∧ p = 25) → M4 c p = m0 c p := fun c p b1 b2 => by
              rw [z2 c p (by omega) b2, e3, up_ne (by omega)]; exact a3 c p (by omega)
            have w2 : ∀ j : Int, 0 ≤ j → j < 57 → M4 347 (57 * 19 + j) = m0 346 j := fun j b1 b2 => by
              rw [z3 j b1 b2, e3, up_ne (by omega)]; exact a3 346 j (by omega)
            have w3 : ∀ p : Int, 0 ≤ p → p < 57 * 19 → M4 347 p = m0 347 (p + 57) := fun p b1 b2 => by
              rw [z2 347 p (by omega) (by omega), e3, up_ne (by omega)]; exact a4 p b1 (by omega)
            exact hk M4 19 57 (k_inv (s := 57) (u := 19) hm0 (by omega) (by omega) z1 (Or.inr ⟨rfl, rfl, by omega⟩) w1 w2 w3 (fun p b1 b2 => absurd b1 (by omega))) (by decide) (by decide) z1 (Or.inr ⟨rfl, rfl, by omega⟩) w1 w2 w3
        · refine g_getr 24 347 rfl hS.k336 e24 (by decide) ?_
          refine g_C ?_
          refine g_S (by omega) (by omega) ?_
          refine g_getr 24 347 rfl hS.k336 e24 (by decide) ?_
          refine g_ldu hS.k347 hS.l347 (by omega) (by omega) (fun x ex => ?_)
          refine g_stR hS.k347 hS.l347 (by omega) (by omega) (fun M3 e3 => ?_)
          refine g_A (by omega) (by omega) ?_
          refine ih (k + 1) M3 (by omega) (by omega) (fun c p h1 => ?_) (fun p h1 h2 => ?_) (by omega)
          · rw [e3, up_ne (by omega)]; exact a3 c p (by omega)
          · by_cases z : p = k - 57
            · rw [e3, z, up_at, ex, show k - 57 + 57 = k by omega]
              exact a3 347 k (by omega)
            · rw [e3, up_ne (by omega)]; exact a4 p h1 (by omega)
    exact ⟨1084, L 1084 57 m0 (by omega) (by omega) (fun _ _ _ => rfl) (fun p h1 h2 => absurd h2 (by omega)) (by omega)⟩
theorem zx_keeps {X : Mm} {S : Sh} {m0 : Mm} {K : Mm → Prop} (hS : Shp S) (hm0 : Inv X S m0)  (hk : ∀ (M1 : Mm), Inv (up X (-1) 0 1) S M1 → (∀ c p : Int, ¬ c = 348 → M1 c p = m0 c p) → (∀ j : Int, 0 ≤ j ∧ j < 57 → M1 348 j = m0 346 j) → K M1) : wp_X12_keeps S m0 336 K := by
  refine s_X12_keeps hS hm0.rfm (fun M1 hs hc => hk M1 ?_ (fun c p h => hs c p h) hc)
  refine ⟨fun c p h1 h2 => ?_, fun c p h1 => ?_, fun i h1 h2 => ?_, ?_, good_fl hm0.good, fun hx p hp => ?_, ?_⟩
  · by_cases e : c = 348
    · subst e
      rw [pT_348.1] at h2
      have q := hm0.1 346 p (by decide) (by rw [pT_348.2]; omega)
      rw [bd_348 p h2]
      have q2 := hc p (by omega)
      rw [show ((348 : Nat) : Int) = 348 from rfl, q2]
      exact q
    · rw [hs c p (by omega)]
      exact hm0.1 c p h1 h2
  · have e2 : spX X c p := by
      have h3 : spP c p ∨ (c = 338 ∧ p < 400 * up X (-1) 0 1 336 2) ∨ (c = 340 ∧ p < 48 * up X (-1) 0 1 336 2) ∨ (c = 341 ∧ p < up X (-1) 0 1 336 2) := h1
      rw [fl_e 336 2 (by decide)] at h3
      exact h3
    rw [fl_e c p (by omega), hs c p (by omega)]
    exact hm0.2.1 c p e2
  · rw [hs 30 i (by decide)]; exact hm0.row30 h1 h2
  · rw [hs 55 1 (by decide)]; exact hm0.row55
  · rw [fl_e 346 p (by decide), hc p (by omega)]
    exact hm0.2.1 346 p (by omega)
  · have q := hm0.pl
    have g4 := hm0.g (c := 346) (p := 4) (by decide)
    have g5 := hm0.g (c := 346) (p := 5) (by decide)
    have b4 := hm0.f_346_4
    have b5 := hm0.f_346_5
    have e6 : M1 346 = m0 346 := funext (fun p => hs 346 p (by decide))
    have e7 : M1 347 = m0 347 := funext (fun p => hs 347 p (by decide))
    have e4 : M1 354 = m0 354 := funext (fun p => hs 354 p (by decide))
    have e5 : M1 336 25 = m0 336 25 := hs 336 25 (by decide)
    unfold PLi at q ⊢
    rw [e6, e7, e4, e5, fl_e 346 0 (by decide), fl_e 346 4 (by decide), fl_e 346 5 (by decide)]
    refine ⟨q.1, fun _ => ⟨fun a a1 a2 => ?_, fun a a1 a2 => ?_⟩, q.2.2⟩
    · rw [hc _ (by omega)]; exact q.1.1 a a1 a2
    · rw [hc _ (by omega)]; exact q.1.2 a a1 a2
theorem zx_laysBack {X : Mm} {S : Sh} {m0 : Mm} {K : Mm → Prop} (hS : Shp S) (hm0 : Inv X S m0) (p0 : X (-1) 0 = 1) (hk : ∀ (M1 : Mm), Inv X S M1 → (∀ a j : Int, ¬ (a = 346 ∧ 0 ≤ j ∧ j < 57) → M1 a j = m0 a j) → (∀ j : Int, 0 ≤ j ∧ j < 57 → M1 346 j = m0 348 j) → K M1) : wp_X12_laysBack S m0 336 K := by
  refine s_X12_laysBack hS hm0.rfm (fun M1 hs hc => hk M1 ?_ hs hc)
  refine ⟨fun c p h1 h2 => ?_, fun c p h1 => ?_, fun i h1 h2 => ?_, ?_, hm0.good, fun hx p hp => ?_, ?_⟩
  · by_cases e : c = 346 ∧ p < 57
    · obtain ⟨e1, e2⟩ := e
      subst e1
      have q := hm0.1 348 p (by decide) (by rw [pT_348.1]; omega)
      rw [bd_348 p e2] at q
      have q2 := hc p (by omega)
      rw [show ((346 : Nat) : Int) = 346 from rfl, q2]
      exact q
    · rw [hs c p (by omega)]
      exact hm0.1 c p h1 h2
  · by_cases e : c = 346
    · subst e
      rw [hc p (by omega), hm0.flag p0 (by omega)]
    · rw [hs c p (by omega)]
      exact hm0.2.1 c p h1
  · rw [hs 30 i (by first | decide | exact fun z => absurd z.1 (by decide) | exact ⟨fun z => absurd z.1 (by decide), fun z => absurd z.1 (by decide)⟩ | omega)]; exact hm0.row30 h1 h2
  · rw [hs 55 1 (by first | decide | exact fun z => absurd z.1 (by decide) | exact ⟨fun z => absurd z.1 (by decide), fun z => absurd z.1 (by decide)⟩ | omega)]; exact hm0.row55
  · rw [hs 348 p (by first | decide | exact fun z => absurd z.1 (by decide) | exact ⟨fun z => absurd z.1 (by decide), fun z => absurd z.1 (by decide)⟩ | omega)]; exact hm0.flag hx hp
  · have q := hm0.pl
    have g4 := hm0.g (c := 346) (p := 4) (by decide)
    have g5 := hm0.g (c := 346) (p := 5) (by decide)
    have b4 := hm0.f_346_4
    have b5 := hm0.f_346_5
    have e8 : M1 348 = m0 348 := funext (fun p => hs 348 p (by first | decide | exact fun z => absurd z.1 (by decide) | exact ⟨fun z => absurd z.1 (by decide), fun z => absurd z.1 (by decide)⟩ | omega))
    have e7 : M1 347 = m0 347 := funext (fun p => hs 347 p (by first | decide | exact fun z => absurd z.1 (by decide) | exact ⟨fun z => absurd z.1 (by decide), fun z => absurd z.1 (by decide)⟩ | omega))
    have e4 : M1 354 = m0 354 := funext (fun p => hs 354 p (by first | decide | exact fun z => absurd z.1 (by decide) | exact ⟨fun z => absurd z.1 (by decide), fun z => absurd z.1 (by decide)⟩ | omega))
    have e5 : M1 336 25 = m0 336 25 := hs 336 25 (by first | decide | exact fun z => absurd z.1 (by decide) | exact ⟨fun z => absurd z.1 (by decide), fun z => absurd z.1 (by decide)⟩ | omega)
    unfold PLi at q ⊢
    rw [e8, e7, e4, e5]
    refine ⟨⟨fun a a1 a2 => ?_, fun a a1 a2 => ?_⟩, q.2⟩
    · rw [hc _ (by omega)]; exact (q.2.1 p0).1 a a1 a2
    · rw [hc _ (by omega)]; exact (q.2.1 p0).2 a a1 a2
theorem ps_cell : ∀ p : Nat, p < 20 → p < pT.getD 29 0 ∧ bd 29 p = (176 + 8 * (p : Int), 176 + 8 * (p : Int)) ∧ (176 + 8 * (p : Int)) ∈ lSt := by decide +kernel
theorem Inv.ps {X : Mm} {S : Sh} {M : Mm} (h : Inv X S M) {i : Int} (h0 : 0 ≤ i) (h1 : i ≤ 19) : M 29 i = 176 + 8 * i := by
  obtain ⟨q0, q1, -⟩ := ps_cell i.toNat (by omega)
  have q := h.rd 29 i.toNat _ _ (by decide) q0 q1 (Int.le_refl _)
  rw [Int.toNat_of_nonneg h0] at q
  exact Int.le_antisymm q.2 q.1
theorem ps_st {i : Int} (h0 : 0 ≤ i) (h1 : i ≤ 19) : isSt (176 + 8 * i) := by
  have q := (ps_cell i.toNat (by omega)).2.2
  rw [Int.toNat_of_nonneg h0] at q
  exact q
theorem rem_20 : ∀ k : Nat, k < 40 → iRem (k : Int) 20 = ((k % 20 : Nat) : Int) := by decide +kernel
theorem rem_20' {v : Int} (h0 : 0 ≤ v) (h1 : v < 40) : iRem v 20 = v % 20 := by
  have q := rem_20 v.toNat (by omega)
  rw [Int.toNat_of_nonneg h0] at q
  rw [q]
  omega
/-- the class keeps its STATE: the row of 20, the next place, how many -/
theorem zx_keepPast {X : Mm} {S : Sh} {m0 : Mm} {K : Mm → Prop} (hS : Shp S) (hm0 : Inv X S m0) (hk : ∀ (i : Int) (M1 : Mm), Inv X S M1 → i = m0 0 4 → 0 ≤ i → i ≤ 19 → (∀ c p : Int, ¬ (176 + 8 * i ≤ c ∧ c ≤ 183 + 8 * i) → ¬ (c = 0 ∧ (p = 4 ∨ p = 5)) → M1 c p = m0 c p) → M1 0 4 = (i + 1) % 20 → (M1 0 5 = m0 0 5 + 1 ∨ (M1 0 5 = 20 ∧ m0 0 5 = 20)) → M1 (176 + 8 * i) 0 = m0 16 0 → M1 (176 + 8 * i) 1 = m0 16 1 → (∀ p : Int, 0 ≤ p → p < 5 → M1 (177 + 8 * i) p = m0 17 p ∧ M1 (178 + 8 * i) p = m0 18 p ∧ M1 (179 + 8 * i) p = m0 19 p) → (∀ p : Int, 0 ≤ p → p < 4 → M1 (180 + 8 * i) p = m0 20 p ∧ M1 (181 + 8 * i) p = m0 21 p ∧ M1 (182 + 8 * i) p = m0 22 p) → (∀ p : Int, 0 ≤ p → p < 6 → M1 (183 + 8 * i) p = m0 23 p) → K M1) : wp_X11_keepPast S m0 0 K := by
  refine u_X11_keepPast ?_
  refine g_getr 3 29 rfl hS.k0 hm0.f_0_3 (by decide) ?_
  refine g_get 4 (0) (19) rfl hS.k0 hm0.f_0_4 (fun i ei bi ci => ?_)
  refine g_ldrB (P := fun c => c = 176 + 8 * i) (fun c hc => by omega) hS.k29 hS.l29 (by omega) (by omega) (hm0.ps bi ci) (fun v2 ev2 hv2 => ?_)
  subst hv2
  have st := ps_st bi ci
  refine g_getr 1 3 rfl hS.k0 hm0.f_0_1 (by decide) ?_
  refine g_getr 1 16 rfl hS.k3 hm0.f_3_1 (by decide) ?_
  refine ⟨hS.kB_5_0 st, ?_⟩
  refine zb_state hS hm0 st (by decide) (Or.inl (by omega)) (fun m3 hm3 f3 a0 a1 a2 a3 a4 a5 a6 a7 a8 => ?_)
  refine g_getu 4 rfl hS.k0 (fun v4 ev4 => ?_)
  rw [f3 0 4 (by first | decide | exact fun z => absurd z.1 (by decide) | exact ⟨fun z => absurd z.1 (by decide), fun z => absurd z.1 (by decide)⟩ | omega), ← ei] at ev4
  refine g_C ?_
  refine g_A (by omega) (by omega) ?_
  refine g_C ?_
  refine ⟨by decide, ?_⟩
  rw [rem_20' (by omega) (by omega)]
  refine g_put 4 rfl hS.k0 (hm3.w_0_4 (by omega) (by omega)) (fun m6 em6 hm6 => ?_)
  have f6 : ∀ c p : Int, ¬ (c = 0 ∧ p = 4) → m6 c p = m3 c p := fun c p q => (congrFun (congrFun em6 _) _).trans (up_ne q)
  have x6 : m6 0 4 = (v4 + 1) % 20 := (congrFun (congrFun em6 _) _).trans (up_at _ _ _ _)
  refine g_C ?_
  refine g_get 5 (0) (20) rfl hS.k0 hm6.f_0_5 (fun v7 ev7 bv7 cv7 => ?_)
  rw [f6 0 5 (by first | decide | exact fun z => absurd z.1 (by decide) | exact ⟨fun z => absurd z.1 (by decide), fun z => absurd z.1 (by decide)⟩ | omega), f3 0 5 (by first | decide | exact fun z => absurd z.1 (by decide) | exact ⟨fun z => absurd z.1 (by decide), fun z => absurd z.1 (by decide)⟩ | omega)] at ev7
  refine g_C ?_
  refine g_A (by omega) (by omega) ?_
  refine g_min (fun v8 bv8 cv8 dv8 => ?_)
  refine g_put 5 rfl hS.k0 (hm6.w_0_5 (by omega) (by omega)) (fun m9 em9 hm9 => ?_)
  have f9 : ∀ c p : Int, ¬ (c = 0 ∧ p = 5) → m9 c p = m6 c p := fun c p q => (congrFun (congrFun em9 _) _).trans (up_ne q)
  have x9 : m9 0 5 = v8 := (congrFun (congrFun em9 _) _).trans (up_at _ _ _ _)
  have g9 : ∀ c p : Int, ¬ c = 0 → m9 c p = m3 c p := fun c p q => by rw [f9 c p (by first | exact fun y => absurd (y.1 ▸ z) (by decide) | exact fun y => absurd (y.1 ▸ q) (by decide) | exact z | exact q | exact z.1 | exact q.1 | exact z.2 | exact q.2 | omega), f6 c p (by first | exact fun y => absurd (y.1 ▸ z) (by decide) | exact fun y => absurd (y.1 ▸ q) (by decide) | exact z | exact q | exact z.1 | exact q.1 | exact z.2 | exact q.2 | omega)]
  refine hk i m9 hm9 ei bi ci (fun c p q1 q2 => ?_) (by rw [f9 0 4 (by first | decide | exact fun z => absurd z.1 (by decide) | exact ⟨fun z => absurd z.1 (by decide), fun z => absurd z.1 (by decide)⟩ | omega), x6]; omega) (by omega) (by rw [g9 _ 0 (by omega)]; exact a0) (by rw [g9 _ 1 (by omega)]; exact a1) (fun p p0 p1 => ⟨?_, ?_, ?_⟩) (fun p p0 p1 => ⟨?_, ?_, ?_⟩) (fun p p0 p1 => ?_)
  · rw [f9 c p (by first | exact fun y => absurd (y.1 ▸ z) (by decide) | exact fun y => absurd (y.1 ▸ q) (by decide) | exact z | exact q | exact z.1 | exact q.1 | exact z.2 | exact q.2 | omega), f6 c p (by first | exact fun y => absurd (y.1 ▸ z) (by decide) | exact fun y => absurd (y.1 ▸ q) (by decide) | exact z | exact q | exact z.1 | exact q.1 | exact z.2 | exact q.2 | omega), f3 c p (by first | exact fun y => absurd (y.1 ▸ z) (by decide) | exact fun y => absurd (y.1 ▸ q) (by decide) | exact z | exact q | exact z.1 | exact q.1 | exact z.2 | exact q.2 | omega)]
  · rw [g9 _ p (by omega), show 177 + 8 * i = 176 + 8 * i + 1 by omega]; exact a2 p p0 p1
  · rw [g9 _ p (by omega), show 178 + 8 * i = 176 + 8 * i + 2 by omega]; exact a3 p p0 p1
  · rw [g9 _ p (by omega), show 179 + 8 * i = 176 + 8 * i + 3 by omega]; exact a4 p p0 p1
  · rw [g9 _ p (by omega), show 180 + 8 * i = 176 + 8 * i + 4 by omega]; exact a5 p p0 p1
  · rw [g9 _ p (by omega), show 181 + 8 * i = 176 + 8 * i + 5 by omega]; exact a6 p p0 p1
  · rw [g9 _ p (by omega), show 182 + 8 * i = 176 + 8 * i + 6 by omega]; exact a7 p p0 p1
  · rw [g9 _ p (by omega), show 183 + 8 * i = 176 + 8 * i + 7 by omega]; exact a8 p p0 p1
theorem zx_undo11 {X : Mm} {S : Sh} {m0 : Mm} {K : Int → Mm → Prop} (hS : Shp S) (hm0 : Inv X S m0) (h0 : m0 0 5 = 0 → K (-1) m0) (hk : ∀ (i : Int) (M1 : Mm), Inv X S M1 → ¬ m0 0 5 = 0 → i = (m0 0 4 + 19) % 20 → 0 ≤ i → i ≤ 19 → (∀ c p : Int, ¬ (16 ≤ c ∧ c ≤ 23) → ¬ (c = 0 ∧ (p = 4 ∨ p = 5)) → M1 c p = m0 c p) → M1 0 4 = i → M1 0 5 = m0 0 5 - 1 → M1 16 0 = m0 (176 + 8 * i) 0 → M1 16 1 = m0 (176 + 8 * i) 1 → (∀ p : Int, 0 ≤ p → p < 5 → M1 17 p = m0 (177 + 8 * i) p ∧ M1 18 p = m0 (178 + 8 * i) p ∧ M1 19 p = m0 (179 + 8 * i) p) → (∀ p : Int, 0 ≤ p → p < 4 → M1 20 p = m0 (180 + 8 * i) p ∧ M1 21 p = m0 (181 + 8 * i) p ∧ M1 22 p = m0 (182 + 8 * i) p) → (∀ p : Int, 0 ≤ p → p < 6 → M1 23 p = m0 (183 + 8 * i) p) → K (m0 0 5 - 1) M1) : wp_X11_undo S m0 0 K := by
  refine u_X11_undo ?_
  refine g_get 5 (0) (20) rfl hS.k0 hm0.f_0_5 (fun v1 ev1 bv1 cv1 => ?_)
  refine g_if (fun w2 => ?_) (fun w2 => g_C (h0 (by omega)))
  refine g_get 4 (0) (19) rfl hS.k0 hm0.f_0_4 (fun v3 ev3 bv3 cv3 => ?_)
  refine g_C ?_
  refine g_A (by omega) (by omega) ?_
  refine g_C ?_
  refine g_S (by omega) (by omega) ?_
  refine g_C ?_
  refine ⟨by decide, ?_⟩
  rw [rem_20' (by omega) (by omega)]
  obtain ⟨i, hi⟩ : ∃ i : Int, i = (v3 + 20 - 1) % 20 := ⟨_, rfl⟩
  rw [← hi]
  have i0 : 0 ≤ i := by omega
  have i1 : i ≤ 19 := by omega
  refine g_put 4 rfl hS.k0 (hm0.w_0_4 (by omega) (by omega)) (fun m5 em5 hm5 => ?_)
  have f5 : ∀ c p : Int, ¬ (c = 0 ∧ p = 4) → m5 c p = m0 c p := fun c p q => (congrFun (congrFun em5 _) _).trans (up_ne q)
  have x5 : m5 0 4 = i := (congrFun (congrFun em5 _) _).trans (up_at _ _ _ _)
  refine g_getu 5 rfl hS.k0 (fun v6 ev6 => ?_)
  rw [f5 0 5 (by first | decide | exact fun z => absurd z.1 (by decide) | exact ⟨fun z => absurd z.1 (by decide), fun z => absurd z.1 (by decide)⟩ | omega)] at ev6
  refine g_C ?_
  refine g_S (by omega) (by omega) ?_
  refine g_put 5 rfl hS.k0 (hm5.w_0_5 (by omega) (by omega)) (fun m7 em7 hm7 => ?_)
  have f7 : ∀ c p : Int, ¬ (c = 0 ∧ p = 5) → m7 c p = m5 c p := fun c p q => (congrFun (congrFun em7 _) _).trans (up_ne q)
  have x7 : m7 0 5 = v6 - 1 := (congrFun (congrFun em7 _) _).trans (up_at _ _ _ _)
  have g7 : ∀ c p : Int, ¬ c = 0 → m7 c p = m0 c p := fun c p q => by rw [f7 c p (by first | exact fun y => absurd (y.1 ▸ z) (by decide) | exact fun y => absurd (y.1 ▸ q) (by decide) | exact z | exact q | exact z.1 | exact q.1 | exact z.2 | exact q.2 | omega), f5 c p (by first | exact fun y => absurd (y.1 ▸ z) (by decide) | exact fun y => absurd (y.1 ▸ q) (by decide) | exact z | exact q | exact z.1 | exact q.1 | exact z.2 | exact q.2 | omega)]
  refine g_getr 1 3 rfl hS.k0 hm7.f_0_1 (by decide) ?_
  refine g_getr 1 16 rfl hS.k3 hm7.f_3_1 (by decide) ?_
  refine g_getr 3 29 rfl hS.k0 hm7.f_0_3 (by decide) ?_
  refine g_getu 4 rfl hS.k0 (fun v8 ev8 => ?_)
  rw [f7 0 4 (by first | decide | exact fun z => absurd z.1 (by decide) | exact ⟨fun z => absurd z.1 (by decide), fun z => absurd z.1 (by decide)⟩ | omega), x5] at ev8
  subst ev8
  refine g_ldrB (P := fun c => c = 176 + 8 * v8) (fun c hc => by omega) hS.k29 hS.l29 (by omega) (by omega) (hm7.ps i0 i1) (fun v9 ev9 hv9 => ?_)
  subst hv9
  have st := ps_st i0 i1
  refine ⟨hS.k16, ?_⟩
  refine zb_state hS hm7 (by decide) st (Or.inr (by omega)) (fun m10 hm10 f10 a0 a1 a2 a3 a4 a5 a6 a7 a8 => ?_)
  refine g_getu 5 rfl hS.k0 (fun v11 ev11 => ?_)
  rw [f10 0 5 (by first | decide | exact fun z => absurd z.1 (by decide) | exact ⟨fun z => absurd z.1 (by decide), fun z => absurd z.1 (by decide)⟩ | omega), x7] at ev11
  rw [show v11 = m0 0 5 - 1 by omega]
  refine hk v8 m10 hm10 (by omega) (by omega) i0 i1 (fun c p q1 q2 => ?_) (by rw [f10 0 4 (by first | decide | exact fun z => absurd z.1 (by decide) | exact ⟨fun z => absurd z.1 (by decide), fun z => absurd z.1 (by decide)⟩ | omega), f7 0 4 (by first | decide | exact fun z => absurd z.1 (by decide) | exact ⟨fun z => absurd z.1 (by decide), fun z => absurd z.1 (by decide)⟩ | omega), x5]) (by rw [f10 0 5 (by first | decide | exact fun z => absurd z.1 (by decide) | exact ⟨fun z => absurd z.1 (by decide), fun z => absurd z.1 (by decide)⟩ | omega), x7]; omega) (by rw [← g7 _ 0 (by omega)]; exact a0) (by rw [← g7 _ 1 (by omega)]; exact a1) (fun p p0 p1 => ⟨?_, ?_, ?_⟩) (fun p p0 p1 => ⟨?_, ?_, ?_⟩) (fun p p0 p1 => ?_)
  · rw [f10 c p (by first | exact fun y => absurd (y.1 ▸ z) (by decide) | exact fun y => absurd (y.1 ▸ q) (by decide) | exact z | exact q | exact z.1 | exact q.1 | exact z.2 | exact q.2 | omega), f7 c p (by first | exact fun y => absurd (y.1 ▸ z) (by decide) | exact fun y => absurd (y.1 ▸ q) (by decide) | exact z | exact q | exact z.1 | exact q.1 | exact z.2 | exact q.2 | omega), f5 c p (by first | exact fun y => absurd (y.1 ▸ z) (by decide) | exact fun y => absurd (y.1 ▸ q) (by decide) | exact z | exact q | exact z.1 | exact q.1 | exact z.2 | exact q.2 | omega)]
  · rw [← g7 _ p (by omega), show 177 + 8 * v8 = 176 + 8 * v8 + 1 by omega]; exact a2 p p0 p1
  · rw [← g7 _ p (by omega), show 178 + 8 * v8 = 176 + 8 * v8 + 2 by omega]; exact a3 p p0 p1
  · rw [← g7 _ p (by omega), show 179 + 8 * v8 = 176 + 8 * v8 + 3 by omega]; exact a4 p p0 p1
  · rw [← g7 _ p (by omega), show 180 + 8 * v8 = 176 + 8 * v8 + 4 by omega]; exact a5 p p0 p1
  · rw [← g7 _ p (by omega), show 181 + 8 * v8 = 176 + 8 * v8 + 5 by omega]; exact a6 p p0 p1
  · rw [← g7 _ p (by omega), show 182 + 8 * v8 = 176 + 8 * v8 + 6 by omega]; exact a7 p p0 p1
  · rw [← g7 _ p (by omega), show 183 + 8 * v8 = 176 + 8 * v8 + 7 by omega]; exact a8 p p0 p1
end
