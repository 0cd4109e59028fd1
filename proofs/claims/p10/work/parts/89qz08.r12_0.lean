/-- what these methods may write -/
abbrev fr2_W (c p : Int) : Prop := (c = 336 ∧ (p = 1 ∨ (8 ≤ p ∧ p ≤ 14) ∨ p = 16)) ∨ (338 ≤ c ∧ c ≤ 343)
def fr2_F (G M : Mm) : Prop := ∀ c p : Int, ¬ fr2_W c p → M c p = G c p
theorem fr2_up {G M : Mm} {x i v : Int} (w : fr2_W x i) (f : fr2_F G M) : fr2_F G (up M x i v) := fun c p q => (up_ne (fun e => by obtain ⟨e1, e2⟩ := e; subst e1; subst e2; exact q w)).trans (f c p q)
theorem fr2_a_338 (i : Int) : fr2_W 338 i := by unfold fr2_W; omega
theorem fr2_a_339 (i : Int) : fr2_W 339 i := by unfold fr2_W; omega
theorem fr2_a_340 (i : Int) : fr2_W 340 i := by unfold fr2_W; omega
theorem fr2_a_341 (i : Int) : fr2_W 341 i := by unfold fr2_W; omega
theorem fr2_a_342 (i : Int) : fr2_W 342 i := by unfold fr2_W; omega
theorem fr2_a_343 (i : Int) : fr2_W 343 i := by unfold fr2_W; omega
theorem fr2_c_336_0 {X G M : Mm} {S : Sh} (hG : Inv X S G) (f : fr2_F G M) : M 336 0 = 337 := (f 336 0 (by decide)).trans hG.f_336_0
theorem fr2_c_336_3 {X G M : Mm} {S : Sh} (hG : Inv X S G) (f : fr2_F G M) : M 336 3 = 338 := (f 336 3 (by decide)).trans hG.f_336_3
theorem fr2_c_336_4 {X G M : Mm} {S : Sh} (hG : Inv X S G) (f : fr2_F G M) : M 336 4 = 339 := (f 336 4 (by decide)).trans hG.f_336_4
theorem fr2_c_336_5 {X G M : Mm} {S : Sh} (hG : Inv X S G) (f : fr2_F G M) : M 336 5 = 340 := (f 336 5 (by decide)).trans hG.f_336_5
theorem fr2_c_336_6 {X G M : Mm} {S : Sh} (hG : Inv X S G) (f : fr2_F G M) : M 336 6 = 341 := (f 336 6 (by decide)).trans hG.f_336_6
theorem fr2_c_336_7 {X G M : Mm} {S : Sh} (hG : Inv X S G) (f : fr2_F G M) : M 336 7 = 342 := (f 336 7 (by decide)).trans hG.f_336_7
theorem fr2_c_336_15 {X G M : Mm} {S : Sh} (hG : Inv X S G) (f : fr2_F G M) : M 336 15 = 343 := (f 336 15 (by decide)).trans hG.f_336_15
theorem fr2_X12_see_38 {X G : Mm} {S : Sh} {K K' : Int → Mm → Prop} {M : Mm} (hG : Inv X S G) (k : ∀ (a0 : Int) (m : Mm), fr2_F G m → K a0 m → K' a0 m) (f : fr2_F G M) (h : wp_X12_see_38 S K (336) M) : wp_X12_see_38 S K' (336) M := by
  refine m_Get h (fun _ h => ?_)
  refine m_Get h (fun _ h => ?_)
  refine m_if h (fun h => ?_) (fun h => ?_)
  · skip
    refine m_C h (fun h => ?_)
    exact k _ _ f h
  · skip
    refine m_gr (fr2_c_336_0 hG f) h (fun h => ?_)
    refine m_Get h (fun _ h => ?_)
    refine m_Ld h (fun _ h => ?_)
    refine m_C h (fun h => ?_)
    refine m_O h (fun _ h => ?_)
    exact k _ _ f h
theorem fr2_X12_see_0 {X G : Mm} {S : Sh} {K K' : Int → Mm → Prop} (hG : Inv X S G) (k : ∀ (a0 : Int) (m : Mm), fr2_F G m → K a0 m → K' a0 m) : ∀ (n : Nat) (M : Mm), fr2_F G M → wp_X12_see_0 S K n (336) M → wp_X12_see_0 S K' n (336) M := by
  intro n
  induction n with
  | zero => intro M f h; exact h
  | succ n ih =>
    intro M f h
    refine m_Get h (fun _ h => ?_)
    refine m_Get h (fun _ h => ?_)
    refine m_if h (fun h => ?_) (fun h => ?_)
    · skip
      refine fr2_X12_see_38 hG k f h
    · skip
      refine m_gr (fr2_c_336_0 hG f) h (fun h => ?_)
      refine m_Get h (fun _ h => ?_)
      refine m_Ld h (fun _ h => ?_)
      refine m_C h (fun h => ?_)
      refine m_if h (fun h => ?_) (fun h => ?_)
      · skip
        refine fr2_X12_see_38 hG k f h
      · skip
        refine m_Get h (fun _ h => ?_)
        refine m_C h (fun h => ?_)
        refine m_A h (fun _ h => ?_)
        refine m_Put (fr2_up (by decide) f) h (fun _ f1 h => ?_)
        exact ih _ f1 h
theorem fr2_X12_see {X G : Mm} {S : Sh} {K K' : Int → Mm → Prop} {M : Mm} (hG : Inv X S G) (k : ∀ (a0 : Int) (m : Mm), fr2_F G m → K a0 m → K' a0 m) (f : fr2_F G M) (h : wp_X12_see S M (336) K) : wp_X12_see S M (336) K' := by
  refine m_ex h (fun n9 h => ?_)
  refine fr2_X12_see_0 hG k _ _ f h
theorem fr2_X12_isLetter {X G : Mm} {S : Sh} {K K' : Int → Mm → Prop} {M : Mm} {u1 : Int} (hG : Inv X S G) (k : ∀ (a0 : Int) (m : Mm), fr2_F G m → K a0 m → K' a0 m) (f : fr2_F G M) (h : wp_X12_isLetter S M (336) u1 K) : wp_X12_isLetter S M (336) u1 K' := by
  refine m_Get h (fun _ h => ?_)
  refine m_if h (fun h => ?_) (fun h => ?_)
  · skip
    refine m_C h (fun h => ?_)
    refine m_and h (fun h => ?_)
    exact k _ _ f h
  · skip
    refine m_gr (fr2_c_336_0 hG f) h (fun h => ?_)
    refine m_Ld h (fun _ h => ?_)
    refine m_C h (fun h => ?_)
    refine m_if h (fun h => ?_) (fun h => ?_)
    · skip
      refine m_C h (fun h => ?_)
      refine m_and h (fun h => ?_)
      exact k _ _ f h
    · skip
      refine m_gr (fr2_c_336_0 hG f) h (fun h => ?_)
      refine m_Ld h (fun _ h => ?_)
      refine m_C h (fun h => ?_)
      refine m_if h (fun h => ?_) (fun h => ?_)
      · skip
        refine m_C h (fun h => ?_)
        refine m_and h (fun h => ?_)
        exact k _ _ f h
      · skip
        refine m_C h (fun h => ?_)
        refine m_and h (fun h => ?_)
        exact k _ _ f h
theorem fr2_X12_isWord_50 {X G : Mm} {S : Sh} {k10 k10' : Int → Int → Int → Int → Mm → Prop} {K K' : Int → Mm → Prop} {M : Mm} {u1 : Int} {u3 : Int} {u5 : Int} (hG : Inv X S G) (kk10 : ∀ (a1 : Int) (a2 : Int) (a3 : Int) (m : Mm), fr2_F G m → k10 (336) a1 a2 a3 m → k10' (336) a1 a2 a3 m) (k : ∀ (a0 : Int) (m : Mm), fr2_F G m → K a0 m → K' a0 m) (f : fr2_F G M) (h : wp_X12_isWord_50 S k10 K (336) u1 u3 u5 M) : wp_X12_isWord_50 S k10' K' (336) u1 u3 u5 M := by
  refine m_A h (fun _ h => ?_)
  exact kk10 _ _ _ _ f h
theorem fr2_X12_isWord_10 {X G : Mm} {S : Sh} {K K' : Int → Mm → Prop} (hG : Inv X S G) (k : ∀ (a0 : Int) (m : Mm), fr2_F G m → K a0 m → K' a0 m) : ∀ (n : Nat) (u1 : Int) (u3 : Int) (u5 : Int) (M : Mm), fr2_F G M → wp_X12_isWord_10 S K n (336) u1 u3 u5 M → wp_X12_isWord_10 S K' n (336) u1 u3 u5 M := by
  intro n
  induction n with
  | zero => intro u1 u3 u5 M f h; exact h
  | succ n ih =>
    intro u1 u3 u5 M f h
    refine m_Get h (fun _ h => ?_)
    refine m_A h (fun _ h => ?_)
    refine m_and h (fun h => ?_)
    refine fr2_X12_isLetter hG (fun _ _ f1 h => ?_) f h
    refine m_if h (fun h => ?_) (fun h => ?_)
    · skip
      refine m_if h (fun h => ?_) (fun h => ?_)
      · skip
        refine m_C h (fun h => ?_)
        refine m_and h (fun h => ?_)
        exact k _ _ f1 h
      · skip
        refine m_C h (fun h => ?_)
        refine m_if h (fun h => ?_) (fun h => ?_)
        · skip
          refine m_C h (fun h => ?_)
          refine m_and h (fun h => ?_)
          exact k _ _ f1 h
        · skip
          refine m_Cmp h (fun _ h => ?_)
          refine m_if h (fun h => ?_) (fun h => ?_)
          · skip
            refine m_C h (fun h => ?_)
            refine m_and h (fun h => ?_)
            exact k _ _ f1 h
          · skip
            refine m_C h (fun h => ?_)
            refine m_and h (fun h => ?_)
            exact k _ _ f1 h
    · skip
      refine m_C h (fun h => ?_)
      refine m_if h (fun h => ?_) (fun h => ?_)
      · skip
        refine fr2_X12_isWord_50 hG (fun _ _ _ _ f2 h => ?_) k f1 h
        exact ih _ _ _ _ f2 h
      · skip
        refine m_C h (fun h => ?_)
        refine m_O h (fun _ h => ?_)
        refine m_gr (fr2_c_336_0 hG f1) h (fun h => ?_)
        refine m_Get h (fun _ h => ?_)
        refine m_A h (fun _ h => ?_)
        refine m_Ld h (fun _ h => ?_)
        refine m_C h (fun h => ?_)
        refine m_O h (fun _ h => ?_)
        refine fr2_X12_isWord_50 hG (fun _ _ _ _ f3 h => ?_) k f1 h
        exact ih _ _ _ _ f3 h
theorem fr2_X12_isWord {X G : Mm} {S : Sh} {K K' : Int → Mm → Prop} {M : Mm} {u1 : Int} (hG : Inv X S G) (k : ∀ (a0 : Int) (m : Mm), fr2_F G m → K a0 m → K' a0 m) (f : fr2_F G M) (h : wp_X12_isWord S M (336) u1 K) : wp_X12_isWord S M (336) u1 K' := by
  refine m_and h (fun h => ?_)
  refine fr2_X12_see hG (fun _ _ f1 h => ?_) f h
  refine m_C h (fun h => ?_)
  refine m_C h (fun h => ?_)
  refine m_ex h (fun n9 h => ?_)
  refine fr2_X12_isWord_10 hG k _ _ _ _ _ f1 h
theorem fr2_X12_isDairyWord_60 {X G : Mm} {S : Sh} {K K' : Int → Mm → Prop} {M : Mm} (hG : Inv X S G) (k : ∀ (a0 : Int) (m : Mm), fr2_F G m → K a0 m → K' a0 m) (f : fr2_F G M) (h : wp_X12_isDairyWord_60 S K M) : wp_X12_isDairyWord_60 S K' M := by
  refine m_C h (fun h => ?_)
  refine m_and h (fun h => ?_)
  exact k _ _ f h
theorem fr2_X12_isDairyWord {X G : Mm} {S : Sh} {K K' : Int → Mm → Prop} {M : Mm} (hG : Inv X S G) (k : ∀ (a0 : Int) (m : Mm), fr2_F G m → K a0 m → K' a0 m) (f : fr2_F G M) (h : wp_X12_isDairyWord S M (336) K) : wp_X12_isDairyWord S M (336) K' := by
  refine m_C h (fun h => ?_)
  refine m_and h (fun h => ?_)
  refine fr2_X12_isWord hG (fun _ _ f1 h => ?_) f h
  refine m_if h (fun h => ?_) (fun h => ?_)
  · skip
    refine fr2_X12_isDairyWord_60 hG k f1 h
  · skip
    refine m_C h (fun h => ?_)
    refine m_and h (fun h => ?_)
    refine fr2_X12_isWord hG (fun _ _ f2 h => ?_) f1 h
    refine m_if h (fun h => ?_) (fun h => ?_)
    · skip
      refine fr2_X12_isDairyWord_60 hG k f2 h
    · skip
      refine m_C h (fun h => ?_)
      refine m_and h (fun h => ?_)
      refine fr2_X12_isWord hG (fun _ _ f3 h => ?_) f2 h
      refine m_if h (fun h => ?_) (fun h => ?_)
      · skip
        refine fr2_X12_isDairyWord_60 hG k f3 h
      · skip
        refine m_C h (fun h => ?_)
        refine m_and h (fun h => ?_)
        refine fr2_X12_isWord hG (fun _ _ f4 h => ?_) f3 h
        refine m_if h (fun h => ?_) (fun h => ?_)
        · skip
          refine fr2_X12_isDairyWord_60 hG k f4 h
        · skip
          refine m_C h (fun h => ?_)
          refine m_and h (fun h => ?_)
          refine fr2_X12_isWord hG (fun _ _ f5 h => ?_) f4 h
          refine m_if h (fun h => ?_) (fun h => ?_)
          · skip
            refine fr2_X12_isDairyWord_60 hG k f5 h
          · skip
            refine m_C h (fun h => ?_)
            refine m_and h (fun h => ?_)
            refine fr2_X12_isWord hG (fun _ _ f6 h => ?_) f5 h
            refine m_if h (fun h => ?_) (fun h => ?_)
            · skip
              refine m_C h (fun h => ?_)
              refine m_and h (fun h => ?_)
              exact k _ _ f6 h
            · skip
              refine fr2_X12_isDairyWord_60 hG k f6 h
theorem fr2_X12_fails {X G : Mm} {S : Sh} {K K' : Int → Mm → Prop} {M : Mm} {u1 : Int} {u2 : Int} (hG : Inv X S G) (k : ∀ (a0 : Int) (m : Mm), fr2_F G m → K a0 m → K' a0 m) (f : fr2_F G M) (h : wp_X12_fails S M (336) u1 u2 K) : wp_X12_fails S M (336) u1 u2 K' := by
  refine m_Get h (fun _ h => ?_)
  refine m_if h (fun h => ?_) (fun h => ?_)
  · skip
    refine m_C h (fun h => ?_)
    refine m_and h (fun h => ?_)
    exact k _ _ f h
  · skip
    refine m_C h (fun h => ?_)
    refine m_C h (fun h => ?_)
    refine m_M h (fun _ h => ?_)
    refine m_A h (fun _ h => ?_)
    refine m_A h (fun _ h => ?_)
    refine m_Put (fr2_up (by decide) f) h (fun _ f1 h => ?_)
    refine m_C h (fun h => ?_)
    refine m_and h (fun h => ?_)
    exact k _ _ f1 h
theorem fr2_X12_passWord_0 {X G : Mm} {S : Sh} {K K' : Mm → Prop} (hG : Inv X S G) (k : ∀ (m : Mm), fr2_F G m → K m → K' m) : ∀ (n : Nat) (M : Mm), fr2_F G M → wp_X12_passWord_0 S K n (336) M → wp_X12_passWord_0 S K' n (336) M := by
  intro n
  induction n with
  | zero => intro M f h; exact h
  | succ n ih =>
    intro M f h
    refine m_Get h (fun _ h => ?_)
    refine m_and h (fun h => ?_)
    refine fr2_X12_isLetter hG (fun _ _ f1 h => ?_) f h
    refine m_if h (fun h => ?_) (fun h => ?_)
    · skip
      exact k _ f1 h
    · skip
      refine m_Get h (fun _ h => ?_)
      refine m_C h (fun h => ?_)
      refine m_A h (fun _ h => ?_)
      refine m_Put (fr2_up (by decide) f1) h (fun _ f2 h => ?_)
      exact ih _ f2 h
theorem fr2_X12_passWord {X G : Mm} {S : Sh} {K K' : Mm → Prop} {M : Mm} (hG : Inv X S G) (k : ∀ (m : Mm), fr2_F G m → K m → K' m) (f : fr2_F G M) (h : wp_X12_passWord S M (336) K) : wp_X12_passWord S M (336) K' := by
  refine m_ex h (fun n9 h => ?_)
  refine fr2_X12_passWord_0 hG k _ _ f h
theorem fr2_X12_isDigit {X G : Mm} {S : Sh} {K K' : Int → Mm → Prop} {M : Mm} {u1 : Int} (hG : Inv X S G) (k : ∀ (a0 : Int) (m : Mm), fr2_F G m → K a0 m → K' a0 m) (f : fr2_F G M) (h : wp_X12_isDigit S M (336) u1 K) : wp_X12_isDigit S M (336) u1 K' := by
  refine m_Get h (fun _ h => ?_)
  refine m_if h (fun h => ?_) (fun h => ?_)
  · skip
    refine m_C h (fun h => ?_)
    refine m_and h (fun h => ?_)
    exact k _ _ f h
  · skip
    refine m_gr (fr2_c_336_0 hG f) h (fun h => ?_)
    refine m_Ld h (fun _ h => ?_)
    refine m_C h (fun h => ?_)
    refine m_if h (fun h => ?_) (fun h => ?_)
    · skip
      refine m_C h (fun h => ?_)
      refine m_and h (fun h => ?_)
      exact k _ _ f h
    · skip
      refine m_gr (fr2_c_336_0 hG f) h (fun h => ?_)
      refine m_Ld h (fun _ h => ?_)
      refine m_C h (fun h => ?_)
      refine m_if h (fun h => ?_) (fun h => ?_)
      · skip
        refine m_C h (fun h => ?_)
        refine m_and h (fun h => ?_)
        exact k _ _ f h
      · skip
        refine m_C h (fun h => ?_)
        refine m_and h (fun h => ?_)
        exact k _ _ f h
theorem fr2_X12_in {X G : Mm} {S : Sh} {K K' : Int → Mm → Prop} {M : Mm} {u0 : Int} {u2 : Int} {u4 : Int} (hG : Inv X S G) (k : ∀ (a0 : Int) (m : Mm), fr2_F G m → K a0 m → K' a0 m) (f : fr2_F G M) (h : wp_X12_in S M u0 u2 u4 K) : wp_X12_in S M u0 u2 u4 K' := by
  refine m_Cmp h (fun _ h => ?_)
  refine m_if h (fun h => ?_) (fun h => ?_)
  · skip
    refine m_C h (fun h => ?_)
    refine m_and h (fun h => ?_)
    exact k _ _ f h
  · skip
    refine m_Cmp h (fun _ h => ?_)
    refine m_if h (fun h => ?_) (fun h => ?_)
    · skip
      refine m_C h (fun h => ?_)
      refine m_and h (fun h => ?_)
      exact k _ _ f h
    · skip
      refine m_C h (fun h => ?_)
      refine m_and h (fun h => ?_)
      exact k _ _ f h
theorem fr2_X12_numberHere_126 {X G : Mm} {S : Sh} {K K' : Int → Mm → Prop} {M : Mm} (hG : Inv X S G) (k : ∀ (a0 : Int) (m : Mm), fr2_F G m → K a0 m → K' a0 m) (f : fr2_F G M) (h : wp_X12_numberHere_126 S K M) : wp_X12_numberHere_126 S K' M := by
  refine m_C h (fun h => ?_)
  refine m_and h (fun h => ?_)
  exact k _ _ f h
theorem fr2_X12_numberHere_117 {X G : Mm} {S : Sh} {K K' : Int → Mm → Prop} {M : Mm} {u3 : Int} (hG : Inv X S G) (k : ∀ (a0 : Int) (m : Mm), fr2_F G m → K a0 m → K' a0 m) (f : fr2_F G M) (h : wp_X12_numberHere_117 S K (336) u3 M) : wp_X12_numberHere_117 S K' (336) u3 M := by
  refine m_C h (fun h => ?_)
  refine m_and h (fun h => ?_)
  refine fr2_X12_fails hG (fun _ _ f1 h => ?_) f h
  refine m_if h (fun h => ?_) (fun h => ?_)
  · skip
    refine m_C h (fun h => ?_)
    refine m_and h (fun h => ?_)
    exact k _ _ f1 h
  · skip
    refine fr2_X12_numberHere_126 hG k f1 h
theorem fr2_X12_numberHere_75 {X G : Mm} {S : Sh} {k34 k34' : Int → Int → Int → Int → Int → Mm → Prop} {K K' : Int → Mm → Prop} {M : Mm} {u1 : Int} {u2 : Int} {u3 : Int} {u4 : Int} (hG : Inv X S G) (kk34 : ∀ (a1 : Int) (a2 : Int) (a3 : Int) (a4 : Int) (m : Mm), fr2_F G m → k34 (336) a1 a2 a3 a4 m → k34' (336) a1 a2 a3 a4 m) (k : ∀ (a0 : Int) (m : Mm), fr2_F G m → K a0 m → K' a0 m) (f : fr2_F G M) (h : wp_X12_numberHere_75 S k34 K (336) u1 u2 u3 u4 M) : wp_X12_numberHere_75 S k34' K' (336) u1 u2 u3 u4 M := by
  refine m_Get h (fun _ h => ?_)
  refine m_C h (fun h => ?_)
  refine m_A h (fun _ h => ?_)
  refine m_Put (fr2_up (by decide) f) h (fun _ f1 h => ?_)
  exact kk34 _ _ _ _ _ f1 h
theorem fr2_X12_numberHere_34 {X G : Mm} {S : Sh} {K K' : Int → Mm → Prop} (hG : Inv X S G) (k : ∀ (a0 : Int) (m : Mm), fr2_F G m → K a0 m → K' a0 m) : ∀ (n : Nat) (u1 : Int) (u2 : Int) (u3 : Int) (u4 : Int) (M : Mm), fr2_F G M → wp_X12_numberHere_34 S K n (336) u1 u2 u3 u4 M → wp_X12_numberHere_34 S K' n (336) u1 u2 u3 u4 M := by
  intro n
  induction n with
  | zero => intro u1 u2 u3 u4 M f h; exact h
  | succ n ih =>
    intro u1 u2 u3 u4 M f h
    refine m_Get h (fun _ h => ?_)
    refine m_and h (fun h => ?_)
    refine fr2_X12_isDigit hG (fun _ _ f1 h => ?_) f h
    refine m_if h (fun h => ?_) (fun h => ?_)
    · skip
      refine m_Put (fr2_up (by decide) f1) h (fun _ f2 h => ?_)
      refine m_Get h (fun _ h => ?_)
      refine m_S h (fun _ h => ?_)
      refine m_C h (fun h => ?_)
      refine m_if h (fun h => ?_) (fun h => ?_)
      · skip
        refine fr2_X12_numberHere_117 hG k f2 h
      · skip
        refine m_C h (fun h => ?_)
        refine m_C h (fun h => ?_)
        refine m_C h (fun h => ?_)
        refine fr2_X12_in hG (fun _ _ f3 h => ?_) f2 h
        refine m_if h (fun h => ?_) (fun h => ?_)
        · skip
          refine fr2_X12_numberHere_126 hG k f3 h
        · skip
          refine fr2_X12_numberHere_117 hG k f3 h
    · skip
      refine m_Get h (fun _ h => ?_)
      refine m_S h (fun _ h => ?_)
      refine m_C h (fun h => ?_)
      refine m_if h (fun h => ?_) (fun h => ?_)
      · skip
        refine fr2_X12_numberHere_75 hG (fun _ _ _ _ _ f4 h => ?_) k f1 h
        exact ih _ _ _ _ _ f4 h
      · skip
        refine m_C h (fun h => ?_)
        refine m_M h (fun _ h => ?_)
        refine m_gr (fr2_c_336_0 hG f1) h (fun h => ?_)
        refine m_Get h (fun _ h => ?_)
        refine m_Ld h (fun _ h => ?_)
        refine m_A h (fun _ h => ?_)
        refine m_C h (fun h => ?_)
        refine m_S h (fun _ h => ?_)
        refine fr2_X12_numberHere_75 hG (fun _ _ _ _ _ f5 h => ?_) k f1 h
        exact ih _ _ _ _ _ f5 h
theorem fr2_X12_numberHere {X G : Mm} {S : Sh} {K K' : Int → Mm → Prop} {M : Mm} {u1 : Int} {u2 : Int} (hG : Inv X S G) (k : ∀ (a0 : Int) (m : Mm), fr2_F G m → K a0 m → K' a0 m) (f : fr2_F G M) (h : wp_X12_numberHere S M (336) u1 u2 K) : wp_X12_numberHere S M (336) u1 u2 K' := by
  refine m_and h (fun h => ?_)
  refine fr2_X12_see hG (fun _ _ f1 h => ?_) f h
  refine m_Get h (fun _ h => ?_)
  refine m_and h (fun h => ?_)
  refine fr2_X12_isDigit hG (fun _ _ f2 h => ?_) f1 h
  refine m_if h (fun h => ?_) (fun h => ?_)
  · skip
    refine m_Get h (fun _ h => ?_)
    refine m_C h (fun h => ?_)
    refine m_ex h (fun n9 h => ?_)
    refine fr2_X12_numberHere_34 hG k _ _ _ _ _ _ f2 h
  · skip
    refine m_C h (fun h => ?_)
    refine m_Get h (fun _ h => ?_)
    refine m_and h (fun h => ?_)
    refine fr2_X12_fails hG (fun _ _ f3 h => ?_) f2 h
    refine m_and h (fun h => ?_)
    exact k _ _ f3 h
theorem fr2_X12_cellHere {X G : Mm} {S : Sh} {K K' : Int → Mm → Prop} {M : Mm} {u1 : Int} {u2 : Int} {u3 : Int} (hG : Inv X S G) (k : ∀ (a0 : Int) (m : Mm), fr2_F G m → K a0 m → K' a0 m) (f : fr2_F G M) (h : wp_X12_cellHere S M (336) u1 u2 u3 K) : wp_X12_cellHere S M (336) u1 u2 u3 K' := by
  refine m_and h (fun h => ?_)
  refine fr2_X12_numberHere hG (fun _ _ f1 h => ?_) f h
  refine m_if h (fun h => ?_) (fun h => ?_)
  · skip
    refine m_gr (fr2_c_336_7 hG f1) h (fun h => ?_)
    refine m_Get h (fun _ h => ?_)
    refine m_St (fr2_up (fr2_a_342 _) f1) h (fun _ f2 h => ?_)
    refine m_C h (fun h => ?_)
    refine m_and h (fun h => ?_)
    exact k _ _ f2 h
  · skip
    refine m_C h (fun h => ?_)
    refine m_and h (fun h => ?_)
    exact k _ _ f1 h
theorem fr2_X12_isDairyHere {X G : Mm} {S : Sh} {K K' : Int → Mm → Prop} {M : Mm} {u1 : Int} (hG : Inv X S G) (k : ∀ (a0 : Int) (m : Mm), fr2_F G m → K a0 m → K' a0 m) (f : fr2_F G M) (h : wp_X12_isDairyHere S M (336) u1 K) : wp_X12_isDairyHere S M (336) u1 K' := by
  refine m_gr (fr2_c_336_7 hG f) h (fun h => ?_)
  refine m_C h (fun h => ?_)
  refine m_Ld h (fun _ h => ?_)
  refine m_if h (fun h => ?_) (fun h => ?_)
  · skip
    refine m_and h (fun h => ?_)
    refine fr2_X12_passWord hG (fun _ f1 h => ?_) f h
    refine m_C h (fun h => ?_)
    refine m_C h (fun h => ?_)
    refine m_and h (fun h => ?_)
    refine fr2_X12_numberHere hG (fun _ _ f2 h => ?_) f1 h
    refine m_if h (fun h => ?_) (fun h => ?_)
    · skip
      refine m_Get h (fun _ h => ?_)
      refine m_C h (fun h => ?_)
      refine m_C h (fun h => ?_)
      refine m_C h (fun h => ?_)
      refine m_and h (fun h => ?_)
      refine fr2_X12_cellHere hG (fun _ _ f3 h => ?_) f2 h
      refine m_if h (fun h => ?_) (fun h => ?_)
      · skip
        refine m_C h (fun h => ?_)
        refine m_and h (fun h => ?_)
        exact k _ _ f3 h
      · skip
        refine m_C h (fun h => ?_)
        refine m_C h (fun h => ?_)
        refine m_C h (fun h => ?_)
        refine m_and h (fun h => ?_)
        refine fr2_X12_cellHere hG (fun _ _ f4 h => ?_) f3 h
        refine m_if h (fun h => ?_) (fun h => ?_)
        · skip
          refine m_gr (fr2_c_336_7 hG f4) h (fun h => ?_)
          refine m_C h (fun h => ?_)
          refine m_St (fr2_up (fr2_a_342 _) f4) h (fun _ f5 h => ?_)
          refine m_C h (fun h => ?_)
          refine m_and h (fun h => ?_)
          exact k _ _ f5 h
        · skip
          refine m_C h (fun h => ?_)
          refine m_and h (fun h => ?_)
          exact k _ _ f4 h
    · skip
      refine m_C h (fun h => ?_)
      refine m_and h (fun h => ?_)
      exact k _ _ f2 h
  · skip
    refine m_C h (fun h => ?_)
    refine m_and h (fun h => ?_)
    refine fr2_X12_fails hG (fun _ _ f6 h => ?_) f h
    refine m_and h (fun h => ?_)
    exact k _ _ f6 h
theorem fr2_X12_isRoadTold_70 {X G : Mm} {S : Sh} {k2 k2' : Int → Int → Int → Int → Mm → Prop} {K K' : Int → Mm → Prop} {M : Mm} {u1 : Int} {u2 : Int} {u3 : Int} (hG : Inv X S G) (kk2 : ∀ (a1 : Int) (a2 : Int) (a3 : Int) (m : Mm), fr2_F G m → k2 (336) a1 a2 a3 m → k2' (336) a1 a2 a3 m) (k : ∀ (a0 : Int) (m : Mm), fr2_F G m → K a0 m → K' a0 m) (f : fr2_F G M) (h : wp_X12_isRoadTold_70 S k2 K (336) u1 u2 u3 M) : wp_X12_isRoadTold_70 S k2' K' (336) u1 u2 u3 M := by
  refine m_A h (fun _ h => ?_)
  exact kk2 _ _ _ _ f h
theorem fr2_X12_isRoadTold_44 {X G : Mm} {S : Sh} {k2 k2' : Int → Int → Int → Int → Mm → Prop} {K K' : Int → Mm → Prop} {M : Mm} {u1 : Int} {u2 : Int} {u3 : Int} {u4 : Int} (hG : Inv X S G) (kk2 : ∀ (a1 : Int) (a2 : Int) (a3 : Int) (m : Mm), fr2_F G m → k2 (336) a1 a2 a3 m → k2' (336) a1 a2 a3 m) (k : ∀ (a0 : Int) (m : Mm), fr2_F G m → K a0 m → K' a0 m) (f : fr2_F G M) (h : wp_X12_isRoadTold_44 S k2 K (336) u1 u2 u3 u4 M) : wp_X12_isRoadTold_44 S k2' K' (336) u1 u2 u3 u4 M := by
  refine m_gr (fr2_c_336_7 hG f) h (fun h => ?_)
  refine m_Ld h (fun _ h => ?_)
  refine m_if h (fun h => ?_) (fun h => ?_)
  · skip
    refine fr2_X12_isRoadTold_70 hG kk2 k f h
  · skip
    refine m_gr (fr2_c_336_7 hG f) h (fun h => ?_)
    refine m_C h (fun h => ?_)
    refine m_A h (fun _ h => ?_)
    refine m_Ld h (fun _ h => ?_)
    refine m_if h (fun h => ?_) (fun h => ?_)
    · skip
      refine fr2_X12_isRoadTold_70 hG kk2 k f h
    · skip
      refine m_C h (fun h => ?_)
      refine m_and h (fun h => ?_)
      exact k _ _ f h
theorem fr2_X12_isRoadTold_2 {X G : Mm} {S : Sh} {K K' : Int → Mm → Prop} (hG : Inv X S G) (k : ∀ (a0 : Int) (m : Mm), fr2_F G m → K a0 m → K' a0 m) : ∀ (n : Nat) (u1 : Int) (u2 : Int) (u3 : Int) (M : Mm), fr2_F G M → wp_X12_isRoadTold_2 S K n (336) u1 u2 u3 M → wp_X12_isRoadTold_2 S K' n (336) u1 u2 u3 M := by
  intro n
  induction n with
  | zero => intro u1 u2 u3 M f h; exact h
  | succ n ih =>
    intro u1 u2 u3 M f h
    refine m_gr (fr2_c_336_7 hG f) h (fun h => ?_)
    refine m_C h (fun h => ?_)
    refine m_Ld h (fun _ h => ?_)
    refine m_if h (fun h => ?_) (fun h => ?_)
    · skip
      refine m_C h (fun h => ?_)
      refine m_and h (fun h => ?_)
      exact k _ _ f h
    · skip
      refine m_C h (fun h => ?_)
      refine m_C h (fun h => ?_)
      refine m_M h (fun _ h => ?_)
      refine m_A h (fun _ h => ?_)
      refine m_gr (fr2_c_336_7 hG f) h (fun h => ?_)
      refine m_Ld h (fun _ h => ?_)
      refine m_if h (fun h => ?_) (fun h => ?_)
      · skip
        refine fr2_X12_isRoadTold_44 hG (fun _ _ _ _ f1 h => ?_) k f h
        exact ih _ _ _ _ f1 h
      · skip
        refine m_gr (fr2_c_336_7 hG f) h (fun h => ?_)
        refine m_C h (fun h => ?_)
        refine m_A h (fun _ h => ?_)
        refine m_Ld h (fun _ h => ?_)
        refine m_if h (fun h => ?_) (fun h => ?_)
        · skip
          refine m_C h (fun h => ?_)
          refine m_and h (fun h => ?_)
          exact k _ _ f h
        · skip
          refine fr2_X12_isRoadTold_44 hG (fun _ _ _ _ f2 h => ?_) k f h
          exact ih _ _ _ _ f2 h
theorem fr2_X12_isRoadTold {X G : Mm} {S : Sh} {K K' : Int → Mm → Prop} {M : Mm} {u1 : Int} {u2 : Int} (hG : Inv X S G) (k : ∀ (a0 : Int) (m : Mm), fr2_F G m → K a0 m → K' a0 m) (f : fr2_F G M) (h : wp_X12_isRoadTold S M (336) u1 u2 K) : wp_X12_isRoadTold S M (336) u1 u2 K' := by
  refine m_C h (fun h => ?_)
  refine m_ex h (fun n9 h => ?_)
  refine fr2_X12_isRoadTold_2 hG k _ _ _ _ _ f h
theorem fr2_X12_isRoadHere_122 {X G : Mm} {S : Sh} {K K' : Int → Mm → Prop} {M : Mm} {u3 : Int} (hG : Inv X S G) (k : ∀ (a0 : Int) (m : Mm), fr2_F G m → K a0 m → K' a0 m) (f : fr2_F G M) (h : wp_X12_isRoadHere_122 S K (336) u3 M) : wp_X12_isRoadHere_122 S K' (336) u3 M := by
  refine m_C h (fun h => ?_)
  refine m_and h (fun h => ?_)
  refine fr2_X12_fails hG (fun _ _ f1 h => ?_) f h
  refine m_and h (fun h => ?_)
  exact k _ _ f1 h
theorem fr2_X12_isRoadHere {X G : Mm} {S : Sh} {K K' : Int → Mm → Prop} {M : Mm} {u1 : Int} (hG : Inv X S G) (k : ∀ (a0 : Int) (m : Mm), fr2_F G m → K a0 m → K' a0 m) (f : fr2_F G M) (h : wp_X12_isRoadHere S M (336) u1 K) : wp_X12_isRoadHere S M (336) u1 K' := by
  refine m_gr (fr2_c_336_7 hG f) h (fun h => ?_)
  refine m_C h (fun h => ?_)
  refine m_Ld h (fun _ h => ?_)
  refine m_C h (fun h => ?_)
  refine m_if h (fun h => ?_) (fun h => ?_)
  · skip
    refine m_and h (fun h => ?_)
    refine fr2_X12_passWord hG (fun _ f1 h => ?_) f h
    refine m_C h (fun h => ?_)
    refine m_C h (fun h => ?_)
    refine m_gr (fr2_c_336_7 hG f1) h (fun h => ?_)
    refine m_C h (fun h => ?_)
    refine m_Ld h (fun _ h => ?_)
    refine m_M h (fun _ h => ?_)
    refine m_A h (fun _ h => ?_)
    refine m_C h (fun h => ?_)
    refine m_gr (fr2_c_336_7 hG f1) h (fun h => ?_)
    refine m_C h (fun h => ?_)
    refine m_Ld h (fun _ h => ?_)
    refine m_C h (fun h => ?_)
    refine m_S h (fun _ h => ?_)
    refine m_and h (fun h => ?_)
    refine fr2_X12_cellHere hG (fun _ _ f2 h => ?_) f1 h
    refine m_if h (fun h => ?_) (fun h => ?_)
    · skip
      refine m_and h (fun h => ?_)
      refine fr2_X12_see hG (fun _ _ f3 h => ?_) f2 h
      refine m_Get h (fun _ h => ?_)
      refine m_C h (fun h => ?_)
      refine m_A h (fun _ h => ?_)
      refine m_C h (fun h => ?_)
      refine m_gr (fr2_c_336_7 hG f3) h (fun h => ?_)
      refine m_C h (fun h => ?_)
      refine m_Ld h (fun _ h => ?_)
      refine m_C h (fun h => ?_)
      refine m_S h (fun _ h => ?_)
      refine m_and h (fun h => ?_)
      refine fr2_X12_cellHere hG (fun _ _ f4 h => ?_) f3 h
      refine m_if h (fun h => ?_) (fun h => ?_)
      · skip
        refine m_gr (fr2_c_336_7 hG f4) h (fun h => ?_)
        refine m_Ld h (fun _ h => ?_)
        refine m_gr (fr2_c_336_7 hG f4) h (fun h => ?_)
        refine m_C h (fun h => ?_)
        refine m_A h (fun _ h => ?_)
        refine m_Ld h (fun _ h => ?_)
        refine m_if h (fun h => ?_) (fun h => ?_)
        · skip
          refine fr2_X12_isRoadHere_122 hG k f4 h
        · skip
          refine m_gr (fr2_c_336_7 hG f4) h (fun h => ?_)
          refine m_Ld h (fun _ h => ?_)
          refine m_gr (fr2_c_336_7 hG f4) h (fun h => ?_)
          refine m_C h (fun h => ?_)
          refine m_A h (fun _ h => ?_)
          refine m_Ld h (fun _ h => ?_)
          refine m_and h (fun h => ?_)
          refine fr2_X12_isRoadTold hG (fun _ _ f5 h => ?_) f4 h
          refine m_if h (fun h => ?_) (fun h => ?_)
          · skip
            refine m_C h (fun h => ?_)
            refine m_A h (fun _ h => ?_)
            refine m_C h (fun h => ?_)
            refine m_C h (fun h => ?_)
            refine m_and h (fun h => ?_)
            refine fr2_X12_cellHere hG (fun _ _ f6 h => ?_) f5 h
            refine m_if h (fun h => ?_) (fun h => ?_)
            · skip
              refine m_gr (fr2_c_336_7 hG f6) h (fun h => ?_)
              refine m_C h (fun h => ?_)
              refine m_Ld h (fun _ h => ?_)
              refine m_C h (fun h => ?_)
              refine m_A h (fun _ h => ?_)
              refine m_St (fr2_up (fr2_a_342 _) f6) h (fun _ f7 h => ?_)
              refine m_C h (fun h => ?_)
              refine m_and h (fun h => ?_)
              exact k _ _ f7 h
            · skip
              refine m_C h (fun h => ?_)
              refine m_and h (fun h => ?_)
              exact k _ _ f6 h
          · skip
            refine fr2_X12_isRoadHere_122 hG k f5 h
      · skip
        refine m_C h (fun h => ?_)
        refine m_and h (fun h => ?_)
        exact k _ _ f4 h
    · skip
      refine m_C h (fun h => ?_)
      refine m_and h (fun h => ?_)
      exact k _ _ f2 h
  · skip
    refine m_C h (fun h => ?_)
    refine m_and h (fun h => ?_)
    refine fr2_X12_fails hG (fun _ _ f8 h => ?_) f h
    refine m_and h (fun h => ?_)
    exact k _ _ f8 h
theorem fr2_X12_isHandHere {X G : Mm} {S : Sh} {K K' : Int → Mm → Prop} {M : Mm} {u1 : Int} (hG : Inv X S G) (k : ∀ (a0 : Int) (m : Mm), fr2_F G m → K a0 m → K' a0 m) (f : fr2_F G M) (h : wp_X12_isHandHere S M (336) u1 K) : wp_X12_isHandHere S M (336) u1 K' := by
  refine m_gr (fr2_c_336_7 hG f) h (fun h => ?_)
  refine m_C h (fun h => ?_)
  refine m_Ld h (fun _ h => ?_)
  refine m_C h (fun h => ?_)
  refine m_if h (fun h => ?_) (fun h => ?_)
  · skip
    refine m_and h (fun h => ?_)
    refine fr2_X12_passWord hG (fun _ f1 h => ?_) f h
    refine m_C h (fun h => ?_)
    refine m_C h (fun h => ?_)
    refine m_gr (fr2_c_336_7 hG f1) h (fun h => ?_)
    refine m_C h (fun h => ?_)
    refine m_Ld h (fun _ h => ?_)
    refine m_M h (fun _ h => ?_)
    refine m_A h (fun _ h => ?_)
    refine m_C h (fun h => ?_)
    refine m_gr (fr2_c_336_7 hG f1) h (fun h => ?_)
    refine m_C h (fun h => ?_)
    refine m_Ld h (fun _ h => ?_)
    refine m_C h (fun h => ?_)
    refine m_S h (fun _ h => ?_)
    refine m_and h (fun h => ?_)
    refine fr2_X12_cellHere hG (fun _ _ f2 h => ?_) f1 h
    refine m_if h (fun h => ?_) (fun h => ?_)
    · skip
      refine m_C h (fun h => ?_)
      refine m_and h (fun h => ?_)
      exact k _ _ f2 h
    · skip
      refine m_C h (fun h => ?_)
      refine m_A h (fun _ h => ?_)
      refine m_C h (fun h => ?_)
      refine m_C h (fun h => ?_)
      refine m_and h (fun h => ?_)
      refine fr2_X12_cellHere hG (fun _ _ f3 h => ?_) f2 h
      refine m_if h (fun h => ?_) (fun h => ?_)
      · skip
        refine m_C h (fun h => ?_)
        refine m_and h (fun h => ?_)
        exact k _ _ f3 h
      · skip
        refine m_C h (fun h => ?_)
        refine m_A h (fun _ h => ?_)
        refine m_C h (fun h => ?_)
        refine m_C h (fun h => ?_)
        refine m_and h (fun h => ?_)
        refine fr2_X12_cellHere hG (fun _ _ f4 h => ?_) f3 h
        refine m_if h (fun h => ?_) (fun h => ?_)
        · skip
          refine m_gr (fr2_c_336_7 hG f4) h (fun h => ?_)
          refine m_C h (fun h => ?_)
          refine m_A h (fun _ h => ?_)
          refine m_C h (fun h => ?_)
          refine m_St (fr2_up (fr2_a_342 _) f4) h (fun _ f5 h => ?_)
          refine m_gr (fr2_c_336_7 hG f5) h (fun h => ?_)
          refine m_C h (fun h => ?_)
          refine m_A h (fun _ h => ?_)
          refine m_C h (fun h => ?_)
          refine m_St (fr2_up (fr2_a_342 _) f5) h (fun _ f6 h => ?_)
          refine m_gr (fr2_c_336_7 hG f6) h (fun h => ?_)
          refine m_C h (fun h => ?_)
          refine m_Ld h (fun _ h => ?_)
          refine m_C h (fun h => ?_)
          refine m_A h (fun _ h => ?_)
          refine m_St (fr2_up (fr2_a_342 _) f6) h (fun _ f7 h => ?_)
          refine m_C h (fun h => ?_)
          refine m_and h (fun h => ?_)
          exact k _ _ f7 h
        · skip
          refine m_C h (fun h => ?_)
          refine m_and h (fun h => ?_)
          exact k _ _ f4 h
  · skip
    refine m_C h (fun h => ?_)
    refine m_and h (fun h => ?_)
    refine fr2_X12_fails hG (fun _ _ f8 h => ?_) f h
    refine m_and h (fun h => ?_)
    exact k _ _ f8 h
theorem fr2_X12_isJugHere {X G : Mm} {S : Sh} {K K' : Int → Mm → Prop} {M : Mm} {u1 : Int} (hG : Inv X S G) (k : ∀ (a0 : Int) (m : Mm), fr2_F G m → K a0 m → K' a0 m) (f : fr2_F G M) (h : wp_X12_isJugHere S M (336) u1 K) : wp_X12_isJugHere S M (336) u1 K' := by
  refine m_gr (fr2_c_336_7 hG f) h (fun h => ?_)
  refine m_C h (fun h => ?_)
  refine m_Ld h (fun _ h => ?_)
  refine m_C h (fun h => ?_)
  refine m_if h (fun h => ?_) (fun h => ?_)
  · skip
    refine m_and h (fun h => ?_)
    refine fr2_X12_passWord hG (fun _ f1 h => ?_) f h
    refine m_C h (fun h => ?_)
    refine m_C h (fun h => ?_)
    refine m_gr (fr2_c_336_7 hG f1) h (fun h => ?_)
    refine m_C h (fun h => ?_)
    refine m_Ld h (fun _ h => ?_)
    refine m_M h (fun _ h => ?_)
    refine m_A h (fun _ h => ?_)
    refine m_C h (fun h => ?_)
    refine m_gr (fr2_c_336_7 hG f1) h (fun h => ?_)
    refine m_C h (fun h => ?_)
    refine m_Ld h (fun _ h => ?_)
    refine m_C h (fun h => ?_)
    refine m_S h (fun _ h => ?_)
    refine m_and h (fun h => ?_)
    refine fr2_X12_cellHere hG (fun _ _ f2 h => ?_) f1 h
    refine m_if h (fun h => ?_) (fun h => ?_)
    · skip
      refine m_C h (fun h => ?_)
      refine m_and h (fun h => ?_)
      exact k _ _ f2 h
    · skip
      refine m_C h (fun h => ?_)
      refine m_A h (fun _ h => ?_)
      refine m_C h (fun h => ?_)
      refine m_C h (fun h => ?_)
      refine m_and h (fun h => ?_)
      refine fr2_X12_cellHere hG (fun _ _ f3 h => ?_) f2 h
      refine m_if h (fun h => ?_) (fun h => ?_)
      · skip
        refine m_gr (fr2_c_336_7 hG f3) h (fun h => ?_)
        refine m_C h (fun h => ?_)
        refine m_A h (fun _ h => ?_)
        refine m_C h (fun h => ?_)
        refine m_St (fr2_up (fr2_a_342 _) f3) h (fun _ f4 h => ?_)
        refine m_gr (fr2_c_336_7 hG f4) h (fun h => ?_)
        refine m_C h (fun h => ?_)
        refine m_A h (fun _ h => ?_)
        refine m_C h (fun h => ?_)
        refine m_St (fr2_up (fr2_a_342 _) f4) h (fun _ f5 h => ?_)
        refine m_gr (fr2_c_336_7 hG f5) h (fun h => ?_)
        refine m_C h (fun h => ?_)
        refine m_Ld h (fun _ h => ?_)
        refine m_C h (fun h => ?_)
        refine m_A h (fun _ h => ?_)
        refine m_St (fr2_up (fr2_a_342 _) f5) h (fun _ f6 h => ?_)
        refine m_C h (fun h => ?_)
        refine m_and h (fun h => ?_)
        exact k _ _ f6 h
      · skip
        refine m_C h (fun h => ?_)
        refine m_and h (fun h => ?_)
        exact k _ _ f3 h
  · skip
    refine m_C h (fun h => ?_)
    refine m_and h (fun h => ?_)
    refine fr2_X12_fails hG (fun _ _ f7 h => ?_) f h
    refine m_and h (fun h => ?_)
    exact k _ _ f7 h
theorem fr2_X12_isHeatHere {X G : Mm} {S : Sh} {K K' : Int → Mm → Prop} {M : Mm} {u1 : Int} (hG : Inv X S G) (k : ∀ (a0 : Int) (m : Mm), fr2_F G m → K a0 m → K' a0 m) (f : fr2_F G M) (h : wp_X12_isHeatHere S M (336) u1 K) : wp_X12_isHeatHere S M (336) u1 K' := by
  refine m_gr (fr2_c_336_7 hG f) h (fun h => ?_)
  refine m_C h (fun h => ?_)
  refine m_Ld h (fun _ h => ?_)
  refine m_C h (fun h => ?_)
  refine m_if h (fun h => ?_) (fun h => ?_)
  · skip
    refine m_and h (fun h => ?_)
    refine fr2_X12_passWord hG (fun _ f1 h => ?_) f h
    refine m_C h (fun h => ?_)
    refine m_C h (fun h => ?_)
    refine m_gr (fr2_c_336_7 hG f1) h (fun h => ?_)
    refine m_C h (fun h => ?_)
    refine m_Ld h (fun _ h => ?_)
    refine m_M h (fun _ h => ?_)
    refine m_A h (fun _ h => ?_)
    refine m_C h (fun h => ?_)
    refine m_C h (fun h => ?_)
    refine m_and h (fun h => ?_)
    refine fr2_X12_cellHere hG (fun _ _ f2 h => ?_) f1 h
    refine m_if h (fun h => ?_) (fun h => ?_)
    · skip
      refine m_C h (fun h => ?_)
      refine m_and h (fun h => ?_)
      exact k _ _ f2 h
    · skip
      refine m_C h (fun h => ?_)
      refine m_A h (fun _ h => ?_)
      refine m_gr (fr2_c_336_7 hG f2) h (fun h => ?_)
      refine m_Ld h (fun _ h => ?_)
      refine m_C h (fun h => ?_)
      refine m_and h (fun h => ?_)
      refine fr2_X12_cellHere hG (fun _ _ f3 h => ?_) f2 h
      refine m_if h (fun h => ?_) (fun h => ?_)
      · skip
        refine m_C h (fun h => ?_)
        refine m_and h (fun h => ?_)
        exact k _ _ f3 h
      · skip
        refine m_C h (fun h => ?_)
        refine m_A h (fun _ h => ?_)
        refine m_C h (fun h => ?_)
        refine m_C h (fun h => ?_)
        refine m_and h (fun h => ?_)
        refine fr2_X12_cellHere hG (fun _ _ f4 h => ?_) f3 h
        refine m_if h (fun h => ?_) (fun h => ?_)
        · skip
          refine m_gr (fr2_c_336_7 hG f4) h (fun h => ?_)
          refine m_C h (fun h => ?_)
          refine m_Ld h (fun _ h => ?_)
          refine m_C h (fun h => ?_)
          refine m_A h (fun _ h => ?_)
          refine m_St (fr2_up (fr2_a_342 _) f4) h (fun _ f5 h => ?_)
          refine m_C h (fun h => ?_)
          refine m_and h (fun h => ?_)
          exact k _ _ f5 h
        · skip
          refine m_C h (fun h => ?_)
          refine m_and h (fun h => ?_)
          exact k _ _ f4 h
  · skip
    refine m_C h (fun h => ?_)
    refine m_and h (fun h => ?_)
    refine fr2_X12_fails hG (fun _ _ f6 h => ?_) f h
    refine m_and h (fun h => ?_)
    exact k _ _ f6 h
theorem fr2_X12_isWantHere {X G : Mm} {S : Sh} {K K' : Int → Mm → Prop} {M : Mm} {u1 : Int} (hG : Inv X S G) (k : ∀ (a0 : Int) (m : Mm), fr2_F G m → K a0 m → K' a0 m) (f : fr2_F G M) (h : wp_X12_isWantHere S M (336) u1 K) : wp_X12_isWantHere S M (336) u1 K' := by
  refine m_gr (fr2_c_336_7 hG f) h (fun h => ?_)
  refine m_C h (fun h => ?_)
  refine m_Ld h (fun _ h => ?_)
  refine m_C h (fun h => ?_)
  refine m_if h (fun h => ?_) (fun h => ?_)
  · skip
    refine m_and h (fun h => ?_)
    refine fr2_X12_passWord hG (fun _ f1 h => ?_) f h
    refine m_C h (fun h => ?_)
    refine m_C h (fun h => ?_)
    refine m_gr (fr2_c_336_7 hG f1) h (fun h => ?_)
    refine m_C h (fun h => ?_)
    refine m_Ld h (fun _ h => ?_)
    refine m_M h (fun _ h => ?_)
    refine m_A h (fun _ h => ?_)
    refine m_C h (fun h => ?_)
    refine m_gr (fr2_c_336_7 hG f1) h (fun h => ?_)
    refine m_C h (fun h => ?_)
    refine m_Ld h (fun _ h => ?_)
    refine m_C h (fun h => ?_)
    refine m_S h (fun _ h => ?_)
    refine m_and h (fun h => ?_)
    refine fr2_X12_cellHere hG (fun _ _ f2 h => ?_) f1 h
    refine m_if h (fun h => ?_) (fun h => ?_)
    · skip
      refine m_C h (fun h => ?_)
      refine m_and h (fun h => ?_)
      exact k _ _ f2 h
    · skip
      refine m_C h (fun h => ?_)
      refine m_A h (fun _ h => ?_)
      refine m_C h (fun h => ?_)
      refine m_C h (fun h => ?_)
      refine m_and h (fun h => ?_)
      refine fr2_X12_cellHere hG (fun _ _ f3 h => ?_) f2 h
      refine m_if h (fun h => ?_) (fun h => ?_)
      · skip
        refine m_C h (fun h => ?_)
        refine m_and h (fun h => ?_)
        exact k _ _ f3 h
      · skip
        refine m_C h (fun h => ?_)
        refine m_A h (fun _ h => ?_)
        refine m_gr (fr2_c_336_7 hG f3) h (fun h => ?_)
        refine m_C h (fun h => ?_)
        refine m_A h (fun _ h => ?_)
        refine m_Ld h (fun _ h => ?_)
        refine m_C h (fun h => ?_)
        refine m_and h (fun h => ?_)
        refine fr2_X12_cellHere hG (fun _ _ f4 h => ?_) f3 h
        refine m_if h (fun h => ?_) (fun h => ?_)
        · skip
          refine m_C h (fun h => ?_)
          refine m_and h (fun h => ?_)
          exact k _ _ f4 h
        · skip
          refine m_C h (fun h => ?_)
          refine m_A h (fun _ h => ?_)
          refine m_C h (fun h => ?_)
          refine m_C h (fun h => ?_)
          refine m_and h (fun h => ?_)
          refine fr2_X12_cellHere hG (fun _ _ f5 h => ?_) f4 h
          refine m_if h (fun h => ?_) (fun h => ?_)
          · skip
            refine m_gr (fr2_c_336_7 hG f5) h (fun h => ?_)
            refine m_C h (fun h => ?_)
            refine m_gr (fr2_c_336_7 hG f5) h (fun h => ?_)
            refine m_C h (fun h => ?_)
            refine m_Ld h (fun _ h => ?_)
            refine m_A h (fun _ h => ?_)
            refine m_C h (fun h => ?_)
            refine m_St (fr2_up (fr2_a_342 _) f5) h (fun _ f6 h => ?_)
            refine m_gr (fr2_c_336_7 hG f6) h (fun h => ?_)
            refine m_C h (fun h => ?_)
            refine m_Ld h (fun _ h => ?_)
            refine m_C h (fun h => ?_)
            refine m_A h (fun _ h => ?_)
            refine m_St (fr2_up (fr2_a_342 _) f6) h (fun _ f7 h => ?_)
            refine m_C h (fun h => ?_)
            refine m_and h (fun h => ?_)
            exact k _ _ f7 h
          · skip
            refine m_C h (fun h => ?_)
            refine m_and h (fun h => ?_)
            exact k _ _ f5 h
  · skip
    refine m_C h (fun h => ?_)
    refine m_and h (fun h => ?_)
    refine fr2_X12_fails hG (fun _ _ f8 h => ?_) f h
    refine m_and h (fun h => ?_)
    exact k _ _ f8 h
theorem fr2_X12_dairyLineHere {X G : Mm} {S : Sh} {K K' : Int → Mm → Prop} {M : Mm} {u1 : Int} (hG : Inv X S G) (k : ∀ (a0 : Int) (m : Mm), fr2_F G m → K a0 m → K' a0 m) (f : fr2_F G M) (h : wp_X12_dairyLineHere S M (336) u1 K) : wp_X12_dairyLineHere S M (336) u1 K' := by
  refine m_C h (fun h => ?_)
  refine m_and h (fun h => ?_)
  refine fr2_X12_isWord hG (fun _ _ f1 h => ?_) f h
  refine m_if h (fun h => ?_) (fun h => ?_)
  · skip
    refine m_gr (fr2_c_336_7 hG f1) h (fun h => ?_)
    refine m_C h (fun h => ?_)
    refine m_Ld h (fun _ h => ?_)
    refine m_if h (fun h => ?_) (fun h => ?_)
    · skip
      refine m_C h (fun h => ?_)
      refine m_and h (fun h => ?_)
      refine fr2_X12_isWord hG (fun _ _ f2 h => ?_) f1 h
      refine m_if h (fun h => ?_) (fun h => ?_)
      · skip
        refine m_C h (fun h => ?_)
        refine m_and h (fun h => ?_)
        refine fr2_X12_isWord hG (fun _ _ f3 h => ?_) f2 h
        refine m_if h (fun h => ?_) (fun h => ?_)
        · skip
          refine m_C h (fun h => ?_)
          refine m_and h (fun h => ?_)
          refine fr2_X12_isWord hG (fun _ _ f4 h => ?_) f3 h
          refine m_if h (fun h => ?_) (fun h => ?_)
          · skip
            refine m_C h (fun h => ?_)
            refine m_and h (fun h => ?_)
            refine fr2_X12_isWord hG (fun _ _ f5 h => ?_) f4 h
            refine m_if h (fun h => ?_) (fun h => ?_)
            · skip
              refine m_and h (fun h => ?_)
              refine fr2_X12_isWantHere hG (fun _ _ f6 h => ?_) f5 h
              refine m_and h (fun h => ?_)
              exact k _ _ f6 h
            · skip
              refine m_and h (fun h => ?_)
              refine fr2_X12_isHeatHere hG (fun _ _ f7 h => ?_) f5 h
              refine m_and h (fun h => ?_)
              exact k _ _ f7 h
          · skip
            refine m_and h (fun h => ?_)
            refine fr2_X12_isJugHere hG (fun _ _ f8 h => ?_) f4 h
            refine m_and h (fun h => ?_)
            exact k _ _ f8 h
        · skip
          refine m_and h (fun h => ?_)
          refine fr2_X12_isHandHere hG (fun _ _ f9 h => ?_) f3 h
          refine m_and h (fun h => ?_)
          exact k _ _ f9 h
      · skip
        refine m_and h (fun h => ?_)
        refine fr2_X12_isRoadHere hG (fun _ _ f10 h => ?_) f2 h
        refine m_and h (fun h => ?_)
        exact k _ _ f10 h
    · skip
      refine m_C h (fun h => ?_)
      refine m_and h (fun h => ?_)
      refine fr2_X12_fails hG (fun _ _ f11 h => ?_) f1 h
      refine m_and h (fun h => ?_)
      exact k _ _ f11 h
  · skip
    refine m_and h (fun h => ?_)
    refine fr2_X12_isDairyHere hG (fun _ _ f12 h => ?_) f1 h
    refine m_and h (fun h => ?_)
    exact k _ _ f12 h
theorem fr2_X12_makes {X G : Mm} {S : Sh} {K K' : Int → Mm → Prop} {M : Mm} {u1 : Int} (hG : Inv X S G) (k : ∀ (a0 : Int) (m : Mm), fr2_F G m → K a0 m → K' a0 m) (f : fr2_F G M) (h : wp_X12_makes S M (336) u1 K) : wp_X12_makes S M (336) u1 K' := by
  refine m_Get h (fun _ h => ?_)
  refine m_C h (fun h => ?_)
  refine m_if h (fun h => ?_) (fun h => ?_)
  · skip
    refine m_Get h (fun _ h => ?_)
    refine m_C h (fun h => ?_)
    refine m_A h (fun _ h => ?_)
    refine m_Put (fr2_up (by decide) f) h (fun _ f1 h => ?_)
    refine m_C h (fun h => ?_)
    refine m_and h (fun h => ?_)
    exact k _ _ f1 h
  · skip
    refine m_C h (fun h => ?_)
    refine m_and h (fun h => ?_)
    refine fr2_X12_fails hG (fun _ _ f2 h => ?_) f h
    refine m_and h (fun h => ?_)
    exact k _ _ f2 h
theorem fr2_X12_puts {X G : Mm} {S : Sh} {K K' : Mm → Prop} {M : Mm} {u1 : Int} {u2 : Int} (hG : Inv X S G) (k : ∀ (m : Mm), fr2_F G m → K m → K' m) (f : fr2_F G M) (h : wp_X12_puts S M (336) u1 u2 K) : wp_X12_puts S M (336) u1 u2 K' := by
  refine m_gr (fr2_c_336_3 hG f) h (fun h => ?_)
  refine m_C h (fun h => ?_)
  refine m_Get h (fun _ h => ?_)
  refine m_M h (fun _ h => ?_)
  refine m_gr (fr2_c_336_4 hG f) h (fun h => ?_)
  refine m_Get h (fun _ h => ?_)
  refine m_Ld h (fun _ h => ?_)
  refine m_A h (fun _ h => ?_)
  refine m_C h (fun h => ?_)
  refine m_M h (fun _ h => ?_)
  refine m_A h (fun _ h => ?_)
  refine m_St (fr2_up (fr2_a_338 _) f) h (fun _ f1 h => ?_)
  refine m_gr (fr2_c_336_4 hG f1) h (fun h => ?_)
  refine m_Get h (fun _ h => ?_)
  refine m_Ld h (fun _ h => ?_)
  refine m_C h (fun h => ?_)
  refine m_A h (fun _ h => ?_)
  refine m_St (fr2_up (fr2_a_339 _) f1) h (fun _ f2 h => ?_)
  exact k _ f2 h
theorem fr2_X12_wordHere {X G : Mm} {S : Sh} {K K' : Int → Mm → Prop} {M : Mm} (hG : Inv X S G) (k : ∀ (a0 : Int) (m : Mm), fr2_F G m → K a0 m → K' a0 m) (f : fr2_F G M) (h : wp_X12_wordHere S M (336) K) : wp_X12_wordHere S M (336) K' := by
  refine m_C h (fun h => ?_)
  refine m_and h (fun h => ?_)
  refine fr2_X12_isWord hG (fun _ _ f1 h => ?_) f h
  refine m_if h (fun h => ?_) (fun h => ?_)
  · skip
    refine m_C h (fun h => ?_)
    refine m_and h (fun h => ?_)
    refine fr2_X12_isWord hG (fun _ _ f2 h => ?_) f1 h
    refine m_if h (fun h => ?_) (fun h => ?_)
    · skip
      refine m_C h (fun h => ?_)
      refine m_and h (fun h => ?_)
      refine fr2_X12_isWord hG (fun _ _ f3 h => ?_) f2 h
      refine m_if h (fun h => ?_) (fun h => ?_)
      · skip
        refine m_C h (fun h => ?_)
        refine m_and h (fun h => ?_)
        refine fr2_X12_isWord hG (fun _ _ f4 h => ?_) f3 h
        refine m_if h (fun h => ?_) (fun h => ?_)
        · skip
          refine m_C h (fun h => ?_)
          refine m_and h (fun h => ?_)
          refine fr2_X12_isWord hG (fun _ _ f5 h => ?_) f4 h
          refine m_if h (fun h => ?_) (fun h => ?_)
          · skip
            refine m_C h (fun h => ?_)
            refine m_and h (fun h => ?_)
            refine fr2_X12_isWord hG (fun _ _ f6 h => ?_) f5 h
            refine m_if h (fun h => ?_) (fun h => ?_)
            · skip
              refine m_C h (fun h => ?_)
              refine m_and h (fun h => ?_)
              refine fr2_X12_isWord hG (fun _ _ f7 h => ?_) f6 h
              refine m_if h (fun h => ?_) (fun h => ?_)
              · skip
                refine m_C h (fun h => ?_)
                refine m_and h (fun h => ?_)
                refine fr2_X12_isWord hG (fun _ _ f8 h => ?_) f7 h
                refine m_if h (fun h => ?_) (fun h => ?_)
                · skip
                  refine m_C h (fun h => ?_)
                  refine m_and h (fun h => ?_)
                  refine fr2_X12_isWord hG (fun _ _ f9 h => ?_) f8 h
                  refine m_if h (fun h => ?_) (fun h => ?_)
                  · skip
                    refine m_C h (fun h => ?_)
                    refine m_and h (fun h => ?_)
                    refine fr2_X12_isWord hG (fun _ _ f10 h => ?_) f9 h
                    refine m_if h (fun h => ?_) (fun h => ?_)
                    · skip
                      refine m_C h (fun h => ?_)
                      exact k _ _ f10 h
                    · skip
                      refine m_C h (fun h => ?_)
                      exact k _ _ f10 h
                  · skip
                    refine m_C h (fun h => ?_)
                    exact k _ _ f9 h
                · skip
                  refine m_C h (fun h => ?_)
                  exact k _ _ f8 h
              · skip
                refine m_C h (fun h => ?_)
                exact k _ _ f7 h
            · skip
              refine m_C h (fun h => ?_)
              exact k _ _ f6 h
          · skip
            refine m_C h (fun h => ?_)
            exact k _ _ f5 h
        · skip
          refine m_C h (fun h => ?_)
          exact k _ _ f4 h
      · skip
        refine m_C h (fun h => ?_)
        exact k _ _ f3 h
    · skip
      refine m_C h (fun h => ?_)
      exact k _ _ f2 h
  · skip
    refine m_C h (fun h => ?_)
    exact k _ _ f1 h
theorem fr2_X12_value {X G : Mm} {S : Sh} {K K' : Int → Mm → Prop} {M : Mm} (hG : Inv X S G) (k : ∀ (a0 : Int) (m : Mm), fr2_F G m → K a0 m → K' a0 m) (f : fr2_F G M) (h : wp_X12_value S M (336) K) : wp_X12_value S M (336) K' := by
  refine m_and h (fun h => ?_)
  refine fr2_X12_see hG (fun _ _ f1 h => ?_) f h
  refine m_Get h (fun _ h => ?_)
  refine m_Get h (fun _ h => ?_)
  refine m_and h (fun h => ?_)
  refine fr2_X12_isDigit hG (fun _ _ f2 h => ?_) f1 h
  refine m_if h (fun h => ?_) (fun h => ?_)
  · skip
    refine m_and h (fun h => ?_)
    refine fr2_X12_wordHere hG (fun _ _ f3 h => ?_) f2 h
    refine m_if h (fun h => ?_) (fun h => ?_)
    · skip
      refine m_and h (fun h => ?_)
      refine fr2_X12_makes hG (fun _ _ f4 h => ?_) f3 h
      refine m_if h (fun h => ?_) (fun h => ?_)
      · skip
        refine m_and h (fun h => ?_)
        refine fr2_X12_passWord hG (fun _ f5 h => ?_) f4 h
        refine m_C h (fun h => ?_)
        refine m_and h (fun h => ?_)
        refine fr2_X12_puts hG (fun _ f6 h => ?_) f5 h
        refine m_C h (fun h => ?_)
        refine m_and h (fun h => ?_)
        exact k _ _ f6 h
      · skip
        refine m_C h (fun h => ?_)
        refine m_and h (fun h => ?_)
        exact k _ _ f4 h
    · skip
      refine m_C h (fun h => ?_)
      refine m_and h (fun h => ?_)
      refine fr2_X12_fails hG (fun _ _ f7 h => ?_) f3 h
      refine m_and h (fun h => ?_)
      exact k _ _ f7 h
  · skip
    refine m_C h (fun h => ?_)
    refine m_C h (fun h => ?_)
    refine m_and h (fun h => ?_)
    refine fr2_X12_numberHere hG (fun _ _ f8 h => ?_) f2 h
    refine m_if h (fun h => ?_) (fun h => ?_)
    · skip
      refine m_C h (fun h => ?_)
      refine m_and h (fun h => ?_)
      exact k _ _ f8 h
    · skip
      refine m_and h (fun h => ?_)
      refine fr2_X12_makes hG (fun _ _ f9 h => ?_) f8 h
      refine m_if h (fun h => ?_) (fun h => ?_)
      · skip
        refine m_C h (fun h => ?_)
        refine m_Get h (fun _ h => ?_)
        refine m_and h (fun h => ?_)
        refine fr2_X12_puts hG (fun _ f10 h => ?_) f9 h
        refine m_C h (fun h => ?_)
        refine m_and h (fun h => ?_)
        exact k _ _ f10 h
      · skip
        refine m_C h (fun h => ?_)
        refine m_and h (fun h => ?_)
        exact k _ _ f9 h
theorem fr2_X12_term_74 {X G : Mm} {S : Sh} {k9 k9' : Int → Mm → Prop} {K K' : Int → Mm → Prop} {M : Mm} {t0 : Int} (hG : Inv X S G) (kk9 : ∀ (m : Mm), fr2_F G m → k9 (336) m → k9' (336) m) (k : ∀ (a0 : Int) (m : Mm), fr2_F G m → K a0 m → K' a0 m) (f : fr2_F G M) (h : wp_X12_term_74 S k9 K (336) t0 M) : wp_X12_term_74 S k9' K' (336) t0 M := by
  refine m_Get h (fun _ h => ?_)
  refine m_C h (fun h => ?_)
  refine m_A h (fun _ h => ?_)
  refine m_Put (fr2_up (by decide) f) h (fun _ f1 h => ?_)
  refine m_and h (fun h => ?_)
  refine fr2_X12_value hG (fun _ _ f2 h => ?_) f1 h
  refine m_if h (fun h => ?_) (fun h => ?_)
  · skip
    refine m_C h (fun h => ?_)
    refine m_and h (fun h => ?_)
    refine fr2_X12_puts hG (fun _ f3 h => ?_) f2 h
    exact kk9 _ f3 h
  · skip
    refine m_C h (fun h => ?_)
    refine m_and h (fun h => ?_)
    exact k _ _ f2 h
theorem fr2_X12_term_36 {X G : Mm} {S : Sh} {k9 k9' : Int → Mm → Prop} {K K' : Int → Mm → Prop} {M : Mm} (hG : Inv X S G) (kk9 : ∀ (m : Mm), fr2_F G m → k9 (336) m → k9' (336) m) (k : ∀ (a0 : Int) (m : Mm), fr2_F G m → K a0 m → K' a0 m) (f : fr2_F G M) (h : wp_X12_term_36 S k9 K (336) M) : wp_X12_term_36 S k9' K' (336) M := by
  refine m_gr (fr2_c_336_0 hG f) h (fun h => ?_)
  refine m_Get h (fun _ h => ?_)
  refine m_Ld h (fun _ h => ?_)
  refine m_C h (fun h => ?_)
  refine m_if h (fun h => ?_) (fun h => ?_)
  · skip
    refine m_gr (fr2_c_336_0 hG f) h (fun h => ?_)
    refine m_Get h (fun _ h => ?_)
    refine m_Ld h (fun _ h => ?_)
    refine m_C h (fun h => ?_)
    refine m_if h (fun h => ?_) (fun h => ?_)
    · skip
      refine m_C h (fun h => ?_)
      refine fr2_X12_term_74 hG kk9 k f h
    · skip
      refine m_C h (fun h => ?_)
      refine fr2_X12_term_74 hG kk9 k f h
  · skip
    refine m_C h (fun h => ?_)
    refine fr2_X12_term_74 hG kk9 k f h
theorem fr2_X12_term_9 {X G : Mm} {S : Sh} {K K' : Int → Mm → Prop} (hG : Inv X S G) (k : ∀ (a0 : Int) (m : Mm), fr2_F G m → K a0 m → K' a0 m) : ∀ (n : Nat) (M : Mm), fr2_F G M → wp_X12_term_9 S K n (336) M → wp_X12_term_9 S K' n (336) M := by
  intro n
  induction n with
  | zero => intro M f h; exact h
  | succ n ih =>
    intro M f h
    refine m_and h (fun h => ?_)
    refine fr2_X12_see hG (fun _ _ f1 h => ?_) f h
    refine m_C h (fun h => ?_)
    refine m_if h (fun h => ?_) (fun h => ?_)
    · skip
      refine fr2_X12_term_36 hG (fun _ f2 h => ?_) k f1 h
      exact ih _ f2 h
    · skip
      refine m_and h (fun h => ?_)
      refine fr2_X12_see hG (fun _ _ f3 h => ?_) f1 h
      refine m_C h (fun h => ?_)
      refine m_if h (fun h => ?_) (fun h => ?_)
      · skip
        refine fr2_X12_term_36 hG (fun _ f4 h => ?_) k f3 h
        exact ih _ f4 h
      · skip
        refine m_and h (fun h => ?_)
        refine fr2_X12_see hG (fun _ _ f5 h => ?_) f3 h
        refine m_C h (fun h => ?_)
        refine m_if h (fun h => ?_) (fun h => ?_)
        · skip
          refine m_C h (fun h => ?_)
          refine m_and h (fun h => ?_)
          exact k _ _ f5 h
        · skip
          refine fr2_X12_term_36 hG (fun _ f6 h => ?_) k f5 h
          exact ih _ f6 h
theorem fr2_X12_term {X G : Mm} {S : Sh} {K K' : Int → Mm → Prop} {M : Mm} (hG : Inv X S G) (k : ∀ (a0 : Int) (m : Mm), fr2_F G m → K a0 m → K' a0 m) (f : fr2_F G M) (h : wp_X12_term S M (336) K) : wp_X12_term S M (336) K' := by
  refine m_and h (fun h => ?_)
  refine fr2_X12_value hG (fun _ _ f1 h => ?_) f h
  refine m_if h (fun h => ?_) (fun h => ?_)
  · skip
    refine m_ex h (fun n9 h => ?_)
    refine fr2_X12_term_9 hG k _ _ f1 h
  · skip
    refine m_C h (fun h => ?_)
    refine m_and h (fun h => ?_)
    exact k _ _ f1 h
theorem fr2_X12_sum_46 {X G : Mm} {S : Sh} {k9 k9' : Int → Mm → Prop} {K K' : Int → Mm → Prop} {M : Mm} {t0 : Int} (hG : Inv X S G) (kk9 : ∀ (m : Mm), fr2_F G m → k9 (336) m → k9' (336) m) (k : ∀ (a0 : Int) (m : Mm), fr2_F G m → K a0 m → K' a0 m) (f : fr2_F G M) (h : wp_X12_sum_46 S k9 K (336) t0 M) : wp_X12_sum_46 S k9' K' (336) t0 M := by
  refine m_Get h (fun _ h => ?_)
  refine m_C h (fun h => ?_)
  refine m_A h (fun _ h => ?_)
  refine m_Put (fr2_up (by decide) f) h (fun _ f1 h => ?_)
  refine m_and h (fun h => ?_)
  refine fr2_X12_term hG (fun _ _ f2 h => ?_) f1 h
  refine m_if h (fun h => ?_) (fun h => ?_)
  · skip
    refine m_C h (fun h => ?_)
    refine m_and h (fun h => ?_)
    refine fr2_X12_puts hG (fun _ f3 h => ?_) f2 h
    exact kk9 _ f3 h
  · skip
    refine m_C h (fun h => ?_)
    refine m_and h (fun h => ?_)
    exact k _ _ f2 h
theorem fr2_X12_sum_27 {X G : Mm} {S : Sh} {k9 k9' : Int → Mm → Prop} {K K' : Int → Mm → Prop} {M : Mm} (hG : Inv X S G) (kk9 : ∀ (m : Mm), fr2_F G m → k9 (336) m → k9' (336) m) (k : ∀ (a0 : Int) (m : Mm), fr2_F G m → K a0 m → K' a0 m) (f : fr2_F G M) (h : wp_X12_sum_27 S k9 K (336) M) : wp_X12_sum_27 S k9' K' (336) M := by
  refine m_gr (fr2_c_336_0 hG f) h (fun h => ?_)
  refine m_Get h (fun _ h => ?_)
  refine m_Ld h (fun _ h => ?_)
  refine m_C h (fun h => ?_)
  refine m_if h (fun h => ?_) (fun h => ?_)
  · skip
    refine m_C h (fun h => ?_)
    refine fr2_X12_sum_46 hG kk9 k f h
  · skip
    refine m_C h (fun h => ?_)
    refine fr2_X12_sum_46 hG kk9 k f h
theorem fr2_X12_sum_9 {X G : Mm} {S : Sh} {K K' : Int → Mm → Prop} (hG : Inv X S G) (k : ∀ (a0 : Int) (m : Mm), fr2_F G m → K a0 m → K' a0 m) : ∀ (n : Nat) (M : Mm), fr2_F G M → wp_X12_sum_9 S K n (336) M → wp_X12_sum_9 S K' n (336) M := by
  intro n
  induction n with
  | zero => intro M f h; exact h
  | succ n ih =>
    intro M f h
    refine m_and h (fun h => ?_)
    refine fr2_X12_see hG (fun _ _ f1 h => ?_) f h
    refine m_C h (fun h => ?_)
    refine m_if h (fun h => ?_) (fun h => ?_)
    · skip
      refine fr2_X12_sum_27 hG (fun _ f2 h => ?_) k f1 h
      exact ih _ f2 h
    · skip
      refine m_and h (fun h => ?_)
      refine fr2_X12_see hG (fun _ _ f3 h => ?_) f1 h
      refine m_C h (fun h => ?_)
      refine m_if h (fun h => ?_) (fun h => ?_)
      · skip
        refine m_C h (fun h => ?_)
        refine m_and h (fun h => ?_)
        exact k _ _ f3 h
      · skip
        refine fr2_X12_sum_27 hG (fun _ f4 h => ?_) k f3 h
        exact ih _ f4 h
theorem fr2_X12_sum {X G : Mm} {S : Sh} {K K' : Int → Mm → Prop} {M : Mm} (hG : Inv X S G) (k : ∀ (a0 : Int) (m : Mm), fr2_F G m → K a0 m → K' a0 m) (f : fr2_F G M) (h : wp_X12_sum S M (336) K) : wp_X12_sum S M (336) K' := by
  refine m_and h (fun h => ?_)
  refine fr2_X12_term hG (fun _ _ f1 h => ?_) f h
  refine m_if h (fun h => ?_) (fun h => ?_)
  · skip
    refine m_ex h (fun n9 h => ?_)
    refine fr2_X12_sum_9 hG k _ _ f1 h
  · skip
    refine m_C h (fun h => ?_)
    refine m_and h (fun h => ?_)
    exact k _ _ f1 h
theorem fr2_X12_takesWord {X G : Mm} {S : Sh} {K K' : Int → Mm → Prop} {M : Mm} (hG : Inv X S G) (k : ∀ (a0 : Int) (m : Mm), fr2_F G m → K a0 m → K' a0 m) (f : fr2_F G M) (h : wp_X12_takesWord S M (336) (26982) K) : wp_X12_takesWord S M (336) (26982) K' := by
  refine m_and h (fun h => ?_)
  refine fr2_X12_isWord hG (fun _ _ f1 h => ?_) f h
  refine m_if h (fun h => ?_) (fun h => ?_)
  · skip
    refine m_and h (fun h => ?_)
    refine fr2_X12_passWord hG (fun _ f2 h => ?_) f1 h
    refine m_C h (fun h => ?_)
    refine m_and h (fun h => ?_)
    exact k _ _ f2 h
  · skip
    refine m_C h (fun h => ?_)
    refine m_and h (fun h => ?_)
    exact k _ _ f1 h
theorem fr2_X12_opens {X G : Mm} {S : Sh} {K K' : Int → Mm → Prop} {M : Mm} {u1 : Int} (hG : Inv X S G) (k : ∀ (a0 : Int) (m : Mm), fr2_F G m → K a0 m → K' a0 m) (f : fr2_F G M) (h : wp_X12_opens S M (336) u1 K) : wp_X12_opens S M (336) u1 K' := by
  refine m_Get h (fun _ h => ?_)
  refine m_C h (fun h => ?_)
  refine m_if h (fun h => ?_) (fun h => ?_)
  · skip
    refine m_Get h (fun _ h => ?_)
    refine m_C h (fun h => ?_)
    refine m_A h (fun _ h => ?_)
    refine m_Put (fr2_up (by decide) f) h (fun _ f1 h => ?_)
    refine m_gr (fr2_c_336_15 hG f1) h (fun h => ?_)
    refine m_Get h (fun _ h => ?_)
    refine m_St (fr2_up (fr2_a_343 _) f1) h (fun _ f2 h => ?_)
    refine m_Get h (fun _ h => ?_)
    refine m_C h (fun h => ?_)
    refine m_A h (fun _ h => ?_)
    refine m_Put (fr2_up (by decide) f2) h (fun _ f3 h => ?_)
    refine m_C h (fun h => ?_)
    refine m_and h (fun h => ?_)
    exact k _ _ f3 h
  · skip
    refine m_C h (fun h => ?_)
    refine m_Get h (fun _ h => ?_)
    refine m_and h (fun h => ?_)
    refine fr2_X12_fails hG (fun _ _ f4 h => ?_) f h
    refine m_and h (fun h => ?_)
    exact k _ _ f4 h
theorem fr2_X12_compare_152 {X G : Mm} {S : Sh} {K K' : Int → Mm → Prop} {M : Mm} {t0 : Int} (hG : Inv X S G) (k : ∀ (a0 : Int) (m : Mm), fr2_F G m → K a0 m → K' a0 m) (f : fr2_F G M) (h : wp_X12_compare_152 S K (336) t0 M) : wp_X12_compare_152 S K' (336) t0 M := by
  refine m_and h (fun h => ?_)
  refine fr2_X12_sum hG (fun _ _ f1 h => ?_) f h
  refine m_if h (fun h => ?_) (fun h => ?_)
  · skip
    refine m_C h (fun h => ?_)
    refine m_A h (fun _ h => ?_)
    refine m_C h (fun h => ?_)
    refine m_and h (fun h => ?_)
    refine fr2_X12_puts hG (fun _ f2 h => ?_) f1 h
    refine m_C h (fun h => ?_)
    refine m_and h (fun h => ?_)
    exact k _ _ f2 h
  · skip
    refine m_C h (fun h => ?_)
    refine m_and h (fun h => ?_)
    exact k _ _ f1 h
theorem fr2_X12_compare_105 {X G : Mm} {S : Sh} {K K' : Int → Mm → Prop} {M : Mm} {u1 : Int} {u2 : Int} {u3 : Int} (hG : Inv X S G) (k : ∀ (a0 : Int) (m : Mm), fr2_F G m → K a0 m → K' a0 m) (f : fr2_F G M) (h : wp_X12_compare_105 S K (336) u1 u2 u3 M) : wp_X12_compare_105 S K' (336) u1 u2 u3 M := by
  refine m_and h (fun h => ?_)
  refine fr2_X12_makes hG (fun _ _ f1 h => ?_) f h
  refine m_if h (fun h => ?_) (fun h => ?_)
  · skip
    refine m_C h (fun h => ?_)
    refine m_if h (fun h => ?_) (fun h => ?_)
    · skip
      refine m_C h (fun h => ?_)
      refine m_if h (fun h => ?_) (fun h => ?_)
      · skip
        refine m_if h (fun h => ?_) (fun h => ?_)
        · skip
          refine m_C h (fun h => ?_)
          refine fr2_X12_compare_152 hG k f1 h
        · skip
          refine m_C h (fun h => ?_)
          refine fr2_X12_compare_152 hG k f1 h
      · skip
        refine m_C h (fun h => ?_)
        refine fr2_X12_compare_152 hG k f1 h
    · skip
      refine m_if h (fun h => ?_) (fun h => ?_)
      · skip
        refine m_C h (fun h => ?_)
        refine fr2_X12_compare_152 hG k f1 h
      · skip
        refine m_C h (fun h => ?_)
        refine fr2_X12_compare_152 hG k f1 h
  · skip
    refine m_C h (fun h => ?_)
    refine m_and h (fun h => ?_)
    exact k _ _ f1 h
theorem fr2_X12_compare_90 {X G : Mm} {S : Sh} {K K' : Int → Mm → Prop} {M : Mm} {u1 : Int} {u2 : Int} {t0 : Int} (hG : Inv X S G) (k : ∀ (a0 : Int) (m : Mm), fr2_F G m → K a0 m → K' a0 m) (f : fr2_F G M) (h : wp_X12_compare_90 S K (336) u1 u2 t0 M) : wp_X12_compare_90 S K' (336) u1 u2 t0 M := by
  refine m_if h (fun h => ?_) (fun h => ?_)
  · skip
    refine fr2_X12_compare_105 hG k f h
  · skip
    refine m_Get h (fun _ h => ?_)
    refine m_C h (fun h => ?_)
    refine m_A h (fun _ h => ?_)
    refine m_Put (fr2_up (by decide) f) h (fun _ f1 h => ?_)
    refine fr2_X12_compare_105 hG k f1 h
theorem fr2_X12_compare_89 {X G : Mm} {S : Sh} {K K' : Int → Mm → Prop} {M : Mm} {u1 : Int} {u2 : Int} (hG : Inv X S G) (k : ∀ (a0 : Int) (m : Mm), fr2_F G m → K a0 m → K' a0 m) (f : fr2_F G M) (h : wp_X12_compare_89 S K (336) u1 u2 M) : wp_X12_compare_89 S K' (336) u1 u2 M := by
  refine m_C h (fun h => ?_)
  refine fr2_X12_compare_90 hG k f h
theorem fr2_X12_compare_44 {X G : Mm} {S : Sh} {K K' : Int → Mm → Prop} {M : Mm} {u1 : Int} {u2 : Int} (hG : Inv X S G) (k : ∀ (a0 : Int) (m : Mm), fr2_F G m → K a0 m → K' a0 m) (f : fr2_F G M) (h : wp_X12_compare_44 S K (336) u1 u2 M) : wp_X12_compare_44 S K' (336) u1 u2 M := by
  refine m_Get h (fun _ h => ?_)
  refine m_C h (fun h => ?_)
  refine m_A h (fun _ h => ?_)
  refine m_Put (fr2_up (by decide) f) h (fun _ f1 h => ?_)
  refine m_C h (fun h => ?_)
  refine m_if h (fun h => ?_) (fun h => ?_)
  · skip
    refine fr2_X12_compare_89 hG k f1 h
  · skip
    refine m_Get h (fun _ h => ?_)
    refine m_Get h (fun _ h => ?_)
    refine m_if h (fun h => ?_) (fun h => ?_)
    · skip
      refine fr2_X12_compare_89 hG k f1 h
    · skip
      refine m_gr (fr2_c_336_0 hG f1) h (fun h => ?_)
      refine m_Get h (fun _ h => ?_)
      refine m_Ld h (fun _ h => ?_)
      refine m_C h (fun h => ?_)
      refine m_if h (fun h => ?_) (fun h => ?_)
      · skip
        refine fr2_X12_compare_89 hG k f1 h
      · skip
        refine m_C h (fun h => ?_)
        refine fr2_X12_compare_90 hG k f1 h
theorem fr2_X12_compare {X G : Mm} {S : Sh} {K K' : Int → Mm → Prop} {M : Mm} (hG : Inv X S G) (k : ∀ (a0 : Int) (m : Mm), fr2_F G m → K a0 m → K' a0 m) (f : fr2_F G M) (h : wp_X12_compare S M (336) K) : wp_X12_compare S M (336) K' := by
  refine m_and h (fun h => ?_)
  refine fr2_X12_sum hG (fun _ _ f1 h => ?_) f h
  refine m_if h (fun h => ?_) (fun h => ?_)
  · skip
    refine m_and h (fun h => ?_)
    refine fr2_X12_see hG (fun _ _ f2 h => ?_) f1 h
    refine m_Get h (fun _ h => ?_)
    refine m_C h (fun h => ?_)
    refine m_if h (fun h => ?_) (fun h => ?_)
    · skip
      refine fr2_X12_compare_44 hG k f2 h
    · skip
      refine m_C h (fun h => ?_)
      refine m_if h (fun h => ?_) (fun h => ?_)
      · skip
        refine fr2_X12_compare_44 hG k f2 h
      · skip
        refine m_C h (fun h => ?_)
        refine m_if h (fun h => ?_) (fun h => ?_)
        · skip
          refine fr2_X12_compare_44 hG k f2 h
        · skip
          refine m_C h (fun h => ?_)
          refine m_and h (fun h => ?_)
          refine fr2_X12_fails hG (fun _ _ f3 h => ?_) f2 h
          refine m_and h (fun h => ?_)
          exact k _ _ f3 h
  · skip
    refine m_C h (fun h => ?_)
    refine m_and h (fun h => ?_)
    exact k _ _ f1 h
theorem fr2_X12_fact_72 {X G : Mm} {S : Sh} {k2 k2' : Int → Int → Mm → Prop} {K K' : Int → Mm → Prop} {M : Mm} {u1 : Int} (hG : Inv X S G) (kk2 : ∀ (a1 : Int) (m : Mm), fr2_F G m → k2 (336) a1 m → k2' (336) a1 m) (k : ∀ (a0 : Int) (m : Mm), fr2_F G m → K a0 m → K' a0 m) (f : fr2_F G M) (h : wp_X12_fact_72 S k2 K (336) u1 M) : wp_X12_fact_72 S k2' K' (336) u1 M := by
  exact kk2 _ _ f h
theorem fr2_X12_fact_2 {X G : Mm} {S : Sh} {K K' : Int → Mm → Prop} (hG : Inv X S G) (k : ∀ (a0 : Int) (m : Mm), fr2_F G m → K a0 m → K' a0 m) : ∀ (n : Nat) (u1 : Int) (M : Mm), fr2_F G M → wp_X12_fact_2 S K n (336) u1 M → wp_X12_fact_2 S K' n (336) u1 M := by
  intro n
  induction n with
  | zero => intro u1 M f h; exact h
  | succ n ih =>
    intro u1 M f h
    refine m_if h (fun h => ?_) (fun h => ?_)
    · skip
      refine m_and h (fun h => ?_)
      refine fr2_X12_compare hG (fun _ _ f1 h => ?_) f h
      refine m_and h (fun h => ?_)
      exact k _ _ f1 h
    · skip
      refine m_C h (fun h => ?_)
      refine m_and h (fun h => ?_)
      refine fr2_X12_see hG (fun _ _ f2 h => ?_) f h
      refine m_C h (fun h => ?_)
      refine m_and h (fun h => ?_)
      refine fr2_X12_isWord hG (fun _ _ f3 h => ?_) f2 h
      refine m_if h (fun h => ?_) (fun h => ?_)
      · skip
        refine m_C h (fun h => ?_)
        refine m_if h (fun h => ?_) (fun h => ?_)
        · skip
          refine fr2_X12_fact_72 hG (fun _ _ f4 h => ?_) k f3 h
          exact ih _ _ f4 h
        · skip
          refine m_C h (fun h => ?_)
          refine m_and h (fun h => ?_)
          refine fr2_X12_opens hG (fun _ _ f5 h => ?_) f3 h
          refine m_if h (fun h => ?_) (fun h => ?_)
          · skip
            refine m_Get h (fun _ h => ?_)
            refine m_C h (fun h => ?_)
            refine m_A h (fun _ h => ?_)
            refine m_Put (fr2_up (by decide) f5) h (fun _ f6 h => ?_)
            refine m_C h (fun h => ?_)
            refine fr2_X12_fact_72 hG (fun _ _ f7 h => ?_) k f6 h
            exact ih _ _ f7 h
          · skip
            refine m_C h (fun h => ?_)
            refine m_and h (fun h => ?_)
            exact k _ _ f5 h
      · skip
        refine m_C h (fun h => ?_)
        refine m_and h (fun h => ?_)
        refine fr2_X12_opens hG (fun _ _ f8 h => ?_) f3 h
        refine m_if h (fun h => ?_) (fun h => ?_)
        · skip
          refine m_and h (fun h => ?_)
          refine fr2_X12_passWord hG (fun _ f9 h => ?_) f8 h
          refine m_C h (fun h => ?_)
          refine fr2_X12_fact_72 hG (fun _ _ f10 h => ?_) k f9 h
          exact ih _ _ f10 h
        · skip
          refine m_C h (fun h => ?_)
          refine m_and h (fun h => ?_)
          exact k _ _ f8 h
theorem fr2_X12_fact {X G : Mm} {S : Sh} {K K' : Int → Mm → Prop} {M : Mm} (hG : Inv X S G) (k : ∀ (a0 : Int) (m : Mm), fr2_F G m → K a0 m → K' a0 m) (f : fr2_F G M) (h : wp_X12_fact S M (336) K) : wp_X12_fact S M (336) K' := by
  refine m_C h (fun h => ?_)
  refine m_ex h (fun n9 h => ?_)
  refine fr2_X12_fact_2 hG k _ _ _ f h
theorem fr2_X12_strength {X G : Mm} {S : Sh} {K K' : Int → Mm → Prop} {M : Mm} {u0 : Int} (hG : Inv X S G) (k : ∀ (a0 : Int) (m : Mm), fr2_F G m → K a0 m → K' a0 m) (f : fr2_F G M) (h : wp_X12_strength S M u0 K) : wp_X12_strength S M u0 K' := by
  refine m_C h (fun h => ?_)
  refine m_if h (fun h => ?_) (fun h => ?_)
  · skip
    refine m_C h (fun h => ?_)
    refine m_if h (fun h => ?_) (fun h => ?_)
    · skip
      refine m_C h (fun h => ?_)
      refine m_if h (fun h => ?_) (fun h => ?_)
      · skip
        refine m_C h (fun h => ?_)
        exact k _ _ f h
      · skip
        refine m_C h (fun h => ?_)
        exact k _ _ f h
    · skip
      refine m_C h (fun h => ?_)
      exact k _ _ f h
  · skip
    refine m_C h (fun h => ?_)
    exact k _ _ f h
theorem fr2_X12_settles_0 {X G : Mm} {S : Sh} {K K' : Mm → Prop} (hG : Inv X S G) (k : ∀ (m : Mm), fr2_F G m → K m → K' m) : ∀ (n : Nat) (u1 : Int) (M : Mm), fr2_F G M → wp_X12_settles_0 S K n (336) u1 M → wp_X12_settles_0 S K' n (336) u1 M := by
  intro n
  induction n with
  | zero => intro u1 M f h; exact h
  | succ n ih =>
    intro u1 M f h
    refine m_Get h (fun _ h => ?_)
    refine m_if h (fun h => ?_) (fun h => ?_)
    · skip
      exact k _ f h
    · skip
      refine m_gr (fr2_c_336_15 hG f) h (fun h => ?_)
      refine m_Get h (fun _ h => ?_)
      refine m_C h (fun h => ?_)
      refine m_S h (fun _ h => ?_)
      refine m_Ld h (fun _ h => ?_)
      refine fr2_X12_strength hG (fun _ _ f1 h => ?_) f h
      refine m_if h (fun h => ?_) (fun h => ?_)
      · skip
        exact k _ f1 h
      · skip
        refine m_Get h (fun _ h => ?_)
        refine m_C h (fun h => ?_)
        refine m_S h (fun _ h => ?_)
        refine m_Put (fr2_up (by decide) f1) h (fun _ f2 h => ?_)
        refine m_gr (fr2_c_336_15 hG f2) h (fun h => ?_)
        refine m_Get h (fun _ h => ?_)
        refine m_Ld h (fun _ h => ?_)
        refine m_C h (fun h => ?_)
        refine m_and h (fun h => ?_)
        refine fr2_X12_puts hG (fun _ f3 h => ?_) f2 h
        refine m_gr (fr2_c_336_15 hG f3) h (fun h => ?_)
        refine m_Get h (fun _ h => ?_)
        refine m_Ld h (fun _ h => ?_)
        refine m_C h (fun h => ?_)
        refine m_if h (fun h => ?_) (fun h => ?_)
        · skip
          exact ih _ _ f3 h
        · skip
          refine m_Get h (fun _ h => ?_)
          refine m_C h (fun h => ?_)
          refine m_S h (fun _ h => ?_)
          refine m_Put (fr2_up (by decide) f3) h (fun _ f4 h => ?_)
          exact ih _ _ f4 h
theorem fr2_X12_settles {X G : Mm} {S : Sh} {K K' : Mm → Prop} {M : Mm} {u1 : Int} (hG : Inv X S G) (k : ∀ (m : Mm), fr2_F G m → K m → K' m) (f : fr2_F G M) (h : wp_X12_settles S M (336) u1 K) : wp_X12_settles S M (336) u1 K' := by
  refine m_ex h (fun n9 h => ?_)
  refine fr2_X12_settles_0 hG k _ _ _ f h
theorem fr2_X12_isInside_2 {X G : Mm} {S : Sh} {K K' : Int → Mm → Prop} (hG : Inv X S G) (k : ∀ (a0 : Int) (m : Mm), fr2_F G m → K a0 m → K' a0 m) : ∀ (n : Nat) (u1 : Int) (M : Mm), fr2_F G M → wp_X12_isInside_2 S K n (336) u1 M → wp_X12_isInside_2 S K' n (336) u1 M := by
  intro n
  induction n with
  | zero => intro u1 M f h; exact h
  | succ n ih =>
    intro u1 M f h
    refine m_Get h (fun _ h => ?_)
    refine m_if h (fun h => ?_) (fun h => ?_)
    · skip
      refine m_C h (fun h => ?_)
      refine m_and h (fun h => ?_)
      exact k _ _ f h
    · skip
      refine m_gr (fr2_c_336_15 hG f) h (fun h => ?_)
      refine m_Ld h (fun _ h => ?_)
      refine m_C h (fun h => ?_)
      refine m_if h (fun h => ?_) (fun h => ?_)
      · skip
        refine m_A h (fun _ h => ?_)
        exact ih _ _ f h
      · skip
        refine m_C h (fun h => ?_)
        refine m_and h (fun h => ?_)
        exact k _ _ f h
theorem fr2_X12_isInside {X G : Mm} {S : Sh} {K K' : Int → Mm → Prop} {M : Mm} (hG : Inv X S G) (k : ∀ (a0 : Int) (m : Mm), fr2_F G m → K a0 m → K' a0 m) (f : fr2_F G M) (h : wp_X12_isInside S M (336) K) : wp_X12_isInside S M (336) K' := by
  refine m_C h (fun h => ?_)
  refine m_ex h (fun n9 h => ?_)
  refine fr2_X12_isInside_2 hG k _ _ _ f h
theorem fr2_X12_closes_5 {X G : Mm} {S : Sh} {K K' : Mm → Prop} (hG : Inv X S G) (k : ∀ (m : Mm), fr2_F G m → K m → K' m) : ∀ (n : Nat) (M : Mm), fr2_F G M → wp_X12_closes_5 S K n (336) M → wp_X12_closes_5 S K' n (336) M := by
  intro n
  induction n with
  | zero => intro M f h; exact h
  | succ n ih =>
    intro M f h
    refine m_and h (fun h => ?_)
    refine fr2_X12_see hG (fun _ _ f1 h => ?_) f h
    refine m_C h (fun h => ?_)
    refine m_if h (fun h => ?_) (fun h => ?_)
    · skip
      exact k _ f1 h
    · skip
      refine m_and h (fun h => ?_)
      refine fr2_X12_isInside hG (fun _ _ f2 h => ?_) f1 h
      refine m_if h (fun h => ?_) (fun h => ?_)
      · skip
        exact k _ f2 h
      · skip
        refine m_C h (fun h => ?_)
        refine m_and h (fun h => ?_)
        refine fr2_X12_settles hG (fun _ f3 h => ?_) f2 h
        refine m_Get h (fun _ h => ?_)
        refine m_C h (fun h => ?_)
        refine m_S h (fun _ h => ?_)
        refine m_Put (fr2_up (by decide) f3) h (fun _ f4 h => ?_)
        refine m_Get h (fun _ h => ?_)
        refine m_C h (fun h => ?_)
        refine m_S h (fun _ h => ?_)
        refine m_Put (fr2_up (by decide) f4) h (fun _ f5 h => ?_)
        refine m_Get h (fun _ h => ?_)
        refine m_C h (fun h => ?_)
        refine m_A h (fun _ h => ?_)
        refine m_Put (fr2_up (by decide) f5) h (fun _ f6 h => ?_)
        refine m_C h (fun h => ?_)
        refine m_and h (fun h => ?_)
        refine fr2_X12_settles hG (fun _ f7 h => ?_) f6 h
        exact ih _ f7 h
theorem fr2_X12_closes {X G : Mm} {S : Sh} {K K' : Mm → Prop} {M : Mm} (hG : Inv X S G) (k : ∀ (m : Mm), fr2_F G m → K m → K' m) (f : fr2_F G M) (h : wp_X12_closes S M (336) K) : wp_X12_closes S M (336) K' := by
  refine m_C h (fun h => ?_)
  refine m_and h (fun h => ?_)
  refine fr2_X12_settles hG (fun _ f1 h => ?_) f h
  refine m_ex h (fun n9 h => ?_)
  refine fr2_X12_closes_5 hG k _ _ f1 h
theorem fr2_X12_tested_76 {X G : Mm} {S : Sh} {k12 k12' : Int → Int → Mm → Prop} {K K' : Int → Mm → Prop} {M : Mm} {u1 : Int} {t0 : Int} (hG : Inv X S G) (kk12 : ∀ (a1 : Int) (m : Mm), fr2_F G m → k12 (336) a1 m → k12' (336) a1 m) (k : ∀ (a0 : Int) (m : Mm), fr2_F G m → K a0 m → K' a0 m) (f : fr2_F G M) (h : wp_X12_tested_76 S k12 K (336) u1 t0 M) : wp_X12_tested_76 S k12' K' (336) u1 t0 M := by
  refine m_and h (fun h => ?_)
  refine fr2_X12_passWord hG (fun _ f1 h => ?_) f h
  refine fr2_X12_strength hG (fun _ _ f2 h => ?_) f1 h
  refine m_and h (fun h => ?_)
  refine fr2_X12_settles hG (fun _ f3 h => ?_) f2 h
  refine m_gr (fr2_c_336_15 hG f3) h (fun h => ?_)
  refine m_Get h (fun _ h => ?_)
  refine m_St (fr2_up (fr2_a_343 _) f3) h (fun _ f4 h => ?_)
  refine m_Get h (fun _ h => ?_)
  refine m_C h (fun h => ?_)
  refine m_A h (fun _ h => ?_)
  refine m_Put (fr2_up (by decide) f4) h (fun _ f5 h => ?_)
  exact kk12 _ _ f5 h
theorem fr2_X12_tested_54 {X G : Mm} {S : Sh} {k12 k12' : Int → Int → Mm → Prop} {K K' : Int → Mm → Prop} {M : Mm} {t0 : Int} (hG : Inv X S G) (kk12 : ∀ (a1 : Int) (m : Mm), fr2_F G m → k12 (336) a1 m → k12' (336) a1 m) (k : ∀ (a0 : Int) (m : Mm), fr2_F G m → K a0 m → K' a0 m) (f : fr2_F G M) (h : wp_X12_tested_54 S k12 K (336) t0 M) : wp_X12_tested_54 S k12' K' (336) t0 M := by
  refine m_if h (fun h => ?_) (fun h => ?_)
  · skip
    exact kk12 _ _ f h
  · skip
    refine m_C h (fun h => ?_)
    refine m_and h (fun h => ?_)
    refine fr2_X12_isWord hG (fun _ _ f1 h => ?_) f h
    refine m_if h (fun h => ?_) (fun h => ?_)
    · skip
      refine m_C h (fun h => ?_)
      refine fr2_X12_tested_76 hG kk12 k f1 h
    · skip
      refine m_C h (fun h => ?_)
      refine fr2_X12_tested_76 hG kk12 k f1 h
