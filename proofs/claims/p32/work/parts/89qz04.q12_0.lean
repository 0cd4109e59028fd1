section
/-- what these methods may write -/
abbrev fq2_W (c p : Int) : Prop := (c = 336 ∧ (p = 18 ∨ p = 29)) ∨ c = 344 ∨ c = 345 ∨ (349 ≤ c ∧ c ≤ 353)
def fq2_F (G M : Mm) : Prop := ∀ c p : Int, ¬ fq2_W c p → M c p = G c p
theorem fq2_up {G M : Mm} {x i v : Int} (w : fq2_W x i) (f : fq2_F G M) : fq2_F G (up M x i v) := fun c p q => (up_ne (fun e => by obtain ⟨e1, e2⟩ := e; subst e1; subst e2; exact q w)).trans (f c p q)
theorem fq2_a_344 (i : Int) : fq2_W 344 i := by unfold fq2_W; omega
theorem fq2_a_345 (i : Int) : fq2_W 345 i := by unfold fq2_W; omega
theorem fq2_a_349 (i : Int) : fq2_W 349 i := by unfold fq2_W; omega
theorem fq2_a_350 (i : Int) : fq2_W 350 i := by unfold fq2_W; omega
theorem fq2_a_351 (i : Int) : fq2_W 351 i := by unfold fq2_W; omega
theorem fq2_c_336_3 {X G M : Mm} {S : Sh} (hG : Inv X S G) (f : fq2_F G M) : M 336 3 = 338 := (f 336 3 (by decide)).trans hG.f_336_3
theorem fq2_c_336_5 {X G M : Mm} {S : Sh} (hG : Inv X S G) (f : fq2_F G M) : M 336 5 = 340 := (f 336 5 (by decide)).trans hG.f_336_5
theorem fq2_c_336_6 {X G M : Mm} {S : Sh} (hG : Inv X S G) (f : fq2_F G M) : M 336 6 = 341 := (f 336 6 (by decide)).trans hG.f_336_6
theorem fq2_c_336_17 {X G M : Mm} {S : Sh} (hG : Inv X S G) (f : fq2_F G M) : M 336 17 = 344 := (f 336 17 (by decide)).trans hG.f_336_17
theorem fq2_c_336_19 {X G M : Mm} {S : Sh} (hG : Inv X S G) (f : fq2_F G M) : M 336 19 = 345 := (f 336 19 (by decide)).trans hG.f_336_19
theorem fq2_c_336_20 {X G M : Mm} {S : Sh} (hG : Inv X S G) (f : fq2_F G M) : M 336 20 = 346 := (f 336 20 (by decide)).trans hG.f_336_20
theorem fq2_c_336_27 {X G M : Mm} {S : Sh} (hG : Inv X S G) (f : fq2_F G M) : M 336 27 = 349 := (f 336 27 (by decide)).trans hG.f_336_27
theorem fq2_c_336_28 {X G M : Mm} {S : Sh} (hG : Inv X S G) (f : fq2_F G M) : M 336 28 = 350 := (f 336 28 (by decide)).trans hG.f_336_28
theorem fq2_c_336_30 {X G M : Mm} {S : Sh} (hG : Inv X S G) (f : fq2_F G M) : M 336 30 = 351 := (f 336 30 (by decide)).trans hG.f_336_30
theorem fq2_X12_in {X G : Mm} {S : Sh} {K K' : Int → Mm → Prop} {M : Mm} {u0 : Int} {u2 : Int} {u4 : Int} (hG : Inv X S G) (k : ∀ (a0 : Int) (m : Mm), fq2_F G m → K a0 m → K' a0 m) (f : fq2_F G M) (h : wp_X12_in S M u0 u2 u4 K) : wp_X12_in S M u0 u2 u4 K' := by
  refine m_Cmp h (fun _ h => ?_)
  refine m_if h (fun h => ?_) (fun h => ?_)
  · skip
    refine m_C h (fun h => ?_)
    refine m_and h (fun h => ?_)
    exact k _ _ f h
  · skip
    refine m_Cmp h (fun _ h => ?_)
    refine m_if h (fun h => ?_) (fun h => ?_)
    · skip
      refine m_C h (fun h => ?_)
      refine m_and h (fun h => ?_)
      exact k _ _ f h
    · skip
      refine m_C h (fun h => ?_)
      refine m_and h (fun h => ?_)
      exact k _ _ f h
theorem fq2_X12_isHand {X G : Mm} {S : Sh} {K K' : Int → Mm → Prop} {M : Mm} {u1 : Int} (hG : Inv X S G) (k : ∀ (a0 : Int) (m : Mm), fq2_F G m → K a0 m → K' a0 m) (f : fq2_F G M) (h : wp_X12_isHand S M (336) u1 K) : wp_X12_isHand S M (336) u1 K' := by
  refine m_if h (fun h => ?_) (fun h => ?_)
  · skip
    refine m_C h (fun h => ?_)
    refine m_and h (fun h => ?_)
    exact k _ _ f h
  · skip
    refine m_gr (fq2_c_336_20 hG f) h (fun h => ?_)
    refine m_C h (fun h => ?_)
    refine m_Ld h (fun _ h => ?_)
    refine m_if h (fun h => ?_) (fun h => ?_)
    · skip
      refine m_C h (fun h => ?_)
      refine m_and h (fun h => ?_)
      exact k _ _ f h
    · skip
      refine m_C h (fun h => ?_)
      refine m_and h (fun h => ?_)
      exact k _ _ f h
theorem fq2_X12_handOf {X G : Mm} {S : Sh} {K K' : Int → Mm → Prop} {M : Mm} {u1 : Int} {u2 : Int} (hG : Inv X S G) (k : ∀ (a0 : Int) (m : Mm), fq2_F G m → K a0 m → K' a0 m) (f : fq2_F G M) (h : wp_X12_handOf S M (336) u1 u2 K) : wp_X12_handOf S M (336) u1 u2 K' := by
  refine m_gr (fq2_c_336_20 hG f) h (fun h => ?_)
  refine m_C h (fun h => ?_)
  refine m_C h (fun h => ?_)
  refine m_M h (fun _ h => ?_)
  refine m_A h (fun _ h => ?_)
  refine m_A h (fun _ h => ?_)
  refine m_Ld h (fun _ h => ?_)
  exact k _ _ f h
theorem fq2_X12_jugOf {X G : Mm} {S : Sh} {K K' : Int → Mm → Prop} {M : Mm} {u1 : Int} {u2 : Int} (hG : Inv X S G) (k : ∀ (a0 : Int) (m : Mm), fq2_F G m → K a0 m → K' a0 m) (f : fq2_F G M) (h : wp_X12_jugOf S M (336) u1 u2 K) : wp_X12_jugOf S M (336) u1 u2 K' := by
  refine m_gr (fq2_c_336_20 hG f) h (fun h => ?_)
  refine m_C h (fun h => ?_)
  refine m_C h (fun h => ?_)
  refine m_M h (fun _ h => ?_)
  refine m_A h (fun _ h => ?_)
  refine m_A h (fun _ h => ?_)
  refine m_Ld h (fun _ h => ?_)
  exact k _ _ f h
theorem fq2_X12_isJug {X G : Mm} {S : Sh} {K K' : Int → Mm → Prop} {M : Mm} {u1 : Int} (hG : Inv X S G) (k : ∀ (a0 : Int) (m : Mm), fq2_F G m → K a0 m → K' a0 m) (f : fq2_F G M) (h : wp_X12_isJug S M (336) u1 K) : wp_X12_isJug S M (336) u1 K' := by
  refine m_if h (fun h => ?_) (fun h => ?_)
  · skip
    refine m_C h (fun h => ?_)
    refine m_and h (fun h => ?_)
    exact k _ _ f h
  · skip
    refine m_gr (fq2_c_336_20 hG f) h (fun h => ?_)
    refine m_C h (fun h => ?_)
    refine m_Ld h (fun _ h => ?_)
    refine m_if h (fun h => ?_) (fun h => ?_)
    · skip
      refine m_C h (fun h => ?_)
      refine m_and h (fun h => ?_)
      exact k _ _ f h
    · skip
      refine m_C h (fun h => ?_)
      refine m_and h (fun h => ?_)
      exact k _ _ f h
theorem fq2_X12_stands {X G : Mm} {S : Sh} {K K' : Int → Mm → Prop} {M : Mm} {u1 : Int} (hG : Inv X S G) (k : ∀ (a0 : Int) (m : Mm), fq2_F G m → K a0 m → K' a0 m) (f : fq2_F G M) (h : wp_X12_stands S M (336) u1 K) : wp_X12_stands S M (336) u1 K' := by
  refine m_C h (fun h => ?_)
  refine m_and h (fun h => ?_)
  refine fq2_X12_jugOf hG (fun _ _ f1 h => ?_) f h
  refine m_if h (fun h => ?_) (fun h => ?_)
  · skip
    refine m_C h (fun h => ?_)
    refine m_and h (fun h => ?_)
    exact k _ _ f1 h
  · skip
    refine m_C h (fun h => ?_)
    refine m_and h (fun h => ?_)
    refine fq2_X12_jugOf hG (fun _ _ f2 h => ?_) f1 h
    refine m_if h (fun h => ?_) (fun h => ?_)
    · skip
      refine m_C h (fun h => ?_)
      refine m_and h (fun h => ?_)
      exact k _ _ f2 h
    · skip
      refine m_C h (fun h => ?_)
      refine m_and h (fun h => ?_)
      exact k _ _ f2 h
theorem fq2_X12_wantOf {X G : Mm} {S : Sh} {K K' : Int → Mm → Prop} {M : Mm} {u1 : Int} {u2 : Int} (hG : Inv X S G) (k : ∀ (a0 : Int) (m : Mm), fq2_F G m → K a0 m → K' a0 m) (f : fq2_F G M) (h : wp_X12_wantOf S M (336) u1 u2 K) : wp_X12_wantOf S M (336) u1 u2 K' := by
  refine m_gr (fq2_c_336_20 hG f) h (fun h => ?_)
  refine m_C h (fun h => ?_)
  refine m_C h (fun h => ?_)
  refine m_M h (fun _ h => ?_)
  refine m_A h (fun _ h => ?_)
  refine m_A h (fun _ h => ?_)
  refine m_Ld h (fun _ h => ?_)
  exact k _ _ f h
theorem fq2_X12_isDairy {X G : Mm} {S : Sh} {K K' : Int → Mm → Prop} {M : Mm} (hG : Inv X S G) (k : ∀ (a0 : Int) (m : Mm), fq2_F G m → K a0 m → K' a0 m) (f : fq2_F G M) (h : wp_X12_isDairy S M (336) K) : wp_X12_isDairy S M (336) K' := by
  refine m_gr (fq2_c_336_20 hG f) h (fun h => ?_)
  refine m_C h (fun h => ?_)
  refine m_Ld h (fun _ h => ?_)
  refine m_if h (fun h => ?_) (fun h => ?_)
  · skip
    refine m_C h (fun h => ?_)
    refine m_and h (fun h => ?_)
    exact k _ _ f h
  · skip
    refine m_C h (fun h => ?_)
    refine m_and h (fun h => ?_)
    exact k _ _ f h
theorem fq2_X12_heatIn_68 {X G : Mm} {S : Sh} {k4 k4' : Int → Int → Int → Int → Mm → Prop} {K K' : Int → Mm → Prop} {M : Mm} {u1 : Int} {u3 : Int} {t0 : Int} {t1 : Int} (hG : Inv X S G) (kk4 : ∀ (a1 : Int) (a2 : Int) (a3 : Int) (m : Mm), fq2_F G m → k4 (336) a1 a2 a3 m → k4' (336) a1 a2 a3 m) (k : ∀ (a0 : Int) (m : Mm), fq2_F G m → K a0 m → K' a0 m) (f : fq2_F G M) (h : wp_X12_heatIn_68 S k4 K (336) u1 u3 t0 t1 M) : wp_X12_heatIn_68 S k4' K' (336) u1 u3 t0 t1 M := by
  refine m_A h (fun _ h => ?_)
  refine m_A h (fun _ h => ?_)
  exact kk4 _ _ _ _ f h
theorem fq2_X12_heatIn_67 {X G : Mm} {S : Sh} {k4 k4' : Int → Int → Int → Int → Mm → Prop} {K K' : Int → Mm → Prop} {M : Mm} {u1 : Int} {u3 : Int} {t0 : Int} (hG : Inv X S G) (kk4 : ∀ (a1 : Int) (a2 : Int) (a3 : Int) (m : Mm), fq2_F G m → k4 (336) a1 a2 a3 m → k4' (336) a1 a2 a3 m) (k : ∀ (a0 : Int) (m : Mm), fq2_F G m → K a0 m → K' a0 m) (f : fq2_F G M) (h : wp_X12_heatIn_67 S k4 K (336) u1 u3 t0 M) : wp_X12_heatIn_67 S k4' K' (336) u1 u3 t0 M := by
  refine m_C h (fun h => ?_)
  refine fq2_X12_heatIn_68 hG kk4 k f h
theorem fq2_X12_heatIn_4 {X G : Mm} {S : Sh} {K K' : Int → Mm → Prop} (hG : Inv X S G) (k : ∀ (a0 : Int) (m : Mm), fq2_F G m → K a0 m → K' a0 m) : ∀ (n : Nat) (u1 : Int) (u2 : Int) (u3 : Int) (M : Mm), fq2_F G M → wp_X12_heatIn_4 S K n (336) u1 u2 u3 M → wp_X12_heatIn_4 S K' n (336) u1 u2 u3 M := by
  intro n
  induction n with
  | zero => intro u1 u2 u3 M f h; exact h
  | succ n ih =>
    intro u1 u2 u3 M f h
    refine m_gr (fq2_c_336_20 hG f) h (fun h => ?_)
    refine m_C h (fun h => ?_)
    refine m_Ld h (fun _ h => ?_)
    refine m_if h (fun h => ?_) (fun h => ?_)
    · skip
      exact k _ _ f h
    · skip
      refine m_Get h (fun _ h => ?_)
      refine m_if h (fun h => ?_) (fun h => ?_)
      · skip
        exact k _ _ f h
      · skip
        refine m_C h (fun h => ?_)
        refine m_C h (fun h => ?_)
        refine m_M h (fun _ h => ?_)
        refine m_A h (fun _ h => ?_)
        refine m_gr (fq2_c_336_20 hG f) h (fun h => ?_)
        refine m_Ld h (fun _ h => ?_)
        refine m_if h (fun h => ?_) (fun h => ?_)
        · skip
          refine fq2_X12_heatIn_67 hG (fun _ _ _ _ f1 h => ?_) k f h
          exact ih _ _ _ _ f1 h
        · skip
          refine m_gr (fq2_c_336_20 hG f) h (fun h => ?_)
          refine m_C h (fun h => ?_)
          refine m_A h (fun _ h => ?_)
          refine m_Ld h (fun _ h => ?_)
          refine m_if h (fun h => ?_) (fun h => ?_)
          · skip
            refine fq2_X12_heatIn_67 hG (fun _ _ _ _ f2 h => ?_) k f h
            exact ih _ _ _ _ f2 h
          · skip
            refine m_gr (fq2_c_336_20 hG f) h (fun h => ?_)
            refine m_C h (fun h => ?_)
            refine m_A h (fun _ h => ?_)
            refine m_Ld h (fun _ h => ?_)
            refine fq2_X12_heatIn_68 hG (fun _ _ _ _ f3 h => ?_) k f h
            exact ih _ _ _ _ f3 h
theorem fq2_X12_heatIn {X G : Mm} {S : Sh} {K K' : Int → Mm → Prop} {M : Mm} {u1 : Int} (hG : Inv X S G) (k : ∀ (a0 : Int) (m : Mm), fq2_F G m → K a0 m → K' a0 m) (f : fq2_F G M) (h : wp_X12_heatIn S M (336) u1 K) : wp_X12_heatIn S M (336) u1 K' := by
  refine m_C h (fun h => ?_)
  refine m_C h (fun h => ?_)
  refine m_ex h (fun n9 h => ?_)
  refine fq2_X12_heatIn_4 hG k _ _ _ _ _ f h
theorem fq2_X12_bits_4 {X G : Mm} {S : Sh} {K K' : Int → Mm → Prop} (hG : Inv X S G) (k : ∀ (a0 : Int) (m : Mm), fq2_F G m → K a0 m → K' a0 m) : ∀ (n : Nat) (u1 : Int) (u2 : Int) (M : Mm), fq2_F G M → wp_X12_bits_4 S K n u1 u2 M → wp_X12_bits_4 S K' n u1 u2 M := by
  intro n
  induction n with
  | zero => intro u1 u2 M f h; exact h
  | succ n ih =>
    intro u1 u2 M f h
    refine m_if h (fun h => ?_) (fun h => ?_)
    · skip
      exact k _ _ f h
    · skip
      refine m_A h (fun _ h => ?_)
      refine m_C h (fun h => ?_)
      refine m_S h (fun _ h => ?_)
      refine m_O h (fun _ h => ?_)
      exact ih _ _ _ f h
theorem fq2_X12_bits {X G : Mm} {S : Sh} {K K' : Int → Mm → Prop} {M : Mm} {u0 : Int} (hG : Inv X S G) (k : ∀ (a0 : Int) (m : Mm), fq2_F G m → K a0 m → K' a0 m) (f : fq2_F G M) (h : wp_X12_bits S M u0 K) : wp_X12_bits S M u0 K' := by
  refine m_C h (fun h => ?_)
  refine m_ex h (fun n9 h => ?_)
  refine fq2_X12_bits_4 hG k _ _ _ _ f h
theorem fq2_X12_push {X G : Mm} {S : Sh} {K K' : Mm → Prop} {M : Mm} {u1 : Int} (hG : Inv X S G) (k : ∀ (m : Mm), fq2_F G m → K m → K' m) (f : fq2_F G M) (h : wp_X12_push S M (336) u1 K) : wp_X12_push S M (336) u1 K' := by
  refine m_gr (fq2_c_336_17 hG f) h (fun h => ?_)
  refine m_Get h (fun _ h => ?_)
  refine m_St (fq2_up (fq2_a_344 _) f) h (fun _ f1 h => ?_)
  refine m_Get h (fun _ h => ?_)
  refine m_C h (fun h => ?_)
  refine m_A h (fun _ h => ?_)
  refine m_Put (fq2_up (by decide) f1) h (fun _ f2 h => ?_)
  exact k _ f2 h
theorem fq2_X12_pop {X G : Mm} {S : Sh} {K K' : Int → Mm → Prop} {M : Mm} (hG : Inv X S G) (k : ∀ (a0 : Int) (m : Mm), fq2_F G m → K a0 m → K' a0 m) (f : fq2_F G M) (h : wp_X12_pop S M (336) K) : wp_X12_pop S M (336) K' := by
  refine m_Get h (fun _ h => ?_)
  refine m_C h (fun h => ?_)
  refine m_S h (fun _ h => ?_)
  refine m_Put (fq2_up (by decide) f) h (fun _ f1 h => ?_)
  refine m_gr (fq2_c_336_17 hG f1) h (fun h => ?_)
  refine m_Get h (fun _ h => ?_)
  refine m_Ld h (fun _ h => ?_)
  exact k _ _ f1 h
theorem fq2_X12_one {X G : Mm} {S : Sh} {K K' : Int → Mm → Prop} {M : Mm} {u0 : Int} {u1 : Int} {u3 : Int} (hG : Inv X S G) (k : ∀ (a0 : Int) (m : Mm), fq2_F G m → K a0 m → K' a0 m) (f : fq2_F G M) (h : wp_X12_one S M u0 u1 u3 K) : wp_X12_one S M u0 u1 u3 K' := by
  refine m_if h (fun h => ?_) (fun h => ?_)
  · skip
    refine m_LA h (fun _ h => ?_)
    exact k _ _ f h
  · skip
    refine m_if h (fun h => ?_) (fun h => ?_)
    · skip
      refine m_LS h (fun _ h => ?_)
      exact k _ _ f h
    · skip
      refine m_if h (fun h => ?_) (fun h => ?_)
      · skip
        refine m_LM h (fun _ h => ?_)
        exact k _ _ f h
      · skip
        refine m_if h (fun h => ?_) (fun h => ?_)
        · skip
          refine m_C h (fun h => ?_)
          refine m_Cmp h (fun _ h => ?_)
          refine m_if h (fun h => ?_) (fun h => ?_)
          · skip
            refine m_D h (fun _ h => ?_)
            exact k _ _ f h
          · skip
            refine m_C h (fun h => ?_)
            exact k _ _ f h
        · skip
          refine m_if h (fun h => ?_) (fun h => ?_)
          · skip
            refine m_Cmp h (fun _ h => ?_)
            refine m_if h (fun h => ?_) (fun h => ?_)
            · skip
              refine m_C h (fun h => ?_)
              exact k _ _ f h
            · skip
              refine m_C h (fun h => ?_)
              exact k _ _ f h
          · skip
            refine m_if h (fun h => ?_) (fun h => ?_)
            · skip
              refine m_Cmp h (fun _ h => ?_)
              refine m_if h (fun h => ?_) (fun h => ?_)
              · skip
                refine m_C h (fun h => ?_)
                exact k _ _ f h
              · skip
                refine m_C h (fun h => ?_)
                exact k _ _ f h
            · skip
              refine m_if h (fun h => ?_) (fun h => ?_)
              · skip
                refine m_Cmp h (fun _ h => ?_)
                refine m_if h (fun h => ?_) (fun h => ?_)
                · skip
                  refine m_C h (fun h => ?_)
                  exact k _ _ f h
                · skip
                  refine m_C h (fun h => ?_)
                  exact k _ _ f h
              · skip
                refine m_if h (fun h => ?_) (fun h => ?_)
                · skip
                  refine m_Cmp h (fun _ h => ?_)
                  refine m_if h (fun h => ?_) (fun h => ?_)
                  · skip
                    refine m_C h (fun h => ?_)
                    exact k _ _ f h
                  · skip
                    refine m_C h (fun h => ?_)
                    exact k _ _ f h
                · skip
                  refine m_if h (fun h => ?_) (fun h => ?_)
                  · skip
                    refine m_Cmp h (fun _ h => ?_)
                    refine m_if h (fun h => ?_) (fun h => ?_)
                    · skip
                      refine m_C h (fun h => ?_)
                      exact k _ _ f h
                    · skip
                      refine m_C h (fun h => ?_)
                      exact k _ _ f h
                  · skip
                    refine m_if h (fun h => ?_) (fun h => ?_)
                    · skip
                      refine m_O h (fun _ h => ?_)
                      exact k _ _ f h
                    · skip
                      refine m_if h (fun h => ?_) (fun h => ?_)
                      · skip
                        refine m_O h (fun _ h => ?_)
                        exact k _ _ f h
                      · skip
                        refine m_if h (fun h => ?_) (fun h => ?_)
                        · skip
                          refine m_O h (fun _ h => ?_)
                          exact k _ _ f h
                        · skip
                          refine m_if h (fun h => ?_) (fun h => ?_)
                          · skip
                            refine m_C h (fun h => ?_)
                            refine m_Cmp h (fun _ h => ?_)
                            refine m_if h (fun h => ?_) (fun h => ?_)
                            · skip
                              refine m_D h (fun _ h => ?_)
                              exact k _ _ f h
                            · skip
                              refine m_C h (fun h => ?_)
                              exact k _ _ f h
                          · skip
                            refine m_O h (fun _ h => ?_)
                            exact k _ _ f h
theorem fq2_X12_reckons_129 {X G : Mm} {S : Sh} {k8 k8' : Int → Int → Int → Int → Mm → Prop} {K K' : Int → Mm → Prop} {M : Mm} {u1 : Int} {u3 : Int} {u4 : Int} (hG : Inv X S G) (kk8 : ∀ (a1 : Int) (a2 : Int) (a3 : Int) (m : Mm), fq2_F G m → k8 (336) a1 a2 a3 m → k8' (336) a1 a2 a3 m) (k : ∀ (a0 : Int) (m : Mm), fq2_F G m → K a0 m → K' a0 m) (f : fq2_F G M) (h : wp_X12_reckons_129 S k8 K (336) u1 u3 u4 M) : wp_X12_reckons_129 S k8' K' (336) u1 u3 u4 M := by
  refine m_A h (fun _ h => ?_)
  exact kk8 _ _ _ _ f h
theorem fq2_X12_reckons_8 {X G : Mm} {S : Sh} {K K' : Int → Mm → Prop} (hG : Inv X S G) (k : ∀ (a0 : Int) (m : Mm), fq2_F G m → K a0 m → K' a0 m) : ∀ (n : Nat) (u1 : Int) (u3 : Int) (u4 : Int) (M : Mm), fq2_F G M → wp_X12_reckons_8 S K n (336) u1 u3 u4 M → wp_X12_reckons_8 S K' n (336) u1 u3 u4 M := by
  intro n
  induction n with
  | zero => intro u1 u3 u4 M f h; exact h
  | succ n ih =>
    intro u1 u3 u4 M f h
    refine m_if h (fun h => ?_) (fun h => ?_)
    · skip
      refine m_and h (fun h => ?_)
      refine fq2_X12_pop hG (fun _ _ f1 h => ?_) f h
      exact k _ _ f1 h
    · skip
      refine m_gr (fq2_c_336_3 hG f) h (fun h => ?_)
      refine m_C h (fun h => ?_)
      refine m_M h (fun _ h => ?_)
      refine m_A h (fun _ h => ?_)
      refine m_Ld h (fun _ h => ?_)
      refine m_C h (fun h => ?_)
      refine m_O h (fun _ h => ?_)
      refine m_gr (fq2_c_336_3 hG f) h (fun h => ?_)
      refine m_C h (fun h => ?_)
      refine m_M h (fun _ h => ?_)
      refine m_A h (fun _ h => ?_)
      refine m_Ld h (fun _ h => ?_)
      refine m_C h (fun h => ?_)
      refine m_O h (fun _ h => ?_)
      refine m_if h (fun h => ?_) (fun h => ?_)
      · skip
        refine m_C h (fun h => ?_)
        refine m_if h (fun h => ?_) (fun h => ?_)
        · skip
          refine m_C h (fun h => ?_)
          refine m_if h (fun h => ?_) (fun h => ?_)
          · skip
            refine m_and h (fun h => ?_)
            refine fq2_X12_pop hG (fun _ _ f2 h => ?_) f h
            refine m_and h (fun h => ?_)
            refine fq2_X12_pop hG (fun _ _ f3 h => ?_) f2 h
            refine fq2_X12_one hG (fun _ _ f4 h => ?_) f3 h
            refine m_and h (fun h => ?_)
            refine fq2_X12_push hG (fun _ f5 h => ?_) f4 h
            refine fq2_X12_reckons_129 hG (fun _ _ _ _ f6 h => ?_) k f5 h
            exact ih _ _ _ _ f6 h
          · skip
            refine m_C h (fun h => ?_)
            refine m_and h (fun h => ?_)
            refine fq2_X12_pop hG (fun _ _ f7 h => ?_) f h
            refine m_LS h (fun _ h => ?_)
            refine m_and h (fun h => ?_)
            refine fq2_X12_push hG (fun _ f8 h => ?_) f7 h
            refine fq2_X12_reckons_129 hG (fun _ _ _ _ f9 h => ?_) k f8 h
            exact ih _ _ _ _ f9 h
        · skip
          refine m_gr (fq2_c_336_19 hG f) h (fun h => ?_)
          refine m_Ld h (fun _ h => ?_)
          refine m_and h (fun h => ?_)
          refine fq2_X12_push hG (fun _ f10 h => ?_) f h
          refine fq2_X12_reckons_129 hG (fun _ _ _ _ f11 h => ?_) k f10 h
          exact ih _ _ _ _ f11 h
      · skip
        refine m_C h (fun h => ?_)
        refine m_and h (fun h => ?_)
        refine fq2_X12_push hG (fun _ f12 h => ?_) f h
        refine fq2_X12_reckons_129 hG (fun _ _ _ _ f13 h => ?_) k f12 h
        exact ih _ _ _ _ f13 h
theorem fq2_X12_reckons {X G : Mm} {S : Sh} {K K' : Int → Mm → Prop} {M : Mm} {u1 : Int} {u2 : Int} {u3 : Int} (hG : Inv X S G) (k : ∀ (a0 : Int) (m : Mm), fq2_F G m → K a0 m → K' a0 m) (f : fq2_F G M) (h : wp_X12_reckons S M (336) u1 u2 u3 K) : wp_X12_reckons S M (336) u1 u2 u3 K' := by
  refine m_C h (fun h => ?_)
  refine m_Put (fq2_up (by decide) f) h (fun _ f1 h => ?_)
  refine m_ex h (fun n9 h => ?_)
  refine fq2_X12_reckons_8 hG k _ _ _ _ _ f1 h
theorem fq2_X12_summedBy_58 {X G : Mm} {S : Sh} {K K' : Int → Mm → Prop} {M : Mm} {u1 : Int} {u3 : Int} (hG : Inv X S G) (k : ∀ (a0 : Int) (m : Mm), fq2_F G m → K a0 m → K' a0 m) (f : fq2_F G M) (h : wp_X12_summedBy_58 S K (336) u1 u3 M) : wp_X12_summedBy_58 S K' (336) u1 u3 M := by
  refine m_gr (fq2_c_336_5 hG f) h (fun h => ?_)
  refine m_Ld h (fun _ h => ?_)
  refine m_gr (fq2_c_336_5 hG f) h (fun h => ?_)
  refine m_C h (fun h => ?_)
  refine m_A h (fun _ h => ?_)
  refine m_Ld h (fun _ h => ?_)
  refine m_and h (fun h => ?_)
  refine fq2_X12_reckons hG (fun _ _ f1 h => ?_) f h
  exact k _ _ f1 h
theorem fq2_X12_summedBy_2 {X G : Mm} {S : Sh} {K K' : Int → Mm → Prop} (hG : Inv X S G) (k : ∀ (a0 : Int) (m : Mm), fq2_F G m → K a0 m → K' a0 m) : ∀ (n : Nat) (u1 : Int) (u2 : Int) (M : Mm), fq2_F G M → wp_X12_summedBy_2 S K n (336) u1 u2 M → wp_X12_summedBy_2 S K' n (336) u1 u2 M := by
  intro n
  induction n with
  | zero => intro u1 u2 M f h; exact h
  | succ n ih =>
    intro u1 u2 M f h
    refine m_gr (fq2_c_336_6 hG f) h (fun h => ?_)
    refine m_Ld h (fun _ h => ?_)
    refine m_if h (fun h => ?_) (fun h => ?_)
    · skip
      refine m_C h (fun h => ?_)
      exact k _ _ f h
    · skip
      refine m_C h (fun h => ?_)
      refine m_M h (fun _ h => ?_)
      refine m_C h (fun h => ?_)
      refine m_M h (fun _ h => ?_)
      refine m_A h (fun _ h => ?_)
      refine m_gr (fq2_c_336_5 hG f) h (fun h => ?_)
      refine m_C h (fun h => ?_)
      refine m_A h (fun _ h => ?_)
      refine m_Ld h (fun _ h => ?_)
      refine m_if h (fun h => ?_) (fun h => ?_)
      · skip
        refine fq2_X12_summedBy_58 hG k f h
      · skip
        refine m_gr (fq2_c_336_5 hG f) h (fun h => ?_)
        refine m_C h (fun h => ?_)
        refine m_A h (fun _ h => ?_)
        refine m_Ld h (fun _ h => ?_)
        refine m_gr (fq2_c_336_5 hG f) h (fun h => ?_)
        refine m_C h (fun h => ?_)
        refine m_A h (fun _ h => ?_)
        refine m_Ld h (fun _ h => ?_)
        refine m_and h (fun h => ?_)
        refine fq2_X12_reckons hG (fun _ _ f1 h => ?_) f h
        refine m_C h (fun h => ?_)
        refine m_Cmp h (fun _ h => ?_)
        refine m_if h (fun h => ?_) (fun h => ?_)
        · skip
          refine m_A h (fun _ h => ?_)
          exact ih _ _ _ f1 h
        · skip
          refine fq2_X12_summedBy_58 hG k f1 h
theorem fq2_X12_summedBy {X G : Mm} {S : Sh} {K K' : Int → Mm → Prop} {M : Mm} {u1 : Int} (hG : Inv X S G) (k : ∀ (a0 : Int) (m : Mm), fq2_F G m → K a0 m → K' a0 m) (f : fq2_F G M) (h : wp_X12_summedBy S M (336) u1 K) : wp_X12_summedBy S M (336) u1 K' := by
  refine m_C h (fun h => ?_)
  refine m_ex h (fun n9 h => ?_)
  refine fq2_X12_summedBy_2 hG k _ _ _ _ f h
theorem fq2_X12_turnsIn_136 {X G : Mm} {S : Sh} {K K' : Int → Mm → Prop} {M : Mm} {t2 : Int} (hG : Inv X S G) (k : ∀ (a0 : Int) (m : Mm), fq2_F G m → K a0 m → K' a0 m) (f : fq2_F G M) (h : wp_X12_turnsIn_136 S K (336) (345) (9) t2 M) : wp_X12_turnsIn_136 S K' (336) (345) (9) t2 M := by
  refine m_St (fq2_up (fq2_a_345 _) f) h (fun _ f1 h => ?_)
  refine m_Get h (fun _ h => ?_)
  refine m_and h (fun h => ?_)
  refine fq2_X12_summedBy hG (fun _ _ f2 h => ?_) f1 h
  refine m_C h (fun h => ?_)
  refine m_Cmp h (fun _ h => ?_)
  refine m_if h (fun h => ?_) (fun h => ?_)
  · skip
    refine m_C h (fun h => ?_)
    refine m_Cmp h (fun _ h => ?_)
    refine m_if h (fun h => ?_) (fun h => ?_)
    · skip
      refine m_O1 h (fun _ h => ?_)
      exact k _ _ f2 h
    · skip
      refine m_C h (fun h => ?_)
      exact k _ _ f2 h
  · skip
    refine m_C h (fun h => ?_)
    exact k _ _ f2 h
theorem fq2_X12_turnsIn {X G : Mm} {S : Sh} {K K' : Int → Mm → Prop} {M : Mm} {u1 : Int} {u2 : Int} {u3 : Int} {u4 : Int} {u5 : Int} {u6 : Int} (hG : Inv X S G) (k : ∀ (a0 : Int) (m : Mm), fq2_F G m → K a0 m → K' a0 m) (f : fq2_F G M) (h : wp_X12_turnsIn S M (336) u1 u2 u3 u4 u5 u6 (1) K) : wp_X12_turnsIn S M (336) u1 u2 u3 u4 u5 u6 (1) K' := by
  refine m_and h (fun h => ?_)
  refine fq2_X12_heatIn hG (fun _ _ f1 h => ?_) f h
  refine m_Get h (fun _ h => ?_)
  refine m_if h (fun h => ?_) (fun h => ?_)
  · skip
    refine m_gr (fq2_c_336_19 hG f1) h (fun h => ?_)
    refine m_C h (fun h => ?_)
    refine m_C h (fun h => ?_)
    refine m_St (fq2_up (fq2_a_345 _) f1) h (fun _ f2 h => ?_)
    refine m_gr (fq2_c_336_19 hG f2) h (fun h => ?_)
    refine m_C h (fun h => ?_)
    refine m_C h (fun h => ?_)
    refine m_and h (fun h => ?_)
    refine fq2_X12_handOf hG (fun _ _ f3 h => ?_) f2 h
    refine m_C h (fun h => ?_)
    refine m_St (fq2_up (fq2_a_345 _) f3) h (fun _ f4 h => ?_)
    refine m_gr (fq2_c_336_19 hG f4) h (fun h => ?_)
    refine m_C h (fun h => ?_)
    refine m_C h (fun h => ?_)
    refine m_St (fq2_up (fq2_a_345 _) f4) h (fun _ f5 h => ?_)
    refine m_gr (fq2_c_336_19 hG f5) h (fun h => ?_)
    refine m_C h (fun h => ?_)
    refine m_C h (fun h => ?_)
    refine m_St (fq2_up (fq2_a_345 _) f5) h (fun _ f6 h => ?_)
    refine m_gr (fq2_c_336_19 hG f6) h (fun h => ?_)
    refine m_C h (fun h => ?_)
    refine m_C h (fun h => ?_)
    refine m_St (fq2_up (fq2_a_345 _) f6) h (fun _ f7 h => ?_)
    refine m_gr (fq2_c_336_19 hG f7) h (fun h => ?_)
    refine m_C h (fun h => ?_)
    refine m_C h (fun h => ?_)
    refine m_St (fq2_up (fq2_a_345 _) f7) h (fun _ f8 h => ?_)
    refine m_gr (fq2_c_336_19 hG f8) h (fun h => ?_)
    refine m_C h (fun h => ?_)
    refine m_C h (fun h => ?_)
    refine m_St (fq2_up (fq2_a_345 _) f8) h (fun _ f9 h => ?_)
    refine m_gr (fq2_c_336_19 hG f9) h (fun h => ?_)
    refine m_C h (fun h => ?_)
    refine m_C h (fun h => ?_)
    refine m_St (fq2_up (fq2_a_345 _) f9) h (fun _ f10 h => ?_)
    refine m_gr (fq2_c_336_19 hG f10) h (fun h => ?_)
    refine m_C h (fun h => ?_)
    refine m_C h (fun h => ?_)
    refine m_St (fq2_up (fq2_a_345 _) f10) h (fun _ f11 h => ?_)
    refine m_gr (fq2_c_336_19 hG f11) h (fun h => ?_)
    refine m_C h (fun h => ?_)
    refine m_gr (fq2_c_336_20 hG f11) h (fun h => ?_)
    refine m_C h (fun h => ?_)
    refine m_Ld h (fun _ h => ?_)
    refine m_if h (fun h => ?_) (fun h => ?_)
    · skip
      refine m_C h (fun h => ?_)
      refine fq2_X12_turnsIn_136 hG k f11 h
    · skip
      refine m_C h (fun h => ?_)
      refine fq2_X12_turnsIn_136 hG k f11 h
  · skip
    refine m_C h (fun h => ?_)
    refine m_and h (fun h => ?_)
    refine fq2_X12_handOf hG (fun _ _ f12 h => ?_) f1 h
    refine m_C h (fun h => ?_)
    refine m_D h (fun _ h => ?_)
    refine m_A h (fun _ h => ?_)
    refine m_A h (fun _ h => ?_)
    exact k _ _ f12 h
theorem fq2_X12_atMost {X G : Mm} {S : Sh} {K K' : Int → Mm → Prop} {M : Mm} {u0 : Int} {u1 : Int} (hG : Inv X S G) (k : ∀ (a0 : Int) (m : Mm), fq2_F G m → K a0 m → K' a0 m) (f : fq2_F G M) (h : wp_X12_atMost S M u0 u1 K) : wp_X12_atMost S M u0 u1 K' := by
  refine m_if h (fun h => ?_) (fun h => ?_)
  · skip
    exact k _ _ f h
  · skip
    exact k _ _ f h
theorem fq2_X12_moreTired {X G : Mm} {S : Sh} {K K' : Int → Mm → Prop} {M : Mm} {u1 : Int} {u2 : Int} (hG : Inv X S G) (k : ∀ (a0 : Int) (m : Mm), fq2_F G m → K a0 m → K' a0 m) (f : fq2_F G M) (h : wp_X12_moreTired S M (336) u1 u2 K) : wp_X12_moreTired S M (336) u1 u2 K' := by
  refine m_C h (fun h => ?_)
  refine m_and h (fun h => ?_)
  refine fq2_X12_handOf hG (fun _ _ f1 h => ?_) f h
  refine m_A h (fun _ h => ?_)
  refine m_C h (fun h => ?_)
  refine fq2_X12_atMost hG (fun _ _ f2 h => ?_) f1 h
  exact k _ _ f2 h
theorem fq2_X12_isPlace {X G : Mm} {S : Sh} {K K' : Int → Mm → Prop} {M : Mm} {u1 : Int} (hG : Inv X S G) (k : ∀ (a0 : Int) (m : Mm), fq2_F G m → K a0 m → K' a0 m) (f : fq2_F G M) (h : wp_X12_isPlace S M (336) u1 K) : wp_X12_isPlace S M (336) u1 K' := by
  refine m_if h (fun h => ?_) (fun h => ?_)
  · skip
    refine m_C h (fun h => ?_)
    refine m_and h (fun h => ?_)
    exact k _ _ f h
  · skip
    refine m_gr (fq2_c_336_20 hG f) h (fun h => ?_)
    refine m_C h (fun h => ?_)
    refine m_Ld h (fun _ h => ?_)
    refine m_if h (fun h => ?_) (fun h => ?_)
    · skip
      refine m_C h (fun h => ?_)
      refine m_and h (fun h => ?_)
      exact k _ _ f h
    · skip
      refine m_C h (fun h => ?_)
      refine m_and h (fun h => ?_)
      exact k _ _ f h
theorem fq2_X12_roadOf_78 {X G : Mm} {S : Sh} {k2 k2' : Int → Int → Int → Int → Mm → Prop} {K K' : Int → Mm → Prop} {M : Mm} {u1 : Int} {u2 : Int} {u3 : Int} (hG : Inv X S G) (kk2 : ∀ (a1 : Int) (a2 : Int) (a3 : Int) (m : Mm), fq2_F G m → k2 (336) a1 a2 a3 m → k2' (336) a1 a2 a3 m) (k : ∀ (a0 : Int) (m : Mm), fq2_F G m → K a0 m → K' a0 m) (f : fq2_F G M) (h : wp_X12_roadOf_78 S k2 K (336) u1 u2 u3 M) : wp_X12_roadOf_78 S k2' K' (336) u1 u2 u3 M := by
  refine m_A h (fun _ h => ?_)
  exact kk2 _ _ _ _ f h
theorem fq2_X12_roadOf_68 {X G : Mm} {S : Sh} {K K' : Int → Mm → Prop} {M : Mm} {u4 : Int} (hG : Inv X S G) (k : ∀ (a0 : Int) (m : Mm), fq2_F G m → K a0 m → K' a0 m) (f : fq2_F G M) (h : wp_X12_roadOf_68 S K (336) u4 M) : wp_X12_roadOf_68 S K' (336) u4 M := by
  refine m_gr (fq2_c_336_20 hG f) h (fun h => ?_)
  refine m_C h (fun h => ?_)
  refine m_A h (fun _ h => ?_)
  refine m_Ld h (fun _ h => ?_)
  exact k _ _ f h
theorem fq2_X12_roadOf_44 {X G : Mm} {S : Sh} {k2 k2' : Int → Int → Int → Int → Mm → Prop} {K K' : Int → Mm → Prop} {M : Mm} {u1 : Int} {u2 : Int} {u3 : Int} {u4 : Int} (hG : Inv X S G) (kk2 : ∀ (a1 : Int) (a2 : Int) (a3 : Int) (m : Mm), fq2_F G m → k2 (336) a1 a2 a3 m → k2' (336) a1 a2 a3 m) (k : ∀ (a0 : Int) (m : Mm), fq2_F G m → K a0 m → K' a0 m) (f : fq2_F G M) (h : wp_X12_roadOf_44 S k2 K (336) u1 u2 u3 u4 M) : wp_X12_roadOf_44 S k2' K' (336) u1 u2 u3 u4 M := by
  refine m_gr (fq2_c_336_20 hG f) h (fun h => ?_)
  refine m_Ld h (fun _ h => ?_)
  refine m_if h (fun h => ?_) (fun h => ?_)
  · skip
    refine fq2_X12_roadOf_78 hG kk2 k f h
  · skip
    refine m_gr (fq2_c_336_20 hG f) h (fun h => ?_)
    refine m_C h (fun h => ?_)
    refine m_A h (fun _ h => ?_)
    refine m_Ld h (fun _ h => ?_)
    refine m_if h (fun h => ?_) (fun h => ?_)
    · skip
      refine fq2_X12_roadOf_78 hG kk2 k f h
    · skip
      refine fq2_X12_roadOf_68 hG k f h
theorem fq2_X12_roadOf_2 {X G : Mm} {S : Sh} {K K' : Int → Mm → Prop} (hG : Inv X S G) (k : ∀ (a0 : Int) (m : Mm), fq2_F G m → K a0 m → K' a0 m) : ∀ (n : Nat) (u1 : Int) (u2 : Int) (u3 : Int) (M : Mm), fq2_F G M → wp_X12_roadOf_2 S K n (336) u1 u2 u3 M → wp_X12_roadOf_2 S K' n (336) u1 u2 u3 M := by
  intro n
  induction n with
  | zero => intro u1 u2 u3 M f h; exact h
  | succ n ih =>
    intro u1 u2 u3 M f h
    refine m_gr (fq2_c_336_20 hG f) h (fun h => ?_)
    refine m_C h (fun h => ?_)
    refine m_Ld h (fun _ h => ?_)
    refine m_if h (fun h => ?_) (fun h => ?_)
    · skip
      refine m_C h (fun h => ?_)
      exact k _ _ f h
    · skip
      refine m_C h (fun h => ?_)
      refine m_C h (fun h => ?_)
      refine m_M h (fun _ h => ?_)
      refine m_A h (fun _ h => ?_)
      refine m_gr (fq2_c_336_20 hG f) h (fun h => ?_)
      refine m_Ld h (fun _ h => ?_)
      refine m_if h (fun h => ?_) (fun h => ?_)
      · skip
        refine fq2_X12_roadOf_44 hG (fun _ _ _ _ f1 h => ?_) k f h
        exact ih _ _ _ _ f1 h
      · skip
        refine m_gr (fq2_c_336_20 hG f) h (fun h => ?_)
        refine m_C h (fun h => ?_)
        refine m_A h (fun _ h => ?_)
        refine m_Ld h (fun _ h => ?_)
        refine m_if h (fun h => ?_) (fun h => ?_)
        · skip
          refine fq2_X12_roadOf_68 hG k f h
        · skip
          refine fq2_X12_roadOf_44 hG (fun _ _ _ _ f2 h => ?_) k f h
          exact ih _ _ _ _ f2 h
theorem fq2_X12_roadOf {X G : Mm} {S : Sh} {K K' : Int → Mm → Prop} {M : Mm} {u1 : Int} {u2 : Int} (hG : Inv X S G) (k : ∀ (a0 : Int) (m : Mm), fq2_F G m → K a0 m → K' a0 m) (f : fq2_F G M) (h : wp_X12_roadOf S M (336) u1 u2 K) : wp_X12_roadOf S M (336) u1 u2 K' := by
  refine m_C h (fun h => ?_)
  refine m_ex h (fun n9 h => ?_)
  refine fq2_X12_roadOf_2 hG k _ _ _ _ _ f h
theorem fq2_X12_fillsHours_123 {X G : Mm} {S : Sh} {k37 k37' : Int → Int → Mm → Prop} {k45 k45' : Int → Int → Int → Mm → Prop} {k58 k58' : Int → Int → Int → Int → Mm → Prop} {K K' : Mm → Prop} {M : Mm} {u2 : Int} {u3 : Int} {u4 : Int} (hG : Inv X S G) (kk37 : ∀ (m : Mm), fq2_F G m → k37 (336) (0) m → k37' (336) (0) m) (kk45 : ∀ (a2 : Int) (m : Mm), fq2_F G m → k45 (336) (0) a2 m → k45' (336) (0) a2 m) (kk58 : ∀ (a1 : Int) (a2 : Int) (a3 : Int) (m : Mm), fq2_F G m → k58 (336) a1 a2 a3 m → k58' (336) a1 a2 a3 m) (k : ∀ (m : Mm), fq2_F G m → K m → K' m) (f : fq2_F G M) (h : wp_X12_fillsHours_123 S k37 k45 k58 K (336) u2 u3 u4 M) : wp_X12_fillsHours_123 S k37' k45' k58' K' (336) u2 u3 u4 M := by
  refine m_A h (fun _ h => ?_)
  exact kk58 _ _ _ _ f h
theorem fq2_X12_fillsHours_58 {X G : Mm} {S : Sh} {k37 k37' : Int → Int → Mm → Prop} {k45 k45' : Int → Int → Int → Mm → Prop} {K K' : Mm → Prop} (hG : Inv X S G) (kk37 : ∀ (m : Mm), fq2_F G m → k37 (336) (0) m → k37' (336) (0) m) (kk45 : ∀ (a1 : Int) (a2 : Int) (m : Mm), fq2_F G m → k45 (336) a1 a2 m → k45' (336) a1 a2 m) (k : ∀ (m : Mm), fq2_F G m → K m → K' m) : ∀ (n : Nat) (u2 : Int) (u3 : Int) (u4 : Int) (M : Mm), fq2_F G M → wp_X12_fillsHours_58 S k37 k45 K n (336) u2 u3 u4 M → wp_X12_fillsHours_58 S k37' k45' K' n (336) u2 u3 u4 M := by
  intro n
  induction n with
  | zero => intro u2 u3 u4 M f h; exact h
  | succ n ih =>
    intro u2 u3 u4 M f h
    refine m_gr (fq2_c_336_20 hG f) h (fun h => ?_)
    refine m_C h (fun h => ?_)
    refine m_Ld h (fun _ h => ?_)
    refine m_if h (fun h => ?_) (fun h => ?_)
    · skip
      refine m_A h (fun _ h => ?_)
      exact kk45 _ _ _ f h
    · skip
      refine m_and h (fun h => ?_)
      refine fq2_X12_roadOf hG (fun _ _ f1 h => ?_) f h
      refine m_if h (fun h => ?_) (fun h => ?_)
      · skip
        refine fq2_X12_fillsHours_123 hG kk37 (fun b2 m f h => kk45 (0) b2 m f h) (fun _ _ _ _ f2 h => ?_) k f1 h
        exact ih _ _ _ _ f2 h
      · skip
        refine m_gr (fq2_c_336_27 hG f1) h (fun h => ?_)
        refine m_Ld h (fun _ h => ?_)
        refine m_A h (fun _ h => ?_)
        refine m_gr (fq2_c_336_27 hG f1) h (fun h => ?_)
        refine m_Ld h (fun _ h => ?_)
        refine m_if h (fun h => ?_) (fun h => ?_)
        · skip
          refine m_gr (fq2_c_336_27 hG f1) h (fun h => ?_)
          refine m_gr (fq2_c_336_27 hG f1) h (fun h => ?_)
          refine m_Ld h (fun _ h => ?_)
          refine m_A h (fun _ h => ?_)
          refine m_St (fq2_up (fq2_a_349 _) f1) h (fun _ f3 h => ?_)
          refine m_C h (fun h => ?_)
          refine fq2_X12_fillsHours_123 hG kk37 (fun b2 m f h => kk45 (0) b2 m f h) (fun _ _ _ _ f4 h => ?_) k f3 h
          exact ih _ _ _ _ f4 h
        · skip
          refine fq2_X12_fillsHours_123 hG kk37 (fun b2 m f h => kk45 (0) b2 m f h) (fun _ _ _ _ f5 h => ?_) k f1 h
          exact ih _ _ _ _ f5 h
theorem fq2_X12_fillsHours_45 {X G : Mm} {S : Sh} {k37 k37' : Int → Int → Mm → Prop} {K K' : Mm → Prop} (hG : Inv X S G) (kk37 : ∀ (a1 : Int) (m : Mm), fq2_F G m → k37 (336) a1 m → k37' (336) a1 m) (k : ∀ (m : Mm), fq2_F G m → K m → K' m) : ∀ (n : Nat) (u2 : Int) (u3 : Int) (M : Mm), fq2_F G M → wp_X12_fillsHours_45 S k37 K n (336) u2 u3 M → wp_X12_fillsHours_45 S k37' K' n (336) u2 u3 M := by
  intro n
  induction n with
  | zero => intro u2 u3 M f h; exact h
  | succ n ih =>
    intro u2 u3 M f h
    refine m_gr (fq2_c_336_20 hG f) h (fun h => ?_)
    refine m_C h (fun h => ?_)
    refine m_Ld h (fun _ h => ?_)
    refine m_if h (fun h => ?_) (fun h => ?_)
    · skip
      exact kk37 _ _ f h
    · skip
      refine m_C h (fun h => ?_)
      refine m_ex h (fun n9 h => ?_)
      refine fq2_X12_fillsHours_58 hG (fun m f h => kk37 (0) m f h) (fun _ _ _ f1 h => ?_) k _ _ _ _ _ f h
      exact ih _ _ _ f1 h
theorem fq2_X12_fillsHours_37 {X G : Mm} {S : Sh} {K K' : Mm → Prop} (hG : Inv X S G) (k : ∀ (m : Mm), fq2_F G m → K m → K' m) : ∀ (n : Nat) (u2 : Int) (M : Mm), fq2_F G M → wp_X12_fillsHours_37 S K n (336) u2 M → wp_X12_fillsHours_37 S K' n (336) u2 M := by
  intro n
  induction n with
  | zero => intro u2 M f h; exact h
  | succ n ih =>
    intro u2 M f h
    refine m_if h (fun h => ?_) (fun h => ?_)
    · skip
      exact k _ f h
    · skip
      refine m_C h (fun h => ?_)
      refine m_C h (fun h => ?_)
      refine m_ex h (fun n9 h => ?_)
      refine fq2_X12_fillsHours_45 hG (fun _ _ f1 h => ?_) k _ _ _ _ f h
      exact ih _ _ f1 h
theorem fq2_X12_fillsHours_28 {X G : Mm} {S : Sh} {k2 k2' : Int → Int → Int → Mm → Prop} {K K' : Mm → Prop} {M : Mm} {u1 : Int} {u2 : Int} {t1 : Int} {t2 : Int} (hG : Inv X S G) (kk2 : ∀ (a1 : Int) (a2 : Int) (m : Mm), fq2_F G m → k2 (336) a1 a2 m → k2' (336) a1 a2 m) (k : ∀ (m : Mm), fq2_F G m → K m → K' m) (f : fq2_F G M) (h : wp_X12_fillsHours_28 S k2 K (336) u1 u2 (349) t1 t2 M) : wp_X12_fillsHours_28 S k2' K' (336) u1 u2 (349) t1 t2 M := by
  refine m_St (fq2_up (fq2_a_349 _) f) h (fun _ f1 h => ?_)
  refine m_A h (fun _ h => ?_)
  exact kk2 _ _ _ f1 h
theorem fq2_X12_fillsHours_2 {X G : Mm} {S : Sh} {K K' : Mm → Prop} (hG : Inv X S G) (k : ∀ (m : Mm), fq2_F G m → K m → K' m) : ∀ (n : Nat) (u1 : Int) (u2 : Int) (M : Mm), fq2_F G M → wp_X12_fillsHours_2 S K n (336) u1 u2 M → wp_X12_fillsHours_2 S K' n (336) u1 u2 M := by
  intro n
  induction n with
  | zero => intro u1 u2 M f h; exact h
  | succ n ih =>
    intro u1 u2 M f h
    refine m_gr (fq2_c_336_20 hG f) h (fun h => ?_)
    refine m_C h (fun h => ?_)
    refine m_Ld h (fun _ h => ?_)
    refine m_if h (fun h => ?_) (fun h => ?_)
    · skip
      refine m_C h (fun h => ?_)
      refine m_ex h (fun n9 h => ?_)
      refine fq2_X12_fillsHours_37 hG k _ _ _ f h
    · skip
      refine m_gr (fq2_c_336_27 hG f) h (fun h => ?_)
      refine m_if h (fun h => ?_) (fun h => ?_)
      · skip
        refine m_C h (fun h => ?_)
        refine fq2_X12_fillsHours_28 hG (fun _ _ _ f1 h => ?_) k f h
        exact ih _ _ _ f1 h
      · skip
        refine m_C h (fun h => ?_)
        refine fq2_X12_fillsHours_28 hG (fun _ _ _ f2 h => ?_) k f h
        exact ih _ _ _ f2 h
theorem fq2_X12_fillsHours {X G : Mm} {S : Sh} {K K' : Mm → Prop} {M : Mm} {u1 : Int} (hG : Inv X S G) (k : ∀ (m : Mm), fq2_F G m → K m → K' m) (f : fq2_F G M) (h : wp_X12_fillsHours S M (336) u1 K) : wp_X12_fillsHours S M (336) u1 K' := by
  refine m_C h (fun h => ?_)
  refine m_ex h (fun n9 h => ?_)
  refine fq2_X12_fillsHours_2 hG k _ _ _ _ f h
theorem fq2_X12_nextPlace_45 {X G : Mm} {S : Sh} {k2 k2' : Int → Int → Int → Mm → Prop} {K K' : Int → Mm → Prop} {M : Mm} {u1 : Int} {u2 : Int} (hG : Inv X S G) (kk2 : ∀ (a1 : Int) (a2 : Int) (m : Mm), fq2_F G m → k2 (336) a1 a2 m → k2' (336) a1 a2 m) (k : ∀ (a0 : Int) (m : Mm), fq2_F G m → K a0 m → K' a0 m) (f : fq2_F G M) (h : wp_X12_nextPlace_45 S k2 K (336) u1 u2 M) : wp_X12_nextPlace_45 S k2' K' (336) u1 u2 M := by
  refine m_A h (fun _ h => ?_)
  exact kk2 _ _ _ f h
theorem fq2_X12_nextPlace_2 {X G : Mm} {S : Sh} {K K' : Int → Mm → Prop} (hG : Inv X S G) (k : ∀ (a0 : Int) (m : Mm), fq2_F G m → K a0 m → K' a0 m) : ∀ (n : Nat) (u1 : Int) (u2 : Int) (M : Mm), fq2_F G M → wp_X12_nextPlace_2 S K n (336) u1 u2 M → wp_X12_nextPlace_2 S K' n (336) u1 u2 M := by
  intro n
  induction n with
  | zero => intro u1 u2 M f h; exact h
  | succ n ih =>
    intro u1 u2 M f h
    refine m_gr (fq2_c_336_20 hG f) h (fun h => ?_)
    refine m_C h (fun h => ?_)
    refine m_Ld h (fun _ h => ?_)
    refine m_if h (fun h => ?_) (fun h => ?_)
    · skip
      refine m_C h (fun h => ?_)
      exact k _ _ f h
    · skip
      refine m_and h (fun h => ?_)
      refine fq2_X12_roadOf hG (fun _ _ f1 h => ?_) f h
      refine m_if h (fun h => ?_) (fun h => ?_)
      · skip
        refine fq2_X12_nextPlace_45 hG (fun _ _ _ f2 h => ?_) k f1 h
        exact ih _ _ _ f2 h
      · skip
        refine m_gr (fq2_c_336_27 hG f1) h (fun h => ?_)
        refine m_Ld h (fun _ h => ?_)
        refine m_and h (fun h => ?_)
        refine fq2_X12_roadOf hG (fun _ _ f3 h => ?_) f1 h
        refine m_A h (fun _ h => ?_)
        refine m_gr (fq2_c_336_27 hG f3) h (fun h => ?_)
        refine m_Ld h (fun _ h => ?_)
        refine m_if h (fun h => ?_) (fun h => ?_)
        · skip
          refine fq2_X12_nextPlace_45 hG (fun _ _ _ f4 h => ?_) k f3 h
          exact ih _ _ _ f4 h
        · skip
          exact k _ _ f3 h
theorem fq2_X12_nextPlace {X G : Mm} {S : Sh} {K K' : Int → Mm → Prop} {M : Mm} {u1 : Int} (hG : Inv X S G) (k : ∀ (a0 : Int) (m : Mm), fq2_F G m → K a0 m → K' a0 m) (f : fq2_F G M) (h : wp_X12_nextPlace S M (336) u1 K) : wp_X12_nextPlace S M (336) u1 K' := by
  refine m_C h (fun h => ?_)
  refine m_ex h (fun n9 h => ?_)
  refine fq2_X12_nextPlace_2 hG k _ _ _ _ f h
theorem fq2_X12_way {X G : Mm} {S : Sh} {K K' : Int → Mm → Prop} {M : Mm} {u1 : Int} {u2 : Int} {u3 : Int} (hG : Inv X S G) (k : ∀ (a0 : Int) (m : Mm), fq2_F G m → K a0 m → K' a0 m) (f : fq2_F G M) (h : wp_X12_way S M (336) u1 u2 u3 K) : wp_X12_way S M (336) u1 u2 u3 K' := by
  refine m_and h (fun h => ?_)
  refine fq2_X12_isPlace hG (fun _ _ f1 h => ?_) f h
  refine m_if h (fun h => ?_) (fun h => ?_)
  · skip
    refine m_C h (fun h => ?_)
    exact k _ _ f1 h
  · skip
    refine m_and h (fun h => ?_)
    refine fq2_X12_isPlace hG (fun _ _ f2 h => ?_) f1 h
    refine m_if h (fun h => ?_) (fun h => ?_)
    · skip
      refine m_C h (fun h => ?_)
      exact k _ _ f2 h
    · skip
      refine m_C h (fun h => ?_)
      refine m_C h (fun h => ?_)
      refine m_C h (fun h => ?_)
      refine fq2_X12_in hG (fun _ _ f3 h => ?_) f2 h
      refine m_if h (fun h => ?_) (fun h => ?_)
      · skip
        refine m_and h (fun h => ?_)
        refine fq2_X12_fillsHours hG (fun _ f4 h => ?_) f3 h
        refine m_gr (fq2_c_336_27 hG f4) h (fun h => ?_)
        refine m_Ld h (fun _ h => ?_)
        refine m_C h (fun h => ?_)
        refine m_if h (fun h => ?_) (fun h => ?_)
        · skip
          refine m_if h (fun h => ?_) (fun h => ?_)
          · skip
            refine m_if h (fun h => ?_) (fun h => ?_)
            · skip
              refine m_and h (fun h => ?_)
              refine fq2_X12_nextPlace hG (fun _ _ f5 h => ?_) f4 h
              exact k _ _ f5 h
            · skip
              refine m_C h (fun h => ?_)
              exact k _ _ f4 h
          · skip
            refine m_gr (fq2_c_336_27 hG f4) h (fun h => ?_)
            refine m_Ld h (fun _ h => ?_)
            exact k _ _ f4 h
        · skip
          refine m_C h (fun h => ?_)
          exact k _ _ f4 h
      · skip
        refine m_C h (fun h => ?_)
        exact k _ _ f3 h
theorem fq2_X12_turnedBy_9 {X G : Mm} {S : Sh} {K K' : Int → Mm → Prop} (hG : Inv X S G) (k : ∀ (a0 : Int) (m : Mm), fq2_F G m → K a0 m → K' a0 m) : ∀ (n : Nat) (u1 : Int) (u2 : Int) (u4 : Int) (u5 : Int) (u6 : Int) (u7 : Int) (u8 : Int) (u9 : Int) (M : Mm), fq2_F G M → wp_X12_turnedBy_9 S K n (336) u1 u2 u4 u5 u6 u7 u8 u9 M → wp_X12_turnedBy_9 S K' n (336) u1 u2 u4 u5 u6 u7 u8 u9 M := by
  intro n
  induction n with
  | zero => intro u1 u2 u4 u5 u6 u7 u8 u9 M f h; exact h
  | succ n ih =>
    intro u1 u2 u4 u5 u6 u7 u8 u9 M f h
    refine m_if h (fun h => ?_) (fun h => ?_)
    · skip
      exact k _ _ f h
    · skip
      refine m_A h (fun _ h => ?_)
      refine m_C h (fun h => ?_)
      refine m_and h (fun h => ?_)
      refine fq2_X12_turnsIn hG (fun _ _ f1 h => ?_) f h
      refine m_A h (fun _ h => ?_)
      refine m_C h (fun h => ?_)
      refine fq2_X12_atMost hG (fun _ _ f2 h => ?_) f1 h
      refine m_and h (fun h => ?_)
      refine fq2_X12_moreTired hG (fun _ _ f3 h => ?_) f2 h
      refine m_A h (fun _ h => ?_)
      exact ih _ _ _ _ _ _ _ _ _ f3 h
theorem fq2_X12_turnedBy {X G : Mm} {S : Sh} {K K' : Int → Mm → Prop} {M : Mm} {u1 : Int} {u2 : Int} {u3 : Int} {u4 : Int} {u5 : Int} {u6 : Int} (hG : Inv X S G) (k : ∀ (a0 : Int) (m : Mm), fq2_F G m → K a0 m → K' a0 m) (f : fq2_F G M) (h : wp_X12_turnedBy S M (336) u1 u2 u3 u4 u5 u6 K) : wp_X12_turnedBy S M (336) u1 u2 u3 u4 u5 u6 K' := by
  refine m_C h (fun h => ?_)
  refine m_C h (fun h => ?_)
  refine m_ex h (fun n9 h => ?_)
  refine fq2_X12_turnedBy_9 hG k _ _ _ _ _ _ _ _ _ _ f h
theorem fq2_X12_brings {X G : Mm} {S : Sh} {K K' : Int → Mm → Prop} {M : Mm} {u1 : Int} {u2 : Int} {u3 : Int} (hG : Inv X S G) (k : ∀ (a0 : Int) (m : Mm), fq2_F G m → K a0 m → K' a0 m) (f : fq2_F G M) (h : wp_X12_brings S M (336) u1 u2 u3 K) : wp_X12_brings S M (336) u1 u2 u3 K' := by
  refine m_and h (fun h => ?_)
  refine fq2_X12_isHand hG (fun _ _ f1 h => ?_) f h
  refine m_if h (fun h => ?_) (fun h => ?_)
  · skip
    refine m_C h (fun h => ?_)
    exact k _ _ f1 h
  · skip
    refine m_and h (fun h => ?_)
    refine fq2_X12_isJug hG (fun _ _ f2 h => ?_) f1 h
    refine m_if h (fun h => ?_) (fun h => ?_)
    · skip
      refine m_C h (fun h => ?_)
      exact k _ _ f2 h
    · skip
      refine m_and h (fun h => ?_)
      refine fq2_X12_stands hG (fun _ _ f3 h => ?_) f2 h
      refine m_if h (fun h => ?_) (fun h => ?_)
      · skip
        refine m_C h (fun h => ?_)
        exact k _ _ f3 h
      · skip
        refine m_and h (fun h => ?_)
        refine fq2_X12_isPlace hG (fun _ _ f4 h => ?_) f3 h
        refine m_if h (fun h => ?_) (fun h => ?_)
        · skip
          refine m_and h (fun h => ?_)
          refine fq2_X12_fillsHours hG (fun _ f5 h => ?_) f4 h
          refine m_gr (fq2_c_336_27 hG f5) h (fun h => ?_)
          refine m_C h (fun h => ?_)
          refine m_and h (fun h => ?_)
          refine fq2_X12_jugOf hG (fun _ _ f6 h => ?_) f5 h
          refine m_Ld h (fun _ h => ?_)
          refine m_C h (fun h => ?_)
          refine m_if h (fun h => ?_) (fun h => ?_)
          · skip
            refine m_C h (fun h => ?_)
            refine m_and h (fun h => ?_)
            refine fq2_X12_jugOf hG (fun _ _ f7 h => ?_) f6 h
            refine m_gr (fq2_c_336_20 hG f7) h (fun h => ?_)
            refine m_C h (fun h => ?_)
            refine m_Ld h (fun _ h => ?_)
            refine m_C h (fun h => ?_)
            refine m_and h (fun h => ?_)
            refine fq2_X12_turnedBy hG (fun _ _ f8 h => ?_) f7 h
            exact k _ _ f8 h
          · skip
            refine m_C h (fun h => ?_)
            exact k _ _ f6 h
        · skip
          refine m_C h (fun h => ?_)
          exact k _ _ f4 h
theorem fq2_X12_fillsRoads_7 {X G : Mm} {S : Sh} {K K' : Mm → Prop} (hG : Inv X S G) (k : ∀ (m : Mm), fq2_F G m → K m → K' m) : ∀ (n : Nat) (u2 : Int) (u3 : Int) (M : Mm), fq2_F G M → wp_X12_fillsRoads_7 S K n (336) u2 u3 M → wp_X12_fillsRoads_7 S K' n (336) u2 u3 M := by
  intro n
  induction n with
  | zero => intro u2 u3 M f h; exact h
  | succ n ih =>
    intro u2 u3 M f h
    refine m_if h (fun h => ?_) (fun h => ?_)
    · skip
      exact k _ f h
    · skip
      refine m_and h (fun h => ?_)
      refine fq2_X12_nextPlace hG (fun _ _ f1 h => ?_) f h
      refine m_gr (fq2_c_336_28 hG f1) h (fun h => ?_)
      refine m_Get h (fun _ h => ?_)
      refine m_and h (fun h => ?_)
      refine fq2_X12_roadOf hG (fun _ _ f2 h => ?_) f1 h
      refine m_St (fq2_up (fq2_a_350 _) f2) h (fun _ f3 h => ?_)
      refine m_Get h (fun _ h => ?_)
      refine m_C h (fun h => ?_)
      refine m_A h (fun _ h => ?_)
      refine m_Put (fq2_up (by decide) f3) h (fun _ f4 h => ?_)
      exact ih _ _ _ f4 h
theorem fq2_X12_fillsRoads {X G : Mm} {S : Sh} {K K' : Mm → Prop} {M : Mm} {u1 : Int} {u2 : Int} (hG : Inv X S G) (k : ∀ (m : Mm), fq2_F G m → K m → K' m) (f : fq2_F G M) (h : wp_X12_fillsRoads S M (336) u1 u2 K) : wp_X12_fillsRoads S M (336) u1 u2 K' := by
  refine m_C h (fun h => ?_)
  refine m_Put (fq2_up (by decide) f) h (fun _ f1 h => ?_)
  refine m_ex h (fun n9 h => ?_)
  refine fq2_X12_fillsRoads_7 hG k _ _ _ _ f1 h
theorem fq2_X12_power_4 {X G : Mm} {S : Sh} {K K' : Int → Mm → Prop} (hG : Inv X S G) (k : ∀ (a0 : Int) (m : Mm), fq2_F G m → K a0 m → K' a0 m) : ∀ (n : Nat) (u0 : Int) (u1 : Int) (u2 : Int) (u3 : Int) (M : Mm), fq2_F G M → wp_X12_power_4 S K n u0 u1 u2 u3 M → wp_X12_power_4 S K' n u0 u1 u2 u3 M := by
  intro n
  induction n with
  | zero => intro u0 u1 u2 u3 M f h; exact h
  | succ n ih =>
    intro u0 u1 u2 u3 M f h
    refine m_if h (fun h => ?_) (fun h => ?_)
    · skip
      exact k _ _ f h
    · skip
      refine m_M h (fun _ h => ?_)
      refine m_A h (fun _ h => ?_)
      exact ih _ _ _ _ _ f h
theorem fq2_X12_power {X G : Mm} {S : Sh} {K K' : Int → Mm → Prop} {M : Mm} {u0 : Int} {u1 : Int} (hG : Inv X S G) (k : ∀ (a0 : Int) (m : Mm), fq2_F G m → K a0 m → K' a0 m) (f : fq2_F G M) (h : wp_X12_power S M u0 u1 K) : wp_X12_power S M u0 u1 K' := by
  refine m_C h (fun h => ?_)
  refine m_C h (fun h => ?_)
  refine m_ex h (fun n9 h => ?_)
  refine fq2_X12_power_4 hG k _ _ _ _ _ _ f h
theorem fq2_X12_handIn {X G : Mm} {S : Sh} {K K' : Int → Mm → Prop} {M : Mm} {u1 : Int} {u2 : Int} (hG : Inv X S G) (k : ∀ (a0 : Int) (m : Mm), fq2_F G m → K a0 m → K' a0 m) (f : fq2_F G M) (h : wp_X12_handIn S M (336) u1 u2 K) : wp_X12_handIn S M (336) u1 u2 K' := by
  refine m_gr (fq2_c_336_20 hG f) h (fun h => ?_)
  refine m_C h (fun h => ?_)
  refine m_Ld h (fun _ h => ?_)
  refine m_Get h (fun _ h => ?_)
  refine m_C h (fun h => ?_)
  refine m_S h (fun _ h => ?_)
  refine m_S h (fun _ h => ?_)
  refine fq2_X12_power hG (fun _ _ f1 h => ?_) f h
  refine m_D h (fun _ h => ?_)
  refine m_gr (fq2_c_336_20 hG f1) h (fun h => ?_)
  refine m_C h (fun h => ?_)
  refine m_Ld h (fun _ h => ?_)
  refine m_D h (fun _ h => ?_)
  exact k _ _ f1 h
theorem fq2_X12_turnedByRow_19 {X G : Mm} {S : Sh} {K K' : Int → Mm → Prop} (hG : Inv X S G) (k : ∀ (a0 : Int) (m : Mm), fq2_F G m → K a0 m → K' a0 m) : ∀ (n : Nat) (u1 : Int) (u2 : Int) (u3 : Int) (u4 : Int) (u5 : Int) (M : Mm), fq2_F G M → wp_X12_turnedByRow_19 S K n (336) u1 u2 u3 u4 u5 M → wp_X12_turnedByRow_19 S K' n (336) u1 u2 u3 u4 u5 M := by
  intro n
  induction n with
  | zero => intro u1 u2 u3 u4 u5 M f h; exact h
  | succ n ih =>
    intro u1 u2 u3 u4 u5 M f h
    refine m_Get h (fun _ h => ?_)
    refine m_if h (fun h => ?_) (fun h => ?_)
    · skip
      exact k _ _ f h
    · skip
      refine m_and h (fun h => ?_)
      refine fq2_X12_handIn hG (fun _ _ f1 h => ?_) f h
      refine m_gr (fq2_c_336_28 hG f1) h (fun h => ?_)
      refine m_Ld h (fun _ h => ?_)
      refine m_C h (fun h => ?_)
      refine m_and h (fun h => ?_)
      refine fq2_X12_turnedBy hG (fun _ _ f2 h => ?_) f1 h
      refine m_gr (fq2_c_336_28 hG f2) h (fun h => ?_)
      refine m_Ld h (fun _ h => ?_)
      refine m_A h (fun _ h => ?_)
      refine m_A h (fun _ h => ?_)
      exact ih _ _ _ _ _ _ f2 h
theorem fq2_X12_turnedByRow {X G : Mm} {S : Sh} {K K' : Int → Mm → Prop} {M : Mm} {u1 : Int} {u2 : Int} (hG : Inv X S G) (k : ∀ (a0 : Int) (m : Mm), fq2_F G m → K a0 m → K' a0 m) (f : fq2_F G M) (h : wp_X12_turnedByRow S M (336) u1 u2 K) : wp_X12_turnedByRow S M (336) u1 u2 K' := by
  refine m_C h (fun h => ?_)
  refine m_and h (fun h => ?_)
  refine fq2_X12_jugOf hG (fun _ _ f1 h => ?_) f h
  refine m_gr (fq2_c_336_20 hG f1) h (fun h => ?_)
  refine m_C h (fun h => ?_)
  refine m_Ld h (fun _ h => ?_)
  refine m_C h (fun h => ?_)
  refine m_ex h (fun n9 h => ?_)
  refine fq2_X12_turnedByRow_19 hG k _ _ _ _ _ _ _ f1 h
theorem fq2_X12_relay_250 {X G : Mm} {S : Sh} {K K' : Int → Mm → Prop} {M : Mm} (hG : Inv X S G) (k : ∀ (a0 : Int) (m : Mm), fq2_F G m → K a0 m → K' a0 m) (f : fq2_F G M) (h : wp_X12_relay_250 S K M) : wp_X12_relay_250 S K' M := by
  refine m_C h (fun h => ?_)
  exact k _ _ f h
theorem fq2_X12_relay_209 {X G : Mm} {S : Sh} {k132 k132' : Int → Int → Int → Int → Int → Int → Int → Int → Int → Mm → Prop} {K K' : Int → Mm → Prop} {M : Mm} {u1 : Int} {u3 : Int} {u4 : Int} {u5 : Int} {u6 : Int} {u7 : Int} {u8 : Int} {u9 : Int} (hG : Inv X S G) (kk132 : ∀ (a1 : Int) (a2 : Int) (a3 : Int) (a4 : Int) (a5 : Int) (a6 : Int) (a7 : Int) (a8 : Int) (m : Mm), fq2_F G m → k132 (336) a1 a2 a3 a4 a5 a6 a7 a8 m → k132' (336) a1 a2 a3 a4 a5 a6 a7 a8 m) (k : ∀ (a0 : Int) (m : Mm), fq2_F G m → K a0 m → K' a0 m) (f : fq2_F G M) (h : wp_X12_relay_209 S k132 K (336) u1 u3 u4 u5 u6 u7 u8 u9 M) : wp_X12_relay_209 S k132' K' (336) u1 u3 u4 u5 u6 u7 u8 u9 M := by
  refine m_A h (fun _ h => ?_)
  exact kk132 _ _ _ _ _ _ _ _ _ f h
theorem fq2_X12_relay_206 {X G : Mm} {S : Sh} {k132 k132' : Int → Int → Int → Int → Int → Int → Int → Int → Int → Mm → Prop} {K K' : Int → Mm → Prop} {M : Mm} {u1 : Int} {u3 : Int} {u4 : Int} {u5 : Int} {u6 : Int} {u7 : Int} {u8 : Int} {u9 : Int} (hG : Inv X S G) (kk132 : ∀ (a1 : Int) (a2 : Int) (a3 : Int) (a4 : Int) (a5 : Int) (a6 : Int) (a7 : Int) (a8 : Int) (m : Mm), fq2_F G m → k132 (336) a1 a2 a3 a4 a5 a6 a7 a8 m → k132' (336) a1 a2 a3 a4 a5 a6 a7 a8 m) (k : ∀ (a0 : Int) (m : Mm), fq2_F G m → K a0 m → K' a0 m) (f : fq2_F G M) (h : wp_X12_relay_206 S k132 K (336) u1 u3 u4 u5 u6 u7 u8 u9 M) : wp_X12_relay_206 S k132' K' (336) u1 u3 u4 u5 u6 u7 u8 u9 M := by
  refine m_A h (fun _ h => ?_)
  refine fq2_X12_relay_209 hG kk132 k f h
theorem fq2_X12_relay_178 {X G : Mm} {S : Sh} {k132 k132' : Int → Int → Int → Int → Int → Int → Int → Int → Int → Mm → Prop} {K K' : Int → Mm → Prop} {M : Mm} {u1 : Int} {u3 : Int} {u4 : Int} {u5 : Int} {u6 : Int} {u7 : Int} {u9 : Int} {u10 : Int} {t0 : Int} (hG : Inv X S G) (kk132 : ∀ (a1 : Int) (a2 : Int) (a3 : Int) (a4 : Int) (a5 : Int) (a6 : Int) (a7 : Int) (a8 : Int) (m : Mm), fq2_F G m → k132 (336) a1 a2 a3 a4 a5 a6 a7 a8 m → k132' (336) a1 a2 a3 a4 a5 a6 a7 a8 m) (k : ∀ (a0 : Int) (m : Mm), fq2_F G m → K a0 m → K' a0 m) (f : fq2_F G M) (h : wp_X12_relay_178 S k132 K (336) u1 u3 u4 u5 u6 u7 u9 u10 t0 M) : wp_X12_relay_178 S k132' K' (336) u1 u3 u4 u5 u6 u7 u9 u10 t0 M := by
  refine m_C h (fun h => ?_)
  refine m_C h (fun h => ?_)
  refine m_C h (fun h => ?_)
  refine fq2_X12_in hG (fun _ _ f1 h => ?_) f h
  refine m_if h (fun h => ?_) (fun h => ?_)
  · skip
    refine m_if h (fun h => ?_) (fun h => ?_)
    · skip
      refine fq2_X12_relay_206 hG kk132 k f1 h
    · skip
      refine fq2_X12_relay_206 hG kk132 k f1 h
  · skip
    refine fq2_X12_relay_209 hG kk132 k f1 h
theorem fq2_X12_relay_171 {X G : Mm} {S : Sh} {k132 k132' : Int → Int → Int → Int → Int → Int → Int → Int → Int → Mm → Prop} {K K' : Int → Mm → Prop} {M : Mm} {u1 : Int} {u3 : Int} {u4 : Int} {u5 : Int} {u6 : Int} {u7 : Int} {u9 : Int} {u10 : Int} (hG : Inv X S G) (kk132 : ∀ (a1 : Int) (a2 : Int) (a3 : Int) (a4 : Int) (a5 : Int) (a6 : Int) (a7 : Int) (a8 : Int) (m : Mm), fq2_F G m → k132 (336) a1 a2 a3 a4 a5 a6 a7 a8 m → k132' (336) a1 a2 a3 a4 a5 a6 a7 a8 m) (k : ∀ (a0 : Int) (m : Mm), fq2_F G m → K a0 m → K' a0 m) (f : fq2_F G M) (h : wp_X12_relay_171 S k132 K (336) u1 u3 u4 u5 u6 u7 u9 u10 M) : wp_X12_relay_171 S k132' K' (336) u1 u3 u4 u5 u6 u7 u9 u10 M := by
  refine fq2_X12_relay_178 hG kk132 k f h
theorem fq2_X12_relay_132 {X G : Mm} {S : Sh} {K K' : Int → Mm → Prop} (hG : Inv X S G) (k : ∀ (a0 : Int) (m : Mm), fq2_F G m → K a0 m → K' a0 m) : ∀ (n : Nat) (u1 : Int) (u3 : Int) (u4 : Int) (u5 : Int) (u6 : Int) (u7 : Int) (u8 : Int) (u9 : Int) (M : Mm), fq2_F G M → wp_X12_relay_132 S K n (336) u1 u3 u4 u5 u6 u7 u8 u9 M → wp_X12_relay_132 S K' n (336) u1 u3 u4 u5 u6 u7 u8 u9 M := by
  intro n
  induction n with
  | zero => intro u1 u3 u4 u5 u6 u7 u8 u9 M f h; exact h
  | succ n ih =>
    intro u1 u3 u4 u5 u6 u7 u8 u9 M f h
    refine m_gr (fq2_c_336_20 hG f) h (fun h => ?_)
    refine m_C h (fun h => ?_)
    refine m_Ld h (fun _ h => ?_)
    refine m_Get h (fun _ h => ?_)
    refine fq2_X12_power hG (fun _ _ f1 h => ?_) f h
    refine m_if h (fun h => ?_) (fun h => ?_)
    · skip
      refine m_C h (fun h => ?_)
      refine m_if h (fun h => ?_) (fun h => ?_)
      · skip
        refine m_if h (fun h => ?_) (fun h => ?_)
        · skip
          refine fq2_X12_relay_250 hG k f1 h
        · skip
          refine m_C h (fun h => ?_)
          refine m_S h (fun _ h => ?_)
          refine m_Get h (fun _ h => ?_)
          refine m_if h (fun h => ?_) (fun h => ?_)
          · skip
            refine m_C h (fun h => ?_)
            refine m_S h (fun _ h => ?_)
            refine m_and h (fun h => ?_)
            refine fq2_X12_handIn hG (fun _ _ f2 h => ?_) f1 h
            exact k _ _ f2 h
          · skip
            refine fq2_X12_relay_250 hG k f1 h
      · skip
        refine m_if h (fun h => ?_) (fun h => ?_)
        · skip
          exact k _ _ f1 h
        · skip
          exact k _ _ f1 h
    · skip
      refine m_and h (fun h => ?_)
      refine fq2_X12_turnedByRow hG (fun _ _ f3 h => ?_) f1 h
      refine m_if h (fun h => ?_) (fun h => ?_)
      · skip
        refine fq2_X12_relay_171 hG (fun _ _ _ _ _ _ _ _ _ f4 h => ?_) k f3 h
        exact ih _ _ _ _ _ _ _ _ _ f4 h
      · skip
        refine m_if h (fun h => ?_) (fun h => ?_)
        · skip
          refine fq2_X12_relay_178 hG (fun _ _ _ _ _ _ _ _ _ f5 h => ?_) k f3 h
          exact ih _ _ _ _ _ _ _ _ _ f5 h
        · skip
          refine fq2_X12_relay_171 hG (fun _ _ _ _ _ _ _ _ _ f6 h => ?_) k f3 h
          exact ih _ _ _ _ _ _ _ _ _ f6 h
theorem fq2_X12_relay_120 {X G : Mm} {S : Sh} {K K' : Int → Mm → Prop} {M : Mm} {u1 : Int} {u3 : Int} {u4 : Int} {u5 : Int} (hG : Inv X S G) (k : ∀ (a0 : Int) (m : Mm), fq2_F G m → K a0 m → K' a0 m) (f : fq2_F G M) (h : wp_X12_relay_120 S K (336) u1 u3 u4 u5 M) : wp_X12_relay_120 S K' (336) u1 u3 u4 u5 M := by
  refine m_C h (fun h => ?_)
  refine m_C h (fun h => ?_)
  refine m_C h (fun h => ?_)
  refine m_C h (fun h => ?_)
  refine m_ex h (fun n9 h => ?_)
  refine fq2_X12_relay_132 hG k _ _ _ _ _ _ _ _ _ _ f h
theorem fq2_X12_relay {X G : Mm} {S : Sh} {K K' : Int → Mm → Prop} {M : Mm} {u1 : Int} {u2 : Int} {u3 : Int} {u4 : Int} {u5 : Int} (hG : Inv X S G) (k : ∀ (a0 : Int) (m : Mm), fq2_F G m → K a0 m → K' a0 m) (f : fq2_F G M) (h : wp_X12_relay S M (336) u1 u2 u3 u4 u5 K) : wp_X12_relay S M (336) u1 u2 u3 u4 u5 K' := by
  refine m_and h (fun h => ?_)
  refine fq2_X12_isJug hG (fun _ _ f1 h => ?_) f h
  refine m_if h (fun h => ?_) (fun h => ?_)
  · skip
    refine m_C h (fun h => ?_)
    exact k _ _ f1 h
  · skip
    refine m_and h (fun h => ?_)
    refine fq2_X12_stands hG (fun _ _ f2 h => ?_) f1 h
    refine m_if h (fun h => ?_) (fun h => ?_)
    · skip
      refine m_C h (fun h => ?_)
      exact k _ _ f2 h
    · skip
      refine m_and h (fun h => ?_)
      refine fq2_X12_isPlace hG (fun _ _ f3 h => ?_) f2 h
      refine m_if h (fun h => ?_) (fun h => ?_)
      · skip
        refine m_C h (fun h => ?_)
        exact k _ _ f3 h
      · skip
        refine m_C h (fun h => ?_)
        refine m_C h (fun h => ?_)
        refine m_C h (fun h => ?_)
        refine fq2_X12_in hG (fun _ _ f4 h => ?_) f3 h
        refine m_if h (fun h => ?_) (fun h => ?_)
        · skip
          refine m_C h (fun h => ?_)
          exact k _ _ f4 h
        · skip
          refine m_C h (fun h => ?_)
          refine m_C h (fun h => ?_)
          refine m_C h (fun h => ?_)
          refine fq2_X12_in hG (fun _ _ f5 h => ?_) f4 h
          refine m_if h (fun h => ?_) (fun h => ?_)
          · skip
            refine m_C h (fun h => ?_)
            exact k _ _ f5 h
          · skip
            refine m_C h (fun h => ?_)
            refine m_C h (fun h => ?_)
            refine m_C h (fun h => ?_)
            refine fq2_X12_in hG (fun _ _ f6 h => ?_) f5 h
            refine m_if h (fun h => ?_) (fun h => ?_)
            · skip
              refine m_and h (fun h => ?_)
              refine fq2_X12_fillsHours hG (fun _ f7 h => ?_) f6 h
              refine m_gr (fq2_c_336_27 hG f7) h (fun h => ?_)
              refine m_C h (fun h => ?_)
              refine m_and h (fun h => ?_)
              refine fq2_X12_jugOf hG (fun _ _ f8 h => ?_) f7 h
              refine m_Ld h (fun _ h => ?_)
              refine m_C h (fun h => ?_)
              refine m_if h (fun h => ?_) (fun h => ?_)
              · skip
                refine m_C h (fun h => ?_)
                refine m_and h (fun h => ?_)
                refine fq2_X12_jugOf hG (fun _ _ f9 h => ?_) f8 h
                refine m_and h (fun h => ?_)
                refine fq2_X12_fillsRoads hG (fun _ f10 h => ?_) f9 h
                refine m_Get h (fun _ h => ?_)
                refine m_if h (fun h => ?_) (fun h => ?_)
                · skip
                  refine fq2_X12_relay_120 hG k f10 h
                · skip
                  refine m_gr (fq2_c_336_20 hG f10) h (fun h => ?_)
                  refine m_C h (fun h => ?_)
                  refine m_Ld h (fun _ h => ?_)
                  refine m_if h (fun h => ?_) (fun h => ?_)
                  · skip
                    refine fq2_X12_relay_120 hG k f10 h
                  · skip
                    refine m_C h (fun h => ?_)
                    exact k _ _ f10 h
              · skip
                refine m_C h (fun h => ?_)
                exact k _ _ f8 h
            · skip
              refine m_C h (fun h => ?_)
              exact k _ _ f6 h
theorem fq2_X12_jugIn {X G : Mm} {S : Sh} {K K' : Int → Mm → Prop} {M : Mm} {u1 : Int} {u2 : Int} (hG : Inv X S G) (k : ∀ (a0 : Int) (m : Mm), fq2_F G m → K a0 m → K' a0 m) (f : fq2_F G M) (h : wp_X12_jugIn S M (336) u1 u2 K) : wp_X12_jugIn S M (336) u1 u2 K' := by
  refine m_gr (fq2_c_336_20 hG f) h (fun h => ?_)
  refine m_C h (fun h => ?_)
  refine m_Ld h (fun _ h => ?_)
  refine m_C h (fun h => ?_)
  refine m_A h (fun _ h => ?_)
  refine m_gr (fq2_c_336_20 hG f) h (fun h => ?_)
  refine m_C h (fun h => ?_)
  refine m_Ld h (fun _ h => ?_)
  refine m_C h (fun h => ?_)
  refine m_S h (fun _ h => ?_)
  refine m_S h (fun _ h => ?_)
  refine fq2_X12_power hG (fun _ _ f1 h => ?_) f h
  refine m_D h (fun _ h => ?_)
  refine m_gr (fq2_c_336_20 hG f1) h (fun h => ?_)
  refine m_C h (fun h => ?_)
  refine m_Ld h (fun _ h => ?_)
  refine m_C h (fun h => ?_)
  refine m_A h (fun _ h => ?_)
  refine m_D h (fun _ h => ?_)
  refine m_C h (fun h => ?_)
  refine m_S h (fun _ h => ?_)
  exact k _ _ f1 h
theorem fq2_X12_isOf {X G : Mm} {S : Sh} {K K' : Int → Mm → Prop} {M : Mm} {u0 : Int} {u1 : Int} (hG : Inv X S G) (k : ∀ (a0 : Int) (m : Mm), fq2_F G m → K a0 m → K' a0 m) (f : fq2_F G M) (h : wp_X12_isOf S M u0 u1 K) : wp_X12_isOf S M u0 u1 K' := by
  refine m_O h (fun _ h => ?_)
  refine m_C h (fun h => ?_)
  refine m_O h (fun _ h => ?_)
  refine m_C h (fun h => ?_)
  refine m_if h (fun h => ?_) (fun h => ?_)
  · skip
    refine m_C h (fun h => ?_)
    refine m_and h (fun h => ?_)
    exact k _ _ f h
  · skip
    refine m_C h (fun h => ?_)
    refine m_and h (fun h => ?_)
    exact k _ _ f h
end
section
theorem fq2_X12_payBy_118 {X G : Mm} {S : Sh} {k7 k7' : Int → Int → Int → Int → Int → Mm → Prop} {K K' : Int → Mm → Prop} {M : Mm} {u1 : Int} {u2 : Int} {u3 : Int} {u4 : Int} (hG : Inv X S G) (kk7 : ∀ (a1 : Int) (a2 : Int) (a3 : Int) (a4 : Int) (m : Mm), fq2_F G m → k7 (336) a1 a2 a3 a4 m → k7' (336) a1 a2 a3 a4 m) (k : ∀ (a0 : Int) (m : Mm), fq2_F G m → K a0 m → K' a0 m) (f : fq2_F G M) (h : wp_X12_payBy_118 S k7 K (336) u1 u2 u3 u4 M) : wp_X12_payBy_118 S k7' K' (336) u1 u2 u3 u4 M := by
  refine m_A h (fun _ h => ?_)
  exact kk7 _ _ _ _ _ f h
theorem fq2_X12_payBy_7 {X G : Mm} {S : Sh} {K K' : Int → Mm → Prop} (hG : Inv X S G) (k : ∀ (a0 : Int) (m : Mm), fq2_F G m → K a0 m → K' a0 m) : ∀ (n : Nat) (u1 : Int) (u2 : Int) (u3 : Int) (u4 : Int) (M : Mm), fq2_F G M → wp_X12_payBy_7 S K n (336) u1 u2 u3 u4 M → wp_X12_payBy_7 S K' n (336) u1 u2 u3 u4 M := by
  intro n
  induction n with
  | zero => intro u1 u2 u3 u4 M f h; exact h
  | succ n ih =>
    intro u1 u2 u3 u4 M f h
    refine m_gr (fq2_c_336_20 hG f) h (fun h => ?_)
    refine m_C h (fun h => ?_)
    refine m_Ld h (fun _ h => ?_)
    refine m_if h (fun h => ?_) (fun h => ?_)
    · skip
      exact k _ _ f h
    · skip
      refine m_and h (fun h => ?_)
      refine fq2_X12_jugIn hG (fun _ _ f1 h => ?_) f h
      refine m_if h (fun h => ?_) (fun h => ?_)
      · skip
        refine m_gr (fq2_c_336_20 hG f1) h (fun h => ?_)
        refine m_C h (fun h => ?_)
        refine m_A h (fun _ h => ?_)
        refine m_Ld h (fun _ h => ?_)
        refine m_if h (fun h => ?_) (fun h => ?_)
        · skip
          refine m_C h (fun h => ?_)
          exact k _ _ f1 h
        · skip
          refine m_C h (fun h => ?_)
          refine m_and h (fun h => ?_)
          refine fq2_X12_jugOf hG (fun _ _ f2 h => ?_) f1 h
          refine m_C h (fun h => ?_)
          refine m_if h (fun h => ?_) (fun h => ?_)
          · skip
            refine m_C h (fun h => ?_)
            exact k _ _ f2 h
          · skip
            refine fq2_X12_isOf hG (fun _ _ f3 h => ?_) f2 h
            refine m_if h (fun h => ?_) (fun h => ?_)
            · skip
              refine m_C h (fun h => ?_)
              exact k _ _ f3 h
            · skip
              refine m_C h (fun h => ?_)
              refine m_and h (fun h => ?_)
              refine fq2_X12_jugOf hG (fun _ _ f4 h => ?_) f3 h
              refine m_C h (fun h => ?_)
              refine m_C h (fun h => ?_)
              refine m_and h (fun h => ?_)
              refine fq2_X12_wantOf hG (fun _ _ f5 h => ?_) f4 h
              refine m_C h (fun h => ?_)
              refine m_C h (fun h => ?_)
              refine m_and h (fun h => ?_)
              refine fq2_X12_wantOf hG (fun _ _ f6 h => ?_) f5 h
              refine m_C h (fun h => ?_)
              refine fq2_X12_in hG (fun _ _ f7 h => ?_) f6 h
              refine m_if h (fun h => ?_) (fun h => ?_)
              · skip
                refine m_C h (fun h => ?_)
                refine m_O h (fun _ h => ?_)
                refine m_O h (fun _ h => ?_)
                refine m_C h (fun h => ?_)
                refine m_and h (fun h => ?_)
                refine fq2_X12_wantOf hG (fun _ _ f8 h => ?_) f7 h
                refine m_A h (fun _ h => ?_)
                refine fq2_X12_payBy_118 hG (fun _ _ _ _ _ f9 h => ?_) k f8 h
                exact ih _ _ _ _ _ f9 h
              · skip
                refine m_C h (fun h => ?_)
                exact k _ _ f7 h
      · skip
        refine fq2_X12_payBy_118 hG (fun _ _ _ _ _ f10 h => ?_) k f1 h
        exact ih _ _ _ _ _ f10 h
theorem fq2_X12_payBy {X G : Mm} {S : Sh} {K K' : Int → Mm → Prop} {M : Mm} {u1 : Int} (hG : Inv X S G) (k : ∀ (a0 : Int) (m : Mm), fq2_F G m → K a0 m → K' a0 m) (f : fq2_F G M) (h : wp_X12_payBy S M (336) u1 K) : wp_X12_payBy S M (336) u1 K' := by
  refine m_C h (fun h => ?_)
  refine m_C h (fun h => ?_)
  refine m_C h (fun h => ?_)
  refine m_ex h (fun n9 h => ?_)
  refine fq2_X12_payBy_7 hG k _ _ _ _ _ _ f h
theorem fq2_X12_match_75 {X G : Mm} {S : Sh} {k29 k29' : Int → Int → Int → Int → Int → Mm → Prop} {K K' : Int → Mm → Prop} {M : Mm} {u1 : Int} {u2 : Int} {u3 : Int} {u4 : Int} (hG : Inv X S G) (kk29 : ∀ (a1 : Int) (a2 : Int) (a3 : Int) (a4 : Int) (m : Mm), fq2_F G m → k29 (336) a1 a2 a3 a4 m → k29' (336) a1 a2 a3 a4 m) (k : ∀ (a0 : Int) (m : Mm), fq2_F G m → K a0 m → K' a0 m) (f : fq2_F G M) (h : wp_X12_match_75 S k29 K (336) u1 u2 u3 u4 M) : wp_X12_match_75 S k29' K' (336) u1 u2 u3 u4 M := by
  refine m_A h (fun _ h => ?_)
  exact kk29 _ _ _ _ _ f h
theorem fq2_X12_match_29 {X G : Mm} {S : Sh} {K K' : Int → Mm → Prop} (hG : Inv X S G) (k : ∀ (a0 : Int) (m : Mm), fq2_F G m → K a0 m → K' a0 m) : ∀ (n : Nat) (u1 : Int) (u2 : Int) (u3 : Int) (u4 : Int) (M : Mm), fq2_F G M → wp_X12_match_29 S K n (336) u1 u2 u3 u4 M → wp_X12_match_29 S K' n (336) u1 u2 u3 u4 M := by
  intro n
  induction n with
  | zero => intro u1 u2 u3 u4 M f h; exact h
  | succ n ih =>
    intro u1 u2 u3 u4 M f h
    refine m_gr (fq2_c_336_20 hG f) h (fun h => ?_)
    refine m_C h (fun h => ?_)
    refine m_Ld h (fun _ h => ?_)
    refine m_C h (fun h => ?_)
    refine m_A h (fun _ h => ?_)
    refine m_gr (fq2_c_336_20 hG f) h (fun h => ?_)
    refine m_C h (fun h => ?_)
    refine m_Ld h (fun _ h => ?_)
    refine fq2_X12_power hG (fun _ _ f1 h => ?_) f h
    refine m_if h (fun h => ?_) (fun h => ?_)
    · skip
      refine m_if h (fun h => ?_) (fun h => ?_)
      · skip
        refine m_gr (fq2_c_336_20 hG f1) h (fun h => ?_)
        refine m_C h (fun h => ?_)
        refine m_Ld h (fun _ h => ?_)
        refine m_if h (fun h => ?_) (fun h => ?_)
        · skip
          refine m_C h (fun h => ?_)
          refine m_S h (fun _ h => ?_)
          refine m_and h (fun h => ?_)
          refine fq2_X12_jugIn hG (fun _ _ f2 h => ?_) f1 h
          exact k _ _ f2 h
        · skip
          refine m_C h (fun h => ?_)
          exact k _ _ f1 h
      · skip
        exact k _ _ f1 h
    · skip
      refine m_and h (fun h => ?_)
      refine fq2_X12_payBy hG (fun _ _ f3 h => ?_) f1 h
      refine m_if h (fun h => ?_) (fun h => ?_)
      · skip
        refine fq2_X12_match_75 hG (fun _ _ _ _ _ f4 h => ?_) k f3 h
        exact ih _ _ _ _ _ f4 h
      · skip
        refine fq2_X12_match_75 hG (fun _ _ _ _ _ f5 h => ?_) k f3 h
        exact ih _ _ _ _ _ f5 h
theorem fq2_X12_match {X G : Mm} {S : Sh} {K K' : Int → Mm → Prop} {M : Mm} {u1 : Int} (hG : Inv X S G) (k : ∀ (a0 : Int) (m : Mm), fq2_F G m → K a0 m → K' a0 m) (f : fq2_F G M) (h : wp_X12_match S M (336) u1 K) : wp_X12_match S M (336) u1 K' := by
  refine m_and h (fun h => ?_)
  refine fq2_X12_isDairy hG (fun _ _ f1 h => ?_) f h
  refine m_if h (fun h => ?_) (fun h => ?_)
  · skip
    refine m_C h (fun h => ?_)
    exact k _ _ f1 h
  · skip
    refine m_C h (fun h => ?_)
    refine m_C h (fun h => ?_)
    refine m_C h (fun h => ?_)
    refine fq2_X12_in hG (fun _ _ f2 h => ?_) f1 h
    refine m_if h (fun h => ?_) (fun h => ?_)
    · skip
      refine m_C h (fun h => ?_)
      refine m_C h (fun h => ?_)
      refine m_C h (fun h => ?_)
      refine m_ex h (fun n9 h => ?_)
      refine fq2_X12_match_29 hG k _ _ _ _ _ _ f2 h
    · skip
      refine m_C h (fun h => ?_)
      exact k _ _ f2 h
theorem fq2_X12_turnedResting_89 {X G : Mm} {S : Sh} {k14 k14' : Int → Int → Int → Int → Int → Int → Int → Mm → Prop} {K K' : Int → Mm → Prop} {M : Mm} {u1 : Int} {u2 : Int} {u3 : Int} {u4 : Int} {u5 : Int} {u6 : Int} (hG : Inv X S G) (kk14 : ∀ (a1 : Int) (a2 : Int) (a3 : Int) (a4 : Int) (a5 : Int) (a6 : Int) (m : Mm), fq2_F G m → k14 (336) a1 a2 a3 a4 a5 a6 m → k14' (336) a1 a2 a3 a4 a5 a6 m) (k : ∀ (a0 : Int) (m : Mm), fq2_F G m → K a0 m → K' a0 m) (f : fq2_F G M) (h : wp_X12_turnedResting_89 S k14 K (336) u1 u2 u3 u4 u5 u6 M) : wp_X12_turnedResting_89 S k14' K' (336) u1 u2 u3 u4 u5 u6 M := by
  refine m_A h (fun _ h => ?_)
  exact kk14 _ _ _ _ _ _ _ f h
theorem fq2_X12_turnedResting_86 {X G : Mm} {S : Sh} {k14 k14' : Int → Int → Int → Int → Int → Int → Int → Mm → Prop} {K K' : Int → Mm → Prop} {M : Mm} {u1 : Int} {u2 : Int} {u3 : Int} {u4 : Int} {u6 : Int} {t0 : Int} {t1 : Int} (hG : Inv X S G) (kk14 : ∀ (a1 : Int) (a2 : Int) (a3 : Int) (a4 : Int) (a5 : Int) (a6 : Int) (m : Mm), fq2_F G m → k14 (336) a1 a2 a3 a4 a5 a6 m → k14' (336) a1 a2 a3 a4 a5 a6 m) (k : ∀ (a0 : Int) (m : Mm), fq2_F G m → K a0 m → K' a0 m) (f : fq2_F G M) (h : wp_X12_turnedResting_86 S k14 K (336) u1 u2 u3 u4 u6 t0 t1 M) : wp_X12_turnedResting_86 S k14' K' (336) u1 u2 u3 u4 u6 t0 t1 M := by
  refine m_S h (fun _ h => ?_)
  refine fq2_X12_turnedResting_89 hG kk14 k f h
theorem fq2_X12_turnedResting_14 {X G : Mm} {S : Sh} {K K' : Int → Mm → Prop} (hG : Inv X S G) (k : ∀ (a0 : Int) (m : Mm), fq2_F G m → K a0 m → K' a0 m) : ∀ (n : Nat) (u1 : Int) (u2 : Int) (u3 : Int) (u4 : Int) (u5 : Int) (u6 : Int) (M : Mm), fq2_F G M → wp_X12_turnedResting_14 S K n (336) u1 u2 u3 u4 u5 u6 M → wp_X12_turnedResting_14 S K' n (336) u1 u2 u3 u4 u5 u6 M := by
  intro n
  induction n with
  | zero => intro u1 u2 u3 u4 u5 u6 M f h; exact h
  | succ n ih =>
    intro u1 u2 u3 u4 u5 u6 M f h
    refine m_if h (fun h => ?_) (fun h => ?_)
    · skip
      exact k _ _ f h
    · skip
      refine fq2_X12_isOf hG (fun _ _ f1 h => ?_) f h
      refine m_if h (fun h => ?_) (fun h => ?_)
      · skip
        refine m_if h (fun h => ?_) (fun h => ?_)
        · skip
          refine m_C h (fun h => ?_)
          refine fq2_X12_turnedResting_86 hG (fun _ _ _ _ _ _ _ f2 h => ?_) k f1 h
          exact ih _ _ _ _ _ _ _ f2 h
        · skip
          refine m_C h (fun h => ?_)
          refine fq2_X12_turnedResting_86 hG (fun _ _ _ _ _ _ _ f3 h => ?_) k f1 h
          exact ih _ _ _ _ _ _ _ f3 h
      · skip
        refine m_C h (fun h => ?_)
        refine m_gr (fq2_c_336_20 hG f1) h (fun h => ?_)
        refine m_C h (fun h => ?_)
        refine m_Ld h (fun _ h => ?_)
        refine m_A h (fun _ h => ?_)
        refine m_C h (fun h => ?_)
        refine m_C h (fun h => ?_)
        refine m_and h (fun h => ?_)
        refine fq2_X12_turnsIn hG (fun _ _ f4 h => ?_) f1 h
        refine m_A h (fun _ h => ?_)
        refine m_C h (fun h => ?_)
        refine fq2_X12_atMost hG (fun _ _ f5 h => ?_) f4 h
        refine m_and h (fun h => ?_)
        refine fq2_X12_moreTired hG (fun _ _ f6 h => ?_) f5 h
        refine fq2_X12_turnedResting_89 hG (fun _ _ _ _ _ _ _ f7 h => ?_) k f6 h
        exact ih _ _ _ _ _ _ _ f7 h
theorem fq2_X12_turnedResting {X G : Mm} {S : Sh} {K K' : Int → Mm → Prop} {M : Mm} {u1 : Int} {u2 : Int} {u3 : Int} (hG : Inv X S G) (k : ∀ (a0 : Int) (m : Mm), fq2_F G m → K a0 m → K' a0 m) (f : fq2_F G M) (h : wp_X12_turnedResting S M (336) u1 u2 u3 K) : wp_X12_turnedResting S M (336) u1 u2 u3 K' := by
  refine m_C h (fun h => ?_)
  refine m_C h (fun h => ?_)
  refine m_and h (fun h => ?_)
  refine fq2_X12_handOf hG (fun _ _ f1 h => ?_) f h
  refine m_C h (fun h => ?_)
  refine m_ex h (fun n9 h => ?_)
  refine fq2_X12_turnedResting_14 hG k _ _ _ _ _ _ _ _ f1 h
theorem fq2_X12_rest_106 {X G : Mm} {S : Sh} {k53 k53' : Int → Int → Int → Int → Int → Int → Int → Int → Mm → Prop} {K K' : Int → Mm → Prop} {M : Mm} {u1 : Int} {u2 : Int} {u3 : Int} {u4 : Int} {u5 : Int} {u6 : Int} {u7 : Int} (hG : Inv X S G) (kk53 : ∀ (a1 : Int) (a2 : Int) (a3 : Int) (a4 : Int) (a5 : Int) (a6 : Int) (a7 : Int) (m : Mm), fq2_F G m → k53 (336) a1 a2 a3 a4 a5 a6 a7 m → k53' (336) a1 a2 a3 a4 a5 a6 a7 m) (k : ∀ (a0 : Int) (m : Mm), fq2_F G m → K a0 m → K' a0 m) (f : fq2_F G M) (h : wp_X12_rest_106 S k53 K (336) u1 u2 u3 u4 u5 u6 u7 M) : wp_X12_rest_106 S k53' K' (336) u1 u2 u3 u4 u5 u6 u7 M := by
  refine m_A h (fun _ h => ?_)
  exact kk53 _ _ _ _ _ _ _ _ f h
theorem fq2_X12_rest_98 {X G : Mm} {S : Sh} {k53 k53' : Int → Int → Int → Int → Int → Int → Int → Int → Mm → Prop} {K K' : Int → Mm → Prop} {M : Mm} {u1 : Int} {u2 : Int} {u3 : Int} {u4 : Int} {u7 : Int} {u8 : Int} (hG : Inv X S G) (kk53 : ∀ (a1 : Int) (a2 : Int) (a3 : Int) (a4 : Int) (a5 : Int) (a6 : Int) (a7 : Int) (m : Mm), fq2_F G m → k53 (336) a1 a2 a3 a4 a5 a6 a7 m → k53' (336) a1 a2 a3 a4 a5 a6 a7 m) (k : ∀ (a0 : Int) (m : Mm), fq2_F G m → K a0 m → K' a0 m) (f : fq2_F G M) (h : wp_X12_rest_98 S k53 K (336) u1 u2 u3 u4 u7 u8 M) : wp_X12_rest_98 S k53' K' (336) u1 u2 u3 u4 u7 u8 M := by
  refine fq2_X12_rest_106 hG kk53 k f h
theorem fq2_X12_rest_53 {X G : Mm} {S : Sh} {K K' : Int → Mm → Prop} (hG : Inv X S G) (k : ∀ (a0 : Int) (m : Mm), fq2_F G m → K a0 m → K' a0 m) : ∀ (n : Nat) (u1 : Int) (u2 : Int) (u3 : Int) (u4 : Int) (u5 : Int) (u6 : Int) (u7 : Int) (M : Mm), fq2_F G M → wp_X12_rest_53 S K n (336) u1 u2 u3 u4 u5 u6 u7 M → wp_X12_rest_53 S K' n (336) u1 u2 u3 u4 u5 u6 u7 M := by
  intro n
  induction n with
  | zero => intro u1 u2 u3 u4 u5 u6 u7 M f h; exact h
  | succ n ih =>
    intro u1 u2 u3 u4 u5 u6 u7 M f h
    refine m_C h (fun h => ?_)
    refine m_O h (fun _ h => ?_)
    refine m_if h (fun h => ?_) (fun h => ?_)
    · skip
      refine m_if h (fun h => ?_) (fun h => ?_)
      · skip
        exact k _ _ f h
      · skip
        exact k _ _ f h
    · skip
      refine fq2_X12_bits hG (fun _ _ f1 h => ?_) f h
      refine m_if h (fun h => ?_) (fun h => ?_)
      · skip
        refine m_and h (fun h => ?_)
        refine fq2_X12_turnedResting hG (fun _ _ f2 h => ?_) f1 h
        refine m_if h (fun h => ?_) (fun h => ?_)
        · skip
          refine fq2_X12_rest_98 hG (fun _ _ _ _ _ _ _ _ f3 h => ?_) k f2 h
          exact ih _ _ _ _ _ _ _ _ f3 h
        · skip
          refine m_if h (fun h => ?_) (fun h => ?_)
          · skip
            refine fq2_X12_rest_98 hG (fun _ _ _ _ _ _ _ _ f4 h => ?_) k f2 h
            exact ih _ _ _ _ _ _ _ _ f4 h
          · skip
            refine fq2_X12_rest_106 hG (fun _ _ _ _ _ _ _ _ f5 h => ?_) k f2 h
            exact ih _ _ _ _ _ _ _ _ f5 h
      · skip
        refine fq2_X12_rest_106 hG (fun _ _ _ _ _ _ _ _ f6 h => ?_) k f1 h
        exact ih _ _ _ _ _ _ _ _ f6 h
theorem fq2_X12_rest {X G : Mm} {S : Sh} {K K' : Int → Mm → Prop} {M : Mm} {u1 : Int} {u2 : Int} {u3 : Int} {u4 : Int} (hG : Inv X S G) (k : ∀ (a0 : Int) (m : Mm), fq2_F G m → K a0 m → K' a0 m) (f : fq2_F G M) (h : wp_X12_rest S M (336) u1 u2 u3 u4 K) : wp_X12_rest S M (336) u1 u2 u3 u4 K' := by
  refine m_and h (fun h => ?_)
  refine fq2_X12_isHand hG (fun _ _ f1 h => ?_) f h
  refine m_if h (fun h => ?_) (fun h => ?_)
  · skip
    refine m_C h (fun h => ?_)
    exact k _ _ f1 h
  · skip
    refine m_C h (fun h => ?_)
    refine m_C h (fun h => ?_)
    refine m_C h (fun h => ?_)
    refine fq2_X12_in hG (fun _ _ f2 h => ?_) f1 h
    refine m_if h (fun h => ?_) (fun h => ?_)
    · skip
      refine m_C h (fun h => ?_)
      exact k _ _ f2 h
    · skip
      refine m_C h (fun h => ?_)
      refine m_C h (fun h => ?_)
      refine m_C h (fun h => ?_)
      refine fq2_X12_in hG (fun _ _ f3 h => ?_) f2 h
      refine m_if h (fun h => ?_) (fun h => ?_)
      · skip
        refine m_C h (fun h => ?_)
        exact k _ _ f3 h
      · skip
        refine m_C h (fun h => ?_)
        refine m_C h (fun h => ?_)
        refine m_C h (fun h => ?_)
        refine fq2_X12_in hG (fun _ _ f4 h => ?_) f3 h
        refine m_if h (fun h => ?_) (fun h => ?_)
        · skip
          refine m_C h (fun h => ?_)
          refine m_C h (fun h => ?_)
          refine m_C h (fun h => ?_)
          refine m_ex h (fun n9 h => ?_)
          refine fq2_X12_rest_53 hG k _ _ _ _ _ _ _ _ _ f4 h
        · skip
          refine m_C h (fun h => ?_)
          exact k _ _ f4 h
theorem fq2_X12_fitsTests_2 {X G : Mm} {S : Sh} {K K' : Int → Mm → Prop} (hG : Inv X S G) (k : ∀ (a0 : Int) (m : Mm), fq2_F G m → K a0 m → K' a0 m) : ∀ (n : Nat) (u1 : Int) (u2 : Int) (M : Mm), fq2_F G M → wp_X12_fitsTests_2 S K n (336) u1 u2 M → wp_X12_fitsTests_2 S K' n (336) u1 u2 M := by
  intro n
  induction n with
  | zero => intro u1 u2 M f h; exact h
  | succ n ih =>
    intro u1 u2 M f h
    refine m_gr (fq2_c_336_20 hG f) h (fun h => ?_)
    refine m_C h (fun h => ?_)
    refine m_Ld h (fun _ h => ?_)
    refine m_if h (fun h => ?_) (fun h => ?_)
    · skip
      refine m_C h (fun h => ?_)
      refine m_and h (fun h => ?_)
      exact k _ _ f h
    · skip
      refine m_C h (fun h => ?_)
      refine m_C h (fun h => ?_)
      refine m_M h (fun _ h => ?_)
      refine m_A h (fun _ h => ?_)
      refine m_C h (fun h => ?_)
      refine m_gr (fq2_c_336_20 hG f) h (fun h => ?_)
      refine m_Ld h (fun _ h => ?_)
      refine m_gr (fq2_c_336_20 hG f) h (fun h => ?_)
      refine m_C h (fun h => ?_)
      refine m_A h (fun _ h => ?_)
      refine m_Ld h (fun _ h => ?_)
      refine m_gr (fq2_c_336_20 hG f) h (fun h => ?_)
      refine m_C h (fun h => ?_)
      refine m_A h (fun _ h => ?_)
      refine m_Ld h (fun _ h => ?_)
      refine m_C h (fun h => ?_)
      refine m_and h (fun h => ?_)
      refine fq2_X12_turnedBy hG (fun _ _ f1 h => ?_) f h
      refine m_gr (fq2_c_336_20 hG f1) h (fun h => ?_)
      refine m_C h (fun h => ?_)
      refine m_A h (fun _ h => ?_)
      refine m_Ld h (fun _ h => ?_)
      refine m_if h (fun h => ?_) (fun h => ?_)
      · skip
        refine m_A h (fun _ h => ?_)
        exact ih _ _ _ f1 h
      · skip
        refine m_C h (fun h => ?_)
        refine m_and h (fun h => ?_)
        exact k _ _ f1 h
theorem fq2_X12_fitsTests {X G : Mm} {S : Sh} {K K' : Int → Mm → Prop} {M : Mm} {u1 : Int} (hG : Inv X S G) (k : ∀ (a0 : Int) (m : Mm), fq2_F G m → K a0 m → K' a0 m) (f : fq2_F G M) (h : wp_X12_fitsTests S M (336) u1 K) : wp_X12_fitsTests S M (336) u1 K' := by
  refine m_C h (fun h => ?_)
  refine m_ex h (fun n9 h => ?_)
  refine fq2_X12_fitsTests_2 hG k _ _ _ _ f h
theorem fq2_X12_fitting_30 {X G : Mm} {S : Sh} {k4 k4' : Int → Int → Int → Mm → Prop} {K K' : Int → Mm → Prop} {M : Mm} {u2 : Int} {t0 : Int} {t1 : Int} (hG : Inv X S G) (kk4 : ∀ (a1 : Int) (a2 : Int) (m : Mm), fq2_F G m → k4 (336) a1 a2 m → k4' (336) a1 a2 m) (k : ∀ (a0 : Int) (m : Mm), fq2_F G m → K a0 m → K' a0 m) (f : fq2_F G M) (h : wp_X12_fitting_30 S k4 K (336) u2 t0 t1 M) : wp_X12_fitting_30 S k4' K' (336) u2 t0 t1 M := by
  refine m_O h (fun _ h => ?_)
  refine m_A h (fun _ h => ?_)
  exact kk4 _ _ _ f h
theorem fq2_X12_fitting_4 {X G : Mm} {S : Sh} {K K' : Int → Mm → Prop} (hG : Inv X S G) (k : ∀ (a0 : Int) (m : Mm), fq2_F G m → K a0 m → K' a0 m) : ∀ (n : Nat) (u1 : Int) (u2 : Int) (M : Mm), fq2_F G M → wp_X12_fitting_4 S K n (336) u1 u2 M → wp_X12_fitting_4 S K' n (336) u1 u2 M := by
  intro n
  induction n with
  | zero => intro u1 u2 M f h; exact h
  | succ n ih =>
    intro u1 u2 M f h
    refine m_gr (fq2_c_336_20 hG f) h (fun h => ?_)
    refine m_C h (fun h => ?_)
    refine m_Ld h (fun _ h => ?_)
    refine m_if h (fun h => ?_) (fun h => ?_)
    · skip
      exact k _ _ f h
    · skip
      refine m_and h (fun h => ?_)
      refine fq2_X12_fitsTests hG (fun _ _ f1 h => ?_) f h
      refine m_if h (fun h => ?_) (fun h => ?_)
      · skip
        refine m_C h (fun h => ?_)
        refine fq2_X12_fitting_30 hG (fun _ _ _ f2 h => ?_) k f1 h
        exact ih _ _ _ f2 h
      · skip
        refine m_C h (fun h => ?_)
        refine m_O h (fun _ h => ?_)
        refine fq2_X12_fitting_30 hG (fun _ _ _ f3 h => ?_) k f1 h
        exact ih _ _ _ f3 h
theorem fq2_X12_fitting {X G : Mm} {S : Sh} {K K' : Int → Mm → Prop} {M : Mm} (hG : Inv X S G) (k : ∀ (a0 : Int) (m : Mm), fq2_F G m → K a0 m → K' a0 m) (f : fq2_F G M) (h : wp_X12_fitting S M (336) K) : wp_X12_fitting S M (336) K' := by
  refine m_C h (fun h => ?_)
  refine m_C h (fun h => ?_)
  refine m_ex h (fun n9 h => ?_)
  refine fq2_X12_fitting_4 hG k _ _ _ _ f h
theorem fq2_X12_who_46 {X G : Mm} {S : Sh} {K K' : Int → Mm → Prop} (hG : Inv X S G) (k : ∀ (a0 : Int) (m : Mm), fq2_F G m → K a0 m → K' a0 m) : ∀ (n : Nat) (u2 : Int) (u3 : Int) (M : Mm), fq2_F G M → wp_X12_who_46 S K n (336) u2 u3 M → wp_X12_who_46 S K' n (336) u2 u3 M := by
  intro n
  induction n with
  | zero => intro u2 u3 M f h; exact h
  | succ n ih =>
    intro u2 u3 M f h
    refine m_gr (fq2_c_336_20 hG f) h (fun h => ?_)
    refine m_C h (fun h => ?_)
    refine m_Ld h (fun _ h => ?_)
    refine m_if h (fun h => ?_) (fun h => ?_)
    · skip
      refine m_C h (fun h => ?_)
      exact k _ _ f h
    · skip
      refine fq2_X12_isOf hG (fun _ _ f1 h => ?_) f h
      refine m_if h (fun h => ?_) (fun h => ?_)
      · skip
        refine m_A h (fun _ h => ?_)
        exact ih _ _ _ f1 h
      · skip
        exact k _ _ f1 h
theorem fq2_X12_who {X G : Mm} {S : Sh} {K K' : Int → Mm → Prop} {M : Mm} {u1 : Int} (hG : Inv X S G) (k : ∀ (a0 : Int) (m : Mm), fq2_F G m → K a0 m → K' a0 m) (f : fq2_F G M) (h : wp_X12_who S M (336) u1 K) : wp_X12_who S M (336) u1 K' := by
  refine m_and h (fun h => ?_)
  refine fq2_X12_isDairy hG (fun _ _ f1 h => ?_) f h
  refine m_if h (fun h => ?_) (fun h => ?_)
  · skip
    refine m_C h (fun h => ?_)
    exact k _ _ f1 h
  · skip
    refine m_C h (fun h => ?_)
    refine m_C h (fun h => ?_)
    refine m_C h (fun h => ?_)
    refine fq2_X12_in hG (fun _ _ f2 h => ?_) f1 h
    refine m_if h (fun h => ?_) (fun h => ?_)
    · skip
      refine m_and h (fun h => ?_)
      refine fq2_X12_fitting hG (fun _ _ f3 h => ?_) f2 h
      refine m_C h (fun h => ?_)
      refine m_if h (fun h => ?_) (fun h => ?_)
      · skip
        refine m_C h (fun h => ?_)
        refine m_ex h (fun n9 h => ?_)
        refine fq2_X12_who_46 hG k _ _ _ _ f3 h
      · skip
        refine m_if h (fun h => ?_) (fun h => ?_)
        · skip
          exact k _ _ f3 h
        · skip
          refine fq2_X12_bits hG (fun _ _ f4 h => ?_) f3 h
          exact k _ _ f4 h
    · skip
      refine m_C h (fun h => ?_)
      exact k _ _ f2 h
theorem fq2_X12_alikeBy_140 {X G : Mm} {S : Sh} {k57 k57' : Int → Int → Int → Mm → Prop} {K K' : Int → Mm → Prop} {M : Mm} {u4 : Int} {t0 : Int} (hG : Inv X S G) (kk57 : ∀ (a1 : Int) (a2 : Int) (m : Mm), fq2_F G m → k57 (336) a1 a2 m → k57' (336) a1 a2 m) (k : ∀ (a0 : Int) (m : Mm), fq2_F G m → K a0 m → K' a0 m) (f : fq2_F G M) (h : wp_X12_alikeBy_140 S k57 K (336) u4 t0 M) : wp_X12_alikeBy_140 S k57' K' (336) u4 t0 M := by
  refine m_A h (fun _ h => ?_)
  exact kk57 _ _ _ f h
theorem fq2_X12_alikeBy_119 {X G : Mm} {S : Sh} {k57 k57' : Int → Int → Int → Mm → Prop} {k74 k74' : Int → Int → Int → Int → Int → Mm → Prop} {K K' : Int → Mm → Prop} {M : Mm} {u3 : Int} {u4 : Int} {u6 : Int} {t0 : Int} {t1 : Int} (hG : Inv X S G) (kk57 : ∀ (a2 : Int) (m : Mm), fq2_F G m → k57 (336) (0) a2 m → k57' (336) (0) a2 m) (kk74 : ∀ (a1 : Int) (a2 : Int) (a3 : Int) (a4 : Int) (m : Mm), fq2_F G m → k74 (336) a1 a2 a3 a4 m → k74' (336) a1 a2 a3 a4 m) (k : ∀ (a0 : Int) (m : Mm), fq2_F G m → K a0 m → K' a0 m) (f : fq2_F G M) (h : wp_X12_alikeBy_119 S k57 k74 K (336) u3 u4 u6 t0 t1 M) : wp_X12_alikeBy_119 S k57' k74' K' (336) u3 u4 u6 t0 t1 M := by
  refine m_A h (fun _ h => ?_)
  refine m_A h (fun _ h => ?_)
  exact kk74 _ _ _ _ _ f h
theorem fq2_X12_alikeBy_118 {X G : Mm} {S : Sh} {k57 k57' : Int → Int → Int → Mm → Prop} {k74 k74' : Int → Int → Int → Int → Int → Mm → Prop} {K K' : Int → Mm → Prop} {M : Mm} {u3 : Int} {u4 : Int} {u6 : Int} {t0 : Int} (hG : Inv X S G) (kk57 : ∀ (a2 : Int) (m : Mm), fq2_F G m → k57 (336) (0) a2 m → k57' (336) (0) a2 m) (kk74 : ∀ (a1 : Int) (a2 : Int) (a3 : Int) (a4 : Int) (m : Mm), fq2_F G m → k74 (336) a1 a2 a3 a4 m → k74' (336) a1 a2 a3 a4 m) (k : ∀ (a0 : Int) (m : Mm), fq2_F G m → K a0 m → K' a0 m) (f : fq2_F G M) (h : wp_X12_alikeBy_118 S k57 k74 K (336) u3 u4 u6 t0 M) : wp_X12_alikeBy_118 S k57' k74' K' (336) u3 u4 u6 t0 M := by
  refine m_C h (fun h => ?_)
  refine fq2_X12_alikeBy_119 hG kk57 kk74 k f h
theorem fq2_X12_alikeBy_74 {X G : Mm} {S : Sh} {k57 k57' : Int → Int → Int → Mm → Prop} {K K' : Int → Mm → Prop} (hG : Inv X S G) (kk57 : ∀ (a1 : Int) (a2 : Int) (m : Mm), fq2_F G m → k57 (336) a1 a2 m → k57' (336) a1 a2 m) (k : ∀ (a0 : Int) (m : Mm), fq2_F G m → K a0 m → K' a0 m) : ∀ (n : Nat) (u3 : Int) (u4 : Int) (u5 : Int) (u6 : Int) (M : Mm), fq2_F G M → wp_X12_alikeBy_74 S k57 K n (336) u3 u4 u5 u6 M → wp_X12_alikeBy_74 S k57' K' n (336) u3 u4 u5 u6 M := by
  intro n
  induction n with
  | zero => intro u3 u4 u5 u6 M f h; exact h
  | succ n ih =>
    intro u3 u4 u5 u6 M f h
    refine m_gr (fq2_c_336_20 hG f) h (fun h => ?_)
    refine m_C h (fun h => ?_)
    refine m_Ld h (fun _ h => ?_)
    refine m_if h (fun h => ?_) (fun h => ?_)
    · skip
      refine m_if h (fun h => ?_) (fun h => ?_)
      · skip
        refine fq2_X12_alikeBy_140 hG kk57 k f h
      · skip
        refine fq2_X12_alikeBy_140 hG kk57 k f h
    · skip
      refine m_gr (fq2_c_336_30 hG f) h (fun h => ?_)
      refine m_Ld h (fun _ h => ?_)
      refine m_if h (fun h => ?_) (fun h => ?_)
      · skip
        refine fq2_X12_alikeBy_118 hG (fun b2 m f h => kk57 (0) b2 m f h) (fun _ _ _ _ _ f1 h => ?_) k f h
        exact ih _ _ _ _ _ f1 h
      · skip
        refine m_gr (fq2_c_336_30 hG f) h (fun h => ?_)
        refine m_Ld h (fun _ h => ?_)
        refine m_gr (fq2_c_336_30 hG f) h (fun h => ?_)
        refine m_Ld h (fun _ h => ?_)
        refine m_if h (fun h => ?_) (fun h => ?_)
        · skip
          refine fq2_X12_alikeBy_118 hG (fun b2 m f h => kk57 (0) b2 m f h) (fun _ _ _ _ _ f2 h => ?_) k f h
          exact ih _ _ _ _ _ f2 h
        · skip
          refine m_C h (fun h => ?_)
          refine fq2_X12_alikeBy_119 hG (fun b2 m f h => kk57 (0) b2 m f h) (fun _ _ _ _ _ f3 h => ?_) k f h
          exact ih _ _ _ _ _ f3 h
theorem fq2_X12_alikeBy_57 {X G : Mm} {S : Sh} {K K' : Int → Mm → Prop} (hG : Inv X S G) (k : ∀ (a0 : Int) (m : Mm), fq2_F G m → K a0 m → K' a0 m) : ∀ (n : Nat) (u3 : Int) (u4 : Int) (M : Mm), fq2_F G M → wp_X12_alikeBy_57 S K n (336) u3 u4 M → wp_X12_alikeBy_57 S K' n (336) u3 u4 M := by
  intro n
  induction n with
  | zero => intro u3 u4 M f h; exact h
  | succ n ih =>
    intro u3 u4 M f h
    refine m_gr (fq2_c_336_20 hG f) h (fun h => ?_)
    refine m_C h (fun h => ?_)
    refine m_Ld h (fun _ h => ?_)
    refine m_if h (fun h => ?_) (fun h => ?_)
    · skip
      exact k _ _ f h
    · skip
      refine m_C h (fun h => ?_)
      refine m_C h (fun h => ?_)
      refine m_ex h (fun n9 h => ?_)
      refine fq2_X12_alikeBy_74 hG (fun _ _ _ f1 h => ?_) k _ _ _ _ _ _ f h
      exact ih _ _ _ f1 h
theorem fq2_X12_alikeBy_45 {X G : Mm} {S : Sh} {k2 k2' : Int → Int → Int → Int → Mm → Prop} {K K' : Int → Mm → Prop} {M : Mm} {u1 : Int} {u2 : Int} {u3 : Int} {t1 : Int} {t2 : Int} (hG : Inv X S G) (kk2 : ∀ (a1 : Int) (a2 : Int) (a3 : Int) (m : Mm), fq2_F G m → k2 (336) a1 a2 a3 m → k2' (336) a1 a2 a3 m) (k : ∀ (a0 : Int) (m : Mm), fq2_F G m → K a0 m → K' a0 m) (f : fq2_F G M) (h : wp_X12_alikeBy_45 S k2 K (336) u1 u2 u3 (351) t1 t2 M) : wp_X12_alikeBy_45 S k2' K' (336) u1 u2 u3 (351) t1 t2 M := by
  refine m_St (fq2_up (fq2_a_351 _) f) h (fun _ f1 h => ?_)
  refine m_A h (fun _ h => ?_)
  exact kk2 _ _ _ _ f1 h
theorem fq2_X12_alikeBy_2 {X G : Mm} {S : Sh} {K K' : Int → Mm → Prop} (hG : Inv X S G) (k : ∀ (a0 : Int) (m : Mm), fq2_F G m → K a0 m → K' a0 m) : ∀ (n : Nat) (u1 : Int) (u2 : Int) (u3 : Int) (M : Mm), fq2_F G M → wp_X12_alikeBy_2 S K n (336) u1 u2 u3 M → wp_X12_alikeBy_2 S K' n (336) u1 u2 u3 M := by
  intro n
  induction n with
  | zero => intro u1 u2 u3 M f h; exact h
  | succ n ih =>
    intro u1 u2 u3 M f h
    refine m_gr (fq2_c_336_20 hG f) h (fun h => ?_)
    refine m_C h (fun h => ?_)
    refine m_Ld h (fun _ h => ?_)
    refine m_if h (fun h => ?_) (fun h => ?_)
    · skip
      refine m_C h (fun h => ?_)
      refine m_C h (fun h => ?_)
      refine m_ex h (fun n9 h => ?_)
      refine fq2_X12_alikeBy_57 hG k _ _ _ _ f h
    · skip
      refine m_gr (fq2_c_336_30 hG f) h (fun h => ?_)
      refine fq2_X12_isOf hG (fun _ _ f1 h => ?_) f h
      refine m_if h (fun h => ?_) (fun h => ?_)
      · skip
        refine m_C h (fun h => ?_)
        refine fq2_X12_alikeBy_45 hG (fun _ _ _ _ f2 h => ?_) k f1 h
        exact ih _ _ _ _ f2 h
      · skip
        refine m_C h (fun h => ?_)
        refine m_C h (fun h => ?_)
        refine m_gr (fq2_c_336_20 hG f1) h (fun h => ?_)
        refine m_C h (fun h => ?_)
        refine m_Ld h (fun _ h => ?_)
        refine m_C h (fun h => ?_)
        refine m_and h (fun h => ?_)
        refine fq2_X12_turnedBy hG (fun _ _ f3 h => ?_) f1 h
        refine fq2_X12_alikeBy_45 hG (fun _ _ _ _ f4 h => ?_) k f3 h
        exact ih _ _ _ _ f4 h
theorem fq2_X12_alikeBy {X G : Mm} {S : Sh} {K K' : Int → Mm → Prop} {M : Mm} {u1 : Int} {u2 : Int} (hG : Inv X S G) (k : ∀ (a0 : Int) (m : Mm), fq2_F G m → K a0 m → K' a0 m) (f : fq2_F G M) (h : wp_X12_alikeBy S M (336) u1 u2 K) : wp_X12_alikeBy S M (336) u1 u2 K' := by
  refine m_C h (fun h => ?_)
  refine m_ex h (fun n9 h => ?_)
  refine fq2_X12_alikeBy_2 hG k _ _ _ _ _ f h
theorem fq2_X12_probe_62 {X G : Mm} {S : Sh} {k36 k36' : Int → Int → Int → Int → Int → Mm → Prop} {K K' : Int → Mm → Prop} {M : Mm} {u1 : Int} {u2 : Int} {u3 : Int} {u4 : Int} (hG : Inv X S G) (kk36 : ∀ (a1 : Int) (a2 : Int) (a3 : Int) (a4 : Int) (m : Mm), fq2_F G m → k36 (336) a1 a2 a3 a4 m → k36' (336) a1 a2 a3 a4 m) (k : ∀ (a0 : Int) (m : Mm), fq2_F G m → K a0 m → K' a0 m) (f : fq2_F G M) (h : wp_X12_probe_62 S k36 K (336) u1 u2 u3 u4 M) : wp_X12_probe_62 S k36' K' (336) u1 u2 u3 u4 M := by
  refine m_A h (fun _ h => ?_)
  exact kk36 _ _ _ _ _ f h
theorem fq2_X12_probe_36 {X G : Mm} {S : Sh} {K K' : Int → Mm → Prop} (hG : Inv X S G) (k : ∀ (a0 : Int) (m : Mm), fq2_F G m → K a0 m → K' a0 m) : ∀ (n : Nat) (u1 : Int) (u2 : Int) (u3 : Int) (u4 : Int) (M : Mm), fq2_F G M → wp_X12_probe_36 S K n (336) u1 u2 u3 u4 M → wp_X12_probe_36 S K' n (336) u1 u2 u3 u4 M := by
  intro n
  induction n with
  | zero => intro u1 u2 u3 u4 M f h; exact h
  | succ n ih =>
    intro u1 u2 u3 u4 M f h
    refine m_C h (fun h => ?_)
    refine m_if h (fun h => ?_) (fun h => ?_)
    · skip
      refine m_if h (fun h => ?_) (fun h => ?_)
      · skip
        refine m_and h (fun h => ?_)
        refine fq2_X12_alikeBy hG (fun _ _ f1 h => ?_) f h
        exact k _ _ f1 h
      · skip
        exact k _ _ f h
    · skip
      refine m_and h (fun h => ?_)
      refine fq2_X12_alikeBy hG (fun _ _ f2 h => ?_) f h
      refine m_and h (fun h => ?_)
      refine fq2_X12_alikeBy hG (fun _ _ f3 h => ?_) f2 h
      refine m_if h (fun h => ?_) (fun h => ?_)
      · skip
        refine fq2_X12_probe_62 hG (fun _ _ _ _ _ f4 h => ?_) k f3 h
        exact ih _ _ _ _ _ f4 h
      · skip
        refine fq2_X12_probe_62 hG (fun _ _ _ _ _ f5 h => ?_) k f3 h
        exact ih _ _ _ _ _ f5 h
theorem fq2_X12_probe {X G : Mm} {S : Sh} {K K' : Int → Mm → Prop} {M : Mm} {u1 : Int} (hG : Inv X S G) (k : ∀ (a0 : Int) (m : Mm), fq2_F G m → K a0 m → K' a0 m) (f : fq2_F G M) (h : wp_X12_probe S M (336) u1 K) : wp_X12_probe S M (336) u1 K' := by
  refine m_and h (fun h => ?_)
  refine fq2_X12_isDairy hG (fun _ _ f1 h => ?_) f h
  refine m_if h (fun h => ?_) (fun h => ?_)
  · skip
    refine m_C h (fun h => ?_)
    exact k _ _ f1 h
  · skip
    refine m_C h (fun h => ?_)
    refine m_C h (fun h => ?_)
    refine m_C h (fun h => ?_)
    refine fq2_X12_in hG (fun _ _ f2 h => ?_) f1 h
    refine m_if h (fun h => ?_) (fun h => ?_)
    · skip
      refine m_and h (fun h => ?_)
      refine fq2_X12_fitting hG (fun _ _ f3 h => ?_) f2 h
      refine m_if h (fun h => ?_) (fun h => ?_)
      · skip
        refine m_C h (fun h => ?_)
        refine m_C h (fun h => ?_)
        refine m_ex h (fun n9 h => ?_)
        refine fq2_X12_probe_36 hG k _ _ _ _ _ _ f3 h
      · skip
        refine m_C h (fun h => ?_)
        exact k _ _ f3 h
    · skip
      refine m_C h (fun h => ?_)
      exact k _ _ f2 h
end
