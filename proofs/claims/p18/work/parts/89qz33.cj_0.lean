theorem cj_J6_bitCount_0f7a4 {S : Sh} {K1 K2 K3 : Int → Mm → Prop} {M : Mm} {u0 : Int} (k : ∀ (a0 : Int) (m : Mm), K1 a0 m → K2 a0 m → K3 a0 m) (h : wp_J6_bitCount_0f7a4 S M u0 K1) (g : wp_J6_bitCount_0f7a4 S M u0 K2) : wp_J6_bitCount_0f7a4 S M u0 K3 := by
  refine d_C h g (fun _ h g => ?_)
  refine d_O h g (fun _ h g => ?_)
  refine d_C h g (fun _ h g => ?_)
  refine d_O h g (fun _ h g => ?_)
  refine d_S h g (fun _ h g => ?_)
  refine d_C h g (fun _ h g => ?_)
  refine d_O h g (fun _ h g => ?_)
  refine d_C h g (fun _ h g => ?_)
  refine d_O h g (fun _ h g => ?_)
  refine d_C h g (fun _ h g => ?_)
  refine d_O h g (fun _ h g => ?_)
  refine d_A h g (fun _ h g => ?_)
  refine d_C h g (fun _ h g => ?_)
  refine d_O h g (fun _ h g => ?_)
  refine d_A h g (fun _ h g => ?_)
  refine d_C h g (fun _ h g => ?_)
  refine d_O h g (fun _ h g => ?_)
  refine d_C h g (fun _ h g => ?_)
  refine d_O h g (fun _ h g => ?_)
  refine d_A h g (fun _ h g => ?_)
  refine d_C h g (fun _ h g => ?_)
  refine d_O h g (fun _ h g => ?_)
  refine d_A h g (fun _ h g => ?_)
  refine d_C h g (fun _ h g => ?_)
  refine d_O h g (fun _ h g => ?_)
  exact k _ _ h g
theorem cj_X12_in {S : Sh} {K1 K2 K3 : Int → Mm → Prop} {M : Mm} {u0 : Int} {u2 : Int} {u4 : Int} (k : ∀ (a0 : Int) (m : Mm), K1 a0 m → K2 a0 m → K3 a0 m) (h : wp_X12_in S M u0 u2 u4 K1) (g : wp_X12_in S M u0 u2 u4 K2) : wp_X12_in S M u0 u2 u4 K3 := by
  refine d_Cmp h g (fun _ h g => ?_)
  refine d_if h g (fun h g => ?_) (fun h g => ?_)
  · skip
    refine d_C h g (fun _ h g => ?_)
    refine d_and h g (fun h g => ?_)
    exact k _ _ h g
  · skip
    refine d_Cmp h g (fun _ h g => ?_)
    refine d_if h g (fun h g => ?_) (fun h g => ?_)
    · skip
      refine d_C h g (fun _ h g => ?_)
      refine d_and h g (fun h g => ?_)
      exact k _ _ h g
    · skip
      refine d_C h g (fun _ h g => ?_)
      refine d_and h g (fun h g => ?_)
      exact k _ _ h g
theorem cj_X12_isHand {S : Sh} {K1 K2 K3 : Int → Mm → Prop} {M : Mm} {u0 : Int} {u1 : Int} (k : ∀ (a0 : Int) (m : Mm), K1 a0 m → K2 a0 m → K3 a0 m) (h : wp_X12_isHand S M u0 u1 K1) (g : wp_X12_isHand S M u0 u1 K2) : wp_X12_isHand S M u0 u1 K3 := by
  refine d_if h g (fun h g => ?_) (fun h g => ?_)
  · skip
    refine d_C h g (fun _ h g => ?_)
    refine d_and h g (fun h g => ?_)
    exact k _ _ h g
  · skip
    refine d_GetR h g (fun _ h g => ?_)
    refine d_C h g (fun _ h g => ?_)
    refine d_Ld h g (fun _ h g => ?_)
    refine d_if h g (fun h g => ?_) (fun h g => ?_)
    · skip
      refine d_C h g (fun _ h g => ?_)
      refine d_and h g (fun h g => ?_)
      exact k _ _ h g
    · skip
      refine d_C h g (fun _ h g => ?_)
      refine d_and h g (fun h g => ?_)
      exact k _ _ h g
theorem cj_X12_handOf {S : Sh} {K1 K2 K3 : Int → Mm → Prop} {M : Mm} {u0 : Int} {u1 : Int} {u2 : Int} (k : ∀ (a0 : Int) (m : Mm), K1 a0 m → K2 a0 m → K3 a0 m) (h : wp_X12_handOf S M u0 u1 u2 K1) (g : wp_X12_handOf S M u0 u1 u2 K2) : wp_X12_handOf S M u0 u1 u2 K3 := by
  refine d_GetR h g (fun _ h g => ?_)
  refine d_C h g (fun _ h g => ?_)
  refine d_C h g (fun _ h g => ?_)
  refine d_M h g (fun _ h g => ?_)
  refine d_A h g (fun _ h g => ?_)
  refine d_A h g (fun _ h g => ?_)
  refine d_Ld h g (fun _ h g => ?_)
  exact k _ _ h g
theorem cj_X12_jugOf {S : Sh} {K1 K2 K3 : Int → Mm → Prop} {M : Mm} {u0 : Int} {u1 : Int} {u2 : Int} (k : ∀ (a0 : Int) (m : Mm), K1 a0 m → K2 a0 m → K3 a0 m) (h : wp_X12_jugOf S M u0 u1 u2 K1) (g : wp_X12_jugOf S M u0 u1 u2 K2) : wp_X12_jugOf S M u0 u1 u2 K3 := by
  refine d_GetR h g (fun _ h g => ?_)
  refine d_C h g (fun _ h g => ?_)
  refine d_C h g (fun _ h g => ?_)
  refine d_M h g (fun _ h g => ?_)
  refine d_A h g (fun _ h g => ?_)
  refine d_A h g (fun _ h g => ?_)
  refine d_Ld h g (fun _ h g => ?_)
  exact k _ _ h g
theorem cj_X12_held_32 {S : Sh} {k4_1 k4_2 k4_3 : Int → Int → Int → Int → Mm → Prop} {K1 K2 K3 : Int → Mm → Prop} {M : Mm} {u0 : Int} {u1 : Int} {u3 : Int} {t0 : Int} {t1 : Int} (kk4 : ∀ (a0 : Int) (a1 : Int) (a2 : Int) (a3 : Int) (m : Mm), k4_1 a0 a1 a2 a3 m → k4_2 a0 a1 a2 a3 m → k4_3 a0 a1 a2 a3 m) (k : ∀ (a0 : Int) (m : Mm), K1 a0 m → K2 a0 m → K3 a0 m) (h : wp_X12_held_32 S k4_1 K1 u0 u1 u3 t0 t1 M) (g : wp_X12_held_32 S k4_2 K2 u0 u1 u3 t0 t1 M) : wp_X12_held_32 S k4_3 K3 u0 u1 u3 t0 t1 M := by
  refine d_O h g (fun _ h g => ?_)
  refine d_A h g (fun _ h g => ?_)
  exact kk4 _ _ _ _ _ h g
theorem cj_X12_held_4 {S : Sh} {K1 K2 K3 : Int → Mm → Prop} (k : ∀ (a0 : Int) (m : Mm), K1 a0 m → K2 a0 m → K3 a0 m) : ∀ (n n9 : Nat) (u0 : Int) (u1 : Int) (u2 : Int) (u3 : Int) (M : Mm), wp_X12_held_4 S K1 n u0 u1 u2 u3 M → wp_X12_held_4 S K2 n9 u0 u1 u2 u3 M → wp_X12_held_4 S K3 n u0 u1 u2 u3 M := by
  intro n
  induction n with
  | zero => intro n9 u0 u1 u2 u3 M h g; exact h
  | succ n ih =>
    intro n9 u0 u1 u2 u3 M h g
    cases n9 with
    | zero => exact absurd g (fun z => z)
    | succ n9 =>
      refine d_GetR h g (fun _ h g => ?_)
      refine d_C h g (fun _ h g => ?_)
      refine d_Ld h g (fun _ h g => ?_)
      refine d_if h g (fun h g => ?_) (fun h g => ?_)
      · skip
        exact k _ _ h g
      · skip
        refine d_C h g (fun _ h g => ?_)
        refine d_and h g (fun h g => ?_)
        refine cj_X12_jugOf (fun _ _ h g => ?_) h g
        refine d_if h g (fun h g => ?_) (fun h g => ?_)
        · skip
          refine d_C h g (fun _ h g => ?_)
          refine cj_X12_held_32 (fun _ _ _ _ _ h g => ?_) k h g
          exact ih _ _ _ _ _ _ h g
        · skip
          refine d_C h g (fun _ h g => ?_)
          refine d_O h g (fun _ h g => ?_)
          refine cj_X12_held_32 (fun _ _ _ _ _ h g => ?_) k h g
          exact ih _ _ _ _ _ _ h g
theorem cj_X12_held {S : Sh} {K1 K2 K3 : Int → Mm → Prop} {M : Mm} {u0 : Int} {u1 : Int} (k : ∀ (a0 : Int) (m : Mm), K1 a0 m → K2 a0 m → K3 a0 m) (h : wp_X12_held S M u0 u1 K1) (g : wp_X12_held S M u0 u1 K2) : wp_X12_held S M u0 u1 K3 := by
  refine d_C h g (fun _ h g => ?_)
  refine d_C h g (fun _ h g => ?_)
  obtain ⟨n8, h⟩ := h
  obtain ⟨n9, g⟩ := g
  refine ⟨n8, ?_⟩
  refine cj_X12_held_4 k _ _ _ _ _ _ _ h g
theorem cj_X12_isJug {S : Sh} {K1 K2 K3 : Int → Mm → Prop} {M : Mm} {u0 : Int} {u1 : Int} (k : ∀ (a0 : Int) (m : Mm), K1 a0 m → K2 a0 m → K3 a0 m) (h : wp_X12_isJug S M u0 u1 K1) (g : wp_X12_isJug S M u0 u1 K2) : wp_X12_isJug S M u0 u1 K3 := by
  refine d_if h g (fun h g => ?_) (fun h g => ?_)
  · skip
    refine d_C h g (fun _ h g => ?_)
    refine d_and h g (fun h g => ?_)
    exact k _ _ h g
  · skip
    refine d_GetR h g (fun _ h g => ?_)
    refine d_C h g (fun _ h g => ?_)
    refine d_Ld h g (fun _ h g => ?_)
    refine d_if h g (fun h g => ?_) (fun h g => ?_)
    · skip
      refine d_C h g (fun _ h g => ?_)
      refine d_and h g (fun h g => ?_)
      exact k _ _ h g
    · skip
      refine d_C h g (fun _ h g => ?_)
      refine d_and h g (fun h g => ?_)
      exact k _ _ h g
theorem cj_X12_stands {S : Sh} {K1 K2 K3 : Int → Mm → Prop} {M : Mm} {u0 : Int} {u1 : Int} (k : ∀ (a0 : Int) (m : Mm), K1 a0 m → K2 a0 m → K3 a0 m) (h : wp_X12_stands S M u0 u1 K1) (g : wp_X12_stands S M u0 u1 K2) : wp_X12_stands S M u0 u1 K3 := by
  refine d_C h g (fun _ h g => ?_)
  refine d_and h g (fun h g => ?_)
  refine cj_X12_jugOf (fun _ _ h g => ?_) h g
  refine d_if h g (fun h g => ?_) (fun h g => ?_)
  · skip
    refine d_C h g (fun _ h g => ?_)
    refine d_and h g (fun h g => ?_)
    exact k _ _ h g
  · skip
    refine d_C h g (fun _ h g => ?_)
    refine d_and h g (fun h g => ?_)
    refine cj_X12_jugOf (fun _ _ h g => ?_) h g
    refine d_if h g (fun h g => ?_) (fun h g => ?_)
    · skip
      refine d_C h g (fun _ h g => ?_)
      refine d_and h g (fun h g => ?_)
      exact k _ _ h g
    · skip
      refine d_C h g (fun _ h g => ?_)
      refine d_and h g (fun h g => ?_)
      exact k _ _ h g
theorem cj_X12_isWant {S : Sh} {K1 K2 K3 : Int → Mm → Prop} {M : Mm} {u0 : Int} {u1 : Int} (k : ∀ (a0 : Int) (m : Mm), K1 a0 m → K2 a0 m → K3 a0 m) (h : wp_X12_isWant S M u0 u1 K1) (g : wp_X12_isWant S M u0 u1 K2) : wp_X12_isWant S M u0 u1 K3 := by
  refine d_if h g (fun h g => ?_) (fun h g => ?_)
  · skip
    refine d_C h g (fun _ h g => ?_)
    refine d_and h g (fun h g => ?_)
    exact k _ _ h g
  · skip
    refine d_GetR h g (fun _ h g => ?_)
    refine d_C h g (fun _ h g => ?_)
    refine d_Ld h g (fun _ h g => ?_)
    refine d_if h g (fun h g => ?_) (fun h g => ?_)
    · skip
      refine d_C h g (fun _ h g => ?_)
      refine d_and h g (fun h g => ?_)
      exact k _ _ h g
    · skip
      refine d_C h g (fun _ h g => ?_)
      refine d_and h g (fun h g => ?_)
      exact k _ _ h g
theorem cj_X12_wantOf {S : Sh} {K1 K2 K3 : Int → Mm → Prop} {M : Mm} {u0 : Int} {u1 : Int} {u2 : Int} (k : ∀ (a0 : Int) (m : Mm), K1 a0 m → K2 a0 m → K3 a0 m) (h : wp_X12_wantOf S M u0 u1 u2 K1) (g : wp_X12_wantOf S M u0 u1 u2 K2) : wp_X12_wantOf S M u0 u1 u2 K3 := by
  refine d_GetR h g (fun _ h g => ?_)
  refine d_C h g (fun _ h g => ?_)
  refine d_C h g (fun _ h g => ?_)
  refine d_M h g (fun _ h g => ?_)
  refine d_A h g (fun _ h g => ?_)
  refine d_A h g (fun _ h g => ?_)
  refine d_Ld h g (fun _ h g => ?_)
  exact k _ _ h g
theorem cj_X12_firstFor_78 {S : Sh} {k16_1 k16_2 k16_3 : Int → Int → Int → Mm → Prop} {K1 K2 K3 : Int → Mm → Prop} {M : Mm} {u0 : Int} {u1 : Int} {u2 : Int} (kk16 : ∀ (a0 : Int) (a1 : Int) (a2 : Int) (m : Mm), k16_1 a0 a1 a2 m → k16_2 a0 a1 a2 m → k16_3 a0 a1 a2 m) (k : ∀ (a0 : Int) (m : Mm), K1 a0 m → K2 a0 m → K3 a0 m) (h : wp_X12_firstFor_78 S k16_1 K1 u0 u1 u2 M) (g : wp_X12_firstFor_78 S k16_2 K2 u0 u1 u2 M) : wp_X12_firstFor_78 S k16_3 K3 u0 u1 u2 M := by
  refine d_A h g (fun _ h g => ?_)
  exact kk16 _ _ _ _ h g
theorem cj_X12_firstFor_16 {S : Sh} {K1 K2 K3 : Int → Mm → Prop} (k : ∀ (a0 : Int) (m : Mm), K1 a0 m → K2 a0 m → K3 a0 m) : ∀ (n n9 : Nat) (u0 : Int) (u1 : Int) (u2 : Int) (M : Mm), wp_X12_firstFor_16 S K1 n u0 u1 u2 M → wp_X12_firstFor_16 S K2 n9 u0 u1 u2 M → wp_X12_firstFor_16 S K3 n u0 u1 u2 M := by
  intro n
  induction n with
  | zero => intro n9 u0 u1 u2 M h g; exact h
  | succ n ih =>
    intro n9 u0 u1 u2 M h g
    cases n9 with
    | zero => exact absurd g (fun z => z)
    | succ n9 =>
      refine d_GetR h g (fun _ h g => ?_)
      refine d_C h g (fun _ h g => ?_)
      refine d_Ld h g (fun _ h g => ?_)
      refine d_if h g (fun h g => ?_) (fun h g => ?_)
      · skip
        refine d_C h g (fun _ h g => ?_)
        exact k _ _ h g
      · skip
        refine d_and h g (fun h g => ?_)
        refine cj_X12_stands (fun _ _ h g => ?_) h g
        refine d_if h g (fun h g => ?_) (fun h g => ?_)
        · skip
          refine cj_X12_firstFor_78 (fun _ _ _ _ h g => ?_) k h g
          exact ih _ _ _ _ _ h g
        · skip
          refine d_C h g (fun _ h g => ?_)
          refine d_and h g (fun h g => ?_)
          refine cj_X12_jugOf (fun _ _ h g => ?_) h g
          refine d_C h g (fun _ h g => ?_)
          refine d_and h g (fun h g => ?_)
          refine cj_X12_wantOf (fun _ _ h g => ?_) h g
          refine d_if h g (fun h g => ?_) (fun h g => ?_)
          · skip
            refine cj_X12_firstFor_78 (fun _ _ _ _ h g => ?_) k h g
            exact ih _ _ _ _ _ h g
          · skip
            refine d_C h g (fun _ h g => ?_)
            refine d_and h g (fun h g => ?_)
            refine cj_X12_jugOf (fun _ _ h g => ?_) h g
            refine d_C h g (fun _ h g => ?_)
            refine d_C h g (fun _ h g => ?_)
            refine d_and h g (fun h g => ?_)
            refine cj_X12_wantOf (fun _ _ h g => ?_) h g
            refine d_C h g (fun _ h g => ?_)
            refine d_C h g (fun _ h g => ?_)
            refine d_and h g (fun h g => ?_)
            refine cj_X12_wantOf (fun _ _ h g => ?_) h g
            refine d_C h g (fun _ h g => ?_)
            refine cj_X12_in (fun _ _ h g => ?_) h g
            refine d_if h g (fun h g => ?_) (fun h g => ?_)
            · skip
              refine cj_X12_firstFor_78 (fun _ _ _ _ h g => ?_) k h g
              exact ih _ _ _ _ _ h g
            · skip
              exact k _ _ h g
theorem cj_X12_firstFor {S : Sh} {K1 K2 K3 : Int → Mm → Prop} {M : Mm} {u0 : Int} {u1 : Int} (k : ∀ (a0 : Int) (m : Mm), K1 a0 m → K2 a0 m → K3 a0 m) (h : wp_X12_firstFor S M u0 u1 K1) (g : wp_X12_firstFor S M u0 u1 K2) : wp_X12_firstFor S M u0 u1 K3 := by
  refine d_GetR h g (fun _ h g => ?_)
  refine d_C h g (fun _ h g => ?_)
  refine d_A h g (fun _ h g => ?_)
  refine d_Ld h g (fun _ h g => ?_)
  refine d_if h g (fun h g => ?_) (fun h g => ?_)
  · skip
    refine d_C h g (fun _ h g => ?_)
    obtain ⟨n8, h⟩ := h
    obtain ⟨n9, g⟩ := g
    refine ⟨n8, ?_⟩
    refine cj_X12_firstFor_16 k _ _ _ _ _ _ h g
  · skip
    refine d_C h g (fun _ h g => ?_)
    exact k _ _ h g
theorem cj_X12_isDairy {S : Sh} {K1 K2 K3 : Int → Mm → Prop} {M : Mm} {u0 : Int} (k : ∀ (a0 : Int) (m : Mm), K1 a0 m → K2 a0 m → K3 a0 m) (h : wp_X12_isDairy S M u0 K1) (g : wp_X12_isDairy S M u0 K2) : wp_X12_isDairy S M u0 K3 := by
  refine d_GetR h g (fun _ h g => ?_)
  refine d_C h g (fun _ h g => ?_)
  refine d_Ld h g (fun _ h g => ?_)
  refine d_if h g (fun h g => ?_) (fun h g => ?_)
  · skip
    refine d_C h g (fun _ h g => ?_)
    refine d_and h g (fun h g => ?_)
    exact k _ _ h g
  · skip
    refine d_C h g (fun _ h g => ?_)
    refine d_and h g (fun h g => ?_)
    exact k _ _ h g
theorem cj_X12_keepsAct_52 {S : Sh} {K1 K2 K3 : Mm → Prop} (k : ∀ (m : Mm), K1 m → K2 m → K3 m) : ∀ (n n9 : Nat) (u0 : Int) (u1 : Int) (M : Mm), wp_X12_keepsAct_52 S K1 n u0 u1 M → wp_X12_keepsAct_52 S K2 n9 u0 u1 M → wp_X12_keepsAct_52 S K3 n u0 u1 M := by
  intro n
  induction n with
  | zero => intro n9 u0 u1 M h g; exact h
  | succ n ih =>
    intro n9 u0 u1 M h g
    cases n9 with
    | zero => exact absurd g (fun z => z)
    | succ n9 =>
      refine d_C h g (fun _ h g => ?_)
      refine d_if h g (fun h g => ?_) (fun h g => ?_)
      · skip
        refine d_Get h g (fun _ h g => ?_)
        refine d_C h g (fun _ h g => ?_)
        refine d_A h g (fun _ h g => ?_)
        refine d_Put h g (fun _ h g => ?_)
        exact k _ h g
      · skip
        refine d_GetR h g (fun _ h g => ?_)
        refine d_C h g (fun _ h g => ?_)
        refine d_Get h g (fun _ h g => ?_)
        refine d_M h g (fun _ h g => ?_)
        refine d_A h g (fun _ h g => ?_)
        refine d_GetR h g (fun _ h g => ?_)
        refine d_Ld h g (fun _ h g => ?_)
        refine d_St h g (fun _ h g => ?_)
        refine d_A h g (fun _ h g => ?_)
        exact ih _ _ _ _ h g
theorem cj_X12_keepsAct_50 {S : Sh} {K1 K2 K3 : Mm → Prop} {M : Mm} {u0 : Int} (k : ∀ (m : Mm), K1 m → K2 m → K3 m) (h : wp_X12_keepsAct_50 S K1 u0 M) (g : wp_X12_keepsAct_50 S K2 u0 M) : wp_X12_keepsAct_50 S K3 u0 M := by
  refine d_C h g (fun _ h g => ?_)
  obtain ⟨n8, h⟩ := h
  obtain ⟨n9, g⟩ := g
  refine ⟨n8, ?_⟩
  refine cj_X12_keepsAct_52 k _ _ _ _ _ h g
theorem cj_X12_keepsAct_12 {S : Sh} {K1 K2 K3 : Mm → Prop} (k : ∀ (m : Mm), K1 m → K2 m → K3 m) : ∀ (n n9 : Nat) (u0 : Int) (u1 : Int) (M : Mm), wp_X12_keepsAct_12 S K1 n u0 u1 M → wp_X12_keepsAct_12 S K2 n9 u0 u1 M → wp_X12_keepsAct_12 S K3 n u0 u1 M := by
  intro n
  induction n with
  | zero => intro n9 u0 u1 M h g; exact h
  | succ n ih =>
    intro n9 u0 u1 M h g
    cases n9 with
    | zero => exact absurd g (fun z => z)
    | succ n9 =>
      refine d_C h g (fun _ h g => ?_)
      refine d_if h g (fun h g => ?_) (fun h g => ?_)
      · skip
        refine d_Get h g (fun _ h g => ?_)
        refine d_C h g (fun _ h g => ?_)
        refine d_S h g (fun _ h g => ?_)
        refine d_Put h g (fun _ h g => ?_)
        refine cj_X12_keepsAct_50 k h g
      · skip
        refine d_GetR h g (fun _ h g => ?_)
        refine d_C h g (fun _ h g => ?_)
        refine d_S h g (fun _ h g => ?_)
        refine d_GetR h g (fun _ h g => ?_)
        refine d_Ld h g (fun _ h g => ?_)
        refine d_St h g (fun _ h g => ?_)
        refine d_A h g (fun _ h g => ?_)
        exact ih _ _ _ _ h g
theorem cj_X12_keepsAct {S : Sh} {K1 K2 K3 : Mm → Prop} {M : Mm} {u0 : Int} (k : ∀ (m : Mm), K1 m → K2 m → K3 m) (h : wp_X12_keepsAct S M u0 K1) (g : wp_X12_keepsAct S M u0 K2) : wp_X12_keepsAct S M u0 K3 := by
  refine d_Get h g (fun _ h g => ?_)
  refine d_C h g (fun _ h g => ?_)
  refine d_if h g (fun h g => ?_) (fun h g => ?_)
  · skip
    refine cj_X12_keepsAct_50 k h g
  · skip
    refine d_C h g (fun _ h g => ?_)
    obtain ⟨n8, h⟩ := h
    obtain ⟨n9, g⟩ := g
    refine ⟨n8, ?_⟩
    refine cj_X12_keepsAct_12 k _ _ _ _ _ h g
theorem cj_X12_heatIn_68 {S : Sh} {k4_1 k4_2 k4_3 : Int → Int → Int → Int → Mm → Prop} {K1 K2 K3 : Int → Mm → Prop} {M : Mm} {u0 : Int} {u1 : Int} {u3 : Int} {t0 : Int} {t1 : Int} (kk4 : ∀ (a0 : Int) (a1 : Int) (a2 : Int) (a3 : Int) (m : Mm), k4_1 a0 a1 a2 a3 m → k4_2 a0 a1 a2 a3 m → k4_3 a0 a1 a2 a3 m) (k : ∀ (a0 : Int) (m : Mm), K1 a0 m → K2 a0 m → K3 a0 m) (h : wp_X12_heatIn_68 S k4_1 K1 u0 u1 u3 t0 t1 M) (g : wp_X12_heatIn_68 S k4_2 K2 u0 u1 u3 t0 t1 M) : wp_X12_heatIn_68 S k4_3 K3 u0 u1 u3 t0 t1 M := by
  refine d_A h g (fun _ h g => ?_)
  refine d_A h g (fun _ h g => ?_)
  exact kk4 _ _ _ _ _ h g
theorem cj_X12_heatIn_67 {S : Sh} {k4_1 k4_2 k4_3 : Int → Int → Int → Int → Mm → Prop} {K1 K2 K3 : Int → Mm → Prop} {M : Mm} {u0 : Int} {u1 : Int} {u3 : Int} {t0 : Int} (kk4 : ∀ (a0 : Int) (a1 : Int) (a2 : Int) (a3 : Int) (m : Mm), k4_1 a0 a1 a2 a3 m → k4_2 a0 a1 a2 a3 m → k4_3 a0 a1 a2 a3 m) (k : ∀ (a0 : Int) (m : Mm), K1 a0 m → K2 a0 m → K3 a0 m) (h : wp_X12_heatIn_67 S k4_1 K1 u0 u1 u3 t0 M) (g : wp_X12_heatIn_67 S k4_2 K2 u0 u1 u3 t0 M) : wp_X12_heatIn_67 S k4_3 K3 u0 u1 u3 t0 M := by
  refine d_C h g (fun _ h g => ?_)
  refine cj_X12_heatIn_68 kk4 k h g
theorem cj_X12_heatIn_4 {S : Sh} {K1 K2 K3 : Int → Mm → Prop} (k : ∀ (a0 : Int) (m : Mm), K1 a0 m → K2 a0 m → K3 a0 m) : ∀ (n n9 : Nat) (u0 : Int) (u1 : Int) (u2 : Int) (u3 : Int) (M : Mm), wp_X12_heatIn_4 S K1 n u0 u1 u2 u3 M → wp_X12_heatIn_4 S K2 n9 u0 u1 u2 u3 M → wp_X12_heatIn_4 S K3 n u0 u1 u2 u3 M := by
  intro n
  induction n with
  | zero => intro n9 u0 u1 u2 u3 M h g; exact h
  | succ n ih =>
    intro n9 u0 u1 u2 u3 M h g
    cases n9 with
    | zero => exact absurd g (fun z => z)
    | succ n9 =>
      refine d_GetR h g (fun _ h g => ?_)
      refine d_C h g (fun _ h g => ?_)
      refine d_Ld h g (fun _ h g => ?_)
      refine d_if h g (fun h g => ?_) (fun h g => ?_)
      · skip
        exact k _ _ h g
      · skip
        refine d_Get h g (fun _ h g => ?_)
        refine d_if h g (fun h g => ?_) (fun h g => ?_)
        · skip
          exact k _ _ h g
        · skip
          refine d_C h g (fun _ h g => ?_)
          refine d_C h g (fun _ h g => ?_)
          refine d_M h g (fun _ h g => ?_)
          refine d_A h g (fun _ h g => ?_)
          refine d_GetR h g (fun _ h g => ?_)
          refine d_Ld h g (fun _ h g => ?_)
          refine d_if h g (fun h g => ?_) (fun h g => ?_)
          · skip
            refine cj_X12_heatIn_67 (fun _ _ _ _ _ h g => ?_) k h g
            exact ih _ _ _ _ _ _ h g
          · skip
            refine d_GetR h g (fun _ h g => ?_)
            refine d_C h g (fun _ h g => ?_)
            refine d_A h g (fun _ h g => ?_)
            refine d_Ld h g (fun _ h g => ?_)
            refine d_if h g (fun h g => ?_) (fun h g => ?_)
            · skip
              refine cj_X12_heatIn_67 (fun _ _ _ _ _ h g => ?_) k h g
              exact ih _ _ _ _ _ _ h g
            · skip
              refine d_GetR h g (fun _ h g => ?_)
              refine d_C h g (fun _ h g => ?_)
              refine d_A h g (fun _ h g => ?_)
              refine d_Ld h g (fun _ h g => ?_)
              refine cj_X12_heatIn_68 (fun _ _ _ _ _ h g => ?_) k h g
              exact ih _ _ _ _ _ _ h g
theorem cj_X12_heatIn {S : Sh} {K1 K2 K3 : Int → Mm → Prop} {M : Mm} {u0 : Int} {u1 : Int} (k : ∀ (a0 : Int) (m : Mm), K1 a0 m → K2 a0 m → K3 a0 m) (h : wp_X12_heatIn S M u0 u1 K1) (g : wp_X12_heatIn S M u0 u1 K2) : wp_X12_heatIn S M u0 u1 K3 := by
  refine d_C h g (fun _ h g => ?_)
  refine d_C h g (fun _ h g => ?_)
  obtain ⟨n8, h⟩ := h
  obtain ⟨n9, g⟩ := g
  refine ⟨n8, ?_⟩
  refine cj_X12_heatIn_4 k _ _ _ _ _ _ _ h g
theorem cj_X12_bits_4 {S : Sh} {K1 K2 K3 : Int → Mm → Prop} (k : ∀ (a0 : Int) (m : Mm), K1 a0 m → K2 a0 m → K3 a0 m) : ∀ (n n9 : Nat) (u1 : Int) (u2 : Int) (M : Mm), wp_X12_bits_4 S K1 n u1 u2 M → wp_X12_bits_4 S K2 n9 u1 u2 M → wp_X12_bits_4 S K3 n u1 u2 M := by
  intro n
  induction n with
  | zero => intro n9 u1 u2 M h g; exact h
  | succ n ih =>
    intro n9 u1 u2 M h g
    cases n9 with
    | zero => exact absurd g (fun z => z)
    | succ n9 =>
      refine d_if h g (fun h g => ?_) (fun h g => ?_)
      · skip
        exact k _ _ h g
      · skip
        refine d_A h g (fun _ h g => ?_)
        refine d_C h g (fun _ h g => ?_)
        refine d_S h g (fun _ h g => ?_)
        refine d_O h g (fun _ h g => ?_)
        exact ih _ _ _ _ h g
theorem cj_X12_bits {S : Sh} {K1 K2 K3 : Int → Mm → Prop} {M : Mm} {u0 : Int} (k : ∀ (a0 : Int) (m : Mm), K1 a0 m → K2 a0 m → K3 a0 m) (h : wp_X12_bits S M u0 K1) (g : wp_X12_bits S M u0 K2) : wp_X12_bits S M u0 K3 := by
  refine d_C h g (fun _ h g => ?_)
  obtain ⟨n8, h⟩ := h
  obtain ⟨n9, g⟩ := g
  refine ⟨n8, ?_⟩
  refine cj_X12_bits_4 k _ _ _ _ _ h g
theorem cj_X12_push {S : Sh} {K1 K2 K3 : Mm → Prop} {M : Mm} {u0 : Int} {u1 : Int} (k : ∀ (m : Mm), K1 m → K2 m → K3 m) (h : wp_X12_push S M u0 u1 K1) (g : wp_X12_push S M u0 u1 K2) : wp_X12_push S M u0 u1 K3 := by
  refine d_GetR h g (fun _ h g => ?_)
  refine d_Get h g (fun _ h g => ?_)
  refine d_St h g (fun _ h g => ?_)
  refine d_Get h g (fun _ h g => ?_)
  refine d_C h g (fun _ h g => ?_)
  refine d_A h g (fun _ h g => ?_)
  refine d_Put h g (fun _ h g => ?_)
  exact k _ h g
theorem cj_X12_pop {S : Sh} {K1 K2 K3 : Int → Mm → Prop} {M : Mm} {u0 : Int} (k : ∀ (a0 : Int) (m : Mm), K1 a0 m → K2 a0 m → K3 a0 m) (h : wp_X12_pop S M u0 K1) (g : wp_X12_pop S M u0 K2) : wp_X12_pop S M u0 K3 := by
  refine d_Get h g (fun _ h g => ?_)
  refine d_C h g (fun _ h g => ?_)
  refine d_S h g (fun _ h g => ?_)
  refine d_Put h g (fun _ h g => ?_)
  refine d_GetR h g (fun _ h g => ?_)
  refine d_Get h g (fun _ h g => ?_)
  refine d_Ld h g (fun _ h g => ?_)
  exact k _ _ h g
theorem cj_X12_one {S : Sh} {K1 K2 K3 : Int → Mm → Prop} {M : Mm} {u0 : Int} {u1 : Int} {u3 : Int} (k : ∀ (a0 : Int) (m : Mm), K1 a0 m → K2 a0 m → K3 a0 m) (h : wp_X12_one S M u0 u1 u3 K1) (g : wp_X12_one S M u0 u1 u3 K2) : wp_X12_one S M u0 u1 u3 K3 := by
  refine d_if h g (fun h g => ?_) (fun h g => ?_)
  · skip
    refine d_LA h g (fun _ h g => ?_)
    exact k _ _ h g
  · skip
    refine d_if h g (fun h g => ?_) (fun h g => ?_)
    · skip
      refine d_LS h g (fun _ h g => ?_)
      exact k _ _ h g
    · skip
      refine d_if h g (fun h g => ?_) (fun h g => ?_)
      · skip
        refine d_LM h g (fun _ h g => ?_)
        exact k _ _ h g
      · skip
        refine d_if h g (fun h g => ?_) (fun h g => ?_)
        · skip
          refine d_C h g (fun _ h g => ?_)
          refine d_Cmp h g (fun _ h g => ?_)
          refine d_if h g (fun h g => ?_) (fun h g => ?_)
          · skip
            refine d_D h g (fun _ h g => ?_)
            exact k _ _ h g
          · skip
            refine d_C h g (fun _ h g => ?_)
            exact k _ _ h g
        · skip
          refine d_if h g (fun h g => ?_) (fun h g => ?_)
          · skip
            refine d_Cmp h g (fun _ h g => ?_)
            refine d_if h g (fun h g => ?_) (fun h g => ?_)
            · skip
              refine d_C h g (fun _ h g => ?_)
              exact k _ _ h g
            · skip
              refine d_C h g (fun _ h g => ?_)
              exact k _ _ h g
          · skip
            refine d_if h g (fun h g => ?_) (fun h g => ?_)
            · skip
              refine d_Cmp h g (fun _ h g => ?_)
              refine d_if h g (fun h g => ?_) (fun h g => ?_)
              · skip
                refine d_C h g (fun _ h g => ?_)
                exact k _ _ h g
              · skip
                refine d_C h g (fun _ h g => ?_)
                exact k _ _ h g
            · skip
              refine d_if h g (fun h g => ?_) (fun h g => ?_)
              · skip
                refine d_Cmp h g (fun _ h g => ?_)
                refine d_if h g (fun h g => ?_) (fun h g => ?_)
                · skip
                  refine d_C h g (fun _ h g => ?_)
                  exact k _ _ h g
                · skip
                  refine d_C h g (fun _ h g => ?_)
                  exact k _ _ h g
              · skip
                refine d_if h g (fun h g => ?_) (fun h g => ?_)
                · skip
                  refine d_Cmp h g (fun _ h g => ?_)
                  refine d_if h g (fun h g => ?_) (fun h g => ?_)
                  · skip
                    refine d_C h g (fun _ h g => ?_)
                    exact k _ _ h g
                  · skip
                    refine d_C h g (fun _ h g => ?_)
                    exact k _ _ h g
                · skip
                  refine d_if h g (fun h g => ?_) (fun h g => ?_)
                  · skip
                    refine d_Cmp h g (fun _ h g => ?_)
                    refine d_if h g (fun h g => ?_) (fun h g => ?_)
                    · skip
                      refine d_C h g (fun _ h g => ?_)
                      exact k _ _ h g
                    · skip
                      refine d_C h g (fun _ h g => ?_)
                      exact k _ _ h g
                  · skip
                    refine d_if h g (fun h g => ?_) (fun h g => ?_)
                    · skip
                      refine d_O h g (fun _ h g => ?_)
                      exact k _ _ h g
                    · skip
                      refine d_if h g (fun h g => ?_) (fun h g => ?_)
                      · skip
                        refine d_O h g (fun _ h g => ?_)
                        exact k _ _ h g
                      · skip
                        refine d_if h g (fun h g => ?_) (fun h g => ?_)
                        · skip
                          refine d_O h g (fun _ h g => ?_)
                          exact k _ _ h g
                        · skip
                          refine d_if h g (fun h g => ?_) (fun h g => ?_)
                          · skip
                            refine d_C h g (fun _ h g => ?_)
                            refine d_Cmp h g (fun _ h g => ?_)
                            refine d_if h g (fun h g => ?_) (fun h g => ?_)
                            · skip
                              refine d_D h g (fun _ h g => ?_)
                              exact k _ _ h g
                            · skip
                              refine d_C h g (fun _ h g => ?_)
                              exact k _ _ h g
                          · skip
                            refine d_O h g (fun _ h g => ?_)
                            exact k _ _ h g
theorem cj_X12_reckons_129 {S : Sh} {k8_1 k8_2 k8_3 : Int → Int → Int → Int → Mm → Prop} {K1 K2 K3 : Int → Mm → Prop} {M : Mm} {u0 : Int} {u1 : Int} {u3 : Int} {u4 : Int} (kk8 : ∀ (a0 : Int) (a1 : Int) (a2 : Int) (a3 : Int) (m : Mm), k8_1 a0 a1 a2 a3 m → k8_2 a0 a1 a2 a3 m → k8_3 a0 a1 a2 a3 m) (k : ∀ (a0 : Int) (m : Mm), K1 a0 m → K2 a0 m → K3 a0 m) (h : wp_X12_reckons_129 S k8_1 K1 u0 u1 u3 u4 M) (g : wp_X12_reckons_129 S k8_2 K2 u0 u1 u3 u4 M) : wp_X12_reckons_129 S k8_3 K3 u0 u1 u3 u4 M := by
  refine d_A h g (fun _ h g => ?_)
  exact kk8 _ _ _ _ _ h g
theorem cj_X12_reckons_8 {S : Sh} {K1 K2 K3 : Int → Mm → Prop} (k : ∀ (a0 : Int) (m : Mm), K1 a0 m → K2 a0 m → K3 a0 m) : ∀ (n n9 : Nat) (u0 : Int) (u1 : Int) (u3 : Int) (u4 : Int) (M : Mm), wp_X12_reckons_8 S K1 n u0 u1 u3 u4 M → wp_X12_reckons_8 S K2 n9 u0 u1 u3 u4 M → wp_X12_reckons_8 S K3 n u0 u1 u3 u4 M := by
  intro n
  induction n with
  | zero => intro n9 u0 u1 u3 u4 M h g; exact h
  | succ n ih =>
    intro n9 u0 u1 u3 u4 M h g
    cases n9 with
    | zero => exact absurd g (fun z => z)
    | succ n9 =>
      refine d_if h g (fun h g => ?_) (fun h g => ?_)
      · skip
        refine d_and h g (fun h g => ?_)
        refine cj_X12_pop (fun _ _ h g => ?_) h g
        exact k _ _ h g
      · skip
        refine d_GetR h g (fun _ h g => ?_)
        refine d_C h g (fun _ h g => ?_)
        refine d_M h g (fun _ h g => ?_)
        refine d_A h g (fun _ h g => ?_)
        refine d_Ld h g (fun _ h g => ?_)
        refine d_C h g (fun _ h g => ?_)
        refine d_O h g (fun _ h g => ?_)
        refine d_GetR h g (fun _ h g => ?_)
        refine d_C h g (fun _ h g => ?_)
        refine d_M h g (fun _ h g => ?_)
        refine d_A h g (fun _ h g => ?_)
        refine d_Ld h g (fun _ h g => ?_)
        refine d_C h g (fun _ h g => ?_)
        refine d_O h g (fun _ h g => ?_)
        refine d_if h g (fun h g => ?_) (fun h g => ?_)
        · skip
          refine d_C h g (fun _ h g => ?_)
          refine d_if h g (fun h g => ?_) (fun h g => ?_)
          · skip
            refine d_C h g (fun _ h g => ?_)
            refine d_if h g (fun h g => ?_) (fun h g => ?_)
            · skip
              refine d_and h g (fun h g => ?_)
              refine cj_X12_pop (fun _ _ h g => ?_) h g
              refine d_and h g (fun h g => ?_)
              refine cj_X12_pop (fun _ _ h g => ?_) h g
              refine cj_X12_one (fun _ _ h g => ?_) h g
              refine d_and h g (fun h g => ?_)
              refine cj_X12_push (fun _ h g => ?_) h g
              refine cj_X12_reckons_129 (fun _ _ _ _ _ h g => ?_) k h g
              exact ih _ _ _ _ _ _ h g
            · skip
              refine d_C h g (fun _ h g => ?_)
              refine d_and h g (fun h g => ?_)
              refine cj_X12_pop (fun _ _ h g => ?_) h g
              refine d_LS h g (fun _ h g => ?_)
              refine d_and h g (fun h g => ?_)
              refine cj_X12_push (fun _ h g => ?_) h g
              refine cj_X12_reckons_129 (fun _ _ _ _ _ h g => ?_) k h g
              exact ih _ _ _ _ _ _ h g
          · skip
            refine d_GetR h g (fun _ h g => ?_)
            refine d_Ld h g (fun _ h g => ?_)
            refine d_and h g (fun h g => ?_)
            refine cj_X12_push (fun _ h g => ?_) h g
            refine cj_X12_reckons_129 (fun _ _ _ _ _ h g => ?_) k h g
            exact ih _ _ _ _ _ _ h g
        · skip
          refine d_C h g (fun _ h g => ?_)
          refine d_and h g (fun h g => ?_)
          refine cj_X12_push (fun _ h g => ?_) h g
          refine cj_X12_reckons_129 (fun _ _ _ _ _ h g => ?_) k h g
          exact ih _ _ _ _ _ _ h g
theorem cj_X12_reckons {S : Sh} {K1 K2 K3 : Int → Mm → Prop} {M : Mm} {u0 : Int} {u1 : Int} {u2 : Int} {u3 : Int} (k : ∀ (a0 : Int) (m : Mm), K1 a0 m → K2 a0 m → K3 a0 m) (h : wp_X12_reckons S M u0 u1 u2 u3 K1) (g : wp_X12_reckons S M u0 u1 u2 u3 K2) : wp_X12_reckons S M u0 u1 u2 u3 K3 := by
  refine d_C h g (fun _ h g => ?_)
  refine d_Put h g (fun _ h g => ?_)
  obtain ⟨n8, h⟩ := h
  obtain ⟨n9, g⟩ := g
  refine ⟨n8, ?_⟩
  refine cj_X12_reckons_8 k _ _ _ _ _ _ _ h g
theorem cj_X12_summedBy_58 {S : Sh} {K1 K2 K3 : Int → Mm → Prop} {M : Mm} {u0 : Int} {u1 : Int} {u3 : Int} (k : ∀ (a0 : Int) (m : Mm), K1 a0 m → K2 a0 m → K3 a0 m) (h : wp_X12_summedBy_58 S K1 u0 u1 u3 M) (g : wp_X12_summedBy_58 S K2 u0 u1 u3 M) : wp_X12_summedBy_58 S K3 u0 u1 u3 M := by
  refine d_GetR h g (fun _ h g => ?_)
  refine d_Ld h g (fun _ h g => ?_)
  refine d_GetR h g (fun _ h g => ?_)
  refine d_C h g (fun _ h g => ?_)
  refine d_A h g (fun _ h g => ?_)
  refine d_Ld h g (fun _ h g => ?_)
  refine d_and h g (fun h g => ?_)
  refine cj_X12_reckons (fun _ _ h g => ?_) h g
  exact k _ _ h g
theorem cj_X12_summedBy_2 {S : Sh} {K1 K2 K3 : Int → Mm → Prop} (k : ∀ (a0 : Int) (m : Mm), K1 a0 m → K2 a0 m → K3 a0 m) : ∀ (n n9 : Nat) (u0 : Int) (u1 : Int) (u2 : Int) (M : Mm), wp_X12_summedBy_2 S K1 n u0 u1 u2 M → wp_X12_summedBy_2 S K2 n9 u0 u1 u2 M → wp_X12_summedBy_2 S K3 n u0 u1 u2 M := by
  intro n
  induction n with
  | zero => intro n9 u0 u1 u2 M h g; exact h
  | succ n ih =>
    intro n9 u0 u1 u2 M h g
    cases n9 with
    | zero => exact absurd g (fun z => z)
    | succ n9 =>
      refine d_GetR h g (fun _ h g => ?_)
      refine d_Ld h g (fun _ h g => ?_)
      refine d_if h g (fun h g => ?_) (fun h g => ?_)
      · skip
        refine d_C h g (fun _ h g => ?_)
        exact k _ _ h g
      · skip
        refine d_C h g (fun _ h g => ?_)
        refine d_M h g (fun _ h g => ?_)
        refine d_C h g (fun _ h g => ?_)
        refine d_M h g (fun _ h g => ?_)
        refine d_A h g (fun _ h g => ?_)
        refine d_GetR h g (fun _ h g => ?_)
        refine d_C h g (fun _ h g => ?_)
        refine d_A h g (fun _ h g => ?_)
        refine d_Ld h g (fun _ h g => ?_)
        refine d_if h g (fun h g => ?_) (fun h g => ?_)
        · skip
          refine cj_X12_summedBy_58 k h g
        · skip
          refine d_GetR h g (fun _ h g => ?_)
          refine d_C h g (fun _ h g => ?_)
          refine d_A h g (fun _ h g => ?_)
          refine d_Ld h g (fun _ h g => ?_)
          refine d_GetR h g (fun _ h g => ?_)
          refine d_C h g (fun _ h g => ?_)
          refine d_A h g (fun _ h g => ?_)
          refine d_Ld h g (fun _ h g => ?_)
          refine d_and h g (fun h g => ?_)
          refine cj_X12_reckons (fun _ _ h g => ?_) h g
          refine d_C h g (fun _ h g => ?_)
          refine d_Cmp h g (fun _ h g => ?_)
          refine d_if h g (fun h g => ?_) (fun h g => ?_)
          · skip
            refine d_A h g (fun _ h g => ?_)
            exact ih _ _ _ _ _ h g
          · skip
            refine cj_X12_summedBy_58 k h g
theorem cj_X12_summedBy {S : Sh} {K1 K2 K3 : Int → Mm → Prop} {M : Mm} {u0 : Int} {u1 : Int} (k : ∀ (a0 : Int) (m : Mm), K1 a0 m → K2 a0 m → K3 a0 m) (h : wp_X12_summedBy S M u0 u1 K1) (g : wp_X12_summedBy S M u0 u1 K2) : wp_X12_summedBy S M u0 u1 K3 := by
  refine d_C h g (fun _ h g => ?_)
  obtain ⟨n8, h⟩ := h
  obtain ⟨n9, g⟩ := g
  refine ⟨n8, ?_⟩
  refine cj_X12_summedBy_2 k _ _ _ _ _ _ h g
theorem cj_X12_turnsIn_136 {S : Sh} {K1 K2 K3 : Int → Mm → Prop} {M : Mm} {u0 : Int} {t0 : Int} {t1 : Int} {t2 : Int} (k : ∀ (a0 : Int) (m : Mm), K1 a0 m → K2 a0 m → K3 a0 m) (h : wp_X12_turnsIn_136 S K1 u0 t0 t1 t2 M) (g : wp_X12_turnsIn_136 S K2 u0 t0 t1 t2 M) : wp_X12_turnsIn_136 S K3 u0 t0 t1 t2 M := by
  refine d_St h g (fun _ h g => ?_)
  refine d_Get h g (fun _ h g => ?_)
  refine d_and h g (fun h g => ?_)
  refine cj_X12_summedBy (fun _ _ h g => ?_) h g
  refine d_C h g (fun _ h g => ?_)
  refine d_Cmp h g (fun _ h g => ?_)
  refine d_if h g (fun h g => ?_) (fun h g => ?_)
  · skip
    refine d_C h g (fun _ h g => ?_)
    refine d_Cmp h g (fun _ h g => ?_)
    refine d_if h g (fun h g => ?_) (fun h g => ?_)
    · skip
      refine d_O1 h g (fun _ h g => ?_)
      exact k _ _ h g
    · skip
      refine d_C h g (fun _ h g => ?_)
      exact k _ _ h g
  · skip
    refine d_C h g (fun _ h g => ?_)
    exact k _ _ h g
theorem cj_X12_turnsIn {S : Sh} {K1 K2 K3 : Int → Mm → Prop} {M : Mm} {u0 : Int} {u1 : Int} {u2 : Int} {u3 : Int} {u4 : Int} {u5 : Int} {u6 : Int} {u7 : Int} (k : ∀ (a0 : Int) (m : Mm), K1 a0 m → K2 a0 m → K3 a0 m) (h : wp_X12_turnsIn S M u0 u1 u2 u3 u4 u5 u6 u7 K1) (g : wp_X12_turnsIn S M u0 u1 u2 u3 u4 u5 u6 u7 K2) : wp_X12_turnsIn S M u0 u1 u2 u3 u4 u5 u6 u7 K3 := by
  refine d_and h g (fun h g => ?_)
  refine cj_X12_heatIn (fun _ _ h g => ?_) h g
  refine d_Get h g (fun _ h g => ?_)
  refine d_if h g (fun h g => ?_) (fun h g => ?_)
  · skip
    refine d_GetR h g (fun _ h g => ?_)
    refine d_C h g (fun _ h g => ?_)
    refine d_C h g (fun _ h g => ?_)
    refine d_St h g (fun _ h g => ?_)
    refine d_GetR h g (fun _ h g => ?_)
    refine d_C h g (fun _ h g => ?_)
    refine d_C h g (fun _ h g => ?_)
    refine d_and h g (fun h g => ?_)
    refine cj_X12_handOf (fun _ _ h g => ?_) h g
    refine d_C h g (fun _ h g => ?_)
    refine d_St h g (fun _ h g => ?_)
    refine d_GetR h g (fun _ h g => ?_)
    refine d_C h g (fun _ h g => ?_)
    refine d_C h g (fun _ h g => ?_)
    refine d_St h g (fun _ h g => ?_)
    refine d_GetR h g (fun _ h g => ?_)
    refine d_C h g (fun _ h g => ?_)
    refine d_C h g (fun _ h g => ?_)
    refine d_St h g (fun _ h g => ?_)
    refine d_GetR h g (fun _ h g => ?_)
    refine d_C h g (fun _ h g => ?_)
    refine d_C h g (fun _ h g => ?_)
    refine d_St h g (fun _ h g => ?_)
    refine d_GetR h g (fun _ h g => ?_)
    refine d_C h g (fun _ h g => ?_)
    refine d_C h g (fun _ h g => ?_)
    refine d_St h g (fun _ h g => ?_)
    refine d_GetR h g (fun _ h g => ?_)
    refine d_C h g (fun _ h g => ?_)
    refine d_C h g (fun _ h g => ?_)
    refine d_St h g (fun _ h g => ?_)
    refine d_GetR h g (fun _ h g => ?_)
    refine d_C h g (fun _ h g => ?_)
    refine d_C h g (fun _ h g => ?_)
    refine d_St h g (fun _ h g => ?_)
    refine d_GetR h g (fun _ h g => ?_)
    refine d_C h g (fun _ h g => ?_)
    refine d_C h g (fun _ h g => ?_)
    refine d_St h g (fun _ h g => ?_)
    refine d_GetR h g (fun _ h g => ?_)
    refine d_C h g (fun _ h g => ?_)
    refine d_GetR h g (fun _ h g => ?_)
    refine d_C h g (fun _ h g => ?_)
    refine d_Ld h g (fun _ h g => ?_)
    refine d_if h g (fun h g => ?_) (fun h g => ?_)
    · skip
      refine d_C h g (fun _ h g => ?_)
      refine cj_X12_turnsIn_136 k h g
    · skip
      refine d_C h g (fun _ h g => ?_)
      refine cj_X12_turnsIn_136 k h g
  · skip
    refine d_C h g (fun _ h g => ?_)
    refine d_and h g (fun h g => ?_)
    refine cj_X12_handOf (fun _ _ h g => ?_) h g
    refine d_C h g (fun _ h g => ?_)
    refine d_D h g (fun _ h g => ?_)
    refine d_A h g (fun _ h g => ?_)
    refine d_A h g (fun _ h g => ?_)
    exact k _ _ h g
theorem cj_X12_atMost {S : Sh} {K1 K2 K3 : Int → Mm → Prop} {M : Mm} {u0 : Int} {u1 : Int} (k : ∀ (a0 : Int) (m : Mm), K1 a0 m → K2 a0 m → K3 a0 m) (h : wp_X12_atMost S M u0 u1 K1) (g : wp_X12_atMost S M u0 u1 K2) : wp_X12_atMost S M u0 u1 K3 := by
  refine d_if h g (fun h g => ?_) (fun h g => ?_)
  · skip
    exact k _ _ h g
  · skip
    exact k _ _ h g
theorem cj_X12_turns_90 {S : Sh} {K1 K2 K3 : Mm → Prop} {M : Mm} {u0 : Int} {u2 : Int} {t0 : Int} (k : ∀ (m : Mm), K1 m → K2 m → K3 m) (h : wp_X12_turns_90 S K1 u0 u2 t0 M) (g : wp_X12_turns_90 S K2 u0 u2 t0 M) : wp_X12_turns_90 S K3 u0 u2 t0 M := by
  refine d_GetR h g (fun _ h g => ?_)
  refine d_C h g (fun _ h g => ?_)
  refine d_A h g (fun _ h g => ?_)
  refine d_GetR h g (fun _ h g => ?_)
  refine d_C h g (fun _ h g => ?_)
  refine d_A h g (fun _ h g => ?_)
  refine d_Ld h g (fun _ h g => ?_)
  refine d_A h g (fun _ h g => ?_)
  refine d_C h g (fun _ h g => ?_)
  refine cj_X12_atMost (fun _ _ h g => ?_) h g
  refine d_St h g (fun _ h g => ?_)
  exact k _ h g
theorem cj_X12_turns_79 {S : Sh} {K1 K2 K3 : Mm → Prop} {M : Mm} {u0 : Int} {u2 : Int} {u3 : Int} {t0 : Int} {t1 : Int} {t2 : Int} {t3 : Int} {t4 : Int} {t5 : Int} {t6 : Int} (k : ∀ (m : Mm), K1 m → K2 m → K3 m) (h : wp_X12_turns_79 S K1 u0 u2 u3 t0 t1 t2 t3 t4 t5 t6 M) (g : wp_X12_turns_79 S K2 u0 u2 u3 t0 t1 t2 t3 t4 t5 t6 M) : wp_X12_turns_79 S K3 u0 u2 u3 t0 t1 t2 t3 t4 t5 t6 M := by
  refine d_and h g (fun h g => ?_)
  refine cj_X12_held (fun _ _ h g => ?_) h g
  refine cj_X12_bits (fun _ _ h g => ?_) h g
  refine d_and h g (fun h g => ?_)
  refine cj_X12_turnsIn (fun _ _ h g => ?_) h g
  refine cj_X12_turns_90 k h g
theorem cj_X12_turns {S : Sh} {K1 K2 K3 : Mm → Prop} {M : Mm} {u0 : Int} {u1 : Int} (k : ∀ (m : Mm), K1 m → K2 m → K3 m) (h : wp_X12_turns S M u0 u1 K1) (g : wp_X12_turns S M u0 u1 K2) : wp_X12_turns S M u0 u1 K3 := by
  refine d_C h g (fun _ h g => ?_)
  refine d_C h g (fun _ h g => ?_)
  refine d_M h g (fun _ h g => ?_)
  refine d_A h g (fun _ h g => ?_)
  refine d_GetR h g (fun _ h g => ?_)
  refine d_C h g (fun _ h g => ?_)
  refine d_A h g (fun _ h g => ?_)
  refine d_Ld h g (fun _ h g => ?_)
  refine d_if h g (fun h g => ?_) (fun h g => ?_)
  · skip
    refine d_C h g (fun _ h g => ?_)
    refine d_and h g (fun h g => ?_)
    refine cj_X12_handOf (fun _ _ h g => ?_) h g
    refine d_GetR h g (fun _ h g => ?_)
    refine d_C h g (fun _ h g => ?_)
    refine d_A h g (fun _ h g => ?_)
    refine d_Ld h g (fun _ h g => ?_)
    refine d_GetR h g (fun _ h g => ?_)
    refine d_C h g (fun _ h g => ?_)
    refine d_Ld h g (fun _ h g => ?_)
    refine d_C h g (fun _ h g => ?_)
    refine d_and h g (fun h g => ?_)
    refine cj_X12_handOf (fun _ _ h g => ?_) h g
    refine d_if h g (fun h g => ?_) (fun h g => ?_)
    · skip
      refine d_C h g (fun _ h g => ?_)
      refine cj_X12_turns_79 k h g
    · skip
      refine d_C h g (fun _ h g => ?_)
      refine cj_X12_turns_79 k h g
  · skip
    refine d_GetR h g (fun _ h g => ?_)
    refine d_C h g (fun _ h g => ?_)
    refine d_Ld h g (fun _ h g => ?_)
    refine d_GetR h g (fun _ h g => ?_)
    refine d_C h g (fun _ h g => ?_)
    refine d_Ld h g (fun _ h g => ?_)
    refine d_and h g (fun h g => ?_)
    refine cj_X12_heatIn (fun _ _ h g => ?_) h g
    refine d_A h g (fun _ h g => ?_)
    refine cj_X12_turns_90 k h g
theorem cj_X12_moreTired {S : Sh} {K1 K2 K3 : Int → Mm → Prop} {M : Mm} {u0 : Int} {u1 : Int} {u2 : Int} (k : ∀ (a0 : Int) (m : Mm), K1 a0 m → K2 a0 m → K3 a0 m) (h : wp_X12_moreTired S M u0 u1 u2 K1) (g : wp_X12_moreTired S M u0 u1 u2 K2) : wp_X12_moreTired S M u0 u1 u2 K3 := by
  refine d_C h g (fun _ h g => ?_)
  refine d_and h g (fun h g => ?_)
  refine cj_X12_handOf (fun _ _ h g => ?_) h g
  refine d_A h g (fun _ h g => ?_)
  refine d_C h g (fun _ h g => ?_)
  refine cj_X12_atMost (fun _ _ h g => ?_) h g
  exact k _ _ h g
theorem cj_X12_passes_183 {S : Sh} {k80_1 k80_2 k80_3 : Int → Int → Int → Mm → Prop} {K1 K2 K3 : Int → Mm → Prop} {M : Mm} {u0 : Int} {u1 : Int} {u2 : Int} {t0 : Int} {t1 : Int} {t2 : Int} {t3 : Int} (kk80 : ∀ (a0 : Int) (a1 : Int) (a2 : Int) (m : Mm), k80_1 a0 a1 a2 m → k80_2 a0 a1 a2 m → k80_3 a0 a1 a2 m) (k : ∀ (a0 : Int) (m : Mm), K1 a0 m → K2 a0 m → K3 a0 m) (h : wp_X12_passes_183 S k80_1 K1 u0 u1 u2 t0 t1 t2 t3 M) (g : wp_X12_passes_183 S k80_2 K2 u0 u1 u2 t0 t1 t2 t3 M) : wp_X12_passes_183 S k80_3 K3 u0 u1 u2 t0 t1 t2 t3 M := by
  refine d_S h g (fun _ h g => ?_)
  refine d_St h g (fun _ h g => ?_)
  refine d_A h g (fun _ h g => ?_)
  exact kk80 _ _ _ _ h g
theorem cj_X12_passes_157 {S : Sh} {k80_1 k80_2 k80_3 : Int → Int → Int → Mm → Prop} {K1 K2 K3 : Int → Mm → Prop} {M : Mm} {u0 : Int} {u1 : Int} {u2 : Int} {u3 : Int} {t0 : Int} {t1 : Int} {t2 : Int} (kk80 : ∀ (a0 : Int) (a1 : Int) (a2 : Int) (m : Mm), k80_1 a0 a1 a2 m → k80_2 a0 a1 a2 m → k80_3 a0 a1 a2 m) (k : ∀ (a0 : Int) (m : Mm), K1 a0 m → K2 a0 m → K3 a0 m) (h : wp_X12_passes_157 S k80_1 K1 u0 u1 u2 u3 t0 t1 t2 M) (g : wp_X12_passes_157 S k80_2 K2 u0 u1 u2 u3 t0 t1 t2 M) : wp_X12_passes_157 S k80_3 K3 u0 u1 u2 u3 t0 t1 t2 M := by
  refine d_St h g (fun _ h g => ?_)
  refine d_GetR h g (fun _ h g => ?_)
  refine d_C h g (fun _ h g => ?_)
  refine d_A h g (fun _ h g => ?_)
  refine d_Ld h g (fun _ h g => ?_)
  refine d_GetR h g (fun _ h g => ?_)
  refine d_C h g (fun _ h g => ?_)
  refine d_A h g (fun _ h g => ?_)
  refine d_Ld h g (fun _ h g => ?_)
  refine d_if h g (fun h g => ?_) (fun h g => ?_)
  · skip
    refine d_C h g (fun _ h g => ?_)
    refine cj_X12_passes_183 kk80 k h g
  · skip
    refine d_C h g (fun _ h g => ?_)
    refine cj_X12_passes_183 kk80 k h g
theorem cj_X12_passes_122 {S : Sh} {k80_1 k80_2 k80_3 : Int → Int → Int → Mm → Prop} {K1 K2 K3 : Int → Mm → Prop} {M : Mm} {u0 : Int} {u1 : Int} {u2 : Int} {u3 : Int} {t0 : Int} (kk80 : ∀ (a0 : Int) (a1 : Int) (a2 : Int) (m : Mm), k80_1 a0 a1 a2 m → k80_2 a0 a1 a2 m → k80_3 a0 a1 a2 m) (k : ∀ (a0 : Int) (m : Mm), K1 a0 m → K2 a0 m → K3 a0 m) (h : wp_X12_passes_122 S k80_1 K1 u0 u1 u2 u3 t0 M) (g : wp_X12_passes_122 S k80_2 K2 u0 u1 u2 u3 t0 M) : wp_X12_passes_122 S k80_3 K3 u0 u1 u2 u3 t0 M := by
  refine d_GetR h g (fun _ h g => ?_)
  refine d_C h g (fun _ h g => ?_)
  refine d_A h g (fun _ h g => ?_)
  refine d_and h g (fun h g => ?_)
  refine cj_X12_held (fun _ _ h g => ?_) h g
  refine d_if h g (fun h g => ?_) (fun h g => ?_)
  · skip
    refine cj_X12_passes_157 kk80 k h g
  · skip
    refine d_GetR h g (fun _ h g => ?_)
    refine d_C h g (fun _ h g => ?_)
    refine d_A h g (fun _ h g => ?_)
    refine d_Ld h g (fun _ h g => ?_)
    refine d_and h g (fun h g => ?_)
    refine cj_X12_moreTired (fun _ _ h g => ?_) h g
    refine cj_X12_passes_157 kk80 k h g
theorem cj_X12_passes_80 {S : Sh} {K1 K2 K3 : Int → Mm → Prop} (k : ∀ (a0 : Int) (m : Mm), K1 a0 m → K2 a0 m → K3 a0 m) : ∀ (n n9 : Nat) (u0 : Int) (u1 : Int) (u2 : Int) (M : Mm), wp_X12_passes_80 S K1 n u0 u1 u2 M → wp_X12_passes_80 S K2 n9 u0 u1 u2 M → wp_X12_passes_80 S K3 n u0 u1 u2 M := by
  intro n
  induction n with
  | zero => intro n9 u0 u1 u2 M h g; exact h
  | succ n ih =>
    intro n9 u0 u1 u2 M h g
    cases n9 with
    | zero => exact absurd g (fun z => z)
    | succ n9 =>
      refine d_GetR h g (fun _ h g => ?_)
      refine d_C h g (fun _ h g => ?_)
      refine d_Ld h g (fun _ h g => ?_)
      refine d_if h g (fun h g => ?_) (fun h g => ?_)
      · skip
        refine d_GetR h g (fun _ h g => ?_)
        refine d_C h g (fun _ h g => ?_)
        refine d_Ld h g (fun _ h g => ?_)
        refine d_C h g (fun _ h g => ?_)
        refine d_A h g (fun _ h g => ?_)
        refine d_St h g (fun _ h g => ?_)
        exact k _ _ h g
      · skip
        refine d_C h g (fun _ h g => ?_)
        refine d_C h g (fun _ h g => ?_)
        refine d_M h g (fun _ h g => ?_)
        refine d_A h g (fun _ h g => ?_)
        refine d_GetR h g (fun _ h g => ?_)
        refine d_C h g (fun _ h g => ?_)
        refine d_A h g (fun _ h g => ?_)
        refine d_Ld h g (fun _ h g => ?_)
        refine d_if h g (fun h g => ?_) (fun h g => ?_)
        · skip
          refine d_GetR h g (fun _ h g => ?_)
          refine d_C h g (fun _ h g => ?_)
          refine d_A h g (fun _ h g => ?_)
          refine d_Ld h g (fun _ h g => ?_)
          refine d_C h g (fun _ h g => ?_)
          refine d_S h g (fun _ h g => ?_)
          refine cj_X12_passes_122 (fun _ _ _ _ h g => ?_) k h g
          exact ih _ _ _ _ _ h g
        · skip
          refine d_C h g (fun _ h g => ?_)
          refine cj_X12_passes_122 (fun _ _ _ _ h g => ?_) k h g
          exact ih _ _ _ _ _ h g
theorem cj_X12_passes_72 {S : Sh} {k4_1 k4_2 k4_3 : Int → Int → Int → Mm → Prop} {K1 K2 K3 : Int → Mm → Prop} {M : Mm} {u0 : Int} {u1 : Int} {u2 : Int} (kk4 : ∀ (a0 : Int) (a1 : Int) (a2 : Int) (m : Mm), k4_1 a0 a1 a2 m → k4_2 a0 a1 a2 m → k4_3 a0 a1 a2 m) (k : ∀ (a0 : Int) (m : Mm), K1 a0 m → K2 a0 m → K3 a0 m) (h : wp_X12_passes_72 S k4_1 K1 u0 u1 u2 M) (g : wp_X12_passes_72 S k4_2 K2 u0 u1 u2 M) : wp_X12_passes_72 S k4_3 K3 u0 u1 u2 M := by
  refine d_A h g (fun _ h g => ?_)
  exact kk4 _ _ _ _ h g
theorem cj_X12_passes_70 {S : Sh} {k4_1 k4_2 k4_3 : Int → Int → Int → Mm → Prop} {K1 K2 K3 : Int → Mm → Prop} {M : Mm} {u0 : Int} {u2 : Int} {t0 : Int} {t1 : Int} (kk4 : ∀ (a0 : Int) (a1 : Int) (a2 : Int) (m : Mm), k4_1 a0 a1 a2 m → k4_2 a0 a1 a2 m → k4_3 a0 a1 a2 m) (k : ∀ (a0 : Int) (m : Mm), K1 a0 m → K2 a0 m → K3 a0 m) (h : wp_X12_passes_70 S k4_1 K1 u0 u2 t0 t1 M) (g : wp_X12_passes_70 S k4_2 K2 u0 u2 t0 t1 M) : wp_X12_passes_70 S k4_3 K3 u0 u2 t0 t1 M := by
  refine d_A h g (fun _ h g => ?_)
  refine cj_X12_passes_72 kk4 k h g
theorem cj_X12_passes_69 {S : Sh} {k4_1 k4_2 k4_3 : Int → Int → Int → Mm → Prop} {K1 K2 K3 : Int → Mm → Prop} {M : Mm} {u0 : Int} {u2 : Int} {t0 : Int} (kk4 : ∀ (a0 : Int) (a1 : Int) (a2 : Int) (m : Mm), k4_1 a0 a1 a2 m → k4_2 a0 a1 a2 m → k4_3 a0 a1 a2 m) (k : ∀ (a0 : Int) (m : Mm), K1 a0 m → K2 a0 m → K3 a0 m) (h : wp_X12_passes_69 S k4_1 K1 u0 u2 t0 M) (g : wp_X12_passes_69 S k4_2 K2 u0 u2 t0 M) : wp_X12_passes_69 S k4_3 K3 u0 u2 t0 M := by
  refine d_C h g (fun _ h g => ?_)
  refine cj_X12_passes_70 kk4 k h g
theorem cj_X12_passes_4 {S : Sh} {K1 K2 K3 : Int → Mm → Prop} (k : ∀ (a0 : Int) (m : Mm), K1 a0 m → K2 a0 m → K3 a0 m) : ∀ (n n9 : Nat) (u0 : Int) (u1 : Int) (u2 : Int) (M : Mm), wp_X12_passes_4 S K1 n u0 u1 u2 M → wp_X12_passes_4 S K2 n9 u0 u1 u2 M → wp_X12_passes_4 S K3 n u0 u1 u2 M := by
  intro n
  induction n with
  | zero => intro n9 u0 u1 u2 M h g; exact h
  | succ n ih =>
    intro n9 u0 u1 u2 M h g
    cases n9 with
    | zero => exact absurd g (fun z => z)
    | succ n9 =>
      refine d_GetR h g (fun _ h g => ?_)
      refine d_C h g (fun _ h g => ?_)
      refine d_Ld h g (fun _ h g => ?_)
      refine d_if h g (fun h g => ?_) (fun h g => ?_)
      · skip
        refine d_C h g (fun _ h g => ?_)
        obtain ⟨n8, h⟩ := h
        obtain ⟨n9, g⟩ := g
        refine ⟨n8, ?_⟩
        refine cj_X12_passes_80 k _ _ _ _ _ _ h g
      · skip
        refine d_C h g (fun _ h g => ?_)
        refine d_and h g (fun h g => ?_)
        refine cj_X12_jugOf (fun _ _ h g => ?_) h g
        refine d_C h g (fun _ h g => ?_)
        refine d_if h g (fun h g => ?_) (fun h g => ?_)
        · skip
          refine d_C h g (fun _ h g => ?_)
          refine d_and h g (fun h g => ?_)
          refine cj_X12_jugOf (fun _ _ h g => ?_) h g
          refine d_and h g (fun h g => ?_)
          refine cj_X12_turns (fun _ h g => ?_) h g
          refine d_GetR h g (fun _ h g => ?_)
          refine d_C h g (fun _ h g => ?_)
          refine d_Ld h g (fun _ h g => ?_)
          refine d_if h g (fun h g => ?_) (fun h g => ?_)
          · skip
            refine cj_X12_passes_69 (fun _ _ _ _ h g => ?_) k h g
            exact ih _ _ _ _ _ h g
          · skip
            refine d_C h g (fun _ h g => ?_)
            refine d_and h g (fun h g => ?_)
            refine cj_X12_jugOf (fun _ _ h g => ?_) h g
            refine d_GetR h g (fun _ h g => ?_)
            refine d_C h g (fun _ h g => ?_)
            refine d_Ld h g (fun _ h g => ?_)
            refine d_if h g (fun h g => ?_) (fun h g => ?_)
            · skip
              refine cj_X12_passes_69 (fun _ _ _ _ h g => ?_) k h g
              exact ih _ _ _ _ _ h g
            · skip
              refine d_C h g (fun _ h g => ?_)
              refine cj_X12_passes_70 (fun _ _ _ _ h g => ?_) k h g
              exact ih _ _ _ _ _ h g
        · skip
          refine cj_X12_passes_72 (fun _ _ _ _ h g => ?_) k h g
          exact ih _ _ _ _ _ h g
theorem cj_X12_passes {S : Sh} {K1 K2 K3 : Int → Mm → Prop} {M : Mm} {u0 : Int} (k : ∀ (a0 : Int) (m : Mm), K1 a0 m → K2 a0 m → K3 a0 m) (h : wp_X12_passes S M u0 K1) (g : wp_X12_passes S M u0 K2) : wp_X12_passes S M u0 K3 := by
  refine d_C h g (fun _ h g => ?_)
  refine d_C h g (fun _ h g => ?_)
  obtain ⟨n8, h⟩ := h
  obtain ⟨n9, g⟩ := g
  refine ⟨n8, ?_⟩
  refine cj_X12_passes_4 k _ _ _ _ _ _ h g
theorem cj_X12_hour {S : Sh} {K1 K2 K3 : Int → Mm → Prop} {M : Mm} {u0 : Int} (k : ∀ (a0 : Int) (m : Mm), K1 a0 m → K2 a0 m → K3 a0 m) (h : wp_X12_hour S M u0 K1) (g : wp_X12_hour S M u0 K2) : wp_X12_hour S M u0 K3 := by
  refine d_and h g (fun h g => ?_)
  refine cj_X12_isDairy (fun _ _ h g => ?_) h g
  refine d_if h g (fun h g => ?_) (fun h g => ?_)
  · skip
    refine d_C h g (fun _ h g => ?_)
    exact k _ _ h g
  · skip
    refine d_GetR h g (fun _ h g => ?_)
    refine d_C h g (fun _ h g => ?_)
    refine d_Ld h g (fun _ h g => ?_)
    refine d_C h g (fun _ h g => ?_)
    refine d_if h g (fun h g => ?_) (fun h g => ?_)
    · skip
      refine d_and h g (fun h g => ?_)
      refine cj_X12_keepsAct (fun _ h g => ?_) h g
      refine d_and h g (fun h g => ?_)
      refine cj_X12_passes (fun _ _ h g => ?_) h g
      exact k _ _ h g
    · skip
      refine d_C h g (fun _ h g => ?_)
      exact k _ _ h g
theorem cj_X12_isAtPlace {S : Sh} {K1 K2 K3 : Int → Mm → Prop} {M : Mm} {u0 : Int} {u1 : Int} (k : ∀ (a0 : Int) (m : Mm), K1 a0 m → K2 a0 m → K3 a0 m) (h : wp_X12_isAtPlace S M u0 u1 K1) (g : wp_X12_isAtPlace S M u0 u1 K2) : wp_X12_isAtPlace S M u0 u1 K3 := by
  refine d_C h g (fun _ h g => ?_)
  refine d_and h g (fun h g => ?_)
  refine cj_X12_handOf (fun _ _ h g => ?_) h g
  refine d_if h g (fun h g => ?_) (fun h g => ?_)
  · skip
    refine d_C h g (fun _ h g => ?_)
    refine d_and h g (fun h g => ?_)
    exact k _ _ h g
  · skip
    refine d_C h g (fun _ h g => ?_)
    refine d_and h g (fun h g => ?_)
    exact k _ _ h g
theorem cj_X12_canTake {S : Sh} {K1 K2 K3 : Int → Mm → Prop} {M : Mm} {u0 : Int} {u1 : Int} {u2 : Int} (k : ∀ (a0 : Int) (m : Mm), K1 a0 m → K2 a0 m → K3 a0 m) (h : wp_X12_canTake S M u0 u1 u2 K1) (g : wp_X12_canTake S M u0 u1 u2 K2) : wp_X12_canTake S M u0 u1 u2 K3 := by
  refine d_and h g (fun h g => ?_)
  refine cj_X12_isAtPlace (fun _ _ h g => ?_) h g
  refine d_if h g (fun h g => ?_) (fun h g => ?_)
  · skip
    refine d_C h g (fun _ h g => ?_)
    refine d_and h g (fun h g => ?_)
    exact k _ _ h g
  · skip
    refine d_and h g (fun h g => ?_)
    refine cj_X12_stands (fun _ _ h g => ?_) h g
    refine d_if h g (fun h g => ?_) (fun h g => ?_)
    · skip
      refine d_C h g (fun _ h g => ?_)
      refine d_and h g (fun h g => ?_)
      exact k _ _ h g
    · skip
      refine d_C h g (fun _ h g => ?_)
      refine d_and h g (fun h g => ?_)
      refine cj_X12_jugOf (fun _ _ h g => ?_) h g
      refine d_C h g (fun _ h g => ?_)
      refine d_and h g (fun h g => ?_)
      refine cj_X12_handOf (fun _ _ h g => ?_) h g
      refine d_if h g (fun h g => ?_) (fun h g => ?_)
      · skip
        refine d_C h g (fun _ h g => ?_)
        refine d_and h g (fun h g => ?_)
        exact k _ _ h g
      · skip
        refine d_and h g (fun h g => ?_)
        refine cj_X12_held (fun _ _ h g => ?_) h g
        refine cj_X12_bits (fun _ _ h g => ?_) h g
        refine d_C h g (fun _ h g => ?_)
        refine d_if h g (fun h g => ?_) (fun h g => ?_)
        · skip
          refine d_C h g (fun _ h g => ?_)
          refine d_and h g (fun h g => ?_)
          exact k _ _ h g
        · skip
          refine d_C h g (fun _ h g => ?_)
          refine d_and h g (fun h g => ?_)
          exact k _ _ h g
theorem cj_X12_takes {S : Sh} {K1 K2 K3 : Mm → Prop} {M : Mm} {u0 : Int} {u1 : Int} {u2 : Int} (k : ∀ (m : Mm), K1 m → K2 m → K3 m) (h : wp_X12_takes S M u0 u1 u2 K1) (g : wp_X12_takes S M u0 u1 u2 K2) : wp_X12_takes S M u0 u1 u2 K3 := by
  refine d_GetR h g (fun _ h g => ?_)
  refine d_C h g (fun _ h g => ?_)
  refine d_C h g (fun _ h g => ?_)
  refine d_M h g (fun _ h g => ?_)
  refine d_A h g (fun _ h g => ?_)
  refine d_C h g (fun _ h g => ?_)
  refine d_A h g (fun _ h g => ?_)
  refine d_St h g (fun _ h g => ?_)
  exact k _ h g
theorem cj_X12_take {S : Sh} {K1 K2 K3 : Int → Mm → Prop} {M : Mm} {u0 : Int} {u1 : Int} {u2 : Int} (k : ∀ (a0 : Int) (m : Mm), K1 a0 m → K2 a0 m → K3 a0 m) (h : wp_X12_take S M u0 u1 u2 K1) (g : wp_X12_take S M u0 u1 u2 K2) : wp_X12_take S M u0 u1 u2 K3 := by
  refine d_and h g (fun h g => ?_)
  refine cj_X12_isHand (fun _ _ h g => ?_) h g
  refine d_if h g (fun h g => ?_) (fun h g => ?_)
  · skip
    refine d_C h g (fun _ h g => ?_)
    exact k _ _ h g
  · skip
    refine d_and h g (fun h g => ?_)
    refine cj_X12_isJug (fun _ _ h g => ?_) h g
    refine d_if h g (fun h g => ?_) (fun h g => ?_)
    · skip
      refine d_C h g (fun _ h g => ?_)
      exact k _ _ h g
    · skip
      refine d_and h g (fun h g => ?_)
      refine cj_X12_canTake (fun _ _ h g => ?_) h g
      refine d_if h g (fun h g => ?_) (fun h g => ?_)
      · skip
        refine d_and h g (fun h g => ?_)
        refine cj_X12_keepsAct (fun _ h g => ?_) h g
        refine d_and h g (fun h g => ?_)
        refine cj_X12_takes (fun _ h g => ?_) h g
        refine d_and h g (fun h g => ?_)
        refine cj_X12_held (fun _ _ h g => ?_) h g
        exact k _ _ h g
      · skip
        refine d_C h g (fun _ h g => ?_)
        exact k _ _ h g
theorem cj_X12_put {S : Sh} {K1 K2 K3 : Int → Mm → Prop} {M : Mm} {u0 : Int} {u1 : Int} {u2 : Int} (k : ∀ (a0 : Int) (m : Mm), K1 a0 m → K2 a0 m → K3 a0 m) (h : wp_X12_put S M u0 u1 u2 K1) (g : wp_X12_put S M u0 u1 u2 K2) : wp_X12_put S M u0 u1 u2 K3 := by
  refine d_and h g (fun h g => ?_)
  refine cj_X12_isHand (fun _ _ h g => ?_) h g
  refine d_if h g (fun h g => ?_) (fun h g => ?_)
  · skip
    refine d_C h g (fun _ h g => ?_)
    exact k _ _ h g
  · skip
    refine d_and h g (fun h g => ?_)
    refine cj_X12_isJug (fun _ _ h g => ?_) h g
    refine d_if h g (fun h g => ?_) (fun h g => ?_)
    · skip
      refine d_C h g (fun _ h g => ?_)
      exact k _ _ h g
    · skip
      refine d_C h g (fun _ h g => ?_)
      refine d_and h g (fun h g => ?_)
      refine cj_X12_jugOf (fun _ _ h g => ?_) h g
      refine d_if h g (fun h g => ?_) (fun h g => ?_)
      · skip
        refine d_C h g (fun _ h g => ?_)
        exact k _ _ h g
      · skip
        refine d_and h g (fun h g => ?_)
        refine cj_X12_isAtPlace (fun _ _ h g => ?_) h g
        refine d_if h g (fun h g => ?_) (fun h g => ?_)
        · skip
          refine d_and h g (fun h g => ?_)
          refine cj_X12_keepsAct (fun _ h g => ?_) h g
          refine d_GetR h g (fun _ h g => ?_)
          refine d_C h g (fun _ h g => ?_)
          refine d_C h g (fun _ h g => ?_)
          refine d_M h g (fun _ h g => ?_)
          refine d_A h g (fun _ h g => ?_)
          refine d_C h g (fun _ h g => ?_)
          refine d_A h g (fun _ h g => ?_)
          refine d_C h g (fun _ h g => ?_)
          refine d_St h g (fun _ h g => ?_)
          refine d_GetR h g (fun _ h g => ?_)
          refine d_C h g (fun _ h g => ?_)
          refine d_C h g (fun _ h g => ?_)
          refine d_M h g (fun _ h g => ?_)
          refine d_A h g (fun _ h g => ?_)
          refine d_C h g (fun _ h g => ?_)
          refine d_and h g (fun h g => ?_)
          refine cj_X12_handOf (fun _ _ h g => ?_) h g
          refine d_St h g (fun _ h g => ?_)
          refine d_C h g (fun _ h g => ?_)
          refine d_and h g (fun h g => ?_)
          refine cj_X12_handOf (fun _ _ h g => ?_) h g
          exact k _ _ h g
        · skip
          refine d_C h g (fun _ h g => ?_)
          exact k _ _ h g
theorem cj_X12_handOn {S : Sh} {K1 K2 K3 : Int → Mm → Prop} {M : Mm} {u0 : Int} {u1 : Int} {u2 : Int} (k : ∀ (a0 : Int) (m : Mm), K1 a0 m → K2 a0 m → K3 a0 m) (h : wp_X12_handOn S M u0 u1 u2 K1) (g : wp_X12_handOn S M u0 u1 u2 K2) : wp_X12_handOn S M u0 u1 u2 K3 := by
  refine d_and h g (fun h g => ?_)
  refine cj_X12_isJug (fun _ _ h g => ?_) h g
  refine d_if h g (fun h g => ?_) (fun h g => ?_)
  · skip
    refine d_C h g (fun _ h g => ?_)
    exact k _ _ h g
  · skip
    refine d_and h g (fun h g => ?_)
    refine cj_X12_isHand (fun _ _ h g => ?_) h g
    refine d_if h g (fun h g => ?_) (fun h g => ?_)
    · skip
      refine d_C h g (fun _ h g => ?_)
      exact k _ _ h g
    · skip
      refine d_C h g (fun _ h g => ?_)
      refine d_and h g (fun h g => ?_)
      refine cj_X12_jugOf (fun _ _ h g => ?_) h g
      refine d_if h g (fun h g => ?_) (fun h g => ?_)
      · skip
        refine d_C h g (fun _ h g => ?_)
        exact k _ _ h g
      · skip
        refine d_C h g (fun _ h g => ?_)
        refine d_and h g (fun h g => ?_)
        refine cj_X12_jugOf (fun _ _ h g => ?_) h g
        refine d_if h g (fun h g => ?_) (fun h g => ?_)
        · skip
          refine d_C h g (fun _ h g => ?_)
          refine d_and h g (fun h g => ?_)
          refine cj_X12_jugOf (fun _ _ h g => ?_) h g
          refine d_and h g (fun h g => ?_)
          refine cj_X12_isAtPlace (fun _ _ h g => ?_) h g
          refine d_if h g (fun h g => ?_) (fun h g => ?_)
          · skip
            refine d_C h g (fun _ h g => ?_)
            exact k _ _ h g
          · skip
            refine d_and h g (fun h g => ?_)
            refine cj_X12_isAtPlace (fun _ _ h g => ?_) h g
            refine d_if h g (fun h g => ?_) (fun h g => ?_)
            · skip
              refine d_C h g (fun _ h g => ?_)
              exact k _ _ h g
            · skip
              refine d_C h g (fun _ h g => ?_)
              refine d_and h g (fun h g => ?_)
              refine cj_X12_handOf (fun _ _ h g => ?_) h g
              refine d_C h g (fun _ h g => ?_)
              refine d_and h g (fun h g => ?_)
              refine cj_X12_handOf (fun _ _ h g => ?_) h g
              refine d_if h g (fun h g => ?_) (fun h g => ?_)
              · skip
                refine d_C h g (fun _ h g => ?_)
                exact k _ _ h g
              · skip
                refine d_and h g (fun h g => ?_)
                refine cj_X12_held (fun _ _ h g => ?_) h g
                refine cj_X12_bits (fun _ _ h g => ?_) h g
                refine d_C h g (fun _ h g => ?_)
                refine d_if h g (fun h g => ?_) (fun h g => ?_)
                · skip
                  refine d_and h g (fun h g => ?_)
                  refine cj_X12_keepsAct (fun _ h g => ?_) h g
                  refine d_and h g (fun h g => ?_)
                  refine cj_X12_takes (fun _ h g => ?_) h g
                  exact k _ _ h g
                · skip
                  refine d_C h g (fun _ h g => ?_)
                  exact k _ _ h g
        · skip
          refine d_C h g (fun _ h g => ?_)
          exact k _ _ h g
theorem cj_X12_isPlace {S : Sh} {K1 K2 K3 : Int → Mm → Prop} {M : Mm} {u0 : Int} {u1 : Int} (k : ∀ (a0 : Int) (m : Mm), K1 a0 m → K2 a0 m → K3 a0 m) (h : wp_X12_isPlace S M u0 u1 K1) (g : wp_X12_isPlace S M u0 u1 K2) : wp_X12_isPlace S M u0 u1 K3 := by
  refine d_if h g (fun h g => ?_) (fun h g => ?_)
  · skip
    refine d_C h g (fun _ h g => ?_)
    refine d_and h g (fun h g => ?_)
    exact k _ _ h g
  · skip
    refine d_GetR h g (fun _ h g => ?_)
    refine d_C h g (fun _ h g => ?_)
    refine d_Ld h g (fun _ h g => ?_)
    refine d_if h g (fun h g => ?_) (fun h g => ?_)
    · skip
      refine d_C h g (fun _ h g => ?_)
      refine d_and h g (fun h g => ?_)
      exact k _ _ h g
    · skip
      refine d_C h g (fun _ h g => ?_)
      refine d_and h g (fun h g => ?_)
      exact k _ _ h g
theorem cj_X12_roadOf_78 {S : Sh} {k2_1 k2_2 k2_3 : Int → Int → Int → Int → Mm → Prop} {K1 K2 K3 : Int → Mm → Prop} {M : Mm} {u0 : Int} {u1 : Int} {u2 : Int} {u3 : Int} (kk2 : ∀ (a0 : Int) (a1 : Int) (a2 : Int) (a3 : Int) (m : Mm), k2_1 a0 a1 a2 a3 m → k2_2 a0 a1 a2 a3 m → k2_3 a0 a1 a2 a3 m) (k : ∀ (a0 : Int) (m : Mm), K1 a0 m → K2 a0 m → K3 a0 m) (h : wp_X12_roadOf_78 S k2_1 K1 u0 u1 u2 u3 M) (g : wp_X12_roadOf_78 S k2_2 K2 u0 u1 u2 u3 M) : wp_X12_roadOf_78 S k2_3 K3 u0 u1 u2 u3 M := by
  refine d_A h g (fun _ h g => ?_)
  exact kk2 _ _ _ _ _ h g
theorem cj_X12_roadOf_68 {S : Sh} {K1 K2 K3 : Int → Mm → Prop} {M : Mm} {u0 : Int} {u4 : Int} (k : ∀ (a0 : Int) (m : Mm), K1 a0 m → K2 a0 m → K3 a0 m) (h : wp_X12_roadOf_68 S K1 u0 u4 M) (g : wp_X12_roadOf_68 S K2 u0 u4 M) : wp_X12_roadOf_68 S K3 u0 u4 M := by
  refine d_GetR h g (fun _ h g => ?_)
  refine d_C h g (fun _ h g => ?_)
  refine d_A h g (fun _ h g => ?_)
  refine d_Ld h g (fun _ h g => ?_)
  exact k _ _ h g
theorem cj_X12_roadOf_44 {S : Sh} {k2_1 k2_2 k2_3 : Int → Int → Int → Int → Mm → Prop} {K1 K2 K3 : Int → Mm → Prop} {M : Mm} {u0 : Int} {u1 : Int} {u2 : Int} {u3 : Int} {u4 : Int} (kk2 : ∀ (a0 : Int) (a1 : Int) (a2 : Int) (a3 : Int) (m : Mm), k2_1 a0 a1 a2 a3 m → k2_2 a0 a1 a2 a3 m → k2_3 a0 a1 a2 a3 m) (k : ∀ (a0 : Int) (m : Mm), K1 a0 m → K2 a0 m → K3 a0 m) (h : wp_X12_roadOf_44 S k2_1 K1 u0 u1 u2 u3 u4 M) (g : wp_X12_roadOf_44 S k2_2 K2 u0 u1 u2 u3 u4 M) : wp_X12_roadOf_44 S k2_3 K3 u0 u1 u2 u3 u4 M := by
  refine d_GetR h g (fun _ h g => ?_)
  refine d_Ld h g (fun _ h g => ?_)
  refine d_if h g (fun h g => ?_) (fun h g => ?_)
  · skip
    refine cj_X12_roadOf_78 kk2 k h g
  · skip
    refine d_GetR h g (fun _ h g => ?_)
    refine d_C h g (fun _ h g => ?_)
    refine d_A h g (fun _ h g => ?_)
    refine d_Ld h g (fun _ h g => ?_)
    refine d_if h g (fun h g => ?_) (fun h g => ?_)
    · skip
      refine cj_X12_roadOf_78 kk2 k h g
    · skip
      refine cj_X12_roadOf_68 k h g
theorem cj_X12_roadOf_2 {S : Sh} {K1 K2 K3 : Int → Mm → Prop} (k : ∀ (a0 : Int) (m : Mm), K1 a0 m → K2 a0 m → K3 a0 m) : ∀ (n n9 : Nat) (u0 : Int) (u1 : Int) (u2 : Int) (u3 : Int) (M : Mm), wp_X12_roadOf_2 S K1 n u0 u1 u2 u3 M → wp_X12_roadOf_2 S K2 n9 u0 u1 u2 u3 M → wp_X12_roadOf_2 S K3 n u0 u1 u2 u3 M := by
  intro n
  induction n with
  | zero => intro n9 u0 u1 u2 u3 M h g; exact h
  | succ n ih =>
    intro n9 u0 u1 u2 u3 M h g
    cases n9 with
    | zero => exact absurd g (fun z => z)
    | succ n9 =>
      refine d_GetR h g (fun _ h g => ?_)
      refine d_C h g (fun _ h g => ?_)
      refine d_Ld h g (fun _ h g => ?_)
      refine d_if h g (fun h g => ?_) (fun h g => ?_)
      · skip
        refine d_C h g (fun _ h g => ?_)
        exact k _ _ h g
      · skip
        refine d_C h g (fun _ h g => ?_)
        refine d_C h g (fun _ h g => ?_)
        refine d_M h g (fun _ h g => ?_)
        refine d_A h g (fun _ h g => ?_)
        refine d_GetR h g (fun _ h g => ?_)
        refine d_Ld h g (fun _ h g => ?_)
        refine d_if h g (fun h g => ?_) (fun h g => ?_)
        · skip
          refine cj_X12_roadOf_44 (fun _ _ _ _ _ h g => ?_) k h g
          exact ih _ _ _ _ _ _ h g
        · skip
          refine d_GetR h g (fun _ h g => ?_)
          refine d_C h g (fun _ h g => ?_)
          refine d_A h g (fun _ h g => ?_)
          refine d_Ld h g (fun _ h g => ?_)
          refine d_if h g (fun h g => ?_) (fun h g => ?_)
          · skip
            refine cj_X12_roadOf_68 k h g
          · skip
            refine cj_X12_roadOf_44 (fun _ _ _ _ _ h g => ?_) k h g
            exact ih _ _ _ _ _ _ h g
theorem cj_X12_roadOf {S : Sh} {K1 K2 K3 : Int → Mm → Prop} {M : Mm} {u0 : Int} {u1 : Int} {u2 : Int} (k : ∀ (a0 : Int) (m : Mm), K1 a0 m → K2 a0 m → K3 a0 m) (h : wp_X12_roadOf S M u0 u1 u2 K1) (g : wp_X12_roadOf S M u0 u1 u2 K2) : wp_X12_roadOf S M u0 u1 u2 K3 := by
  refine d_C h g (fun _ h g => ?_)
  obtain ⟨n8, h⟩ := h
  obtain ⟨n9, g⟩ := g
  refine ⟨n8, ?_⟩
  refine cj_X12_roadOf_2 k _ _ _ _ _ _ _ h g
theorem cj_X12_canGo {S : Sh} {K1 K2 K3 : Int → Mm → Prop} {M : Mm} {u0 : Int} {u1 : Int} {u2 : Int} (k : ∀ (a0 : Int) (m : Mm), K1 a0 m → K2 a0 m → K3 a0 m) (h : wp_X12_canGo S M u0 u1 u2 K1) (g : wp_X12_canGo S M u0 u1 u2 K2) : wp_X12_canGo S M u0 u1 u2 K3 := by
  refine d_and h g (fun h g => ?_)
  refine cj_X12_isAtPlace (fun _ _ h g => ?_) h g
  refine d_if h g (fun h g => ?_) (fun h g => ?_)
  · skip
    refine d_C h g (fun _ h g => ?_)
    refine d_and h g (fun h g => ?_)
    exact k _ _ h g
  · skip
    refine d_C h g (fun _ h g => ?_)
    refine d_and h g (fun h g => ?_)
    refine cj_X12_handOf (fun _ _ h g => ?_) h g
    refine d_and h g (fun h g => ?_)
    refine cj_X12_roadOf (fun _ _ h g => ?_) h g
    refine d_if h g (fun h g => ?_) (fun h g => ?_)
    · skip
      refine d_C h g (fun _ h g => ?_)
      refine d_and h g (fun h g => ?_)
      exact k _ _ h g
    · skip
      refine d_C h g (fun _ h g => ?_)
      refine d_and h g (fun h g => ?_)
      exact k _ _ h g
theorem cj_X12_goes {S : Sh} {K1 K2 K3 : Mm → Prop} {M : Mm} {u0 : Int} {u1 : Int} {u2 : Int} (k : ∀ (m : Mm), K1 m → K2 m → K3 m) (h : wp_X12_goes S M u0 u1 u2 K1) (g : wp_X12_goes S M u0 u1 u2 K2) : wp_X12_goes S M u0 u1 u2 K3 := by
  refine d_GetR h g (fun _ h g => ?_)
  refine d_C h g (fun _ h g => ?_)
  refine d_C h g (fun _ h g => ?_)
  refine d_M h g (fun _ h g => ?_)
  refine d_A h g (fun _ h g => ?_)
  refine d_C h g (fun _ h g => ?_)
  refine d_A h g (fun _ h g => ?_)
  refine d_C h g (fun _ h g => ?_)
  refine d_and h g (fun h g => ?_)
  refine cj_X12_handOf (fun _ _ h g => ?_) h g
  refine d_and h g (fun h g => ?_)
  refine cj_X12_roadOf (fun _ _ h g => ?_) h g
  refine d_St h g (fun _ h g => ?_)
  refine d_GetR h g (fun _ h g => ?_)
  refine d_C h g (fun _ h g => ?_)
  refine d_C h g (fun _ h g => ?_)
  refine d_M h g (fun _ h g => ?_)
  refine d_A h g (fun _ h g => ?_)
  refine d_St h g (fun _ h g => ?_)
  exact k _ h g
theorem cj_X12_go {S : Sh} {K1 K2 K3 : Int → Mm → Prop} {M : Mm} {u0 : Int} {u1 : Int} {u2 : Int} (k : ∀ (a0 : Int) (m : Mm), K1 a0 m → K2 a0 m → K3 a0 m) (h : wp_X12_go S M u0 u1 u2 K1) (g : wp_X12_go S M u0 u1 u2 K2) : wp_X12_go S M u0 u1 u2 K3 := by
  refine d_and h g (fun h g => ?_)
  refine cj_X12_isHand (fun _ _ h g => ?_) h g
  refine d_if h g (fun h g => ?_) (fun h g => ?_)
  · skip
    refine d_C h g (fun _ h g => ?_)
    exact k _ _ h g
  · skip
    refine d_and h g (fun h g => ?_)
    refine cj_X12_isPlace (fun _ _ h g => ?_) h g
    refine d_if h g (fun h g => ?_) (fun h g => ?_)
    · skip
      refine d_C h g (fun _ h g => ?_)
      exact k _ _ h g
    · skip
      refine d_and h g (fun h g => ?_)
      refine cj_X12_canGo (fun _ _ h g => ?_) h g
      refine d_if h g (fun h g => ?_) (fun h g => ?_)
      · skip
        refine d_and h g (fun h g => ?_)
        refine cj_X12_keepsAct (fun _ h g => ?_) h g
        refine d_and h g (fun h g => ?_)
        refine cj_X12_goes (fun _ h g => ?_) h g
        refine d_C h g (fun _ h g => ?_)
        refine d_and h g (fun h g => ?_)
        refine cj_X12_handOf (fun _ _ h g => ?_) h g
        exact k _ _ h g
      · skip
        refine d_C h g (fun _ h g => ?_)
        exact k _ _ h g
theorem cj_X12_meet {S : Sh} {K1 K2 K3 : Int → Mm → Prop} {M : Mm} {u0 : Int} {u1 : Int} (k : ∀ (a0 : Int) (m : Mm), K1 a0 m → K2 a0 m → K3 a0 m) (h : wp_X12_meet S M u0 u1 K1) (g : wp_X12_meet S M u0 u1 K2) : wp_X12_meet S M u0 u1 K3 := by
  refine d_and h g (fun h g => ?_)
  refine cj_X12_isWant (fun _ _ h g => ?_) h g
  refine d_if h g (fun h g => ?_) (fun h g => ?_)
  · skip
    refine d_and h g (fun h g => ?_)
    refine cj_X12_firstFor (fun _ _ h g => ?_) h g
    refine d_if h g (fun h g => ?_) (fun h g => ?_)
    · skip
      refine d_and h g (fun h g => ?_)
      refine cj_X12_keepsAct (fun _ h g => ?_) h g
      refine d_GetR h g (fun _ h g => ?_)
      refine d_C h g (fun _ h g => ?_)
      refine d_C h g (fun _ h g => ?_)
      refine d_M h g (fun _ h g => ?_)
      refine d_A h g (fun _ h g => ?_)
      refine d_C h g (fun _ h g => ?_)
      refine d_A h g (fun _ h g => ?_)
      refine d_C h g (fun _ h g => ?_)
      refine d_St h g (fun _ h g => ?_)
      refine d_GetR h g (fun _ h g => ?_)
      refine d_C h g (fun _ h g => ?_)
      refine d_A h g (fun _ h g => ?_)
      refine d_GetR h g (fun _ h g => ?_)
      refine d_C h g (fun _ h g => ?_)
      refine d_Ld h g (fun _ h g => ?_)
      refine d_St h g (fun _ h g => ?_)
      refine d_GetR h g (fun _ h g => ?_)
      refine d_C h g (fun _ h g => ?_)
      refine d_Ld h g (fun _ h g => ?_)
      refine d_C h g (fun _ h g => ?_)
      refine d_and h g (fun h g => ?_)
      refine cj_X12_wantOf (fun _ _ h g => ?_) h g
      refine d_A h g (fun _ h g => ?_)
      refine d_St h g (fun _ h g => ?_)
      exact k _ _ h g
    · skip
      refine d_C h g (fun _ h g => ?_)
      exact k _ _ h g
  · skip
    refine d_C h g (fun _ h g => ?_)
    exact k _ _ h g
