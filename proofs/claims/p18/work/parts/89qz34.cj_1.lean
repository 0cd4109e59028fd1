theorem cj_X12_test {S : Sh} {K1 K2 K3 : Int → Mm → Prop} {M : Mm} {u0 : Int} {u1 : Int} {u2 : Int} {u3 : Int} {u4 : Int} (k : ∀ (a0 : Int) (m : Mm), K1 a0 m → K2 a0 m → K3 a0 m) (h : wp_X12_test S M u0 u1 u2 u3 u4 K1) (g : wp_X12_test S M u0 u1 u2 u3 u4 K2) : wp_X12_test S M u0 u1 u2 u3 u4 K3 := by
  refine d_C h g (fun _ h g => ?_)
  refine d_if h g (fun h g => ?_) (fun h g => ?_)
  · skip
    refine d_and h g (fun h g => ?_)
    refine cj_X12_isDairy (fun _ _ h g => ?_) h g
    refine d_if h g (fun h g => ?_) (fun h g => ?_)
    · skip
      refine d_C h g (fun _ h g => ?_)
      exact k _ _ h g
    · skip
      refine d_C h g (fun _ h g => ?_)
      refine d_C h g (fun _ h g => ?_)
      refine d_C h g (fun _ h g => ?_)
      refine cj_X12_in (fun _ _ h g => ?_) h g
      refine d_if h g (fun h g => ?_) (fun h g => ?_)
      · skip
        refine d_C h g (fun _ h g => ?_)
        exact k _ _ h g
      · skip
        refine d_C h g (fun _ h g => ?_)
        refine d_C h g (fun _ h g => ?_)
        refine d_C h g (fun _ h g => ?_)
        refine cj_X12_in (fun _ _ h g => ?_) h g
        refine d_if h g (fun h g => ?_) (fun h g => ?_)
        · skip
          refine d_C h g (fun _ h g => ?_)
          exact k _ _ h g
        · skip
          refine d_C h g (fun _ h g => ?_)
          refine d_C h g (fun _ h g => ?_)
          refine d_C h g (fun _ h g => ?_)
          refine cj_X12_in (fun _ _ h g => ?_) h g
          refine d_if h g (fun h g => ?_) (fun h g => ?_)
          · skip
            refine d_C h g (fun _ h g => ?_)
            exact k _ _ h g
          · skip
            refine d_C h g (fun _ h g => ?_)
            refine d_C h g (fun _ h g => ?_)
            refine d_C h g (fun _ h g => ?_)
            refine cj_X12_in (fun _ _ h g => ?_) h g
            refine d_if h g (fun h g => ?_) (fun h g => ?_)
            · skip
              refine d_C h g (fun _ h g => ?_)
              exact k _ _ h g
            · skip
              refine d_GetR h g (fun _ h g => ?_)
              refine d_C h g (fun _ h g => ?_)
              refine d_Ld h g (fun _ h g => ?_)
              refine d_C h g (fun _ h g => ?_)
              refine d_if h g (fun h g => ?_) (fun h g => ?_)
              · skip
                refine d_C h g (fun _ h g => ?_)
                refine d_C h g (fun _ h g => ?_)
                refine d_GetR h g (fun _ h g => ?_)
                refine d_C h g (fun _ h g => ?_)
                refine d_Ld h g (fun _ h g => ?_)
                refine d_M h g (fun _ h g => ?_)
                refine d_A h g (fun _ h g => ?_)
                refine d_GetR h g (fun _ h g => ?_)
                refine d_St h g (fun _ h g => ?_)
                refine d_GetR h g (fun _ h g => ?_)
                refine d_C h g (fun _ h g => ?_)
                refine d_A h g (fun _ h g => ?_)
                refine d_St h g (fun _ h g => ?_)
                refine d_GetR h g (fun _ h g => ?_)
                refine d_C h g (fun _ h g => ?_)
                refine d_A h g (fun _ h g => ?_)
                refine d_St h g (fun _ h g => ?_)
                refine d_GetR h g (fun _ h g => ?_)
                refine d_C h g (fun _ h g => ?_)
                refine d_A h g (fun _ h g => ?_)
                refine d_St h g (fun _ h g => ?_)
                refine d_GetR h g (fun _ h g => ?_)
                refine d_C h g (fun _ h g => ?_)
                refine d_Ld h g (fun _ h g => ?_)
                refine d_C h g (fun _ h g => ?_)
                refine d_A h g (fun _ h g => ?_)
                refine d_St h g (fun _ h g => ?_)
                refine d_GetR h g (fun _ h g => ?_)
                refine d_C h g (fun _ h g => ?_)
                refine d_Ld h g (fun _ h g => ?_)
                exact k _ _ h g
              · skip
                refine d_C h g (fun _ h g => ?_)
                exact k _ _ h g
  · skip
    refine d_GetR h g (fun _ h g => ?_)
    refine d_C h g (fun _ h g => ?_)
    refine d_C h g (fun _ h g => ?_)
    refine d_St h g (fun _ h g => ?_)
    refine d_C h g (fun _ h g => ?_)
    exact k _ _ h g
theorem cj_X8_pair {S : Sh} {K1 K2 K3 : Int → Mm → Prop} {M : Mm} {u0 : Int} {u1 : Int} (k : ∀ (a0 : Int) (m : Mm), K1 a0 m → K2 a0 m → K3 a0 m) (h : wp_X8_pair S M u0 u1 K1) (g : wp_X8_pair S M u0 u1 K2) : wp_X8_pair S M u0 u1 K3 := by
  refine d_C h g (fun _ h g => ?_)
  refine d_M h g (fun _ h g => ?_)
  refine d_A h g (fun _ h g => ?_)
  exact k _ _ h g
theorem cj_X8_roadHours {S : Sh} {K1 K2 K3 : Int → Mm → Prop} {M : Mm} {u0 : Int} {u1 : Int} {u2 : Int} (k : ∀ (a0 : Int) (m : Mm), K1 a0 m → K2 a0 m → K3 a0 m) (h : wp_X8_roadHours S M u0 u1 u2 K1) (g : wp_X8_roadHours S M u0 u1 u2 K2) : wp_X8_roadHours S M u0 u1 u2 K3 := by
  refine d_GetR h g (fun _ h g => ?_)
  refine cj_X8_pair (fun _ _ h g => ?_) h g
  refine d_Ld h g (fun _ h g => ?_)
  exact k _ _ h g
theorem cj_X5_become {S : Sh} {K1 K2 K3 : Mm → Prop} {M : Mm} {u0 : Int} {u1 : Int} (k : ∀ (m : Mm), K1 m → K2 m → K3 m) (h : wp_X5_become S M u0 u1 K1) (g : wp_X5_become S M u0 u1 K2) : wp_X5_become S M u0 u1 K3 := by
  refine d_Get h g (fun _ h g => ?_)
  refine d_Put h g (fun _ h g => ?_)
  refine d_Get h g (fun _ h g => ?_)
  refine d_Put h g (fun _ h g => ?_)
  refine d_GetR h g (fun _ h g => ?_)
  refine d_C h g (fun _ h g => ?_)
  refine d_GetR h g (fun _ h g => ?_)
  refine d_C h g (fun _ h g => ?_)
  refine d_C h g (fun _ h g => ?_)
  refine d_Cpy h g (fun _ h g => ?_)
  refine d_GetR h g (fun _ h g => ?_)
  refine d_C h g (fun _ h g => ?_)
  refine d_GetR h g (fun _ h g => ?_)
  refine d_C h g (fun _ h g => ?_)
  refine d_C h g (fun _ h g => ?_)
  refine d_Cpy h g (fun _ h g => ?_)
  refine d_GetR h g (fun _ h g => ?_)
  refine d_C h g (fun _ h g => ?_)
  refine d_GetR h g (fun _ h g => ?_)
  refine d_C h g (fun _ h g => ?_)
  refine d_C h g (fun _ h g => ?_)
  refine d_Cpy h g (fun _ h g => ?_)
  refine d_GetR h g (fun _ h g => ?_)
  refine d_C h g (fun _ h g => ?_)
  refine d_GetR h g (fun _ h g => ?_)
  refine d_C h g (fun _ h g => ?_)
  refine d_C h g (fun _ h g => ?_)
  refine d_Cpy h g (fun _ h g => ?_)
  refine d_GetR h g (fun _ h g => ?_)
  refine d_C h g (fun _ h g => ?_)
  refine d_GetR h g (fun _ h g => ?_)
  refine d_C h g (fun _ h g => ?_)
  refine d_C h g (fun _ h g => ?_)
  refine d_Cpy h g (fun _ h g => ?_)
  refine d_GetR h g (fun _ h g => ?_)
  refine d_C h g (fun _ h g => ?_)
  refine d_GetR h g (fun _ h g => ?_)
  refine d_C h g (fun _ h g => ?_)
  refine d_C h g (fun _ h g => ?_)
  refine d_Cpy h g (fun _ h g => ?_)
  refine d_GetR h g (fun _ h g => ?_)
  refine d_C h g (fun _ h g => ?_)
  refine d_GetR h g (fun _ h g => ?_)
  refine d_C h g (fun _ h g => ?_)
  refine d_C h g (fun _ h g => ?_)
  refine d_Cpy h g (fun _ h g => ?_)
  exact k _ h g
theorem cj_X11_isHand {S : Sh} {K1 K2 K3 : Int → Mm → Prop} {M : Mm} {u0 : Int} {u1 : Int} (k : ∀ (a0 : Int) (m : Mm), K1 a0 m → K2 a0 m → K3 a0 m) (h : wp_X11_isHand S M u0 u1 K1) (g : wp_X11_isHand S M u0 u1 K2) : wp_X11_isHand S M u0 u1 K3 := by
  refine d_if h g (fun h g => ?_) (fun h g => ?_)
  · skip
    refine d_C h g (fun _ h g => ?_)
    refine d_and h g (fun h g => ?_)
    exact k _ _ h g
  · skip
    refine d_GetR h g (fun _ h g => ?_)
    refine d_GetR h g (fun _ h g => ?_)
    refine d_Get h g (fun _ h g => ?_)
    refine d_if h g (fun h g => ?_) (fun h g => ?_)
    · skip
      refine d_C h g (fun _ h g => ?_)
      refine d_and h g (fun h g => ?_)
      exact k _ _ h g
    · skip
      refine d_C h g (fun _ h g => ?_)
      refine d_and h g (fun h g => ?_)
      exact k _ _ h g
theorem cj_X5_heldBits_25 {S : Sh} {k4_1 k4_2 k4_3 : Int → Int → Int → Int → Mm → Prop} {K1 K2 K3 : Int → Mm → Prop} {M : Mm} {u0 : Int} {u1 : Int} {u2 : Int} {u3 : Int} (kk4 : ∀ (a0 : Int) (a1 : Int) (a2 : Int) (a3 : Int) (m : Mm), k4_1 a0 a1 a2 a3 m → k4_2 a0 a1 a2 a3 m → k4_3 a0 a1 a2 a3 m) (k : ∀ (a0 : Int) (m : Mm), K1 a0 m → K2 a0 m → K3 a0 m) (h : wp_X5_heldBits_25 S k4_1 K1 u0 u1 u2 u3 M) (g : wp_X5_heldBits_25 S k4_2 K2 u0 u1 u2 u3 M) : wp_X5_heldBits_25 S k4_3 K3 u0 u1 u2 u3 M := by
  refine d_A h g (fun _ h g => ?_)
  exact kk4 _ _ _ _ _ h g
theorem cj_X5_heldBits_4 {S : Sh} {K1 K2 K3 : Int → Mm → Prop} (k : ∀ (a0 : Int) (m : Mm), K1 a0 m → K2 a0 m → K3 a0 m) : ∀ (n n9 : Nat) (u0 : Int) (u1 : Int) (u2 : Int) (u3 : Int) (M : Mm), wp_X5_heldBits_4 S K1 n u0 u1 u2 u3 M → wp_X5_heldBits_4 S K2 n9 u0 u1 u2 u3 M → wp_X5_heldBits_4 S K3 n u0 u1 u2 u3 M := by
  intro n
  induction n with
  | zero => intro n9 u0 u1 u2 u3 M h g; exact h
  | succ n ih =>
    intro n9 u0 u1 u2 u3 M h g
    cases n9 with
    | zero => exact absurd g (fun z => z)
    | succ n9 =>
      refine d_C h g (fun _ h g => ?_)
      refine d_if h g (fun h g => ?_) (fun h g => ?_)
      · skip
        exact k _ _ h g
      · skip
        refine d_GetR h g (fun _ h g => ?_)
        refine d_Ld h g (fun _ h g => ?_)
        refine d_if h g (fun h g => ?_) (fun h g => ?_)
        · skip
          refine cj_X5_heldBits_25 (fun _ _ _ _ _ h g => ?_) k h g
          exact ih _ _ _ _ _ _ h g
        · skip
          refine d_C h g (fun _ h g => ?_)
          refine d_O h g (fun _ h g => ?_)
          refine d_O h g (fun _ h g => ?_)
          refine cj_X5_heldBits_25 (fun _ _ _ _ _ h g => ?_) k h g
          exact ih _ _ _ _ _ _ h g
theorem cj_X5_heldBits {S : Sh} {K1 K2 K3 : Int → Mm → Prop} {M : Mm} {u0 : Int} {u1 : Int} (k : ∀ (a0 : Int) (m : Mm), K1 a0 m → K2 a0 m → K3 a0 m) (h : wp_X5_heldBits S M u0 u1 K1) (g : wp_X5_heldBits S M u0 u1 K2) : wp_X5_heldBits S M u0 u1 K3 := by
  refine d_C h g (fun _ h g => ?_)
  refine d_C h g (fun _ h g => ?_)
  obtain ⟨n8, h⟩ := h
  obtain ⟨n9, g⟩ := g
  refine ⟨n8, ?_⟩
  refine cj_X5_heldBits_4 k _ _ _ _ _ _ _ h g
theorem cj_X11_isJug {S : Sh} {K1 K2 K3 : Int → Mm → Prop} {M : Mm} {u0 : Int} {u1 : Int} (k : ∀ (a0 : Int) (m : Mm), K1 a0 m → K2 a0 m → K3 a0 m) (h : wp_X11_isJug S M u0 u1 K1) (g : wp_X11_isJug S M u0 u1 K2) : wp_X11_isJug S M u0 u1 K3 := by
  refine d_if h g (fun h g => ?_) (fun h g => ?_)
  · skip
    refine d_C h g (fun _ h g => ?_)
    refine d_and h g (fun h g => ?_)
    exact k _ _ h g
  · skip
    refine d_GetR h g (fun _ h g => ?_)
    refine d_GetR h g (fun _ h g => ?_)
    refine d_Get h g (fun _ h g => ?_)
    refine d_if h g (fun h g => ?_) (fun h g => ?_)
    · skip
      refine d_C h g (fun _ h g => ?_)
      refine d_and h g (fun h g => ?_)
      exact k _ _ h g
    · skip
      refine d_C h g (fun _ h g => ?_)
      refine d_and h g (fun h g => ?_)
      exact k _ _ h g
theorem cj_X5_isGone {S : Sh} {K1 K2 K3 : Int → Mm → Prop} {M : Mm} {u0 : Int} {u1 : Int} (k : ∀ (a0 : Int) (m : Mm), K1 a0 m → K2 a0 m → K3 a0 m) (h : wp_X5_isGone S M u0 u1 K1) (g : wp_X5_isGone S M u0 u1 K2) : wp_X5_isGone S M u0 u1 K3 := by
  refine d_GetR h g (fun _ h g => ?_)
  refine d_Ld h g (fun _ h g => ?_)
  refine d_C h g (fun _ h g => ?_)
  refine d_if h g (fun h g => ?_) (fun h g => ?_)
  · skip
    refine d_C h g (fun _ h g => ?_)
    refine d_and h g (fun h g => ?_)
    exact k _ _ h g
  · skip
    refine d_GetR h g (fun _ h g => ?_)
    refine d_Ld h g (fun _ h g => ?_)
    refine d_C h g (fun _ h g => ?_)
    refine d_if h g (fun h g => ?_) (fun h g => ?_)
    · skip
      refine d_C h g (fun _ h g => ?_)
      refine d_and h g (fun h g => ?_)
      exact k _ _ h g
    · skip
      refine d_C h g (fun _ h g => ?_)
      refine d_and h g (fun h g => ?_)
      exact k _ _ h g
theorem cj_X11_isWant {S : Sh} {K1 K2 K3 : Int → Mm → Prop} {M : Mm} {u0 : Int} {u1 : Int} (k : ∀ (a0 : Int) (m : Mm), K1 a0 m → K2 a0 m → K3 a0 m) (h : wp_X11_isWant S M u0 u1 K1) (g : wp_X11_isWant S M u0 u1 K2) : wp_X11_isWant S M u0 u1 K3 := by
  refine d_if h g (fun h g => ?_) (fun h g => ?_)
  · skip
    refine d_C h g (fun _ h g => ?_)
    refine d_and h g (fun h g => ?_)
    exact k _ _ h g
  · skip
    refine d_GetR h g (fun _ h g => ?_)
    refine d_GetR h g (fun _ h g => ?_)
    refine d_Get h g (fun _ h g => ?_)
    refine d_if h g (fun h g => ?_) (fun h g => ?_)
    · skip
      refine d_C h g (fun _ h g => ?_)
      refine d_and h g (fun h g => ?_)
      exact k _ _ h g
    · skip
      refine d_C h g (fun _ h g => ?_)
      refine d_and h g (fun h g => ?_)
      exact k _ _ h g
theorem cj_X8_suits {S : Sh} {K1 K2 K3 : Int → Mm → Prop} {M : Mm} {u0 : Int} {u1 : Int} {u2 : Int} (k : ∀ (a0 : Int) (m : Mm), K1 a0 m → K2 a0 m → K3 a0 m) (h : wp_X8_suits S M u0 u1 u2 K1) (g : wp_X8_suits S M u0 u1 u2 K2) : wp_X8_suits S M u0 u1 u2 K3 := by
  refine d_GetR h g (fun _ h g => ?_)
  refine d_Ld h g (fun _ h g => ?_)
  refine d_if h g (fun h g => ?_) (fun h g => ?_)
  · skip
    refine d_C h g (fun _ h g => ?_)
    refine d_and h g (fun h g => ?_)
    exact k _ _ h g
  · skip
    refine d_GetR h g (fun _ h g => ?_)
    refine d_Ld h g (fun _ h g => ?_)
    refine d_if h g (fun h g => ?_) (fun h g => ?_)
    · skip
      refine d_C h g (fun _ h g => ?_)
      refine d_and h g (fun h g => ?_)
      exact k _ _ h g
    · skip
      refine d_C h g (fun _ h g => ?_)
      refine d_and h g (fun h g => ?_)
      exact k _ _ h g
theorem cj_X11_jugFor_99 {S : Sh} {k20_1 k20_2 k20_3 : Int → Int → Int → Mm → Prop} {K1 K2 K3 : Int → Mm → Prop} {M : Mm} {u0 : Int} {u1 : Int} {u2 : Int} (kk20 : ∀ (a0 : Int) (a1 : Int) (a2 : Int) (m : Mm), k20_1 a0 a1 a2 m → k20_2 a0 a1 a2 m → k20_3 a0 a1 a2 m) (k : ∀ (a0 : Int) (m : Mm), K1 a0 m → K2 a0 m → K3 a0 m) (h : wp_X11_jugFor_99 S k20_1 K1 u0 u1 u2 M) (g : wp_X11_jugFor_99 S k20_2 K2 u0 u1 u2 M) : wp_X11_jugFor_99 S k20_3 K3 u0 u1 u2 M := by
  refine d_A h g (fun _ h g => ?_)
  exact kk20 _ _ _ _ h g
theorem cj_X11_jugFor_66 {S : Sh} {k20_1 k20_2 k20_3 : Int → Int → Int → Mm → Prop} {K1 K2 K3 : Int → Mm → Prop} {M : Mm} {u0 : Int} {u1 : Int} {u2 : Int} {t0 : Int} (kk20 : ∀ (a0 : Int) (a1 : Int) (a2 : Int) (m : Mm), k20_1 a0 a1 a2 m → k20_2 a0 a1 a2 m → k20_3 a0 a1 a2 m) (k : ∀ (a0 : Int) (m : Mm), K1 a0 m → K2 a0 m → K3 a0 m) (h : wp_X11_jugFor_66 S k20_1 K1 u0 u1 u2 t0 M) (g : wp_X11_jugFor_66 S k20_2 K2 u0 u1 u2 t0 M) : wp_X11_jugFor_66 S k20_3 K3 u0 u1 u2 t0 M := by
  refine d_if h g (fun h g => ?_) (fun h g => ?_)
  · skip
    refine cj_X11_jugFor_99 kk20 k h g
  · skip
    refine d_GetR h g (fun _ h g => ?_)
    refine d_GetR h g (fun _ h g => ?_)
    refine d_GetR h g (fun _ h g => ?_)
    refine d_GetR h g (fun _ h g => ?_)
    refine d_GetR h g (fun _ h g => ?_)
    refine d_Ld h g (fun _ h g => ?_)
    refine d_and h g (fun h g => ?_)
    refine cj_X8_suits (fun _ _ h g => ?_) h g
    refine d_if h g (fun h g => ?_) (fun h g => ?_)
    · skip
      refine cj_X11_jugFor_99 kk20 k h g
    · skip
      exact k _ _ h g
theorem cj_X11_jugFor_20 {S : Sh} {K1 K2 K3 : Int → Mm → Prop} (k : ∀ (a0 : Int) (m : Mm), K1 a0 m → K2 a0 m → K3 a0 m) : ∀ (n n9 : Nat) (u0 : Int) (u1 : Int) (u2 : Int) (M : Mm), wp_X11_jugFor_20 S K1 n u0 u1 u2 M → wp_X11_jugFor_20 S K2 n9 u0 u1 u2 M → wp_X11_jugFor_20 S K3 n u0 u1 u2 M := by
  intro n
  induction n with
  | zero => intro n9 u0 u1 u2 M h g; exact h
  | succ n ih =>
    intro n9 u0 u1 u2 M h g
    cases n9 with
    | zero => exact absurd g (fun z => z)
    | succ n9 =>
      refine d_GetR h g (fun _ h g => ?_)
      refine d_GetR h g (fun _ h g => ?_)
      refine d_Get h g (fun _ h g => ?_)
      refine d_if h g (fun h g => ?_) (fun h g => ?_)
      · skip
        refine d_C h g (fun _ h g => ?_)
        exact k _ _ h g
      · skip
        refine d_GetR h g (fun _ h g => ?_)
        refine d_GetR h g (fun _ h g => ?_)
        refine d_GetR h g (fun _ h g => ?_)
        refine d_Ld h g (fun _ h g => ?_)
        refine d_GetR h g (fun _ h g => ?_)
        refine d_GetR h g (fun _ h g => ?_)
        refine d_GetR h g (fun _ h g => ?_)
        refine d_Ld h g (fun _ h g => ?_)
        refine d_if h g (fun h g => ?_) (fun h g => ?_)
        · skip
          refine d_C h g (fun _ h g => ?_)
          refine cj_X11_jugFor_66 (fun _ _ _ _ h g => ?_) k h g
          exact ih _ _ _ _ _ h g
        · skip
          refine d_C h g (fun _ h g => ?_)
          refine cj_X11_jugFor_66 (fun _ _ _ _ h g => ?_) k h g
          exact ih _ _ _ _ _ h g
theorem cj_X11_jugFor {S : Sh} {K1 K2 K3 : Int → Mm → Prop} {M : Mm} {u0 : Int} {u1 : Int} (k : ∀ (a0 : Int) (m : Mm), K1 a0 m → K2 a0 m → K3 a0 m) (h : wp_X11_jugFor S M u0 u1 K1) (g : wp_X11_jugFor S M u0 u1 K2) : wp_X11_jugFor S M u0 u1 K3 := by
  refine d_GetR h g (fun _ h g => ?_)
  refine d_GetR h g (fun _ h g => ?_)
  refine d_GetR h g (fun _ h g => ?_)
  refine d_Ld h g (fun _ h g => ?_)
  refine d_C h g (fun _ h g => ?_)
  refine d_if h g (fun h g => ?_) (fun h g => ?_)
  · skip
    refine d_C h g (fun _ h g => ?_)
    obtain ⟨n8, h⟩ := h
    obtain ⟨n9, g⟩ := g
    refine ⟨n8, ?_⟩
    refine cj_X11_jugFor_20 k _ _ _ _ _ _ h g
  · skip
    refine d_C h g (fun _ h g => ?_)
    exact k _ _ h g
theorem cj_X11_keepPast {S : Sh} {K1 K2 K3 : Mm → Prop} {M : Mm} {u0 : Int} (k : ∀ (m : Mm), K1 m → K2 m → K3 m) (h : wp_X11_keepPast S M u0 K1) (g : wp_X11_keepPast S M u0 K2) : wp_X11_keepPast S M u0 K3 := by
  refine d_GetR h g (fun _ h g => ?_)
  refine d_Get h g (fun _ h g => ?_)
  refine d_LdR h g (fun _ h g => ?_)
  refine d_GetR h g (fun _ h g => ?_)
  refine d_GetR h g (fun _ h g => ?_)
  refine d_and h g (fun h g => ?_)
  refine cj_X5_become (fun _ h g => ?_) h g
  refine d_Get h g (fun _ h g => ?_)
  refine d_C h g (fun _ h g => ?_)
  refine d_A h g (fun _ h g => ?_)
  refine d_C h g (fun _ h g => ?_)
  refine d_D h g (fun _ h g => ?_)
  refine d_Put h g (fun _ h g => ?_)
  refine d_C h g (fun _ h g => ?_)
  refine d_Get h g (fun _ h g => ?_)
  refine d_C h g (fun _ h g => ?_)
  refine d_A h g (fun _ h g => ?_)
  refine d_O h g (fun _ h g => ?_)
  refine d_Put h g (fun _ h g => ?_)
  exact k _ h g
theorem cj_X5_stands {S : Sh} {K1 K2 K3 : Int → Mm → Prop} {M : Mm} {u0 : Int} {u1 : Int} (k : ∀ (a0 : Int) (m : Mm), K1 a0 m → K2 a0 m → K3 a0 m) (h : wp_X5_stands S M u0 u1 K1) (g : wp_X5_stands S M u0 u1 K2) : wp_X5_stands S M u0 u1 K3 := by
  refine d_GetR h g (fun _ h g => ?_)
  refine d_Ld h g (fun _ h g => ?_)
  refine d_C h g (fun _ h g => ?_)
  refine d_if h g (fun h g => ?_) (fun h g => ?_)
  · skip
    refine d_C h g (fun _ h g => ?_)
    refine d_and h g (fun h g => ?_)
    exact k _ _ h g
  · skip
    refine d_C h g (fun _ h g => ?_)
    refine d_and h g (fun h g => ?_)
    exact k _ _ h g
theorem cj_X8_heatIn_41 {S : Sh} {k4_1 k4_2 k4_3 : Int → Int → Int → Int → Mm → Prop} {K1 K2 K3 : Int → Mm → Prop} {M : Mm} {u0 : Int} {u1 : Int} {u2 : Int} {u3 : Int} (kk4 : ∀ (a0 : Int) (a1 : Int) (a2 : Int) (a3 : Int) (m : Mm), k4_1 a0 a1 a2 a3 m → k4_2 a0 a1 a2 a3 m → k4_3 a0 a1 a2 a3 m) (k : ∀ (a0 : Int) (m : Mm), K1 a0 m → K2 a0 m → K3 a0 m) (h : wp_X8_heatIn_41 S k4_1 K1 u0 u1 u2 u3 M) (g : wp_X8_heatIn_41 S k4_2 K2 u0 u1 u2 u3 M) : wp_X8_heatIn_41 S k4_3 K3 u0 u1 u2 u3 M := by
  refine d_A h g (fun _ h g => ?_)
  exact kk4 _ _ _ _ _ h g
theorem cj_X8_heatIn_4 {S : Sh} {K1 K2 K3 : Int → Mm → Prop} (k : ∀ (a0 : Int) (m : Mm), K1 a0 m → K2 a0 m → K3 a0 m) : ∀ (n n9 : Nat) (u0 : Int) (u1 : Int) (u2 : Int) (u3 : Int) (M : Mm), wp_X8_heatIn_4 S K1 n u0 u1 u2 u3 M → wp_X8_heatIn_4 S K2 n9 u0 u1 u2 u3 M → wp_X8_heatIn_4 S K3 n u0 u1 u2 u3 M := by
  intro n
  induction n with
  | zero => intro n9 u0 u1 u2 u3 M h g; exact h
  | succ n ih =>
    intro n9 u0 u1 u2 u3 M h g
    cases n9 with
    | zero => exact absurd g (fun z => z)
    | succ n9 =>
      refine d_Get h g (fun _ h g => ?_)
      refine d_if h g (fun h g => ?_) (fun h g => ?_)
      · skip
        exact k _ _ h g
      · skip
        refine d_GetR h g (fun _ h g => ?_)
        refine d_Ld h g (fun _ h g => ?_)
        refine d_if h g (fun h g => ?_) (fun h g => ?_)
        · skip
          refine cj_X8_heatIn_41 (fun _ _ _ _ _ h g => ?_) k h g
          exact ih _ _ _ _ _ _ h g
        · skip
          refine d_GetR h g (fun _ h g => ?_)
          refine d_Ld h g (fun _ h g => ?_)
          refine d_if h g (fun h g => ?_) (fun h g => ?_)
          · skip
            refine cj_X8_heatIn_41 (fun _ _ _ _ _ h g => ?_) k h g
            exact ih _ _ _ _ _ _ h g
          · skip
            refine d_GetR h g (fun _ h g => ?_)
            refine d_Ld h g (fun _ h g => ?_)
            refine d_A h g (fun _ h g => ?_)
            refine cj_X8_heatIn_41 (fun _ _ _ _ _ h g => ?_) k h g
            exact ih _ _ _ _ _ _ h g
theorem cj_X8_heatIn {S : Sh} {K1 K2 K3 : Int → Mm → Prop} {M : Mm} {u0 : Int} {u1 : Int} (k : ∀ (a0 : Int) (m : Mm), K1 a0 m → K2 a0 m → K3 a0 m) (h : wp_X8_heatIn S M u0 u1 K1) (g : wp_X8_heatIn S M u0 u1 K2) : wp_X8_heatIn S M u0 u1 K3 := by
  refine d_C h g (fun _ h g => ?_)
  refine d_C h g (fun _ h g => ?_)
  obtain ⟨n8, h⟩ := h
  obtain ⟨n9, g⟩ := g
  refine ⟨n8, ?_⟩
  refine cj_X8_heatIn_4 k _ _ _ _ _ _ _ h g
theorem cj_X10_heatIn {S : Sh} {K1 K2 K3 : Int → Mm → Prop} {M : Mm} {u0 : Int} {u1 : Int} (k : ∀ (a0 : Int) (m : Mm), K1 a0 m → K2 a0 m → K3 a0 m) (h : wp_X10_heatIn S M u0 u1 K1) (g : wp_X10_heatIn S M u0 u1 K2) : wp_X10_heatIn S M u0 u1 K3 := by
  refine d_Get h g (fun _ h g => ?_)
  refine d_if h g (fun h g => ?_) (fun h g => ?_)
  · skip
    refine d_GetR h g (fun _ h g => ?_)
    refine d_and h g (fun h g => ?_)
    refine cj_X8_heatIn (fun _ _ h g => ?_) h g
    exact k _ _ h g
  · skip
    refine d_C h g (fun _ h g => ?_)
    exact k _ _ h g
theorem cj_X5_isAtPlace {S : Sh} {K1 K2 K3 : Int → Mm → Prop} {M : Mm} {u0 : Int} {u1 : Int} (k : ∀ (a0 : Int) (m : Mm), K1 a0 m → K2 a0 m → K3 a0 m) (h : wp_X5_isAtPlace S M u0 u1 K1) (g : wp_X5_isAtPlace S M u0 u1 K2) : wp_X5_isAtPlace S M u0 u1 K3 := by
  refine d_GetR h g (fun _ h g => ?_)
  refine d_Ld h g (fun _ h g => ?_)
  refine d_if h g (fun h g => ?_) (fun h g => ?_)
  · skip
    refine d_C h g (fun _ h g => ?_)
    refine d_and h g (fun h g => ?_)
    exact k _ _ h g
  · skip
    refine d_C h g (fun _ h g => ?_)
    refine d_and h g (fun h g => ?_)
    exact k _ _ h g
theorem cj_X5_howManyHeld {S : Sh} {K1 K2 K3 : Int → Mm → Prop} {M : Mm} {u0 : Int} {u1 : Int} (k : ∀ (a0 : Int) (m : Mm), K1 a0 m → K2 a0 m → K3 a0 m) (h : wp_X5_howManyHeld S M u0 u1 K1) (g : wp_X5_howManyHeld S M u0 u1 K2) : wp_X5_howManyHeld S M u0 u1 K3 := by
  refine d_and h g (fun h g => ?_)
  refine cj_X5_heldBits (fun _ _ h g => ?_) h g
  refine cj_J6_bitCount_0f7a4 (fun _ _ h g => ?_) h g
  exact k _ _ h g
theorem cj_X10_see_52 {S : Sh} {K1 K2 K3 : Mm → Prop} {M : Mm} {u0 : Int} {u1 : Int} {u2 : Int} {t0 : Int} {t1 : Int} (k : ∀ (m : Mm), K1 m → K2 m → K3 m) (h : wp_X10_see_52 S K1 u0 u1 u2 t0 t1 M) (g : wp_X10_see_52 S K2 u0 u1 u2 t0 t1 M) : wp_X10_see_52 S K3 u0 u1 u2 t0 t1 M := by
  refine d_Put h g (fun _ h g => ?_)
  refine d_and h g (fun h g => ?_)
  refine cj_X5_howManyHeld (fun _ _ h g => ?_) h g
  refine d_Put h g (fun _ h g => ?_)
  exact k _ h g
theorem cj_X10_see {S : Sh} {K1 K2 K3 : Mm → Prop} {M : Mm} {u0 : Int} {u1 : Int} {u2 : Int} {u3 : Int} (k : ∀ (m : Mm), K1 m → K2 m → K3 m) (h : wp_X10_see S M u0 u1 u2 u3 K1) (g : wp_X10_see S M u0 u1 u2 u3 K2) : wp_X10_see S M u0 u1 u2 u3 K3 := by
  refine d_Put h g (fun _ h g => ?_)
  refine d_Put h g (fun _ h g => ?_)
  refine d_GetR h g (fun _ h g => ?_)
  refine d_Ld h g (fun _ h g => ?_)
  refine d_Put h g (fun _ h g => ?_)
  refine d_GetR h g (fun _ h g => ?_)
  refine d_Ld h g (fun _ h g => ?_)
  refine d_Put h g (fun _ h g => ?_)
  refine d_Get h g (fun _ h g => ?_)
  refine d_Put h g (fun _ h g => ?_)
  refine d_and h g (fun h g => ?_)
  refine cj_X5_isAtPlace (fun _ _ h g => ?_) h g
  refine d_if h g (fun h g => ?_) (fun h g => ?_)
  · skip
    refine d_C h g (fun _ h g => ?_)
    refine cj_X10_see_52 k h g
  · skip
    refine d_C h g (fun _ h g => ?_)
    refine cj_X10_see_52 k h g
theorem cj_X10_valueOf {S : Sh} {K1 K2 K3 : Int → Mm → Prop} {M : Mm} {u0 : Int} {u1 : Int} (k : ∀ (a0 : Int) (m : Mm), K1 a0 m → K2 a0 m → K3 a0 m) (h : wp_X10_valueOf S M u0 u1 K1) (g : wp_X10_valueOf S M u0 u1 K2) : wp_X10_valueOf S M u0 u1 K3 := by
  refine d_C h g (fun _ h g => ?_)
  refine d_S h g (fun _ h g => ?_)
  refine d_if h g (fun h g => ?_) (fun h g => ?_)
  · skip
    refine d_Get h g (fun _ h g => ?_)
    refine d_C h g (fun _ h g => ?_)
    exact k _ _ h g
  · skip
    refine d_if h g (fun h g => ?_) (fun h g => ?_)
    · skip
      refine d_GetR h g (fun _ h g => ?_)
      refine d_GetR h g (fun _ h g => ?_)
      refine d_Get h g (fun _ h g => ?_)
      refine d_Ld h g (fun _ h g => ?_)
      refine d_C h g (fun _ h g => ?_)
      exact k _ _ h g
    · skip
      refine d_if h g (fun h g => ?_) (fun h g => ?_)
      · skip
        refine d_Get h g (fun _ h g => ?_)
        refine d_C h g (fun _ h g => ?_)
        exact k _ _ h g
      · skip
        refine d_if h g (fun h g => ?_) (fun h g => ?_)
        · skip
          refine d_Get h g (fun _ h g => ?_)
          refine d_C h g (fun _ h g => ?_)
          exact k _ _ h g
        · skip
          refine d_if h g (fun h g => ?_) (fun h g => ?_)
          · skip
            refine d_Get h g (fun _ h g => ?_)
            refine d_C h g (fun _ h g => ?_)
            exact k _ _ h g
          · skip
            refine d_if h g (fun h g => ?_) (fun h g => ?_)
            · skip
              refine d_Get h g (fun _ h g => ?_)
              refine d_C h g (fun _ h g => ?_)
              exact k _ _ h g
            · skip
              refine d_if h g (fun h g => ?_) (fun h g => ?_)
              · skip
                refine d_Get h g (fun _ h g => ?_)
                refine d_C h g (fun _ h g => ?_)
                exact k _ _ h g
              · skip
                refine d_if h g (fun h g => ?_) (fun h g => ?_)
                · skip
                  refine d_Get h g (fun _ h g => ?_)
                  refine d_C h g (fun _ h g => ?_)
                  exact k _ _ h g
                · skip
                  refine d_if h g (fun h g => ?_) (fun h g => ?_)
                  · skip
                    refine d_Get h g (fun _ h g => ?_)
                    refine d_C h g (fun _ h g => ?_)
                    exact k _ _ h g
                  · skip
                    refine d_Get h g (fun _ h g => ?_)
                    refine d_GetR h g (fun _ h g => ?_)
                    refine d_Get h g (fun _ h g => ?_)
                    refine d_if h g (fun h g => ?_) (fun h g => ?_)
                    · skip
                      refine d_C h g (fun _ h g => ?_)
                      exact k _ _ h g
                    · skip
                      refine d_C h g (fun _ h g => ?_)
                      exact k _ _ h g
theorem cj_X10_joined {S : Sh} {K1 K2 K3 : Int → Mm → Prop} {M : Mm} {u0 : Int} {u1 : Int} {u3 : Int} (k : ∀ (a0 : Int) (m : Mm), K1 a0 m → K2 a0 m → K3 a0 m) (h : wp_X10_joined S M u0 u1 u3 K1) (g : wp_X10_joined S M u0 u1 u3 K2) : wp_X10_joined S M u0 u1 u3 K3 := by
  refine d_if h g (fun h g => ?_) (fun h g => ?_)
  · skip
    refine d_O h g (fun _ h g => ?_)
    exact k _ _ h g
  · skip
    refine d_if h g (fun h g => ?_) (fun h g => ?_)
    · skip
      refine d_O h g (fun _ h g => ?_)
      exact k _ _ h g
    · skip
      refine d_if h g (fun h g => ?_) (fun h g => ?_)
      · skip
        refine d_Cmp h g (fun _ h g => ?_)
        refine d_if h g (fun h g => ?_) (fun h g => ?_)
        · skip
          refine d_C h g (fun _ h g => ?_)
          exact k _ _ h g
        · skip
          refine d_C h g (fun _ h g => ?_)
          exact k _ _ h g
      · skip
        refine d_if h g (fun h g => ?_) (fun h g => ?_)
        · skip
          refine d_Cmp h g (fun _ h g => ?_)
          refine d_if h g (fun h g => ?_) (fun h g => ?_)
          · skip
            refine d_C h g (fun _ h g => ?_)
            exact k _ _ h g
          · skip
            refine d_C h g (fun _ h g => ?_)
            exact k _ _ h g
        · skip
          refine d_if h g (fun h g => ?_) (fun h g => ?_)
          · skip
            refine d_Cmp h g (fun _ h g => ?_)
            refine d_if h g (fun h g => ?_) (fun h g => ?_)
            · skip
              refine d_C h g (fun _ h g => ?_)
              exact k _ _ h g
            · skip
              refine d_C h g (fun _ h g => ?_)
              exact k _ _ h g
          · skip
            refine d_if h g (fun h g => ?_) (fun h g => ?_)
            · skip
              refine d_Cmp h g (fun _ h g => ?_)
              refine d_if h g (fun h g => ?_) (fun h g => ?_)
              · skip
                refine d_C h g (fun _ h g => ?_)
                exact k _ _ h g
              · skip
                refine d_C h g (fun _ h g => ?_)
                exact k _ _ h g
            · skip
              refine d_if h g (fun h g => ?_) (fun h g => ?_)
              · skip
                refine d_Cmp h g (fun _ h g => ?_)
                refine d_if h g (fun h g => ?_) (fun h g => ?_)
                · skip
                  refine d_C h g (fun _ h g => ?_)
                  exact k _ _ h g
                · skip
                  refine d_C h g (fun _ h g => ?_)
                  exact k _ _ h g
              · skip
                refine d_if h g (fun h g => ?_) (fun h g => ?_)
                · skip
                  refine d_LS h g (fun _ h g => ?_)
                  exact k _ _ h g
                · skip
                  refine d_if h g (fun h g => ?_) (fun h g => ?_)
                  · skip
                    refine d_LA h g (fun _ h g => ?_)
                    exact k _ _ h g
                  · skip
                    refine d_if h g (fun h g => ?_) (fun h g => ?_)
                    · skip
                      refine d_C h g (fun _ h g => ?_)
                      refine d_Cmp h g (fun _ h g => ?_)
                      refine d_if h g (fun h g => ?_) (fun h g => ?_)
                      · skip
                        refine d_D h g (fun _ h g => ?_)
                        exact k _ _ h g
                      · skip
                        refine d_C h g (fun _ h g => ?_)
                        exact k _ _ h g
                    · skip
                      refine d_if h g (fun h g => ?_) (fun h g => ?_)
                      · skip
                        refine d_C h g (fun _ h g => ?_)
                        refine d_Cmp h g (fun _ h g => ?_)
                        refine d_if h g (fun h g => ?_) (fun h g => ?_)
                        · skip
                          refine d_D h g (fun _ h g => ?_)
                          exact k _ _ h g
                        · skip
                          refine d_C h g (fun _ h g => ?_)
                          exact k _ _ h g
                      · skip
                        refine d_if h g (fun h g => ?_) (fun h g => ?_)
                        · skip
                          refine d_LM h g (fun _ h g => ?_)
                          exact k _ _ h g
                        · skip
                          refine d_O h g (fun _ h g => ?_)
                          exact k _ _ h g
theorem cj_X10_sumByRule_170 {S : Sh} {k4_1 k4_2 k4_3 : Int → Int → Int → Mm → Prop} {K1 K2 K3 : Int → Mm → Prop} {M : Mm} {u0 : Int} {u1 : Int} {u2 : Int} (kk4 : ∀ (a0 : Int) (a1 : Int) (a2 : Int) (m : Mm), k4_1 a0 a1 a2 m → k4_2 a0 a1 a2 m → k4_3 a0 a1 a2 m) (k : ∀ (a0 : Int) (m : Mm), K1 a0 m → K2 a0 m → K3 a0 m) (h : wp_X10_sumByRule_170 S k4_1 K1 u0 u1 u2 M) (g : wp_X10_sumByRule_170 S k4_2 K2 u0 u1 u2 M) : wp_X10_sumByRule_170 S k4_3 K3 u0 u1 u2 M := by
  refine d_A h g (fun _ h g => ?_)
  exact kk4 _ _ _ _ h g
theorem cj_X10_sumByRule_58 {S : Sh} {k4_1 k4_2 k4_3 : Int → Int → Int → Mm → Prop} {K1 K2 K3 : Int → Mm → Prop} {M : Mm} {u0 : Int} {u1 : Int} {u2 : Int} {t0 : Int} {t1 : Int} {t2 : Int} (kk4 : ∀ (a0 : Int) (a1 : Int) (a2 : Int) (m : Mm), k4_1 a0 a1 a2 m → k4_2 a0 a1 a2 m → k4_3 a0 a1 a2 m) (k : ∀ (a0 : Int) (m : Mm), K1 a0 m → K2 a0 m → K3 a0 m) (h : wp_X10_sumByRule_58 S k4_1 K1 u0 u1 u2 t0 t1 t2 M) (g : wp_X10_sumByRule_58 S k4_2 K2 u0 u1 u2 t0 t1 t2 M) : wp_X10_sumByRule_58 S k4_3 K3 u0 u1 u2 t0 t1 t2 M := by
  refine d_St h g (fun _ h g => ?_)
  refine cj_X10_sumByRule_170 kk4 k h g
theorem cj_X10_sumByRule_4 {S : Sh} {K1 K2 K3 : Int → Mm → Prop} (k : ∀ (a0 : Int) (m : Mm), K1 a0 m → K2 a0 m → K3 a0 m) : ∀ (n n9 : Nat) (u0 : Int) (u1 : Int) (u2 : Int) (M : Mm), wp_X10_sumByRule_4 S K1 n u0 u1 u2 M → wp_X10_sumByRule_4 S K2 n9 u0 u1 u2 M → wp_X10_sumByRule_4 S K3 n u0 u1 u2 M := by
  intro n
  induction n with
  | zero => intro n9 u0 u1 u2 M h g; exact h
  | succ n ih =>
    intro n9 u0 u1 u2 M h g
    cases n9 with
    | zero => exact absurd g (fun z => z)
    | succ n9 =>
      refine d_GetR h g (fun _ h g => ?_)
      refine d_Len h g (fun _ h g => ?_)
      refine d_if h g (fun h g => ?_) (fun h g => ?_)
      · skip
        refine d_C h g (fun _ h g => ?_)
        exact k _ _ h g
      · skip
        refine d_GetR h g (fun _ h g => ?_)
        refine d_Ld h g (fun _ h g => ?_)
        refine d_C h g (fun _ h g => ?_)
        refine d_if h g (fun h g => ?_) (fun h g => ?_)
        · skip
          refine d_if h g (fun h g => ?_) (fun h g => ?_)
          · skip
            refine d_C h g (fun _ h g => ?_)
            refine d_if h g (fun h g => ?_) (fun h g => ?_)
            · skip
              refine d_C h g (fun _ h g => ?_)
              refine d_if h g (fun h g => ?_) (fun h g => ?_)
              · skip
                refine d_C h g (fun _ h g => ?_)
                refine d_if h g (fun h g => ?_) (fun h g => ?_)
                · skip
                  refine d_C h g (fun _ h g => ?_)
                  refine d_if h g (fun h g => ?_) (fun h g => ?_)
                  · skip
                    refine d_A h g (fun _ h g => ?_)
                    refine d_GetR h g (fun _ h g => ?_)
                    refine d_GetR h g (fun _ h g => ?_)
                    refine d_Ld h g (fun _ h g => ?_)
                    refine d_GetR h g (fun _ h g => ?_)
                    refine d_C h g (fun _ h g => ?_)
                    refine d_A h g (fun _ h g => ?_)
                    refine d_Ld h g (fun _ h g => ?_)
                    refine cj_X10_joined (fun _ _ h g => ?_) h g
                    refine d_St h g (fun _ h g => ?_)
                    refine cj_X10_sumByRule_170 (fun _ _ _ _ h g => ?_) k h g
                    exact ih _ _ _ _ _ h g
                  · skip
                    refine d_GetR h g (fun _ h g => ?_)
                    refine d_Ld h g (fun _ h g => ?_)
                    refine d_C h g (fun _ h g => ?_)
                    refine d_Cmp h g (fun _ h g => ?_)
                    refine d_if h g (fun h g => ?_) (fun h g => ?_)
                    · skip
                      refine d_A h g (fun _ h g => ?_)
                      refine cj_X10_sumByRule_170 (fun _ _ _ _ h g => ?_) k h g
                      exact ih _ _ _ _ _ h g
                    · skip
                      refine d_GetR h g (fun _ h g => ?_)
                      refine d_C h g (fun _ h g => ?_)
                      refine d_S h g (fun _ h g => ?_)
                      refine d_Ld h g (fun _ h g => ?_)
                      exact k _ _ h g
                · skip
                  refine d_C h g (fun _ h g => ?_)
                  exact k _ _ h g
              · skip
                refine d_GetR h g (fun _ h g => ?_)
                refine d_C h g (fun _ h g => ?_)
                refine d_GetR h g (fun _ h g => ?_)
                refine d_Ld h g (fun _ h g => ?_)
                refine d_LS h g (fun _ h g => ?_)
                refine d_St h g (fun _ h g => ?_)
                refine cj_X10_sumByRule_170 (fun _ _ _ _ h g => ?_) k h g
                exact ih _ _ _ _ _ h g
            · skip
              refine d_GetR h g (fun _ h g => ?_)
              refine d_Ld h g (fun _ h g => ?_)
              exact k _ _ h g
          · skip
            refine d_C h g (fun _ h g => ?_)
            exact k _ _ h g
        · skip
          refine d_C h g (fun _ h g => ?_)
          refine d_A h g (fun _ h g => ?_)
          refine d_C h g (fun _ h g => ?_)
          refine d_if h g (fun h g => ?_) (fun h g => ?_)
          · skip
            refine d_A h g (fun _ h g => ?_)
            refine d_GetR h g (fun _ h g => ?_)
            refine d_if h g (fun h g => ?_) (fun h g => ?_)
            · skip
              refine d_and h g (fun h g => ?_)
              refine cj_X10_valueOf (fun _ _ h g => ?_) h g
              refine cj_X10_sumByRule_58 (fun _ _ _ _ h g => ?_) k h g
              exact ih _ _ _ _ _ h g
            · skip
              refine d_C h g (fun _ h g => ?_)
              refine cj_X10_sumByRule_58 (fun _ _ _ _ h g => ?_) k h g
              exact ih _ _ _ _ _ h g
          · skip
            refine d_C h g (fun _ h g => ?_)
            exact k _ _ h g
theorem cj_X10_sumByRule {S : Sh} {K1 K2 K3 : Int → Mm → Prop} {M : Mm} {u0 : Int} (k : ∀ (a0 : Int) (m : Mm), K1 a0 m → K2 a0 m → K3 a0 m) (h : wp_X10_sumByRule S M u0 K1) (g : wp_X10_sumByRule S M u0 K2) : wp_X10_sumByRule S M u0 K3 := by
  refine d_C h g (fun _ h g => ?_)
  refine d_C h g (fun _ h g => ?_)
  obtain ⟨n8, h⟩ := h
  obtain ⟨n9, g⟩ := g
  refine ⟨n8, ?_⟩
  refine cj_X10_sumByRule_4 k _ _ _ _ _ _ h g
theorem cj_X10_turns {S : Sh} {K1 K2 K3 : Int → Mm → Prop} {M : Mm} {u0 : Int} (k : ∀ (a0 : Int) (m : Mm), K1 a0 m → K2 a0 m → K3 a0 m) (h : wp_X10_turns S M u0 K1) (g : wp_X10_turns S M u0 K2) : wp_X10_turns S M u0 K3 := by
  refine d_Get h g (fun _ h g => ?_)
  refine d_and h g (fun h g => ?_)
  refine cj_X10_heatIn (fun _ _ h g => ?_) h g
  refine d_Put h g (fun _ h g => ?_)
  refine d_GetR h g (fun _ h g => ?_)
  refine d_Len h g (fun _ h g => ?_)
  refine d_if h g (fun h g => ?_) (fun h g => ?_)
  · skip
    refine d_C h g (fun _ h g => ?_)
    refine d_C h g (fun _ h g => ?_)
    refine d_and h g (fun h g => ?_)
    refine cj_X10_sumByRule (fun _ _ h g => ?_) h g
    refine d_O h g (fun _ h g => ?_)
    refine d_O h g (fun _ h g => ?_)
    refine d_O1 h g (fun _ h g => ?_)
    exact k _ _ h g
  · skip
    refine d_GetR h g (fun _ h g => ?_)
    refine d_GetR h g (fun _ h g => ?_)
    refine d_Get h g (fun _ h g => ?_)
    refine d_Ld h g (fun _ h g => ?_)
    refine d_Get h g (fun _ h g => ?_)
    refine d_C h g (fun _ h g => ?_)
    refine d_D h g (fun _ h g => ?_)
    refine d_A h g (fun _ h g => ?_)
    refine d_Get h g (fun _ h g => ?_)
    refine d_A h g (fun _ h g => ?_)
    exact k _ _ h g
theorem cj_X1_turnsIn {S : Sh} {K1 K2 K3 : Int → Mm → Prop} {M : Mm} {u0 : Int} {u1 : Int} {u2 : Int} (k : ∀ (a0 : Int) (m : Mm), K1 a0 m → K2 a0 m → K3 a0 m) (h : wp_X1_turnsIn S M u0 u1 u2 K1) (g : wp_X1_turnsIn S M u0 u1 u2 K2) : wp_X1_turnsIn S M u0 u1 u2 K3 := by
  refine d_and h g (fun h g => ?_)
  refine cj_X5_stands (fun _ _ h g => ?_) h g
  refine d_if h g (fun h g => ?_) (fun h g => ?_)
  · skip
    refine d_and h g (fun h g => ?_)
    refine cj_X5_isGone (fun _ _ h g => ?_) h g
    refine d_if h g (fun h g => ?_) (fun h g => ?_)
    · skip
      refine d_GetR h g (fun _ h g => ?_)
      refine d_GetR h g (fun _ h g => ?_)
      refine d_Ld h g (fun _ h g => ?_)
      refine d_and h g (fun h g => ?_)
      refine cj_X10_see (fun _ h g => ?_) h g
      refine d_GetR h g (fun _ h g => ?_)
      refine d_and h g (fun h g => ?_)
      refine cj_X10_turns (fun _ _ h g => ?_) h g
      exact k _ _ h g
    · skip
      refine d_C h g (fun _ h g => ?_)
      exact k _ _ h g
  · skip
    refine d_GetR h g (fun _ h g => ?_)
    refine d_Get h g (fun _ h g => ?_)
    refine d_GetR h g (fun _ h g => ?_)
    refine d_Get h g (fun _ h g => ?_)
    refine d_and h g (fun h g => ?_)
    refine cj_X10_heatIn (fun _ _ h g => ?_) h g
    refine d_A h g (fun _ h g => ?_)
    exact k _ _ h g
theorem cj_X5_tire {S : Sh} {K1 K2 K3 : Mm → Prop} {M : Mm} {u0 : Int} {u1 : Int} {u2 : Int} (k : ∀ (m : Mm), K1 m → K2 m → K3 m) (h : wp_X5_tire S M u0 u1 u2 K1) (g : wp_X5_tire S M u0 u1 u2 K2) : wp_X5_tire S M u0 u1 u2 K3 := by
  refine d_and h g (fun h g => ?_)
  refine cj_X5_heldBits (fun _ _ h g => ?_) h g
  refine d_if h g (fun h g => ?_) (fun h g => ?_)
  · skip
    refine d_GetR h g (fun _ h g => ?_)
    refine d_C h g (fun _ h g => ?_)
    refine d_GetR h g (fun _ h g => ?_)
    refine d_Ld h g (fun _ h g => ?_)
    refine d_C h g (fun _ h g => ?_)
    refine d_S h g (fun _ h g => ?_)
    refine d_O h g (fun _ h g => ?_)
    refine d_St h g (fun _ h g => ?_)
    exact k _ h g
  · skip
    refine d_GetR h g (fun _ h g => ?_)
    refine d_C h g (fun _ h g => ?_)
    refine d_GetR h g (fun _ h g => ?_)
    refine d_Ld h g (fun _ h g => ?_)
    refine d_A h g (fun _ h g => ?_)
    refine d_O h g (fun _ h g => ?_)
    refine d_St h g (fun _ h g => ?_)
    exact k _ h g
theorem cj_X1_pass_83 {S : Sh} {K1 K2 K3 : Int → Mm → Prop} (k : ∀ (a0 : Int) (m : Mm), K1 a0 m → K2 a0 m → K3 a0 m) : ∀ (n n9 : Nat) (u0 : Int) (u1 : Int) (u2 : Int) (u3 : Int) (M : Mm), wp_X1_pass_83 S K1 n u0 u1 u2 u3 M → wp_X1_pass_83 S K2 n9 u0 u1 u2 u3 M → wp_X1_pass_83 S K3 n u0 u1 u2 u3 M := by
  intro n
  induction n with
  | zero => intro n9 u0 u1 u2 u3 M h g; exact h
  | succ n ih =>
    intro n9 u0 u1 u2 u3 M h g
    cases n9 with
    | zero => exact absurd g (fun z => z)
    | succ n9 =>
      refine d_GetR h g (fun _ h g => ?_)
      refine d_Get h g (fun _ h g => ?_)
      refine d_if h g (fun h g => ?_) (fun h g => ?_)
      · skip
        refine d_C h g (fun _ h g => ?_)
        refine d_Get h g (fun _ h g => ?_)
        refine d_C h g (fun _ h g => ?_)
        refine d_A h g (fun _ h g => ?_)
        refine d_O h g (fun _ h g => ?_)
        refine d_Put h g (fun _ h g => ?_)
        exact k _ _ h g
      · skip
        refine d_GetR h g (fun _ h g => ?_)
        refine d_GetR h g (fun _ h g => ?_)
        refine d_Ld h g (fun _ h g => ?_)
        refine d_and h g (fun h g => ?_)
        refine cj_X5_tire (fun _ h g => ?_) h g
        refine d_GetR h g (fun _ h g => ?_)
        refine d_C h g (fun _ h g => ?_)
        refine d_GetR h g (fun _ h g => ?_)
        refine d_Ld h g (fun _ h g => ?_)
        refine d_C h g (fun _ h g => ?_)
        refine d_S h g (fun _ h g => ?_)
        refine d_O h g (fun _ h g => ?_)
        refine d_St h g (fun _ h g => ?_)
        refine d_A h g (fun _ h g => ?_)
        exact ih _ _ _ _ _ _ h g
theorem cj_X1_pass_75 {S : Sh} {k4_1 k4_2 k4_3 : Int → Int → Int → Int → Mm → Prop} {K1 K2 K3 : Int → Mm → Prop} {M : Mm} {u0 : Int} {u1 : Int} {u2 : Int} {u3 : Int} (kk4 : ∀ (a0 : Int) (a1 : Int) (a2 : Int) (a3 : Int) (m : Mm), k4_1 a0 a1 a2 a3 m → k4_2 a0 a1 a2 a3 m → k4_3 a0 a1 a2 a3 m) (k : ∀ (a0 : Int) (m : Mm), K1 a0 m → K2 a0 m → K3 a0 m) (h : wp_X1_pass_75 S k4_1 K1 u0 u1 u2 u3 M) (g : wp_X1_pass_75 S k4_2 K2 u0 u1 u2 u3 M) : wp_X1_pass_75 S k4_3 K3 u0 u1 u2 u3 M := by
  refine d_A h g (fun _ h g => ?_)
  exact kk4 _ _ _ _ _ h g
theorem cj_X1_pass_4 {S : Sh} {K1 K2 K3 : Int → Mm → Prop} (k : ∀ (a0 : Int) (m : Mm), K1 a0 m → K2 a0 m → K3 a0 m) : ∀ (n n9 : Nat) (u0 : Int) (u1 : Int) (u2 : Int) (u3 : Int) (M : Mm), wp_X1_pass_4 S K1 n u0 u1 u2 u3 M → wp_X1_pass_4 S K2 n9 u0 u1 u2 u3 M → wp_X1_pass_4 S K3 n u0 u1 u2 u3 M := by
  intro n
  induction n with
  | zero => intro n9 u0 u1 u2 u3 M h g; exact h
  | succ n ih =>
    intro n9 u0 u1 u2 u3 M h g
    cases n9 with
    | zero => exact absurd g (fun z => z)
    | succ n9 =>
      refine d_GetR h g (fun _ h g => ?_)
      refine d_Get h g (fun _ h g => ?_)
      refine d_if h g (fun h g => ?_) (fun h g => ?_)
      · skip
        refine d_C h g (fun _ h g => ?_)
        obtain ⟨n8, h⟩ := h
        obtain ⟨n9, g⟩ := g
        refine ⟨n8, ?_⟩
        refine cj_X1_pass_83 k _ _ _ _ _ _ _ h g
      · skip
        refine d_GetR h g (fun _ h g => ?_)
        refine d_Ld h g (fun _ h g => ?_)
        refine d_GetR h g (fun _ h g => ?_)
        refine d_C h g (fun _ h g => ?_)
        refine d_and h g (fun h g => ?_)
        refine cj_X1_turnsIn (fun _ _ h g => ?_) h g
        refine d_A h g (fun _ h g => ?_)
        refine d_O h g (fun _ h g => ?_)
        refine d_St h g (fun _ h g => ?_)
        refine d_GetR h g (fun _ h g => ?_)
        refine d_Get h g (fun _ h g => ?_)
        refine d_if h g (fun h g => ?_) (fun h g => ?_)
        · skip
          refine cj_X1_pass_75 (fun _ _ _ _ _ h g => ?_) k h g
          exact ih _ _ _ _ _ _ h g
        · skip
          refine d_GetR h g (fun _ h g => ?_)
          refine d_Ld h g (fun _ h g => ?_)
          refine d_GetR h g (fun _ h g => ?_)
          refine d_Get h g (fun _ h g => ?_)
          refine d_if h g (fun h g => ?_) (fun h g => ?_)
          · skip
            refine cj_X1_pass_75 (fun _ _ _ _ _ h g => ?_) k h g
            exact ih _ _ _ _ _ _ h g
          · skip
            refine d_A h g (fun _ h g => ?_)
            refine cj_X1_pass_75 (fun _ _ _ _ _ h g => ?_) k h g
            exact ih _ _ _ _ _ _ h g
theorem cj_X1_pass {S : Sh} {K1 K2 K3 : Int → Mm → Prop} {M : Mm} {u0 : Int} {u1 : Int} (k : ∀ (a0 : Int) (m : Mm), K1 a0 m → K2 a0 m → K3 a0 m) (h : wp_X1_pass S M u0 u1 K1) (g : wp_X1_pass S M u0 u1 K2) : wp_X1_pass S M u0 u1 K3 := by
  refine d_C h g (fun _ h g => ?_)
  refine d_C h g (fun _ h g => ?_)
  obtain ⟨n8, h⟩ := h
  obtain ⟨n9, g⟩ := g
  refine ⟨n8, ?_⟩
  refine cj_X1_pass_4 k _ _ _ _ _ _ _ h g
theorem cj_X11_hour {S : Sh} {K1 K2 K3 : Int → Mm → Prop} {M : Mm} {u0 : Int} (k : ∀ (a0 : Int) (m : Mm), K1 a0 m → K2 a0 m → K3 a0 m) (h : wp_X11_hour S M u0 K1) (g : wp_X11_hour S M u0 K2) : wp_X11_hour S M u0 K3 := by
  refine d_GetR h g (fun _ h g => ?_)
  refine d_GetR h g (fun _ h g => ?_)
  refine d_Get h g (fun _ h g => ?_)
  refine d_if h g (fun h g => ?_) (fun h g => ?_)
  · skip
    refine d_C h g (fun _ h g => ?_)
    exact k _ _ h g
  · skip
    refine d_GetR h g (fun _ h g => ?_)
    refine d_GetR h g (fun _ h g => ?_)
    refine d_Get h g (fun _ h g => ?_)
    refine d_C h g (fun _ h g => ?_)
    refine d_if h g (fun h g => ?_) (fun h g => ?_)
    · skip
      refine d_and h g (fun h g => ?_)
      refine cj_X11_keepPast (fun _ h g => ?_) h g
      refine d_GetR h g (fun _ h g => ?_)
      refine d_GetR h g (fun _ h g => ?_)
      refine d_GetR h g (fun _ h g => ?_)
      refine d_and h g (fun h g => ?_)
      refine cj_X1_pass (fun _ _ h g => ?_) h g
      exact k _ _ h g
    · skip
      refine d_C h g (fun _ h g => ?_)
      exact k _ _ h g
theorem cj_X5_canHoldMore {S : Sh} {K1 K2 K3 : Int → Mm → Prop} {M : Mm} {u0 : Int} {u1 : Int} (k : ∀ (a0 : Int) (m : Mm), K1 a0 m → K2 a0 m → K3 a0 m) (h : wp_X5_canHoldMore S M u0 u1 K1) (g : wp_X5_canHoldMore S M u0 u1 K2) : wp_X5_canHoldMore S M u0 u1 K3 := by
  refine d_and h g (fun h g => ?_)
  refine cj_X5_isAtPlace (fun _ _ h g => ?_) h g
  refine d_if h g (fun h g => ?_) (fun h g => ?_)
  · skip
    refine d_C h g (fun _ h g => ?_)
    refine d_and h g (fun h g => ?_)
    exact k _ _ h g
  · skip
    refine d_and h g (fun h g => ?_)
    refine cj_X5_howManyHeld (fun _ _ h g => ?_) h g
    refine d_C h g (fun _ h g => ?_)
    refine d_if h g (fun h g => ?_) (fun h g => ?_)
    · skip
      refine d_C h g (fun _ h g => ?_)
      refine d_and h g (fun h g => ?_)
      exact k _ _ h g
    · skip
      refine d_C h g (fun _ h g => ?_)
      refine d_and h g (fun h g => ?_)
      exact k _ _ h g
theorem cj_X5_canTake {S : Sh} {K1 K2 K3 : Int → Mm → Prop} {M : Mm} {u0 : Int} {u1 : Int} {u2 : Int} (k : ∀ (a0 : Int) (m : Mm), K1 a0 m → K2 a0 m → K3 a0 m) (h : wp_X5_canTake S M u0 u1 u2 K1) (g : wp_X5_canTake S M u0 u1 u2 K2) : wp_X5_canTake S M u0 u1 u2 K3 := by
  refine d_and h g (fun h g => ?_)
  refine cj_X5_stands (fun _ _ h g => ?_) h g
  refine d_if h g (fun h g => ?_) (fun h g => ?_)
  · skip
    refine d_C h g (fun _ h g => ?_)
    refine d_and h g (fun h g => ?_)
    exact k _ _ h g
  · skip
    refine d_GetR h g (fun _ h g => ?_)
    refine d_Ld h g (fun _ h g => ?_)
    refine d_GetR h g (fun _ h g => ?_)
    refine d_Ld h g (fun _ h g => ?_)
    refine d_if h g (fun h g => ?_) (fun h g => ?_)
    · skip
      refine d_C h g (fun _ h g => ?_)
      refine d_and h g (fun h g => ?_)
      exact k _ _ h g
    · skip
      refine d_and h g (fun h g => ?_)
      refine cj_X5_canHoldMore (fun _ _ h g => ?_) h g
      refine d_if h g (fun h g => ?_) (fun h g => ?_)
      · skip
        refine d_C h g (fun _ h g => ?_)
        refine d_and h g (fun h g => ?_)
        exact k _ _ h g
      · skip
        refine d_C h g (fun _ h g => ?_)
        refine d_and h g (fun h g => ?_)
        exact k _ _ h g
theorem cj_X5_giveTo {S : Sh} {K1 K2 K3 : Mm → Prop} {M : Mm} {u0 : Int} {u1 : Int} {u2 : Int} (k : ∀ (m : Mm), K1 m → K2 m → K3 m) (h : wp_X5_giveTo S M u0 u1 u2 K1) (g : wp_X5_giveTo S M u0 u1 u2 K2) : wp_X5_giveTo S M u0 u1 u2 K3 := by
  refine d_GetR h g (fun _ h g => ?_)
  refine d_St h g (fun _ h g => ?_)
  refine d_GetR h g (fun _ h g => ?_)
  refine d_C h g (fun _ h g => ?_)
  refine d_St h g (fun _ h g => ?_)
  exact k _ h g
theorem cj_X11_take {S : Sh} {K1 K2 K3 : Int → Mm → Prop} {M : Mm} {u0 : Int} {u1 : Int} {u2 : Int} (k : ∀ (a0 : Int) (m : Mm), K1 a0 m → K2 a0 m → K3 a0 m) (h : wp_X11_take S M u0 u1 u2 K1) (g : wp_X11_take S M u0 u1 u2 K2) : wp_X11_take S M u0 u1 u2 K3 := by
  refine d_and h g (fun h g => ?_)
  refine cj_X11_isHand (fun _ _ h g => ?_) h g
  refine d_if h g (fun h g => ?_) (fun h g => ?_)
  · skip
    refine d_C h g (fun _ h g => ?_)
    exact k _ _ h g
  · skip
    refine d_and h g (fun h g => ?_)
    refine cj_X11_isJug (fun _ _ h g => ?_) h g
    refine d_if h g (fun h g => ?_) (fun h g => ?_)
    · skip
      refine d_C h g (fun _ h g => ?_)
      exact k _ _ h g
    · skip
      refine d_GetR h g (fun _ h g => ?_)
      refine d_GetR h g (fun _ h g => ?_)
      refine d_and h g (fun h g => ?_)
      refine cj_X5_canTake (fun _ _ h g => ?_) h g
      refine d_if h g (fun h g => ?_) (fun h g => ?_)
      · skip
        refine d_and h g (fun h g => ?_)
        refine cj_X11_keepPast (fun _ h g => ?_) h g
        refine d_GetR h g (fun _ h g => ?_)
        refine d_GetR h g (fun _ h g => ?_)
        refine d_and h g (fun h g => ?_)
        refine cj_X5_giveTo (fun _ h g => ?_) h g
        refine d_GetR h g (fun _ h g => ?_)
        refine d_GetR h g (fun _ h g => ?_)
        refine d_and h g (fun h g => ?_)
        refine cj_X5_heldBits (fun _ _ h g => ?_) h g
        exact k _ _ h g
      · skip
        refine d_C h g (fun _ h g => ?_)
        exact k _ _ h g
theorem cj_X11_put {S : Sh} {K1 K2 K3 : Int → Mm → Prop} {M : Mm} {u0 : Int} {u1 : Int} {u2 : Int} (k : ∀ (a0 : Int) (m : Mm), K1 a0 m → K2 a0 m → K3 a0 m) (h : wp_X11_put S M u0 u1 u2 K1) (g : wp_X11_put S M u0 u1 u2 K2) : wp_X11_put S M u0 u1 u2 K3 := by
  refine d_and h g (fun h g => ?_)
  refine cj_X11_isHand (fun _ _ h g => ?_) h g
  refine d_if h g (fun h g => ?_) (fun h g => ?_)
  · skip
    refine d_C h g (fun _ h g => ?_)
    exact k _ _ h g
  · skip
    refine d_and h g (fun h g => ?_)
    refine cj_X11_isJug (fun _ _ h g => ?_) h g
    refine d_if h g (fun h g => ?_) (fun h g => ?_)
    · skip
      refine d_C h g (fun _ h g => ?_)
      exact k _ _ h g
    · skip
      refine d_GetR h g (fun _ h g => ?_)
      refine d_GetR h g (fun _ h g => ?_)
      refine d_and h g (fun h g => ?_)
      refine cj_X5_isAtPlace (fun _ _ h g => ?_) h g
      refine d_if h g (fun h g => ?_) (fun h g => ?_)
      · skip
        refine d_GetR h g (fun _ h g => ?_)
        refine d_GetR h g (fun _ h g => ?_)
        refine d_GetR h g (fun _ h g => ?_)
        refine d_Ld h g (fun _ h g => ?_)
        refine d_if h g (fun h g => ?_) (fun h g => ?_)
        · skip
          refine d_and h g (fun h g => ?_)
          refine cj_X11_keepPast (fun _ h g => ?_) h g
          refine d_GetR h g (fun _ h g => ?_)
          refine d_GetR h g (fun _ h g => ?_)
          refine d_GetR h g (fun _ h g => ?_)
          refine d_C h g (fun _ h g => ?_)
          refine d_St h g (fun _ h g => ?_)
          refine d_GetR h g (fun _ h g => ?_)
          refine d_GetR h g (fun _ h g => ?_)
          refine d_GetR h g (fun _ h g => ?_)
          refine d_GetR h g (fun _ h g => ?_)
          refine d_GetR h g (fun _ h g => ?_)
          refine d_GetR h g (fun _ h g => ?_)
          refine d_Ld h g (fun _ h g => ?_)
          refine d_St h g (fun _ h g => ?_)
          refine d_GetR h g (fun _ h g => ?_)
          refine d_GetR h g (fun _ h g => ?_)
          refine d_GetR h g (fun _ h g => ?_)
          refine d_Ld h g (fun _ h g => ?_)
          exact k _ _ h g
        · skip
          refine d_C h g (fun _ h g => ?_)
          exact k _ _ h g
      · skip
        refine d_C h g (fun _ h g => ?_)
        exact k _ _ h g
theorem cj_X5_canGive {S : Sh} {K1 K2 K3 : Int → Mm → Prop} {M : Mm} {u0 : Int} {u1 : Int} {u2 : Int} (k : ∀ (a0 : Int) (m : Mm), K1 a0 m → K2 a0 m → K3 a0 m) (h : wp_X5_canGive S M u0 u1 u2 K1) (g : wp_X5_canGive S M u0 u1 u2 K2) : wp_X5_canGive S M u0 u1 u2 K3 := by
  refine d_and h g (fun h g => ?_)
  refine cj_X5_isAtPlace (fun _ _ h g => ?_) h g
  refine d_if h g (fun h g => ?_) (fun h g => ?_)
  · skip
    refine d_C h g (fun _ h g => ?_)
    refine d_and h g (fun h g => ?_)
    exact k _ _ h g
  · skip
    refine d_GetR h g (fun _ h g => ?_)
    refine d_Ld h g (fun _ h g => ?_)
    refine d_GetR h g (fun _ h g => ?_)
    refine d_Ld h g (fun _ h g => ?_)
    refine d_if h g (fun h g => ?_) (fun h g => ?_)
    · skip
      refine d_C h g (fun _ h g => ?_)
      refine d_and h g (fun h g => ?_)
      exact k _ _ h g
    · skip
      refine d_and h g (fun h g => ?_)
      refine cj_X5_canHoldMore (fun _ _ h g => ?_) h g
      refine d_if h g (fun h g => ?_) (fun h g => ?_)
      · skip
        refine d_C h g (fun _ h g => ?_)
        refine d_and h g (fun h g => ?_)
        exact k _ _ h g
      · skip
        refine d_C h g (fun _ h g => ?_)
        refine d_and h g (fun h g => ?_)
        exact k _ _ h g
theorem cj_X11_handOn {S : Sh} {K1 K2 K3 : Int → Mm → Prop} {M : Mm} {u0 : Int} {u1 : Int} {u2 : Int} (k : ∀ (a0 : Int) (m : Mm), K1 a0 m → K2 a0 m → K3 a0 m) (h : wp_X11_handOn S M u0 u1 u2 K1) (g : wp_X11_handOn S M u0 u1 u2 K2) : wp_X11_handOn S M u0 u1 u2 K3 := by
  refine d_and h g (fun h g => ?_)
  refine cj_X11_isHand (fun _ _ h g => ?_) h g
  refine d_if h g (fun h g => ?_) (fun h g => ?_)
  · skip
    refine d_C h g (fun _ h g => ?_)
    exact k _ _ h g
  · skip
    refine d_and h g (fun h g => ?_)
    refine cj_X11_isJug (fun _ _ h g => ?_) h g
    refine d_if h g (fun h g => ?_) (fun h g => ?_)
    · skip
      refine d_GetR h g (fun _ h g => ?_)
      refine d_GetR h g (fun _ h g => ?_)
      refine d_GetR h g (fun _ h g => ?_)
      refine d_Ld h g (fun _ h g => ?_)
      refine d_and h g (fun h g => ?_)
      refine cj_X11_isHand (fun _ _ h g => ?_) h g
      refine d_if h g (fun h g => ?_) (fun h g => ?_)
      · skip
        refine d_C h g (fun _ h g => ?_)
        exact k _ _ h g
      · skip
        refine d_if h g (fun h g => ?_) (fun h g => ?_)
        · skip
          refine d_C h g (fun _ h g => ?_)
          exact k _ _ h g
        · skip
          refine d_GetR h g (fun _ h g => ?_)
          refine d_GetR h g (fun _ h g => ?_)
          refine d_and h g (fun h g => ?_)
          refine cj_X5_canGive (fun _ _ h g => ?_) h g
          refine d_if h g (fun h g => ?_) (fun h g => ?_)
          · skip
            refine d_and h g (fun h g => ?_)
            refine cj_X11_keepPast (fun _ h g => ?_) h g
            refine d_GetR h g (fun _ h g => ?_)
            refine d_GetR h g (fun _ h g => ?_)
            refine d_and h g (fun h g => ?_)
            refine cj_X5_giveTo (fun _ h g => ?_) h g
            exact k _ _ h g
          · skip
            refine d_C h g (fun _ h g => ?_)
            exact k _ _ h g
    · skip
      refine d_C h g (fun _ h g => ?_)
      exact k _ _ h g
theorem cj_X11_isPlace {S : Sh} {K1 K2 K3 : Int → Mm → Prop} {M : Mm} {u0 : Int} {u1 : Int} (k : ∀ (a0 : Int) (m : Mm), K1 a0 m → K2 a0 m → K3 a0 m) (h : wp_X11_isPlace S M u0 u1 K1) (g : wp_X11_isPlace S M u0 u1 K2) : wp_X11_isPlace S M u0 u1 K3 := by
  refine d_if h g (fun h g => ?_) (fun h g => ?_)
  · skip
    refine d_C h g (fun _ h g => ?_)
    refine d_and h g (fun h g => ?_)
    exact k _ _ h g
  · skip
    refine d_GetR h g (fun _ h g => ?_)
    refine d_GetR h g (fun _ h g => ?_)
    refine d_Get h g (fun _ h g => ?_)
    refine d_if h g (fun h g => ?_) (fun h g => ?_)
    · skip
      refine d_C h g (fun _ h g => ?_)
      refine d_and h g (fun h g => ?_)
      exact k _ _ h g
    · skip
      refine d_C h g (fun _ h g => ?_)
      refine d_and h g (fun h g => ?_)
      exact k _ _ h g
theorem cj_X5_roadFor {S : Sh} {K1 K2 K3 : Int → Mm → Prop} {M : Mm} {u0 : Int} {u1 : Int} {u2 : Int} {u3 : Int} (k : ∀ (a0 : Int) (m : Mm), K1 a0 m → K2 a0 m → K3 a0 m) (h : wp_X5_roadFor S M u0 u1 u2 u3 K1) (g : wp_X5_roadFor S M u0 u1 u2 u3 K2) : wp_X5_roadFor S M u0 u1 u2 u3 K3 := by
  refine d_and h g (fun h g => ?_)
  refine cj_X5_isAtPlace (fun _ _ h g => ?_) h g
  refine d_if h g (fun h g => ?_) (fun h g => ?_)
  · skip
    refine d_C h g (fun _ h g => ?_)
    exact k _ _ h g
  · skip
    refine d_GetR h g (fun _ h g => ?_)
    refine d_Ld h g (fun _ h g => ?_)
    refine d_and h g (fun h g => ?_)
    refine cj_X8_roadHours (fun _ _ h g => ?_) h g
    exact k _ _ h g
theorem cj_X5_setOut {S : Sh} {K1 K2 K3 : Mm → Prop} {M : Mm} {u0 : Int} {u1 : Int} {u2 : Int} {u3 : Int} (k : ∀ (m : Mm), K1 m → K2 m → K3 m) (h : wp_X5_setOut S M u0 u1 u2 u3 K1) (g : wp_X5_setOut S M u0 u1 u2 u3 K2) : wp_X5_setOut S M u0 u1 u2 u3 K3 := by
  refine d_GetR h g (fun _ h g => ?_)
  refine d_St h g (fun _ h g => ?_)
  refine d_GetR h g (fun _ h g => ?_)
  refine d_St h g (fun _ h g => ?_)
  exact k _ h g
theorem cj_X11_go {S : Sh} {K1 K2 K3 : Int → Mm → Prop} {M : Mm} {u0 : Int} {u1 : Int} {u2 : Int} (k : ∀ (a0 : Int) (m : Mm), K1 a0 m → K2 a0 m → K3 a0 m) (h : wp_X11_go S M u0 u1 u2 K1) (g : wp_X11_go S M u0 u1 u2 K2) : wp_X11_go S M u0 u1 u2 K3 := by
  refine d_and h g (fun h g => ?_)
  refine cj_X11_isHand (fun _ _ h g => ?_) h g
  refine d_if h g (fun h g => ?_) (fun h g => ?_)
  · skip
    refine d_C h g (fun _ h g => ?_)
    exact k _ _ h g
  · skip
    refine d_and h g (fun h g => ?_)
    refine cj_X11_isPlace (fun _ _ h g => ?_) h g
    refine d_if h g (fun h g => ?_) (fun h g => ?_)
    · skip
      refine d_GetR h g (fun _ h g => ?_)
      refine d_GetR h g (fun _ h g => ?_)
      refine d_GetR h g (fun _ h g => ?_)
      refine d_GetR h g (fun _ h g => ?_)
      refine d_and h g (fun h g => ?_)
      refine cj_X5_roadFor (fun _ _ h g => ?_) h g
      refine d_if h g (fun h g => ?_) (fun h g => ?_)
      · skip
        refine d_and h g (fun h g => ?_)
        refine cj_X11_keepPast (fun _ h g => ?_) h g
        refine d_GetR h g (fun _ h g => ?_)
        refine d_GetR h g (fun _ h g => ?_)
        refine d_and h g (fun h g => ?_)
        refine cj_X5_setOut (fun _ h g => ?_) h g
        exact k _ _ h g
      · skip
        refine d_C h g (fun _ h g => ?_)
        exact k _ _ h g
    · skip
      refine d_C h g (fun _ h g => ?_)
      exact k _ _ h g
theorem cj_X11_meet_17 {S : Sh} {K1 K2 K3 : Int → Mm → Prop} {M : Mm} {u0 : Int} {u1 : Int} {t0 : Int} (k : ∀ (a0 : Int) (m : Mm), K1 a0 m → K2 a0 m → K3 a0 m) (h : wp_X11_meet_17 S K1 u0 u1 t0 M) (g : wp_X11_meet_17 S K2 u0 u1 t0 M) : wp_X11_meet_17 S K3 u0 u1 t0 M := by
  refine d_C h g (fun _ h g => ?_)
  refine d_if h g (fun h g => ?_) (fun h g => ?_)
  · skip
    refine d_and h g (fun h g => ?_)
    refine cj_X11_keepPast (fun _ h g => ?_) h g
    refine d_GetR h g (fun _ h g => ?_)
    refine d_GetR h g (fun _ h g => ?_)
    refine d_GetR h g (fun _ h g => ?_)
    refine d_GetR h g (fun _ h g => ?_)
    refine d_GetR h g (fun _ h g => ?_)
    refine d_Get h g (fun _ h g => ?_)
    refine d_St h g (fun _ h g => ?_)
    refine d_GetR h g (fun _ h g => ?_)
    refine d_GetR h g (fun _ h g => ?_)
    refine d_Get h g (fun _ h g => ?_)
    refine d_GetR h g (fun _ h g => ?_)
    refine d_GetR h g (fun _ h g => ?_)
    refine d_GetR h g (fun _ h g => ?_)
    refine d_Ld h g (fun _ h g => ?_)
    refine d_A h g (fun _ h g => ?_)
    refine d_Put h g (fun _ h g => ?_)
    refine d_GetR h g (fun _ h g => ?_)
    refine d_GetR h g (fun _ h g => ?_)
    refine d_GetR h g (fun _ h g => ?_)
    refine d_C h g (fun _ h g => ?_)
    refine d_St h g (fun _ h g => ?_)
    exact k _ _ h g
  · skip
    refine d_C h g (fun _ h g => ?_)
    exact k _ _ h g
theorem cj_X11_meet {S : Sh} {K1 K2 K3 : Int → Mm → Prop} {M : Mm} {u0 : Int} {u1 : Int} (k : ∀ (a0 : Int) (m : Mm), K1 a0 m → K2 a0 m → K3 a0 m) (h : wp_X11_meet S M u0 u1 K1) (g : wp_X11_meet S M u0 u1 K2) : wp_X11_meet S M u0 u1 K3 := by
  refine d_and h g (fun h g => ?_)
  refine cj_X11_isWant (fun _ _ h g => ?_) h g
  refine d_if h g (fun h g => ?_) (fun h g => ?_)
  · skip
    refine d_C h g (fun _ h g => ?_)
    refine cj_X11_meet_17 k h g
  · skip
    refine d_and h g (fun h g => ?_)
    refine cj_X11_jugFor (fun _ _ h g => ?_) h g
    refine cj_X11_meet_17 k h g
theorem cj_X11_isTurned {S : Sh} {K1 K2 K3 : Int → Mm → Prop} {M : Mm} {u0 : Int} (k : ∀ (a0 : Int) (m : Mm), K1 a0 m → K2 a0 m → K3 a0 m) (h : wp_X11_isTurned S M u0 K1) (g : wp_X11_isTurned S M u0 K2) : wp_X11_isTurned S M u0 K3 := by
  refine d_if h g (fun h g => ?_) (fun h g => ?_)
  · skip
    refine d_C h g (fun _ h g => ?_)
    refine d_and h g (fun h g => ?_)
    exact k _ _ h g
  · skip
    refine d_C h g (fun _ h g => ?_)
    refine d_if h g (fun h g => ?_) (fun h g => ?_)
    · skip
      refine d_C h g (fun _ h g => ?_)
      refine d_and h g (fun h g => ?_)
      exact k _ _ h g
    · skip
      refine d_C h g (fun _ h g => ?_)
      refine d_and h g (fun h g => ?_)
      exact k _ _ h g
theorem cj_X4_addTest {S : Sh} {K1 K2 K3 : Mm → Prop} {M : Mm} {u0 : Int} {u1 : Int} {u2 : Int} {u3 : Int} {u4 : Int} (k : ∀ (m : Mm), K1 m → K2 m → K3 m) (h : wp_X4_addTest S M u0 u1 u2 u3 u4 K1) (g : wp_X4_addTest S M u0 u1 u2 u3 u4 K2) : wp_X4_addTest S M u0 u1 u2 u3 u4 K3 := by
  refine d_Get h g (fun _ h g => ?_)
  refine d_C h g (fun _ h g => ?_)
  refine d_if h g (fun h g => ?_) (fun h g => ?_)
  · skip
    exact k _ h g
  · skip
    refine d_GetR h g (fun _ h g => ?_)
    refine d_Get h g (fun _ h g => ?_)
    refine d_St h g (fun _ h g => ?_)
    refine d_GetR h g (fun _ h g => ?_)
    refine d_Get h g (fun _ h g => ?_)
    refine d_St h g (fun _ h g => ?_)
    refine d_GetR h g (fun _ h g => ?_)
    refine d_Get h g (fun _ h g => ?_)
    refine d_St h g (fun _ h g => ?_)
    refine d_GetR h g (fun _ h g => ?_)
    refine d_Get h g (fun _ h g => ?_)
    refine d_St h g (fun _ h g => ?_)
    refine d_Get h g (fun _ h g => ?_)
    refine d_C h g (fun _ h g => ?_)
    refine d_A h g (fun _ h g => ?_)
    refine d_Put h g (fun _ h g => ?_)
    exact k _ h g
theorem cj_X11_test {S : Sh} {K1 K2 K3 : Int → Mm → Prop} {M : Mm} {u0 : Int} {u1 : Int} {u2 : Int} {u3 : Int} {u4 : Int} (k : ∀ (a0 : Int) (m : Mm), K1 a0 m → K2 a0 m → K3 a0 m) (h : wp_X11_test S M u0 u1 u2 u3 u4 K1) (g : wp_X11_test S M u0 u1 u2 u3 u4 K2) : wp_X11_test S M u0 u1 u2 u3 u4 K3 := by
  refine d_GetR h g (fun _ h g => ?_)
  refine d_GetR h g (fun _ h g => ?_)
  refine d_Get h g (fun _ h g => ?_)
  refine d_if h g (fun h g => ?_) (fun h g => ?_)
  · skip
    refine d_C h g (fun _ h g => ?_)
    refine d_if h g (fun h g => ?_) (fun h g => ?_)
    · skip
      refine cj_X11_isTurned (fun _ _ h g => ?_) h g
      refine d_if h g (fun h g => ?_) (fun h g => ?_)
      · skip
        refine d_C h g (fun _ h g => ?_)
        exact k _ _ h g
      · skip
        refine cj_X11_isTurned (fun _ _ h g => ?_) h g
        refine d_if h g (fun h g => ?_) (fun h g => ?_)
        · skip
          refine d_C h g (fun _ h g => ?_)
          exact k _ _ h g
        · skip
          refine d_C h g (fun _ h g => ?_)
          refine d_if h g (fun h g => ?_) (fun h g => ?_)
          · skip
            refine d_C h g (fun _ h g => ?_)
            exact k _ _ h g
          · skip
            refine d_C h g (fun _ h g => ?_)
            refine d_if h g (fun h g => ?_) (fun h g => ?_)
            · skip
              refine d_C h g (fun _ h g => ?_)
              exact k _ _ h g
            · skip
              refine d_if h g (fun h g => ?_) (fun h g => ?_)
              · skip
                refine d_C h g (fun _ h g => ?_)
                exact k _ _ h g
              · skip
                refine d_C h g (fun _ h g => ?_)
                refine d_if h g (fun h g => ?_) (fun h g => ?_)
                · skip
                  refine d_GetR h g (fun _ h g => ?_)
                  refine d_Get h g (fun _ h g => ?_)
                  refine d_C h g (fun _ h g => ?_)
                  refine d_if h g (fun h g => ?_) (fun h g => ?_)
                  · skip
                    refine d_GetR h g (fun _ h g => ?_)
                    refine d_and h g (fun h g => ?_)
                    refine cj_X4_addTest (fun _ h g => ?_) h g
                    refine d_GetR h g (fun _ h g => ?_)
                    refine d_Get h g (fun _ h g => ?_)
                    exact k _ _ h g
                  · skip
                    refine d_C h g (fun _ h g => ?_)
                    exact k _ _ h g
                · skip
                  refine d_C h g (fun _ h g => ?_)
                  exact k _ _ h g
    · skip
      refine d_GetR h g (fun _ h g => ?_)
      refine d_C h g (fun _ h g => ?_)
      refine d_Put h g (fun _ h g => ?_)
      refine d_C h g (fun _ h g => ?_)
      exact k _ _ h g
  · skip
    refine d_C h g (fun _ h g => ?_)
    exact k _ _ h g
