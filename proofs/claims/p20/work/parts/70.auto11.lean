theorem z_X12_turnedBy {X : Mm} {S : Sh} {m0 : Mm} {K : Int → Mm → Prop} {u1 u2 u3 u4 u5 u6 : Int} (hS : Shp S) (hm0 : Inv X S m0) (l_u1 : 0 ≤ u1) (h_u1 : u1 ≤ 4) (l_u2 : 0 ≤ u2) (h_u2 : u2 ≤ 3) (l_u3 : (-2147483648) ≤ u3) (h_u3 : u3 ≤ 2147483647) (l_u4 : 0 ≤ u4) (h_u4 : u4 ≤ 98) (l_u5 : (-2147483648) ≤ u5) (h_u5 : u5 ≤ 2147483647) (l_u6 : 0 ≤ u6) (h_u6 : u6 ≤ 1) (hk : ∀ (r : Int) (M1 : Mm), Inv X S M1 → (∀ c p : Int, ¬ c = 344 ∧ ¬ c = 345 ∧ ¬ (c = 336 ∧ 18 ≤ p ∧ p ≤ 18) → M1 c p = m0 c p) → (-2147483648) ≤ r → r ≤ 2147483647 → K r M1) : wp_X12_turnedBy S m0 336 u1 u2 u3 u4 u5 u6 K := by
  have Fm0 : ∀ c p : Int, ¬ c = 344 ∧ ¬ c = 345 ∧ ¬ (c = 336 ∧ 18 ≤ p ∧ p ≤ 18) → m0 c p = m0 c p := fun c p _ => rfl
  refine u_X12_turnedBy ?_
  refine g_C ?_
  refine g_C ?_
  have L_n_l162 : ∀ (n_l162 : Nat) (u7 : Int) (u8 : Int) (u9 : Int) (m10 : Mm), Inv X S m10 → (∀ c p : Int, ¬ c = 344 ∧ ¬ c = 345 ∧ ¬ (c = 336 ∧ 18 ≤ p ∧ p ≤ 18) → m10 c p = m0 c p) → (-2147483648) ≤ u7 → u7 ≤ 2147483647 → 0 ≤ u8 → u8 ≤ 104 → 0 ≤ u9 → u9 ≤ 98 → 99 - u9 ≤ (n_l162 : Int) → wp_X12_turnedBy_9 S K n_l162 336 u1 u2 u4 u5 u6 u7 u8 u9 m10 := by
    intro n_l162
    induction n_l162 with
    | zero => intro u7 u8 u9 m10 hm10 Fm10 bu7 cu7 bu8 cu8 bu9 cu9 zn_l162; exfalso; omega
    | succ n_l162 ih_n_l162 =>
      intro u7 u8 u9 m10 hm10 Fm10 bu7 cu7 bu8 cu8 bu9 cu9 zn_l162
      refine u_X12_turnedBy_9 ?_
      refine g_if (fun w163 => ?_) (fun w163 => ?_)
      · exact hk u7 m10 hm10 Fm10 (by omega) (by omega)
      · refine g_Aw (fun v164 bv164 cv164 => ?_)
        refine g_C ?_
        refine ⟨hS.k336, ?_⟩
        refine z_X12_turnsIn hS hm10 (by omega) (by omega) (by omega) (by omega) (by omega) (by omega) (by omega) (by omega) (by omega) (by omega) (by omega) (by omega) (by omega) (by omega) (fun v165 m166 hm166 fm166 bv165 cv165 => ?_)
        have Fm166 : ∀ c p : Int, ¬ c = 344 ∧ ¬ c = 345 ∧ ¬ (c = 336 ∧ 18 ≤ p ∧ p ≤ 18) → m166 c p = m0 c p := fun c p h => (fm166 c p (by omega)).trans (Fm10 c p h)
        refine g_Aw (fun v167 bv167 cv167 => ?_)
        refine g_C ?_
        refine u_X12_atMost ?_
        refine g_if (fun w168 => ?_) (fun w168 => ?_)
        · refine ⟨hS.k336, ?_⟩
          refine u_X12_moreTired ?_
          refine g_C ?_
          refine ⟨hS.k336, ?_⟩
          refine u_X12_handOf ?_
          refine g_getr 20 346 rfl hS.k336 hm166.f_336_20 (by decide) ?_
          refine g_C ?_
          refine g_C ?_
          refine g_M (by omega) (by omega) ?_
          refine g_A (by omega) (by omega) ?_
          refine g_A (by omega) (by omega) ?_
          refine g_ld (0) (5) hS.k346 hS.l346 (by omega) (by omega) (fam_346_14_5_0_4 hm166 (a := u1) (by omega) (by omega) (by omega)) (fun v169 ev169 bv169 cv169 => ?_)
          refine g_A (by omega) (by omega) ?_
          refine g_C ?_
          refine u_X12_atMost ?_
          refine g_if (fun w170 => ?_) (fun w170 => ?_)
          · refine g_A (by omega) (by omega) ?_
            exact ih_n_l162 v167 (u8 + v169) (u9 + 1) m166 hm166 Fm166 (by omega) (by omega) (by omega) (by omega) (by omega) (by omega) (by omega)
          · refine g_A (by omega) (by omega) ?_
            exact ih_n_l162 v167 99 (u9 + 1) m166 hm166 Fm166 (by omega) (by omega) (by omega) (by omega) (by omega) (by omega) (by omega)
        · refine ⟨hS.k336, ?_⟩
          refine u_X12_moreTired ?_
          refine g_C ?_
          refine ⟨hS.k336, ?_⟩
          refine u_X12_handOf ?_
          refine g_getr 20 346 rfl hS.k336 hm166.f_336_20 (by decide) ?_
          refine g_C ?_
          refine g_C ?_
          refine g_M (by omega) (by omega) ?_
          refine g_A (by omega) (by omega) ?_
          refine g_A (by omega) (by omega) ?_
          refine g_ld (0) (5) hS.k346 hS.l346 (by omega) (by omega) (fam_346_14_5_0_4 hm166 (a := u1) (by omega) (by omega) (by omega)) (fun v171 ev171 bv171 cv171 => ?_)
          refine g_A (by omega) (by omega) ?_
          refine g_C ?_
          refine u_X12_atMost ?_
          refine g_if (fun w172 => ?_) (fun w172 => ?_)
          · refine g_A (by omega) (by omega) ?_
            exact ih_n_l162 999 (u8 + v171) (u9 + 1) m166 hm166 Fm166 (by omega) (by omega) (by omega) (by omega) (by omega) (by omega) (by omega)
          · refine g_A (by omega) (by omega) ?_
            exact ih_n_l162 999 99 (u9 + 1) m166 hm166 Fm166 (by omega) (by omega) (by omega) (by omega) (by omega) (by omega) (by omega)
  exact ⟨99, L_n_l162 99 u3 0 0 m0 hm0 Fm0 (by omega) (by omega) (by omega) (by omega) (by omega) (by omega) (by omega)⟩
theorem z_X12_alikeBy {X : Mm} {S : Sh} {m0 : Mm} {K : Int → Mm → Prop} {u1 u2 : Int} (hS : Shp S) (hm0 : Inv X S m0) (l_u1 : 1 ≤ u1) (h_u1 : u1 ≤ 31) (l_u2 : 1 ≤ u2) (h_u2 : u2 ≤ 20) (hk : ∀ (r : Int) (M1 : Mm), Inv X S M1 → 0 ≤ r → r ≤ 2147483647 → K r M1) : wp_X12_alikeBy S m0 336 u1 u2 K := by
  refine u_X12_alikeBy ?_
  refine g_C ?_
  have L_n_l3926 : ∀ (n_l3926 : Nat) (u4 : Int) (m5 : Mm), Inv X S m5 → 0 ≤ u4 → u4 ≤ 5 → 6 - u4 ≤ (n_l3926 : Int) → wp_X12_alikeBy_2 S K n_l3926 336 u1 u2 u4 m5 := by
    intro n_l3926
    induction n_l3926 with
    | zero => intro u4 m5 hm5 bu4 cu4 zn_l3926; exfalso; omega
    | succ n_l3926 ih_n_l3926 =>
      intro u4 m5 hm5 bu4 cu4 zn_l3926
      refine u_X12_alikeBy_2 ?_
      refine g_getr 20 346 rfl hS.k336 hm5.f_336_20 (by decide) ?_
      refine g_C ?_
      refine g_ld (0) (5) hS.k346 hS.l346 (by omega) (by omega) (hm5.f_346_4) (fun v3927 ev3927 bv3927 cv3927 => ?_)
      refine g_if (fun w3928 => ?_) (fun w3928 => ?_)
      · refine g_C ?_
        refine g_C ?_
        have L_n_l5084 : ∀ (n_l5084 : Nat) (u3930 : Int) (u3931 : Int), 0 ≤ u3930 → u3930 ≤ 2147483647 → 0 ≤ u3931 → u3931 ≤ 5 → 6 - u3931 ≤ (n_l5084 : Int) → wp_X12_alikeBy_57 S K n_l5084 336 u3930 u3931 m5 := by
          intro n_l5084
          induction n_l5084 with
          | zero => intro u3930 u3931 bu3930 cu3930 bu3931 cu3931 zn_l5084; exfalso; omega
          | succ n_l5084 ih_n_l5084 =>
            intro u3930 u3931 bu3930 cu3930 bu3931 cu3931 zn_l5084
            refine u_X12_alikeBy_57 ?_
            refine g_getr 20 346 rfl hS.k336 hm5.f_336_20 (by decide) ?_
            refine g_C ?_
            refine g_ld (0) (5) hS.k346 hS.l346 (by omega) (by omega) (hm5.f_346_4) (fun v5085 ev5085 bv5085 cv5085 => ?_)
            have qv5085 : v5085 = v3927 := (ev5085.trans (hm5.g (by decide))).trans ((ev3927.trans (hm5.g (by decide))).symm)
            refine g_if (fun w5086 => ?_) (fun w5086 => ?_)
            · exact hk u3930 m5 hm5 (by omega) (by omega)
            · refine g_C ?_
              refine g_C ?_
              have L_n_l5277 : ∀ (n_l5277 : Nat) (u5090 : Int) (u5091 : Int), (-2147483648) ≤ u5090 → u5090 ≤ 2147483647 → 0 ≤ u5091 → u5091 ≤ 5 → 6 - u5091 ≤ (n_l5277 : Int) → wp_X12_alikeBy_74 S (fun a0 a1 a2 M => wp_X12_alikeBy_57 S K n_l5084 a0 a1 a2 M) K n_l5277 336 u3930 u3931 u5090 u5091 m5 := by
                intro n_l5277
                induction n_l5277 with
                | zero => intro u5090 u5091 bu5090 cu5090 bu5091 cu5091 zn_l5277; exfalso; omega
                | succ n_l5277 ih_n_l5277 =>
                  intro u5090 u5091 bu5090 cu5090 bu5091 cu5091 zn_l5277
                  refine u_X12_alikeBy_74 ?_
                  refine g_getr 20 346 rfl hS.k336 hm5.f_336_20 (by decide) ?_
                  refine g_C ?_
                  refine g_ld (0) (5) hS.k346 hS.l346 (by omega) (by omega) (hm5.f_346_4) (fun v5278 ev5278 bv5278 cv5278 => ?_)
                  have qv5278 : v5278 = v3927 := (ev5278.trans (hm5.g (by decide))).trans ((ev3927.trans (hm5.g (by decide))).symm)
                  refine g_if (fun w5279 => ?_) (fun w5279 => ?_)
                  · refine g_if (fun w5280 => ?_) (fun w5280 => ?_)
                    · refine u_X12_alikeBy_140 ?_
                      refine g_A (by omega) (by omega) ?_
                      exact ih_n_l5084 u3930 (u3931 + 1) (by omega) (by omega) (by omega) (by omega) (by omega)
                    · refine u_X12_alikeBy_140 ?_
                      refine g_A (by omega) (by omega) ?_
                      exact ih_n_l5084 u5090 (u3931 + 1) (by omega) (by omega) (by omega) (by omega) (by omega)
                  · refine g_getr 30 351 rfl hS.k336 hm5.f_336_30 (by decide) ?_
                    refine g_ld (-2147483648) (2147483647) hS.k351 hS.l351 (by omega) (by omega) (hm5.a_351 (by omega) (by omega)) (fun v5281 ev5281 bv5281 cv5281 => ?_)
                    refine g_if (fun w5282 => ?_) (fun w5282 => ?_)
                    · refine u_X12_alikeBy_118 ?_
                      refine g_C ?_
                      refine u_X12_alikeBy_119 ?_
                      refine g_A (by omega) (by omega) ?_
                      refine g_A (by omega) (by omega) ?_
                      exact ih_n_l5277 (u5090 + 0) (u5091 + 1) (by omega) (by omega) (by omega) (by omega) (by omega)
                    · refine g_getr 30 351 rfl hS.k336 hm5.f_336_30 (by decide) ?_
                      refine g_ld (-2147483648) (2147483647) hS.k351 hS.l351 (by omega) (by omega) (hm5.a_351 (by omega) (by omega)) (fun v5283 ev5283 bv5283 cv5283 => ?_)
                      have qv5283 : v5283 = v5281 := ev5283.trans ev5281.symm
                      refine g_getr 30 351 rfl hS.k336 hm5.f_336_30 (by decide) ?_
                      refine g_ld (-2147483648) (2147483647) hS.k351 hS.l351 (by omega) (by omega) (hm5.a_351 (by omega) (by omega)) (fun v5284 ev5284 bv5284 cv5284 => ?_)
                      refine g_if (fun w5285 => ?_) (fun w5285 => ?_)
                      · refine u_X12_alikeBy_118 ?_
                        refine g_C ?_
                        refine u_X12_alikeBy_119 ?_
                        refine g_A (by omega) (by omega) ?_
                        refine g_A (by omega) (by omega) ?_
                        exact ih_n_l5277 (u5090 + 0) (u5091 + 1) (by omega) (by omega) (by omega) (by omega) (by omega)
                      · refine g_C ?_
                        refine u_X12_alikeBy_119 ?_
                        refine g_Aw (fun v5286 bv5286 cv5286 => ?_)
                        refine g_A (by omega) (by omega) ?_
                        exact ih_n_l5277 v5286 (u5091 + 1) (by omega) (by omega) (by omega) (by omega) (by omega)
              exact ⟨6, L_n_l5277 6 0 0 (by omega) (by omega) (by omega) (by omega) (by omega)⟩
        exact ⟨6, L_n_l5084 6 0 0 (by omega) (by omega) (by omega) (by omega) (by omega)⟩
      · refine g_getr 30 351 rfl hS.k336 hm5.f_336_30 (by decide) ?_
        refine u_X12_isOf ?_
        refine g_iShr (by omega) (by omega) (fun v5287 bv5287 cv5287 => ?_)
        refine g_C ?_
        refine g_iAndR (by omega) (by omega) (fun v5288 dv5288 bv5288 cv5288 => ?_)
        refine g_C ?_
        refine g_if (fun w5289 => ?_) (fun w5289 => ?_)
        · refine g_C ?_
          refine ⟨by omega, ?_⟩
          refine g_ifT (by omega) ?_
          refine g_C ?_
          refine u_X12_alikeBy_45 ?_
          refine g_st hS.k351 hS.l351 (by omega) (by omega) (hm5.wa_351 (by omega) (by omega) (by omega) (by omega)) (fun m5290 em5290 hm5290 => ?_)
          refine g_A (by omega) (by omega) ?_
          exact ih_n_l3926 (u4 + 1) m5290 hm5290 (by omega) (by omega) (by omega)
        · refine g_C ?_
          refine ⟨by omega, ?_⟩
          refine g_ifF (by omega) ?_
          refine g_C ?_
          refine g_C ?_
          refine g_getr 20 346 rfl hS.k336 hm5.f_336_20 (by decide) ?_
          refine g_C ?_
          refine g_ld (-2147483648) (2147483647) hS.k346 hS.l346 (by omega) (by omega) (hm5.f_346_7) (fun v5291 ev5291 bv5291 cv5291 => ?_)
          refine g_C ?_
          refine ⟨hS.k336, ?_⟩
          refine z_X12_turnedBy hS hm5 (by omega) (by omega) (by omega) (by omega) (by omega) (by omega) (by omega) (by omega) (by omega) (by omega) (by omega) (by omega) (fun v5292 m5293 hm5293 fm5293 bv5292 cv5292 => ?_)
          refine u_X12_alikeBy_45 ?_
          refine g_st hS.k351 hS.l351 (by omega) (by omega) (hm5293.wa_351 (by omega) (by omega) (by omega) (by omega)) (fun m5294 em5294 hm5294 => ?_)
          refine g_A (by omega) (by omega) ?_
          exact ih_n_l3926 (u4 + 1) m5294 hm5294 (by omega) (by omega) (by omega)
  exact ⟨6, L_n_l3926 6 0 m0 hm0 (by omega) (by omega) (by omega)⟩
def hsum (M : Mm) : Int := M 349 0 + M 349 1 + M 349 2 + M 349 3 + M 349 4 + M 349 5
def Wp (R : Int → Int → Int) (P t : Int) (f : Int → Int) : Prop := ∀ a : Int, 0 ≤ a → a < P → ¬ a = t → f a < 99 → ∃ b : Int, 0 ≤ b ∧ b < P ∧ 0 < R a b ∧ f b + R a b ≤ f a
def Np (R : Int → Int → Int) (f : Int → Int) (a b : Int) : Prop := R a b = 0 ∨ f a ≤ f b + R a b
theorem hsum_b {X : Mm} {S : Sh} {M : Mm} (h : Inv X S M) : 0 ≤ hsum M ∧ hsum M ≤ 594 := by
  have h0 := h.a_349 (i := 0) (by decide) (by decide)
  have h1 := h.a_349 (i := 1) (by decide) (by decide)
  have h2 := h.a_349 (i := 2) (by decide) (by decide)
  have h3 := h.a_349 (i := 3) (by decide) (by decide)
  have h4 := h.a_349 (i := 4) (by decide) (by decide)
  have h5 := h.a_349 (i := 5) (by decide) (by decide)
  unfold hsum
  omega
theorem hsum_up {M : Mm} {a v : Int} (h0 : 0 ≤ a) (h5 : a ≤ 5) (hv : v < M 349 a) : hsum (up M 349 a v) < hsum M := by
  have e : ∀ p : Int, up M 349 a v 349 p = if p = a then v else M 349 p := by
    intro p
    by_cases z : p = a
    · rw [if_pos z, z, up_at]
    · rw [if_neg z, up_ne (by omega)]
  unfold hsum
  simp only [e]
  rcases (show a = 0 ∨ a = 1 ∨ a = 2 ∨ a = 3 ∨ a = 4 ∨ a = 5 by omega) with q | q | q | q | q | q <;> subst q <;> simp <;> omega
theorem Wp_up {R : Int → Int → Int} {P t : Int} {f g : Int → Int} {a b : Int} (h : Wp R P t f) (hb0 : 0 ≤ b) (hb1 : b < P) (hR : 0 < R a b) (hlt : f b + R a b < f a) (ga : g a = f b + R a b) (gx : ∀ x : Int, ¬ x = a → g x = f x) : Wp R P t g := by
  intro x x0 x1 x2 x3
  by_cases e : x = a
  · subst e
    exact ⟨b, hb0, hb1, hR, by rw [gx b (fun z => by rw [z] at hlt hR; omega), ga]; omega⟩
  · rw [gx x e] at x3 ⊢
    obtain ⟨y, y0, y1, y2, y3⟩ := h x x0 x1 x2 x3
    refine ⟨y, y0, y1, y2, ?_⟩
    by_cases z : y = a
    · rw [z] at y3 ⊢; rw [ga]; omega
    · rw [gx y z]; exact y3
theorem z_X12_fillsHours {X : Mm} {S : Sh} {m0 : Mm} {K : Mm → Prop} {u1 : Int} (hS : Shp S) (hm0 : Inv X S m0) (l_u1 : 0 ≤ u1) (h_u1 : u1 ≤ 5) (p0 : u1 < m0 346 0) (hk : ∀ (M1 : Mm), Inv X S M1 → (∀ c p : Int, ¬ c = 349 → M1 c p = m0 c p) → (HP M1 u1) → K M1) : wp_X12_fillsHours S m0 336 u1 K := by
  have bP := hm0.f_346_0
  refine u_X12_fillsHours ?_
  refine g_C ?_
  have L2 : ∀ (n : Nat) (k : Int) (m : Mm), Inv X S m → (∀ c p : Int, ¬ c = 349 → m c p = m0 c p) → 0 ≤ k → k ≤ 6 → (∀ p : Int, 0 ≤ p → p < k → (p = u1 → m 349 p = 0) ∧ (¬ p = u1 → m 349 p = 99)) → 7 - k ≤ (n : Int) → wp_X12_fillsHours_2 S K n 336 u1 k m := by
    intro n
    induction n with
    | zero => intro k m _ _ _ _ _ h; exfalso; omega
    | succ n ih =>
      intro k m hm F k0 k6 hv hn
      have eP : m 346 0 = m0 346 0 := F 346 0 (by decide)
      refine u_X12_fillsHours_2 ?_
      refine g_getr 20 346 rfl hS.k336 hm.f_336_20 (by decide) ?_
      refine g_C ?_
      refine g_ld (0) (6) hS.k346 hS.l346 (by omega) (by omega) (hm.f_346_0) (fun v ev bv cv => ?_)
      refine g_if (fun w => ?_) (fun w => ?_)
      · refine g_C ?_
        clear ih
        have L37 : ∀ (n : Nat) (more : Int) (m : Mm), Inv X S m → (∀ c p : Int, ¬ c = 349 → m c p = m0 c p) → (more = 0 ∨ more = 1) → m 349 u1 = 0 → Wp (rd m0) (m0 346 0) u1 (m 349) → (more = 0 → ∀ a b : Int, 0 ≤ a → a < m0 346 0 → 0 ≤ b → b < m0 346 0 → Np (rd m0) (m 349) a b) → 1 ≤ (n : Int) → (more = 0 ∨ hsum m + 2 ≤ n) → wp_X12_fillsHours_37 S K n 336 more m := by
          intro n
          induction n with
          | zero => intro more m _ _ _ _ _ _ h _; exfalso; omega
          | succ n ih37 =>
            intro more m hm F hmo h0 hW hN _ hf
            refine u_X12_fillsHours_37 ?_
            refine g_if (fun w => ?_) (fun w => ?_)
            · refine hk m hm F ⟨h0, fun a a0 a1 a2 a3 => ?_⟩
              rw [F 346 0 (by decide)] at a1
              obtain ⟨b, b0, b1, b2, b3⟩ := hW a a0 a1 a2 a3
              have er := rd_same (M := m0) (M1 := m) (fun p => F 346 p (by decide)) a b
              have hn := hN w a b a0 a1 b0 b1
              unfold Np at hn
              exact ⟨b, b0, by rw [F 346 0 (by decide)]; exact b1, by omega, by omega⟩
            · have hs := hsum_b hm
              refine g_C ?_
              refine g_C ?_
              have L45 : ∀ (n45 : Nat) (more a : Int) (m' : Mm), Inv X S m' → (∀ c p : Int, ¬ c = 349 → m' c p = m0 c p) → (more = 0 ∨ more = 1) → m' 349 u1 = 0 → Wp (rd m0) (m0 346 0) u1 (m' 349) → (more = 0 → ∀ a' b : Int, 0 ≤ a' → a' < a → 0 ≤ b → b < m0 346 0 → Np (rd m0) (m' 349) a' b) → hsum m' ≤ hsum m → (more = 0 ∨ hsum m' < hsum m) → 0 ≤ a → a ≤ 6 → 7 - a ≤ (n45 : Int) → wp_X12_fillsHours_45 S (fun a0 a1 M => wp_X12_fillsHours_37 S K n a0 a1 M) K n45 336 more a m' := by
                intro n45
                induction n45 with
                | zero => intro more a m' _ _ _ _ _ _ _ _ _ _ h; exfalso; omega
                | succ n45 ih45 =>
                  intro more a m' hm' F' hmo' h0' hW' hN' hs1 hs2 a0 a6 hn45
                  have eP' : m' 346 0 = m0 346 0 := F' 346 0 (by decide)
                  refine u_X12_fillsHours_45 ?_
                  refine g_getr 20 346 rfl hS.k336 hm'.f_336_20 (by decide) ?_
                  refine g_C ?_
                  refine g_ld (0) (6) hS.k346 hS.l346 (by omega) (by omega) (hm'.f_346_0) (fun v' ev' bv' cv' => ?_)
                  refine g_if (fun w' => ?_) (fun w' => ?_)
                  · exact ih37 more m' hm' F' hmo' h0' hW' (fun hz x y x0 x1 y0 y1 => hN' hz x y x0 (by omega) y0 y1) (by omega) (by omega)
                  · refine g_C ?_
                    have L58 : ∀ (n58 : Nat) (more b : Int) (m2 : Mm), Inv X S m2 → (∀ c p : Int, ¬ c = 349 → m2 c p = m0 c p) → (more = 0 ∨ more = 1) → m2 349 u1 = 0 → Wp (rd m0) (m0 346 0) u1 (m2 349) → (more = 0 → ∀ a' b' : Int, 0 ≤ a' → (a' < a ∨ (a' = a ∧ b' < b)) → 0 ≤ b' → b' < m0 346 0 → Np (rd m0) (m2 349) a' b') → hsum m2 ≤ hsum m → (more = 0 ∨ hsum m2 < hsum m) → 0 ≤ b → b ≤ 6 → 7 - b ≤ (n58 : Int) → wp_X12_fillsHours_58 S (fun a0 a1 M => wp_X12_fillsHours_37 S K n a0 a1 M) (fun a0 a1 a2 M => wp_X12_fillsHours_45 S (fun a0 a1 M => wp_X12_fillsHours_37 S K n a0 a1 M) K n45 a0 a1 a2 M) K n58 336 more a b m2 := by
                      intro n58
                      induction n58 with
                      | zero => intro more b m2 _ _ _ _ _ _ _ _ _ _ h; exfalso; omega
                      | succ n58 ih58 =>
                        intro more b m2 hm2 F2 hmo2 h02 hW2 hN2 ht1 ht2 b0 b6 hn58
                        have eP2 : m2 346 0 = m0 346 0 := F2 346 0 (by decide)
                        have er := rd_same (M := m0) (M1 := m2) (fun p => F2 346 p (by decide)) a b
                        refine u_X12_fillsHours_58 ?_
                        refine g_getr 20 346 rfl hS.k336 hm2.f_336_20 (by decide) ?_
                        refine g_C ?_
                        refine g_ld (0) (6) hS.k346 hS.l346 (by omega) (by omega) (hm2.f_346_0) (fun v2 ev2 bv2 cv2 => ?_)
                        refine g_if (fun w2 => ?_) (fun w2 => ?_)
                        · refine g_A (by omega) (by omega) ?_
                          exact ih45 more (a + 1) m2 hm2 F2 hmo2 h02 hW2 (fun hz x y x0 x1 y0 y1 => hN2 hz x y x0 (by omega) y0 y1) ht1 ht2 (by omega) (by omega) (by omega)
                        · refine ⟨hS.k336, ?_⟩
                          refine zr_roadOf hS hm2 (fun r0 r5 => ?_)
                          have nx : (more = 0 → Np (rd m0) (m2 349) a b) → wp_X12_fillsHours_123 S (fun a0 a1 M => wp_X12_fillsHours_37 S K n a0 a1 M) (fun a0 a1 a2 M => wp_X12_fillsHours_45 S (fun a0 a1 M => wp_X12_fillsHours_37 S K n a0 a1 M) K n45 a0 a1 a2 M) (fun a0 a1 a2 a3 M => wp_X12_fillsHours_58 S (fun a0 a1 M => wp_X12_fillsHours_37 S K n a0 a1 M) (fun a0 a1 a2 M => wp_X12_fillsHours_45 S (fun a0 a1 M => wp_X12_fillsHours_37 S K n a0 a1 M) K n45 a0 a1 a2 M) K n58 a0 a1 a2 a3 M) K 336 more a b m2 := by
                            intro hnp
                            refine u_X12_fillsHours_123 ?_
                            refine g_A (by omega) (by omega) ?_
                            refine ih58 more (b + 1) m2 hm2 F2 hmo2 h02 hW2 (fun hz x y x0 x1 y0 y1 => ?_) ht1 ht2 (by omega) (by omega) (by omega)
                            by_cases z : x = a ∧ y = b
                            · rw [z.1, z.2]; exact hnp hz
                            · exact hN2 hz x y x0 (by omega) y0 y1
                          refine g_if (fun w3 => ?_) (fun w3 => ?_)
                          · exact nx (fun _ => Or.inl (by omega))
                          · refine g_getr 27 349 rfl hS.k336 hm2.f_336_27 (by decide) ?_
                            refine g_ld (0) (99) hS.k349 hS.l349 (by omega) (by omega) (hm2.a_349 (by omega) (by omega)) (fun x ex bx cx => ?_)
                            refine g_A (by omega) (by omega) ?_
                            refine g_getr 27 349 rfl hS.k336 hm2.f_336_27 (by decide) ?_
                            refine g_ld (0) (99) hS.k349 hS.l349 (by omega) (by omega) (hm2.a_349 (by omega) (by omega)) (fun y ey by' cy => ?_)
                            refine g_if (fun w4 => ?_) (fun w4 => ?_)
                            · refine g_getr 27 349 rfl hS.k336 hm2.f_336_27 (by decide) ?_
                              refine g_getr 27 349 rfl hS.k336 hm2.f_336_27 (by decide) ?_
                              refine g_ld (0) (99) hS.k349 hS.l349 (by omega) (by omega) (hm2.a_349 (by omega) (by omega)) (fun z ez bz cz => ?_)
                              refine g_A (by omega) (by omega) ?_
                              have hdec : hsum (up m2 349 a (z + rd m2 a b)) < hsum m2 := hsum_up (by omega) (by omega) (by omega)
                              have hneq : ¬ a = u1 := fun q => by rw [q] at ey; omega
                              refine g_st hS.k349 hS.l349 (by omega) (by omega) (hm2.wa_349 (by omega) (by omega) (by omega) (by omega)) (fun m3 e3 hm3 => ?_)
                              rw [← e3] at hdec
                              refine g_C ?_
                              refine u_X12_fillsHours_123 ?_
                              refine g_A (by omega) (by omega) ?_
                              refine ih58 1 (b + 1) m3 hm3 (fun c p hc => ?_) (Or.inr rfl) ?_ ?_ (fun hz => absurd hz (by decide)) (by omega) (by omega) (by omega) (by omega) (by omega)
                              · rw [e3, up_ne (by omega)]; exact F2 c p hc
                              · rw [e3, up_ne (by omega)]; exact h02
                              · refine Wp_up (a := a) (b := b) hW2 b0 (by omega) (by omega) (by omega) ?_ (fun q hq => ?_)
                                · rw [e3, up_at, er, ez]
                                · rw [e3, up_ne (by omega)]
                            · exact nx (fun _ => Or.inr (by omega))
                    exact ⟨7, L58 7 more 0 m' hm' F' hmo' h0' hW' (fun hz x y x0 x1 y0 y1 => hN' hz x y x0 (by omega) y0 y1) hs1 hs2 (by omega) (by omega) (by omega)⟩
              exact ⟨7, L45 7 0 0 m hm F (Or.inl rfl) h0 hW (fun hz x y x0 x1 => absurd x1 (by omega)) (by omega) (Or.inl rfl) (by omega) (by omega) (by omega)⟩
        have hs := hsum_b hm
        exact ⟨600, L37 600 1 m hm F (Or.inr rfl) ((hv u1 l_u1 (by omega)).1 rfl) (fun a a0 a1 a2 a3 => absurd ((hv a a0 (by omega)).2 a2) (by omega)) (fun hz => absurd hz (by decide)) (by omega) (by omega)⟩
      · refine g_getr 27 349 rfl hS.k336 hm.f_336_27 (by decide) ?_
        refine g_if (fun w4 => ?_) (fun w4 => ?_)
        · refine g_C ?_
          refine u_X12_fillsHours_28 ?_
          refine g_st hS.k349 hS.l349 (by omega) (by omega) (hm.wa_349 (by omega) (by omega) (by omega) (by omega)) (fun m3 e3 hm3 => ?_)
          refine g_A (by omega) (by omega) ?_
          refine ih (k + 1) m3 hm3 (fun c p hc => ?_) (by omega) (by omega) (fun p q0 q1 => ?_) (by omega)
          · rw [e3, up_ne (by omega)]; exact F c p hc
          · by_cases z : p = k
            · rw [e3, z, up_at]; exact ⟨fun q => by omega, fun _ => rfl⟩
            · rw [e3, up_ne (by omega)]; exact hv p q0 (by omega)
        · refine g_C ?_
          refine u_X12_fillsHours_28 ?_
          refine g_st hS.k349 hS.l349 (by omega) (by omega) (hm.wa_349 (by omega) (by omega) (by omega) (by omega)) (fun m3 e3 hm3 => ?_)
          refine g_A (by omega) (by omega) ?_
          refine ih (k + 1) m3 hm3 (fun c p hc => ?_) (by omega) (by omega) (fun p q0 q1 => ?_) (by omega)
          · rw [e3, up_ne (by omega)]; exact F c p hc
          · by_cases z : p = k
            · rw [e3, z, up_at]; exact ⟨fun _ => rfl, fun q => by omega⟩
            · rw [e3, up_ne (by omega)]; exact hv p q0 (by omega)
  exact ⟨7, L2 7 0 m0 hm0 (fun _ _ _ => rfl) (by omega) (by omega) (fun p q0 q1 => absurd q1 (by omega)) (by omega)⟩
theorem z_X12_brings {X : Mm} {S : Sh} {m0 : Mm} {K : Int → Mm → Prop} {u1 u2 u3 : Int} (hS : Shp S) (hm0 : Inv X S m0) (l_u1 : (-2147483648) ≤ u1) (h_u1 : u1 ≤ 2147483647) (l_u2 : (-2147483648) ≤ u2) (h_u2 : u2 ≤ 2147483647) (l_u3 : (-2147483648) ≤ u3) (h_u3 : u3 ≤ 2147483647) (hk : ∀ (r : Int) (M1 : Mm), Inv X S M1 → (-2147483648) ≤ r → r ≤ 2147483647 → K r M1) : wp_X12_brings S m0 336 u1 u2 u3 K := by
  refine u_X12_brings ?_
  refine ⟨hS.k336, ?_⟩
  refine u_X12_isHand ?_
  refine g_if (fun w1 => ?_) (fun w1 => ?_)
  · refine g_C ?_
    refine ⟨by omega, ?_⟩
    refine g_ifT (by omega) ?_
    refine g_C ?_
    exact hk (-1) m0 hm0 (by omega) (by omega)
  · refine g_getr 20 346 rfl hS.k336 hm0.f_336_20 (by decide) ?_
    refine g_C ?_
    refine g_ld (0) (5) hS.k346 hS.l346 (by omega) (by omega) (hm0.f_346_4) (fun v2 ev2 bv2 cv2 => ?_)
    refine g_if (fun w3 => ?_) (fun w3 => ?_)
    · refine g_C ?_
      refine ⟨by omega, ?_⟩
      refine g_ifT (by omega) ?_
      refine g_C ?_
      exact hk (-1) m0 hm0 (by omega) (by omega)
    · refine g_C ?_
      refine ⟨by omega, ?_⟩
      refine g_ifF (by omega) ?_
      refine ⟨hS.k336, ?_⟩
      refine u_X12_isJug ?_
      refine g_if (fun w4 => ?_) (fun w4 => ?_)
      · refine g_C ?_
        refine ⟨by omega, ?_⟩
        refine g_ifT (by omega) ?_
        refine g_C ?_
        exact hk (-1) m0 hm0 (by omega) (by omega)
      · refine g_getr 20 346 rfl hS.k336 hm0.f_336_20 (by decide) ?_
        refine g_C ?_
        refine g_ld (0) (4) hS.k346 hS.l346 (by omega) (by omega) (hm0.f_346_5) (fun v5 ev5 bv5 cv5 => ?_)
        refine g_if (fun w6 => ?_) (fun w6 => ?_)
        · refine g_C ?_
          refine ⟨by omega, ?_⟩
          refine g_ifT (by omega) ?_
          refine g_C ?_
          exact hk (-1) m0 hm0 (by omega) (by omega)
        · refine g_C ?_
          refine ⟨by omega, ?_⟩
          refine g_ifF (by omega) ?_
          refine ⟨hS.k336, ?_⟩
          refine u_X12_stands ?_
          refine g_C ?_
          refine ⟨hS.k336, ?_⟩
          refine u_X12_jugOf ?_
          refine g_getr 20 346 rfl hS.k336 hm0.f_336_20 (by decide) ?_
          refine g_C ?_
          refine g_C ?_
          refine g_M (by omega) (by omega) ?_
          refine g_A (by omega) (by omega) ?_
          refine g_A (by omega) (by omega) ?_
          refine g_ld (-1) (4) hS.k346 hS.l346 (by omega) (by omega) (fam_346_36_4_0_3 hm0 (a := u2) (by omega) (by omega) (by omega)) (fun v7 ev7 bv7 cv7 => ?_)
          refine g_if (fun w8 => ?_) (fun w8 => ?_)
          · refine g_C ?_
            refine ⟨by omega, ?_⟩
            refine g_ifT (by omega) ?_
            refine g_C ?_
            exact hk (-1) m0 hm0 (by omega) (by omega)
          · refine g_C ?_
            refine ⟨hS.k336, ?_⟩
            refine u_X12_jugOf ?_
            refine g_getr 20 346 rfl hS.k336 hm0.f_336_20 (by decide) ?_
            refine g_C ?_
            refine g_C ?_
            refine g_M (by omega) (by omega) ?_
            refine g_A (by omega) (by omega) ?_
            refine g_A (by omega) (by omega) ?_
            refine g_ld (0) (1) hS.k346 hS.l346 (by omega) (by omega) (fam_346_38_4_0_3 hm0 (a := u2) (by omega) (by omega) (by omega)) (fun v9 ev9 bv9 cv9 => ?_)
            refine g_if (fun w10 => ?_) (fun w10 => ?_)
            · refine g_C ?_
              refine ⟨by omega, ?_⟩
              refine g_ifT (by omega) ?_
              refine g_C ?_
              exact hk (-1) m0 hm0 (by omega) (by omega)
            · refine g_C ?_
              refine ⟨by omega, ?_⟩
              refine g_ifF (by omega) ?_
              refine ⟨hS.k336, ?_⟩
              refine u_X12_isPlace ?_
              refine g_if (fun w11 => ?_) (fun w11 => ?_)
              · refine g_C ?_
                refine ⟨by omega, ?_⟩
                refine g_ifF (by omega) ?_
                refine g_C ?_
                exact hk (-1) m0 hm0 (by omega) (by omega)
              · refine g_getr 20 346 rfl hS.k336 hm0.f_336_20 (by decide) ?_
                refine g_C ?_
                refine g_ld (0) (6) hS.k346 hS.l346 (by omega) (by omega) (hm0.f_346_0) (fun v12 ev12 bv12 cv12 => ?_)
                refine g_if (fun w13 => ?_) (fun w13 => ?_)
                · refine g_C ?_
                  refine ⟨by omega, ?_⟩
                  refine g_ifF (by omega) ?_
                  refine g_C ?_
                  exact hk (-1) m0 hm0 (by omega) (by omega)
                · refine g_C ?_
                  refine ⟨by omega, ?_⟩
                  refine g_ifT (by omega) ?_
                  refine ⟨hS.k336, ?_⟩
                  refine z_X12_fillsHours hS hm0 (by omega) (by omega) (by omega) (fun m14 hm14 fm14 ym14_0 => ?_)
                  refine g_getr 27 349 rfl hS.k336 hm14.f_336_27 (by decide) ?_
                  refine g_C ?_
                  refine ⟨hS.k336, ?_⟩
                  refine u_X12_jugOf ?_
                  refine g_getr 20 346 rfl hS.k336 hm14.f_336_20 (by decide) ?_
                  refine g_C ?_
                  refine g_C ?_
                  refine g_M (by omega) (by omega) ?_
                  refine g_A (by omega) (by omega) ?_
                  refine g_A (by omega) (by omega) ?_
                  refine g_ld (0) (5) hS.k346 hS.l346 (by omega) (by omega) (fam_346_35_4_0_3 hm14 (a := u2) (by omega) (by omega) (by omega)) (fun v15 ev15 bv15 cv15 => ?_)
                  refine g_ld (0) (99) hS.k349 hS.l349 (by omega) (by omega) (hm14.a_349 (by omega) (by omega)) (fun v16 ev16 bv16 cv16 => ?_)
                  refine g_C ?_
                  refine g_if (fun w17 => ?_) (fun w17 => ?_)
                  · refine g_C ?_
                    refine ⟨hS.k336, ?_⟩
                    refine u_X12_jugOf ?_
                    refine g_getr 20 346 rfl hS.k336 hm14.f_336_20 (by decide) ?_
                    refine g_C ?_
                    refine g_C ?_
                    refine g_M (by omega) (by omega) ?_
                    refine g_A (by omega) (by omega) ?_
                    refine g_A (by omega) (by omega) ?_
                    refine g_ld (-2147483648) (2147483647) hS.k346 hS.l346 (by omega) (by omega) (fam_346_37_4_0_3 hm14 (a := u2) (by omega) (by omega) (by omega)) (fun v18 ev18 bv18 cv18 => ?_)
                    refine g_getr 20 346 rfl hS.k336 hm14.f_336_20 (by decide) ?_
                    refine g_C ?_
                    refine g_ld (-2147483648) (2147483647) hS.k346 hS.l346 (by omega) (by omega) (hm14.f_346_7) (fun v19 ev19 bv19 cv19 => ?_)
                    refine g_C ?_
                    refine ⟨hS.k336, ?_⟩
                    refine z_X12_turnedBy hS hm14 (by omega) (by omega) (by omega) (by omega) (by omega) (by omega) (by omega) (by omega) (by omega) (by omega) (by omega) (by omega) (fun v20 m21 hm21 fm21 bv20 cv20 => ?_)
                    exact hk v20 m21 hm21 (by omega) (by omega)
                  · refine g_C ?_
                    exact hk (-2) m14 hm14 (by omega) (by omega)
theorem z_X12_nextPlace {X : Mm} {S : Sh} {m0 : Mm} {K : Int → Mm → Prop} {u1 : Int} (hS : Shp S) (hm0 : Inv X S m0) (l_u1 : 0 ≤ u1) (h_u1 : u1 ≤ 5) (hk : ∀ (r : Int), (-1) ≤ r → r ≤ 5 → K r m0) : wp_X12_nextPlace S m0 336 u1 K := by
  refine u_X12_nextPlace ?_
  refine g_C ?_
  have L_n_l61 : ∀ (n_l61 : Nat) (u3 : Int), 0 ≤ u3 → u3 ≤ 6 → 7 - u3 ≤ (n_l61 : Int) → wp_X12_nextPlace_2 S K n_l61 336 u1 u3 m0 := by
    intro n_l61
    induction n_l61 with
    | zero => intro u3 bu3 cu3 zn_l61; exfalso; omega
    | succ n_l61 ih_n_l61 =>
      intro u3 bu3 cu3 zn_l61
      refine u_X12_nextPlace_2 ?_
      refine g_getr 20 346 rfl hS.k336 hm0.f_336_20 (by decide) ?_
      refine g_C ?_
      refine g_ld (0) (6) hS.k346 hS.l346 (by omega) (by omega) (hm0.f_346_0) (fun v62 ev62 bv62 cv62 => ?_)
      refine g_if (fun w63 => ?_) (fun w63 => ?_)
      · refine g_C ?_
        exact hk (-1) (by omega) (by omega)
      · refine ⟨hS.k336, ?_⟩
        refine z_X12_roadOf hS hm0 (by omega) (by omega) (by omega) (by omega) (fun v64 bv64 cv64 => ?_)
        refine g_if (fun w65 => ?_) (fun w65 => ?_)
        · refine u_X12_nextPlace_45 ?_
          refine g_A (by omega) (by omega) ?_
          exact ih_n_l61 (u3 + 1) (by omega) (by omega) (by omega)
        · refine g_getr 27 349 rfl hS.k336 hm0.f_336_27 (by decide) ?_
          refine g_ld (0) (99) hS.k349 hS.l349 (by omega) (by omega) (hm0.a_349 (by omega) (by omega)) (fun v66 ev66 bv66 cv66 => ?_)
          refine ⟨hS.k336, ?_⟩
          refine z_X12_roadOf hS hm0 (by omega) (by omega) (by omega) (by omega) (fun v67 bv67 cv67 => ?_)
          refine g_A (by omega) (by omega) ?_
          refine g_getr 27 349 rfl hS.k336 hm0.f_336_27 (by decide) ?_
          refine g_ld (0) (99) hS.k349 hS.l349 (by omega) (by omega) (hm0.a_349 (by omega) (by omega)) (fun v68 ev68 bv68 cv68 => ?_)
          refine g_if (fun w69 => ?_) (fun w69 => ?_)
          · refine u_X12_nextPlace_45 ?_
            refine g_A (by omega) (by omega) ?_
            exact ih_n_l61 (u3 + 1) (by omega) (by omega) (by omega)
          · exact hk u3 (by omega) (by omega)
  exact ⟨7, L_n_l61 7 0 (by omega) (by omega) (by omega)⟩
def ind (x y : Int) : Int := if x < y then 1 else 0
def below (f : Int → Int) (y : Int) : Int := ind (f 0) y + ind (f 1) y + ind (f 2) y + ind (f 3) y + ind (f 4) y + ind (f 5) y
