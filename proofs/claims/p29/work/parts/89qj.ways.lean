theorem zm_measureWays {X : Mm} {S : Sh} {m0 : Mm} {K : Mm → Prop} (hS : Shp S) (hm0 : Inv X S m0)  (hk : ∀ (M1 : Mm), Inv X S M1 → (∀ c p : Int, ¬ c = 34 → M1 c p = m0 c p) → K M1) : wp_X8_measureWays S m0 32 K := by
  have Fm0 : ∀ c p : Int, ¬ c = 34 → m0 c p = m0 c p := fun c p _ => rfl
  refine u_X8_measureWays ?_
  refine g_C ?_
  have L_n_l16829 : ∀ (n_l16829 : Nat) (u2 : Int) (m3 : Mm), Inv X S m3 → (∀ c p : Int, ¬ c = 34 → m3 c p = m0 c p) → 0 ≤ u2 → u2 ≤ 6 → 7 - u2 ≤ (n_l16829 : Int) → wp_X8_measureWays_2 S K n_l16829 32 u2 m3 := by
    intro n_l16829
    induction n_l16829 with
    | zero => intro u2 m3 hm3 Fm3 bu2 cu2 zn_l16829; exfalso; omega
    | succ n_l16829 ih_n_l16829 =>
      intro u2 m3 hm3 Fm3 bu2 cu2 zn_l16829
      refine u_X8_measureWays_2 ?_
      refine g_get 0 (0) (6) rfl hS.k32 hm3.f_32_0 (fun v16830 ev16830 bv16830 cv16830 => ?_)
      refine g_if (fun w16831 => ?_) (fun w16831 => ?_)
      · refine g_C ?_
        have L_n_l19565 : ∀ (n_l19565 : Nat) (u16833 : Int) (m16834 : Mm), Inv X S m16834 → (∀ c p : Int, ¬ c = 34 → m16834 c p = m0 c p) → 0 ≤ u16833 → u16833 ≤ 6 → 7 - u16833 ≤ (n_l19565 : Int) → wp_X8_measureWays_71 S K n_l19565 32 u16833 m16834 := by
          intro n_l19565
          induction n_l19565 with
          | zero => intro u16833 m16834 hm16834 Fm16834 bu16833 cu16833 zn_l19565; exfalso; omega
          | succ n_l19565 ih_n_l19565 =>
            intro u16833 m16834 hm16834 Fm16834 bu16833 cu16833 zn_l19565
            refine u_X8_measureWays_71 ?_
            refine g_get 0 (0) (6) rfl hS.k32 hm16834.f_32_0 (fun v19566 ev19566 bv19566 cv19566 => ?_)
            refine g_if (fun w19567 => ?_) (fun w19567 => ?_)
            · exact hk m16834 hm16834 Fm16834
            · refine g_C ?_
              have L_n_l19956 : ∀ (n_l19956 : Nat) (u19570 : Int) (m19571 : Mm), Inv X S m19571 → (∀ c p : Int, ¬ c = 34 → m19571 c p = m0 c p) → 0 ≤ u19570 → u19570 ≤ 6 → 7 - u19570 ≤ (n_l19956 : Int) → wp_X8_measureWays_81 S (fun a0 a1 M => wp_X8_measureWays_71 S K n_l19565 a0 a1 M) K n_l19956 32 u16833 u19570 m19571 := by
                intro n_l19956
                induction n_l19956 with
                | zero => intro u19570 m19571 hm19571 Fm19571 bu19570 cu19570 zn_l19956; exfalso; omega
                | succ n_l19956 ih_n_l19956 =>
                  intro u19570 m19571 hm19571 Fm19571 bu19570 cu19570 zn_l19956
                  refine u_X8_measureWays_81 ?_
                  refine g_get 0 (0) (6) rfl hS.k32 hm19571.f_32_0 (fun v19957 ev19957 bv19957 cv19957 => ?_)
                  refine g_if (fun w19958 => ?_) (fun w19958 => ?_)
                  · refine g_A (by omega) (by omega) ?_
                    exact ih_n_l19565 (u16833 + 1) m19571 hm19571 Fm19571 (by omega) (by omega) (by omega)
                  · refine g_C ?_
                    have L_n_l20012 : ∀ (n_l20012 : Nat) (u19962 : Int) (m19963 : Mm), Inv X S m19963 → (∀ c p : Int, ¬ c = 34 → m19963 c p = m0 c p) → 0 ≤ u19962 → u19962 ≤ 6 → 7 - u19962 ≤ (n_l20012 : Int) → wp_X8_measureWays_91 S (fun a0 a1 M => wp_X8_measureWays_71 S K n_l19565 a0 a1 M) (fun a0 a1 a2 M => wp_X8_measureWays_81 S (fun a0 a1 M => wp_X8_measureWays_71 S K n_l19565 a0 a1 M) K n_l19956 a0 a1 a2 M) K n_l20012 32 u16833 u19570 u19962 m19963 := by
                      intro n_l20012
                      induction n_l20012 with
                      | zero => intro u19962 m19963 hm19963 Fm19963 bu19962 cu19962 zn_l20012; exfalso; omega
                      | succ n_l20012 ih_n_l20012 =>
                        intro u19962 m19963 hm19963 Fm19963 bu19962 cu19962 zn_l20012
                        refine u_X8_measureWays_91 ?_
                        refine g_get 0 (0) (6) rfl hS.k32 hm19963.f_32_0 (fun v20013 ev20013 bv20013 cv20013 => ?_)
                        refine g_if (fun w20014 => ?_) (fun w20014 => ?_)
                        · refine g_A (by omega) (by omega) ?_
                          exact ih_n_l19956 (u19570 + 1) m19963 hm19963 Fm19963 (by omega) (by omega) (by omega)
                        · refine g_getr 9 34 rfl hS.k32 hm19963.f_32_9 (by decide) ?_
                          refine u_X8_pair ?_
                          refine g_C ?_
                          refine g_M (by omega) (by omega) ?_
                          refine g_A (by omega) (by omega) ?_
                          refine g_ld (0) (1000) hS.k34 hS.l34 (by omega) (by omega) (hm19963.a_34 (by omega) (by omega)) (fun v20015 ev20015 bv20015 cv20015 => ?_)
                          refine g_getr 9 34 rfl hS.k32 hm19963.f_32_9 (by decide) ?_
                          refine u_X8_pair ?_
                          refine g_C ?_
                          refine g_M (by omega) (by omega) ?_
                          refine g_A (by omega) (by omega) ?_
                          refine g_ld (0) (1000) hS.k34 hS.l34 (by omega) (by omega) (hm19963.a_34 (by omega) (by omega)) (fun v20016 ev20016 bv20016 cv20016 => ?_)
                          refine g_A (by omega) (by omega) ?_
                          refine g_getr 9 34 rfl hS.k32 hm19963.f_32_9 (by decide) ?_
                          refine u_X8_pair ?_
                          refine g_C ?_
                          refine g_M (by omega) (by omega) ?_
                          refine g_A (by omega) (by omega) ?_
                          refine g_getr 9 34 rfl hS.k32 hm19963.f_32_9 (by decide) ?_
                          refine u_X8_pair ?_
                          refine g_C ?_
                          refine g_M (by omega) (by omega) ?_
                          refine g_A (by omega) (by omega) ?_
                          refine g_ld (0) (1000) hS.k34 hS.l34 (by omega) (by omega) (hm19963.a_34 (by omega) (by omega)) (fun v20017 ev20017 bv20017 cv20017 => ?_)
                          refine g_min (fun v20018 bv20018 cv20018 dv20018 => ?_)
                          refine g_st hS.k34 hS.l34 (by omega) (by omega) (hm19963.wa_34 (by omega) (by omega) (by omega) (by omega)) (fun m20019 em20019 hm20019 => ?_)
                          have Fm20019 : ∀ c p : Int, ¬ c = 34 → m20019 c p = m0 c p := fun c p h => (congrFun (congrFun em20019 _) _).trans ((up_ne (by omega)).trans (Fm19963 c p h))
                          refine g_A (by omega) (by omega) ?_
                          exact ih_n_l20012 (u19962 + 1) m20019 hm20019 Fm20019 (by omega) (by omega) (by omega)
                    exact ⟨7, L_n_l20012 7 0 m19571 hm19571 Fm19571 (by omega) (by omega) (by omega)⟩
              exact ⟨7, L_n_l19956 7 0 m16834 hm16834 Fm16834 (by omega) (by omega) (by omega)⟩
        exact ⟨7, L_n_l19565 7 0 m3 hm3 Fm3 (by omega) (by omega) (by omega)⟩
      · refine g_C ?_
        have L_n_l20079 : ∀ (n_l20079 : Nat) (u20022 : Int) (m20023 : Mm), Inv X S m20023 → (∀ c p : Int, ¬ c = 34 → m20023 c p = m0 c p) → 0 ≤ u20022 → u20022 ≤ 6 → 7 - u20022 ≤ (n_l20079 : Int) → wp_X8_measureWays_12 S (fun a0 a1 M => wp_X8_measureWays_2 S K n_l16829 a0 a1 M) K n_l20079 32 u2 u20022 m20023 := by
          intro n_l20079
          induction n_l20079 with
          | zero => intro u20022 m20023 hm20023 Fm20023 bu20022 cu20022 zn_l20079; exfalso; omega
          | succ n_l20079 ih_n_l20079 =>
            intro u20022 m20023 hm20023 Fm20023 bu20022 cu20022 zn_l20079
            refine u_X8_measureWays_12 ?_
            refine g_get 0 (0) (6) rfl hS.k32 hm20023.f_32_0 (fun v20080 ev20080 bv20080 cv20080 => ?_)
            refine g_if (fun w20081 => ?_) (fun w20081 => ?_)
            · refine g_A (by omega) (by omega) ?_
              exact ih_n_l16829 (u2 + 1) m20023 hm20023 Fm20023 (by omega) (by omega) (by omega)
            · refine ⟨hS.k32, ?_⟩
              refine u_X8_roadHours ?_
              refine g_getr 8 33 rfl hS.k32 hm20023.f_32_8 (by decide) ?_
              refine u_X8_pair ?_
              refine g_C ?_
              refine g_M (by omega) (by omega) ?_
              refine g_A (by omega) (by omega) ?_
              refine g_ld (0) (5) hS.k33 hS.l33 (by omega) (by omega) (hm20023.a_33 (by omega) (by omega)) (fun v20082 ev20082 bv20082 cv20082 => ?_)
              refine g_getr 9 34 rfl hS.k32 hm20023.f_32_9 (by decide) ?_
              refine u_X8_pair ?_
              refine g_C ?_
              refine g_M (by omega) (by omega) ?_
              refine g_A (by omega) (by omega) ?_
              refine g_if (fun w20083 => ?_) (fun w20083 => ?_)
              · refine g_if (fun w20084 => ?_) (fun w20084 => ?_)
                · refine g_C ?_
                  refine u_X8_measureWays_56 ?_
                  refine g_st hS.k34 hS.l34 (by omega) (by omega) (hm20023.wa_34 (by omega) (by omega) (by omega) (by omega)) (fun m20085 em20085 hm20085 => ?_)
                  have Fm20085 : ∀ c p : Int, ¬ c = 34 → m20085 c p = m0 c p := fun c p h => (congrFun (congrFun em20085 _) _).trans ((up_ne (by omega)).trans (Fm20023 c p h))
                  refine g_A (by omega) (by omega) ?_
                  exact ih_n_l20079 (u20022 + 1) m20085 hm20085 Fm20085 (by omega) (by omega) (by omega)
                · refine u_X8_measureWays_56 ?_
                  refine g_st hS.k34 hS.l34 (by omega) (by omega) (hm20023.wa_34 (by omega) (by omega) (by omega) (by omega)) (fun m20086 em20086 hm20086 => ?_)
                  have Fm20086 : ∀ c p : Int, ¬ c = 34 → m20086 c p = m0 c p := fun c p h => (congrFun (congrFun em20086 _) _).trans ((up_ne (by omega)).trans (Fm20023 c p h))
                  refine g_A (by omega) (by omega) ?_
                  exact ih_n_l20079 (u20022 + 1) m20086 hm20086 Fm20086 (by omega) (by omega) (by omega)
              · refine g_C ?_
                refine u_X8_measureWays_56 ?_
                refine g_st hS.k34 hS.l34 (by omega) (by omega) (hm20023.wa_34 (by omega) (by omega) (by omega) (by omega)) (fun m20087 em20087 hm20087 => ?_)
                have Fm20087 : ∀ c p : Int, ¬ c = 34 → m20087 c p = m0 c p := fun c p h => (congrFun (congrFun em20087 _) _).trans ((up_ne (by omega)).trans (Fm20023 c p h))
                refine g_A (by omega) (by omega) ?_
                exact ih_n_l20079 (u20022 + 1) m20087 hm20087 Fm20087 (by omega) (by omega) (by omega)
        exact ⟨7, L_n_l20079 7 0 m3 hm3 Fm3 (by omega) (by omega) (by omega)⟩
  exact ⟨7, L_n_l16829 7 0 m0 hm0 Fm0 (by omega) (by omega) (by omega)⟩
