theorem z_X11_rest {X : Mm} {S : Sh} {m0 : Mm} {K : Int → Mm → Prop} {u1 u2 u3 u4 : Int} (hS : Shp S) (hm0 : Inv X S m0) (l_u1 : (-2147483648) ≤ u1) (h_u1 : u1 ≤ 2147483647) (l_u2 : (-2147483648) ≤ u2) (h_u2 : u2 ≤ 2147483647) (l_u3 : (-2147483648) ≤ u3) (h_u3 : u3 ≤ 2147483647) (l_u4 : (-2147483648) ≤ u4) (h_u4 : u4 ≤ 2147483647) (hk : ∀ (r : Int) (M1 : Mm), Inv X S M1 → (-1) ≤ r → r ≤ 2147483647 → K r M1) : wp_X11_rest S m0 0 u1 u2 u3 u4 K := by
  refine u_X11_rest ?_
  refine ⟨hS.k0, ?_⟩
  refine u_X11_isHand ?_
  refine g_if (fun w1 => ?_) (fun w1 => ?_)
  · refine g_C ?_
    refine ⟨by omega, ?_⟩
    refine g_ifT (by omega) ?_
    refine g_C ?_
    exact hk (-1) m0 hm0 (by omega) (by omega)
  · refine g_getr 1 3 rfl hS.k0 hm0.f_0_1 (by decide) ?_
    refine g_getr 0 4 rfl hS.k3 hm0.f_3_0 (by decide) ?_
    refine g_get 4 (0) (5) rfl hS.k4 hm0.f_4_4 (fun v2 ev2 bv2 cv2 => ?_)
    refine g_if (fun w3 => ?_) (fun w3 => ?_)
    · refine g_C ?_
      refine ⟨by omega, ?_⟩
      refine g_ifT (by omega) ?_
      refine g_C ?_
      exact hk (-1) m0 hm0 (by omega) (by omega)
    · refine g_C ?_
      refine ⟨by omega, ?_⟩
      refine g_ifF (by omega) ?_
      refine g_C ?_
      refine g_if (fun w4 => ?_) (fun w4 => ?_)
      · refine g_C ?_
        exact hk (-1) m0 hm0 (by omega) (by omega)
      · refine g_C ?_
        refine g_if (fun w5 => ?_) (fun w5 => ?_)
        · refine g_C ?_
          exact hk (-1) m0 hm0 (by omega) (by omega)
        · refine g_if (fun w6 => ?_) (fun w6 => ?_)
          · refine g_C ?_
            exact hk (-1) m0 hm0 (by omega) (by omega)
          · refine g_if (fun w7 => ?_) (fun w7 => ?_)
            · refine g_C ?_
              exact hk (-1) m0 hm0 (by omega) (by omega)
            · refine g_if (fun w8 => ?_) (fun w8 => ?_)
              · refine g_C ?_
                exact hk (-1) m0 hm0 (by omega) (by omega)
              · refine g_C ?_
                refine g_if (fun w9 => ?_) (fun w9 => ?_)
                · refine g_C ?_
                  refine g_C ?_
                  refine g_C ?_
                  have L_n_l192 : ∀ (n_l192 : Nat) (u15 : Int) (u16 : Int) (u17 : Int) (m18 : Mm), Inv X S m18 → 0 ≤ u15 → u15 ≤ 6000 → 0 ≤ u16 → u16 ≤ 2147483647 → 0 ≤ u17 → u17 ≤ 1024 → 1025 - u17 ≤ (n_l192 : Int) → wp_X11_rest_52 S K n_l192 0 u1 u2 u3 u4 u15 u16 u17 m18 := by
                    intro n_l192
                    induction n_l192 with
                    | zero => intro u15 u16 u17 m18 hm18 bu15 cu15 bu16 cu16 bu17 cu17 zn_l192; exfalso; omega
                    | succ n_l192 ih_n_l192 =>
                      intro u15 u16 u17 m18 hm18 bu15 cu15 bu16 cu16 bu17 cu17 zn_l192
                      refine u_X11_rest_52 ?_
                      refine g_C ?_
                      refine g_iShl 10 (by omega) (by omega) (by decide) (fun v193 bv193 cv193 => ?_)
                      refine g_if (fun w194 => ?_) (fun w194 => ?_)
                      · refine g_if (fun w195 => ?_) (fun w195 => ?_)
                        · exact hk u16 m18 hm18 (by omega) (by omega)
                        · exact hk u15 m18 hm18 (by omega) (by omega)
                      · refine z_J6_bitCount_0f7a4 hS hm18 (by omega) (by omega) (fun v196 bv196 cv196 => ?_)
                        refine g_if (fun w197 => ?_) (fun w197 => ?_)
                        · refine u_X11_rest_97 ?_
                          refine g_A (by omega) (by omega) ?_
                          exact ih_n_l192 u15 u16 (u17 + 1) m18 hm18 (by omega) (by omega) (by omega) (by omega) (by omega) (by omega) (by omega)
                        · refine g_getr 14 66 rfl hS.k0 hm18.f_0_14 (by decide) ?_
                          refine ⟨hS.k66, ?_⟩
                          refine z_X9_turnedByTurns hS hm18 (by omega) (by omega) (by omega) (by omega) (by omega) (by omega) (fun v198 m199 hm199 bv198 cv198 => ?_)
                          refine g_if (fun w200 => ?_) (fun w200 => ?_)
                          · refine u_X11_rest_97 ?_
                            refine g_A (by omega) (by omega) ?_
                            exact ih_n_l192 u15 u16 (u17 + 1) m199 hm199 (by omega) (by omega) (by omega) (by omega) (by omega) (by omega) (by omega)
                          · refine u_X11_rest_97 ?_
                            refine g_A (by omega) (by omega) ?_
                            exact ih_n_l192 u17 v198 (u17 + 1) m199 hm199 (by omega) (by omega) (by omega) (by omega) (by omega) (by omega) (by omega)
                  exact ⟨1025, L_n_l192 1025 0 2147483647 0 m0 hm0 (by omega) (by omega) (by omega) (by omega) (by omega) (by omega) (by omega)⟩
                · refine g_C ?_
                  exact hk (-1) m0 hm0 (by omega) (by omega)
