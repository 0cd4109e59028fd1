theorem z_J6_bitCount_0f7a4 {X : Mm} {S : Sh} {m0 : Mm} {K : Int → Mm → Prop} {u0 : Int} (hS : Shp S) (hm0 : Inv X S m0) (l_u0 : 0 ≤ u0) (h_u0 : u0 ≤ 1023) (hk : ∀ (r : Int), 0 ≤ r → r ≤ 63 → K r m0) : wp_J6_bitCount_0f7a4 S m0 u0 K := by
  refine u_J6_bitCount_0f7a4 ?_
  refine g_C ?_
  refine g_o32u (fun v1 bv1 cv1 => ?_)
  refine g_C ?_
  refine g_iAndR (by omega) (by omega) (fun v2 dv2 bv2 cv2 => ?_)
  refine g_S (by omega) (by omega) ?_
  refine g_C ?_
  refine g_iAndR (by omega) (by omega) (fun v3 dv3 bv3 cv3 => ?_)
  refine g_C ?_
  refine g_o32u (fun v4 bv4 cv4 => ?_)
  refine g_C ?_
  refine g_iAndR (by omega) (by omega) (fun v5 dv5 bv5 cv5 => ?_)
  refine g_A (by omega) (by omega) ?_
  refine g_C ?_
  refine g_o32u (fun v6 bv6 cv6 => ?_)
  refine g_Aw (fun v7 bv7 cv7 => ?_)
  refine g_C ?_
  refine g_iAndR (by omega) (by omega) (fun v8 dv8 bv8 cv8 => ?_)
  refine g_C ?_
  refine g_o32u (fun v9 bv9 cv9 => ?_)
  refine g_Aw (fun v10 bv10 cv10 => ?_)
  refine g_C ?_
  refine g_o32u (fun v11 bv11 cv11 => ?_)
  refine g_Aw (fun v12 bv12 cv12 => ?_)
  refine g_C ?_
  refine g_iAndR (by omega) (by omega) (fun v13 dv13 bv13 cv13 => ?_)
  exact hk v13 (by omega) (by omega)
theorem z_J6_numberOfTrailingZeros_0f7a4 {X : Mm} {S : Sh} {m0 : Mm} {K : Int → Mm → Prop} {u0 : Int} (hS : Shp S) (hm0 : Inv X S m0) (l_u0 : 1 ≤ u0) (h_u0 : u0 ≤ 31) (hk : ∀ (r : Int), (-2147483648) ≤ r → r ≤ 2147483647 → K r m0) : wp_J6_numberOfTrailingZeros_0f7a4 S m0 u0 K := by
  refine u_J6_numberOfTrailingZeros_0f7a4 ?_
  refine g_C ?_
  refine g_o32 (fun v1 bv1 cv1 => ?_)
  refine g_C ?_
  refine g_S (by omega) (by omega) ?_
  refine g_iAndR (by omega) (by omega) (fun v2 dv2 bv2 cv2 => ?_)
  refine g_if (fun w3 => ?_) (fun w3 => ?_)
  · refine g_C ?_
    refine g_C ?_
    refine g_ifT (by omega) ?_
    refine u_J6_numberOfTrailingZeros_0f7a4_34 ?_
    refine g_C ?_
    refine g_ifT (by omega) ?_
    refine u_J6_numberOfTrailingZeros_0f7a4_49 ?_
    refine g_C ?_
    refine g_if (fun w4 => ?_) (fun w4 => ?_)
    · refine u_J6_numberOfTrailingZeros_0f7a4_62 ?_
      refine g_C ?_
      refine g_if (fun w5 => ?_) (fun w5 => ?_)
      · refine u_J6_numberOfTrailingZeros_0f7a4_74 ?_
        refine g_C ?_
        refine g_o32u (fun v6 bv6 cv6 => ?_)
        refine g_Aw (fun v7 bv7 cv7 => ?_)
        exact hk v7 (by omega) (by omega)
      · refine g_Al (3) rfl (by decide) (by decide) ?_
        refine g_C ?_
        refine g_o32u (fun v8 bv8 cv8 => ?_)
        refine u_J6_numberOfTrailingZeros_0f7a4_74 ?_
        refine g_C ?_
        refine g_o32u (fun v9 bv9 cv9 => ?_)
        refine g_Aw (fun v10 bv10 cv10 => ?_)
        exact hk v10 (by omega) (by omega)
    · refine g_Al (5) rfl (by decide) (by decide) ?_
      refine g_C ?_
      refine g_o32u (fun v11 bv11 cv11 => ?_)
      refine u_J6_numberOfTrailingZeros_0f7a4_62 ?_
      refine g_C ?_
      refine g_if (fun w12 => ?_) (fun w12 => ?_)
      · refine u_J6_numberOfTrailingZeros_0f7a4_74 ?_
        refine g_C ?_
        refine g_o32u (fun v13 bv13 cv13 => ?_)
        refine g_Aw (fun v14 bv14 cv14 => ?_)
        exact hk v14 (by omega) (by omega)
      · refine g_Al (7) rfl (by decide) (by decide) ?_
        refine g_C ?_
        refine g_o32u (fun v15 bv15 cv15 => ?_)
        refine u_J6_numberOfTrailingZeros_0f7a4_74 ?_
        refine g_C ?_
        refine g_o32u (fun v16 bv16 cv16 => ?_)
        refine g_Aw (fun v17 bv17 cv17 => ?_)
        exact hk v17 (by omega) (by omega)
  · refine g_C ?_
    refine g_iAndR (by omega) (by omega) (fun v18 dv18 bv18 cv18 => ?_)
    exact hk v18 (by omega) (by omega)
