theorem z_X1_turnsIn {X : Mm} {S : Sh} {m0 : Mm} {K : Int → Mm → Prop} {u1 u2 : Int} (hS : Shp S) (hm0 : Inv X S m0) (hb_u1 : isSt u1) (l_u2 : 0 ≤ u2) (h_u2 : u2 ≤ 3) (hk : ∀ (r : Int) (M1 : Mm), Inv X S M1 → 0 ≤ r → r ≤ 64 → K r M1) : wp_X1_turnsIn S m0 57 u1 u2 K := by
  refine u_X1_turnsIn ?_
  refine ⟨(hS.kB_5_0 hb_u1), ?_⟩
  refine u_X5_stands ?_
  refine g_getr 5 (u1 + 4) rfl (hS.kB_5_0 hb_u1) (hm0.fB_5_5 hb_u1) (hS.nB_5_4 hb_u1) ?_
  refine g_ld (-1) (5) (hS.kB_5_4 hb_u1) (hS.lB_5_4 hb_u1) (by omega) (by omega) (hm0.aB_5_4 hb_u1 (by omega) (by omega)) (fun v1 ev1 bv1 cv1 => ?_)
  refine g_C ?_
  refine g_if (fun w2 => ?_) (fun w2 => ?_)
  · refine g_C ?_
    refine ⟨by omega, ?_⟩
    refine g_ifT (by omega) ?_
    refine ⟨(hS.kB_5_0 hb_u1), ?_⟩
    refine u_X5_isGone ?_
    refine g_getr 5 (u1 + 4) rfl (hS.kB_5_0 hb_u1) (hm0.fB_5_5 hb_u1) (hS.nB_5_4 hb_u1) ?_
    refine g_ld (-1) (5) (hS.kB_5_4 hb_u1) (hS.lB_5_4 hb_u1) (by omega) (by omega) (hm0.aB_5_4 hb_u1 (by omega) (by omega)) (fun v3 ev3 bv3 cv3 => ?_)
    have qv3 : v3 = v1 := ev3.trans ev1.symm
    refine g_C ?_
    refine g_ifF (by omega) ?_
    refine g_getr 6 (u1 + 5) rfl (hS.kB_5_0 hb_u1) (hm0.fB_5_6 hb_u1) (hS.nB_5_5 hb_u1) ?_
    refine g_ld (-1) (4) (hS.kB_5_5 hb_u1) (hS.lB_5_5 hb_u1) (by omega) (by omega) (hm0.aB_5_5 hb_u1 (by omega) (by omega)) (fun v4 ev4 bv4 cv4 => ?_)
    refine g_C ?_
    refine g_if (fun w5 => ?_) (fun w5 => ?_)
    · refine g_C ?_
      refine ⟨by omega, ?_⟩
      refine g_ifT (by omega) ?_
      refine g_getr 0 55 rfl hS.k57 hm0.f_57_0 (by decide) ?_
      refine g_getr 6 (u1 + 5) rfl (hS.kB_5_0 hb_u1) (hm0.fB_5_6 hb_u1) (hS.nB_5_5 hb_u1) ?_
      refine g_ld (-1) (4) (hS.kB_5_5 hb_u1) (hS.lB_5_5 hb_u1) (by omega) (by omega) (hm0.aB_5_5 hb_u1 (by omega) (by omega)) (fun v6 ev6 bv6 cv6 => ?_)
      have qv6 : v6 = v4 := ev6.trans ev4.symm
      refine ⟨hS.k55, ?_⟩
      refine z_X10_see hS hm0 hb_u1 (by omega) (by omega) (by omega) (by omega) (fun m7 hm7 => ?_)
      refine g_getr 0 55 rfl hS.k57 hm7.f_57_0 (by decide) ?_
      refine ⟨hS.k55, ?_⟩
      refine z_X10_turns hS hm7 (fun v8 m9 hm9 bv8 cv8 => ?_)
      exact hk v8 m9 hm9 (by omega) (by omega)
    · refine g_C ?_
      refine ⟨by omega, ?_⟩
      refine g_ifF (by omega) ?_
      refine g_C ?_
      exact hk 0 m0 hm0 (by omega) (by omega)
  · refine g_C ?_
    refine ⟨by omega, ?_⟩
    refine g_ifF (by omega) ?_
    refine g_getr 1 4 rfl hS.k57 hm0.f_57_1 (by decide) ?_
    refine g_get 1 (0) (9) rfl hS.k4 hm0.f_4_1 (fun v10 ev10 bv10 cv10 => ?_)
    refine g_getr 0 55 rfl hS.k57 hm0.f_57_0 (by decide) ?_
    refine g_get 0 (0) (999) rfl (hS.kB_5_0 hb_u1) (hm0.fB_5_0 hb_u1) (fun v11 ev11 bv11 cv11 => ?_)
    refine ⟨hS.k55, ?_⟩
    refine u_X10_heatIn ?_
    refine g_get 2 (0) (1) rfl hS.k55 hm0.f_55_2 (fun v12 ev12 bv12 cv12 => ?_)
    refine g_if (fun w13 => ?_) (fun w13 => ?_)
    · refine g_getr 0 4 rfl hS.k55 hm0.f_55_0 (by decide) ?_
      refine ⟨hS.k4, ?_⟩
      refine z_X8_heatIn hS hm0 (by omega) (by omega) (fun v14 bv14 cv14 => ?_)
      refine g_A (by omega) (by omega) ?_
      exact hk (v10 + v14) m0 hm0 (by omega) (by omega)
    · refine g_C ?_
      refine g_A (by omega) (by omega) ?_
      exact hk (v10 + 0) m0 hm0 (by omega) (by omega)
theorem z_X5_tire {X : Mm} {S : Sh} {m0 : Mm} {K : Mm → Prop} {u0 u1 u2 : Int} (hS : Shp S) (hm0 : Inv X S m0) (hb_u0 : isSt u0) (l_u1 : 0 ≤ u1) (h_u1 : u1 ≤ 4) (l_u2 : 0 ≤ u2) (h_u2 : u2 ≤ 5) (hk : ∀ (M1 : Mm), Inv X S M1 → K M1) : wp_X5_tire S m0 u0 u1 u2 K := by
  refine u_X5_tire ?_
  refine ⟨(hS.kB_5_0 hb_u0), ?_⟩
  refine z_X5_heldBits hS hm0 hb_u0 (by omega) (by omega) (fun v1 bv1 cv1 => ?_)
  refine g_if (fun w2 => ?_) (fun w2 => ?_)
  · refine g_getr 4 (u0 + 3) rfl (hS.kB_5_0 hb_u0) (hm0.fB_5_4 hb_u0) (hS.nB_5_3 hb_u0) ?_
    refine g_C ?_
    refine g_getr 4 (u0 + 3) rfl (hS.kB_5_0 hb_u0) (hm0.fB_5_4 hb_u0) (hS.nB_5_3 hb_u0) ?_
    refine g_ld (0) (99) (hS.kB_5_3 hb_u0) (hS.lB_5_3 hb_u0) (by omega) (by omega) (hm0.aB_5_3 hb_u0 (by omega) (by omega)) (fun v3 ev3 bv3 cv3 => ?_)
    refine g_C ?_
    refine g_S (by omega) (by omega) ?_
    refine g_max (fun v4 bv4 cv4 dv4 => ?_)
    refine g_st (hS.kB_5_3 hb_u0) (hS.lB_5_3 hb_u0) (by omega) (by omega) (hm0.waB_5_3 hb_u0 (by omega) (by omega) (by omega) (by omega)) (fun m5 em5 hm5 => ?_)
    exact hk m5 hm5
  · refine g_getr 4 (u0 + 3) rfl (hS.kB_5_0 hb_u0) (hm0.fB_5_4 hb_u0) (hS.nB_5_3 hb_u0) ?_
    refine g_C ?_
    refine g_getr 4 (u0 + 3) rfl (hS.kB_5_0 hb_u0) (hm0.fB_5_4 hb_u0) (hS.nB_5_3 hb_u0) ?_
    refine g_ld (0) (99) (hS.kB_5_3 hb_u0) (hS.lB_5_3 hb_u0) (by omega) (by omega) (hm0.aB_5_3 hb_u0 (by omega) (by omega)) (fun v6 ev6 bv6 cv6 => ?_)
    refine g_A (by omega) (by omega) ?_
    refine g_min (fun v7 bv7 cv7 dv7 => ?_)
    refine g_st (hS.kB_5_3 hb_u0) (hS.lB_5_3 hb_u0) (by omega) (by omega) (hm0.waB_5_3 hb_u0 (by omega) (by omega) (by omega) (by omega)) (fun m8 em8 hm8 => ?_)
    exact hk m8 hm8
theorem z_X1_pass {X : Mm} {S : Sh} {m0 : Mm} {K : Int → Mm → Prop} {u1 : Int} (hS : Shp S) (hm0 : Inv X S m0) (hb_u1 : isSt u1) (hk : ∀ (r : Int) (M1 : Mm), Inv X S M1 → (-2147483648) ≤ r → r ≤ 2147483647 → K r M1) : wp_X1_pass S m0 57 u1 K := by
  refine u_X1_pass ?_
  refine g_C ?_
  refine g_C ?_
  have L_n_l1779 : ∀ (n_l1779 : Nat) (u3 : Int) (u4 : Int) (m5 : Mm), Inv X S m5 → (-2147483648) ≤ u3 → u3 ≤ 2147483647 → 0 ≤ u4 → u4 ≤ 4 → 5 - u4 ≤ (n_l1779 : Int) → wp_X1_pass_4 S K n_l1779 57 u1 u3 u4 m5 := by
    intro n_l1779
    induction n_l1779 with
    | zero => intro u3 u4 m5 hm5 bu3 cu3 bu4 cu4 zn_l1779; exfalso; omega
    | succ n_l1779 ih_n_l1779 =>
      intro u3 u4 m5 hm5 bu3 cu3 bu4 cu4 zn_l1779
      refine u_X1_pass_4 ?_
      refine g_getr 1 4 rfl hS.k57 hm5.f_57_1 (by decide) ?_
      refine g_get 5 (0) (4) rfl hS.k4 hm5.f_4_5 (fun v1780 ev1780 bv1780 cv1780 => ?_)
      refine g_if (fun w1781 => ?_) (fun w1781 => ?_)
      · refine g_C ?_
        have L_n_l1847 : ∀ (n_l1847 : Nat) (u1785 : Int) (m1786 : Mm), Inv X S m1786 → 0 ≤ u1785 → u1785 ≤ 5 → 6 - u1785 ≤ (n_l1847 : Int) → wp_X1_pass_83 S K n_l1847 57 u1 u3 u1785 m1786 := by
          intro n_l1847
          induction n_l1847 with
          | zero => intro u1785 m1786 hm1786 bu1785 cu1785 zn_l1847; exfalso; omega
          | succ n_l1847 ih_n_l1847 =>
            intro u1785 m1786 hm1786 bu1785 cu1785 zn_l1847
            refine u_X1_pass_83 ?_
            refine g_getr 1 4 rfl hS.k57 hm1786.f_57_1 (by decide) ?_
            refine g_get 4 (0) (5) rfl hS.k4 hm1786.f_4_4 (fun v1848 ev1848 bv1848 cv1848 => ?_)
            refine g_if (fun w1849 => ?_) (fun w1849 => ?_)
            · refine g_C ?_
              refine g_get 0 (0) (999) rfl (hS.kB_5_0 hb_u1) (hm1786.fB_5_0 hb_u1) (fun v1850 ev1850 bv1850 cv1850 => ?_)
              refine g_C ?_
              refine g_A (by omega) (by omega) ?_
              refine g_min (fun v1851 bv1851 cv1851 dv1851 => ?_)
              refine g_put 0 rfl (hS.kB_5_0 hb_u1) (hm1786.wB_5_0 hb_u1 (by omega) (by omega)) (fun m1852 em1852 hm1852 => ?_)
              exact hk u3 m1852 hm1852 (by omega) (by omega)
            · refine g_getr 1 4 rfl hS.k57 hm1786.f_57_1 (by decide) ?_
              refine g_getr 11 8 rfl hS.k4 hm1786.f_4_11 (by decide) ?_
              refine g_ld (0) (5) hS.k8 hS.l8 (by omega) (by omega) (hm1786.a_8 (by omega) (by omega)) (fun v1853 ev1853 bv1853 cv1853 => ?_)
              refine ⟨(hS.kB_5_0 hb_u1), ?_⟩
              refine z_X5_tire hS hm1786 hb_u1 (by omega) (by omega) (by omega) (by omega) (fun m1854 hm1854 => ?_)
              refine g_getr 3 (u1 + 2) rfl (hS.kB_5_0 hb_u1) (hm1854.fB_5_3 hb_u1) (hS.nB_5_2 hb_u1) ?_
              refine g_C ?_
              refine g_getr 3 (u1 + 2) rfl (hS.kB_5_0 hb_u1) (hm1854.fB_5_3 hb_u1) (hS.nB_5_2 hb_u1) ?_
              refine g_ld (0) (5) (hS.kB_5_2 hb_u1) (hS.lB_5_2 hb_u1) (by omega) (by omega) (hm1854.aB_5_2 hb_u1 (by omega) (by omega)) (fun v1855 ev1855 bv1855 cv1855 => ?_)
              refine g_C ?_
              refine g_S (by omega) (by omega) ?_
              refine g_max (fun v1856 bv1856 cv1856 dv1856 => ?_)
              refine g_st (hS.kB_5_2 hb_u1) (hS.lB_5_2 hb_u1) (by omega) (by omega) (hm1854.waB_5_2 hb_u1 (by omega) (by omega) (by omega) (by omega)) (fun m1857 em1857 hm1857 => ?_)
              refine g_A (by omega) (by omega) ?_
              exact ih_n_l1847 (u1785 + 1) m1857 hm1857 (by omega) (by omega) (by omega)
        exact ⟨6, L_n_l1847 6 0 m5 hm5 (by omega) (by omega) (by omega)⟩
      · refine g_getr 7 (u1 + 6) rfl (hS.kB_5_0 hb_u1) (hm5.fB_5_7 hb_u1) (hS.nB_5_6 hb_u1) ?_
        refine g_ld (0) (999) (hS.kB_5_6 hb_u1) (hS.lB_5_6 hb_u1) (by omega) (by omega) (hm5.aB_5_6 hb_u1 (by omega) (by omega)) (fun v1858 ev1858 bv1858 cv1858 => ?_)
        refine g_getr 7 (u1 + 6) rfl (hS.kB_5_0 hb_u1) (hm5.fB_5_7 hb_u1) (hS.nB_5_6 hb_u1) ?_
        refine g_C ?_
        refine ⟨hS.k57, ?_⟩
        refine z_X1_turnsIn hS hm5 hb_u1 (by omega) (by omega) (fun v1859 m1860 hm1860 bv1859 cv1859 => ?_)
        refine g_A (by omega) (by omega) ?_
        refine g_min (fun v1861 bv1861 cv1861 dv1861 => ?_)
        refine g_st (hS.kB_5_6 hb_u1) (hS.lB_5_6 hb_u1) (by omega) (by omega) (hm1860.waB_5_6 hb_u1 (by omega) (by omega) (by omega) (by omega)) (fun m1862 em1862 hm1862 => ?_)
        refine g_getr 1 4 rfl hS.k57 hm1862.f_57_1 (by decide) ?_
        refine g_get 2 (0) (99) rfl hS.k4 hm1862.f_4_2 (fun v1863 ev1863 bv1863 cv1863 => ?_)
        refine g_if (fun w1864 => ?_) (fun w1864 => ?_)
        · refine u_X1_pass_75 ?_
          refine g_A (by omega) (by omega) ?_
          exact ih_n_l1779 u3 (u4 + 1) m1862 hm1862 (by omega) (by omega) (by omega) (by omega) (by omega)
        · refine g_getr 7 (u1 + 6) rfl (hS.kB_5_0 hb_u1) (hm1862.fB_5_7 hb_u1) (hS.nB_5_6 hb_u1) ?_
          refine g_ld (0) (999) (hS.kB_5_6 hb_u1) (hS.lB_5_6 hb_u1) (by omega) (by omega) (hm1862.aB_5_6 hb_u1 (by omega) (by omega)) (fun v1865 ev1865 bv1865 cv1865 => ?_)
          have qv1865 : v1865 = v1861 := ev1865.trans ((congrFun (congrFun em1862 _) _).trans (up_ate (by omega)))
          refine g_getr 1 4 rfl hS.k57 hm1862.f_57_1 (by decide) ?_
          refine g_get 2 (0) (99) rfl hS.k4 hm1862.f_4_2 (fun v1866 ev1866 bv1866 cv1866 => ?_)
          have qv1866 : v1866 = v1863 := ev1866.trans ev1863.symm
          refine g_if (fun w1867 => ?_) (fun w1867 => ?_)
          · refine u_X1_pass_75 ?_
            refine g_A (by omega) (by omega) ?_
            exact ih_n_l1779 u3 (u4 + 1) m1862 hm1862 (by omega) (by omega) (by omega) (by omega) (by omega)
          · refine g_Aw (fun v1868 bv1868 cv1868 => ?_)
            refine u_X1_pass_75 ?_
            refine g_A (by omega) (by omega) ?_
            exact ih_n_l1779 v1868 (u4 + 1) m1862 hm1862 (by omega) (by omega) (by omega) (by omega) (by omega)
  exact ⟨5, L_n_l1779 5 0 0 m0 hm0 (by omega) (by omega) (by omega) (by omega) (by omega)⟩
theorem z_X5_become {X : Mm} {S : Sh} {m0 : Mm} {K : Mm → Prop} {u0 u1 : Int} (hS : Shp S) (hm0 : Inv X S m0) (hb_u0 : isSt u0) (hb_u1 : isSt u1) (hk : ∀ (M1 : Mm), Inv X S M1 → K M1) : wp_X5_become S m0 u0 u1 K := by
  refine u_X5_become ?_
  refine g_get 0 (0) (999) rfl (hS.kB_5_0 hb_u1) (hm0.fB_5_0 hb_u1) (fun v1 ev1 bv1 cv1 => ?_)
  refine g_put 0 rfl (hS.kB_5_0 hb_u0) (hm0.wB_5_0 hb_u0 (by omega) (by omega)) (fun m2 em2 hm2 => ?_)
  refine g_get 1 (-2147483648) (2147483647) rfl (hS.kB_5_0 hb_u1) (hm2.fB_5_1 hb_u1) (fun v3 ev3 bv3 cv3 => ?_)
  refine g_put 1 rfl (hS.kB_5_0 hb_u0) (hm2.wB_5_1 hb_u0 (by omega) (by omega)) (fun m4 em4 hm4 => ?_)
  refine g_getr 2 (u1 + 1) rfl (hS.kB_5_0 hb_u1) (hm4.fB_5_2 hb_u1) (hS.nB_5_1 hb_u1) ?_
  refine g_C ?_
  refine g_getr 2 (u0 + 1) rfl (hS.kB_5_0 hb_u0) (hm4.fB_5_2 hb_u0) (hS.nB_5_1 hb_u0) ?_
  refine g_C ?_
  refine g_C ?_
  refine g_cpy (hS.kB_5_1 hb_u1) (hS.kB_5_1 hb_u0) (hS.lB_5_1 hb_u1) (hS.lB_5_1 hb_u0) (by decide) (hm4.cpB_5_1 hb_u1 hb_u0 (by decide)) (fun m5 hm5 => ?_)
  refine g_getr 3 (u1 + 2) rfl (hS.kB_5_0 hb_u1) (hm5.fB_5_3 hb_u1) (hS.nB_5_2 hb_u1) ?_
  refine g_C ?_
  refine g_getr 3 (u0 + 2) rfl (hS.kB_5_0 hb_u0) (hm5.fB_5_3 hb_u0) (hS.nB_5_2 hb_u0) ?_
  refine g_C ?_
  refine g_C ?_
  refine g_cpy (hS.kB_5_2 hb_u1) (hS.kB_5_2 hb_u0) (hS.lB_5_2 hb_u1) (hS.lB_5_2 hb_u0) (by decide) (hm5.cpB_5_2 hb_u1 hb_u0 (by decide)) (fun m6 hm6 => ?_)
  refine g_getr 4 (u1 + 3) rfl (hS.kB_5_0 hb_u1) (hm6.fB_5_4 hb_u1) (hS.nB_5_3 hb_u1) ?_
  refine g_C ?_
  refine g_getr 4 (u0 + 3) rfl (hS.kB_5_0 hb_u0) (hm6.fB_5_4 hb_u0) (hS.nB_5_3 hb_u0) ?_
  refine g_C ?_
  refine g_C ?_
  refine g_cpy (hS.kB_5_3 hb_u1) (hS.kB_5_3 hb_u0) (hS.lB_5_3 hb_u1) (hS.lB_5_3 hb_u0) (by decide) (hm6.cpB_5_3 hb_u1 hb_u0 (by decide)) (fun m7 hm7 => ?_)
  refine g_getr 5 (u1 + 4) rfl (hS.kB_5_0 hb_u1) (hm7.fB_5_5 hb_u1) (hS.nB_5_4 hb_u1) ?_
  refine g_C ?_
  refine g_getr 5 (u0 + 4) rfl (hS.kB_5_0 hb_u0) (hm7.fB_5_5 hb_u0) (hS.nB_5_4 hb_u0) ?_
  refine g_C ?_
  refine g_C ?_
  refine g_cpy (hS.kB_5_4 hb_u1) (hS.kB_5_4 hb_u0) (hS.lB_5_4 hb_u1) (hS.lB_5_4 hb_u0) (by decide) (hm7.cpB_5_4 hb_u1 hb_u0 (by decide)) (fun m8 hm8 => ?_)
  refine g_getr 6 (u1 + 5) rfl (hS.kB_5_0 hb_u1) (hm8.fB_5_6 hb_u1) (hS.nB_5_5 hb_u1) ?_
  refine g_C ?_
  refine g_getr 6 (u0 + 5) rfl (hS.kB_5_0 hb_u0) (hm8.fB_5_6 hb_u0) (hS.nB_5_5 hb_u0) ?_
  refine g_C ?_
  refine g_C ?_
  refine g_cpy (hS.kB_5_5 hb_u1) (hS.kB_5_5 hb_u0) (hS.lB_5_5 hb_u1) (hS.lB_5_5 hb_u0) (by decide) (hm8.cpB_5_5 hb_u1 hb_u0 (by decide)) (fun m9 hm9 => ?_)
  refine g_getr 7 (u1 + 6) rfl (hS.kB_5_0 hb_u1) (hm9.fB_5_7 hb_u1) (hS.nB_5_6 hb_u1) ?_
  refine g_C ?_
  refine g_getr 7 (u0 + 6) rfl (hS.kB_5_0 hb_u0) (hm9.fB_5_7 hb_u0) (hS.nB_5_6 hb_u0) ?_
  refine g_C ?_
  refine g_C ?_
  refine g_cpy (hS.kB_5_6 hb_u1) (hS.kB_5_6 hb_u0) (hS.lB_5_6 hb_u1) (hS.lB_5_6 hb_u0) (by decide) (hm9.cpB_5_6 hb_u1 hb_u0 (by decide)) (fun m10 hm10 => ?_)
  refine g_getr 8 (u1 + 7) rfl (hS.kB_5_0 hb_u1) (hm10.fB_5_8 hb_u1) (hS.nB_5_7 hb_u1) ?_
  refine g_C ?_
  refine g_getr 8 (u0 + 7) rfl (hS.kB_5_0 hb_u0) (hm10.fB_5_8 hb_u0) (hS.nB_5_7 hb_u0) ?_
  refine g_C ?_
  refine g_C ?_
  refine g_cpy (hS.kB_5_7 hb_u1) (hS.kB_5_7 hb_u0) (hS.lB_5_7 hb_u1) (hS.lB_5_7 hb_u0) (by decide) (hm10.cpB_5_7 hb_u1 hb_u0 (by decide)) (fun m11 hm11 => ?_)
  exact hk m11 hm11
theorem z_X11_brings {X : Mm} {S : Sh} {m0 : Mm} {K : Int → Mm → Prop} {u1 u2 u3 : Int} (hS : Shp S) (hm0 : Inv X S m0) (l_u1 : (-2147483648) ≤ u1) (h_u1 : u1 ≤ 2147483647) (l_u2 : (-2147483648) ≤ u2) (h_u2 : u2 ≤ 2147483647) (l_u3 : (-2147483648) ≤ u3) (h_u3 : u3 ≤ 2147483647) (hk : ∀ (r : Int) (M1 : Mm), Inv X S M1 → (-2) ≤ r → r ≤ 999 → K r M1) : wp_X11_brings S m0 0 u1 u2 u3 K := by
  refine u_X11_brings ?_
  refine ⟨hS.k0, ?_⟩
  refine u_X11_isHand ?_
  refine g_if (fun w1 => ?_) (fun w1 => ?_)
  · refine g_C ?_
    refine ⟨by omega, ?_⟩
    refine g_ifT (by omega) ?_
    refine g_C ?_
    exact hk (-1) m0 hm0 (by omega) (by omega)
  · refine g_getr 1 3 rfl hS.k0 hm0.f_0_1 (by decide) ?_
    refine g_getr 0 4 rfl hS.k3 hm0.f_3_0 (by decide) ?_
    refine g_get 4 (0) (5) rfl hS.k4 hm0.f_4_4 (fun v2 ev2 bv2 cv2 => ?_)
    refine g_if (fun w3 => ?_) (fun w3 => ?_)
    · refine g_C ?_
      refine ⟨by omega, ?_⟩
      refine g_ifT (by omega) ?_
      refine g_C ?_
      exact hk (-1) m0 hm0 (by omega) (by omega)
    · refine g_C ?_
      refine ⟨by omega, ?_⟩
      refine g_ifF (by omega) ?_
      refine ⟨hS.k0, ?_⟩
      refine u_X11_isStandingJug ?_
      refine ⟨hS.k0, ?_⟩
      refine u_X11_isJug ?_
      refine g_if (fun w4 => ?_) (fun w4 => ?_)
      · refine g_C ?_
        refine ⟨by omega, ?_⟩
        refine g_ifT (by omega) ?_
        refine g_C ?_
        refine ⟨by omega, ?_⟩
        refine g_ifT (by omega) ?_
        refine g_C ?_
        exact hk (-1) m0 hm0 (by omega) (by omega)
      · refine g_getr 1 3 rfl hS.k0 hm0.f_0_1 (by decide) ?_
        refine g_getr 0 4 rfl hS.k3 hm0.f_3_0 (by decide) ?_
        refine g_get 5 (0) (4) rfl hS.k4 hm0.f_4_5 (fun v5 ev5 bv5 cv5 => ?_)
        refine g_if (fun w6 => ?_) (fun w6 => ?_)
        · refine g_C ?_
          refine ⟨by omega, ?_⟩
          refine g_ifT (by omega) ?_
          refine g_C ?_
          refine ⟨by omega, ?_⟩
          refine g_ifT (by omega) ?_
          refine g_C ?_
          exact hk (-1) m0 hm0 (by omega) (by omega)
        · refine g_C ?_
          refine ⟨by omega, ?_⟩
          refine g_ifF (by omega) ?_
          refine g_getr 1 3 rfl hS.k0 hm0.f_0_1 (by decide) ?_
          refine g_getr 1 16 rfl hS.k3 hm0.f_3_1 (by decide) ?_
          refine ⟨hS.k16, ?_⟩
          refine u_X5_stands ?_
          refine g_getr 5 20 rfl hS.k16 hm0.f_16_5 (by decide) ?_
          refine g_ld (-1) (5) hS.k20 hS.l20 (by omega) (by omega) (hm0.a_20 (by omega) (by omega)) (fun v7 ev7 bv7 cv7 => ?_)
          refine g_C ?_
          refine g_if (fun w8 => ?_) (fun w8 => ?_)
          · refine g_C ?_
            refine ⟨by omega, ?_⟩
            refine g_ifT (by omega) ?_
            refine g_C ?_
            refine ⟨by omega, ?_⟩
            refine g_ifT (by omega) ?_
            refine g_C ?_
            exact hk (-1) m0 hm0 (by omega) (by omega)
          · refine g_C ?_
            refine ⟨by omega, ?_⟩
            refine g_ifF (by omega) ?_
            refine g_C ?_
            refine ⟨by omega, ?_⟩
            refine g_ifF (by omega) ?_
            refine ⟨hS.k0, ?_⟩
            refine u_X11_isPlace ?_
            refine g_if (fun w9 => ?_) (fun w9 => ?_)
            · refine g_C ?_
              refine ⟨by omega, ?_⟩
              refine g_ifF (by omega) ?_
              refine g_C ?_
              exact hk (-1) m0 hm0 (by omega) (by omega)
            · refine g_getr 1 3 rfl hS.k0 hm0.f_0_1 (by decide) ?_
              refine g_getr 0 4 rfl hS.k3 hm0.f_3_0 (by decide) ?_
              refine g_get 0 (0) (6) rfl hS.k4 hm0.f_4_0 (fun v10 ev10 bv10 cv10 => ?_)
              refine g_if (fun w11 => ?_) (fun w11 => ?_)
              · refine g_C ?_
                refine ⟨by omega, ?_⟩
                refine g_ifF (by omega) ?_
                refine g_C ?_
                exact hk (-1) m0 hm0 (by omega) (by omega)
              · refine g_C ?_
                refine ⟨by omega, ?_⟩
                refine g_ifT (by omega) ?_
                refine g_getr 1 3 rfl hS.k0 hm0.f_0_1 (by decide) ?_
                refine g_getr 1 16 rfl hS.k3 hm0.f_3_1 (by decide) ?_
                refine g_getr 5 20 rfl hS.k16 hm0.f_16_5 (by decide) ?_
                refine g_ld (-1) (5) hS.k20 hS.l20 (by omega) (by omega) (hm0.a_20 (by omega) (by omega)) (fun v12 ev12 bv12 cv12 => ?_)
                have qv12 : v12 = v7 := ev12.trans ev7.symm
                refine g_getr 1 3 rfl hS.k0 hm0.f_0_1 (by decide) ?_
                refine g_getr 0 4 rfl hS.k3 hm0.f_3_0 (by decide) ?_
                refine ⟨hS.k4, ?_⟩
                refine u_X8_hasWay ?_
                refine g_getr 9 6 rfl hS.k4 hm0.f_4_9 (by decide) ?_
                refine u_X8_pair ?_
                refine g_C ?_
                refine g_M (by omega) (by omega) ?_
                refine g_A (by omega) (by omega) ?_
                refine g_ld (0) (1000) hS.k6 hS.l6 (by omega) (by omega) (hm0.a_6 (by omega) (by omega)) (fun v13 ev13 bv13 cv13 => ?_)
                refine g_C ?_
                refine g_if (fun w14 => ?_) (fun w14 => ?_)
                · refine g_C ?_
                  refine ⟨by omega, ?_⟩
                  refine g_ifF (by omega) ?_
                  refine g_C ?_
                  exact hk (-2) m0 hm0 (by omega) (by omega)
                · refine g_C ?_
                  refine ⟨by omega, ?_⟩
                  refine g_ifT (by omega) ?_
                  refine g_getr 10 55 rfl hS.k0 hm0.f_0_10 (by decide) ?_
                  refine g_getr 1 3 rfl hS.k0 hm0.f_0_1 (by decide) ?_
                  refine g_getr 1 16 rfl hS.k3 hm0.f_3_1 (by decide) ?_
                  refine g_getr 7 22 rfl hS.k16 hm0.f_16_7 (by decide) ?_
                  refine g_ld (0) (999) hS.k22 hS.l22 (by omega) (by omega) (hm0.a_22 (by omega) (by omega)) (fun v15 ev15 bv15 cv15 => ?_)
                  refine g_getr 1 3 rfl hS.k0 hm0.f_0_1 (by decide) ?_
                  refine g_getr 1 16 rfl hS.k3 hm0.f_3_1 (by decide) ?_
                  refine g_get 0 (0) (999) rfl hS.k16 hm0.f_16_0 (fun v16 ev16 bv16 cv16 => ?_)
                  refine ⟨hS.k55, ?_⟩
                  refine u_X10_suppose ?_
                  refine g_put 4 rfl hS.k55 (hm0.w_55_4 (by omega) (by omega)) (fun m17 em17 hm17 => ?_)
                  refine g_put 5 rfl hS.k55 (hm17.w_55_5 (by omega) (by omega)) (fun m18 em18 hm18 => ?_)
                  refine g_put 6 rfl hS.k55 (hm18.w_55_6 (by omega) (by omega)) (fun m19 em19 hm19 => ?_)
                  refine g_C ?_
                  refine g_put 7 rfl hS.k55 (hm19.w_55_7 (by omega) (by omega)) (fun m20 em20 hm20 => ?_)
                  refine g_put 8 rfl hS.k55 (hm20.w_55_8 (by omega) (by omega)) (fun m21 em21 hm21 => ?_)
                  refine g_C ?_
                  refine g_put 10 rfl hS.k55 (hm21.w_55_10 (by omega) (by omega)) (fun m22 em22 hm22 => ?_)
                  refine g_C ?_
                  refine g_put 11 rfl hS.k55 (hm22.w_55_11 (by omega) (by omega)) (fun m23 em23 hm23 => ?_)
                  refine g_getr 10 55 rfl hS.k0 hm23.f_0_10 (by decide) ?_
                  refine g_C ?_
                  refine g_put 10 rfl hS.k55 (hm23.w_55_10 (by omega) (by omega)) (fun m24 em24 hm24 => ?_)
                  refine g_getr 10 55 rfl hS.k0 hm24.f_0_10 (by decide) ?_
                  refine g_getr 1 3 rfl hS.k0 hm24.f_0_1 (by decide) ?_
                  refine g_getr 0 4 rfl hS.k3 hm24.f_3_0 (by decide) ?_
                  refine ⟨hS.k4, ?_⟩
                  refine u_X8_wayHours ?_
                  refine g_getr 9 6 rfl hS.k4 hm24.f_4_9 (by decide) ?_
                  refine u_X8_pair ?_
                  refine g_C ?_
                  refine g_M (by omega) (by omega) ?_
                  refine g_A (by omega) (by omega) ?_
                  refine g_ld (0) (1000) hS.k6 hS.l6 (by omega) (by omega) (hm24.a_6 (by omega) (by omega)) (fun v25 ev25 bv25 cv25 => ?_)
                  have qv25 : v25 = v13 := ev25.trans ((congrFun (congrFun em24 _) _).trans ((up_ne (by omega)).trans ((congrFun (congrFun em23 _) _).trans ((up_ne (by omega)).trans ((congrFun (congrFun em22 _) _).trans ((up_ne (by omega)).trans ((congrFun (congrFun em21 _) _).trans ((up_ne (by omega)).trans ((congrFun (congrFun em20 _) _).trans ((up_ne (by omega)).trans ((congrFun (congrFun em19 _) _).trans ((up_ne (by omega)).trans ((congrFun (congrFun em18 _) _).trans ((up_ne (by omega)).trans ((congrFun (congrFun em17 _) _).trans ((up_ne (by omega)).trans ev13.symm))))))))))))))))
                  refine ⟨hS.k55, ?_⟩
                  refine z_X10_holdFor hS hm24 (by omega) (by omega) (fun m26 hm26 => ?_)
                  refine g_getr 10 55 rfl hS.k0 hm26.f_0_10 (by decide) ?_
                  refine g_get 6 (0) (999) rfl hS.k55 hm26.f_55_6 (fun v27 ev27 bv27 cv27 => ?_)
                  exact hk v27 m26 hm26 (by omega) (by omega)
