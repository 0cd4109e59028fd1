/-! ROWS: how many rows of k HANDS (of H, by speeds sp) come to t -/
theorem lRem_small {a b : Int} (h0 : 0 ≤ a) (h1 : a < b) (h2 : b ≤ 9223372036854775807) : lRem a b = a := by
  unfold lRem o64
  rw [Jvm.Kit.i64_rem, i64o (by omega) (by omega), i64o (by omega) h2, Int.tmod_eq_of_lt h0 h1]
def cs (f : Int → Int) : Nat → Int
  | 0 => 0
  | h + 1 => cs f h + f (h : Int)
def rcnt (sp : Int → Int) (H : Nat) : Nat → Int → Int
  | 0, t => if t = 0 then 1 else 0
  | k + 1, t => cs (fun h => if sp h ≤ t then rcnt sp H k (t - sp h) else 0) H
def p5 : Nat → Int
  | 0 => 1
  | k + 1 => 5 * p5 k
theorem cs_b {f : Int → Int} {B : Int} (hB : 0 ≤ B) : ∀ n : Nat, n ≤ 5 → (∀ i : Int, 0 ≤ i → i < n → 0 ≤ f i ∧ f i ≤ B) → 0 ≤ cs f n ∧ cs f n ≤ (n : Int) * B := by
  intro n
  induction n with
  | zero => intro _ _; exact ⟨Int.le_refl 0, by simp [cs]⟩
  | succ n ih =>
    intro h5 h
    obtain ⟨a, b⟩ := ih (by omega) (fun i i0 i1 => h i i0 (by omega))
    obtain ⟨c, d⟩ := h (n : Int) (by omega) (by omega)
    have e : ((n + 1 : Nat) : Int) * B = (n : Int) * B + B := by
      rw [show ((n + 1 : Nat) : Int) = (n : Int) + 1 by omega, Int.add_mul, Int.one_mul]
    refine ⟨by show 0 ≤ cs f n + f (n : Int); omega, ?_⟩
    rw [e]
    show cs f n + f (n : Int) ≤ _
    omega
theorem cs_b5 {f : Int → Int} {B : Int} (hB : 0 ≤ B) (n : Nat) (h5 : n ≤ 5) (h : ∀ i : Int, 0 ≤ i → i < n → 0 ≤ f i ∧ f i ≤ B) : 0 ≤ cs f n ∧ cs f n ≤ 5 * B := by
  obtain ⟨a, b⟩ := cs_b hB n h5 h
  refine ⟨a, Int.le_trans b ?_⟩
  exact Int.mul_le_mul_of_nonneg_right (by omega) hB
theorem cs_pos {f : Int → Int} : ∀ n : Nat, (∀ i : Int, 0 ≤ i → i < n → 0 ≤ f i) → 0 ≤ cs f n ∧ (0 < cs f n ↔ ∃ i : Int, 0 ≤ i ∧ i < n ∧ 0 < f i) := by
  intro n
  induction n with
  | zero => intro _; exact ⟨Int.le_refl 0, fun z => absurd z (by simp [cs]), fun z => by obtain ⟨i, i0, i1, -⟩ := z; exfalso; omega⟩
  | succ n ih =>
    intro h
    obtain ⟨a, b⟩ := ih (fun i i0 i1 => h i i0 (by omega))
    have c := h (n : Int) (by omega) (by omega)
    have e : cs f (n + 1) = cs f n + f (n : Int) := rfl
    refine ⟨by rw [e]; omega, fun z => ?_, fun z => ?_⟩
    · by_cases y : 0 < cs f n
      · obtain ⟨i, i0, i1, i2⟩ := b.mp y
        exact ⟨i, i0, by omega, i2⟩
      · exact ⟨(n : Int), by omega, by omega, by rw [e] at z; omega⟩
    · obtain ⟨i, i0, i1, i2⟩ := z
      rw [e]
      by_cases y : i = (n : Int)
      · rw [y] at i2; omega
      · have := b.mpr ⟨i, i0, by omega, i2⟩
        omega
theorem p5_c : ∀ k : Nat, k ≤ 11 → 1 ≤ p5 k ∧ p5 k ≤ 48828125 := by decide
theorem p5_nn : ∀ k : Nat, 0 ≤ p5 k := by
  intro k
  induction k with
  | zero => decide
  | succ k ih => show 0 ≤ 5 * p5 k; omega
theorem rcnt_b {sp : Int → Int} {H : Nat} (h5 : H ≤ 5) : ∀ (k : Nat) (t : Int), 0 ≤ rcnt sp H k t ∧ rcnt sp H k t ≤ p5 k := by
  intro k
  induction k with
  | zero =>
    intro t
    show 0 ≤ (if t = 0 then (1 : Int) else 0) ∧ (if t = 0 then (1 : Int) else 0) ≤ 1
    split <;> decide
  | succ k ih =>
    intro t
    refine cs_b5 (p5_nn k) H h5 (fun i _ _ => ?_)
    show 0 ≤ (if sp i ≤ t then rcnt sp H k (t - sp i) else 0) ∧ (if sp i ≤ t then rcnt sp H k (t - sp i) else 0) ≤ p5 k
    split
    · exact ih _
    · exact ⟨Int.le_refl 0, p5_nn k⟩
theorem rcnt_nn {sp : Int → Int} {H : Nat} : ∀ (k : Nat) (t : Int), 0 ≤ rcnt sp H k t := by
  intro k
  induction k with
  | zero =>
    intro t
    show 0 ≤ (if t = 0 then (1 : Int) else 0)
    split <;> decide
  | succ k ih =>
    intro t
    refine (cs_pos H (fun i _ _ => ?_)).1
    show 0 ≤ (if sp i ≤ t then rcnt sp H k (t - sp i) else 0)
    split
    · exact ih _
    · exact Int.le_refl 0
theorem rcnt_pos {sp : Int → Int} {H : Nat} {k : Nat} {t : Int} : 0 < rcnt sp H (k + 1) t ↔ ∃ h : Int, 0 ≤ h ∧ h < H ∧ sp h ≤ t ∧ 0 < rcnt sp H k (t - sp h) := by
  have q := (cs_pos (f := fun h => if sp h ≤ t then rcnt sp H k (t - sp h) else 0) H (fun i _ _ => by
    show 0 ≤ (if sp i ≤ t then rcnt sp H k (t - sp i) else 0)
    split
    · exact rcnt_nn _ _
    · exact Int.le_refl 0)).2
  refine ⟨fun z => ?_, fun z => ?_⟩
  · obtain ⟨h, h0, h1, h2⟩ := q.mp z
    have h3 : 0 < (if sp h ≤ t then rcnt sp H k (t - sp h) else 0) := h2
    by_cases e : sp h ≤ t
    · rw [if_pos e] at h3; exact ⟨h, h0, h1, e, h3⟩
    · rw [if_neg e] at h3; exact absurd h3 (by decide)
  · obtain ⟨h, h0, h1, e, h3⟩ := z
    refine q.mpr ⟨h, h0, h1, ?_⟩
    show 0 < (if sp h ≤ t then rcnt sp H k (t - sp h) else 0)
    rw [if_pos e]
    exact h3
theorem rcnt_split {sp : Int → Int} {H : Nat} (hs : ∀ i : Int, 0 ≤ i → i < H → 0 ≤ sp i) : ∀ (a b : Nat) (s : Int), 0 ≤ s → (0 < rcnt sp H (a + b) s ↔ ∃ u : Int, 0 ≤ u ∧ u ≤ s ∧ 0 < rcnt sp H a u ∧ 0 < rcnt sp H b (s - u)) := by
  intro a
  induction a with
  | zero =>
    intro b s s0
    rw [Nat.zero_add]
    refine ⟨fun z => ⟨0, by omega, s0, by show (0 : Int) < (if (0 : Int) = 0 then 1 else 0); decide, by rw [Int.sub_zero]; exact z⟩, fun z => ?_⟩
    obtain ⟨u, u0, u1, u2, u3⟩ := z
    have u4 : 0 < (if u = 0 then (1 : Int) else 0) := u2
    by_cases e : u = 0
    · rw [e, Int.sub_zero] at u3; exact u3
    · rw [if_neg e] at u4; exact absurd u4 (by decide)
  | succ a ih =>
    intro b s s0
    rw [show a + 1 + b = (a + b) + 1 by omega]
    refine ⟨fun z => ?_, fun z => ?_⟩
    · obtain ⟨h, h0, h1, h2, h3⟩ := rcnt_pos.mp z
      have sh := hs h h0 h1
      obtain ⟨u, u0, u1, u2, u3⟩ := (ih b (s - sp h) (by omega)).mp h3
      refine ⟨u + sp h, by omega, by omega, rcnt_pos.mpr ⟨h, h0, h1, by omega, ?_⟩, ?_⟩
      · rw [show u + sp h - sp h = u by omega]; exact u2
      · rw [show s - (u + sp h) = s - sp h - u by omega]; exact u3
    · obtain ⟨u, u0, u1, u2, u3⟩ := z
      obtain ⟨h, h0, h1, h2, h3⟩ := rcnt_pos.mp u2
      have sh := hs h h0 h1
      refine rcnt_pos.mpr ⟨h, h0, h1, by omega, (ih b (s - sp h) (by omega)).mpr ⟨u - sp h, by omega, by omega, h3, ?_⟩⟩
      rw [show s - sp h - (u - sp h) = s - u by omega]
      exact u3
/-- the class's table of rows -/
theorem zr_rowsOf {X : Mm} {S : Sh} {m : Mm} {K : Int → Mm → Prop} {sp : Int → Int} {H : Nat} {n T k t : Int} (hS : Shp S) (hm : Inv X S m) (ht : ∀ k t : Int, 0 ≤ k → k ≤ n → 0 ≤ t → t ≤ T → m 65 (301 * k + t) = rcnt sp H k.toNat t) (n12 : n ≤ 12) (T3 : T ≤ 300) (k0 : 0 ≤ k) (k1 : k ≤ n) (t0 : -400 ≤ t) (t1 : t ≤ T) (h1 : 0 ≤ t → K (rcnt sp H k.toNat t) m) (h0 : t < 0 → K 0 m) : wp_X6_rowsOf S m 63 k t K := by
  refine u_X6_rowsOf ?_
  refine g_if (fun w => ?_) (fun w => g_C (h0 (by omega)))
  refine g_getr 2 65 rfl hS.k63 hm.f_63_2 (by decide) ?_
  refine g_C ?_
  refine g_M (by omega) (by omega) ?_
  refine g_A (by omega) (by omega) ?_
  refine g_ldu hS.k65 hS.l65 (by omega) (by omega) (fun v ev => ?_)
  rw [ev, show k * 301 + t = 301 * k + t by omega, ht k t k0 k1 w t1]
  exact h1 w
theorem zr_countRows {X : Mm} {S : Sh} {m0 : Mm} {K : Mm → Prop} {sp : Int → Int} {H : Nat} {u1 u2 : Int} (hS : Shp S) (hm0 : Inv X S m0) (l1 : 1 ≤ u1) (h1 : u1 ≤ 12) (l2 : 0 ≤ u2) (h2 : u2 ≤ 300) (hH : m0 4 4 = (H : Int)) (hs : ∀ i : Int, 0 ≤ i → i < H → m0 7 i = sp i) (hk : ∀ M1 : Mm, Inv X S M1 → (∀ c p : Int, ¬ c = 65 → M1 c p = m0 c p) → (∀ k t : Int, 0 ≤ k → k ≤ u1 → 0 ≤ t → t ≤ u2 → M1 65 (301 * k + t) = rcnt sp H k.toNat t) → K M1) : wp_X6_countRows S m0 63 u1 u2 K := by
  have b4 := hm0.f_4_4
  have H5 : H ≤ 5 := by omega
  have sb : ∀ i : Int, 0 ≤ i → i < H → 0 ≤ sp i ∧ sp i ≤ 20 := fun i i0 i1 => by rw [← hs i i0 i1]; exact hm0.a_7 i0 (by omega)
  refine u_X6_countRows ?_
  refine g_getr 2 65 rfl hS.k63 hm0.f_63_2 (by decide) ?_
  refine g_C ?_
  refine g_C ?_
  refine g_C ?_
  have fill : ∀ (k : Nat) (i : Int) (m : Mm), Inv X S m → 0 ≤ i → i ≤ 301 → (∀ c p : Int, ¬ c = 65 → m c p = m0 c p) → (∀ p : Int, 0 ≤ p → p < i → m 65 p = 0) → 302 - i ≤ (k : Int) → wp_J7_fill_fda19_10 S (fun M59 => wGetR S M59 63 6 2 fun v60 => wC 0 fun v62 => wC 1 fun v64 => wSt S M59 v60 14 v62 v64 fun M66 => wC 1 fun v67 => ∃ n9 : Nat, wp_X6_countRows_21 S K n9 63 u1 u2 v67 M66) k 65 301 0 i m := by
    intro k
    induction k with
    | zero => intro i m _ _ _ _ _ h; exfalso; omega
    | succ k ih =>
      intro i m hm i0 i1 F z h
      refine u_J7_fill_fda19_10 ?_
      refine g_if (fun w => ?_) (fun w => ?_)
      · refine g_getr 2 65 rfl hS.k63 hm.f_63_2 (by decide) ?_
        refine g_C ?_
        refine g_C ?_
        refine g_st hS.k65 hS.l65 (by omega) (by omega) (hm.wa_65 (by omega) (by omega) (by omega) (by omega)) (fun m2 em2 hm2 => ?_)
        have f2 : ∀ c p : Int, ¬ (c = 65 ∧ p = 0) → m2 c p = m c p := fun c p q => (congrFun (congrFun em2 _) _).trans (up_ne q)
        have x2 : m2 65 0 = 1 := (congrFun (congrFun em2 _) _).trans (up_at _ _ _ _)
        have row0 : ∀ t : Int, 0 ≤ t → t ≤ 300 → m2 65 t = rcnt sp H 0 t := by
          intro t t0 t1
          show _ = (if t = 0 then (1 : Int) else 0)
          by_cases e : t = 0
          · rw [if_pos e, e, x2]
          · rw [if_neg e, f2 65 t (by omega), z t t0 (by omega)]
        refine g_C ?_
        have L1 : ∀ (N1 : Nat) (k1 : Int) (m3 : Mm), Inv X S m3 → 1 ≤ k1 → k1 ≤ 13 → (∀ c p : Int, ¬ c = 65 → m3 c p = m0 c p) → (∀ j t : Int, 0 ≤ j → j < k1 → 0 ≤ t → t ≤ u2 → m3 65 (301 * j + t) = rcnt sp H j.toNat t) → 14 - k1 ≤ (N1 : Int) → wp_X6_countRows_21 S K N1 63 u1 u2 k1 m3 := by
          intro N1
          induction N1 with
          | zero => intro k1 m3 _ _ _ _ _ h; exfalso; omega
          | succ N1 ih1 =>
            intro k1 m3 hm3 a1 a2 F3 T3 hN1
            refine u_X6_countRows_21 ?_
            refine g_if (fun w1 => hk m3 hm3 F3 (fun j t j0 j1 t0 t1 => T3 j t j0 (by omega) t0 t1)) (fun w1 => ?_)
            refine g_C ?_
            have L2 : ∀ (N2 : Nat) (t1 : Int) (m4 : Mm), Inv X S m4 → 0 ≤ t1 → t1 ≤ 301 → (∀ c p : Int, ¬ c = 65 → m4 c p = m0 c p) → (∀ j t : Int, 0 ≤ j → j < k1 → 0 ≤ t → t ≤ u2 → m4 65 (301 * j + t) = rcnt sp H j.toNat t) → (∀ t : Int, 0 ≤ t → t < t1 → m4 65 (301 * k1 + t) = rcnt sp H k1.toNat t) → 302 - t1 ≤ (N2 : Int) → wp_X6_countRows_29 S (fun a0 a1 a2 a3 M => wp_X6_countRows_21 S K N1 a0 a1 a2 a3 M) K N2 63 u1 u2 k1 t1 m4 := by
              intro N2
              induction N2 with
              | zero => intro t1 m4 _ _ _ _ _ _ h; exfalso; omega
              | succ N2 ih2 =>
                intro t1 m4 hm4 c1 c2 F4 T4 R4 hN2
                refine u_X6_countRows_29 ?_
                refine g_if (fun w2 => ?_) (fun w2 => ?_)
                · refine g_A (by omega) (by omega) ?_
                  refine ih1 (k1 + 1) m4 hm4 (by omega) (by omega) F4 (fun j t j0 j1 t0 t1' => ?_) (by omega)
                  by_cases e : j = k1
                  · rw [e]; exact R4 t t0 (by omega)
                  · exact T4 j t j0 (by omega) t0 t1'
                · refine g_C ?_
                  refine g_C ?_
                  obtain ⟨g, eg⟩ : ∃ g : Int → Int, g = fun h => if sp h ≤ t1 then rcnt sp H (k1 - 1).toNat (t1 - sp h) else 0 := ⟨_, rfl⟩
                  have gb : ∀ i : Int, 0 ≤ i → i < H → 0 ≤ g i ∧ g i ≤ 48828125 := by
                    intro i _ _
                    have q := p5_c (k1 - 1).toNat (by omega)
                    have q2 := rcnt_b (sp := sp) H5 (k1 - 1).toNat (t1 - sp i)
                    rw [eg]
                    show 0 ≤ (if sp i ≤ t1 then rcnt sp H (k1 - 1).toNat (t1 - sp i) else 0) ∧ (if sp i ≤ t1 then rcnt sp H (k1 - 1).toNat (t1 - sp i) else 0) ≤ 48828125
                    split <;> omega
                  have full : cs g H = rcnt sp H k1.toNat t1 := by
                    rw [show k1.toNat = (k1 - 1).toNat + 1 by omega, eg]
                    rfl
                  have L3 : ∀ (N3 : Nat) (h : Nat), h ≤ H → 6 - (h : Int) ≤ (N3 : Int) → wp_X6_countRows_41 S (fun a0 a1 a2 a3 M => wp_X6_countRows_21 S K N1 a0 a1 a2 a3 M) (fun a0 a1 a2 a3 a4 M => wp_X6_countRows_29 S (fun a0 a1 a2 a3 M => wp_X6_countRows_21 S K N1 a0 a1 a2 a3 M) K N2 a0 a1 a2 a3 a4 M) K N3 63 u1 u2 k1 t1 (cs g h) (h : Int) m4 := by
                    intro N3
                    induction N3 with
                    | zero => intro h _ z; exfalso; omega
                    | succ N3 ih3 =>
                      intro h hh hN3
                      have cb := cs_b5 (f := g) (B := 48828125) (by decide) h (by omega) (fun i i0 i1 => gb i i0 (by omega))
                      refine u_X6_countRows_41 ?_
                      refine g_getr 0 4 rfl hS.k63 hm4.f_63_0 (by decide) ?_
                      refine g_getu 4 rfl hS.k4 (fun v ev => ?_)
                      rw [F4 4 4 (by omega), hH] at ev
                      refine g_if (fun w3 => ?_) (fun w3 => ?_)
                      · have eh : h = H := by omega
                        refine g_getr 2 65 rfl hS.k63 hm4.f_63_2 (by decide) ?_
                        refine g_C ?_
                        refine g_M (by omega) (by omega) ?_
                        refine g_A (by omega) (by omega) ?_
                        refine g_C ?_
                        refine ⟨by decide, ?_⟩
                        rw [lRem_small cb.1 (by omega) (by decide)]
                        refine g_w32 (by omega) (by omega) ?_
                        refine g_st hS.k65 hS.l65 (by omega) (by omega) (hm4.wa_65 (by omega) (by omega) (by omega) (by omega)) (fun m5 em5 hm5 => ?_)
                        have f5 : ∀ c p : Int, ¬ (c = 65 ∧ p = k1 * 301 + t1) → m5 c p = m4 c p := fun c p q => (congrFun (congrFun em5 _) _).trans (up_ne q)
                        have x5 : m5 65 (k1 * 301 + t1) = cs g h := (congrFun (congrFun em5 _) _).trans (up_at _ _ _ _)
                        refine g_A (by omega) (by omega) ?_
                        refine ih2 (t1 + 1) m5 hm5 (by omega) (by omega) (fun c p q => (f5 c p (by omega)).trans (F4 c p q)) (fun j t j0 j1 t0 t1' => by rw [f5 65 _ (by omega)]; exact T4 j t j0 j1 t0 t1') (fun t t0 t1' => ?_) (by omega)
                        by_cases e : t = t1
                        · rw [e, show 301 * k1 + t1 = k1 * 301 + t1 by omega, x5, eh, full]
                        · rw [f5 65 _ (by omega)]
                          exact R4 t t0 (by omega)
                      · have hlt : (h : Int) < H := by omega
                        have sh := sb (h : Int) (by omega) hlt
                        have gh := gb (h : Int) (by omega) hlt
                        refine g_C ?_
                        refine g_S (by omega) (by omega) ?_
                        refine g_getr 0 4 rfl hS.k63 hm4.f_63_0 (by decide) ?_
                        refine g_getr 10 7 rfl hS.k4 hm4.f_4_10 (by decide) ?_
                        refine g_ldu hS.k7 hS.l7 (by omega) (by omega) (fun s es => ?_)
                        rw [F4 7 _ (by omega), hs _ (by omega) hlt] at es
                        subst es
                        refine g_S (by omega) (by omega) ?_
                        refine ⟨hS.k63, ?_⟩
                        refine zr_rowsOf (sp := sp) (H := H) (n := k1 - 1) (T := u2) hS hm4 (fun j t j0 j1 t0 t1' => T4 j t j0 (by omega) t0 t1') (by omega) h2 (by omega) (by omega) (by omega) (by omega) (fun t0 => ?_) (fun t0 => ?_)
                        · have e : g (h : Int) = rcnt sp H (k1 - 1).toNat (t1 - sp (h : Int)) := by
                            rw [eg]
                            show (if sp (h : Int) ≤ t1 then rcnt sp H (k1 - 1).toNat (t1 - sp (h : Int)) else 0) = _
                            rw [if_pos (by omega)]
                          refine g_C ?_
                          rw [← e]
                          refine g_LA (by omega) (by omega) ?_
                          refine g_A (by omega) (by omega) ?_
                          rw [show (h : Int) + 1 = ((h + 1 : Nat) : Int) by omega]
                          exact ih3 (h + 1) (by omega) (by omega)
                        · have e : g (h : Int) = 0 := by
                            rw [eg]
                            show (if sp (h : Int) ≤ t1 then rcnt sp H (k1 - 1).toNat (t1 - sp (h : Int)) else 0) = _
                            rw [if_neg (by omega)]
                          refine g_C ?_
                          rw [← e]
                          refine g_LA (by omega) (by omega) ?_
                          refine g_A (by omega) (by omega) ?_
                          rw [show (h : Int) + 1 = ((h + 1 : Nat) : Int) by omega]
                          exact ih3 (h + 1) (by omega) (by omega)
                  exact ⟨6, L3 6 0 (by omega) (by decide)⟩
            exact ⟨302, L2 302 0 m3 hm3 (by decide) (by decide) F3 T3 (fun t t0 t1 => absurd t1 (by omega)) (by decide)⟩
        exact ⟨13, L1 13 1 m2 hm2 (by decide) (by decide) (fun c p q => (f2 c p (by omega)).trans (F c p q)) (fun j t j0 j1 t0 t1 => by rw [show j = 0 by omega, show 301 * 0 + t = t by omega]; exact row0 t t0 (by omega)) (by decide)⟩
      · refine g_st hS.k65 hS.l65 (by omega) (by omega) (hm.wa_65 (by omega) (by omega) (by omega) (by omega)) (fun m2 em2 hm2 => ?_)
        have f2 : ∀ c p : Int, ¬ (c = 65 ∧ p = i) → m2 c p = m c p := fun c p q => (congrFun (congrFun em2 _) _).trans (up_ne q)
        have x2 : m2 65 i = 0 := (congrFun (congrFun em2 _) _).trans (up_at _ _ _ _)
        refine g_A (by omega) (by omega) ?_
        refine ih (i + 1) m2 hm2 (by omega) (by omega) (fun c p q => (f2 c p (by omega)).trans (F c p q)) (fun p p0 p1 => ?_) (by omega)
        by_cases e : p = i
        · rw [e, x2]
        · rw [f2 65 p (by omega)]; exact z p p0 (by omega)
  refine u_J7_fill_fda19 ?_
  refine g_len 3913 hS.k65 hS.l65 (by decide) ?_
  refine u_J7_rangeCheck_23922 ?_
  refine g_ifT (by decide) (g_ifT (by decide) (g_ifT (by decide) ?_))
  exact ⟨302, fill 302 0 m0 hm0 (by decide) (by decide) (fun _ _ _ => rfl) (fun p p0 p1 => absurd p1 (by omega)) (by decide)⟩
