section
/-! ROWS: how many rows of k HANDS (of H, by speeds sp) come to t -/
theorem lRem_small {a b : Int} (h0 : 0 ≤ a) (h1 : a < b) (h2 : b ≤ 9223372036854775807) : lRem a b = a := by
  unfold lRem o64
  rw [Jvm.Kit.i64_rem, i64o (by omega) (by omega), i64o (by omega) h2, Int.tmod_eq_of_lt h0 h1]
def cs (f : Int → Int) : Nat → Int
  | 0 => 0
  | h + 1 => cs f h + f (h : Int)
def rcnt (sp : Int → Int) (H : Nat) : Nat → Int → Int
  | 0, t => if t = 0 then 1 else 0
  | k + 1, t => cs (fun h => if sp h ≤ t then rcnt sp H k (t - sp h) else 0) H
def p5 : Nat → Int
  | 0 => 1
  | k + 1 => 5 * p5 k
theorem cs_b {f : Int → Int} {B : Int} (hB : 0 ≤ B) : ∀ n : Nat, n ≤ 5 → (∀ i : Int, 0 ≤ i → i < n → 0 ≤ f i ∧ f i ≤ B) → 0 ≤ cs f n ∧ cs f n ≤ (n : Int) * B := by
  intro n
  induction n with
  | zero => intro _ _; exact ⟨Int.le_refl 0, by simp [cs]⟩
  | succ n ih =>
    intro h5 h
    obtain ⟨a, b⟩ := ih (by omega) (fun i i0 i1 => h i i0 (by omega))
    obtain ⟨c, d⟩ := h (n : Int) (by omega) (by omega)
    have e : ((n + 1 : Nat) : Int) * B = (n : Int) * B + B := by
      rw [show ((n + 1 : Nat) : Int) = (n : Int) + 1 by omega, Int.add_mul, Int.one_mul]
    refine ⟨by show 0 ≤ cs f n + f (n : Int); omega, ?_⟩
    rw [e]
    show cs f n + f (n : Int) ≤ _
    omega
theorem cs_b5 {f : Int → Int} {B : Int} (hB : 0 ≤ B) (n : Nat) (h5 : n ≤ 5) (h : ∀ i : Int, 0 ≤ i → i < n → 0 ≤ f i ∧ f i ≤ B) : 0 ≤ cs f n ∧ cs f n ≤ 5 * B := by
  obtain ⟨a, b⟩ := cs_b hB n h5 h
  refine ⟨a, Int.le_trans b ?_⟩
  exact Int.mul_le_mul_of_nonneg_right (by omega) hB
theorem cs_pos {f : Int → Int} : ∀ n : Nat, (∀ i : Int, 0 ≤ i → i < n → 0 ≤ f i) → 0 ≤ cs f n ∧ (0 < cs f n ↔ ∃ i : Int, 0 ≤ i ∧ i < n ∧ 0 < f i) := by
  intro n
  induction n with
  | zero => intro _; exact ⟨Int.le_refl 0, fun z => absurd z (by simp [cs]), fun z => by obtain ⟨i, i0, i1, -⟩ := z; exfalso; omega⟩
  | succ n ih =>
    intro h
    obtain ⟨a, b⟩ := ih (fun i i0 i1 => h i i0 (by omega))
    have c := h (n : Int) (by omega) (by omega)
    have e : cs f (n + 1) = cs f n + f (n : Int) := rfl
    refine ⟨by rw [e]; omega, fun z => ?_, fun z => ?_⟩
    · by_cases y : 0 < cs f n
      · obtain ⟨i, i0, i1, i2⟩ := b.mp y
        exact ⟨i, i0, by omega, i2⟩
      · exact ⟨(n : Int), by omega, by omega, by rw [e] at z; omega⟩
    · obtain ⟨i, i0, i1, i2⟩ := z
      rw [e]
      by_cases y : i = (n : Int)
      · rw [y] at i2; omega
      · have := b.mpr ⟨i, i0, by omega, i2⟩
        omega
theorem p5_c : ∀ k : Nat, k ≤ 11 → 1 ≤ p5 k ∧ p5 k ≤ 48828125 := by decide
theorem p5_nn : ∀ k : Nat, 0 ≤ p5 k := by
  intro k
  induction k with
  | zero => decide
  | succ k ih => show 0 ≤ 5 * p5 k; omega
theorem rcnt_b {sp : Int → Int} {H : Nat} (h5 : H ≤ 5) : ∀ (k : Nat) (t : Int), 0 ≤ rcnt sp H k t ∧ rcnt sp H k t ≤ p5 k := by
  intro k
  induction k with
  | zero =>
    intro t
    show 0 ≤ (if t = 0 then (1 : Int) else 0) ∧ (if t = 0 then (1 : Int) else 0) ≤ 1
    split <;> decide
  | succ k ih =>
    intro t
    refine cs_b5 (p5_nn k) H h5 (fun i _ _ => ?_)
    show 0 ≤ (if sp i ≤ t then rcnt sp H k (t - sp i) else 0) ∧ (if sp i ≤ t then rcnt sp H k (t - sp i) else 0) ≤ p5 k
    split
    · exact ih _
    · exact ⟨Int.le_refl 0, p5_nn k⟩
theorem rcnt_nn {sp : Int → Int} {H : Nat} : ∀ (k : Nat) (t : Int), 0 ≤ rcnt sp H k t := by
  intro k
  induction k with
  | zero =>
    intro t
    show 0 ≤ (if t = 0 then (1 : Int) else 0)
    split <;> decide
  | succ k ih =>
    intro t
    refine (cs_pos H (fun i _ _ => ?_)).1
    show 0 ≤ (if sp i ≤ t then rcnt sp H k (t - sp i) else 0)
    split
    · exact ih _
    · exact Int.le_refl 0
theorem rcnt_pos {sp : Int → Int} {H : Nat} {k : Nat} {t : Int} : 0 < rcnt sp H (k + 1) t ↔ ∃ h : Int, 0 ≤ h ∧ h < H ∧ sp h ≤ t ∧ 0 < rcnt sp H k (t - sp h) := by
  have q := (cs_pos (f := fun h => if sp h ≤ t then rcnt sp H k (t - sp h) else 0) H (fun i _ _ => by
    show 0 ≤ (if sp i ≤ t then rcnt sp H k (t - sp i) else 0)
    split
    · exact rcnt_nn _ _
    · exact Int.le_refl 0)).2
  refine ⟨fun z => ?_, fun z => ?_⟩
  · obtain ⟨h, h0, h1, h2⟩ := q.mp z
    have h3 : 0 < (if sp h ≤ t then rcnt sp H k (t - sp h) else 0) := h2
    by_cases e : sp h ≤ t
    · rw [if_pos e] at h3; exact ⟨h, h0, h1, e, h3⟩
    · rw [if_neg e] at h3; exact absurd h3 (by decide)
  · obtain ⟨h, h0, h1, e, h3⟩ := z
    refine q.mpr ⟨h, h0, h1, ?_⟩
    show 0 < (if sp h ≤ t then rcnt sp H k (t - sp h) else 0)
    rw [if_pos e]
    exact h3
theorem rcnt_split {sp : Int → Int} {H : Nat} (hs : ∀ i : Int, 0 ≤ i → i < H → 0 ≤ sp i) : ∀ (a b : Nat) (s : Int), 0 ≤ s → (0 < rcnt sp H (a + b) s ↔ ∃ u : Int, 0 ≤ u ∧ u ≤ s ∧ 0 < rcnt sp H a u ∧ 0 < rcnt sp H b (s - u)) := by
  intro a
  induction a with
  | zero =>
    intro b s s0
    rw [Nat.zero_add]
    refine ⟨fun z => ⟨0, by omega, s0, by show (0 : Int) < (if (0 : Int) = 0 then 1 else 0); decide, by rw [Int.sub_zero]; exact z⟩, fun z => ?_⟩
    obtain ⟨u, u0, u1, u2, u3⟩ := z
    have u4 : 0 < (if u = 0 then (1 : Int) else 0) := u2
    by_cases e : u = 0
    · rw [e, Int.sub_zero] at u3; exact u3
    · rw [if_neg e] at u4; exact absurd u4 (by decide)
  | succ a ih =>
    intro b s s0
    rw [show a + 1 + b = (a + b) + 1 by omega]
    refine ⟨fun z => ?_, fun z => ?_⟩
    · obtain ⟨h, h0, h1, h2, h3⟩ := rcnt_pos.mp z
      have sh := hs h h0 h1
      obtain ⟨u, u0, u1, u2, u3⟩ := (ih b (s - sp h) (by omega)).mp h3
      refine ⟨u + sp h, by omega, by omega, rcnt_pos.mpr ⟨h, h0, h1, by omega, ?_⟩, ?_⟩
      · rw [show u + sp h - sp h = u by omega]; exact u2
      · rw [show s - (u + sp h) = s - sp h - u by omega]; exact u3
    · obtain ⟨u, u0, u1, u2, u3⟩ := z
      obtain ⟨h, h0, h1, h2, h3⟩ := rcnt_pos.mp u2
      have sh := hs h h0 h1
      refine rcnt_pos.mpr ⟨h, h0, h1, by omega, (ih b (s - sp h) (by omega)).mpr ⟨u - sp h, by omega, by omega, h3, ?_⟩⟩
      rw [show s - sp h - (u - sp h) = s - u by omega]
      exact u3
/-- the class's table of rows -/
theorem zr_rowsOf {X : Mm} {S : Sh} {m : Mm} {K : Int → Mm → Prop} {sp : Int → Int} {H : Nat} {n T k t : Int} (hS : Shp S) (hm : Inv X S m) (ht : ∀ k t : Int, 0 ≤ k → k ≤ n → 0 ≤ t → t ≤ T → m 65 (301 * k + t) = rcnt sp H k.toNat t) (n12 : n ≤ 12) (T3 : T ≤ 300) (k0 : 0 ≤ k) (k1 : k ≤ n) (t0 : -400 ≤ t) (t1 : t ≤ T) (h1 : 0 ≤ t → K (rcnt sp H k.toNat t) m) (h0 : t < 0 → K 0 m) : wp_X6_rowsOf S m 63 k t K := by
  refine u_X6_rowsOf ?_
  refine g_if (fun w => ?_) (fun w => g_C (h0 (by omega)))
  refine g_getr 2 65 rfl hS.k63 hm.f_63_2 (by decide) ?_
  refine g_C ?_
  refine g_M (by omega) (by omega) ?_
  refine g_A (by omega) (by omega) ?_
  refine g_ldu hS.k65 hS.l65 (by omega) (by omega) (fun v ev => ?_)
  rw [ev, show k * 301 + t = 301 * k + t by omega, ht k t k0 k1 w t1]
  exact h1 w
theorem zr_countRows {X : Mm} {S : Sh} {m0 : Mm} {K : Mm → Prop} {sp : Int → Int} {H : Nat} {u1 u2 : Int} (hS : Shp S) (hm0 : Inv X S m0) (l1 : 1 ≤ u1) (h1 : u1 ≤ 12) (l2 : 0 ≤ u2) (h2 : u2 ≤ 300) (hH : m0 4 4 = (H : Int)) (hs : ∀ i : Int, 0 ≤ i → i < H → m0 7 i = sp i) (hk : ∀ M1 : Mm, Inv X S M1 → (∀ c p : Int, ¬ c = 65 → M1 c p = m0 c p) → (∀ k t : Int, 0 ≤ k → k ≤ u1 → 0 ≤ t → t ≤ u2 → M1 65 (301 * k + t) = rcnt sp H k.toNat t) → K M1) : wp_X6_countRows S m0 63 u1 u2 K := by
  have b4 := hm0.f_4_4
  have H5 : H ≤ 5 := by omega
  have sb : ∀ i : Int, 0 ≤ i → i < H → 0 ≤ sp i ∧ sp i ≤ 20 := fun i i0 i1 => by rw [← hs i i0 i1]; exact hm0.a_7 i0 (by omega)
  refine u_X6_countRows ?_
  refine g_getr 2 65 rfl hS.k63 hm0.f_63_2 (by decide) ?_
  refine g_C ?_
  refine g_C ?_
  refine g_C ?_
  have fill : ∀ (k : Nat) (i : Int) (m : Mm), Inv X S m → 0 ≤ i → i ≤ 301 → (∀ c p : Int, ¬ c = 65 → m c p = m0 c p) → (∀ p : Int, 0 ≤ p → p < i → m 65 p = 0) → 302 - i ≤ (k : Int) → wp_J7_fill_fda19_10 S (fun M59 => wGetR S M59 63 6 2 fun v60 => wC 0 fun v62 => wC 1 fun v64 => wSt S M59 v60 14 v62 v64 fun M66 => wC 1 fun v67 => ∃ n9 : Nat, wp_X6_countRows_21 S K n9 63 u1 u2 v67 M66) k 65 301 0 i m := by
    intro k
    induction k with
    | zero => intro i m _ _ _ _ _ h; exfalso; omega
    | succ k ih =>
      intro i m hm i0 i1 F z h
      refine u_J7_fill_fda19_10 ?_
      refine g_if (fun w => ?_) (fun w => ?_)
      · refine g_getr 2 65 rfl hS.k63 hm.f_63_2 (by decide) ?_
        refine g_C ?_
        refine g_C ?_
        refine g_st hS.k65 hS.l65 (by omega) (by omega) (hm.wa_65 (by omega) (by omega) (by omega) (by omega)) (fun m2 em2 hm2 => ?_)
        have f2 : ∀ c p : Int, ¬ (c = 65 ∧ p = 0) → m2 c p = m c p := fun c p q => (congrFun (congrFun em2 _) _).trans (up_ne q)
        have x2 : m2 65 0 = 1 := (congrFun (congrFun em2 _) _).trans (up_at _ _ _ _)
        have row0 : ∀ t : Int, 0 ≤ t → t ≤ 300 → m2 65 t = rcnt sp H 0 t := by
          intro t t0 t1
          show _ = (if t = 0 then (1 : Int) else 0)
          by_cases e : t = 0
          · rw [if_pos e, e, x2]
          · rw [if_neg e, f2 65 t (by omega), z t t0 (by omega)]
        refine g_C ?_
        have L1 : ∀ (N1 : Nat) (k1 : Int) (m3 : Mm), Inv X S m3 → 1 ≤ k1 → k1 ≤ 13 → (∀ c p : Int, ¬ c = 65 → m3 c p = m0 c p) → (∀ j t : Int, 0 ≤ j → j < k1 → 0 ≤ t → t ≤ u2 → m3 65 (301 * j + t) = rcnt sp H j.toNat t) → 14 - k1 ≤ (N1 : Int) → wp_X6_countRows_21 S K N1 63 u1 u2 k1 m3 := by
          intro N1
          induction N1 with
          | zero => intro k1 m3 _ _ _ _ _ h; exfalso; omega
          | succ N1 ih1 =>
            intro k1 m3 hm3 a1 a2 F3 T3 hN1
            refine u_X6_countRows_21 ?_
            refine g_if (fun w1 => hk m3 hm3 F3 (fun j t j0 j1 t0 t1 => T3 j t j0 (by omega) t0 t1)) (fun w1 => ?_)
            refine g_C ?_
            have L2 : ∀ (N2 : Nat) (t1 : Int) (m4 : Mm), Inv X S m4 → 0 ≤ t1 → t1 ≤ 301 → (∀ c p : Int, ¬ c = 65 → m4 c p = m0 c p) → (∀ j t : Int, 0 ≤ j → j < k1 → 0 ≤ t → t ≤ u2 → m4 65 (301 * j + t) = rcnt sp H j.toNat t) → (∀ t : Int, 0 ≤ t → t < t1 → m4 65 (301 * k1 + t) = rcnt sp H k1.toNat t) → 302 - t1 ≤ (N2 : Int) → wp_X6_countRows_29 S (fun a0 a1 a2 a3 M => wp_X6_countRows_21 S K N1 a0 a1 a2 a3 M) K N2 63 u1 u2 k1 t1 m4 := by
              intro N2
              induction N2 with
              | zero => intro t1 m4 _ _ _ _ _ _ h; exfalso; omega
              | succ N2 ih2 =>
                intro t1 m4 hm4 c1 c2 F4 T4 R4 hN2
                refine u_X6_countRows_29 ?_
                refine g_if (fun w2 => ?_) (fun w2 => ?_)
                · refine g_A (by omega) (by omega) ?_
                  refine ih1 (k1 + 1) m4 hm4 (by omega) (by omega) F4 (fun j t j0 j1 t0 t1' => ?_) (by omega)
                  by_cases e : j = k1
                  · rw [e]; exact R4 t t0 (by omega)
                  · exact T4 j t j0 (by omega) t0 t1'
                · refine g_C ?_
                  refine g_C ?_
                  obtain ⟨g, eg⟩ : ∃ g : Int → Int, g = fun h => if sp h ≤ t1 then rcnt sp H (k1 - 1).toNat (t1 - sp h) else 0 := ⟨_, rfl⟩
                  have gb : ∀ i : Int, 0 ≤ i → i < H → 0 ≤ g i ∧ g i ≤ 48828125 := by
                    intro i _ _
                    have q := p5_c (k1 - 1).toNat (by omega)
                    have q2 := rcnt_b (sp := sp) H5 (k1 - 1).toNat (t1 - sp i)
                    rw [eg]
                    show 0 ≤ (if sp i ≤ t1 then rcnt sp H (k1 - 1).toNat (t1 - sp i) else 0) ∧ (if sp i ≤ t1 then rcnt sp H (k1 - 1).toNat (t1 - sp i) else 0) ≤ 48828125
                    split <;> omega
                  have full : cs g H = rcnt sp H k1.toNat t1 := by
                    rw [show k1.toNat = (k1 - 1).toNat + 1 by omega, eg]
                    rfl
                  have L3 : ∀ (N3 : Nat) (h : Nat), h ≤ H → 6 - (h : Int) ≤ (N3 : Int) → wp_X6_countRows_41 S (fun a0 a1 a2 a3 M => wp_X6_countRows_21 S K N1 a0 a1 a2 a3 M) (fun a0 a1 a2 a3 a4 M => wp_X6_countRows_29 S (fun a0 a1 a2 a3 M => wp_X6_countRows_21 S K N1 a0 a1 a2 a3 M) K N2 a0 a1 a2 a3 a4 M) K N3 63 u1 u2 k1 t1 (cs g h) (h : Int) m4 := by
                    intro N3
                    induction N3 with
                    | zero => intro h _ z; exfalso; omega
                    | succ N3 ih3 =>
                      intro h hh hN3
                      have cb := cs_b5 (f := g) (B := 48828125) (by decide) h (by omega) (fun i i0 i1 => gb i i0 (by omega))
                      refine u_X6_countRows_41 ?_
                      refine g_getr 0 4 rfl hS.k63 hm4.f_63_0 (by decide) ?_
                      refine g_getu 4 rfl hS.k4 (fun v ev => ?_)
                      rw [F4 4 4 (by omega), hH] at ev
                      refine g_if (fun w3 => ?_) (fun w3 => ?_)
                      · have eh : h = H := by omega
                        refine g_getr 2 65 rfl hS.k63 hm4.f_63_2 (by decide) ?_
                        refine g_C ?_
                        refine g_M (by omega) (by omega) ?_
                        refine g_A (by omega) (by omega) ?_
                        refine g_C ?_
                        refine ⟨by decide, ?_⟩
                        rw [lRem_small cb.1 (by omega) (by decide)]
                        refine g_w32 (by omega) (by omega) ?_
                        refine g_st hS.k65 hS.l65 (by omega) (by omega) (hm4.wa_65 (by omega) (by omega) (by omega) (by omega)) (fun m5 em5 hm5 => ?_)
                        have f5 : ∀ c p : Int, ¬ (c = 65 ∧ p = k1 * 301 + t1) → m5 c p = m4 c p := fun c p q => (congrFun (congrFun em5 _) _).trans (up_ne q)
                        have x5 : m5 65 (k1 * 301 + t1) = cs g h := (congrFun (congrFun em5 _) _).trans (up_at _ _ _ _)
                        refine g_A (by omega) (by omega) ?_
                        refine ih2 (t1 + 1) m5 hm5 (by omega) (by omega) (fun c p q => (f5 c p (by omega)).trans (F4 c p q)) (fun j t j0 j1 t0 t1' => by rw [f5 65 _ (by omega)]; exact T4 j t j0 j1 t0 t1') (fun t t0 t1' => ?_) (by omega)
                        by_cases e : t = t1
                        · rw [e, show 301 * k1 + t1 = k1 * 301 + t1 by omega, x5, eh, full]
                        · rw [f5 65 _ (by omega)]
                          exact R4 t t0 (by omega)
                      · have hlt : (h : Int) < H := by omega
                        have sh := sb (h : Int) (by omega) hlt
                        have gh := gb (h : Int) (by omega) hlt
                        refine g_C ?_
                        refine g_S (by omega) (by omega) ?_
                        refine g_getr 0 4 rfl hS.k63 hm4.f_63_0 (by decide) ?_
                        refine g_getr 10 7 rfl hS.k4 hm4.f_4_10 (by decide) ?_
                        refine g_ldu hS.k7 hS.l7 (by omega) (by omega) (fun s es => ?_)
                        rw [F4 7 _ (by omega), hs _ (by omega) hlt] at es
                        subst es
                        refine g_S (by omega) (by omega) ?_
                        refine ⟨hS.k63, ?_⟩
                        refine zr_rowsOf (sp := sp) (H := H) (n := k1 - 1) (T := u2) hS hm4 (fun j t j0 j1 t0 t1' => T4 j t j0 (by omega) t0 t1') (by omega) h2 (by omega) (by omega) (by omega) (by omega) (fun t0 => ?_) (fun t0 => ?_)
                        · have e : g (h : Int) = rcnt sp H (k1 - 1).toNat (t1 - sp (h : Int)) := by
                            rw [eg]
                            show (if sp (h : Int) ≤ t1 then rcnt sp H (k1 - 1).toNat (t1 - sp (h : Int)) else 0) = _
                            rw [if_pos (by omega)]
                          refine g_C ?_
                          rw [← e]
                          refine g_LA (by omega) (by omega) ?_
                          refine g_A (by omega) (by omega) ?_
                          rw [show (h : Int) + 1 = ((h + 1 : Nat) : Int) by omega]
                          exact ih3 (h + 1) (by omega) (by omega)
                        · have e : g (h : Int) = 0 := by
                            rw [eg]
                            show (if sp (h : Int) ≤ t1 then rcnt sp H (k1 - 1).toNat (t1 - sp (h : Int)) else 0) = _
                            rw [if_neg (by omega)]
                          refine g_C ?_
                          rw [← e]
                          refine g_LA (by omega) (by omega) ?_
                          refine g_A (by omega) (by omega) ?_
                          rw [show (h : Int) + 1 = ((h + 1 : Nat) : Int) by omega]
                          exact ih3 (h + 1) (by omega) (by omega)
                  exact ⟨6, L3 6 0 (by omega) (by decide)⟩
            exact ⟨302, L2 302 0 m3 hm3 (by decide) (by decide) F3 T3 (fun t t0 t1 => absurd t1 (by omega)) (by decide)⟩
        exact ⟨13, L1 13 1 m2 hm2 (by decide) (by decide) (fun c p q => (f2 c p (by omega)).trans (F c p q)) (fun j t j0 j1 t0 t1 => by rw [show j = 0 by omega, show 301 * 0 + t = t by omega]; exact row0 t t0 (by omega)) (by decide)⟩
      · refine g_st hS.k65 hS.l65 (by omega) (by omega) (hm.wa_65 (by omega) (by omega) (by omega) (by omega)) (fun m2 em2 hm2 => ?_)
        have f2 : ∀ c p : Int, ¬ (c = 65 ∧ p = i) → m2 c p = m c p := fun c p q => (congrFun (congrFun em2 _) _).trans (up_ne q)
        have x2 : m2 65 i = 0 := (congrFun (congrFun em2 _) _).trans (up_at _ _ _ _)
        refine g_A (by omega) (by omega) ?_
        refine ih (i + 1) m2 hm2 (by omega) (by omega) (fun c p q => (f2 c p (by omega)).trans (F c p q)) (fun p p0 p1 => ?_) (by omega)
        by_cases e : p = i
        · rw [e, x2]
        · rw [f2 65 p (by omega)]; exact z p p0 (by omega)
  refine u_J7_fill_fda19 ?_
  refine g_len 3913 hS.k65 hS.l65 (by decide) ?_
  refine u_J7_rangeCheck_23922 ?_
  refine g_ifT (by decide) (g_ifT (by decide) (g_ifT (by decide) ?_))
  exact ⟨302, fill 302 0 m0 hm0 (by decide) (by decide) (fun _ _ _ => rfl) (fun p p0 p1 => absurd p1 (by omega)) (by decide)⟩
end
section
/-- the reference's tables of rows -/
def RTb (sp : Int → Int) (H : Nat) (M : Mm) (n : Int) : Prop := ∀ k t : Int, 0 ≤ k → k ≤ n → 0 ≤ t → t ≤ 300 → M 352 (301 * k + t) = rcnt sp H k.toNat t ∧ (M 353 (301 * k + t) = 0 ↔ ¬ 0 < rcnt sp H k.toNat t)
theorem zr_speed {X : Mm} {S : Sh} {m : Mm} {K : Int → Mm → Prop} {sp : Int → Int} {H : Nat} {h : Int} (hS : Shp S) (hm : Inv X S m) (hs : ∀ i : Int, 0 ≤ i → i < H → m 346 (13 + 5 * i) = sp i) (h5 : H ≤ 5) (h0 : 0 ≤ h) (h1 : h < H) (hk : K (sp h) m) : wp_X12_handOf S m 336 h 3 K := by
  refine zl_speed hS hm h0 (by omega) (fun _ _ => ?_)
  rw [hs h h0 h1]
  exact hk
theorem zr_fillsRows {X : Mm} {S : Sh} {m0 : Mm} {K : Mm → Prop} {sp : Int → Int} {H : Nat} {u1 : Int} (hS : Shp S) (hm0 : Inv X S m0) (h1 : 1 ≤ u1) (h2 : u1 ≤ 12) (hH : m0 346 4 = (H : Int)) (hs : ∀ i : Int, 0 ≤ i → i < H → m0 346 (13 + 5 * i) = sp i) (sb : ∀ i : Int, 0 ≤ i → i < H → 0 ≤ sp i ∧ sp i ≤ 20) (hk : ∀ M1 : Mm, Inv X S M1 → (∀ c p : Int, ¬ c = 352 → ¬ c = 353 → M1 c p = m0 c p) → RTb sp H M1 u1 → K M1) : wp_X12_fillsRows S m0 336 u1 K := by
  have b4 := hm0.f_346_4
  have H5 : H ≤ 5 := by omega
  refine u_X12_fillsRows ?_
  refine g_C ?_
  have main : ∀ (n : Nat) (k : Int) (m : Mm), Inv X S m → 1 ≤ k → k ≤ u1 + 1 → (∀ c p : Int, ¬ c = 352 → ¬ c = 353 → m c p = m0 c p) → RTb sp H m (k - 1) → 14 - k ≤ (n : Int) → wp_X12_fillsRows_47 S K n 336 u1 k m := by
    intro n
    induction n with
    | zero => intro k m _ _ _ _ _ h; exfalso; omega
    | succ n ih =>
      intro k m hm k0 k1 F hr hn
      refine u_X12_fillsRows_47 ?_
      refine g_if (fun w => ?_) (fun w => ?_)
      · exact hk m hm F (by rw [show u1 = k - 1 by omega]; exact hr)
      · refine g_C ?_
        have row : ∀ (n2 : Nat) (t : Int) (m' : Mm), Inv X S m' → 0 ≤ t → t ≤ 301 → (∀ c p : Int, ¬ c = 352 → ¬ c = 353 → m' c p = m0 c p) → RTb sp H m' (k - 1) → (∀ s : Int, 0 ≤ s → s < t → m' 352 (301 * k + s) = rcnt sp H k.toNat s ∧ (m' 353 (301 * k + s) = 0 ↔ ¬ 0 < rcnt sp H k.toNat s)) → 302 - t ≤ (n2 : Int) → wp_X12_fillsRows_54 S (fun a0 a1 a2 M => wp_X12_fillsRows_47 S K n a0 a1 a2 M) K n2 336 u1 k t m' := by
          intro n2
          induction n2 with
          | zero => intro t m' _ _ _ _ _ _ h; exfalso; omega
          | succ n2 ih2 =>
            intro t m' hm' t0 t1 F' hr' hc hn2
            refine u_X12_fillsRows_54 ?_
            refine g_C ?_
            refine g_if (fun w2 => ?_) (fun w2 => ?_)
            · refine g_A (by omega) (by omega) ?_
              refine ih (k + 1) m' hm' (by omega) (by omega) F' (fun k' t' a1 a2 a3 a4 => ?_) (by omega)
              by_cases e : k' = k
              · rw [e]
                exact hc t' a3 (by omega)
              · exact hr' k' t' a1 (by omega) a3 a4
            · refine g_C ?_
              refine g_C ?_
              refine g_C ?_
              obtain ⟨g, eg⟩ : ∃ g : Int → Int, g = fun h => if sp h ≤ t then rcnt sp H (k - 1).toNat (t - sp h) else 0 := ⟨_, rfl⟩
              have gb : ∀ i : Int, 0 ≤ i → i < H → 0 ≤ g i ∧ g i ≤ 48828125 := by
                intro i _ _
                have q := p5_c (k - 1).toNat (by omega)
                have q2 := rcnt_b (sp := sp) H5 (k - 1).toNat (t - sp i)
                rw [eg]
                show 0 ≤ (if sp i ≤ t then rcnt sp H (k - 1).toNat (t - sp i) else 0) ∧ (if sp i ≤ t then rcnt sp H (k - 1).toNat (t - sp i) else 0) ≤ 48828125
                split <;> omega
              have full : cs g H = rcnt sp H k.toNat t := by
                rw [show k.toNat = (k - 1).toNat + 1 by omega, eg]
                rfl
              have inn : ∀ (n3 : Nat) (is : Int) (h : Nat), (is = 0 ∨ is = 1) → (is = 0 ↔ ¬ 0 < cs g h) → h ≤ H → 6 - (h : Int) ≤ (n3 : Int) → wp_X12_fillsRows_70 S (fun a0 a1 a2 M => wp_X12_fillsRows_47 S K n a0 a1 a2 M) (fun a0 a1 a2 a3 M => wp_X12_fillsRows_54 S (fun a0 a1 a2 M => wp_X12_fillsRows_47 S K n a0 a1 a2 M) K n2 a0 a1 a2 a3 M) K n3 336 u1 k t (cs g h) is (h : Int) m' := by
                intro n3
                induction n3 with
                | zero => intro is h _ _ _ hh; exfalso; omega
                | succ n3 ih3 =>
                  intro is h iz hv hle hn3
                  have cb := cs_b5 (f := g) (B := 48828125) (by decide) h (by omega) (fun i i0 i1 => gb i i0 (by omega))
                  refine u_X12_fillsRows_70 ?_
                  refine g_getr 20 346 rfl hS.k336 hm'.f_336_20 (by decide) ?_
                  refine g_C ?_
                  refine g_ldu hS.k346 hS.l346 (by omega) (by omega) (fun Hv eH => ?_)
                  rw [F' 346 4 (by omega) (by omega), hH] at eH
                  refine g_if (fun w3 => ?_) (fun w3 => ?_)
                  · have eh : h = H := by omega
                    rw [eh, full] at hv
                    refine g_getr 31 352 rfl hS.k336 hm'.f_336_31 (by decide) ?_
                    refine zl_spot (by omega) (by omega) (by omega) (by omega) ?_
                    refine g_C ?_
                    refine ⟨by decide, ?_⟩
                    rw [lRem_small cb.1 (by omega) (by decide)]
                    refine g_w32 (by omega) (by omega) ?_
                    refine g_st hS.k352 hS.l352 (by omega) (by omega) (hm'.wa_352 (by omega) (by omega) (by omega) (by omega)) (fun m2 e2 hm2 => ?_)
                    have f2 : ∀ c p : Int, ¬ (c = 352 ∧ p = 301 * k + t) → m2 c p = m' c p := fun c p q => (congrFun (congrFun e2 _) _).trans (up_ne q)
                    have x2 : m2 352 (301 * k + t) = cs g h := (congrFun (congrFun e2 _) _).trans (up_at _ _ _ _)
                    refine g_getr 32 353 rfl hS.k336 hm2.f_336_32 (by decide) ?_
                    refine zl_spot (by omega) (by omega) (by omega) (by omega) ?_
                    refine g_stz hS.k353 hS.l353 (by omega) (by omega) (by omega) (hm2.wa_353 (by omega) (by omega) (by omega) (by omega)) (fun m3 e3 hm3 => ?_)
                    have f3 : ∀ c p : Int, ¬ (c = 353 ∧ p = 301 * k + t) → m3 c p = m2 c p := fun c p q => (congrFun (congrFun e3 _) _).trans (up_ne q)
                    have x3 : m3 353 (301 * k + t) = is := (congrFun (congrFun e3 _) _).trans (up_at _ _ _ _)
                    have G : ∀ c p : Int, ¬ (c = 352 ∧ p = 301 * k + t) → ¬ (c = 353 ∧ p = 301 * k + t) → m3 c p = m' c p := fun c p q1 q2 => (f3 c p q2).trans (f2 c p q1)
                    refine g_A (by omega) (by omega) ?_
                    refine ih2 (t + 1) m3 hm3 (by omega) (by omega) (fun c p q1 q2 => (G c p (by omega) (by omega)).trans (F' c p q1 q2)) (fun k' t' a1 a2 a3 a4 => ?_) (fun s s0 s1 => ?_) (by omega)
                    · rw [G 352 _ (by omega) (by omega), G 353 _ (by omega) (by omega)]
                      exact hr' k' t' a1 a2 a3 a4
                    · by_cases e : s = t
                      · rw [e, x3, f3 352 _ (by omega), x2, eh, full]
                        exact ⟨rfl, hv⟩
                      · rw [G 352 _ (by omega) (by omega), G 353 _ (by omega) (by omega)]
                        exact hc s s0 (by omega)
                  · have hlt : (h : Int) < H := by omega
                    have sh := sb (h : Int) (by omega) hlt
                    have gh := gb (h : Int) (by omega) hlt
                    have nx : ∀ is' : Int, (is' = 0 ∨ is' = 1) → (is' = 0 ↔ ¬ 0 < cs g h + g (h : Int)) → wp_X12_fillsRows_147 S (fun a0 a1 a2 M => wp_X12_fillsRows_47 S K n a0 a1 a2 M) (fun a0 a1 a2 a3 M => wp_X12_fillsRows_54 S (fun a0 a1 a2 M => wp_X12_fillsRows_47 S K n a0 a1 a2 M) K n2 a0 a1 a2 a3 M) (fun a0 a1 a2 a3 a4 a5 a6 M => wp_X12_fillsRows_70 S (fun a0 a1 a2 M => wp_X12_fillsRows_47 S K n a0 a1 a2 M) (fun a0 a1 a2 a3 M => wp_X12_fillsRows_54 S (fun a0 a1 a2 M => wp_X12_fillsRows_47 S K n a0 a1 a2 M) K n2 a0 a1 a2 a3 M) K n3 a0 a1 a2 a3 a4 a5 a6 M) K 336 u1 k t (cs g h + g (h : Int)) is' (h : Int) m' := by
                      intro is' jz jv
                      refine u_X12_fillsRows_147 ?_
                      refine g_A (by omega) (by omega) ?_
                      rw [show (h : Int) + 1 = ((h + 1 : Nat) : Int) by omega]
                      exact ih3 is' (h + 1) jz jv (by omega) (by omega)
                    refine g_C ?_
                    refine ⟨hS.k336, ?_⟩
                    refine zr_speed hS hm' (fun i i0 i1 => (F' 346 _ (by omega) (by omega)).trans (hs i i0 i1)) H5 (by omega) hlt ?_
                    refine g_S (by omega) (by omega) ?_
                    refine g_if (fun w4 => ?_) (fun w4 => ?_)
                    · have e : g (h : Int) = rcnt sp H (k - 1).toNat (t - sp (h : Int)) := by
                        rw [eg]
                        show (if sp (h : Int) ≤ t then rcnt sp H (k - 1).toNat (t - sp (h : Int)) else 0) = _
                        rw [if_pos (by omega)]
                      have tb := hr' (k - 1) (t - sp (h : Int)) (by omega) (by omega) w4 (by omega)
                      rw [← e] at tb
                      refine g_getr 31 352 rfl hS.k336 hm'.f_336_31 (by decide) ?_
                      refine g_C ?_
                      refine g_S (by omega) (by omega) ?_
                      refine zl_spot (by omega) (by omega) (by omega) (by omega) ?_
                      refine g_ldu hS.k352 hS.l352 (by omega) (by omega) (fun x ex => ?_)
                      rw [tb.1] at ex
                      refine g_C ?_
                      rw [ex]
                      refine g_LA (by omega) (by omega) ?_
                      refine g_if (fun w5 => ?_) (fun w5 => ?_)
                      · have yc : 0 < cs g h := by
                          by_cases y : 0 < cs g h
                          · exact y
                          · exact absurd (hv.mpr y) w5
                        refine u_X12_fillsRows_140 ?_
                        refine g_C ?_
                        refine u_X12_fillsRows_145 ?_
                        exact nx 1 (by decide) ⟨fun z => absurd z (by decide), fun z => absurd (show 0 < cs g h + g (h : Int) by omega) z⟩
                      · refine g_getr 32 353 rfl hS.k336 hm'.f_336_32 (by decide) ?_
                        refine g_C ?_
                        refine g_S (by omega) (by omega) ?_
                        refine zl_spot (by omega) (by omega) (by omega) (by omega) ?_
                        refine g_ldu hS.k353 hS.l353 (by omega) (by omega) (fun y ey => ?_)
                        have nv : ¬ 0 < cs g h := hv.mp (by omega)
                        refine g_if (fun w6 => ?_) (fun w6 => ?_)
                        · refine g_C ?_
                          refine u_X12_fillsRows_145 ?_
                          have ng := tb.2.mp (by omega)
                          exact nx 0 (by decide) ⟨fun _ => by omega, fun _ => rfl⟩
                        · refine u_X12_fillsRows_140 ?_
                          refine g_C ?_
                          refine u_X12_fillsRows_145 ?_
                          have yg : 0 < g (h : Int) := by
                            by_cases z : 0 < g (h : Int)
                            · exact z
                            · exact absurd (ey.trans (tb.2.mpr z)) w6
                          exact nx 1 (by decide) ⟨fun z => absurd z (by decide), fun z => absurd (show 0 < cs g h + g (h : Int) by omega) z⟩
                    · have e : g (h : Int) = 0 := by
                        rw [eg]
                        show (if sp (h : Int) ≤ t then rcnt sp H (k - 1).toNat (t - sp (h : Int)) else 0) = _
                        rw [if_neg (by omega)]
                      have n0 := nx is iz (by rw [e, Int.add_zero]; exact hv)
                      rw [e, Int.add_zero] at n0
                      exact n0
              exact ⟨6, inn 6 0 0 (Or.inl rfl) ⟨fun _ => (by show ¬ (0 : Int) < 0; decide), fun _ => rfl⟩ (by omega) (by decide)⟩
        exact ⟨302, row 302 0 m hm (by decide) (by decide) F hr (fun s s0 s1 => absurd s1 (by omega)) (by decide)⟩
  have first : ∀ (n : Nat) (t : Int) (m : Mm), Inv X S m → 0 ≤ t → t ≤ 301 → (∀ c p : Int, ¬ c = 352 → ¬ c = 353 → m c p = m0 c p) → (∀ s : Int, 0 ≤ s → s < t → m 352 s = rcnt sp H 0 s ∧ (m 353 s = 0 ↔ ¬ 0 < rcnt sp H 0 s)) → 302 - t ≤ (n : Int) → wp_X12_fillsRows_2 S K n 336 u1 t m := by
    intro n
    induction n with
    | zero => intro t m _ _ _ _ _ h; exfalso; omega
    | succ n ih =>
      intro t m hm t0 t1 F hc hn
      refine u_X12_fillsRows_2 ?_
      refine g_C ?_
      refine g_if (fun w => ?_) (fun w => ?_)
      · refine g_C ?_
        refine ⟨13, main 13 1 m hm (by decide) (by omega) F (fun k' t' a1 a2 a3 a4 => ?_) (by decide)⟩
        rw [show k' = 0 by omega, show 301 * 0 + t' = t' by omega]
        exact hc t' a3 (by omega)
      · have nx : ∀ x y : Int, (y = 0 ∨ y = 1) → -2147483648 ≤ x → x ≤ 2147483647 → x = rcnt sp H 0 t → (y = 0 ↔ ¬ 0 < rcnt sp H 0 t) → ∀ m2 : Mm, Inv X S m2 → m2 = up m 352 t x → wp_X12_fillsRows_38 S (fun a0 a1 a2 M => wp_X12_fillsRows_2 S K n a0 a1 a2 M) K 336 u1 t 353 t y m2 := by
          intro x y yz x0 x1 ex ey m2 hm2 e2
          have f2 : ∀ c p : Int, ¬ (c = 352 ∧ p = t) → m2 c p = m c p := fun c p q => (congrFun (congrFun e2 _) _).trans (up_ne q)
          have x2 : m2 352 t = x := (congrFun (congrFun e2 _) _).trans (up_at _ _ _ _)
          refine u_X12_fillsRows_38 ?_
          refine g_stz hS.k353 hS.l353 (by omega) (by omega) (by omega) (hm2.wa_353 (by omega) (by omega) (by omega) (by omega)) (fun m3 e3 hm3 => ?_)
          have f3 : ∀ c p : Int, ¬ (c = 353 ∧ p = t) → m3 c p = m2 c p := fun c p q => (congrFun (congrFun e3 _) _).trans (up_ne q)
          have x3 : m3 353 t = y := (congrFun (congrFun e3 _) _).trans (up_at _ _ _ _)
          refine g_A (by omega) (by omega) ?_
          refine ih (t + 1) m3 hm3 (by omega) (by omega) (fun c p q1 q2 => by rw [f3 c p (by omega), f2 c p (by omega)]; exact F c p q1 q2) (fun s s0 s1 => ?_) (by omega)
          by_cases e : s = t
          · rw [e, x3, f3 352 t (by omega), x2]
            exact ⟨ex, ey⟩
          · rw [f3 352 s (by omega), f2 352 s (by omega), f3 353 s (by omega), f2 353 s (by omega)]
            exact hc s s0 (by omega)
        refine g_getr 31 352 rfl hS.k336 hm.f_336_31 (by decide) ?_
        refine g_if (fun w2 => ?_) (fun w2 => ?_)
        · have c0 : rcnt sp H 0 t = 0 := by
            show (if t = 0 then (1 : Int) else 0) = 0
            rw [if_neg w2]
          refine g_C ?_
          refine u_X12_fillsRows_23 ?_
          refine g_st hS.k352 hS.l352 (by omega) (by omega) (hm.wa_352 (by omega) (by omega) (by omega) (by omega)) (fun m2 e2 hm2 => ?_)
          refine g_getr 32 353 rfl hS.k336 hm2.f_336_32 (by decide) ?_
          refine g_ifT w2 (g_C ?_)
          exact nx 0 0 (Or.inl rfl) (by decide) (by decide) c0.symm ⟨fun _ => by rw [c0]; decide, fun _ => rfl⟩ m2 hm2 e2
        · have c0 : rcnt sp H 0 t = 1 := by
            show (if t = 0 then (1 : Int) else 0) = 1
            rw [if_pos (by omega)]
          refine g_C ?_
          refine u_X12_fillsRows_23 ?_
          refine g_st hS.k352 hS.l352 (by omega) (by omega) (hm.wa_352 (by omega) (by omega) (by omega) (by omega)) (fun m2 e2 hm2 => ?_)
          refine g_getr 32 353 rfl hS.k336 hm2.f_336_32 (by decide) ?_
          refine g_ifF w2 (g_C ?_)
          exact nx 1 1 (Or.inr rfl) (by decide) (by decide) c0.symm ⟨fun z => absurd z (by decide), fun z => absurd (show 0 < rcnt sp H 0 t by rw [c0]; decide) z⟩ m2 hm2 e2
  exact ⟨302, first 302 0 m0 hm0 (by decide) (by decide) (fun _ _ _ _ => rfl) (fun s s0 s1 => absurd s1 (by omega)) (by decide)⟩
/-- the first HAND that leaves what k more can come to -/
def Lh (sp : Int → Int) (H : Nat) (k : Nat) (l h : Int) : Prop := (0 ≤ h ∧ h < H ∧ sp h ≤ l ∧ 0 < rcnt sp H k (l - sp h)) ∧ ∀ g : Int, 0 ≤ g → g < h → ¬ (sp g ≤ l ∧ 0 < rcnt sp H k (l - sp g))
theorem Lh.uniq {sp : Int → Int} {H k : Nat} {l g h : Int} (a : Lh sp H k l g) (b : Lh sp H k l h) : g = h := by
  by_cases e : g < h
  · exact absurd ⟨a.1.2.2.1, a.1.2.2.2⟩ (b.2 g a.1.1 e)
  · by_cases e2 : h < g
    · exact absurd ⟨b.1.2.2.1, b.1.2.2.2⟩ (a.2 h b.1.1 e2)
    · omega
/-- the HAND of the first row in the a-th HOUR, n HOURS being left at its begin -/
def Fh (sp : Int → Int) (H : Nat) : Nat → Int → Int → Int → Prop
  | 0, n, l, r => Lh sp H (n - 1).toNat l r
  | a + 1, n, l, r => ∃ h : Int, Lh sp H (n - 1).toNat l h ∧ Fh sp H a (n - 1) (l - sp h) r
theorem Fh.uniq {sp : Int → Int} {H : Nat} : ∀ (a : Nat) (n l g h : Int), Fh sp H a n l g → Fh sp H a n l h → g = h := by
  intro a
  induction a with
  | zero => intro n l g h x y; exact Lh.uniq x y
  | succ a ih =>
    intro n l g h x y
    obtain ⟨p, p1, p2⟩ := x
    obtain ⟨q, q1, q2⟩ := y
    have e := p1.uniq q1
    subst e
    exact ih _ _ _ _ p2 q2
/-- HANDS as bits -/
def hb (P : Int → Prop) [DecidablePred P] : Nat → Int
  | 0 => 0
  | h + 1 => if P (h : Int) then iOr (hb P h) (iShl 1 (h : Int)) else hb P h
theorem or_b : ∀ b : Nat, b < 32 → ∀ h : Nat, h < 5 → iOr (iOr (b : Int) (iShl 1 (h : Int))) (iShl 1 (h : Int)) = iOr (b : Int) (iShl 1 (h : Int)) ∧ iOr (b : Int) 0 = (b : Int) ∧ 0 ≤ iOr (b : Int) (iShl 1 (h : Int)) ∧ iOr (b : Int) (iShl 1 (h : Int)) < 32 := by decide +kernel
theorem hb_b {P : Int → Prop} [DecidablePred P] : ∀ h : Nat, h ≤ 5 → 0 ≤ hb P h ∧ hb P h < 32 := by
  intro h
  induction h with
  | zero => intro _; exact ⟨Int.le_refl 0, by show (0 : Int) < 32; decide⟩
  | succ h ih =>
    intro h5
    obtain ⟨a, b⟩ := ih (by omega)
    have q := or_b (hb P h).toNat (by omega) h (by omega)
    rw [Int.toNat_of_nonneg a] at q
    show 0 ≤ (if P (h : Int) then iOr (hb P h) (iShl 1 (h : Int)) else hb P h) ∧ (if P (h : Int) then iOr (hb P h) (iShl 1 (h : Int)) else hb P h) < 32
    split
    · exact ⟨q.2.2.1, q.2.2.2⟩
    · exact ⟨a, b⟩
end
section
/-- what ROWS answers, of what is told -/
abbrev rOK (n t w : Int) : Prop := 1 ≤ n ∧ n ≤ 12 ∧ 0 ≤ t ∧ t ≤ 300 ∧ ((-1 ≤ w ∧ w ≤ 11) ∨ (20 ≤ w ∧ w ≤ 31))
abbrev rB (sp : Int → Int) (n t h : Int) (H : Nat) : Prop := sp h ≤ t ∧ 0 < rcnt sp H (n - 1).toNat (t - sp h)
def RA (sp : Int → Int) (H : Nat) (pl n t w r : Int) : Prop := wIf (pl = 0 ∨ ¬ rOK n t w) (r = -3) (wIf (w = -1) (r = rcnt sp H n.toNat t) (wIf (¬ 0 < rcnt sp H n.toNat t ∨ n ≤ (if w < 20 then w else w - 20)) (r = -2) (wIf (w < 20) (Fh sp H w.toNat n t r) (r = hb (fun h => rB sp n t h H) H))))
theorem RA.uniq {sp : Int → Int} {H : Nat} {pl n t w r s : Int} (a : RA sp H pl n t w r) (b : RA sp H pl n t w s) : r = s := if_dt a b (fun x y => x.trans y.symm) (fun a b => if_dt a b (fun x y => x.trans y.symm) (fun a b => if_dt a b (fun x y => x.trans y.symm) (fun a b => if_dt a b (fun x y => Fh.uniq _ _ _ _ _ x y) (fun x y => x.trans y.symm))))
theorem rem20' : ∀ k : Nat, k < 12 → iRem (k : Int) 20 = (k : Int) ∧ iRem ((k : Int) + 20) 20 = (k : Int) := by decide +kernel
theorem zr_firstHand {X : Mm} {S : Sh} {m : Mm} {K : Int → Mm → Prop} {sp : Int → Int} {H : Nat} {u1 u2 u3 : Int} (hS : Shp S) (hm : Inv X S m) (h1 : 1 ≤ u1) (h1' : u1 ≤ 12) (h2 : 0 ≤ u2) (h2' : u2 ≤ 300) (h3 : 0 ≤ u3) (h3' : u3 < u1) (H5 : H ≤ 5) (hs : ∀ i : Int, 0 ≤ i → i < H → m 346 (13 + 5 * i) = sp i) (sb : ∀ i : Int, 0 ≤ i → i < H → 0 ≤ sp i ∧ sp i ≤ 20) (hr : RTb sp H m u1) (hx : 0 < rcnt sp H u1.toNat u2) (hk : ∀ r : Int, Fh sp H u3.toNat u1 u2 r → K r m) : wp_X12_firstHand S m 336 u1 u2 u3 K := by
  refine u_X12_firstHand ?_
  refine g_C ?_
  refine g_C ?_
  have L : ∀ (n : Nat) (left hand k : Int), 0 ≤ k → k ≤ u3 + 1 → 0 ≤ left → left ≤ 300 → (k ≤ u3 → 0 < rcnt sp H (u1 - k).toNat left) → (k ≤ u3 → ∀ r : Int, Fh sp H (u3 - k).toNat (u1 - k) left r → Fh sp H u3.toNat u1 u2 r) → (k = u3 + 1 → Fh sp H u3.toNat u1 u2 hand) → u3 + 2 - k ≤ (n : Int) → wp_X12_firstHand_9 S K n 336 u1 u3 left hand k m := by
    intro n
    induction n with
    | zero => intro left hand k _ _ _ _ _ _ _ h; exfalso; omega
    | succ n ih =>
      intro left hand k k0 k1 l0 l1 hl hF hE hn
      refine u_X12_firstHand_9 ?_
      refine g_if (fun w => hk _ (hE (by omega))) (fun w => ?_)
      refine g_C ?_
      have hl' := hl (by omega)
      rw [show (u1 - k).toNat = (u1 - k - 1).toNat + 1 by omega] at hl'
      obtain ⟨g, g0, g1, g2, g3⟩ := rcnt_pos.mp hl'
      have inn : ∀ (n2 : Nat) (h : Int), 0 ≤ h → h ≤ g → (∀ i : Int, 0 ≤ i → i < h → ¬ (sp i ≤ left ∧ 0 < rcnt sp H (u1 - k - 1).toNat (left - sp i))) → g + 1 - h ≤ (n2 : Int) → wp_X12_firstHand_18 S (fun a0 a1 a2 a3 a4 a5 M => wp_X12_firstHand_9 S K n a0 a1 a2 a3 a4 a5 M) K n2 336 u1 u3 left h k m := by
        intro n2
        induction n2 with
        | zero => intro h _ _ _ hh; exfalso; omega
        | succ n2 ih2 =>
          intro h j0 j1 hno hh
          have hlt : h < H := by omega
          have sh := sb h j0 hlt
          refine u_X12_firstHand_18 ?_
          have nx : ¬ (sp h ≤ left ∧ 0 < rcnt sp H (u1 - k - 1).toNat (left - sp h)) → wp_X12_firstHand_57 S (fun a0 a1 a2 a3 a4 a5 M => wp_X12_firstHand_9 S K n a0 a1 a2 a3 a4 a5 M) (fun a0 a1 a2 a3 a4 a5 M => wp_X12_firstHand_18 S (fun a0 a1 a2 a3 a4 a5 M => wp_X12_firstHand_9 S K n a0 a1 a2 a3 a4 a5 M) K n2 a0 a1 a2 a3 a4 a5 M) K 336 u1 u3 left h k m := by
            intro ne
            have hg : ¬ h = g := fun e => ne (by rw [e]; exact ⟨g2, g3⟩)
            refine u_X12_firstHand_57 ?_
            refine g_A (by omega) (by omega) ?_
            refine ih2 (h + 1) (by omega) (by omega) (fun i i0 i1 => ?_) (by omega)
            by_cases e : i = h
            · rw [e]; exact ne
            · exact hno i i0 (by omega)
          refine g_C ?_
          refine ⟨hS.k336, ?_⟩
          refine zr_speed hS hm hs H5 j0 hlt ?_
          refine g_if (fun w2 => nx (fun z => by have := z.1; omega)) (fun w2 => ?_)
          have tb := (hr (u1 - k - 1) (left - sp h) (by omega) (by omega) (by omega) (by omega)).2
          refine g_getr 32 353 rfl hS.k336 hm.f_336_32 (by decide) ?_
          refine g_C ?_
          refine g_S (by omega) (by omega) ?_
          refine g_S (by omega) (by omega) ?_
          refine g_C ?_
          refine ⟨hS.k336, ?_⟩
          refine zr_speed hS hm hs H5 j0 hlt ?_
          refine g_S (by omega) (by omega) ?_
          refine zl_spot (by omega) (by omega) (by omega) (by omega) ?_
          refine g_ldu hS.k353 hS.l353 (by omega) (by omega) (fun x ex => ?_)
          rw [show u1 - 1 - k = u1 - k - 1 by omega] at ex
          refine g_if (fun w3 => ?_) (fun w3 => ?_)
          · have yc : 0 < rcnt sp H (u1 - k - 1).toNat (left - sp h) := by
              by_cases y : 0 < rcnt sp H (u1 - k - 1).toNat (left - sp h)
              · exact y
              · exact absurd (ex.trans (tb.mpr y)) w3
            have lh : Lh sp H (u1 - k - 1).toNat left h := ⟨⟨j0, hlt, by omega, yc⟩, hno⟩
            refine g_C ?_
            refine ⟨hS.k336, ?_⟩
            refine zr_speed hS hm hs H5 j0 hlt ?_
            refine g_S (by omega) (by omega) ?_
            refine g_A (by omega) (by omega) ?_
            refine ih (left - sp h) h (k + 1) (by omega) (by omega) (by omega) (by omega) (fun _ => by rw [show u1 - (k + 1) = u1 - k - 1 by omega]; exact yc) (fun kk r fr => hF (by omega) r ?_) (fun kk => hF (by omega) h ?_) (by omega)
            · rw [show (u3 - k).toNat = (u3 - (k + 1)).toNat + 1 by omega]
              exact ⟨h, lh, by rw [show u1 - k - 1 = u1 - (k + 1) by omega]; exact fr⟩
            · rw [show (u3 - k).toNat = 0 by omega]
              exact lh
          · exact nx (fun z => tb.mp (by omega) z.2)
      exact ⟨(g + 1).toNat, inn (g + 1).toNat 0 (by decide) g0 (fun i i0 i1 => absurd i1 (by omega)) (by omega)⟩
  exact ⟨(u3 + 2).toNat, L (u3 + 2).toNat u2 0 0 (by decide) (by omega) h2 h2' (fun _ => by rw [Int.sub_zero]; exact hx) (fun _ r fr => by rw [Int.sub_zero, Int.sub_zero] at fr; exact fr) (fun z => by exfalso; omega) (by omega)⟩
theorem zr_rows12 {X : Mm} {S : Sh} {m0 : Mm} {K : Int → Mm → Prop} {sp : Int → Int} {H : Nat} {u1 u2 u3 : Int} (hS : Shp S) (hm0 : Inv X S m0) (hH : m0 346 4 = (H : Int)) (hs : ∀ i : Int, 0 ≤ i → i < H → m0 346 (13 + 5 * i) = sp i) (sb : ∀ i : Int, 0 ≤ i → i < H → 0 ≤ sp i ∧ sp i ≤ 20) (hk : ∀ (r : Int) (M1 : Mm), Inv X S M1 → (∀ c p : Int, ¬ c = 352 → ¬ c = 353 → M1 c p = m0 c p) → RA sp H (m0 346 0) u1 u2 u3 r → K r M1) : wp_X12_rows S m0 336 u1 u2 u3 K := by
  have b0 := hm0.f_346_0
  have b4 := hm0.f_346_4
  have H5 : H ≤ 5 := by omega
  have no : (m0 346 0 = 0 ∨ ¬ rOK u1 u2 u3) → K (-3) m0 := fun z => hk _ m0 hm0 (fun _ _ _ _ => rfl) (g_ifT z rfl)
  have go : ¬ m0 346 0 = 0 → rOK u1 u2 u3 → wp_X12_rows_62 S K 336 u1 u2 u3 m0 := by
    intro p0 ok
    obtain ⟨a1, a2, a3, a4, a5⟩ := id ok
    have nb : ¬ (m0 346 0 = 0 ∨ ¬ rOK u1 u2 u3) := fun z => by rcases z with z | z; exact p0 z; exact z ok
    refine u_X12_rows_62 ?_
    refine ⟨hS.k336, ?_⟩
    refine zr_fillsRows (sp := sp) (H := H) hS hm0 a1 a2 hH hs sb (fun m hm F hr => ?_)
    have hs' : ∀ i : Int, 0 ≤ i → i < H → m 346 (13 + 5 * i) = sp i := fun i i0 i1 => (F 346 _ (by omega) (by omega)).trans (hs i i0 i1)
    have tb := hr u1 u2 (by omega) (by omega) a3 a4
    refine g_C ?_
    refine g_if (fun w => ?_) (fun w => ?_)
    · refine g_getr 32 353 rfl hS.k336 hm.f_336_32 (by decide) ?_
      refine zl_spot (by omega) (by omega) (by omega) (by omega) ?_
      refine g_ldu hS.k353 hS.l353 (by omega) (by omega) (fun x ex => ?_)
      refine g_if (fun w2 => g_C (hk _ m hm F (g_ifF nb (g_ifF w (g_ifT (Or.inl (tb.2.mp (by omega))) rfl))))) (fun w2 => ?_)
      have yc : 0 < rcnt sp H u1.toNat u2 := by
        by_cases y : 0 < rcnt sp H u1.toNat u2
        · exact y
        · exact absurd (ex.trans (tb.2.mpr y)) w2
      have at20 : iRem u3 20 = (if u3 < 20 then u3 else u3 - 20) := by
        rcases a5 with a | a
        · have q := (rem20' u3.toNat (by omega)).1
          rw [Int.toNat_of_nonneg (by omega)] at q
          rw [q, if_pos (by omega)]
        · have q := (rem20' (u3 - 20).toNat (by omega)).2
          rw [Int.toNat_of_nonneg (by omega), show u3 - 20 + 20 = u3 by omega] at q
          rw [q, if_neg (by omega)]
      refine g_C ?_
      refine ⟨by decide, ?_⟩
      rw [at20]
      refine g_if (fun w3 => ?_) (fun w3 => g_C (hk _ m hm F (g_ifF nb (g_ifF w (g_ifT (Or.inr (by omega)) rfl)))))
      have ng : ¬ (¬ 0 < rcnt sp H u1.toNat u2 ∨ u1 ≤ (if u3 < 20 then u3 else u3 - 20)) := fun z => by rcases z with z | z; exact z yc; omega
      refine g_C ?_
      refine g_if (fun w4 => ?_) (fun w4 => ?_)
      · refine g_C ?_
        refine g_C ?_
        have L : ∀ (n : Nat) (h : Nat), h ≤ H → 6 - (h : Int) ≤ (n : Int) → wp_X12_rows_127 S K n 336 u1 u2 (hb (fun h => rB sp u1 u2 h H) h) (h : Int) m := by
          intro n
          induction n with
          | zero => intro h _ hh; exfalso; omega
          | succ n ih =>
            intro h hle hh
            have bb := hb_b (P := fun h => rB sp u1 u2 h H) h (by omega)
            refine u_X12_rows_127 ?_
            refine g_getr 20 346 rfl hS.k336 hm.f_336_20 (by decide) ?_
            refine g_C ?_
            refine g_ldu hS.k346 hS.l346 (by omega) (by omega) (fun Hv eH => ?_)
            rw [F 346 4 (by omega) (by omega), hH] at eH
            refine g_if (fun w5 => ?_) (fun w5 => ?_)
            · rw [show h = H by omega]
              exact hk _ m hm F (g_ifF nb (g_ifF w (g_ifF ng (g_ifF (by omega) rfl))))
            have hlt : (h : Int) < H := by omega
            have sh := sb (h : Int) (by omega) hlt
            have ob := or_b (hb (fun h => rB sp u1 u2 h H) h).toNat (by omega) h (by omega)
            rw [Int.toNat_of_nonneg bb.1] at ob
            have nono : ¬ rB sp u1 u2 (h : Int) H → wp_X12_rows_181 S (fun a0 a1 a2 a3 a4 M => wp_X12_rows_127 S K n a0 a1 a2 a3 a4 M) K 336 u1 u2 (h : Int) (hb (fun h => rB sp u1 u2 h H) h) m := by
              intro nr
              refine u_X12_rows_181 ?_
              refine g_C ?_
              refine u_X12_rows_182 ?_
              refine g_Oe (fun z ez => ?_)
              refine g_A (by omega) (by omega) ?_
              rw [ez, ob.2.1, show (h : Int) + 1 = ((h + 1 : Nat) : Int) by omega]
              have e : hb (fun h => rB sp u1 u2 h H) (h + 1) = hb (fun h => rB sp u1 u2 h H) h := if_neg nr
              rw [← e]
              exact ih (h + 1) (by omega) (by omega)
            refine g_C ?_
            refine ⟨hS.k336, ?_⟩
            refine zr_speed hS hm hs' H5 (by omega) hlt ?_
            refine g_if (fun w6 => nono (fun z => by have := z.1; omega)) (fun w6 => ?_)
            have tb2 := (hr (u1 - 1) (u2 - sp (h : Int)) (by omega) (by omega) (by omega) (by omega)).2
            refine g_getr 32 353 rfl hS.k336 hm.f_336_32 (by decide) ?_
            refine g_C ?_
            refine g_S (by omega) (by omega) ?_
            refine g_C ?_
            refine ⟨hS.k336, ?_⟩
            refine zr_speed hS hm hs' H5 (by omega) hlt ?_
            refine g_S (by omega) (by omega) ?_
            refine zl_spot (by omega) (by omega) (by omega) (by omega) ?_
            refine g_ldu hS.k353 hS.l353 (by omega) (by omega) (fun y ey => ?_)
            refine g_if (fun w7 => nono (fun z => tb2.mp (by omega) z.2)) (fun w7 => ?_)
            have yr : rB sp u1 u2 (h : Int) H := ⟨by omega, by
              by_cases z : 0 < rcnt sp H (u1 - 1).toNat (u2 - sp (h : Int))
              · exact z
              · exact absurd (ey.trans (tb2.mpr z)) w7⟩
            refine g_C ?_
            refine g_Oe (fun z ez => ?_)
            refine u_X12_rows_182 ?_
            refine g_Oe (fun z2 ez2 => ?_)
            refine g_A (by omega) (by omega) ?_
            rw [ez2, ez, show (h : Int) + 1 = ((h + 1 : Nat) : Int) by omega]
            have e : hb (fun h => rB sp u1 u2 h H) (h + 1) = iOr (hb (fun h => rB sp u1 u2 h H) h) (iShl 1 (h : Int)) := if_pos yr
            rw [← e]
            exact ih (h + 1) (by omega) (by omega)
        exact ⟨6, L 6 0 (by omega) (by decide)⟩
      · refine ⟨hS.k336, ?_⟩
        rw [if_pos (by omega)] at w3 ng
        exact zr_firstHand hS hm a1 a2 a3 a4 (by omega) w3 H5 hs' sb hr yc (fun r fr => hk r m hm F (g_ifF nb (g_ifF w (g_ifF (by rw [if_pos (by omega)]; exact ng) (g_ifT (by omega) fr)))))
    · refine g_getr 31 352 rfl hS.k336 hm.f_336_31 (by decide) ?_
      refine zl_spot (by omega) (by omega) (by omega) (by omega) ?_
      refine g_ldu hS.k352 hS.l352 (by omega) (by omega) (fun x ex => ?_)
      exact hk _ m hm F (g_ifF nb (g_ifT (by omega) (ex.trans tb.1)))
  refine u_X12_rows ?_
  refine ⟨hS.k336, ?_⟩
  refine u_X12_isDairy ?_
  refine g_getr 20 346 rfl hS.k336 hm0.f_336_20 (by decide) ?_
  refine g_C ?_
  refine g_ldu hS.k346 hS.l346 (by omega) (by omega) (fun v ev => ?_)
  refine g_if (fun w => g_C ⟨by decide, g_ifT rfl (g_C (no (Or.inl (by omega))))⟩) (fun w => g_C ⟨by decide, g_ifF (by decide) ?_⟩)
  have p0 : ¬ m0 346 0 = 0 := by omega
  refine g_C ?_
  refine g_C ?_
  refine g_C ?_
  refine z_in (fun a1 a2 => g_ifF (by decide) ?_) (fun z => g_ifT rfl (g_C (no (Or.inr (fun o => z ⟨o.1, o.2.1⟩)))))
  refine g_C ?_
  refine g_C ?_
  refine g_C ?_
  refine z_in (fun a3 a4 => g_ifF (by decide) ?_) (fun z => g_ifT rfl (g_C (no (Or.inr (fun o => z ⟨o.2.2.1, o.2.2.2.1⟩)))))
  refine g_C ?_
  refine g_C ?_
  refine g_C ?_
  refine z_in (fun a5 a6 => g_ifT (by decide) (go p0 ⟨a1, a2, a3, a4, Or.inl ⟨a5, a6⟩⟩)) (fun z => g_ifF (by decide) ?_)
  refine g_C ?_
  refine g_C ?_
  refine g_C ?_
  exact z_in (fun a7 a8 => g_ifT (by decide) (go p0 ⟨a1, a2, a3, a4, Or.inr ⟨a7, a8⟩⟩)) (fun z2 => g_ifF (by decide) (g_C (no (Or.inr (fun o => by rcases o.2.2.2.2 with y | y; exact z y; exact z2 y)))))
end
