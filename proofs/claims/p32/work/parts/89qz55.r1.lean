section
/-! ROWS: how many rows of k HANDS (of H, by speeds sp) come to t -/
theorem lRem_small {a b : Int} (h0 : 0 ≤ a) (h1 : a < b) (h2 : b ≤ 9223372036854775807) : lRem a b = a := by
  unfold lRem o64
  rw [Jvm.Kit.i64_rem, i64o (by omega) (by omega), i64o (by omega) h2, Int.tmod_eq_of_lt h0 h1]
def cs (f : Int → Int) : Nat → Int
  | 0 => 0
  | h + 1 => cs f h + f (h : Int)
def rcnt (sp : Int → Int) (H : Nat) : Nat → Int → Int
  | 0, t => if t = 0 then 1 else 0
  | k + 1, t => cs (fun h => if sp h ≤ t then rcnt sp H k (t - sp h) else 0) H
def p5 : Nat → Int
  | 0 => 1
  | k + 1 => 5 * p5 k
theorem cs_b {f : Int → Int} {B : Int} (hB : 0 ≤ B) : ∀ n : Nat, n ≤ 5 → (∀ i : Int, 0 ≤ i → i < n → 0 ≤ f i ∧ f i ≤ B) → 0 ≤ cs f n ∧ cs f n ≤ (n : Int) * B := by
  intro n
  induction n with
  | zero => intro _ _; exact ⟨Int.le_refl 0, by simp [cs]⟩
  | succ n ih =>
    intro h5 h
    obtain ⟨a, b⟩ := ih (by omega) (fun i i0 i1 => h i i0 (by omega))
    obtain ⟨c, d⟩ := h (n : Int) (by omega) (by omega)
    have e : ((n + 1 : Nat) : Int) * B = (n : Int) * B + B := by
      rw [show ((n + 1 : Nat) : Int) = (n : Int) + 1 by omega, Int.add_mul, Int.one_mul]
    refine ⟨by show 0 ≤ cs f n + f (n : Int); omega, ?_⟩
    rw [e]
    show cs f n + f (n : Int) ≤ _
    omega
theorem cs_b5 {f : Int → Int} {B : Int} (hB : 0 ≤ B) (n : Nat) (h5 : n ≤ 5) (h : ∀ i : Int, 0 ≤ i → i < n → 0 ≤ f i ∧ f i ≤ B) : 0 ≤ cs f n ∧ cs f n ≤ 5 * B := by
  obtain ⟨a, b⟩ := cs_b hB n h5 h
  refine ⟨a, Int.le_trans b ?_⟩
  exact Int.mul_le_mul_of_nonneg_right (by omega) hB
theorem cs_pos {f : Int → Int} : ∀ n : Nat, (∀ i : Int, 0 ≤ i → i < n → 0 ≤ f i) → 0 ≤ cs f n ∧ (0 < cs f n ↔ ∃ i : Int, 0 ≤ i ∧ i < n ∧ 0 < f i) := by
  intro n
  induction n with
  | zero => intro _; exact ⟨Int.le_refl 0, fun z => absurd z (by simp [cs]), fun z => by obtain ⟨i, i0, i1, -⟩ := z; exfalso; omega⟩
  | succ n ih =>
    intro h
    obtain ⟨a, b⟩ := ih (fun i i0 i1 => h i i0 (by omega))
    have c := h (n : Int) (by omega) (by omega)
    have e : cs f (n + 1) = cs f n + f (n : Int) := rfl
    refine ⟨by rw [e]; omega, fun z => ?_, fun z => ?_⟩
    · by_cases y : 0 < cs f n
      · obtain ⟨i, i0, i1, i2⟩ := b.mp y
        exact ⟨i, i0, by omega, i2⟩
      · exact ⟨(n : Int), by omega, by omega, by rw [e] at z; omega⟩
    · obtain ⟨i, i0, i1, i2⟩ := z
      rw [e]
      by_cases y : i = (n : Int)
      · rw [y] at i2; omega
      · have := b.mpr ⟨i, i0, by omega, i2⟩
        omega
theorem p5_c : ∀ k : Nat, k ≤ 11 → 1 ≤ p5 k ∧ p5 k ≤ 48828125 := by decide
theorem p5_nn : ∀ k : Nat, 0 ≤ p5 k := by
  intro k
  induction k with
  | zero => decide
  | succ k ih => show 0 ≤ 5 * p5 k; omega
theorem rcnt_b {sp : Int → Int} {H : Nat} (h5 : H ≤ 5) : ∀ (k : Nat) (t : Int), 0 ≤ rcnt sp H k t ∧ rcnt sp H k t ≤ p5 k := by
  intro k
  induction k with
  | zero =>
    intro t
    show 0 ≤ (if t = 0 then (1 : Int) else 0) ∧ (if t = 0 then (1 : Int) else 0) ≤ 1
    split <;> decide
  | succ k ih =>
    intro t
    refine cs_b5 (p5_nn k) H h5 (fun i _ _ => ?_)
    show 0 ≤ (if sp i ≤ t then rcnt sp H k (t - sp i) else 0) ∧ (if sp i ≤ t then rcnt sp H k (t - sp i) else 0) ≤ p5 k
    split
    · exact ih _
    · exact ⟨Int.le_refl 0, p5_nn k⟩
theorem rcnt_nn {sp : Int → Int} {H : Nat} : ∀ (k : Nat) (t : Int), 0 ≤ rcnt sp H k t := by
  intro k
  induction k with
  | zero =>
    intro t
    show 0 ≤ (if t = 0 then (1 : Int) else 0)
    split <;> decide
  | succ k ih =>
    intro t
    refine (cs_pos H (fun i _ _ => ?_)).1
    show 0 ≤ (if sp i ≤ t then rcnt sp H k (t - sp i) else 0)
    split
    · exact ih _
    · exact Int.le_refl 0
theorem rcnt_pos {sp : Int → Int} {H : Nat} {k : Nat} {t : Int} : 0 < rcnt sp H (k + 1) t ↔ ∃ h : Int, 0 ≤ h ∧ h < H ∧ sp h ≤ t ∧ 0 < rcnt sp H k (t - sp h) := by
  have q := (cs_pos (f := fun h => if sp h ≤ t then rcnt sp H k (t - sp h) else 0) H (fun i _ _ => by
    show 0 ≤ (if sp i ≤ t then rcnt sp H k (t - sp i) else 0)
    split
    · exact rcnt_nn _ _
    · exact Int.le_refl 0)).2
  refine ⟨fun z => ?_, fun z => ?_⟩
  · obtain ⟨h, h0, h1, h2⟩ := q.mp z
    have h3 : 0 < (if sp h ≤ t then rcnt sp H k (t - sp h) else 0) := h2
    by_cases e : sp h ≤ t
    · rw [if_pos e] at h3; exact ⟨h, h0, h1, e, h3⟩
    · rw [if_neg e] at h3; exact absurd h3 (by decide)
  · obtain ⟨h, h0, h1, e, h3⟩ := z
    refine q.mpr ⟨h, h0, h1, ?_⟩
    show 0 < (if sp h ≤ t then rcnt sp H k (t - sp h) else 0)
    rw [if_pos e]
    exact h3
theorem rcnt_split {sp : Int → Int} {H : Nat} (hs : ∀ i : Int, 0 ≤ i → i < H → 0 ≤ sp i) : ∀ (a b : Nat) (s : Int), 0 ≤ s → (0 < rcnt sp H (a + b) s ↔ ∃ u : Int, 0 ≤ u ∧ u ≤ s ∧ 0 < rcnt sp H a u ∧ 0 < rcnt sp H b (s - u)) := by
  intro a
  induction a with
  | zero =>
    intro b s s0
    rw [Nat.zero_add]
    refine ⟨fun z => ⟨0, by omega, s0, by show (0 : Int) < (if (0 : Int) = 0 then 1 else 0); decide, by rw [Int.sub_zero]; exact z⟩, fun z => ?_⟩
    obtain ⟨u, u0, u1, u2, u3⟩ := z
    have u4 : 0 < (if u = 0 then (1 : Int) else 0) := u2
    by_cases e : u = 0
    · rw [e, Int.sub_zero] at u3; exact u3
    · rw [if_neg e] at u4; exact absurd u4 (by decide)
  | succ a ih =>
    intro b s s0
    rw [show a + 1 + b = (a + b) + 1 by omega]
    refine ⟨fun z => ?_, fun z => ?_⟩
    · obtain ⟨h, h0, h1, h2, h3⟩ := rcnt_pos.mp z
      have sh := hs h h0 h1
      obtain ⟨u, u0, u1, u2, u3⟩ := (ih b (s - sp h) (by omega)).mp h3
      refine ⟨u + sp h, by omega, by omega, rcnt_pos.mpr ⟨h, h0, h1, by omega, ?_⟩, ?_⟩
      · rw [show u + sp h - sp h = u by omega]; exact u2
      · rw [show s - (u + sp h) = s - sp h - u by omega]; exact u3
    · obtain ⟨u, u0, u1, u2, u3⟩ := z
      obtain ⟨h, h0, h1, h2, h3⟩ := rcnt_pos.mp u2
      have sh := hs h h0 h1
      refine rcnt_pos.mpr ⟨h, h0, h1, by omega, (ih b (s - sp h) (by omega)).mpr ⟨u - sp h, by omega, by omega, h3, ?_⟩⟩
      rw [show s - sp h - (u - sp h) = s - u by omega]
      exact u3
/-- the class's table of rows -/
theorem zr_rowsOf {X : Mm} {S : Sh} {m : Mm} {K : Int → Mm → Prop} {sp : Int → Int} {H : Nat} {n T k t : Int} (hS : Shp S) (hm : Inv X S m) (ht : ∀ k t : Int, 0 ≤ k → k ≤ n → 0 ≤ t → t ≤ T → m 65 (301 * k + t) = rcnt sp H k.toNat t) (n12 : n ≤ 12) (T3 : T ≤ 300) (k0 : 0 ≤ k) (k1 : k ≤ n) (t0 : -400 ≤ t) (t1 : t ≤ T) (h1 : 0 ≤ t → K (rcnt sp H k.toNat t) m) (h0 : t < 0 → K 0 m) : wp_X6_rowsOf S m 63 k t K := by
  refine u_X6_rowsOf ?_
  refine g_if (fun w => ?_) (fun w => g_C (h0 (by omega)))
  refine g_getr 2 65 rfl hS.k63 hm.f_63_2 (by decide) ?_
  refine g_C ?_
  refine g_M (by omega) (by omega) ?_
  refine g_A (by omega) (by omega) ?_
  refine g_ldu hS.k65 hS.l65 (by omega) (by omega) (fun v ev => ?_)
  rw [ev, show k * 301 + t = 301 * k + t by omega, ht k t k0 k1 w t1]
  exact h1 w
theorem zr_countRows {X : Mm} {S : Sh} {m0 : Mm} {K : Mm → Prop} {sp : Int → Int} {H : Nat} {u1 u2 : Int} (hS : Shp S) (hm0 : Inv X S m0) (l1 : 1 ≤ u1) (h1 : u1 ≤ 12) (l2 : 0 ≤ u2) (h2 : u2 ≤ 300) (hH : m0 4 4 = (H : Int)) (hs : ∀ i : Int, 0 ≤ i → i < H → m0 7 i = sp i) (hk : ∀ M1 : Mm, Inv X S M1 → (∀ c p : Int, ¬ c = 65 → M1 c p = m0 c p) → (∀ k t : Int, 0 ≤ k → k ≤ u1 → 0 ≤ t → t ≤ u2 → M1 65 (301 * k + t) = rcnt sp H k.toNat t) → K M1) : wp_X6_countRows S m0 63 u1 u2 K := by
  have b4 := hm0.f_4_4
  have H5 : H ≤ 5 := by omega
  have sb : ∀ i : Int, 0 ≤ i → i < H → 0 ≤ sp i ∧ sp i ≤ 20 := fun i i0 i1 => by rw [← hs i i0 i1]; exact hm0.a_7 i0 (by omega)
  refine u_X6_countRows ?_
  refine g_getr 2 65 rfl hS.k63 hm0.f_63_2 (by decide) ?_
  refine g_C ?_
  refine g_C ?_
  refine g_C ?_
  have fill : ∀ (k : Nat) (i : Int) (m : Mm), Inv X S m → 0 ≤ i → i ≤ 301 → (∀ c p : Int, ¬ c = 65 → m c p = m0 c p) → (∀ p : Int, 0 ≤ p → p < i → m 65 p = 0) → 302 - i ≤ (k : Int) → wp_J7_fill_fda19_10 S (fun M59 => wGetR S M59 63 6 2 fun v60 => wC 0 fun v62 => wC 1 fun v64 => wSt S M59 v60 14 v62 v64 fun M66 => wC 1 fun v67 => ∃ n9 : Nat, wp_X6_countRows_21 S K n9 63 u1 u2 v67 M66) k 65 301 0 i m := by
    intro k
    induction k with
    | zero => intro i m _ _ _ _ _ h; exfalso; omega
    | succ k ih =>
      intro i m hm i0 i1 F z h
      refine u_J7_fill_fda19_10 ?_
      refine g_if (fun w => ?_) (fun w => ?_)
      · refine g_getr 2 65 rfl hS.k63 hm.f_63_2 (by decide) ?_
        refine g_C ?_
        refine g_C ?_
        refine g_st hS.k65 hS.l65 (by omega) (by omega) (hm.wa_65 (by omega) (by omega) (by omega) (by omega)) (fun m2 em2 hm2 => ?_)
        have f2 : ∀ c p : Int, ¬ (c = 65 ∧ p = 0) → m2 c p = m c p := fun c p q => (congrFun (congrFun em2 _) _).trans (up_ne q)
        have x2 : m2 65 0 = 1 := (congrFun (congrFun em2 _) _).trans (up_at _ _ _ _)
        have row0 : ∀ t : Int, 0 ≤ t → t ≤ 300 → m2 65 t = rcnt sp H 0 t := by
          intro t t0 t1
          show _ = (if t = 0 then (1 : Int) else 0)
          by_cases e : t = 0
          · rw [if_pos e, e, x2]
          · rw [if_neg e, f2 65 t (by omega), z t t0 (by omega)]
        refine g_C ?_
        have L1 : ∀ (N1 : Nat) (k1 : Int) (m3 : Mm), Inv X S m3 → 1 ≤ k1 → k1 ≤ 13 → (∀ c p : Int, ¬ c = 65 → m3 c p = m0 c p) → (∀ j t : Int, 0 ≤ j → j < k1 → 0 ≤ t → t ≤ u2 → m3 65 (301 * j + t) = rcnt sp H j.toNat t) → 14 - k1 ≤ (N1 : Int) → wp_X6_countRows_21 S K N1 63 u1 u2 k1 m3 := by
          intro N1
          induction N1 with
          | zero => intro k1 m3 _ _ _ _ _ h; exfalso; omega
          | succ N1 ih1 =>
            intro k1 m3 hm3 a1 a2 F3 T3 hN1
            refine u_X6_countRows_21 ?_
            refine g_if (fun w1 => hk m3 hm3 F3 (fun j t j0 j1 t0 t1 => T3 j t j0 (by omega) t0 t1)) (fun w1 => ?_)
            refine g_C ?_
            have L2 : ∀ (N2 : Nat) (t1 : Int) (m4 : Mm), Inv X S m4 → 0 ≤ t1 → t1 ≤ 301 → (∀ c p : Int, ¬ c = 65 → m4 c p = m0 c p) → (∀ j t : Int, 0 ≤ j → j < k1 → 0 ≤ t → t ≤ u2 → m4 65 (301 * j + t) = rcnt sp H j.toNat t) → (∀ t : Int, 0 ≤ t → t < t1 → m4 65 (301 * k1 + t) = rcnt sp H k1.toNat t) → 302 - t1 ≤ (N2 : Int) → wp_X6_countRows_29 S (fun a0 a1 a2 a3 M => wp_X6_countRows_21 S K N1 a0 a1 a2 a3 M) K N2 63 u1 u2 k1 t1 m4 := by
              intro N2
              induction N2 with
              | zero => intro t1 m4 _ _ _ _ _ _ h; exfalso; omega
              | succ N2 ih2 =>
                intro t1 m4 hm4 c1 c2 F4 T4 R4 hN2
                refine u_X6_countRows_29 ?_
                refine g_if (fun w2 => ?_) (fun w2 => ?_)
                · refine g_A (by omega) (by omega) ?_
                  refine ih1 (k1 + 1) m4 hm4 (by omega) (by omega) F4 (fun j t j0 j1 t0 t1' => ?_) (by omega)
                  by_cases e : j = k1
                  · rw [e]; exact R4 t t0 (by omega)
                  · exact T4 j t j0 (by omega) t0 t1'
                · refine g_C ?_
                  refine g_C ?_
                  obtain ⟨g, eg⟩ : ∃ g : Int → Int, g = fun h => if sp h ≤ t1 then rcnt sp H (k1 - 1).toNat (t1 - sp h) else 0 := ⟨_, rfl⟩
                  have gb : ∀ i : Int, 0 ≤ i → i < H → 0 ≤ g i ∧ g i ≤ 48828125 := by
                    intro i _ _
                    have q := p5_c (k1 - 1).toNat (by omega)
                    have q2 := rcnt_b (sp := sp) H5 (k1 - 1).toNat (t1 - sp i)
                    rw [eg]
                    show 0 ≤ (if sp i ≤ t1 then rcnt sp H (k1 - 1).toNat (t1 - sp i) else 0) ∧ (if sp i ≤ t1 then rcnt sp H (k1 - 1).toNat (t1 - sp i) else 0) ≤ 48828125
                    split <;> omega
                  have full : cs g H = rcnt sp H k1.toNat t1 := by
                    rw [show k1.toNat = (k1 - 1).toNat + 1 by omega, eg]
                    rfl
                  have L3 : ∀ (N3 : Nat) (h : Nat), h ≤ H → 6 - (h : Int) ≤ (N3 : Int) → wp_X6_countRows_41 S (fun a0 a1 a2 a3 M => wp_X6_countRows_21 S K N1 a0 a1 a2 a3 M) (fun a0 a1 a2 a3 a4 M => wp_X6_countRows_29 S (fun a0 a1 a2 a3 M => wp_X6_countRows_21 S K N1 a0 a1 a2 a3 M) K N2 a0 a1 a2 a3 a4 M) K N3 63 u1 u2 k1 t1 (cs g h) (h : Int) m4 := by
                    intro N3
                    induction N3 with
                    | zero => intro h _ z; exfalso; omega
                    | succ N3 ih3 =>
                      intro h hh hN3
                      have cb := cs_b5 (f := g) (B := 48828125) (by decide) h (by omega) (fun i i0 i1 => gb i i0 (by omega))
                      refine u_X6_countRows_41 ?_
                      refine g_getr 0 4 rfl hS.k63 hm4.f_63_0 (by decide) ?_
                      refine g_getu 4 rfl hS.k4 (fun v ev => ?_)
                      rw [F4 4 4 (by omega), hH] at ev
                      refine g_if (fun w3 => ?_) (fun w3 => ?_)
                      · have eh : h = H := by omega
                        refine g_getr 2 65 rfl hS.k63 hm4.f_63_2 (by decide) ?_
                        refine g_C ?_
                        refine g_M (by omega) (by omega) ?_
                        refine g_A (by omega) (by omega) ?_
                        refine g_C ?_
                        refine ⟨by decide, ?_⟩
                        rw [lRem_small cb.1 (by omega) (by decide)]
                        refine g_w32 (by omega) (by omega) ?_
                        refine g_st hS.k65 hS.l65 (by omega) (by omega) (hm4.wa_65 (by omega) (by omega) (by omega) (by omega)) (fun m5 em5 hm5 => ?_)
                        have f5 : ∀ c p : Int, ¬ (c = 65 ∧ p = k1 * 301 + t1) → m5 c p = m4 c p := fun c p q => (congrFun (congrFun em5 _) _).trans (up_ne q)
                        have x5 : m5 65 (k1 * 301 + t1) = cs g h := (congrFun (congrFun em5 _) _).trans (up_at _ _ _ _)
                        refine g_A (by omega) (by omega) ?_
                        refine ih2 (t1 + 1) m5 hm5 (by omega) (by omega) (fun c p q => (f5 c p (by omega)).trans (F4 c p q)) (fun j t j0 j1 t0 t1' => by rw [f5 65 _ (by omega)]; exact T4 j t j0 j1 t0 t1') (fun t t0 t1' => ?_) (by omega)
                        by_cases e : t = t1
                        · rw [e, show 301 * k1 + t1 = k1 * 301 + t1 by omega, x5, eh, full]
                        · rw [f5 65 _ (by omega)]
                          exact R4 t t0 (by omega)
                      · have hlt : (h : Int) < H := by omega
                        have sh := sb (h : Int) (by omega) hlt
                        have gh := gb (h : Int) (by omega) hlt
                        refine g_C ?_
                        refine g_S (by omega) (by omega) ?_
                        refine g_getr 0 4 rfl hS.k63 hm4.f_63_0 (by decide) ?_
                        refine g_getr 10 7 rfl hS.k4 hm4.f_4_10 (by decide) ?_
                        refine g_ldu hS.k7 hS.l7 (by omega) (by omega) (fun s es => ?_)
                        rw [F4 7 _ (by omega), hs _ (by omega) hlt] at es
                        subst es
                        refine g_S (by omega) (by omega) ?_
                        refine ⟨hS.k63, ?_⟩
                        refine zr_rowsOf (sp := sp) (H := H) (n := k1 - 1) (T := u2) hS hm4 (fun j t j0 j1 t0 t1' => T4 j t j0 (by omega) t0 t1') (by omega) h2 (by omega) (by omega) (by omega) (by omega) (fun t0 => ?_) (fun t0 => ?_)
                        · have e : g (h : Int) = rcnt sp H (k1 - 1).toNat (t1 - sp (h : Int)) := by
                            rw [eg]
                            show (if sp (h : Int) ≤ t1 then rcnt sp H (k1 - 1).toNat (t1 - sp (h : Int)) else 0) = _
                            rw [if_pos (by omega)]
                          refine g_C ?_
                          rw [← e]
                          refine g_LA (by omega) (by omega) ?_
                          refine g_A (by omega) (by omega) ?_
                          rw [show (h : Int) + 1 = ((h + 1 : Nat) : Int) by omega]
                          exact ih3 (h + 1) (by omega) (by omega)
                        · have e : g (h : Int) = 0 := by
                            rw [eg]
                            show (if sp (h : Int) ≤ t1 then rcnt sp H (k1 - 1).toNat (t1 - sp (h : Int)) else 0) = _
                            rw [if_neg (by omega)]
                          refine g_C ?_
                          rw [← e]
                          refine g_LA (by omega) (by omega) ?_
                          refine g_A (by omega) (by omega) ?_
                          rw [show (h : Int) + 1 = ((h + 1 : Nat) : Int) by omega]
                          exact ih3 (h + 1) (by omega) (by omega)
                  exact ⟨6, L3 6 0 (by omega) (by decide)⟩
            exact ⟨302, L2 302 0 m3 hm3 (by decide) (by decide) F3 T3 (fun t t0 t1 => absurd t1 (by omega)) (by decide)⟩
        exact ⟨13, L1 13 1 m2 hm2 (by decide) (by decide) (fun c p q => (f2 c p (by omega)).trans (F c p q)) (fun j t j0 j1 t0 t1 => by rw [show j = 0 by omega, show 301 * 0 + t = t by omega]; exact row0 t t0 (by omega)) (by decide)⟩
      · refine g_st hS.k65 hS.l65 (by omega) (by omega) (hm.wa_65 (by omega) (by omega) (by omega) (by omega)) (fun m2 em2 hm2 => ?_)
        have f2 : ∀ c p : Int, ¬ (c = 65 ∧ p = i) → m2 c p = m c p := fun c p q => (congrFun (congrFun em2 _) _).trans (up_ne q)
        have x2 : m2 65 i = 0 := (congrFun (congrFun em2 _) _).trans (up_at _ _ _ _)
        refine g_A (by omega) (by omega) ?_
        refine ih (i + 1) m2 hm2 (by omega) (by omega) (fun c p q => (f2 c p (by omega)).trans (F c p q)) (fun p p0 p1 => ?_) (by omega)
        by_cases e : p = i
        · rw [e, x2]
        · rw [f2 65 p (by omega)]; exact z p p0 (by omega)
  refine u_J7_fill_fda19 ?_
  refine g_len 3913 hS.k65 hS.l65 (by decide) ?_
  refine u_J7_rangeCheck_23922 ?_
  refine g_ifT (by decide) (g_ifT (by decide) (g_ifT (by decide) ?_))
  exact ⟨302, fill 302 0 m0 hm0 (by decide) (by decide) (fun _ _ _ => rfl) (fun p p0 p1 => absurd p1 (by omega)) (by decide)⟩
end
section
/-- the reference's tables of rows -/
def RTb (sp : Int → Int) (H : Nat) (M : Mm) (n : Int) : Prop := ∀ k t : Int, 0 ≤ k → k ≤ n → 0 ≤ t → t ≤ 300 → M 352 (301 * k + t) = rcnt sp H k.toNat t ∧ (M 353 (301 * k + t) = 0 ↔ ¬ 0 < rcnt sp H k.toNat t)
theorem zr_speed {X : Mm} {S : Sh} {m : Mm} {K : Int → Mm → Prop} {sp : Int → Int} {H : Nat} {h : Int} (hS : Shp S) (hm : Inv X S m) (hs : ∀ i : Int, 0 ≤ i → i < H → m 346 (13 + 5 * i) = sp i) (h5 : H ≤ 5) (h0 : 0 ≤ h) (h1 : h < H) (hk : K (sp h) m) : wp_X12_handOf S m 336 h 3 K := by
  refine zl_speed hS hm h0 (by omega) (fun _ _ => ?_)
  rw [hs h h0 h1]
  exact hk
theorem zr_fillsRows {X : Mm} {S : Sh} {m0 : Mm} {K : Mm → Prop} {sp : Int → Int} {H : Nat} {u1 : Int} (hS : Shp S) (hm0 : Inv X S m0) (h1 : 1 ≤ u1) (h2 : u1 ≤ 12) (hH : m0 346 4 = (H : Int)) (hs : ∀ i : Int, 0 ≤ i → i < H → m0 346 (13 + 5 * i) = sp i) (sb : ∀ i : Int, 0 ≤ i → i < H → 0 ≤ sp i ∧ sp i ≤ 20) (hk : ∀ M1 : Mm, Inv X S M1 → (∀ c p : Int, ¬ c = 352 → ¬ c = 353 → M1 c p = m0 c p) → RTb sp H M1 u1 → K M1) : wp_X12_fillsRows S m0 336 u1 K := by
  have b4 := hm0.f_346_4
  have H5 : H ≤ 5 := by omega
  refine u_X12_fillsRows ?_
  refine g_C ?_
  have main : ∀ (n : Nat) (k : Int) (m : Mm), Inv X S m → 1 ≤ k → k ≤ u1 + 1 → (∀ c p : Int, ¬ c = 352 → ¬ c = 353 → m c p = m0 c p) → RTb sp H m (k - 1) → 14 - k ≤ (n : Int) → wp_X12_fillsRows_47 S K n 336 u1 k m := by
    intro n
    induction n with
    | zero => intro k m _ _ _ _ _ h; exfalso; omega
    | succ n ih =>
      intro k m hm k0 k1 F hr hn
      refine u_X12_fillsRows_47 ?_
      refine g_if (fun w => ?_) (fun w => ?_)
      · exact hk m hm F (by rw [show u1 = k - 1 by omega]; exact hr)
      · refine g_C ?_
        have row : ∀ (n2 : Nat) (t : Int) (m' : Mm), Inv X S m' → 0 ≤ t → t ≤ 301 → (∀ c p : Int, ¬ c = 352 → ¬ c = 353 → m' c p = m0 c p) → RTb sp H m' (k - 1) → (∀ s : Int, 0 ≤ s → s < t → m' 352 (301 * k + s) = rcnt sp H k.toNat s ∧ (m' 353 (301 * k + s) = 0 ↔ ¬ 0 < rcnt sp H k.toNat s)) → 302 - t ≤ (n2 : Int) → wp_X12_fillsRows_54 S (fun a0 a1 a2 M => wp_X12_fillsRows_47 S K n a0 a1 a2 M) K n2 336 u1 k t m' := by
          intro n2
          induction n2 with
          | zero => intro t m' _ _ _ _ _ _ h; exfalso; omega
          | succ n2 ih2 =>
            intro t m' hm' t0 t1 F' hr' hc hn2
            refine u_X12_fillsRows_54 ?_
            refine g_C ?_
            refine g_if (fun w2 => ?_) (fun w2 => ?_)
            · refine g_A (by omega) (by omega) ?_
              refine ih (k + 1) m' hm' (by omega) (by omega) F' (fun k' t' a1 a2 a3 a4 => ?_) (by omega)
              by_cases e : k' = k
              · rw [e]
                exact hc t' a3 (by omega)
              · exact hr' k' t' a1 (by omega) a3 a4
            · refine g_C ?_
              refine g_C ?_
              refine g_C ?_
              obtain ⟨g, eg⟩ : ∃ g : Int → Int, g = fun h => if sp h ≤ t then rcnt sp H (k - 1).toNat (t - sp h) else 0 := ⟨_, rfl⟩
              have gb : ∀ i : Int, 0 ≤ i → i < H → 0 ≤ g i ∧ g i ≤ 48828125 := by
                intro i _ _
                have q := p5_c (k - 1).toNat (by omega)
                have q2 := rcnt_b (sp := sp) H5 (k - 1).toNat (t - sp i)
                rw [eg]
                show 0 ≤ (if sp i ≤ t then rcnt sp H (k - 1).toNat (t - sp i) else 0) ∧ (if sp i ≤ t then rcnt sp H (k - 1).toNat (t - sp i) else 0) ≤ 48828125
                split <;> omega
              have full : cs g H = rcnt sp H k.toNat t := by
                rw [show k.toNat = (k - 1).toNat + 1 by omega, eg]
                rfl
              have inn : ∀ (n3 : Nat) (is : Int) (h : Nat), (is = 0 ∨ is = 1) → (is = 0 ↔ ¬ 0 < cs g h) → h ≤ H → 6 - (h : Int) ≤ (n3 : Int) → wp_X12_fillsRows_70 S (fun a0 a1 a2 M => wp_X12_fillsRows_47 S K n a0 a1 a2 M) (fun a0 a1 a2 a3 M => wp_X12_fillsRows_54 S (fun a0 a1 a2 M => wp_X12_fillsRows_47 S K n a0 a1 a2 M) K n2 a0 a1 a2 a3 M) K n3 336 u1 k t (cs g h) is (h : Int) m' := by
                intro n3
                induction n3 with
                | zero => intro is h _ _ _ hh; exfalso; omega
                | succ n3 ih3 =>
                  intro is h iz hv hle hn3
                  have cb := cs_b5 (f := g) (B := 48828125) (by decide) h (by omega) (fun i i0 i1 => gb i i0 (by omega))
                  refine u_X12_fillsRows_70 ?_
                  refine g_getr 20 346 rfl hS.k336 hm'.f_336_20 (by decide) ?_
                  refine g_C ?_
                  refine g_ldu hS.k346 hS.l346 (by omega) (by omega) (fun Hv eH => ?_)
                  rw [F' 346 4 (by omega) (by omega), hH] at eH
                  refine g_if (fun w3 => ?_) (fun w3 => ?_)
                  · have eh : h = H := by omega
                    rw [eh, full] at hv
                    refine g_getr 31 352 rfl hS.k336 hm'.f_336_31 (by decide) ?_
                    refine zl_spot (by omega) (by omega) (by omega) (by omega) ?_
                    refine g_C ?_
                    refine ⟨by decide, ?_⟩
                    rw [lRem_small cb.1 (by omega) (by decide)]
                    refine g_w32 (by omega) (by omega) ?_
                    refine g_st hS.k352 hS.l352 (by omega) (by omega) (hm'.wa_352 (by omega) (by omega) (by omega) (by omega)) (fun m2 e2 hm2 => ?_)
                    have f2 : ∀ c p : Int, ¬ (c = 352 ∧ p = 301 * k + t) → m2 c p = m' c p := fun c p q => (congrFun (congrFun e2 _) _).trans (up_ne q)
                    have x2 : m2 352 (301 * k + t) = cs g h := (congrFun (congrFun e2 _) _).trans (up_at _ _ _ _)
                    refine g_getr 32 353 rfl hS.k336 hm2.f_336_32 (by decide) ?_
                    refine zl_spot (by omega) (by omega) (by omega) (by omega) ?_
                    refine g_stz hS.k353 hS.l353 (by omega) (by omega) (by omega) (hm2.wa_353 (by omega) (by omega) (by omega) (by omega)) (fun m3 e3 hm3 => ?_)
                    have f3 : ∀ c p : Int, ¬ (c = 353 ∧ p = 301 * k + t) → m3 c p = m2 c p := fun c p q => (congrFun (congrFun e3 _) _).trans (up_ne q)
                    have x3 : m3 353 (301 * k + t) = is := (congrFun (congrFun e3 _) _).trans (up_at _ _ _ _)
                    have G : ∀ c p : Int, ¬ (c = 352 ∧ p = 301 * k + t) → ¬ (c = 353 ∧ p = 301 * k + t) → m3 c p = m' c p := fun c p q1 q2 => (f3 c p q2).trans (f2 c p q1)
                    refine g_A (by omega) (by omega) ?_
                    refine ih2 (t + 1) m3 hm3 (by omega) (by omega) (fun c p q1 q2 => (G c p (by omega) (by omega)).trans (F' c p q1 q2)) (fun k' t' a1 a2 a3 a4 => ?_) (fun s s0 s1 => ?_) (by omega)
                    · rw [G 352 _ (by omega) (by omega), G 353 _ (by omega) (by omega)]
                      exact hr' k' t' a1 a2 a3 a4
                    · by_cases e : s = t
                      · rw [e, x3, f3 352 _ (by omega), x2, eh, full]
                        exact ⟨rfl, hv⟩
                      · rw [G 352 _ (by omega) (by omega), G 353 _ (by omega) (by omega)]
                        exact hc s s0 (by omega)
                  · have hlt : (h : Int) < H := by omega
                    have sh := sb (h : Int) (by omega) hlt
                    have gh := gb (h : Int) (by omega) hlt
                    have nx : ∀ is' : Int, (is' = 0 ∨ is' = 1) → (is' = 0 ↔ ¬ 0 < cs g h + g (h : Int)) → wp_X12_fillsRows_147 S (fun a0 a1 a2 M => wp_X12_fillsRows_47 S K n a0 a1 a2 M) (fun a0 a1 a2 a3 M => wp_X12_fillsRows_54 S (fun a0 a1 a2 M => wp_X12_fillsRows_47 S K n a0 a1 a2 M) K n2 a0 a1 a2 a3 M) (fun a0 a1 a2 a3 a4 a5 a6 M => wp_X12_fillsRows_70 S (fun a0 a1 a2 M => wp_X12_fillsRows_47 S K n a0 a1 a2 M) (fun a0 a1 a2 a3 M => wp_X12_fillsRows_54 S (fun a0 a1 a2 M => wp_X12_fillsRows_47 S K n a0 a1 a2 M) K n2 a0 a1 a2 a3 M) K n3 a0 a1 a2 a3 a4 a5 a6 M) K 336 u1 k t (cs g h + g (h : Int)) is' (h : Int) m' := by
                      intro is' jz jv
                      refine u_X12_fillsRows_147 ?_
                      refine g_A (by omega) (by omega) ?_
                      rw [show (h : Int) + 1 = ((h + 1 : Nat) : Int) by omega]
                      exact ih3 is' (h + 1) jz jv (by omega) (by omega)
                    refine g_C ?_
                    refine ⟨hS.k336, ?_⟩
                    refine zr_speed hS hm' (fun i i0 i1 => (F' 346 _ (by omega) (by omega)).trans (hs i i0 i1)) H5 (by omega) hlt ?_
                    refine g_S (by omega) (by omega) ?_
                    refine g_if (fun w4 => ?_) (fun w4 => ?_)
                    · have e : g (h : Int) = rcnt sp H (k - 1).toNat (t - sp (h : Int)) := by
                        rw [eg]
                        show (if sp (h : Int) ≤ t then rcnt sp H (k - 1).toNat (t - sp (h : Int)) else 0) = _
                        rw [if_pos (by omega)]
                      have tb := hr' (k - 1) (t - sp (h : Int)) (by omega) (by omega) w4 (by omega)
                      rw [← e] at tb
                      refine g_getr 31 352 rfl hS.k336 hm'.f_336_31 (by decide) ?_
                      refine g_C ?_
                      refine g_S (by omega) (by omega) ?_
                      refine zl_spot (by omega) (by omega) (by omega) (by omega) ?_
                      refine g_ldu hS.k352 hS.l352 (by omega) (by omega) (fun x ex => ?_)
                      rw [tb.1] at ex
                      refine g_C ?_
                      rw [ex]
                      refine g_LA (by omega) (by omega) ?_
                      refine g_if (fun w5 => ?_) (fun w5 => ?_)
                      · have yc : 0 < cs g h := by
                          by_cases y : 0 < cs g h
                          · exact y
                          · exact absurd (hv.mpr y) w5
                        refine u_X12_fillsRows_140 ?_
                        refine g_C ?_
                        refine u_X12_fillsRows_145 ?_
                        exact nx 1 (by decide) ⟨fun z => absurd z (by decide), fun z => absurd (show 0 < cs g h + g (h : Int) by omega) z⟩
                      · refine g_getr 32 353 rfl hS.k336 hm'.f_336_32 (by decide) ?_
                        refine g_C ?_
                        refine g_S (by omega) (by omega) ?_
                        refine zl_spot (by omega) (by omega) (by omega) (by omega) ?_
                        refine g_ldu hS.k353 hS.l353 (by omega) (by omega) (fun y ey => ?_)
                        have nv : ¬ 0 < cs g h := hv.mp (by omega)
                        refine g_if (fun w6 => ?_) (fun w6 => ?_)
                        · refine g_C ?_
                          refine u_X12_fillsRows_145 ?_
                          have ng := tb.2.mp (by omega)
                          exact nx 0 (by decide) ⟨fun _ => by omega, fun _ => rfl⟩
                        · refine u_X12_fillsRows_140 ?_
                          refine g_C ?_
                          refine u_X12_fillsRows_145 ?_
                          have yg : 0 < g (h : Int) := by
                            by_cases z : 0 < g (h : Int)
                            · exact z
                            · exact absurd (ey.trans (tb.2.mpr z)) w6
                          exact nx 1 (by decide) ⟨fun z => absurd z (by decide), fun z => absurd (show 0 < cs g h + g (h : Int) by omega) z⟩
                    · have e : g (h : Int) = 0 := by
                        rw [eg]
                        show (if sp (h : Int) ≤ t then rcnt sp H (k - 1).toNat (t - sp (h : Int)) else 0) = _
                        rw [if_neg (by omega)]
                      have n0 := nx is iz (by rw [e, Int.add_zero]; exact hv)
                      rw [e, Int.add_zero] at n0
                      exact n0
              exact ⟨6, inn 6 0 0 (Or.inl rfl) ⟨fun _ => (by show ¬ (0 : Int) < 0; decide), fun _ => rfl⟩ (by omega) (by decide)⟩
        exact ⟨302, row 302 0 m hm (by decide) (by decide) F hr (fun s s0 s1 => absurd s1 (by omega)) (by decide)⟩
  have first : ∀ (n : Nat) (t : Int) (m : Mm), Inv X S m → 0 ≤ t → t ≤ 301 → (∀ c p : Int, ¬ c = 352 → ¬ c = 353 → m c p = m0 c p) → (∀ s : Int, 0 ≤ s → s < t → m 352 s = rcnt sp H 0 s ∧ (m 353 s = 0 ↔ ¬ 0 < rcnt sp H 0 s)) → 302 - t ≤ (n : Int) → wp_X12_fillsRows_2 S K n 336 u1 t m := by
    intro n
    induction n with
    | zero => intro t m _ _ _ _ _ h; exfalso; omega
    | succ n ih =>
      intro t m hm t0 t1 F hc hn
      refine u_X12_fillsRows_2 ?_
      refine g_C ?_
      refine g_if (fun w => ?_) (fun w => ?_)
      · refine g_C ?_
        refine ⟨13, main 13 1 m hm (by decide) (by omega) F (fun k' t' a1 a2 a3 a4 => ?_) (by decide)⟩
        rw [show k' = 0 by omega, show 301 * 0 + t' = t' by omega]
        exact hc t' a3 (by omega)
      · have nx : ∀ x y : Int, (y = 0 ∨ y = 1) → -2147483648 ≤ x → x ≤ 2147483647 → x = rcnt sp H 0 t → (y = 0 ↔ ¬ 0 < rcnt sp H 0 t) → ∀ m2 : Mm, Inv X S m2 → m2 = up m 352 t x → wp_X12_fillsRows_38 S (fun a0 a1 a2 M => wp_X12_fillsRows_2 S K n a0 a1 a2 M) K 336 u1 t 353 t y m2 := by
          intro x y yz x0 x1 ex ey m2 hm2 e2
          have f2 : ∀ c p : Int, ¬ (c = 352 ∧ p = t) → m2 c p = m c p := fun c p q => (congrFun (congrFun e2 _) _).trans (up_ne q)
          have x2 : m2 352 t = x := (congrFun (congrFun e2 _) _).trans (up_at _ _ _ _)
          refine u_X12_fillsRows_38 ?_
          refine g_stz hS.k353 hS.l353 (by omega) (by omega) (by omega) (hm2.wa_353 (by omega) (by omega) (by omega) (by omega)) (fun m3 e3 hm3 => ?_)
          have f3 : ∀ c p : Int, ¬ (c = 353 ∧ p = t) → m3 c p = m2 c p := fun c p q => (congrFun (congrFun e3 _) _).trans (up_ne q)
          have x3 : m3 353 t = y := (congrFun (congrFun e3 _) _).trans (up_at _ _ _ _)
          refine g_A (by omega) (by omega) ?_
          refine ih (t + 1) m3 hm3 (by omega) (by omega) (fun c p q1 q2 => by rw [f3 c p (by omega), f2 c p (by omega)]; exact F c p q1 q2) (fun s s0 s1 => ?_) (by omega)
          by_cases e : s = t
          · rw [e, x3, f3 352 t (by omega), x2]
            exact ⟨ex, ey⟩
          · rw [f3 352 s (by omega), f2 352 s (by omega), f3 353 s (by omega), f2 353 s (by omega)]
            exact hc s s0 (by omega)
        refine g_getr 31 352 rfl hS.k336 hm.f_336_31 (by decide) ?_
        refine g_if (fun w2 => ?_) (fun w2 => ?_)
        · have c0 : rcnt sp H 0 t = 0 := by
            show (if t = 0 then (1 : Int) else 0) = 0
            rw [if_neg w2]
          refine g_C ?_
          refine u_X12_fillsRows_23 ?_
          refine g_st hS.k352 hS.l352 (by omega) (by omega) (hm.wa_352 (by omega) (by omega) (by omega) (by omega)) (fun m2 e2 hm2 => ?_)
          refine g_getr 32 353 rfl hS.k336 hm2.f_336_32 (by decide) ?_
          refine g_ifT w2 (g_C ?_)
          exact nx 0 0 (Or.inl rfl) (by decide) (by decide) c0.symm ⟨fun _ => by rw [c0]; decide, fun _ => rfl⟩ m2 hm2 e2
        · have c0 : rcnt sp H 0 t = 1 := by
            show (if t = 0 then (1 : Int) else 0) = 1
            rw [if_pos (by omega)]
          refine g_C ?_
          refine u_X12_fillsRows_23 ?_
          refine g_st hS.k352 hS.l352 (by omega) (by omega) (hm.wa_352 (by omega) (by omega) (by omega) (by omega)) (fun m2 e2 hm2 => ?_)
          refine g_getr 32 353 rfl hS.k336 hm2.f_336_32 (by decide) ?_
          refine g_ifF w2 (g_C ?_)
          exact nx 1 1 (Or.inr rfl) (by decide) (by decide) c0.symm ⟨fun z => absurd z (by decide), fun z => absurd (show 0 < rcnt sp H 0 t by rw [c0]; decide) z⟩ m2 hm2 e2
  exact ⟨302, first 302 0 m0 hm0 (by decide) (by decide) (fun _ _ _ _ => rfl) (fun s s0 s1 => absurd s1 (by omega)) (by decide)⟩
/-- the first HAND that leaves what k more can come to -/
def Lh (sp : Int → Int) (H : Nat) (k : Nat) (l h : Int) : Prop := (0 ≤ h ∧ h < H ∧ sp h ≤ l ∧ 0 < rcnt sp H k (l - sp h)) ∧ ∀ g : Int, 0 ≤ g → g < h → ¬ (sp g ≤ l ∧ 0 < rcnt sp H k (l - sp g))
theorem Lh.uniq {sp : Int → Int} {H k : Nat} {l g h : Int} (a : Lh sp H k l g) (b : Lh sp H k l h) : g = h := by
  by_cases e : g < h
  · exact absurd ⟨a.1.2.2.1, a.1.2.2.2⟩ (b.2 g a.1.1 e)
  · by_cases e2 : h < g
    · exact absurd ⟨b.1.2.2.1, b.1.2.2.2⟩ (a.2 h b.1.1 e2)
    · omega
/-- the HAND of the first row in the a-th HOUR, n HOURS being left at its begin -/
def Fh (sp : Int → Int) (H : Nat) : Nat → Int → Int → Int → Prop
  | 0, n, l, r => Lh sp H (n - 1).toNat l r
  | a + 1, n, l, r => ∃ h : Int, Lh sp H (n - 1).toNat l h ∧ Fh sp H a (n - 1) (l - sp h) r
theorem Fh.uniq {sp : Int → Int} {H : Nat} : ∀ (a : Nat) (n l g h : Int), Fh sp H a n l g → Fh sp H a n l h → g = h := by
  intro a
  induction a with
  | zero => intro n l g h x y; exact Lh.uniq x y
  | succ a ih =>
    intro n l g h x y
    obtain ⟨p, p1, p2⟩ := x
    obtain ⟨q, q1, q2⟩ := y
    have e := p1.uniq q1
    subst e
    exact ih _ _ _ _ p2 q2
/-- HANDS as bits -/
def hb (P : Int → Prop) [DecidablePred P] : Nat → Int
  | 0 => 0
  | h + 1 => if P (h : Int) then iOr (hb P h) (iShl 1 (h : Int)) else hb P h
theorem or_b : ∀ b : Nat, b < 32 → ∀ h : Nat, h < 5 → iOr (iOr (b : Int) (iShl 1 (h : Int))) (iShl 1 (h : Int)) = iOr (b : Int) (iShl 1 (h : Int)) ∧ iOr (b : Int) 0 = (b : Int) ∧ 0 ≤ iOr (b : Int) (iShl 1 (h : Int)) ∧ iOr (b : Int) (iShl 1 (h : Int)) < 32 := by decide +kernel
theorem hb_b {P : Int → Prop} [DecidablePred P] : ∀ h : Nat, h ≤ 5 → 0 ≤ hb P h ∧ hb P h < 32 := by
  intro h
  induction h with
  | zero => intro _; exact ⟨Int.le_refl 0, by show (0 : Int) < 32; decide⟩
  | succ h ih =>
    intro h5
    obtain ⟨a, b⟩ := ih (by omega)
    have q := or_b (hb P h).toNat (by omega) h (by omega)
    rw [Int.toNat_of_nonneg a] at q
    show 0 ≤ (if P (h : Int) then iOr (hb P h) (iShl 1 (h : Int)) else hb P h) ∧ (if P (h : Int) then iOr (hb P h) (iShl 1 (h : Int)) else hb P h) < 32
    split
    · exact ⟨q.2.2.1, q.2.2.2⟩
    · exact ⟨a, b⟩
end
section
/-- what ROWS answers, of what is told -/
abbrev rOK (n t w : Int) : Prop := 1 ≤ n ∧ n ≤ 12 ∧ 0 ≤ t ∧ t ≤ 300 ∧ ((-1 ≤ w ∧ w ≤ 11) ∨ (20 ≤ w ∧ w ≤ 31))
abbrev rB (sp : Int → Int) (n t h : Int) (H : Nat) : Prop := sp h ≤ t ∧ 0 < rcnt sp H (n - 1).toNat (t - sp h)
def RA (sp : Int → Int) (H : Nat) (pl n t w r : Int) : Prop := wIf (pl = 0 ∨ ¬ rOK n t w) (r = -3) (wIf (w = -1) (r = rcnt sp H n.toNat t) (wIf (¬ 0 < rcnt sp H n.toNat t ∨ n ≤ (if w < 20 then w else w - 20)) (r = -2) (wIf (w < 20) (Fh sp H w.toNat n t r) (r = hb (fun h => rB sp n t h H) H))))
theorem RA.uniq {sp : Int → Int} {H : Nat} {pl n t w r s : Int} (a : RA sp H pl n t w r) (b : RA sp H pl n t w s) : r = s := if_dt a b (fun x y => x.trans y.symm) (fun a b => if_dt a b (fun x y => x.trans y.symm) (fun a b => if_dt a b (fun x y => x.trans y.symm) (fun a b => if_dt a b (fun x y => Fh.uniq _ _ _ _ _ x y) (fun x y => x.trans y.symm))))
theorem rem20' : ∀ k : Nat, k < 12 → iRem (k : Int) 20 = (k : Int) ∧ iRem ((k : Int) + 20) 20 = (k : Int) := by decide +kernel
theorem zr_firstHand {X : Mm} {S : Sh} {m : Mm} {K : Int → Mm → Prop} {sp : Int → Int} {H : Nat} {u1 u2 u3 : Int} (hS : Shp S) (hm : Inv X S m) (h1 : 1 ≤ u1) (h1' : u1 ≤ 12) (h2 : 0 ≤ u2) (h2' : u2 ≤ 300) (h3 : 0 ≤ u3) (h3' : u3 < u1) (H5 : H ≤ 5) (hs : ∀ i : Int, 0 ≤ i → i < H → m 346 (13 + 5 * i) = sp i) (sb : ∀ i : Int, 0 ≤ i → i < H → 0 ≤ sp i ∧ sp i ≤ 20) (hr : RTb sp H m u1) (hx : 0 < rcnt sp H u1.toNat u2) (hk : ∀ r : Int, Fh sp H u3.toNat u1 u2 r → K r m) : wp_X12_firstHand S m 336 u1 u2 u3 K := by
  refine u_X12_firstHand ?_
  refine g_C ?_
  refine g_C ?_
  have L : ∀ (n : Nat) (left hand k : Int), 0 ≤ k → k ≤ u3 + 1 → 0 ≤ left → left ≤ 300 → (k ≤ u3 → 0 < rcnt sp H (u1 - k).toNat left) → (k ≤ u3 → ∀ r : Int, Fh sp H (u3 - k).toNat (u1 - k) left r → Fh sp H u3.toNat u1 u2 r) → (k = u3 + 1 → Fh sp H u3.toNat u1 u2 hand) → u3 + 2 - k ≤ (n : Int) → wp_X12_firstHand_9 S K n 336 u1 u3 left hand k m := by
    intro n
    induction n with
    | zero => intro left hand k _ _ _ _ _ _ _ h; exfalso; omega
    | succ n ih =>
      intro left hand k k0 k1 l0 l1 hl hF hE hn
      refine u_X12_firstHand_9 ?_
      refine g_if (fun w => hk _ (hE (by omega))) (fun w => ?_)
      refine g_C ?_
      have hl' := hl (by omega)
      rw [show (u1 - k).toNat = (u1 - k - 1).toNat + 1 by omega] at hl'
      obtain ⟨g, g0, g1, g2, g3⟩ := rcnt_pos.mp hl'
      have inn : ∀ (n2 : Nat) (h : Int), 0 ≤ h → h ≤ g → (∀ i : Int, 0 ≤ i → i < h → ¬ (sp i ≤ left ∧ 0 < rcnt sp H (u1 - k - 1).toNat (left - sp i))) → g + 1 - h ≤ (n2 : Int) → wp_X12_firstHand_18 S (fun a0 a1 a2 a3 a4 a5 M => wp_X12_firstHand_9 S K n a0 a1 a2 a3 a4 a5 M) K n2 336 u1 u3 left h k m := by
        intro n2
        induction n2 with
        | zero => intro h _ _ _ hh; exfalso; omega
        | succ n2 ih2 =>
          intro h j0 j1 hno hh
          have hlt : h < H := by omega
          have sh := sb h j0 hlt
          refine u_X12_firstHand_18 ?_
          have nx : ¬ (sp h ≤ left ∧ 0 < rcnt sp H (u1 - k - 1).toNat (left - sp h)) → wp_X12_firstHand_57 S (fun a0 a1 a2 a3 a4 a5 M => wp_X12_firstHand_9 S K n a0 a1 a2 a3 a4 a5 M) (fun a0 a1 a2 a3 a4 a5 M => wp_X12_firstHand_18 S (fun a0 a1 a2 a3 a4 a5 M => wp_X12_firstHand_9 S K n a0 a1 a2 a3 a4 a5 M) K n2 a0 a1 a2 a3 a4 a5 M) K 336 u1 u3 left h k m := by
            intro ne
            have hg : ¬ h = g := fun e => ne (by rw [e]; exact ⟨g2, g3⟩)
            refine u_X12_firstHand_57 ?_
            refine g_A (by omega) (by omega) ?_
            refine ih2 (h + 1) (by omega) (by omega) (fun i i0 i1 => ?_) (by omega)
            by_cases e : i = h
            · rw [e]; exact ne
            · exact hno i i0 (by omega)
          refine g_C ?_
          refine ⟨hS.k336, ?_⟩
          refine zr_speed hS hm hs H5 j0 hlt ?_
          refine g_if (fun w2 => nx (fun z => by have := z.1; omega)) (fun w2 => ?_)
          have tb := (hr (u1 - k - 1) (left - sp h) (by omega) (by omega) (by omega) (by omega)).2
          refine g_getr 32 353 rfl hS.k336 hm.f_336_32 (by decide) ?_
          refine g_C ?_
          refine g_S (by omega) (by omega) ?_
          refine g_S (by omega) (by omega) ?_
          refine g_C ?_
          refine ⟨hS.k336, ?_⟩
          refine zr_speed hS hm hs H5 j0 hlt ?_
          refine g_S (by omega) (by omega) ?_
          refine zl_spot (by omega) (by omega) (by omega) (by omega) ?_
          refine g_ldu hS.k353 hS.l353 (by omega) (by omega) (fun x ex => ?_)
          rw [show u1 - 1 - k = u1 - k - 1 by omega] at ex
          refine g_if (fun w3 => ?_) (fun w3 => ?_)
          · have yc : 0 < rcnt sp H (u1 - k - 1).toNat (left - sp h) := by
              by_cases y : 0 < rcnt sp H (u1 - k - 1).toNat (left - sp h)
              · exact y
              · exact absurd (ex.trans (tb.mpr y)) w3
            have lh : Lh sp H (u1 - k - 1).toNat left h := ⟨⟨j0, hlt, by omega, yc⟩, hno⟩
            refine g_C ?_
            refine ⟨hS.k336, ?_⟩
            refine zr_speed hS hm hs H5 j0 hlt ?_
            refine g_S (by omega) (by omega) ?_
            refine g_A (by omega) (by omega) ?_
            refine ih (left - sp h) h (k + 1) (by omega) (by omega) (by omega) (by omega) (fun _ => by rw [show u1 - (k + 1) = u1 - k - 1 by omega]; exact yc) (fun kk r fr => hF (by omega) r ?_) (fun kk => hF (by omega) h ?_) (by omega)
            · rw [show (u3 - k).toNat = (u3 - (k + 1)).toNat + 1 by omega]
              exact ⟨h, lh, by rw [show u1 - k - 1 = u1 - (k + 1) by omega]; exact fr⟩
            · rw [show (u3 - k).toNat = 0 by omega]
              exact lh
          · exact nx (fun z => tb.mp (by omega) z.2)
      exact ⟨(g + 1).toNat, inn (g + 1).toNat 0 (by decide) g0 (fun i i0 i1 => absurd i1 (by omega)) (by omega)⟩
  exact ⟨(u3 + 2).toNat, L (u3 + 2).toNat u2 0 0 (by decide) (by omega) h2 h2' (fun _ => by rw [Int.sub_zero]; exact hx) (fun _ r fr => by rw [Int.sub_zero, Int.sub_zero] at fr; exact fr) (fun z => by exfalso; omega) (by omega)⟩
theorem zr_rows12 {X : Mm} {S : Sh} {m0 : Mm} {K : Int → Mm → Prop} {sp : Int → Int} {H : Nat} {u1 u2 u3 : Int} (hS : Shp S) (hm0 : Inv X S m0) (hH : m0 346 4 = (H : Int)) (hs : ∀ i : Int, 0 ≤ i → i < H → m0 346 (13 + 5 * i) = sp i) (sb : ∀ i : Int, 0 ≤ i → i < H → 0 ≤ sp i ∧ sp i ≤ 20) (hk : ∀ (r : Int) (M1 : Mm), Inv X S M1 → (∀ c p : Int, ¬ c = 352 → ¬ c = 353 → M1 c p = m0 c p) → RA sp H (m0 346 0) u1 u2 u3 r → K r M1) : wp_X12_rows S m0 336 u1 u2 u3 K := by
  have b0 := hm0.f_346_0
  have b4 := hm0.f_346_4
  have H5 : H ≤ 5 := by omega
  have no : (m0 346 0 = 0 ∨ ¬ rOK u1 u2 u3) → K (-3) m0 := fun z => hk _ m0 hm0 (fun _ _ _ _ => rfl) (g_ifT z rfl)
  have go : ¬ m0 346 0 = 0 → rOK u1 u2 u3 → wp_X12_rows_62 S K 336 u1 u2 u3 m0 := by
    intro p0 ok
    obtain ⟨a1, a2, a3, a4, a5⟩ := id ok
    have nb : ¬ (m0 346 0 = 0 ∨ ¬ rOK u1 u2 u3) := fun z => by rcases z with z | z; exact p0 z; exact z ok
    refine u_X12_rows_62 ?_
    refine ⟨hS.k336, ?_⟩
    refine zr_fillsRows (sp := sp) (H := H) hS hm0 a1 a2 hH hs sb (fun m hm F hr => ?_)
    have hs' : ∀ i : Int, 0 ≤ i → i < H → m 346 (13 + 5 * i) = sp i := fun i i0 i1 => (F 346 _ (by omega) (by omega)).trans (hs i i0 i1)
    have tb := hr u1 u2 (by omega) (by omega) a3 a4
    refine g_C ?_
    refine g_if (fun w => ?_) (fun w => ?_)
    · refine g_getr 32 353 rfl hS.k336 hm.f_336_32 (by decide) ?_
      refine zl_spot (by omega) (by omega) (by omega) (by omega) ?_
      refine g_ldu hS.k353 hS.l353 (by omega) (by omega) (fun x ex => ?_)
      refine g_if (fun w2 => g_C (hk _ m hm F (g_ifF nb (g_ifF w (g_ifT (Or.inl (tb.2.mp (by omega))) rfl))))) (fun w2 => ?_)
      have yc : 0 < rcnt sp H u1.toNat u2 := by
        by_cases y : 0 < rcnt sp H u1.toNat u2
        · exact y
        · exact absurd (ex.trans (tb.2.mpr y)) w2
      have at20 : iRem u3 20 = (if u3 < 20 then u3 else u3 - 20) := by
        rcases a5 with a | a
        · have q := (rem20' u3.toNat (by omega)).1
          rw [Int.toNat_of_nonneg (by omega)] at q
          rw [q, if_pos (by omega)]
        · have q := (rem20' (u3 - 20).toNat (by omega)).2
          rw [Int.toNat_of_nonneg (by omega), show u3 - 20 + 20 = u3 by omega] at q
          rw [q, if_neg (by omega)]
      refine g_C ?_
      refine ⟨by decide, ?_⟩
      rw [at20]
      refine g_if (fun w3 => ?_) (fun w3 => g_C (hk _ m hm F (g_ifF nb (g_ifF w (g_ifT (Or.inr (by omega)) rfl)))))
      have ng : ¬ (¬ 0 < rcnt sp H u1.toNat u2 ∨ u1 ≤ (if u3 < 20 then u3 else u3 - 20)) := fun z => by rcases z with z | z; exact z yc; omega
      refine g_C ?_
      refine g_if (fun w4 => ?_) (fun w4 => ?_)
      · refine g_C ?_
        refine g_C ?_
        have L : ∀ (n : Nat) (h : Nat), h ≤ H → 6 - (h : Int) ≤ (n : Int) → wp_X12_rows_127 S K n 336 u1 u2 (hb (fun h => rB sp u1 u2 h H) h) (h : Int) m := by
          intro n
          induction n with
          | zero => intro h _ hh; exfalso; omega
          | succ n ih =>
            intro h hle hh
            have bb := hb_b (P := fun h => rB sp u1 u2 h H) h (by omega)
            refine u_X12_rows_127 ?_
            refine g_getr 20 346 rfl hS.k336 hm.f_336_20 (by decide) ?_
            refine g_C ?_
            refine g_ldu hS.k346 hS.l346 (by omega) (by omega) (fun Hv eH => ?_)
            rw [F 346 4 (by omega) (by omega), hH] at eH
            refine g_if (fun w5 => ?_) (fun w5 => ?_)
            · rw [show h = H by omega]
              exact hk _ m hm F (g_ifF nb (g_ifF w (g_ifF ng (g_ifF (by omega) rfl))))
            have hlt : (h : Int) < H := by omega
            have sh := sb (h : Int) (by omega) hlt
            have ob := or_b (hb (fun h => rB sp u1 u2 h H) h).toNat (by omega) h (by omega)
            rw [Int.toNat_of_nonneg bb.1] at ob
            have nono : ¬ rB sp u1 u2 (h : Int) H → wp_X12_rows_181 S (fun a0 a1 a2 a3 a4 M => wp_X12_rows_127 S K n a0 a1 a2 a3 a4 M) K 336 u1 u2 (h : Int) (hb (fun h => rB sp u1 u2 h H) h) m := by
              intro nr
              refine u_X12_rows_181 ?_
              refine g_C ?_
              refine u_X12_rows_182 ?_
              refine g_Oe (fun z ez => ?_)
              refine g_A (by omega) (by omega) ?_
              rw [ez, ob.2.1, show (h : Int) + 1 = ((h + 1 : Nat) : Int) by omega]
              have e : hb (fun h => rB sp u1 u2 h H) (h + 1) = hb (fun h => rB sp u1 u2 h H) h := if_neg nr
              rw [← e]
              exact ih (h + 1) (by omega) (by omega)
            refine g_C ?_
            refine ⟨hS.k336, ?_⟩
            refine zr_speed hS hm hs' H5 (by omega) hlt ?_
            refine g_if (fun w6 => nono (fun z => by have := z.1; omega)) (fun w6 => ?_)
            have tb2 := (hr (u1 - 1) (u2 - sp (h : Int)) (by omega) (by omega) (by omega) (by omega)).2
            refine g_getr 32 353 rfl hS.k336 hm.f_336_32 (by decide) ?_
            refine g_C ?_
            refine g_S (by omega) (by omega) ?_
            refine g_C ?_
            refine ⟨hS.k336, ?_⟩
            refine zr_speed hS hm hs' H5 (by omega) hlt ?_
            refine g_S (by omega) (by omega) ?_
            refine zl_spot (by omega) (by omega) (by omega) (by omega) ?_
            refine g_ldu hS.k353 hS.l353 (by omega) (by omega) (fun y ey => ?_)
            refine g_if (fun w7 => nono (fun z => tb2.mp (by omega) z.2)) (fun w7 => ?_)
            have yr : rB sp u1 u2 (h : Int) H := ⟨by omega, by
              by_cases z : 0 < rcnt sp H (u1 - 1).toNat (u2 - sp (h : Int))
              · exact z
              · exact absurd (ey.trans (tb2.mpr z)) w7⟩
            refine g_C ?_
            refine g_Oe (fun z ez => ?_)
            refine u_X12_rows_182 ?_
            refine g_Oe (fun z2 ez2 => ?_)
            refine g_A (by omega) (by omega) ?_
            rw [ez2, ez, show (h : Int) + 1 = ((h + 1 : Nat) : Int) by omega]
            have e : hb (fun h => rB sp u1 u2 h H) (h + 1) = iOr (hb (fun h => rB sp u1 u2 h H) h) (iShl 1 (h : Int)) := if_pos yr
            rw [← e]
            exact ih (h + 1) (by omega) (by omega)
        exact ⟨6, L 6 0 (by omega) (by decide)⟩
      · refine ⟨hS.k336, ?_⟩
        rw [if_pos (by omega)] at w3 ng
        exact zr_firstHand hS hm a1 a2 a3 a4 (by omega) w3 H5 hs' sb hr yc (fun r fr => hk r m hm F (g_ifF nb (g_ifF w (g_ifF (by rw [if_pos (by omega)]; exact ng) (g_ifT (by omega) fr)))))
    · refine g_getr 31 352 rfl hS.k336 hm.f_336_31 (by decide) ?_
      refine zl_spot (by omega) (by omega) (by omega) (by omega) ?_
      refine g_ldu hS.k352 hS.l352 (by omega) (by omega) (fun x ex => ?_)
      exact hk _ m hm F (g_ifF nb (g_ifT (by omega) (ex.trans tb.1)))
  refine u_X12_rows ?_
  refine ⟨hS.k336, ?_⟩
  refine u_X12_isDairy ?_
  refine g_getr 20 346 rfl hS.k336 hm0.f_336_20 (by decide) ?_
  refine g_C ?_
  refine g_ldu hS.k346 hS.l346 (by omega) (by omega) (fun v ev => ?_)
  refine g_if (fun w => g_C ⟨by decide, g_ifT rfl (g_C (no (Or.inl (by omega))))⟩) (fun w => g_C ⟨by decide, g_ifF (by decide) ?_⟩)
  have p0 : ¬ m0 346 0 = 0 := by omega
  refine g_C ?_
  refine g_C ?_
  refine g_C ?_
  refine z_in (fun a1 a2 => g_ifF (by decide) ?_) (fun z => g_ifT rfl (g_C (no (Or.inr (fun o => z ⟨o.1, o.2.1⟩)))))
  refine g_C ?_
  refine g_C ?_
  refine g_C ?_
  refine z_in (fun a3 a4 => g_ifF (by decide) ?_) (fun z => g_ifT rfl (g_C (no (Or.inr (fun o => z ⟨o.2.2.1, o.2.2.2.1⟩)))))
  refine g_C ?_
  refine g_C ?_
  refine g_C ?_
  refine z_in (fun a5 a6 => g_ifT (by decide) (go p0 ⟨a1, a2, a3, a4, Or.inl ⟨a5, a6⟩⟩)) (fun z => g_ifF (by decide) ?_)
  refine g_C ?_
  refine g_C ?_
  refine g_C ?_
  exact z_in (fun a7 a8 => g_ifT (by decide) (go p0 ⟨a1, a2, a3, a4, Or.inr ⟨a7, a8⟩⟩)) (fun z2 => g_ifF (by decide) (g_C (no (Or.inr (fun o => by rcases o.2.2.2.2 with y | y; exact z y; exact z2 y)))))
end
section
abbrev CTb (sp : Int → Int) (H : Nat) (m : Mm) (n T : Int) : Prop := ∀ k t : Int, 0 ≤ k → k ≤ n → 0 ≤ t → t ≤ T → m 65 (301 * k + t) = rcnt sp H k.toNat t
theorem zr_firstThat {X : Mm} {S : Sh} {m : Mm} {K : Int → Mm → Prop} {sp : Int → Int} {H : Nat} {n T k l : Int} (hS : Shp S) (hm : Inv X S m) (n12 : n ≤ 12) (T3 : T ≤ 300) (ht : CTb sp H m n T) (hH : m 4 4 = (H : Int)) (H5 : H ≤ 5) (hs : ∀ i : Int, 0 ≤ i → i < H → m 7 i = sp i) (sb : ∀ i : Int, 0 ≤ i → i < H → 0 ≤ sp i ∧ sp i ≤ 20) (k0 : 0 ≤ k) (k1 : k ≤ n) (l0 : 0 ≤ l) (l1 : l ≤ T) (hx : ∃ h : Int, 0 ≤ h ∧ h < H ∧ sp h ≤ l ∧ 0 < rcnt sp H k.toNat (l - sp h)) (hk : ∀ r : Int, Lh sp H k.toNat l r → K r m) : wp_X6_firstThatLeaves S m 63 k l K := by
  obtain ⟨g, g0, g1, g2, g3⟩ := hx
  refine u_X6_firstThatLeaves ?_
  refine g_C ?_
  have L : ∀ (N : Nat) (h : Int), 0 ≤ h → h ≤ g → (∀ i : Int, 0 ≤ i → i < h → ¬ (sp i ≤ l ∧ 0 < rcnt sp H k.toNat (l - sp i))) → 6 - h ≤ (N : Int) → wp_X6_firstThatLeaves_2 S K N 63 k l h m := by
    intro N
    induction N with
    | zero => intro h _ _ _ z; exfalso; omega
    | succ N ih =>
      intro h h0 h1 hno hN
      have hlt : h < H := by omega
      have sh := sb h h0 hlt
      refine u_X6_firstThatLeaves_2 ?_
      refine g_getr 0 4 rfl hS.k63 hm.f_63_0 (by decide) ?_
      refine g_getu 4 rfl hS.k4 (fun v ev => ?_)
      refine g_ifF (by omega) ?_
      refine g_getr 0 4 rfl hS.k63 hm.f_63_0 (by decide) ?_
      refine g_getr 10 7 rfl hS.k4 hm.f_4_10 (by decide) ?_
      refine g_ldu hS.k7 hS.l7 (by omega) (by omega) (fun s es => ?_)
      rw [hs h h0 hlt] at es
      subst es
      refine g_S (by omega) (by omega) ?_
      refine ⟨hS.k63, ?_⟩
      have nx : ¬ (sp h ≤ l ∧ 0 < rcnt sp H k.toNat (l - sp h)) → wA h 1 fun v18 => wp_X6_firstThatLeaves_2 S K N 63 k l v18 m := by
        intro ne
        have hg : ¬ h = g := fun e => ne (by rw [e]; exact ⟨g2, g3⟩)
        refine g_A (by omega) (by omega) ?_
        refine ih (h + 1) (by omega) (by omega) (fun i i0 i1 => ?_) (by omega)
        by_cases e : i = h
        · rw [e]; exact ne
        · exact hno i i0 (by omega)
      refine zr_rowsOf (sp := sp) (H := H) (n := n) (T := T) hS hm ht n12 T3 k0 k1 (by omega) (by omega) (fun t0 => ?_) (fun t0 => ?_)
      · refine g_if (fun w => nx (fun z => by have := z.2; omega)) (fun w => ?_)
        exact hk h ⟨⟨h0, hlt, by omega, by omega⟩, hno⟩
      · exact g_ifT (by decide) (nx (fun z => by have := z.1; omega))
  exact ⟨6, L 6 0 (by decide) g0 (fun i i0 i1 => absurd i1 (by omega)) (by decide)⟩
theorem zr_handIn {X : Mm} {S : Sh} {m : Mm} {K : Int → Mm → Prop} {sp : Int → Int} {H : Nat} {n t a : Int} (hS : Shp S) (hm : Inv X S m) (n1 : 1 ≤ n) (n12 : n ≤ 12) (t0 : 0 ≤ t) (t3 : t ≤ 300) (a0 : 0 ≤ a) (a1 : a < n) (ht : CTb sp H m n t) (hH : m 4 4 = (H : Int)) (H5 : H ≤ 5) (hs : ∀ i : Int, 0 ≤ i → i < H → m 7 i = sp i) (sb : ∀ i : Int, 0 ≤ i → i < H → 0 ≤ sp i ∧ sp i ≤ 20) (hx : 0 < rcnt sp H n.toNat t) (hk : ∀ r : Int, Fh sp H a.toNat n t r → K r m) : wp_X6_handInFirstRow S m 63 n t a K := by
  refine u_X6_handInFirstRow ?_
  refine g_C ?_
  have L : ∀ (N : Nat) (l k : Int), 0 ≤ k → k ≤ a → 0 ≤ l → l ≤ t → 0 < rcnt sp H (n - k).toNat l → (∀ r : Int, Fh sp H (a - k).toNat (n - k) l r → Fh sp H a.toNat n t r) → a + 1 - k ≤ (N : Int) → wp_X6_handInFirstRow_6 S K N 63 n a l k m := by
    intro N
    induction N with
    | zero => intro l k _ _ _ _ _ _ z; exfalso; omega
    | succ N ih =>
      intro l k k0 k1 l0 l1 hl hF hN
      refine u_X6_handInFirstRow_6 ?_
      refine g_ifF (by omega) ?_
      refine g_S (by omega) (by omega) ?_
      refine g_C ?_
      refine g_S (by omega) (by omega) ?_
      refine ⟨hS.k63, ?_⟩
      have hl' := hl
      rw [show (n - k).toNat = (n - k - 1).toNat + 1 by omega] at hl'
      refine zr_firstThat (sp := sp) (H := H) hS hm n12 t3 ht hH H5 hs sb (by omega) (by omega) l0 l1 (rcnt_pos.mp hl') (fun h lh => ?_)
      have hlt := lh.1.2.1
      have h0 := lh.1.1
      have sh := sb h h0 hlt
      have sle := lh.1.2.2.1
      refine g_if (fun w => ?_) (fun w => ?_)
      · refine g_getr 0 4 rfl hS.k63 hm.f_63_0 (by decide) ?_
        refine g_getr 10 7 rfl hS.k4 hm.f_4_10 (by decide) ?_
        refine g_ldu hS.k7 hS.l7 (by omega) (by omega) (fun s es => ?_)
        rw [hs h h0 hlt] at es
        subst es
        refine g_S (by omega) (by omega) ?_
        refine g_A (by omega) (by omega) ?_
        refine ih (l - sp h) (k + 1) (by omega) (by omega) (by omega) (by omega) (by rw [show n - (k + 1) = n - k - 1 by omega]; exact lh.1.2.2.2) (fun r fr => hF r ?_) (by omega)
        rw [show (a - k).toNat = (a - (k + 1)).toNat + 1 by omega]
        exact ⟨h, lh, by rw [show n - k - 1 = n - (k + 1) by omega]; exact fr⟩
      · refine hk h (hF h ?_)
        rw [show (a - k).toNat = 0 by omega]
        exact lh
  exact ⟨(a + 1).toNat, L (a + 1).toNat t 0 (by decide) a0 t0 (by omega) (by rw [Int.sub_zero]; exact hx) (fun r fr => by rw [Int.sub_zero, Int.sub_zero] at fr; exact fr) (by omega)⟩
theorem zr_handsIn {X : Mm} {S : Sh} {m : Mm} {K : Int → Mm → Prop} {sp : Int → Int} {H : Nat} {n t a : Int} (hS : Shp S) (hm : Inv X S m) (n1 : 1 ≤ n) (n12 : n ≤ 12) (t0 : 0 ≤ t) (t3 : t ≤ 300) (a0 : 0 ≤ a) (a1 : a < n) (ht : CTb sp H m n t) (hH : m 4 4 = (H : Int)) (H5 : H ≤ 5) (hs : ∀ i : Int, 0 ≤ i → i < H → m 7 i = sp i) (sb : ∀ i : Int, 0 ≤ i → i < H → 0 ≤ sp i ∧ sp i ≤ 20) (hk : K (hb (fun h => rB sp n t h H) H) m) : wp_X6_handsInRows S m 63 n t a K := by
  have key : ∀ h : Int, 0 ≤ h → h < H → (rB sp n t h H ↔ ∃ u : Int, 0 ≤ u ∧ u ≤ t ∧ 0 < rcnt sp H a.toNat u ∧ 0 ≤ t - u - sp h ∧ 0 < rcnt sp H (n - a - 1).toNat (t - u - sp h)) := by
    intro h h0 h1
    have sh := sb h h0 h1
    unfold rB
    constructor
    · rintro ⟨z1, z2⟩
      rw [show (n - 1).toNat = a.toNat + (n - a - 1).toNat by omega] at z2
      obtain ⟨u, u0, u1, u2, u3⟩ := (rcnt_split (fun i i0 i1 => (sb i i0 i1).1) a.toNat (n - a - 1).toNat (t - sp h) (by omega)).mp z2
      exact ⟨u, u0, by omega, u2, by omega, by rw [show t - u - sp h = t - sp h - u by omega]; exact u3⟩
    · rintro ⟨u, u0, u1, u2, u3, u4⟩
      refine ⟨by omega, ?_⟩
      rw [show (n - 1).toNat = a.toNat + (n - a - 1).toNat by omega]
      exact (rcnt_split (fun i i0 i1 => (sb i i0 i1).1) a.toNat (n - a - 1).toNat (t - sp h) (by omega)).mpr ⟨u, u0, by omega, u2, by rw [show t - sp h - u = t - u - sp h by omega]; exact u4⟩
  refine u_X6_handsInRows ?_
  refine g_C ?_
  refine g_C ?_
  have L : ∀ (N : Nat) (h : Nat), h ≤ H → 6 - (h : Int) ≤ (N : Int) → wp_X6_handsInRows_6 S K N 63 n t a (hb (fun h => rB sp n t h H) h) (h : Int) m := by
    intro N
    induction N with
    | zero => intro h _ z; exfalso; omega
    | succ N ih =>
      intro h hle hN
      have bb := hb_b (P := fun h => rB sp n t h H) h (by omega)
      refine u_X6_handsInRows_6 ?_
      refine g_getr 0 4 rfl hS.k63 hm.f_63_0 (by decide) ?_
      refine g_getu 4 rfl hS.k4 (fun v ev => ?_)
      refine g_if (fun w => ?_) (fun w => ?_)
      · rw [show h = H by omega]
        exact hk
      have hlt : (h : Int) < H := by omega
      have sh := sb (h : Int) (by omega) hlt
      have ob := or_b (hb (fun h => rB sp n t h H) h).toNat (by omega) h (by omega)
      rw [Int.toNat_of_nonneg bb.1] at ob
      refine g_C ?_
      have I : ∀ (N2 : Nat) (x u : Int), 0 ≤ u → u ≤ t + 1 → ((x = hb (fun h => rB sp n t h H) h ∧ ¬ ∃ q : Int, 0 ≤ q ∧ q < u ∧ 0 < rcnt sp H a.toNat q ∧ 0 ≤ t - q - sp (h : Int) ∧ 0 < rcnt sp H (n - a - 1).toNat (t - q - sp (h : Int))) ∨ (x = iOr (hb (fun h => rB sp n t h H) h) (iShl 1 (h : Int)) ∧ rB sp n t (h : Int) H)) → t + 2 - u ≤ (N2 : Int) → wp_X6_handsInRows_21 S (fun a0 a1 a2 a3 a4 a5 M => wp_X6_handsInRows_6 S K N a0 a1 a2 a3 a4 a5 M) K N2 63 n t a x (h : Int) u m := by
        intro N2
        induction N2 with
        | zero => intro x u _ _ _ z; exfalso; omega
        | succ N2 ih2 =>
          intro x u u0 u1 hx hN2
          refine u_X6_handsInRows_21 ?_
          refine g_if (fun w2 => ?_) (fun w2 => ?_)
          · refine g_A (by omega) (by omega) ?_
            rw [show (h : Int) + 1 = ((h + 1 : Nat) : Int) by omega]
            have e : x = hb (fun h => rB sp n t h H) (h + 1) := by
              rcases hx with ⟨e1, e2⟩ | ⟨e1, e2⟩
              · have nr : ¬ rB sp n t (h : Int) H := fun z => by
                  obtain ⟨q, q0, q1, q2, q3, q4⟩ := (key (h : Int) (by omega) hlt).mp z
                  exact e2 ⟨q, q0, by omega, q2, q3, q4⟩
                exact e1.trans (if_neg nr).symm
              · exact e1.trans (if_pos e2).symm
            rw [e]
            exact ih (h + 1) (by omega) (by omega)
          · have nx : ∀ x' : Int, ((x' = hb (fun h => rB sp n t h H) h ∧ ¬ ∃ q : Int, 0 ≤ q ∧ q < u + 1 ∧ 0 < rcnt sp H a.toNat q ∧ 0 ≤ t - q - sp (h : Int) ∧ 0 < rcnt sp H (n - a - 1).toNat (t - q - sp (h : Int))) ∨ (x' = iOr (hb (fun h => rB sp n t h H) h) (iShl 1 (h : Int)) ∧ rB sp n t (h : Int) H)) → wp_X6_handsInRows_77 S (fun a0 a1 a2 a3 a4 a5 M => wp_X6_handsInRows_6 S K N a0 a1 a2 a3 a4 a5 M) (fun a0 a1 a2 a3 a4 a5 a6 M => wp_X6_handsInRows_21 S (fun a0 a1 a2 a3 a4 a5 M => wp_X6_handsInRows_6 S K N a0 a1 a2 a3 a4 a5 M) K N2 a0 a1 a2 a3 a4 a5 a6 M) K 63 n t a x' (h : Int) u m := by
              intro x' hx'
              refine u_X6_handsInRows_77 ?_
              refine g_A (by omega) (by omega) ?_
              exact ih2 x' (u + 1) (by omega) (by omega) hx' (by omega)
            have stay : ¬ (0 < rcnt sp H a.toNat u ∧ 0 ≤ t - u - sp (h : Int) ∧ 0 < rcnt sp H (n - a - 1).toNat (t - u - sp (h : Int))) → wp_X6_handsInRows_77 S (fun a0 a1 a2 a3 a4 a5 M => wp_X6_handsInRows_6 S K N a0 a1 a2 a3 a4 a5 M) (fun a0 a1 a2 a3 a4 a5 a6 M => wp_X6_handsInRows_21 S (fun a0 a1 a2 a3 a4 a5 M => wp_X6_handsInRows_6 S K N a0 a1 a2 a3 a4 a5 M) K N2 a0 a1 a2 a3 a4 a5 a6 M) K 63 n t a x (h : Int) u m := by
              intro ns
              refine nx x ?_
              rcases hx with ⟨e1, e2⟩ | e
              · refine Or.inl ⟨e1, fun z => ?_⟩
                obtain ⟨q, q0, q1, q2⟩ := z
                by_cases eq : q = u
                · rw [eq] at q2; exact ns q2
                · exact e2 ⟨q, q0, by omega, q2⟩
              · exact Or.inr e
            refine g_S (by omega) (by omega) ?_
            refine g_getr 0 4 rfl hS.k63 hm.f_63_0 (by decide) ?_
            refine g_getr 10 7 rfl hS.k4 hm.f_4_10 (by decide) ?_
            refine g_ldu hS.k7 hS.l7 (by omega) (by omega) (fun s es => ?_)
            rw [hs _ (by omega) hlt] at es
            subst es
            refine g_S (by omega) (by omega) ?_
            refine ⟨hS.k63, ?_⟩
            refine zr_rowsOf (sp := sp) (H := H) (n := n) (T := t) hS hm ht n12 t3 a0 (by omega) (by omega) (by omega) (fun _ => ?_) (fun z => by exfalso; omega)
            refine g_if (fun w3 => stay (fun z => by have := z.1; omega)) (fun w3 => ?_)
            refine g_S (by omega) (by omega) ?_
            refine g_C ?_
            refine g_S (by omega) (by omega) ?_
            refine ⟨hS.k63, ?_⟩
            refine zr_rowsOf (sp := sp) (H := H) (n := n) (T := t) hS hm ht n12 t3 (by omega) (by omega) (by omega) (by omega) (fun y0 => ?_) (fun y0 => g_ifT (by decide) (stay (fun z => by have := z.2.1; omega)))
            refine g_if (fun w4 => stay (fun z => by have := z.2.2; omega)) (fun w4 => ?_)
            have yr : rB sp n t (h : Int) H := (key (h : Int) (by omega) hlt).mpr ⟨u, u0, by omega, by omega, y0, by omega⟩
            refine g_C ?_
            refine g_Oe (fun z ez => ?_)
            refine g_Oe (fun z2 ez2 => ?_)
            refine nx z2 (Or.inr ⟨?_, yr⟩)
            rw [ez2, ez]
            rcases hx with ⟨e1, e2⟩ | ⟨e1, e2⟩
            · rw [e1]
            · rw [e1, ob.1]
      exact ⟨(t + 2).toNat, I (t + 2).toNat _ 0 (by decide) (by omega) (Or.inl ⟨rfl, fun z => by obtain ⟨q, q0, q1, -⟩ := z; exfalso; omega⟩) (by omega)⟩
  exact ⟨6, L 6 0 (by omega) (by decide)⟩
theorem zr_rows11 {X : Mm} {S : Sh} {m0 : Mm} {K : Int → Mm → Prop} {sp : Int → Int} {H : Nat} {u1 u2 u3 : Int} (hS : Shp S) (hm0 : Inv X S m0) (hH : m0 4 4 = (H : Int)) (hs : ∀ i : Int, 0 ≤ i → i < H → m0 7 i = sp i) (sb : ∀ i : Int, 0 ≤ i → i < H → 0 ≤ sp i ∧ sp i ≤ 20) (hk : ∀ (r : Int) (M1 : Mm), Inv X S M1 → (∀ c p : Int, ¬ c = 65 → M1 c p = m0 c p) → RA sp H (m0 4 0) u1 u2 u3 r → K r M1) : wp_X11_rows S m0 0 u1 u2 u3 K := by
  have b4 := hm0.f_4_4
  have H5 : H ≤ 5 := by omega
  have no : (m0 4 0 = 0 ∨ ¬ rOK u1 u2 u3) → K (-3) m0 := fun z => hk _ m0 hm0 (fun _ _ _ => rfl) (g_ifT z rfl)
  have go : ∀ f : Int, ¬ m0 4 0 = 0 → rOK u1 u2 u3 → (f = 0 ↔ ¬ (0 ≤ u3 ∧ u3 ≤ 11)) → wp_X11_rows_92 S K 0 u1 u2 u3 f m0 := by
    intro f p0 ok hf
    obtain ⟨a1, a2, a3, a4, a5⟩ := id ok
    have nb : ¬ (m0 4 0 = 0 ∨ ¬ rOK u1 u2 u3) := fun z => by rcases z with z | z; exact p0 z; exact z ok
    refine u_X11_rows_92 ?_
    refine g_getr 13 63 rfl hS.k0 hm0.f_0_13 (by decide) ?_
    refine ⟨hS.k63, ?_⟩
    refine zr_countRows (sp := sp) (H := H) hS hm0 a1 a2 a3 a4 hH hs (fun m hm F ht => ?_)
    have hH' : m 4 4 = (H : Int) := (F 4 4 (by omega)).trans hH
    have hs' : ∀ i : Int, 0 ≤ i → i < H → m 7 i = sp i := fun i i0 i1 => (F 7 i (by omega)).trans (hs i i0 i1)
    refine g_getr 13 63 rfl hS.k0 hm.f_0_13 (by decide) ?_
    refine ⟨hS.k63, ?_⟩
    refine zr_rowsOf (sp := sp) (H := H) (n := u1) (T := u2) hS hm ht a2 a4 (by omega) (by omega) (by omega) (by omega) (fun _ => ?_) (fun z => by exfalso; omega)
    have nn := rcnt_nn (sp := sp) (H := H) u1.toNat u2
    refine g_C ?_
    have fin : ∀ w : Int, ¬ u3 = -1 → w = (if u3 < 20 then u3 else u3 - 20) → wp_X11_rows_133 S K 0 u1 u2 f (rcnt sp H u1.toNat u2) w m := by
      intro w n1 ew
      refine u_X11_rows_133 ?_
      refine g_if (fun w1 => g_C (hk _ m hm F (g_ifF nb (g_ifF n1 (g_ifT (Or.inl (by omega)) rfl))))) (fun w1 => ?_)
      refine g_if (fun w2 => ?_) (fun w2 => g_C (hk _ m hm F (g_ifF nb (g_ifF n1 (g_ifT (Or.inr (by omega)) rfl)))))
      have ng : ¬ (¬ 0 < rcnt sp H u1.toNat u2 ∨ u1 ≤ (if u3 < 20 then u3 else u3 - 20)) := fun z => by rcases z with z | z; omega; omega
      refine g_if (fun w3 => ?_) (fun w3 => ?_)
      · have u20 : 20 ≤ u3 := by
          have := hf.mp w3
          omega
        rw [if_neg (by omega)] at ew
        refine g_getr 13 63 rfl hS.k0 hm.f_0_13 (by decide) ?_
        refine ⟨hS.k63, ?_⟩
        exact zr_handsIn (sp := sp) (H := H) hS hm a1 a2 a3 a4 (by omega) w2 ht hH' H5 hs' sb (hk _ m hm F (g_ifF nb (g_ifF n1 (g_ifF ng (g_ifF (by omega) rfl)))))
      · have u11 : 0 ≤ u3 ∧ u3 ≤ 11 := by
          by_cases z : 0 ≤ u3 ∧ u3 ≤ 11
          · exact z
          · exact absurd (hf.mpr z) w3
        rw [if_pos (by omega)] at ew
        refine g_getr 13 63 rfl hS.k0 hm.f_0_13 (by decide) ?_
        refine ⟨hS.k63, ?_⟩
        rw [ew] at w2 ⊢
        exact zr_handIn (sp := sp) (H := H) hS hm a1 a2 a3 a4 u11.1 w2 ht hH' H5 hs' sb (by omega) (fun r fr => hk r m hm F (g_ifF nb (g_ifF n1 (g_ifF ng (g_ifT (by omega) fr)))))
    refine g_if (fun w => ?_) (fun w => ?_)
    · refine g_if (fun w2 => ?_) (fun w2 => ?_)
      · have := hf.mp w2
        refine g_C ?_
        refine g_S (by omega) (by omega) ?_
        exact fin _ (by omega) (by rw [if_neg (by omega)])
      · have u11 : 0 ≤ u3 ∧ u3 ≤ 11 := by
          by_cases z : 0 ≤ u3 ∧ u3 ≤ 11
          · exact z
          · exact absurd (hf.mpr z) w2
        exact fin _ (by omega) (by rw [if_pos (by omega)])
    · exact hk _ m hm F (g_ifF nb (g_ifT (by omega) rfl))
  have mid : ∀ f g : Int, (f = 0 ↔ ¬ (0 ≤ u3 ∧ u3 ≤ 11)) → (g = 0 ↔ ¬ (20 ≤ u3 ∧ u3 ≤ 31)) → wp_X11_rows_34 S K 0 u1 u2 u3 f g m0 := by
    intro f g hf hg
    have bad : ∀ z : ¬ rOK u1 u2 u3, K (-3) m0 := fun z => no (Or.inr z)
    refine u_X11_rows_34 ?_
    refine g_getr 1 3 rfl hS.k0 hm0.f_0_1 (by decide) ?_
    refine g_getr 0 4 rfl hS.k3 hm0.f_3_0 (by decide) ?_
    refine g_getu 0 rfl hS.k4 (fun v ev => ?_)
    refine g_if (fun w => g_C (no (Or.inl (by omega)))) (fun w => ?_)
    refine g_C ?_
    refine g_if (fun w1 => g_C (bad (fun o => by have := o.1; omega))) (fun w1 => ?_)
    refine g_C ?_
    refine g_if (fun w2 => g_C (bad (fun o => by have := o.2.1; omega))) (fun w2 => ?_)
    refine g_if (fun w3 => g_C (bad (fun o => by have := o.2.2.1; omega))) (fun w3 => ?_)
    refine g_C ?_
    refine g_if (fun w4 => ?_) (fun w4 => g_C (bad (fun o => by have := o.2.2.2.1; omega)))
    refine g_C ?_
    refine g_if (fun w5 => go f (by omega) ⟨by omega, by omega, by omega, by omega, Or.inl (by omega)⟩ hf) (fun w5 => ?_)
    refine g_if (fun w6 => ?_) (fun w6 => ?_)
    · have u11 : 0 ≤ u3 ∧ u3 ≤ 11 := by
        by_cases z : 0 ≤ u3 ∧ u3 ≤ 11
        · exact z
        · exact absurd (hf.mpr z) w6
      exact go f (by omega) ⟨by omega, by omega, by omega, by omega, Or.inl (by omega)⟩ hf
    · refine g_if (fun w7 => ?_) (fun w7 => ?_)
      · have u31 : 20 ≤ u3 ∧ u3 ≤ 31 := by
          by_cases z : 20 ≤ u3 ∧ u3 ≤ 31
          · exact z
          · exact absurd (hg.mpr z) w7
        exact go f (by omega) ⟨by omega, by omega, by omega, by omega, Or.inr u31⟩ hf
      · have n11 := hf.mp (by omega)
        have n31 := hg.mp (by omega)
        exact g_C (bad (fun o => by rcases o.2.2.2.2 with y | y; omega; exact n31 y))
  have fif : ∀ f : Int, (f = 0 ↔ ¬ (0 ≤ u3 ∧ u3 ≤ 11)) → wp_X11_rows_15 S K 0 u1 u2 u3 f m0 := by
    intro f hf
    refine u_X11_rows_15 ?_
    refine g_C ?_
    refine g_if (fun w => ?_) (fun w => ?_)
    · refine u_X11_rows_33 ?_
      exact g_C (mid f 0 hf ⟨fun _ => by omega, fun _ => rfl⟩)
    refine g_C ?_
    refine g_if (fun w2 => ?_) (fun w2 => ?_)
    · refine u_X11_rows_33 ?_
      exact g_C (mid f 0 hf ⟨fun _ => by omega, fun _ => rfl⟩)
    · exact g_C (mid f 1 hf ⟨fun z => absurd z (by decide), fun z => absurd ⟨by omega, by omega⟩ z⟩)
  refine u_X11_rows ?_
  refine g_if (fun w => ?_) (fun w => ?_)
  · refine u_X11_rows_14 ?_
    exact g_C (fif 0 ⟨fun _ => by omega, fun _ => rfl⟩)
  refine g_C ?_
  refine g_if (fun w2 => ?_) (fun w2 => ?_)
  · refine u_X11_rows_14 ?_
    exact g_C (fif 0 ⟨fun _ => by omega, fun _ => rfl⟩)
  · exact g_C (fif 1 ⟨fun z => absurd z (by decide), fun z => absurd ⟨by omega, by omega⟩ z⟩)
end
section
/-! all JUGS together; ice; rows -/
def tsum (g : Int → Int) : Nat → Int
  | 0 => 0
  | n + 1 => tsum g n + g n
theorem tsum_same {g g' : Int → Int} : ∀ n : Nat, (∀ j : Int, 0 ≤ j → j < n → g' j = g j) → tsum g' n = tsum g n := by
  intro n
  induction n with
  | zero => intro _; rfl
  | succ n ih =>
    intro h
    show tsum g' n + g' n = tsum g n + g n
    rw [ih (fun j j0 j1 => h j j0 (by omega)), h n (by omega) (by omega)]
theorem tsum_ext {g : Int → Int} {n : Nat} : ∀ k : Nat, (∀ j : Int, (n : Int) ≤ j → j < ((n + k : Nat) : Int) → g j = 0) → tsum g (n + k) = tsum g n := by
  intro k
  induction k with
  | zero => intro _; rfl
  | succ k ih =>
    intro h
    show tsum g (n + k) + g ((n + k : Nat) : Int) = tsum g n
    rw [ih (fun j j0 j1 => h j j0 (by omega)), h _ (by omega) (by omega)]
    omega
theorem tsum_b {g : Int → Int} {B : Int} (hB : 0 ≤ B) : ∀ n : Nat, n ≤ 6 → (∀ j : Int, 0 ≤ j → j < n → 0 ≤ g j ∧ g j ≤ B) → 0 ≤ tsum g n ∧ tsum g n ≤ n * B := by
  intro n
  induction n with
  | zero => intro _ _; exact ⟨Int.le_refl 0, by show (0 : Int) ≤ ((0 : Nat) : Int) * B; omega⟩
  | succ n ih =>
    intro hn h
    have a := ih (by omega) (fun j j0 j1 => h j j0 (by omega))
    have b := h n (by omega) (by omega)
    have e : ((n + 1 : Nat) : Int) * B = (n : Int) * B + B := by
      rw [show ((n + 1 : Nat) : Int) = (n : Int) + 1 by omega, Int.add_mul, Int.one_mul]
    show 0 ≤ tsum g n + g n ∧ tsum g n + g n ≤ ((n + 1 : Nat) : Int) * B
    rw [e]
    omega
def tgC (m : Mm) (c : Int) (j : Int) : Int := if m (c + 4) j = -1 ∧ m (c + 5) j = -1 then 0 else m (c + 6) j
def tgD (D : Int → Int) (j : Int) : Int := if D (35 + 4 * j + 3) = 1 then 0 else D (35 + 4 * j + 2)
def tall (D : Int → Int) : Int := tsum (tgD D) (D 5).toNat
theorem SR.allof {M : Mm} {c : Int} {D : Int → Int} (b5 : 0 ≤ D 5 ∧ D 5 ≤ 4) (r : SR M c D) : tsum (tgC M c) 4 = tall D := by
  obtain ⟨_, _, r4, r5, _⟩ := r
  unfold tall
  have e : (4 : Nat) = (D 5).toNat + (4 - (D 5).toNat) := by omega
  rw [e, tsum_ext _ (fun j j0 j1 => ?_)]
  · refine tsum_same _ (fun j j0 j1 => ?_)
    obtain ⟨q1, q2, q3⟩ := r4 j j0 (by omega)
    unfold tgC tgD
    rw [q2]
    by_cases z : D (35 + 4 * j + 3) = 1
    · rw [if_pos z, if_pos (by omega)]
    · rw [if_neg z, if_neg (by omega)]
  · have q := r5 j (by omega) (by omega)
    unfold tgC
    rw [if_pos q]
theorem zn_together {X : Mm} {S : Sh} {m : Mm} {K : Int → Mm → Prop} {c : Int} (hS : Shp S) (hm : Inv X S m) (hb : isSt c) (hk : 0 ≤ tsum (tgC m c) 4 → tsum (tgC m c) 4 ≤ 4000 → K (tsum (tgC m c) 4) m) : wp_X5_turnedTogether S m c K := by
  have bg : ∀ j : Int, 0 ≤ j → j < 4 → 0 ≤ tgC m c j ∧ tgC m c j ≤ 999 := fun j j0 j1 => by
    have b := hm.aB_5_6 hb j0 j1
    unfold tgC
    split <;> omega
  have L : ∀ (l k : Nat), k ≤ 4 → 5 - k ≤ l → wp_X5_turnedTogether_4 S K l c (tsum (tgC m c) k) k m := by
    intro l
    induction l with
    | zero => intro k _ h; exfalso; omega
    | succ l ih =>
      intro k k4 hl
      have bs := tsum_b (g := tgC m c) (B := 999) (by decide) k (by omega) (fun j j0 j1 => bg j j0 (by omega))
      refine u_X5_turnedTogether_4 ?_
      refine g_C ?_
      refine g_if (fun q => ?_) (fun q => ?_)
      · have e : k = 4 := by omega
        subst e
        exact hk (by omega) (by omega)
      · have bk := bg k (by omega) (by omega)
        have nx : ∀ v : Int, v = tgC m c k → wp_X5_turnedTogether_28 S (fun a0 a1 a2 M => wp_X5_turnedTogether_4 S K l a0 a1 a2 M) K c k (tsum (tgC m c) k) v m := by
          intro v ev
          refine u_X5_turnedTogether_28 ?_
          refine g_A (by omega) (by omega) ?_
          refine g_A (by omega) (by omega) ?_
          have := ih (k + 1) (by omega) (by omega)
          rw [ev]
          exact this
        refine ⟨hS.kB_5_0 hb, ?_⟩
        refine zh_gone hS hm hb (by omega) (by omega) (fun s1 s2 => g_ifF (by decide) (g_C (nx 0 ?_))) (fun s => g_ifT rfl ?_)
        · unfold tgC
          rw [if_pos ⟨s1, s2⟩]
        · refine g_getr 7 (c + 6) rfl (hS.kB_5_0 hb) (hm.fB_5_7 hb) (hS.nB_5_6 hb) ?_
          refine g_ldu (hS.kB_5_6 hb) (hS.lB_5_6 hb) (by omega) (by omega) (fun v ev => nx v ?_)
          unfold tgC
          rw [if_neg s, ev]
  refine u_X5_turnedTogether ?_
  refine g_C ?_
  refine g_C ?_
  exact ⟨5, L 5 0 (by omega) (by omega)⟩
theorem zn_turnedAll {X : Mm} {S : Sh} {m : Mm} {K : Int → Mm → Prop} (hS : Shp S) (hm : Inv X S m) (bj : jB m) (hk : 0 ≤ tall (m 346) → tall (m 346) ≤ 4000 → K (tall (m 346)) m) : wp_X12_turnedAll S m 336 K := by
  have b5 := hm.f_346_5
  have bg : ∀ j : Int, 0 ≤ j → j < m 346 5 → 0 ≤ tgD (m 346) j ∧ tgD (m 346) j ≤ 999 := fun j j0 j1 => by
    have b := bj j j0 j1
    unfold tgD
    split <;> omega
  have L : ∀ (l k : Nat), (k : Int) ≤ m 346 5 → 5 - k ≤ l → wp_X12_turnedAll_4 S K l 336 (tsum (tgD (m 346)) k) k m := by
    intro l
    induction l with
    | zero => intro k _ h; exfalso; omega
    | succ l ih =>
      intro k k4 hl
      have bs := tsum_b (g := tgD (m 346)) (B := 999) (by decide) k (by omega) (fun j j0 j1 => bg j j0 (by omega))
      refine u_X12_turnedAll_4 ?_
      refine g_getr 20 346 rfl hS.k336 hm.f_336_20 (by decide) ?_
      refine g_C ?_
      refine g_ldu hS.k346 hS.l346 (by decide) (by decide) (fun v ev => ?_)
      refine g_if (fun q => ?_) (fun q => ?_)
      · have e : (m 346 5).toNat = k := by omega
        unfold tall at hk
        rw [e] at hk
        exact hk (by omega) (by omega)
      · have bk := bg k (by omega) (by omega)
        have nx : ∀ v : Int, v = tgD (m 346) k → wp_X12_turnedAll_35 S (fun a0 a1 a2 M => wp_X12_turnedAll_4 S K l a0 a1 a2 M) K 336 k (tsum (tgD (m 346)) k) v m := by
          intro v ev
          refine u_X12_turnedAll_35 ?_
          refine g_A (by omega) (by omega) ?_
          refine g_A (by omega) (by omega) ?_
          have := ih (k + 1) (by omega) (by omega)
          rw [ev]
          exact this
        refine g_C ?_
        refine ⟨hS.k336, ?_⟩
        refine zt_jugOf hS hm (by omega) (by omega) (by omega) (by omega) ?_
        refine g_C ?_
        refine g_if (fun s => ?_) (fun s => g_C (nx 0 ?_))
        · refine g_C ?_
          refine ⟨hS.k336, ?_⟩
          refine zt_jugOf hS hm (by omega) (by omega) (by omega) (by omega) ?_
          refine nx _ ?_
          unfold tgD
          rw [if_neg s]
        · unfold tgD
          rw [if_pos (by omega)]
  refine u_X12_turnedAll ?_
  refine g_C ?_
  refine g_C ?_
  exact ⟨5, L 5 0 (by omega) (by omega)⟩
theorem zn_turnedIn {S : Sh} {m1 : Mm} {K : Int → Mm → Prop} {o : Option (List Cz)} {D : Int → Int} {n w i : Int} (hS : Shp S) (z1 : RZ S m1 n) (eD : m1 346 = D) (rr : RR m1 o) (hi : i = 0 ∨ i = 1) (w0 : 0 ≤ w) (w1 : w ≤ 100) (b7 : 0 ≤ D 7 ∧ D 7 ≤ 999) (hk : ∀ m2 : Mm, RZ S m2 n → m2 346 = D → RR m2 o → 0 ≤ tall (hrn o i D w.toNat) → tall (hrn o i D w.toNat) ≤ 4000 → K (tall (hrn o i D w.toNat)) m2) : wp_X12_turnedIn S m1 336 w i K := by
  have hm1 := z1.inv
  have db := z1.db
  rw [eD] at db
  have i0 := z1.2.2.2.2.2.2.2.2
  refine u_X12_turnedIn ?_
  refine ⟨hS.k336, ?_⟩
  refine zx_keeps hS hm1 (fun m2 hm2 f2 g2 => ?_)
  refine g_putz 23 rfl hS.k336 hi (hm2.w_336_23 (by omega) (by omega)) (fun m3 e3 hm3 => ?_)
  have f3 : ∀ c p : Int, ¬ (c = 336 ∧ p = 23) → m3 c p = m2 c p := fun c p q => (congrFun (congrFun e3 _) _).trans (up_ne q)
  have y3 : m3 336 23 = i := (congrFun (congrFun e3 _) _).trans (up_at _ _ _ _)
  refine g_C ?_
  have e46 : m3 346 = D := by rw [← eD]; exact funext (fun p => by rw [f3 346 p (by first | decide | exact fun z => absurd z.1 (by decide) | exact ⟨fun z => absurd z.1 (by decide), fun z => absurd z.1 (by decide)⟩ | omega), f2 346 p (by first | decide | exact fun z => absurd z.1 (by decide) | exact ⟨fun z => absurd z.1 (by decide), fun z => absurd z.1 (by decide)⟩ | omega)])
  have L : ∀ (l k : Nat) (M : Mm), (k : Int) ≤ w → Inv (up (sf m1) (-1) 0 1) S M → (∀ c p : Int, ¬ c = 344 → ¬ c = 345 → ¬ (c = 336 ∧ p = 18) → ¬ c = 346 → M c p = m3 c p) → M 346 = hrn o i D k → jB M → w + 1 - k ≤ (l : Int) → wp_X12_turnedIn_11 S K l 336 w k M := by
    intro l
    induction l with
    | zero => intro k M k1 _ _ _ _ hl; exfalso; omega
    | succ l ih =>
      intro k M k1 hM F eM bj hl
      have ee : ∀ p : Int, ¬ mv p → M 346 p = D p := fun p q => by rw [eM]; exact hrn_e (by omega) (by omega) k p q
      refine u_X12_turnedIn_11 ?_
      refine g_if (fun q => ?_) (fun q => ?_)
      · have ek : w.toNat = k := by omega
        refine g_C ?_
        refine g_putz 23 rfl hS.k336 (Or.inl rfl) (hM.w_336_23 (by omega) (by omega)) (fun m4 e4 hm4 => ?_)
        have f4 : ∀ c p : Int, ¬ (c = 336 ∧ p = 23) → m4 c p = M c p := fun c p q => (congrFun (congrFun e4 _) _).trans (up_ne q)
        have y4 : m4 336 23 = 0 := (congrFun (congrFun e4 _) _).trans (up_at _ _ _ _)
        have e4M : m4 346 = M 346 := funext (fun p => f4 346 p (by first | decide | exact fun z => absurd z.1 (by decide) | exact ⟨fun z => absurd z.1 (by decide), fun z => absurd z.1 (by decide)⟩ | omega))
        refine ⟨hS.k336, ?_⟩
        refine zn_turnedAll hS hm4 (fun j j0 j1 => by rw [e4M] at j1 ⊢; exact bj j j0 j1) (fun t0 t1 => ?_)
        rw [e4M, eM, ← ek] at t0 t1 ⊢
        refine ⟨hS.k336, ?_⟩
        refine zx_laysBack hS hm4 (up_at _ _ _ _) (fun m5 hm5 f5 g5 => ?_)
        have F5 : ∀ c p : Int, ¬ c = 344 → ¬ c = 345 → ¬ c = 348 → ¬ (c = 336 ∧ (p = 18 ∨ p = 33)) → m5 c p = m1 c p := fun c p q1 q2 q3 q4 => by
          by_cases z : c = 346
          · subst z
            by_cases z2 : 0 ≤ p ∧ p < 57
            · rw [g5 p z2, f4 348 p (by first | decide | exact fun z => absurd z.1 (by decide) | exact ⟨fun z => absurd z.1 (by decide), fun z => absurd z.1 (by decide)⟩ | omega), F 348 p (by first | decide | exact fun z => absurd z.1 (by decide) | exact ⟨fun z => absurd z.1 (by decide), fun z => absurd z.1 (by decide)⟩ | omega) (by first | decide | exact fun z => absurd z.1 (by decide) | exact ⟨fun z => absurd z.1 (by decide), fun z => absurd z.1 (by decide)⟩ | omega) (by first | decide | exact fun z => absurd z.1 (by decide) | exact ⟨fun z => absurd z.1 (by decide), fun z => absurd z.1 (by decide)⟩ | omega) (by first | decide | exact fun z => absurd z.1 (by decide) | exact ⟨fun z => absurd z.1 (by decide), fun z => absurd z.1 (by decide)⟩ | omega), f3 348 p (by first | decide | exact fun z => absurd z.1 (by decide) | exact ⟨fun z => absurd z.1 (by decide), fun z => absurd z.1 (by decide)⟩ | omega), g2 p z2]
            · rw [f5 346 p (by first | decide | exact fun z => absurd z.1 (by decide) | exact ⟨fun z => absurd z.1 (by decide), fun z => absurd z.1 (by decide)⟩ | omega), f4 346 p (by first | decide | exact fun z => absurd z.1 (by decide) | exact ⟨fun z => absurd z.1 (by decide), fun z => absurd z.1 (by decide)⟩ | omega), ee p (by unfold mv; omega), eD]
          · by_cases z2 : c = 336 ∧ p = 23
            · rw [z2.1, z2.2, f5 336 23 (by first | decide | exact fun z => absurd z.1 (by decide) | exact ⟨fun z => absurd z.1 (by decide), fun z => absurd z.1 (by decide)⟩ | omega), y4, i0.2]
            · rw [f5 c p (by first | exact fun y => absurd (y.1 ▸ z) (by decide) | exact fun y => absurd (y.1 ▸ q) (by decide) | exact z | exact q | exact z.1 | exact q.1 | exact z.2 | exact q.2 | omega), f4 c p z2, F c p q1 q2 (by omega) z, f3 c p z2, f2 c p q3]
        exact hk m5 (RZ.laid (m0 := m1) z1 hm5.unflag F5) (by rw [← eD]; exact funext (fun p => F5 346 p (by first | decide | exact fun z => absurd z.1 (by decide) | exact ⟨fun z => absurd z.1 (by decide), fun z => absurd z.1 (by decide)⟩ | omega) (by first | decide | exact fun z => absurd z.1 (by decide) | exact ⟨fun z => absurd z.1 (by decide), fun z => absurd z.1 (by decide)⟩ | omega) (by first | decide | exact fun z => absurd z.1 (by decide) | exact ⟨fun z => absurd z.1 (by decide), fun z => absurd z.1 (by decide)⟩ | omega) (by first | decide | exact fun z => absurd z.1 (by decide) | exact ⟨fun z => absurd z.1 (by decide), fun z => absurd z.1 (by decide)⟩ | omega))) (rr.keep (fun c p q => F5 c p (by omega) (by omega) (by omega) (by omega))) t0 t1
      · refine ⟨hS.k336, ?_⟩
        refine zn_passes (o := o) hS hM (rr.keep (fun c p q => by rw [F c p (by omega) (by omega) (by omega) (by omega), f3 c p (by first | exact fun y => absurd (y.1 ▸ z) (by decide) | exact fun y => absurd (y.1 ▸ q) (by decide) | exact z | exact q | exact z.1 | exact q.1 | exact z.2 | exact q.2 | omega), f2 c p (by first | exact fun y => absurd (y.1 ▸ z) (by decide) | exact fun y => absurd (y.1 ▸ q) (by decide) | exact z | exact q | exact z.1 | exact q.1 | exact z.2 | exact q.2 | omega)])) (by rw [eM, hrn_7]; omega) bj (fun r9 m4 hm4 f4 e4 b4 => ?_)
        refine g_A (by omega) (by omega) ?_
        refine ih (k + 1) m4 (by omega) hm4 (fun c p q1 q2 q3 q4 => by rw [f4 c p q1 q2 q3 q4, F c p q1 q2 q3 q4]) ?_ b4 (by omega)
        rw [e4, F 336 23 (by first | decide | exact fun z => absurd z.1 (by decide) | exact ⟨fun z => absurd z.1 (by decide), fun z => absurd z.1 (by decide)⟩ | omega) (by first | decide | exact fun z => absurd z.1 (by decide) | exact ⟨fun z => absurd z.1 (by decide), fun z => absurd z.1 (by decide)⟩ | omega) (by first | decide | exact fun z => absurd z.1 (by decide) | exact ⟨fun z => absurd z.1 (by decide), fun z => absurd z.1 (by decide)⟩ | omega) (by first | decide | exact fun z => absurd z.1 (by decide) | exact ⟨fun z => absurd z.1 (by decide), fun z => absurd z.1 (by decide)⟩ | omega), y3, eM]
        rfl
  refine ⟨(w + 1).toNat, L (w + 1).toNat 0 m3 (by omega) hm3 (fun _ _ _ _ _ _ => rfl) e46 (fun j j0 j1 => ?_) (by omega)⟩
  rw [e46, ← eD] at j1 ⊢
  rw [← (z1.jg j0 j1).2.1]
  exact hm1.aB_5_6 (c := 16) (by decide) j0 (by rw [eD] at j1; omega)
theorem zz_ice {S : Sh} {m0 : Mm} {K : Int → Int → Mm → Prop} {K1 : Int → Mm → Prop} {n w : Int} (hS : Shp S) (hz : RZ S m0 n) (hn : n ≤ 700) (hK : ∀ (r : Int) (M : Mm), wp_X12_ice S M 336 w (fun r2 M2 => K r r2 M2) → K1 r M) (hk : ∀ (r : Int) (M1 : Mm), RZ S M1 n → K r r M1) : wp_X11_ice S m0 0 w K1 := by
  have hm := hz.inv
  have ct := hz.ct
  obtain ⟨o, rc, rr⟩ := hz.rule
  have h7 : m0 16 0 = m0 346 7 := hz.sr.1.1
  have b16 := hm.f_16_0
  have hb16 : m0 16 0 ≤ n := hz.2.2.2.1.1
  have i0 := hz.2.2.2.2.2.2.2.2
  obtain ⟨D, eD⟩ : ∃ D : Int → Int, m0 346 = D := ⟨_, rfl⟩
  have dbD : DB D := by rw [← eD]; exact hz.rd.1.1
  have b3D : D 3 ≤ 8 := by rw [← eD]; exact hz.rd.1.2
  have srD : SR m0 16 D := by rw [← eD]; exact hz.sr
  have tlD : TL 4 D m0 := by rw [← eD]; exact hz.tl
  have no : ∀ r : Int, r = -1 → (m0 346 0 = 0 ∨ ¬ (1 ≤ w ∧ w ≤ 60)) → wp_X12_ice S m0 336 w (fun r2 M2 => K r r2 M2) := by
    intro r er q
    rw [er]
    refine u_X12_ice ?_
    refine ⟨hS.k336, ?_⟩
    refine zs_isDairy hS hm (fun c1 => g_ifF (by decide) ?_) (fun c1 => g_ifT rfl (g_C (hk _ m0 hz)))
    refine g_C ?_
    refine g_C ?_
    refine g_C ?_
    exact zs_in (fun c2 => absurd c2 (q.resolve_left c1)) (fun c2 => g_ifT rfl (g_C (hk _ m0 hz)))
  refine u_X11_ice ?_
  refine g_getr 1 3 rfl hS.k0 hm.f_0_1 (by decide) ?_
  refine g_getr 0 4 rfl hS.k3 hm.f_3_0 (by decide) ?_
  refine g_getu 0 rfl hS.k4 (fun v ev => ?_)
  refine g_if (fun q => g_C (hK _ _ (no _ rfl (Or.inl (by omega))))) (fun q => ?_)
  refine g_C ?_
  refine g_if (fun q1 => g_C (hK _ _ (no _ rfl (Or.inr (by omega))))) (fun q1 => ?_)
  refine g_C ?_
  refine g_if (fun q2 => ?_) (fun q2 => g_C (hK _ _ (no _ rfl (Or.inr (by omega)))))
  refine g_getr 15 68 rfl hS.k0 hm.f_0_15 (by decide) ?_
  refine g_getr 1 3 rfl hS.k0 hm.f_0_1 (by decide) ?_
  refine g_getr 1 16 rfl hS.k3 hm.f_3_1 (by decide) ?_
  refine ⟨hS.k68, ?_⟩
  refine zn_sup (D := D) hS hm dbD srD (fun m1 hm1 f1 s1 => ?_)
  refine g_getr 11 57 rfl hS.k0 hm1.f_0_11 (by decide) ?_
  refine g_getr 15 68 rfl hS.k0 hm1.f_0_15 (by decide) ?_
  refine ⟨hS.k57, ?_⟩
  refine zn_passSeveral (o := o) (D := D) (i := 0) hS hm1 (rc.keep (fun c p q => f1 c p (by first | exact fun y => absurd (y.1 ▸ z) (by decide) | exact fun y => absurd (y.1 ▸ q) (by decide) | exact z | exact q | exact z.1 | exact q.1 | exact z.2 | exact q.2 | omega))) dbD b3D s1 (tlD.move dbD b3D (fun p _ _ => f1 _ p (by omega)) (fun c p q => f1 _ p (by unfold inT at q; omega)) (fun p _ => rfl)) (by rw [f1 55 2 (by first | decide | exact fun z => absurd z.1 (by decide) | exact ⟨fun z => absurd z.1 (by decide), fun z => absurd z.1 (by decide)⟩ | omega), i0.1]) (by omega) (by omega) (by rw [← eD]; omega) (fun m2 hm2 f2 s2 => ?_)
  have F2 : ∀ c p : Int, ¬ c = 56 → ¬ (c = 55 ∧ 4 ≤ p) → ¬ (68 ≤ c ∧ c ≤ 75) → m2 c p = m0 c p := fun c p a b d => by rw [f2 c p a b d, f1 c p d]
  refine g_getr 15 68 rfl hS.k0 hm2.f_0_15 (by decide) ?_
  refine ⟨hS.k68, ?_⟩
  refine zn_together hS hm2 (by decide) (fun t0 t1 => ?_)
  rw [s2.allof (dbD.hrn w.toNat).2.1] at t0 t1 ⊢
  refine g_getr 15 68 rfl hS.k0 hm2.f_0_15 (by decide) ?_
  refine g_getr 1 3 rfl hS.k0 hm2.f_0_1 (by decide) ?_
  refine g_getr 1 16 rfl hS.k3 hm2.f_3_1 (by decide) ?_
  refine ⟨hS.k68, ?_⟩
  refine zn_sup (D := D) hS hm2 dbD (srD.move dbD (fun p _ _ => F2 _ p (by omega) (by omega) (by omega)) (fun c p q => F2 _ p (by unfold inS at q; omega) (by unfold inS at q; omega) (by unfold inS at q; omega)) (fun _ _ _ => rfl)) (fun m3 hm3 f3 s3 => ?_)
  have F3 : ∀ c p : Int, ¬ c = 56 → ¬ (c = 55 ∧ 4 ≤ p) → ¬ (68 ≤ c ∧ c ≤ 75) → m3 c p = m0 c p := fun c p a b d => by rw [f3 c p d, F2 c p a b d]
  refine g_getr 10 55 rfl hS.k0 hm3.f_0_10 (by decide) ?_
  refine g_C ?_
  refine g_putz 2 rfl hS.k55 (Or.inr rfl) (hm3.w_55_2 (by decide) (by decide)) (fun m4 e4 hm4 => ?_)
  have f4 : ∀ c p : Int, ¬ (c = 55 ∧ p = 2) → m4 c p = m3 c p := fun c p q => (congrFun (congrFun e4 _) _).trans (up_ne q)
  have y4 : m4 55 2 = 1 := (congrFun (congrFun e4 _) _).trans (up_at _ _ _ _)
  have F4 : ∀ c p : Int, ¬ c = 56 → ¬ (c = 55 ∧ (4 ≤ p ∨ p = 2)) → ¬ (68 ≤ c ∧ c ≤ 75) → m4 c p = m0 c p := fun c p a b d => by rw [f4 c p (by first | exact fun y => absurd (y.1 ▸ z) (by decide) | exact fun y => absurd (y.1 ▸ q) (by decide) | exact z | exact q | exact z.1 | exact q.1 | exact z.2 | exact q.2 | omega), F3 c p a (by omega) d]
  refine g_getr 11 57 rfl hS.k0 hm4.f_0_11 (by decide) ?_
  refine g_getr 15 68 rfl hS.k0 hm4.f_0_15 (by decide) ?_
  refine ⟨hS.k57, ?_⟩
  refine zn_passSeveral (o := o) (D := D) (i := 1) hS hm4 (rc.keep (fun c p q => F4 c p (by omega) (by omega) (by omega))) dbD b3D (s3.move dbD (fun p _ _ => f4 _ p (by omega)) (fun c p q => f4 _ p (by unfold inS at q; omega)) (fun _ _ _ => rfl)) (tlD.move dbD b3D (fun p _ _ => F4 _ p (by omega) (by omega) (by omega)) (fun c p q => F4 _ p (by unfold inT at q; omega) (by unfold inT at q; omega) (by unfold inT at q; omega)) (fun p _ => rfl)) (by rw [y4]) (by omega) (by omega) (by rw [← eD]; omega) (fun m5 hm5 f5 s5 => ?_)
  refine g_getr 10 55 rfl hS.k0 hm5.f_0_10 (by decide) ?_
  refine g_C ?_
  refine g_putz 2 rfl hS.k55 (Or.inl rfl) (hm5.w_55_2 (by decide) (by decide)) (fun m6 e6 hm6 => ?_)
  have f6 : ∀ c p : Int, ¬ (c = 55 ∧ p = 2) → m6 c p = m5 c p := fun c p q => (congrFun (congrFun e6 _) _).trans (up_ne q)
  have y6 : m6 55 2 = 0 := (congrFun (congrFun e6 _) _).trans (up_at _ _ _ _)
  have F6 : ∀ c p : Int, ¬ c = 56 → ¬ (c = 55 ∧ 4 ≤ p) → ¬ (68 ≤ c ∧ c ≤ 75) → m6 c p = m0 c p := fun c p a b d => by
    by_cases z : c = 55 ∧ p = 2
    · rw [z.1, z.2, y6, i0.1]
    · rw [f6 c p z, f5 c p a b d, F4 c p a (by omega) d]
  refine g_getr 15 68 rfl hS.k0 hm6.f_0_15 (by decide) ?_
  refine ⟨hS.k68, ?_⟩
  have s6 : SR m6 68 (hrn o 1 D w.toNat) := s5.move (dbD.hrn _) (fun p _ _ => f6 _ p (by omega)) (fun c p q => f6 _ p (by unfold inS at q; omega)) (fun _ _ _ => rfl)
  refine zn_together hS hm6 (by decide) (fun t2 t3 => ?_)
  rw [s6.allof (dbD.hrn w.toNat).2.1] at t2 t3 ⊢
  refine g_S (by omega) (by omega) ?_
  have z6 : RZ S m6 n := hz.keep (hz.1.of hm6) (fun c p q => F6 c p (by unfold KZ at q; omega) (by unfold KZ at q; omega) (by unfold KZ at q; omega))
  have e46 : m6 346 = D := by rw [← eD]; exact funext (fun p => F6 346 p (by first | decide | exact fun z => absurd z.1 (by decide) | exact ⟨fun z => absurd z.1 (by decide), fun z => absurd z.1 (by decide)⟩ | omega) (by first | decide | exact fun z => absurd z.1 (by decide) | exact ⟨fun z => absurd z.1 (by decide), fun z => absurd z.1 (by decide)⟩ | omega) (by first | decide | exact fun z => absurd z.1 (by decide) | exact ⟨fun z => absurd z.1 (by decide), fun z => absurd z.1 (by decide)⟩ | omega))
  refine hK _ _ ?_
  refine u_X12_ice ?_
  refine ⟨hS.k336, ?_⟩
  refine zs_isDairy hS z6.inv (fun c1 => g_ifF (by decide) ?_) (fun c1 => absurd c1 (by rw [e46, ← eD]; omega))
  refine g_C ?_
  refine g_C ?_
  refine g_C ?_
  refine zs_in (fun c2 => g_ifF (by decide) ?_) (fun c2 => absurd (by omega) c2)
  refine g_C ?_
  refine ⟨hS.k336, ?_⟩
  refine zn_turnedIn (o := o) hS z6 e46 (rr.keep (fun c p q => F6 c p (by omega) (by omega) (by omega))) (Or.inl rfl) (by omega) (by omega) (by rw [← eD]; omega) (fun m7 z7 e7 rr7 u0 u1 => ?_)
  refine g_C ?_
  refine ⟨hS.k336, ?_⟩
  refine zn_turnedIn (o := o) hS z7 e7 rr7 (Or.inr rfl) (by omega) (by omega) (by rw [← eD]; omega) (fun m8 z8 e8 rr8 u2 u3 => ?_)
  refine g_S (by omega) (by omega) ?_
  exact hk _ m8 z8
theorem zz_rows {S : Sh} {m0 : Mm} {K : Int → Int → Mm → Prop} {K1 : Int → Mm → Prop} {n u1 u2 u3 : Int} (hS : Shp S) (hz : RZ S m0 n) (hK : ∀ (r : Int) (M : Mm), wp_X12_rows S M 336 u1 u2 u3 (fun r2 M2 => K r r2 M2) → K1 r M) (hk : ∀ (r : Int) (M1 : Mm), RZ S M1 n → K r r M1) : wp_X11_rows S m0 0 u1 u2 u3 K1 := by
  have hm := hz.inv
  have ct := hz.ct
  have db := hz.db
  have c4 : m0 4 4 = m0 346 4 := ct.2.2.2.2.1
  have sb : ∀ i : Int, 0 ≤ i → i < ((m0 4 4).toNat : Int) → 0 ≤ m0 7 i ∧ m0 7 i ≤ 20 := fun i i0 i1 => hm.a_7 i0 (by omega)
  refine zr_rows11 (sp := m0 7) (H := (m0 4 4).toNat) hS hm (by omega) (fun i _ _ => rfl) sb (fun r m1 hm1 f1 ra => ?_)
  have F1 : ∀ c p : Int, KZ c p → m1 c p = m0 c p := fun c p q => f1 c p (by unfold KZ at q; omega)
  have z1 : RZ S m1 n := hz.keep (hz.1.of hm1) F1
  have e46 : m1 346 = m0 346 := funext (fun p => f1 346 p (by first | decide | exact fun z => absurd z.1 (by decide) | exact ⟨fun z => absurd z.1 (by decide), fun z => absurd z.1 (by decide)⟩ | omega))
  refine hK _ _ ?_
  refine zr_rows12 (sp := m0 7) (H := (m0 4 4).toNat) hS z1.inv (by rw [e46]; omega) (fun i i0 i1 => ?_) sb (fun r2 m2 hm2 f2 ra2 => ?_)
  · rw [e46, show 13 + 5 * i = 10 + 5 * i + 3 by omega]
    exact (hz.sp i0 (by omega)).1.symm
  · rw [e46, ← ct.1] at ra2
    rw [← ra.uniq ra2]
    exact hk _ m2 (z1.keep (z1.1.of hm2) (fun c p q => f2 c p (by unfold KZ at q; omega) (by unfold KZ at q; omega)))
end
section
theorem rem64e {a b : Int} (h1 : 0 ≤ a) (h2 : a ≤ 9223372036854775807) (h3 : 0 < b) (h4 : b ≤ 9223372036854775807) : lRem a b = a % b := by
  have q := div64 h1 h2 h3 h4
  have w := ediv_mul_bd h1 h3
  unfold lDiv o64 at q
  unfold lRem o64
  rw [Int64.toInt_sub, Int64.toInt_mul, q, i64o (by omega) h2, i64o (by omega) h4, Int.bmod_eq_of_le (n := a / b * b) (by omega) (by omega), Int.bmod_eq_of_le (by omega) (by omega), Int.emod_def, Int.mul_comm]
def nxX (x : Int) : Int := (x * 1103515245 + 12345) % 2147483648
theorem nxX_b (x : Int) : 0 ≤ nxX x ∧ nxX x ≤ 2147483647 := by unfold nxX; omega
/-- a DRAW mod d -/
def drw (x d : Int) : Int := nxX x / 65536 % d
abbrev cT (D : Int → Int) (h j : Int) : Prop := D (10 + 5 * h + 1) = 0 ∧ (D (35 + 4 * j + 1) < 0 ∧ D (35 + 4 * j + 3) = 0) ∧ D (35 + 4 * j + 0) = D (10 + 5 * h + 0) ∧ bcF (hbD D h) < 2
def goD (f : Int → Int) (s : Dd × Int) (h : Int) : Dd × Int := if s.1 (10 + 5 * h + 1) = 0 then (if 0 < f (6 * s.1 (10 + 5 * h + 0) + drw s.2 (s.1 0)) then (ud (ud s.1 (10 + 5 * h + 1) (f (6 * s.1 (10 + 5 * h + 0) + drw s.2 (s.1 0)))) (10 + 5 * h) (drw s.2 (s.1 0)), nxX s.2) else (s.1, nxX s.2)) else s
def goN (f : Int → Int) (s : Dd × Int) : Nat → Dd × Int
  | 0 => s
  | k + 1 => goD f (goN f s k) k
def tkD (s : Dd × Int) (j : Int) : Dd × Int := if s.1 (35 + 4 * j + 1) < 0 ∧ s.1 (35 + 4 * j + 3) = 0 then (if cT s.1 (drw s.2 (s.1 4)) j then (ud s.1 (35 + 4 * j + 1) (drw s.2 (s.1 4)), nxX s.2) else (s.1, nxX s.2)) else s
def tkN (s : Dd × Int) : Nat → Dd × Int
  | 0 => s
  | k + 1 => tkD (tkN s k) k
def acD (f : Int → Int) (s : Dd × Int) : Dd × Int := if 0 < s.1 4 then tkN (goN f s (s.1 4).toNat) (s.1 5).toNat else goN f s (s.1 4).toNat
/-- an HOUR with its draws, n of them -/
def yhN (o : Option (List Cz)) (f : Int → Int) (s : Dd × Int) : Nat → Dd × Int
  | 0 => s
  | k + 1 => (hrow o 0 (acD f (yhN o f s k)).1, (acD f (yhN o f s k)).2)
/-- what draws and HOURS may change of a row -/
abbrev mu (p : Int) : Prop := p = 7 ∨ (10 ≤ p ∧ p < 35 ∧ (p - 10) % 5 ≤ 2) ∨ (35 ≤ p ∧ p < 51 ∧ ((p - 35) % 4 = 1 ∨ (p - 35) % 4 = 2))
abbrev eM (D E : Dd) : Prop := ∀ p : Int, ¬ mu p → E p = D p
theorem eM.go {f : Int → Int} {D : Dd} {s : Dd × Int} {h : Int} (e : eM D s.1) (h0 : 0 ≤ h) (h4 : h ≤ 4) : eM D (goD f s h).1 := by
  intro p q
  unfold goD
  by_cases a : s.1 (10 + 5 * h + 1) = 0
  · rw [if_pos a]
    by_cases b : 0 < f (6 * s.1 (10 + 5 * h + 0) + drw s.2 (s.1 0))
    · rw [if_pos b]
      show ud (ud s.1 _ _) _ _ p = _
      rw [ud_ne (by unfold mu at q; omega), ud_ne (by unfold mu at q; omega)]
      exact e p q
    · rw [if_neg b]; exact e p q
  · rw [if_neg a]; exact e p q
theorem eM.tk {D : Dd} {s : Dd × Int} {j : Int} (e : eM D s.1) (j0 : 0 ≤ j) (j3 : j ≤ 3) : eM D (tkD s j).1 := by
  intro p q
  unfold tkD
  by_cases a : s.1 (35 + 4 * j + 1) < 0 ∧ s.1 (35 + 4 * j + 3) = 0
  · rw [if_pos a]
    by_cases b : cT s.1 (drw s.2 (s.1 4)) j
    · rw [if_pos b]
      show ud s.1 _ _ p = _
      rw [ud_ne (by unfold mu at q; omega)]
      exact e p q
    · rw [if_neg b]; exact e p q
  · rw [if_neg a]; exact e p q
theorem eM.goN {f : Int → Int} {D : Dd} {s : Dd × Int} (e : eM D s.1) : ∀ k : Nat, k ≤ 5 → eM D (goN f s k).1 := by
  intro k
  induction k with
  | zero => intro _; exact e
  | succ k ih => intro hk; exact (ih (by omega)).go (by omega) (by omega)
theorem eM.tkN {D : Dd} {s : Dd × Int} (e : eM D s.1) : ∀ k : Nat, k ≤ 4 → eM D (tkN s k).1 := by
  intro k
  induction k with
  | zero => intro _; exact e
  | succ k ih => intro hk; exact (ih (by omega)).tk (by omega) (by omega)
theorem eM.ac {f : Int → Int} {D : Dd} {s : Dd × Int} (e : eM D s.1) (b4 : D 4 ≤ 5) (b5 : D 5 ≤ 4) : eM D (acD f s).1 := by
  have e4 := e 4 (by unfold mu; omega)
  have e5 := e 5 (by unfold mu; omega)
  unfold acD
  by_cases a : 0 < s.1 4
  · rw [if_pos a]
    exact (e.goN _ (by omega)).tkN _ (by omega)
  · rw [if_neg a]
    exact e.goN _ (by omega)
theorem eM.hr {o : Option (List Cz)} {i : Int} {D E : Dd} (e : eM D E) (b4 : D 4 ≤ 5) (b5 : D 5 ≤ 4) : eM D (hrow o i E) := by
  intro p q
  have e4 := e 4 (by unfold mu; omega)
  have e5 := e 5 (by unfold mu; omega)
  rw [hrow_e (by unfold mu at q; omega)]
  exact e p q
theorem eM.yh {o : Option (List Cz)} {f : Int → Int} {D : Dd} {s : Dd × Int} (e : eM D s.1) (b4 : D 4 ≤ 5) (b5 : D 5 ≤ 4) : ∀ k : Nat, eM D (yhN o f s k).1 := by
  intro k
  induction k with
  | zero => exact e
  | succ k ih => exact (ih.ac b4 b5).hr b4 b5
theorem acD_7 {f : Int → Int} {s : Dd × Int} (b4 : s.1 4 ≤ 5) (b5 : s.1 5 ≤ 4) : (acD f s).1 7 = s.1 7 := by
  have hg : ∀ k : Nat, k ≤ 5 → (goN f s k).1 7 = s.1 7 := by
    intro k
    induction k with
    | zero => intro _; rfl
    | succ k ih =>
      intro hk
      show (goD f (goN f s k) k).1 7 = _
      unfold goD
      split
      · split
        · show ud (ud _ _ _) _ _ 7 = _
          rw [ud_ne (by omega), ud_ne (by omega)]; exact ih (by omega)
        · exact ih (by omega)
      · exact ih (by omega)
  have ht : ∀ (t : Dd × Int) (k : Nat), k ≤ 4 → (tkN t k).1 7 = t.1 7 := by
    intro t k
    induction k with
    | zero => intro _; rfl
    | succ k ih =>
      intro hk
      show (tkD (tkN t k) k).1 7 = _
      unfold tkD
      split
      · split
        · show ud _ _ _ 7 = _
          rw [ud_ne (by omega)]; exact ih (by omega)
        · exact ih (by omega)
      · exact ih (by omega)
  unfold acD
  split
  · rw [ht _ _ (by omega)]; exact hg _ (by omega)
  · exact hg _ (by omega)
theorem yhN_7 {o : Option (List Cz)} {f : Int → Int} {D : Dd} {s : Dd × Int} (e : eM D s.1) (b4 : D 4 ≤ 5) (b5 : D 5 ≤ 4) : ∀ k : Nat, (yhN o f s k).1 7 = s.1 7 + k := by
  intro k
  induction k with
  | zero => show s.1 7 = s.1 7 + ((0 : Nat) : Int); omega
  | succ k ih =>
    show hrow o 0 (acD f (yhN o f s k)).1 7 = _
    have q := e.yh (o := o) (f := f) b4 b5 k
    have e4 := q 4 (by unfold mu; omega)
    have e5 := q 5 (by unfold mu; omega)
    rw [hrow_7, acD_7 (by omega) (by omega), ih]
    omega
/-- a draw of the reference -/
theorem zy_draw12 {X : Mm} {S : Sh} {m : Mm} {K : Int → Mm → Prop} {d : Int} (hS : Shp S) (hm : Inv X S m) (d0 : 0 < d) (d6 : d ≤ 6) (hk : ∀ M1 : Mm, Inv X S M1 → (∀ c p : Int, ¬ (c = 336 ∧ p = 33) → M1 c p = m c p) → M1 336 33 = nxX (m 336 33) → 0 ≤ drw (m 336 33) d → drw (m 336 33) d < d → K (drw (m 336 33) d) M1) : wp_X12_draw S m 336 d K := by
  have b := hm.f_336_33
  refine u_X12_draw ?_
  refine g_getu 33 rfl hS.k336 (fun x ex => ?_)
  refine g_C ?_
  refine g_LM (by omega) (by omega) ?_
  refine g_C ?_
  refine g_LA (by omega) (by omega) ?_
  refine g_C ?_
  refine ⟨by decide, ?_⟩
  rw [rem64e (by omega) (by omega) (by omega) (by omega)]
  have nb := nxX_b x
  have en : (x * 1103515245 + 12345) % 2147483648 = nxX x := rfl
  rw [en]
  refine g_put 33 rfl hS.k336 (hm.w_336_33 nb.1 nb.2) (fun m1 e1 hm1 => ?_)
  have f1 : ∀ c p : Int, ¬ (c = 336 ∧ p = 33) → m1 c p = m c p := fun c p q => (congrFun (congrFun e1 _) _).trans (up_ne q)
  have y1 : m1 336 33 = nxX x := (congrFun (congrFun e1 _) _).trans (up_at _ _ _ _)
  refine g_getu 33 rfl hS.k336 (fun v ev => ?_)
  rw [y1] at ev
  refine g_C ?_
  refine ⟨by decide, ?_⟩
  rw [div64 (by omega) (by omega) (by omega) (by omega)]
  refine g_C ?_
  refine ⟨by omega, ?_⟩
  rw [rem64e (by omega) (by omega) (by omega) (by omega)]
  have e2 : v / 65536 % d = drw (m 336 33) d := by rw [ev, ex]; rfl
  have c1 := Int.emod_nonneg (v / 65536) (show d ≠ 0 by omega)
  have c2 := Int.emod_lt_of_pos (v / 65536) d0
  rw [e2] at c1 c2 ⊢
  refine g_w32 (by omega) (by omega) ?_
  exact hk m1 hm1 f1 (by rw [y1, ex]) c1 c2
theorem hbD_R {m : Mm} {h : Int} : hbR m h = hbD (m 346) h := rfl
/-- what the draws make of the reference -/
theorem zy_acts12 {X : Mm} {S : Sh} {m0 : Mm} {K : Mm → Prop} {f : Int → Int} {D : Dd} (hS : Shp S) (hm : Inv X S m0) (e0 : eM D (m0 346)) (db : DB D) (b3 : D 3 ≤ 8) (p0 : 0 < D 0) (ro : RO D f) (fb : ∀ i : Int, 0 ≤ i → i < 36 → 0 ≤ f i ∧ f i ≤ 5) (hk : ∀ M1 : Mm, Inv X S M1 → (∀ c p : Int, ¬ c = 346 → ¬ (c = 336 ∧ p = 33) → M1 c p = m0 c p) → (M1 346, M1 336 33) = acD f (m0 346, m0 336 33) → (∀ j : Int, 0 ≤ j → M1 346 (35 + 4 * j + 2) = m0 346 (35 + 4 * j + 2)) → K M1) : wp_X12_actsDrawn S m0 336 K := by
  obtain ⟨b4, b5, _⟩ := id db
  have q4 := e0 4 (by unfold mu; omega)
  have q5 := e0 5 (by unfold mu; omega)
  have b0 := hm.f_346_0
  have q0 := e0 0 (by unfold mu; omega)
  have x0 : m0 346 0 = X 346 0 := hm.g (by decide)
  obtain ⟨s, es⟩ : ∃ s : Dd × Int, s = (m0 346, m0 336 33) := ⟨_, rfl⟩
  have es1 : s.1 = m0 346 := by rw [es]
  rw [← es] at hk
  -- the JUGS
  have L2 : ∀ (l k : Nat) (M : Mm), 0 < m0 346 4 → (k : Int) ≤ m0 346 5 → Inv X S M → (∀ c p : Int, ¬ c = 346 → ¬ (c = 336 ∧ p = 33) → M c p = m0 c p) → (M 346, M 336 33) = tkN (goN f s (s.1 4).toNat) k → (∀ j : Int, 0 ≤ j → M 346 (35 + 4 * j + 2) = m0 346 (35 + 4 * j + 2)) → 5 - k ≤ l → wp_X12_actsDrawn_57 S K l 336 k M := by
    intro l
    induction l with
    | zero => intro k M _ _ _ _ _ _ h; exfalso; omega
    | succ l ih =>
      intro k M p4 k1 hM F eM' J hl
      have e1 : M 346 = (tkN (goN f s (s.1 4).toNat) k).1 := congrArg Prod.fst eM'
      have e2 : M 336 33 = (tkN (goN f s (s.1 4).toNat) k).2 := congrArg Prod.snd eM'
      have eq : eM D (M 346) := by
        rw [e1]
        exact ((show eM D s.1 by rw [es1]; exact e0).goN _ (by rw [es1]; omega)).tkN _ (by omega)
      have m4 := eq 4 (by unfold mu; omega)
      have m5 := eq 5 (by unfold mu; omega)
      refine u_X12_actsDrawn_57 ?_
      refine g_getr 20 346 rfl hS.k336 hM.f_336_20 (by decide) ?_
      refine g_C ?_
      refine g_ldu hS.k346 hS.l346 (by decide) (by decide) (fun v ev => ?_)
      refine g_if (fun q => ?_) (fun q => ?_)
      · refine hk M hM F ?_ J
        unfold acD
        rw [if_pos (by rw [es1]; exact p4), show (s.1 5).toNat = k by rw [es1]; omega]
        exact eM'
      refine g_getr 20 346 rfl hS.k336 hM.f_336_20 (by decide) ?_
      refine g_C ?_
      refine g_ldu hS.k346 hS.l346 (by decide) (by decide) (fun v4 ev4 => ?_)
      refine g_ifF (by first | decide | omega) ?_
      have nx : ∀ M' : Mm, Inv X S M' → (∀ c p : Int, ¬ c = 346 → ¬ (c = 336 ∧ p = 33) → M' c p = m0 c p) → (M' 346, M' 336 33) = tkD (M 346, M 336 33) k → (∀ j : Int, 0 ≤ j → M' 346 (35 + 4 * j + 2) = m0 346 (35 + 4 * j + 2)) → wp_X12_actsDrawn_113 S (fun a0 a1 M => wp_X12_actsDrawn_57 S K l a0 a1 M) K 336 k M' := by
        intro M' hM' F' e' J'
        refine u_X12_actsDrawn_113 ?_
        refine g_A (by omega) (by omega) ?_
        refine ih (k + 1) M' p4 (by omega) hM' F' ?_ J' (by omega)
        rw [e', eM']
        rfl
      refine ⟨hS.k336, ?_⟩
      refine zt_stands hS hM (by omega) (by omega) (fun st => g_ifT (by decide) ?_) (fun st => g_ifF (by decide) (nx M hM F ?_ J))
      · refine g_getr 20 346 rfl hS.k336 hM.f_336_20 (by decide) ?_
        refine g_C ?_
        refine g_ldu hS.k346 hS.l346 (by decide) (by decide) (fun d ed => ?_)
        subst ed
        refine ⟨hS.k336, ?_⟩
        refine zy_draw12 hS hM (by omega) (by omega) (fun m1 hm1 f1 y1 d0 d1 => ?_)
        have em1 : m1 346 = M 346 := funext (fun p => f1 346 p (by first | decide | exact fun z => absurd z.1 (by decide) | exact ⟨fun z => absurd z.1 (by decide), fun z => absurd z.1 (by decide)⟩ | omega))
        have F1 : ∀ c p : Int, ¬ c = 346 → ¬ (c = 336 ∧ p = 33) → m1 c p = m0 c p := fun c p a b => by rw [f1 c p b, F c p a b]
        refine ⟨hS.k336, ?_⟩
        refine zt_takeR hS hm1 d0 (by omega) (by omega) (by omega) (fun ca => g_ifF (by decide) ?_) (fun ca => g_ifT rfl (nx m1 hm1 F1 ?_ (fun j j0 => by rw [em1]; exact J j j0)))
        · unfold StR at ca
          rw [hbD_R, em1] at ca
          refine ⟨hS.k336, ?_⟩
          refine zs_takes hS hm1 (by omega) (by omega) (by omega) (by omega) (fun m2 hm2 f2 y2 => ?_)
          refine nx m2 hm2 (fun c p a b => by rw [f2 c p (by first | exact fun y => absurd (y.1 ▸ z) (by decide) | exact fun y => absurd (y.1 ▸ q) (by decide) | exact z | exact q | exact z.1 | exact q.1 | exact z.2 | exact q.2 | omega), F1 c p a b]) ?_ (fun j j0 => by rw [f2 346 _ (by first | decide | exact fun z => absurd z.1 (by decide) | exact ⟨fun z => absurd z.1 (by decide), fun z => absurd z.1 (by decide)⟩ | omega), em1]; exact J j j0)
          have st' : (M 346, M 336 33).1 (35 + 4 * (k : Int) + 1) < 0 ∧ (M 346, M 336 33).1 (35 + 4 * (k : Int) + 3) = 0 := st
          unfold tkD
          rw [if_pos st', if_pos (show cT (M 346) (drw (M 336 33) (M 346 4)) k from ca)]
          refine Prod.ext ?_ ?_
          · funext p
            show m2 346 p = ud (M 346) (35 + 4 * (k : Int) + 1) (drw (M 336 33) (M 346 4)) p
            by_cases z : p = 35 + 4 * (k : Int) + 1
            · rw [z, y2, ud_at]
            · rw [f2 346 p (by first | decide | exact fun z => absurd z.1 (by decide) | exact ⟨fun z => absurd z.1 (by decide), fun z => absurd z.1 (by decide)⟩ | omega), ud_ne z, em1]
          · show m2 336 33 = nxX (M 336 33)
            rw [f2 336 33 (by first | decide | exact fun z => absurd z.1 (by decide) | exact ⟨fun z => absurd z.1 (by decide), fun z => absurd z.1 (by decide)⟩ | omega), y1]
        · unfold StR at ca
          rw [hbD_R, em1] at ca
          have st' : (M 346, M 336 33).1 (35 + 4 * (k : Int) + 1) < 0 ∧ (M 346, M 336 33).1 (35 + 4 * (k : Int) + 3) = 0 := st
          unfold tkD
          rw [if_pos st', if_neg (show ¬ cT (M 346) (drw (M 336 33) (M 346 4)) k from ca), em1, y1]
      · have st' : ¬ ((M 346, M 336 33).1 (35 + 4 * (k : Int) + 1) < 0 ∧ (M 346, M 336 33).1 (35 + 4 * (k : Int) + 3) = 0) := st
        unfold tkD
        rw [if_neg st']
  -- the HANDS
  have L1 : ∀ (l k : Nat) (M : Mm), (k : Int) ≤ m0 346 4 → Inv X S M → (∀ c p : Int, ¬ c = 346 → ¬ (c = 336 ∧ p = 33) → M c p = m0 c p) → (M 346, M 336 33) = goN f s k → (∀ j : Int, 0 ≤ j → M 346 (35 + 4 * j + 2) = m0 346 (35 + 4 * j + 2)) → 6 - k ≤ l → wp_X12_actsDrawn_2 S K l 336 k M := by
    intro l
    induction l with
    | zero => intro k M _ _ _ _ _ h; exfalso; omega
    | succ l ih =>
      intro k M k1 hM F eM' J hl
      have e1 : M 346 = (goN f s k).1 := congrArg Prod.fst eM'
      have eq : eM D (M 346) := by
        rw [e1]
        exact (show eM D s.1 by rw [es1]; exact e0).goN _ (by omega)
      have m4 := eq 4 (by unfold mu; omega)
      have m5 := eq 5 (by unfold mu; omega)
      have m00 := eq 0 (by unfold mu; omega)
      have roM : RO (M 346) f := ro.same b3 (fun p q => eq p (by unfold mu; omega))
      refine u_X12_actsDrawn_2 ?_
      refine g_getr 20 346 rfl hS.k336 hM.f_336_20 (by decide) ?_
      refine g_C ?_
      refine g_ldu hS.k346 hS.l346 (by decide) (by decide) (fun v ev => ?_)
      refine g_if (fun q => ?_) (fun q => ?_)
      · have ek : (s.1 4).toNat = k := by rw [es1]; omega
        refine g_C ?_
        by_cases p4 : 0 < m0 346 4
        · exact ⟨5, L2 5 0 M p4 (by omega) hM F (by rw [ek]; exact eM') J (by omega)⟩
        · refine ⟨1, ?_⟩
          have fin : K M := by
            refine hk M hM F ?_ J
            unfold acD
            rw [if_neg (by rw [es1]; exact p4), ek]
            exact eM'
          refine u_X12_actsDrawn_57 ?_
          refine g_getr 20 346 rfl hS.k336 hM.f_336_20 (by decide) ?_
          refine g_C ?_
          refine g_ldu hS.k346 hS.l346 (by decide) (by decide) (fun v5 ev5 => ?_)
          refine g_if (fun _ => fin) (fun _ => ?_)
          refine g_getr 20 346 rfl hS.k336 hM.f_336_20 (by decide) ?_
          refine g_C ?_
          refine g_ldu hS.k346 hS.l346 (by decide) (by decide) (fun v4 ev4 => ?_)
          exact g_ifT (by first | decide | omega) fin
      have nx : ∀ M' : Mm, Inv X S M' → (∀ c p : Int, ¬ c = 346 → ¬ (c = 336 ∧ p = 33) → M' c p = m0 c p) → (M' 346, M' 336 33) = goD f (M 346, M 336 33) k → (∀ j : Int, 0 ≤ j → M' 346 (35 + 4 * j + 2) = m0 346 (35 + 4 * j + 2)) → wp_X12_actsDrawn_49 S (fun a0 a1 M => wp_X12_actsDrawn_2 S K l a0 a1 M) K 336 k M' := by
        intro M' hM' F' e' J'
        refine u_X12_actsDrawn_49 ?_
        refine g_A (by omega) (by omega) ?_
        refine ih (k + 1) M' (by omega) hM' F' ?_ J' (by omega)
        rw [e', eM']
        rfl
      refine ⟨hS.k336, ?_⟩
      refine zt_atR hS hM (by omega) (by omega) (fun at0 => g_ifT (by decide) ?_) (fun at0 => g_ifF (by decide) (nx M hM F ?_ J))
      · have at' : (M 346, M 336 33).1 (10 + 5 * (k : Int) + 1) = 0 := at0
        refine g_getr 20 346 rfl hS.k336 hM.f_336_20 (by decide) ?_
        refine g_C ?_
        refine g_ldu hS.k346 hS.l346 (by decide) (by decide) (fun d ed => ?_)
        subst ed
        refine ⟨hS.k336, ?_⟩
        refine zy_draw12 hS hM (by omega) (by omega) (fun m1 hm1 f1 y1 d0 d1 => ?_)
        have em1 : m1 346 = M 346 := funext (fun p => f1 346 p (by first | decide | exact fun z => absurd z.1 (by decide) | exact ⟨fun z => absurd z.1 (by decide), fun z => absurd z.1 (by decide)⟩ | omega))
        have F1 : ∀ c p : Int, ¬ c = 346 → ¬ (c = 336 ∧ p = 33) → m1 c p = m0 c p := fun c p a b => by rw [f1 c p b, F c p a b]
        have ro1 : RO (m1 346) f := by rw [em1]; exact roM
        refine ⟨hS.k336, ?_⟩
        refine zs_canGo hS hm1 ro1 (by omega) (by omega) d0 (by omega) (fun ca => g_ifF (by decide) ?_) (fun ca => g_ifT rfl (nx m1 hm1 F1 ?_ (fun j j0 => by rw [em1]; exact J j j0)))
        · rw [em1] at ca
          refine ⟨hS.k336, ?_⟩
          refine zs_goes hS hm1 ro1 fb (by omega) (by omega) d0 (by omega) (by omega) (fun m2 hm2 f2 y2 y3 => ?_)
          rw [em1] at y2
          refine nx m2 hm2 (fun c p a b => by rw [f2 c p (by first | exact fun y => absurd (y.1 ▸ z) (by decide) | exact fun y => absurd (y.1 ▸ q) (by decide) | exact z | exact q | exact z.1 | exact q.1 | exact z.2 | exact q.2 | omega), F1 c p a b]) ?_ (fun j j0 => by rw [f2 346 _ (by first | decide | exact fun z => absurd z.1 (by decide) | exact ⟨fun z => absurd z.1 (by decide), fun z => absurd z.1 (by decide)⟩ | omega), em1]; exact J j j0)
          unfold goD
          rw [if_pos at', if_pos (show 0 < f (6 * M 346 (10 + 5 * (k : Int) + 0) + drw (M 336 33) (M 346 0)) from ca.2)]
          refine Prod.ext ?_ ?_
          · funext p
            show m2 346 p = ud (ud (M 346) (10 + 5 * (k : Int) + 1) (f (6 * M 346 (10 + 5 * (k : Int) + 0) + drw (M 336 33) (M 346 0)))) (10 + 5 * (k : Int)) (drw (M 336 33) (M 346 0)) p
            by_cases z : p = 10 + 5 * (k : Int)
            · rw [z, y3, ud_at]
            · rw [ud_ne z]
              by_cases z2 : p = 10 + 5 * (k : Int) + 1
              · rw [z2, y2, ud_at]
              · rw [f2 346 p (by first | decide | exact fun z => absurd z.1 (by decide) | exact ⟨fun z => absurd z.1 (by decide), fun z => absurd z.1 (by decide)⟩ | omega), ud_ne z2, em1]
          · show m2 336 33 = nxX (M 336 33)
            rw [f2 336 33 (by first | decide | exact fun z => absurd z.1 (by decide) | exact ⟨fun z => absurd z.1 (by decide), fun z => absurd z.1 (by decide)⟩ | omega), y1]
        · rw [em1] at ca
          unfold goD
          rw [if_pos at', if_neg (show ¬ 0 < f (6 * M 346 (10 + 5 * (k : Int) + 0) + drw (M 336 33) (M 346 0)) from fun z => ca ⟨at0, z⟩), em1, y1]
      · have at' : ¬ (M 346, M 336 33).1 (10 + 5 * (k : Int) + 1) = 0 := at0
        unfold goD
        rw [if_neg at']
  refine u_X12_actsDrawn ?_
  refine g_C ?_
  exact ⟨6, L1 6 0 m0 (by omega) hm (fun _ _ _ _ => rfl) es.symm (fun _ _ => rfl) (by omega)⟩
end
