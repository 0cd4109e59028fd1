section
/-! the reference reckons what the signs say -/
theorem iShr16 {a : Int} (h1 : 0 ≤ a) (h2 : a ≤ 2147483647) : iShr a 4 = a / 16 := by
  have e1 : (Int32.ofInt a).toBitVec.toInt = a := i32o (by omega) (by omega)
  have m1 : (Int32.ofInt a).toBitVec.msb = false := msb_of (by omega)
  have n1 := BitVec.toInt_eq_toNat_of_msb m1
  have es : ((Int32.ofInt 4 &&& 31).toBitVec.smod 32).toNat = 4 := by decide
  have e3 : iShr a 4 = ((Int32.ofInt a).toBitVec.sshiftRight ((Int32.ofInt 4 &&& 31).toBitVec.smod 32).toNat).toInt := rfl
  rw [e3, es, BitVec.sshiftRight_eq_of_msb_false m1]
  have hn : ((Int32.ofInt a).toBitVec >>> 4).toNat = (Int32.ofInt a).toBitVec.toNat / 16 := by
    rw [BitVec.toNat_ushiftRight]
    exact Nat.shiftRight_eq_div_pow _ _
  have hi := BitVec.toInt_eq_toNat_cond ((Int32.ofInt a).toBitVec >>> 4)
  rw [if_pos (by omega)] at hi
  omega
/-- a sign as the reference reads it -/
theorem en_val {x : Int} (h : -11 ≤ x ∧ x ≤ 99999 ∧ ¬ x = -1) : (0 ≤ x ∧ iAnd (en x) 15 = 0 ∧ iShr (en x) 4 = x) ∨ (x < 0 ∧ iAnd (en x) 15 = 1 ∧ iShr (en x) 4 = -2 - x) := by
  by_cases e : 0 ≤ x
  · left
    have e1 : en x = 0 + 16 * x := if_pos e
    rw [e1, iAnd15 (by omega) (by omega), iShr16 (by omega) (by omega)]
    exact ⟨e, by omega, by omega⟩
  · right
    have e1 : en x = 1 + 16 * (-2 - x) := (if_neg e).trans (if_pos h.1)
    rw [e1, iAnd15 (by omega) (by omega), iShr16 (by omega) (by omega)]
    exact ⟨by omega, by omega, by omega⟩
theorem en_op {x : Int} (h : -24 ≤ x ∧ x ≤ -12) : iAnd (en x) 15 = en x ∧ 2 ≤ en x ∧ en x ≤ 14 ∧ (en x = 11 ↔ x = -22) := by
  rcases (show x = -12 ∨ x = -13 ∨ x = -14 ∨ x = -15 ∨ x = -16 ∨ x = -17 ∨ x = -18 ∨ x = -19 ∨ x = -20 ∨ x = -21 ∨ x = -22 ∨ x = -23 ∨ x = -24 by omega) with e | e | e | e | e | e | e | e | e | e | e | e | e <;> subst e <;> decide +kernel
theorem zg_pop {X : Mm} {S : Sh} {m : Mm} {K : Int → Mm → Prop} (hS : Shp S) (hm : Inv X S m) (h0 : 1 ≤ m 336 18) (h1 : m 336 18 ≤ 64) (hk : ∀ M1 : Mm, Inv X S M1 → (∀ c p : Int, ¬ (c = 336 ∧ p = 18) → M1 c p = m c p) → M1 336 18 = m 336 18 - 1 → K (m 344 (m 336 18 - 1)) M1) : wp_X12_pop S m 336 K := by
  refine u_X12_pop ?_
  refine g_getu 18 rfl hS.k336 (fun v ev => ?_)
  refine g_C ?_
  refine g_S (by omega) (by omega) ?_
  refine g_put 18 rfl hS.k336 (hm.w_336_18 (by omega) (by omega)) (fun m1 e1 hm1 => ?_)
  have f1 : ∀ c p : Int, ¬ (c = 336 ∧ p = 18) → m1 c p = m c p := fun c p q => (congrFun (congrFun e1 _) _).trans (up_ne q)
  have x1 : m1 336 18 = v - 1 := (congrFun (congrFun e1 _) _).trans (up_at _ _ _ _)
  refine g_getr 17 344 rfl hS.k336 hm1.f_336_17 (by decide) ?_
  refine g_getu 18 rfl hS.k336 (fun v2 ev2 => ?_)
  refine g_ldu hS.k344 hS.l344 (by omega) (by omega) (fun v3 ev3 => ?_)
  have e3 : v3 = m 344 (m 336 18 - 1) := by
    rw [ev3, f1 344 _ (by first | decide | exact fun z => absurd z.1 (by decide) | exact ⟨fun z => absurd z.1 (by decide), fun z => absurd z.1 (by decide)⟩ | omega)]
    congr 1
    omega
  rw [e3]
  exact hk m1 hm1 f1 (by omega)
theorem zg_push {X : Mm} {S : Sh} {m : Mm} {K : Mm → Prop} {u : Int} (hS : Shp S) (hm : Inv X S m) (h0 : 0 ≤ m 336 18) (h1 : m 336 18 ≤ 63) (hk : ∀ M1 : Mm, Inv X S M1 → (∀ c p : Int, ¬ (c = 336 ∧ p = 18) ∧ ¬ (c = 344 ∧ p = m 336 18) → M1 c p = m c p) → M1 336 18 = m 336 18 + 1 → M1 344 (m 336 18) = u → K M1) : wp_X12_push S m 336 u K := by
  refine u_X12_push ?_
  refine g_getr 17 344 rfl hS.k336 hm.f_336_17 (by decide) ?_
  refine g_getu 18 rfl hS.k336 (fun v ev => ?_)
  refine g_st hS.k344 hS.l344 (by omega) (by omega) (hm.wa_344 (by omega) (by omega)) (fun m1 e1 hm1 => ?_)
  have f1 : ∀ c p : Int, ¬ (c = 344 ∧ p = v) → m1 c p = m c p := fun c p q => (congrFun (congrFun e1 _) _).trans (up_ne q)
  have x1 : m1 344 v = u := (congrFun (congrFun e1 _) _).trans (up_at _ _ _ _)
  refine g_getu 18 rfl hS.k336 (fun v2 ev2 => ?_)
  rw [f1 336 18 (by first | decide | exact fun z => absurd z.1 (by decide) | exact ⟨fun z => absurd z.1 (by decide), fun z => absurd z.1 (by decide)⟩ | omega)] at ev2
  refine g_C ?_
  refine g_A (by omega) (by omega) ?_
  refine g_put 18 rfl hS.k336 (hm1.w_336_18 (by omega) (by omega)) (fun m2 e2 hm2 => ?_)
  have f2 : ∀ c p : Int, ¬ (c = 336 ∧ p = 18) → m2 c p = m1 c p := fun c p q => (congrFun (congrFun e2 _) _).trans (up_ne q)
  have x2 : m2 336 18 = v2 + 1 := (congrFun (congrFun e2 _) _).trans (up_at _ _ _ _)
  refine hk m2 hm2 (fun c p q => (f2 c p (by first | exact fun y => absurd (y.1 ▸ z) (by decide) | exact fun y => absurd (y.1 ▸ q) (by decide) | exact z | exact q | exact z.1 | exact q.1 | exact z.2 | exact q.2 | omega)).trans (f1 c p (by first | exact fun y => absurd (y.1 ▸ z) (by decide) | exact fun y => absurd (y.1 ▸ q) (by decide) | exact z | exact q | exact z.1 | exact q.1 | exact z.2 | exact q.2 | omega))) (by omega) ?_
  rw [f2 344 _ (by first | decide | exact fun z => absurd z.1 (by decide) | exact ⟨fun z => absurd z.1 (by decide), fun z => absurd z.1 (by decide)⟩ | omega), ← ev]
  exact x1
theorem zg_one {S : Sh} {m0 : Mm} {K : Int → Mm → Prop} {x a b : Int} (hx : -24 ≤ x ∧ x ≤ -12) (hn : ¬ x = -22) (hk : K (jo x a b) m0) : wp_X12_one S m0 (en x) a b K := by
  have go : ∀ v : Int, v = jo x a b → K v m0 := fun v e => by rw [e]; exact hk
  clear hk
  refine u_X12_one ?_
  rcases (show x = -15 ∨ x = -16 ∨ x = -12 ∨ x = -13 ∨ x = -17 ∨ x = -18 ∨ x = -19 ∨ x = -20 ∨ x = -21 ∨ x = -23 ∨ x = -24 ∨ x = -14 by omega) with e | e | e | e | e | e | e | e | e | e | e | e <;> subst e
  · exact g_ifT (by decide) (go _ rfl)
  · exact g_ifF (by decide) (g_ifT (by decide) (go _ rfl))
  · exact g_ifF (by decide) (g_ifF (by decide) (g_ifT (by decide) (go _ rfl)))
  · have go2 : ∀ v : Int, v = (if b = 0 then 0 else lDiv a b) → K v m0 := go
    refine g_ifF (by decide) (g_ifF (by decide) (g_ifF (by decide) (g_ifT (by decide) ?_)))
    refine g_C ?_
    refine g_cmp (fun z => ?_) (fun z => ?_) (fun z => ?_)
    · exact g_ifT (by decide) (g_divE (by omega) (go2 _ (by rw [if_neg (by omega)])))
    · exact g_ifF (by decide) (g_C (go2 0 (by rw [if_pos z])))
    · exact g_ifT (by decide) (g_divE (by omega) (go2 _ (by rw [if_neg (by omega)])))
  · have go2 : ∀ v : Int, v = (if a < b then 1 else 0) → K v m0 := go
    refine g_ifF (by decide) (g_ifF (by decide) (g_ifF (by decide) (g_ifF (by decide) (g_ifT (by decide) ?_))))
    refine g_cmp (fun z => ?_) (fun z => ?_) (fun z => ?_)
    · exact g_ifF (by decide) (g_C (go2 1 (by rw [if_pos (by omega)])))
    · exact g_ifT (by decide) (g_C (go2 0 (by rw [if_neg (by omega)])))
    · exact g_ifT (by decide) (g_C (go2 0 (by rw [if_neg (by omega)])))
  · have go2 : ∀ v : Int, v = (if a ≤ b then 1 else 0) → K v m0 := go
    refine g_ifF (by decide) (g_ifF (by decide) (g_ifF (by decide) (g_ifF (by decide) (g_ifF (by decide) (g_ifT (by decide) ?_)))))
    refine g_cmp (fun z => ?_) (fun z => ?_) (fun z => ?_)
    · exact g_ifF (by decide) (g_C (go2 1 (by rw [if_pos (by omega)])))
    · exact g_ifF (by decide) (g_C (go2 1 (by rw [if_pos (by omega)])))
    · exact g_ifT (by decide) (g_C (go2 0 (by rw [if_neg (by omega)])))
  · have go2 : ∀ v : Int, v = (if a = b then 1 else 0) → K v m0 := go
    refine g_ifF (by decide) (g_ifF (by decide) (g_ifF (by decide) (g_ifF (by decide) (g_ifF (by decide) (g_ifF (by decide) (g_ifT (by decide) ?_))))))
    refine g_cmp (fun z => ?_) (fun z => ?_) (fun z => ?_)
    · exact g_ifT (by decide) (g_C (go2 0 (by rw [if_neg (by omega)])))
    · exact g_ifF (by decide) (g_C (go2 1 (by rw [if_pos (by omega)])))
    · exact g_ifT (by decide) (g_C (go2 0 (by rw [if_neg (by omega)])))
  · have go2 : ∀ v : Int, v = (if b ≤ a then 1 else 0) → K v m0 := go
    refine g_ifF (by decide) (g_ifF (by decide) (g_ifF (by decide) (g_ifF (by decide) (g_ifF (by decide) (g_ifF (by decide) (g_ifF (by decide) (g_ifT (by decide) ?_)))))))
    refine g_cmp (fun z => ?_) (fun z => ?_) (fun z => ?_)
    · exact g_ifT (by decide) (g_C (go2 0 (by rw [if_neg (by omega)])))
    · exact g_ifF (by decide) (g_C (go2 1 (by rw [if_pos (by omega)])))
    · exact g_ifF (by decide) (g_C (go2 1 (by rw [if_pos (by omega)])))
  · have go2 : ∀ v : Int, v = (if b < a then 1 else 0) → K v m0 := go
    refine g_ifF (by decide) (g_ifF (by decide) (g_ifF (by decide) (g_ifF (by decide) (g_ifF (by decide) (g_ifF (by decide) (g_ifF (by decide) (g_ifF (by decide) (g_ifT (by decide) ?_))))))))
    refine g_cmp (fun z => ?_) (fun z => ?_) (fun z => ?_)
    · exact g_ifT (by decide) (g_C (go2 0 (by rw [if_neg (by omega)])))
    · exact g_ifT (by decide) (g_C (go2 0 (by rw [if_neg (by omega)])))
    · exact g_ifF (by decide) (g_C (go2 1 (by rw [if_pos (by omega)])))
  · exact g_ifF (by decide) (g_ifF (by decide) (g_ifF (by decide) (g_ifF (by decide) (g_ifF (by decide) (g_ifF (by decide) (g_ifF (by decide) (g_ifF (by decide) (g_ifF (by decide) (g_ifF (by decide) (g_ifT (by decide) (go _ rfl)))))))))))
  · exact g_ifF (by decide) (g_ifF (by decide) (g_ifF (by decide) (g_ifF (by decide) (g_ifF (by decide) (g_ifF (by decide) (g_ifF (by decide) (g_ifF (by decide) (g_ifF (by decide) (g_ifF (by decide) (g_ifF (by decide) (g_ifT (by decide) (go _ rfl))))))))))))
  · have go2 : ∀ v : Int, v = (if b = 0 then 0 else lRem a b) → K v m0 := go
    refine g_ifF (by decide) (g_ifF (by decide) (g_ifF (by decide) (g_ifF (by decide) (g_ifF (by decide) (g_ifF (by decide) (g_ifF (by decide) (g_ifF (by decide) (g_ifF (by decide) (g_ifF (by decide) (g_ifF (by decide) (g_ifF (by decide) (g_ifT (by decide) ?_))))))))))))
    refine g_C ?_
    refine g_cmp (fun z => ?_) (fun z => ?_) (fun z => ?_)
    · exact g_ifT (by decide) (g_divE (by omega) (go2 _ (by rw [if_neg (by omega)])))
    · exact g_ifF (by decide) (g_C (go2 0 (by rw [if_pos z])))
    · exact g_ifT (by decide) (g_divE (by omega) (go2 _ (by rw [if_neg (by omega)])))
/-- the reference's WORDS -/
def wdR (M : Mm) (j : Int) : Int := M 345 j
theorem zk_run {X : Mm} {S : Sh} {m0 : Mm} {K : Int → Mm → Prop} {t u3 : Int} (hS : Shp S) (ht0 : 0 ≤ t) (ht5 : t ≤ 5) (hu : u3 ≤ 400) : ∀ (V : List Int) (n : Nat) (i : Int) (m : Mm) (L : List Int) (D D' : List Bool), Inv X S m → (∀ c p : Int, ¬ c = 344 ∧ ¬ (c = 336 ∧ p = 18) → m c p = m0 c p) → Hs (fun j => m0 338 (400 * t + j)) i (V.map en) → i + (V.length : Int) ≤ u3 → 0 ≤ i → V.foldl ty1 (some D) = some D' → Bt L D → pl (m 344) (m 336 18 - 1 + 1).toNat = L → 0 ≤ m 336 18 → L.length + nvs V ≤ 64 → (∀ m' : Mm, Inv X S m' → (∀ c p : Int, ¬ c = 344 ∧ ¬ (c = 336 ∧ p = 18) → m' c p = m0 c p) → pl (m' 344) (m' 336 18 - 1 + 1).toNat = evl (wdR m0) L V → 0 ≤ m' 336 18 → wp_X12_reckons_8 S K n 336 t u3 (i + (V.length : Int)) m') → wp_X12_reckons_8 S K (V.length + n) 336 t u3 i m := by
  intro V
  induction V with
  | nil =>
    intro n i m L D D' hm F _ _ _ _ _ hp ht _ hc
    have q := hc m hm F hp ht
    have q2 : wp_X12_reckons_8 S K n 336 t u3 (i + ((0 : Nat) : Int)) m := q
    rw [show i + ((0 : Nat) : Int) = i by omega] at q2
    show wp_X12_reckons_8 S K (0 + n) 336 t u3 i m
    rw [Nat.zero_add]
    exact q2
  | cons x V ih =>
    intro n i m L D D' hm F hV hl hi hty hb hp ht hn hc
    obtain ⟨E, t1, t2⟩ := ty_split hty
    obtain ⟨b1, _⟩ := ev1_ty (w := wdR m0) t1 hb
    have rl1 : ((x :: V).length : Int) = (V.length : Int) + 1 := by rw [List.length_cons]; omega
    rw [rl1] at hl
    have hlen := congrArg List.length hp
    rw [pl_len] at hlen
    have nx : nvs (x :: V) = (if -11 ≤ x then 1 else 0) + nvs V := rfl
    have hx : m 338 (400 * t + i) = en x := by
      rw [F 338 _ (by first | decide | exact fun z => absurd z.1 (by decide) | exact ⟨fun z => absurd z.1 (by decide), fun z => absurd z.1 (by decide)⟩ | omega)]
      exact hV.1
    have fuel : (x :: V).length + n = (V.length + n) + 1 := by rw [List.length_cons]; omega
    rw [fuel]
    have go : ∀ m' : Mm, Inv X S m' → (∀ c p : Int, ¬ c = 344 ∧ ¬ (c = 336 ∧ p = 18) → m' c p = m0 c p) → pl (m' 344) (m' 336 18 - 1 + 1).toNat = ev1 (wdR m0) L x → 0 ≤ m' 336 18 → (ev1 (wdR m0) L x).length + nvs V ≤ 64 → wp_X12_reckons_129 S (fun a0 a1 a2 a3 M => wp_X12_reckons_8 S K (V.length + n) a0 a1 a2 a3 M) K 336 t u3 i m' := by
      intro m' hm' F' hp' ht' hn'
      refine u_X12_reckons_129 ?_
      refine g_A (by omega) (by omega) ?_
      refine ih n (i + 1) m' (ev1 (wdR m0) L x) E D' hm' F' hV.2 (by omega) (by omega) t2 b1 hp' ht' hn' (fun m2 hm2 F2 hp2 ht2 => ?_)
      have q := hc m2 hm2 F2 hp2 ht2
      rw [rl1, show i + ((V.length : Int) + 1) = i + 1 + (V.length : Int) by omega] at q
      exact q
    refine u_X12_reckons_8 ?_
    refine g_ifF (by first | decide | omega) ?_
    refine g_getr 3 338 rfl hS.k336 hm.f_336_3 (by decide) ?_
    refine g_C ?_
    refine g_M (by omega) (by omega) ?_
    refine g_A (by omega) (by omega) ?_
    refine g_ldu hS.k338 hS.l338 (by omega) (by omega) (fun v ev => ?_)
    refine g_C ?_
    refine g_Oe (fun s es => ?_)
    refine g_getr 3 338 rfl hS.k336 hm.f_336_3 (by decide) ?_
    refine g_C ?_
    refine g_M (by omega) (by omega) ?_
    refine g_A (by omega) (by omega) ?_
    refine g_ldu hS.k338 hS.l338 (by omega) (by omega) (fun v2 ev2 => ?_)
    refine g_C ?_
    refine g_Oe (fun r er => ?_)
    rw [ev, hx] at es
    rw [ev2, hx] at er
    have push : ∀ u : Int, -11 ≤ x → u = (if 0 ≤ x then x else wdR m0 (-2 - x)) → wp_X12_push S m 336 u (fun M => wp_X12_reckons_129 S (fun a0 a1 a2 a3 M => wp_X12_reckons_8 S K (V.length + n) a0 a1 a2 a3 M) K 336 t u3 i M) := by
      intro u e eu
      rw [if_pos e] at nx
      rw [ev_val _ _ e, List.length_cons] at go
      refine zg_push hS hm ht (by omega) (fun m4 hm4 f4 y4 z4 => ?_)
      refine go m4 hm4 (fun c p q => (f4 c p (by first | exact fun y => absurd (y.1 ▸ z) (by decide) | exact fun y => absurd (y.1 ▸ q) (by decide) | exact z | exact q | exact z.1 | exact q.1 | exact z.2 | exact q.2 | omega)).trans (F c p q)) ?_ (by omega) (by omega)
      have q := pl_push (g := m4 344) (t := m 336 18 - 1) (a := u) (by omega) hp (fun j j0 j1 => f4 344 j (by first | decide | exact fun z => absurd z.1 (by decide) | exact ⟨fun z => absurd z.1 (by decide), fun z => absurd z.1 (by decide)⟩ | omega)) (by rw [show m 336 18 - 1 + 1 = m 336 18 by omega]; exact z4)
      rw [y4, show m 336 18 + 1 - 1 + 1 = m 336 18 - 1 + 1 + 1 by omega, ← eu]
      exact q
    have bin : ∀ (bb aa : Int) (L' : List Int), (-24 ≤ x ∧ x ≤ -12) → ¬ x = -22 → L = bb :: aa :: L' → wIf (¬ s = 0) (wC 1 fun v34 => wIf (¬ s = v34) (wC 11 fun v36 => wIf (¬ s = v36) (isK S 336 12 ∧ (wp_X12_pop S m 336 <| fun v39 M38 => isK S 336 12 ∧ (wp_X12_pop S M38 336 <| fun v42 M41 => wp_X12_one S M41 s v42 v39 <| fun v45 M44 => isK S 336 12 ∧ (wp_X12_push S M44 336 v45 <| fun M47 => wp_X12_reckons_129 S (fun a0 a1 a2 a3 M => wp_X12_reckons_8 S K (V.length + n) a0 a1 a2 a3 M) K 336 t u3 i M47)))) (wC 1 fun v48 => isK S 336 12 ∧ (wp_X12_pop S m 336 <| fun v51 M50 => wLS v48 v51 fun v53 => isK S 336 12 ∧ (wp_X12_push S M50 336 v53 <| fun M55 => wp_X12_reckons_129 S (fun a0 a1 a2 a3 M => wp_X12_reckons_8 S K (V.length + n) a0 a1 a2 a3 M) K 336 t u3 i M55)))) (wGetR S m 336 12 19 fun v56 => wLd S m v56 16 r fun v58 => isK S 336 12 ∧ (wp_X12_push S m 336 v58 <| fun M60 => wp_X12_reckons_129 S (fun a0 a1 a2 a3 M => wp_X12_reckons_8 S K (V.length + n) a0 a1 a2 a3 M) K 336 t u3 i M60))) (wC r fun v61 => isK S 336 12 ∧ (wp_X12_push S m 336 v61 <| fun M63 => wp_X12_reckons_129 S (fun a0 a1 a2 a3 M => wp_X12_reckons_8 S K (V.length + n) a0 a1 a2 a3 M) K 336 t u3 i M63)) := by
      intro bb aa L' e e22 eL
      subst eL
      obtain ⟨o1, o2, o3, o4⟩ := en_op e
      rw [o1] at es
      subst es
      rw [if_neg (by omega)] at nx
      rw [ev_two _ _ (by omega) e22, List.length_cons] at go
      rw [List.length_cons, List.length_cons] at hn hlen
      obtain ⟨p0, p1, p2⟩ := pl_top (L := aa :: L') (by omega) hp
      obtain ⟨p3, p4, p5⟩ := pl_top (by omega) p2
      refine g_ifT (by first | decide | omega) ?_
      refine g_C ?_
      refine g_ifT (by first | decide | omega) ?_
      refine g_C ?_
      refine g_ifT (fun z => e22 (o4.mp z)) ?_
      refine ⟨hS.k336, ?_⟩
      refine zg_pop hS hm (by omega) (by omega) (fun m1 hm1 f1 y1 => ?_)
      refine ⟨hS.k336, ?_⟩
      refine zg_pop hS hm1 (by omega) (by omega) (fun m2 hm2 f2 y2 => ?_)
      rw [f1 344 _ (by first | decide | exact fun z => absurd z.1 (by decide) | exact ⟨fun z => absurd z.1 (by decide), fun z => absurd z.1 (by decide)⟩ | omega), y1, p1, p4]
      refine zg_one e e22 ?_
      refine ⟨hS.k336, ?_⟩
      refine zg_push hS hm2 (by omega) (by omega) (fun m4 hm4 f4 y4 z4 => ?_)
      refine go m4 hm4 (fun c p q => (f4 c p (by first | exact fun y => absurd (y.1 ▸ z) (by decide) | exact fun y => absurd (y.1 ▸ q) (by decide) | exact z | exact q | exact z.1 | exact q.1 | exact z.2 | exact q.2 | omega)).trans ((f2 c p (by first | exact fun y => absurd (y.1 ▸ z) (by decide) | exact fun y => absurd (y.1 ▸ q) (by decide) | exact z | exact q | exact z.1 | exact q.1 | exact z.2 | exact q.2 | omega)).trans ((f1 c p (by first | exact fun y => absurd (y.1 ▸ z) (by decide) | exact fun y => absurd (y.1 ▸ q) (by decide) | exact z | exact q | exact z.1 | exact q.1 | exact z.2 | exact q.2 | omega)).trans (F c p q)))) ?_ (by omega) (by omega)
      have q := pl_push (g := m4 344) (t := m 336 18 - 1 - 1 - 1) (a := jo x aa bb) (by omega) p5 (fun j j0 j1 => by rw [f4 344 j (by first | decide | exact fun z => absurd z.1 (by decide) | exact ⟨fun z => absurd z.1 (by decide), fun z => absurd z.1 (by decide)⟩ | omega), f2 344 j (by first | decide | exact fun z => absurd z.1 (by decide) | exact ⟨fun z => absurd z.1 (by decide), fun z => absurd z.1 (by decide)⟩ | omega), f1 344 j (by first | decide | exact fun z => absurd z.1 (by decide) | exact ⟨fun z => absurd z.1 (by decide), fun z => absurd z.1 (by decide)⟩ | omega)]) (by rw [show m 336 18 - 1 - 1 - 1 + 1 = m2 336 18 by omega]; exact z4)
      rw [show m4 336 18 - 1 + 1 = m 336 18 - 1 - 1 - 1 + 1 + 1 by omega]
      exact q
    rcases ty_cases t1 with ⟨e, _⟩ | ⟨e, E', e1', _⟩ | ⟨e, E', e1', _⟩ | ⟨e, E', e1', _⟩ | ⟨e, E', e1', _⟩
    · rcases en_val e with ⟨a1, a2, a3⟩ | ⟨a1, a2, a3⟩
      · rw [a2] at es
        rw [a3] at er
        refine g_ifF (by first | decide | omega) ?_
        refine g_C ?_
        exact ⟨hS.k336, push r e.1 (by rw [if_pos a1]; exact er)⟩
      · rw [a2] at es
        rw [a3] at er
        refine g_ifT (by first | decide | omega) ?_
        refine g_C ?_
        refine g_ifF (by first | decide | omega) ?_
        refine g_getr 19 345 rfl hS.k336 hm.f_336_19 (by decide) ?_
        refine g_ldu hS.k345 hS.l345 (by omega) (by omega) (fun x5 ex5 => ?_)
        refine ⟨hS.k336, push x5 e.1 ?_⟩
        rw [if_neg (by omega), ex5, er, F 345 _ (by first | decide | exact fun z => absurd z.1 (by decide) | exact ⟨fun z => absurd z.1 (by decide), fun z => absurd z.1 (by decide)⟩ | omega)]
        rfl
    · subst e1'
      obtain ⟨bb, aa, L', eL, _, _, _⟩ := hb.two
      exact bin bb aa L' (by omega) (by omega) eL
    · subst e1'
      obtain ⟨bb, aa, L', eL, _, _, _⟩ := hb.two
      exact bin bb aa L' (by omega) (by omega) eL
    · subst e1'
      obtain ⟨aa, L', rfl, _, _⟩ := hb.one
      obtain ⟨o1, o2, o3, o4⟩ := en_op (x := x) (by omega)
      rw [o1] at es
      rw [if_neg (by omega)] at nx
      rw [e, ev_not, List.length_cons] at go
      rw [List.length_cons] at hn hlen
      obtain ⟨p0, p1, p2⟩ := pl_top (L := L') (by omega) hp
      have s11 : s = 11 := es.trans (o4.mpr e)
      refine g_ifT (by first | decide | omega) ?_
      refine g_C ?_
      refine g_ifT (by first | decide | omega) ?_
      refine g_C ?_
      refine g_ifF (by first | decide | omega) ?_
      refine g_C ?_
      refine ⟨hS.k336, ?_⟩
      refine zg_pop hS hm (by omega) (by omega) (fun m1 hm1 f1 y1 => ?_)
      rw [p1]
      show isK S 336 12 ∧ wp_X12_push S m1 336 (w64 (1 - aa)) _
      refine ⟨hS.k336, ?_⟩
      refine zg_push hS hm1 (by omega) (by omega) (fun m4 hm4 f4 y4 z4 => ?_)
      refine go m4 hm4 (fun c p q => (f4 c p (by first | exact fun y => absurd (y.1 ▸ z) (by decide) | exact fun y => absurd (y.1 ▸ q) (by decide) | exact z | exact q | exact z.1 | exact q.1 | exact z.2 | exact q.2 | omega)).trans ((f1 c p (by first | exact fun y => absurd (y.1 ▸ z) (by decide) | exact fun y => absurd (y.1 ▸ q) (by decide) | exact z | exact q | exact z.1 | exact q.1 | exact z.2 | exact q.2 | omega)).trans (F c p q))) ?_ (by omega) (by omega)
      have q := pl_push (g := m4 344) (t := m 336 18 - 1 - 1) (a := w64 (1 - aa)) (by omega) p2 (fun j j0 j1 => by rw [f4 344 j (by first | decide | exact fun z => absurd z.1 (by decide) | exact ⟨fun z => absurd z.1 (by decide), fun z => absurd z.1 (by decide)⟩ | omega), f1 344 j (by first | decide | exact fun z => absurd z.1 (by decide) | exact ⟨fun z => absurd z.1 (by decide), fun z => absurd z.1 (by decide)⟩ | omega)]) (by rw [show m 336 18 - 1 - 1 + 1 = m1 336 18 by omega]; exact z4)
      rw [show m4 336 18 - 1 + 1 = m 336 18 - 1 - 1 + 1 + 1 by omega]
      exact q
    · subst e1'
      obtain ⟨bb, aa, L', eL, _, _, _⟩ := hb.two
      exact bin bb aa L' (by omega) (by omega) eL
theorem zk_reckons {X : Mm} {S : Sh} {m0 : Mm} {K : Int → Mm → Prop} {t u2 u3 : Int} {V : List Int} {d : Bool} (hS : Shp S) (hm0 : Inv X S m0) (ht0 : 0 ≤ t) (ht5 : t ≤ 5) (hV : Hs (fun j => m0 338 (400 * t + j)) u2 (V.map en)) (h2 : 0 ≤ u2) (h3 : u3 = u2 + (V.length : Int)) (h4 : u3 ≤ 400) (hty : tyl V = some [d]) (hn : nvs V ≤ 60) (hk : ∀ (r : Int) (M1 : Mm), Inv X S M1 → (∀ c p : Int, ¬ c = 344 ∧ ¬ (c = 336 ∧ p = 18) → M1 c p = m0 c p) → r = (evl (wdR m0) [] V).headD 0 → (d = true → r = 0 ∨ r = 1) → K r M1) : wp_X12_reckons S m0 336 t u2 u3 K := by
  refine u_X12_reckons ?_
  refine g_C ?_
  refine g_put 18 rfl hS.k336 (hm0.w_336_18 (by omega) (by omega)) (fun m1 e1 hm1 => ?_)
  have f1 : ∀ c p : Int, ¬ (c = 336 ∧ p = 18) → m1 c p = m0 c p := fun c p q => (congrFun (congrFun e1 _) _).trans (up_ne q)
  have x1 : m1 336 18 = 0 := (congrFun (congrFun e1 _) _).trans (up_at _ _ _ _)
  refine ⟨V.length + 1, zk_run hS ht0 ht5 h4 V 1 u2 m1 [] [] [d] hm1 (fun c p q => f1 c p (by first | exact fun y => absurd (y.1 ▸ z) (by decide) | exact fun y => absurd (y.1 ▸ q) (by decide) | exact z | exact q | exact z.1 | exact q.1 | exact z.2 | exact q.2 | omega)) hV (by omega) h2 hty trivial (by rw [x1]; rfl) (by omega) (by show 0 + nvs V ≤ 64; omega) (fun m2 hm2 F2 hp2 ht2 => ?_)⟩
  obtain ⟨a, ea, eb⟩ := Bt.sing (evl_ty (w := wdR m0) V [] [] [d] hty trivial).1
  rw [ea] at hp2
  obtain ⟨p0, p1, p2⟩ := pl_top (L := []) (by omega) hp2
  have z18 : m2 336 18 = 1 := by
    have q := congrArg List.length hp2
    rw [pl_len] at q
    have q2 : (m2 336 18 - 1 + 1).toNat = 1 := q
    omega
  refine u_X12_reckons_8 ?_
  refine g_ifT (by first | decide | omega) ?_
  refine ⟨hS.k336, ?_⟩
  refine zg_pop hS hm2 (by omega) (by omega) (fun m3 hm3 f3 y3 => ?_)
  rw [p1]
  exact hk a m3 hm3 (fun c p q => (f3 c p (by first | exact fun y => absurd (y.1 ▸ z) (by decide) | exact fun y => absurd (y.1 ▸ q) (by decide) | exact z | exact q | exact z.1 | exact q.1 | exact z.2 | exact q.2 | omega)).trans (F2 c p q)) (by rw [ea]; rfl) eb
/-- what holds of a rule's row of the reference: its clauses, where they lie -/
def RwR (M : Mm) (t : Int) (Cs : List Cz) : Prop := Hs (fun j => M 338 (400 * t + j)) 0 ((rowC Cs).map en) ∧ Tbl M t 0 0 Cs ∧ M 341 t = (Cs.length : Int) ∧ ((rowC Cs).length : Int) ≤ 400 ∧ Cs.length ≤ 12
theorem zk_summedBy {X : Mm} {S : Sh} {m0 : Mm} {K : Int → Mm → Prop} {t : Int} {Cs : List Cz} (hS : Shp S) (hm0 : Inv X S m0) (ht0 : 0 ≤ t) (ht5 : t ≤ 5) (hR : RwR m0 t Cs) (hn : nvs (rowC Cs) ≤ 60) (hk : ∀ M1 : Mm, Inv X S M1 → (∀ c p : Int, ¬ c = 344 ∧ ¬ (c = 336 ∧ p = 18) → M1 c p = m0 c p) → K (evC (wdR m0) Cs) M1) : wp_X12_summedBy S m0 336 t K := by
  obtain ⟨R1, R2, R3, R4, R5⟩ := hR
  have wsame : ∀ m : Mm, (∀ c p : Int, ¬ c = 344 ∧ ¬ (c = 336 ∧ p = 18) → m c p = m0 c p) → wdR m = wdR m0 := fun m F => funext (fun j => F 345 j (by first | decide | exact fun z => absurd z.1 (by decide) | exact ⟨fun z => absurd z.1 (by decide), fun z => absurd z.1 (by decide)⟩ | omega))
  have L : ∀ (l : List Cz) (n : Nat) (i a : Int) (m : Mm), (∀ M1 : Mm, Inv X S M1 → (∀ c p : Int, ¬ c = 344 ∧ ¬ (c = 336 ∧ p = 18) → M1 c p = m0 c p) → K (evC (wdR m0) l) M1) → Inv X S m → (∀ c p : Int, ¬ c = 344 ∧ ¬ (c = 336 ∧ p = 18) → m c p = m0 c p) → 0 ≤ i → i + (l.length : Int) = (Cs.length : Int) → 0 ≤ a → a + ((rowC l).length : Int) ≤ 400 → Hs (fun j => m0 338 (400 * t + j)) a ((rowC l).map en) → Tbl m0 t i a l → nvs (rowC l) ≤ 60 → l.length + 1 ≤ n → wp_X12_summedBy_2 S K n 336 t i m := by
    intro l
    induction l with
    | nil =>
      intro n i a m hk hm F i0 il _ _ _ _ _ hnn
      have il2 : i + ((0 : Nat) : Int) = (Cs.length : Int) := il
      cases n with
      | zero => exact absurd hnn (Nat.not_succ_le_zero _)
      | succ n =>
        refine u_X12_summedBy_2 ?_
        refine g_getr 6 341 rfl hS.k336 hm.f_336_6 (by decide) ?_
        refine g_ldu hS.k341 hS.l341 (by omega) (by omega) (fun v ev => ?_)
        rw [F 341 _ (by first | decide | exact fun z => absurd z.1 (by decide) | exact ⟨fun z => absurd z.1 (by decide), fun z => absurd z.1 (by decide)⟩ | omega), R3] at ev
        refine g_ifT (by first | decide | omega) ?_
        exact g_C (hk m hm F)
    | cons c l ih =>
      intro n i a m hk hm F i0 il a0 al hH hT hn hnn
      have il2 : i + ((l.length : Int) + 1) = (Cs.length : Int) := by
        rw [List.length_cons] at il
        omega
      rw [List.length_cons] at hnn
      have er : rowC (c :: l) = c.1 ++ (c.2.2 ++ rowC l) := by
        show (c.1 ++ c.2.2) ++ rowC l = _
        rw [List.append_assoc]
      rw [er] at al hH hn
      rw [List.map_append, List.map_append] at hH
      obtain ⟨H1, H2⟩ := Hs.app _ _ _ hH
      obtain ⟨H3, H4⟩ := Hs.app _ _ _ H2
      rw [List.length_map] at H3 H4
      rw [List.length_map] at H4
      rw [List.length_append, List.length_append] at al
      rw [nvs_app, nvs_app] at hn
      obtain ⟨⟨⟨T1, T2⟩, E1, E2, E3⟩, T4⟩ := hT
      have lr : ((row1 c).length : Int) = (c.1.length : Int) + (c.2.2.length : Int) := by
        show ((c.1 ++ c.2.2).length : Int) = _
        rw [List.length_append]
        omega
      cases n with
      | zero => exact absurd hnn (Nat.not_succ_le_zero _)
      | succ n =>
        -- the SUM
        have sum : ∀ m' : Mm, Inv X S m' → (∀ c p : Int, ¬ c = 344 ∧ ¬ (c = 336 ∧ p = 18) → m' c p = m0 c p) → (evC (wdR m0) (c :: l) = (evl (wdR m0) [] c.1).headD 0) → wp_X12_summedBy_58 S K 336 t (48 * t + 4 * i) m' := by
          intro m' hm' F' ee
          refine u_X12_summedBy_58 ?_
          refine g_getr 5 340 rfl hS.k336 hm'.f_336_5 (by decide) ?_
          refine g_ldu hS.k340 hS.l340 (by omega) (by omega) (fun v1 e1 => ?_)
          refine g_getr 5 340 rfl hS.k336 hm'.f_336_5 (by decide) ?_
          refine g_C ?_
          refine g_A (by omega) (by omega) ?_
          refine g_ldu hS.k340 hS.l340 (by omega) (by omega) (fun v2 e2 => ?_)
          rw [F' 340 _ (by first | decide | exact fun z => absurd z.1 (by decide) | exact ⟨fun z => absurd z.1 (by decide), fun z => absurd z.1 (by decide)⟩ | omega)] at e1 e2
          refine ⟨hS.k336, ?_⟩
          have hV : Hs (fun j => m' 338 (400 * t + j)) v1 (c.1.map en) := by
            rw [e1, E1]
            have e : (fun j => m' 338 (400 * t + j)) = (fun j => m0 338 (400 * t + j)) := funext (fun j => F' 338 _ (by first | decide | exact fun z => absurd z.1 (by decide) | exact ⟨fun z => absurd z.1 (by decide), fun z => absurd z.1 (by decide)⟩ | omega))
            rw [e]
            exact H1
          refine zk_reckons (V := c.1) (d := false) hS hm' ht0 ht5 hV (by omega) (by omega) (by omega) T1 (by omega) (fun r m2 hm2 f2 er2 _ => ?_)
          have q := hk m2 hm2 (fun c p z => (f2 c p z).trans (F' c p z))
          rw [ee, ← wsame m' F', ← er2] at q
          exact q
        refine u_X12_summedBy_2 ?_
        refine g_getr 6 341 rfl hS.k336 hm.f_336_6 (by decide) ?_
        refine g_ldu hS.k341 hS.l341 (by omega) (by omega) (fun v ev => ?_)
        rw [F 341 _ (by first | decide | exact fun z => absurd z.1 (by decide) | exact ⟨fun z => absurd z.1 (by decide), fun z => absurd z.1 (by decide)⟩ | omega), R3] at ev
        refine g_ifF (by first | decide | omega) ?_
        refine g_C ?_
        refine g_M (by omega) (by omega) ?_
        refine g_C ?_
        refine g_M (by omega) (by omega) ?_
        refine g_A (by omega) (by omega) ?_
        refine g_getr 5 340 rfl hS.k336 hm.f_336_5 (by decide) ?_
        refine g_C ?_
        refine g_A (by omega) (by omega) ?_
        refine g_ldu hS.k340 hS.l340 (by omega) (by omega) (fun v2 e2 => ?_)
        rw [F 340 _ (by first | decide | exact fun z => absurd z.1 (by decide) | exact ⟨fun z => absurd z.1 (by decide), fun z => absurd z.1 (by decide)⟩ | omega)] at e2
        rcases E3 with ⟨x1, x2, x3⟩ | ⟨x1, x2, x3⟩
        · refine g_ifT (by first | decide | omega) ?_
          refine sum m hm F ?_
          show (if c.2.1 = true ∧ (evl (wdR m0) [] c.2.2).headD 0 = 0 then evC (wdR m0) l else (evl (wdR m0) [] c.1).headD 0) = _
          rw [if_neg (fun z => by rw [x1] at z; cases z.1)]
        · refine g_ifF (by first | decide | omega) ?_
          refine g_getr 5 340 rfl hS.k336 hm.f_336_5 (by decide) ?_
          refine g_C ?_
          refine g_A (by omega) (by omega) ?_
          refine g_ldu hS.k340 hS.l340 (by omega) (by omega) (fun v3 e3 => ?_)
          refine g_getr 5 340 rfl hS.k336 hm.f_336_5 (by decide) ?_
          refine g_C ?_
          refine g_A (by omega) (by omega) ?_
          refine g_ldu hS.k340 hS.l340 (by omega) (by omega) (fun v4 e4 => ?_)
          rw [F 340 _ (by first | decide | exact fun z => absurd z.1 (by decide) | exact ⟨fun z => absurd z.1 (by decide), fun z => absurd z.1 (by decide)⟩ | omega)] at e3 e4
          refine ⟨hS.k336, ?_⟩
          have hV : Hs (fun j => m 338 (400 * t + j)) v3 (c.2.2.map en) := by
            rw [e3, x2]
            have e : (fun j => m 338 (400 * t + j)) = (fun j => m0 338 (400 * t + j)) := funext (fun j => F 338 _ (by first | decide | exact fun z => absurd z.1 (by decide) | exact ⟨fun z => absurd z.1 (by decide), fun z => absurd z.1 (by decide)⟩ | omega))
            rw [e]
            exact H3
          refine zk_reckons (V := c.2.2) (d := true) hS hm ht0 ht5 hV (by omega) (by omega) (by omega) (T2 x1) (by omega) (fun r m2 hm2 f2 er2 e01 => ?_)
          have F2 : ∀ c p : Int, ¬ c = 344 ∧ ¬ (c = 336 ∧ p = 18) → m2 c p = m0 c p := fun c p z => (f2 c p z).trans (F c p z)
          rw [wsame m F] at er2
          have r01 := e01 rfl
          have yes : ¬ r = 0 → evC (wdR m0) (c :: l) = (evl (wdR m0) [] c.1).headD 0 := by
            intro z
            show (if c.2.1 = true ∧ (evl (wdR m0) [] c.2.2).headD 0 = 0 then evC (wdR m0) l else (evl (wdR m0) [] c.1).headD 0) = _
            rw [if_neg (fun y => z (er2.trans y.2))]
          have no : r = 0 → wA i 1 fun v63 => wp_X12_summedBy_2 S K n 336 t v63 m2 := by
            intro z
            have ee : evC (wdR m0) (c :: l) = evC (wdR m0) l := by
              show (if c.2.1 = true ∧ (evl (wdR m0) [] c.2.2).headD 0 = 0 then evC (wdR m0) l else (evl (wdR m0) [] c.1).headD 0) = _
              rw [if_pos ⟨x1, er2.symm.trans z⟩]
            rw [ee] at hk
            rw [lr] at T4
            rw [show a + ((c.1.length : Int) + (c.2.2.length : Int)) = a + (c.1.length : Int) + (c.2.2.length : Int) by omega] at T4
            refine g_A (by omega) (by omega) ?_
            exact ih n (i + 1) _ m2 hk hm2 F2 (by omega) (by omega) (by omega) (by omega) H4 T4 (by omega) (by omega)
          refine g_C ?_
          refine g_cmp (fun w => ?_) (fun w => ?_) (fun w => ?_)
          · exact g_ifT (by decide) (no (by omega))
          · exact g_ifF (by decide) (sum m2 hm2 F2 (yes (by omega)))
          · exfalso; omega
  refine u_X12_summedBy ?_
  refine g_C ?_
  exact ⟨Cs.length + 1, L Cs (Cs.length + 1) 0 0 m0 hk hm0 (fun _ _ _ => rfl) (by decide) (by omega) (by decide) (by omega) R1 R2 hn (Nat.le_refl _)⟩
end
section
/-! at most 60 VALUES are written, and something -/
def Pz (P : List Int) : Prop := ∀ x : Int, x ∈ P → x < -11
theorem Pz.rR {u : Int} : ∀ P : List Int, Pz P → Pz (uR u P) := by
  intro P
  induction P with
  | nil => intro h; exact h
  | cons x P ih =>
    intro h
    by_cases e : x = -27 ∨ bnS x < u
    · rw [(uW_low e).2]; exact h
    · rw [(uW_top e).2]; exact ih (fun y hy => h y (List.mem_cons_of_mem _ hy))
theorem Pz.nW {u : Int} : ∀ P : List Int, Pz P → nvs (uW u P) = 0 := by
  intro P
  induction P with
  | nil => intro _; rfl
  | cons x P ih =>
    intro h
    by_cases e : x = -27 ∨ bnS x < u
    · rw [(uW_low e).1]; rfl
    · rw [(uW_top e).1]
      show (if -11 ≤ x then 1 else 0) + nvs (uW u P) = 0
      have := h x (List.mem_cons_self ..)
      rw [if_neg (by omega), ih (fun y hy => h y (List.mem_cons_of_mem _ hy))]
theorem Pz.cons {x : Int} {P : List Int} (h : x < -11) (hp : Pz P) : Pz (x :: P) := by
  intro y hy
  rcases List.mem_cons.mp hy with e | e
  · rw [e]; exact h
  · exact hp y e
theorem arS_r (x : Int) : -16 ≤ arS x ∧ arS x ≤ -12 := by
  unfold arS
  repeat' split
  all_goals decide
theorem cmS_r (x : Int) (e : Bool) : -21 ≤ cmS x e ∧ cmS x e ≤ -17 := by
  unfold cmS
  cases e <;> repeat' split
  all_goals decide
theorem nvs_one {O : List Int} {v : Int} : (nvs (O ++ [v]) : Int) ≤ nvs O + 1 := by
  rw [nvs_app]
  show ((nvs O + ((if -11 ≤ v then 1 else 0) + 0) : Nat) : Int) ≤ _
  split <;> omega
theorem nvs_tok {O : List Int} {v : Int} (h : v < -11) : nvs (O ++ [v]) = nvs O := by
  rw [nvs_app]
  show nvs O + ((if -11 ≤ v then 1 else 0) + 0) = _
  rw [if_neg (by omega)]
  rfl
def Bok (E : List Int) : Prop := nvs E ≤ 60 ∧ ¬ E = []
theorem bcc_ok {b : Int → Int} {n : Int} : ∀ (N : Nat) (m p c : Int) (P O : List Int) (k f : Int) (E : List Int), bcc b n N m p c P O k f E → f = 0 → (nvs O : Int) ≤ c → c ≤ 60 → Pz P → (¬ (0 ≤ m ∧ m ≤ 8) → ¬ O = []) → Bok E := by
  intro N
  induction N with
  | zero => intro m p c P O k f E h; exact h.elim
  | succ N ih =>
    intro m p c P O k f E h hf hc h60 hP hO
    obtain ⟨q, _, h⟩ := h
    have val : ∀ (v r : Int), ¬ c = 60 → (0 ≤ m + 3 ∧ m + 3 ≤ 8) → bcc b n N (m + 3) r (c + 1) P (O ++ [v]) k f E → Bok E := by
      intro v r h6 h9 z
      have := nvs_one (O := O) (v := v)
      exact ih _ _ _ _ _ _ _ _ z hf (by omega) (by omega) hP (fun y => absurd h9 y)
    have pil : ∀ (m' p' c' s : Int), s < -11 → (0 ≤ m' ∧ m' ≤ 8) → c ≤ c' → c' ≤ 60 → bPile (bcc b n N) m' p' c' s P O k f E → Bok E := by
      intro m' p' c' s hs h9 hc' h6 z
      have e := Pz.nW (u := bnS s) P hP
      exact ih _ _ _ _ _ _ _ _ z hf (by rw [nvs_app, e]; omega) h6 (Pz.cons hs (Pz.rR P hP)) (fun y => absurd h9 y)
    have bad : ∀ a : Int, (1 ≤ a ∧ a ≤ 5) → (f = a + 8 * q ∧ E = []) → Bok E := fun a ha z => by
      exfalso
      have := z.1
      omega
    have e0 := Pz.nW (u := 0) P hP
    have fin : ∀ t : Int, t < -11 → bcc b n N 9 q c [] (O ++ uW 0 P ++ [t]) k f E → Bok E := by
      intro t ht z
      exact ih _ _ _ _ _ _ _ _ z hf (by rw [nvs_tok ht, nvs_app, e0]; omega) h60 (fun x hx => absurd hx List.not_mem_nil) (fun _ y => by
        have := congrArg List.length y
        rw [List.length_append] at this
        exact absurd this (Nat.succ_ne_zero _))
    have bBk : bB b n (bcc b n N) q c P O k f E → Bok E := by
      intro g
      by_cases a : Wk b n 15 q
      · exact pil 8 _ c (-23) (by decide) (by decide) (by omega) h60 (g.1 a)
      · by_cases a2 : Wk b n 16 q
        · exact pil 8 _ c (-24) (by decide) (by decide) (by omega) h60 ((g.2 a).1 a2)
        · exact bad 1 (by decide) ((g.2 a).2 a2)
    have bCk : ∀ Z : Prop, (Z → Bok E) → bC b n (bcc b n N) q c P O k f E Z → Bok E := by
      intro Z hZ g
      by_cases a : q < n ∧ b q = 93 ∧ ¬ nOp P = 0
      · refine ih _ _ _ _ _ _ _ _ (g.1 a) hf (by rw [nvs_app, e0]; omega) h60 (fun x hx => Pz.rR (u := 0) P hP x (List.mem_of_mem_tail hx)) (fun y => absurd (by decide) y)
      · by_cases a2 : nOp P = 0 ∧ (n ≤ q ∨ b q = 59)
        · exact fin (-26) (by decide) ((g.2 a).1 a2)
        · exact hZ ((g.2 a).2 a2)
    by_cases m0 : m = 0
    · have g := h.1 m0
      by_cases a : Wk b n 6 q
      · by_cases a2 : k = 12
        · exact bad 5 (by decide) ((g.1 a).1 a2)
        · exact ih _ _ _ _ _ _ _ _ ((g.1 a).2 a2) hf hc h60 (fun x hx => absurd hx List.not_mem_nil) (fun y => absurd (by decide) y)
      · exact bad 1 (by decide) (g.2 a)
    have h1 := h.2 m0
    by_cases m1 : m = 1 ∨ m = 2 ∨ m = 3
    · have g := h1.1 m1
      by_cases a : q < n ∧ Dg (b q)
      · obtain ⟨r, _, g2⟩ := g.1 a
        by_cases a2 : 5 < r - q
        · exact bad 2 (by decide) (g2.1 a2)
        · by_cases a3 : c = 60
          · exact bad 4 (by decide) ((g2.2 a2).1 a3)
          · exact val _ _ a3 (by omega) ((g2.2 a2).2 a3)
      · have g2 := g.2 a
        have : ∀ l : List (Nat × Int), bV b n (bcc b n N) m q c P O k f E l → Bok E := by
          intro l
          induction l with
          | nil => intro z; exact bad 1 (by decide) z
          | cons j js ihl =>
            intro z
            by_cases w : Wk b n j.1 q
            · by_cases a3 : c = 60
              · exact bad 4 (by decide) ((z.1 w).1 a3)
              · exact val _ _ a3 (by omega) ((z.1 w).2 a3)
            · exact ihl (z.2 w)
        exact this _ g2
    have h2 := h1.2 m1
    by_cases m4 : m = 4
    · have g := h2.1 m4
      by_cases a : n ≤ q ∨ b q = 59
      · exact fin (-25) (by decide) (g.1 a)
      · by_cases a2 : Ar (b q)
        · have := arS_r (b q)
          exact pil 1 _ c _ (by omega) (by decide) (by omega) h60 ((g.2 a).1 a2)
        · by_cases a3 : Wk b n 13 q
          · exact ih _ _ _ _ _ _ _ _ (((g.2 a).2 a2).1 a3) hf (by rw [nvs_app, e0]; omega) h60 (Pz.rR P hP) (fun y => absurd (by decide) y)
          · exact bad 1 (by decide) (((g.2 a).2 a2).2 a3)
    have h3 := h2.2 m4
    by_cases m5 : m = 5
    · have g := h3.1 m5
      by_cases a : q < n ∧ Ar (b q)
      · have := arS_r (b q)
        exact pil 2 _ c _ (by omega) (by decide) (by omega) h60 (g.1 a)
      · by_cases a2 : q < n ∧ Cm (b q)
        · by_cases a3 : c = 60
          · exact bad 4 (by decide) (((g.2 a).1 a2).1 a3)
          · have g2 := ((g.2 a).1 a2).2 a3
            by_cases a4 : ¬ b q = 61 ∧ q + 1 < n ∧ b (q + 1) = 61
            · have := cmS_r (b q) true
              exact pil 3 _ (c + 1) _ (by omega) (by decide) (by omega) (by omega) (g2.1 a4)
            · have := cmS_r (b q) false
              exact pil 3 _ (c + 1) _ (by omega) (by decide) (by omega) (by omega) (g2.2 a4)
        · exact bad 1 (by decide) ((g.2 a).2 a2)
    have h4 := h3.2 m5
    by_cases m6 : m = 6
    · refine bCk _ (fun g => ?_) (h4.1 m6)
      by_cases a : q < n ∧ Ar (b q)
      · have := arS_r (b q)
        exact pil 3 _ c _ (by omega) (by decide) (by omega) h60 (g.1 a)
      · exact bBk (g.2 a)
    have h5 := h4.2 m6
    by_cases m7 : m = 7
    · exact bCk _ bBk (h5.1 m7)
    have h6 := h5.2 m7
    by_cases m8 : m = 8
    · have g := h6.1 m8
      by_cases a : q < n ∧ b q = 91
      · by_cases a2 : nDp P = 10
        · exact bad 3 (by decide) ((g.1 a).1 a2)
        · exact ih _ _ _ _ _ _ _ _ ((g.1 a).2 a2) hf hc h60 (Pz.cons (by decide) hP) (fun y => absurd (by decide) y)
      · have g2 := g.2 a
        by_cases a1 : Wk b n 14 q
        · by_cases a2 : nDp P = 10
          · exact bad 3 (by decide) ((g2.1 a1).1 a2)
          · exact ih _ _ _ _ _ _ _ _ ((g2.1 a1).2 a2) hf hc h60 (Pz.cons (by decide) hP) (fun y => absurd (by decide) y)
        · exact ih _ _ _ _ _ _ _ _ (g2.2 a1) hf hc h60 hP (fun y => absurd (by decide) y)
    have g := h6.2 m8
    by_cases a : n ≤ q
    · have z := g.1 a
      have ho := hO (by omega)
      have z2 := z.2
      subst z2
      exact ⟨by omega, ho⟩
    · have g2 := g.2 a
      by_cases a2 : b q = 59
      · exact ih _ _ _ _ _ _ _ _ (g2.1 a2) hf hc h60 (fun x hx => absurd hx List.not_mem_nil) (fun y => absurd (by decide) y)
      · exact bad 1 (by decide) (g2.2 a2)
theorem Bcc.ok {b : Int → Int} {n : Int} {E : List Int} (h : Bcc b n 0 0 0 [] [] 0 0 E) : Bok E := by
  obtain ⟨N, h⟩ := h
  exact bcc_ok N _ _ _ _ _ _ _ _ h rfl (by decide) (by decide) (fun x hx => absurd hx List.not_mem_nil) (fun y => absurd (by decide) y)
theorem Hs.snoc {f : Int → Int} : ∀ (L : List Int) (i x : Int), Hs f i L → f (i + (L.length : Int)) = x → Hs f i (L ++ [x]) := by
  intro L
  induction L with
  | nil =>
    intro i x _ h
    have h2 : f (i + ((0 : Nat) : Int)) = x := h
    rw [show i + ((0 : Nat) : Int) = i by omega] at h2
    exact ⟨h2, trivial⟩
  | cons y L ih =>
    intro i x h h2
    refine ⟨h.1, ih (i + 1) x h.2 ?_⟩
    rw [List.length_cons] at h2
    rw [show i + 1 + (L.length : Int) = i + ((L.length + 1 : Nat) : Int) by omega]
    exact h2
theorem Hs_rl {f : Int → Int} : ∀ n : Nat, Hs f 0 (rl f n) := by
  intro n
  induction n with
  | zero => exact trivial
  | succ n ih =>
    refine Hs.snoc _ _ _ ih ?_
    rw [rl_len]
    congr 1
    omega
theorem Hs.same {f g : Int → Int} : ∀ (L : List Int) (i : Int), (∀ j : Int, i ≤ j → j < i + (L.length : Int) → g j = f j) → Hs f i L → Hs g i L := by
  intro L
  induction L with
  | nil => intro i _ _; exact trivial
  | cons x L ih =>
    intro i h z
    rw [List.length_cons] at h
    exact ⟨(h i (by omega) (by omega)).trans z.1, ih (i + 1) (fun j a c => h j (by omega) (by omega)) z.2⟩
end
