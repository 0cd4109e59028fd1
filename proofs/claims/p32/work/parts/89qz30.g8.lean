section
/-! the reference reckons what the signs say -/
theorem iShr16 {a : Int} (h1 : 0 ≤ a) (h2 : a ≤ 2147483647) : iShr a 4 = a / 16 := by
  have e1 : (Int32.ofInt a).toBitVec.toInt = a := i32o (by omega) (by omega)
  have m1 : (Int32.ofInt a).toBitVec.msb = false := msb_of (by omega)
  have n1 := BitVec.toInt_eq_toNat_of_msb m1
  have es : ((Int32.ofInt 4 &&& 31).toBitVec.smod 32).toNat = 4 := by decide
  have e3 : iShr a 4 = ((Int32.ofInt a).toBitVec.sshiftRight ((Int32.ofInt 4 &&& 31).toBitVec.smod 32).toNat).toInt := rfl
  rw [e3, es, BitVec.sshiftRight_eq_of_msb_false m1]
  have hn : ((Int32.ofInt a).toBitVec >>> 4).toNat = (Int32.ofInt a).toBitVec.toNat / 16 := by
    rw [BitVec.toNat_ushiftRight]
    exact Nat.shiftRight_eq_div_pow _ _
  have hi := BitVec.toInt_eq_toNat_cond ((Int32.ofInt a).toBitVec >>> 4)
  rw [if_pos (by omega)] at hi
  omega
/-- a sign as the reference reads it -/
theorem en_val {x : Int} (h : -11 ≤ x ∧ x ≤ 99999 ∧ ¬ x = -1) : (0 ≤ x ∧ iAnd (en x) 15 = 0 ∧ iShr (en x) 4 = x) ∨ (x < 0 ∧ iAnd (en x) 15 = 1 ∧ iShr (en x) 4 = -2 - x) := by
  by_cases e : 0 ≤ x
  · left
    have e1 : en x = 0 + 16 * x := if_pos e
    rw [e1, iAnd15 (by omega) (by omega), iShr16 (by omega) (by omega)]
    exact ⟨e, by omega, by omega⟩
  · right
    have e1 : en x = 1 + 16 * (-2 - x) := (if_neg e).trans (if_pos h.1)
    rw [e1, iAnd15 (by omega) (by omega), iShr16 (by omega) (by omega)]
    exact ⟨by omega, by omega, by omega⟩
theorem en_op {x : Int} (h : -24 ≤ x ∧ x ≤ -12) : iAnd (en x) 15 = en x ∧ 2 ≤ en x ∧ en x ≤ 14 ∧ (en x = 11 ↔ x = -22) := by
  rcases (show x = -12 ∨ x = -13 ∨ x = -14 ∨ x = -15 ∨ x = -16 ∨ x = -17 ∨ x = -18 ∨ x = -19 ∨ x = -20 ∨ x = -21 ∨ x = -22 ∨ x = -23 ∨ x = -24 by omega) with e | e | e | e | e | e | e | e | e | e | e | e | e <;> subst e <;> decide +kernel
theorem zg_pop {X : Mm} {S : Sh} {m : Mm} {K : Int → Mm → Prop} (hS : Shp S) (hm : Inv X S m) (h0 : 1 ≤ m 336 18) (h1 : m 336 18 ≤ 64) (hk : ∀ M1 : Mm, Inv X S M1 → (∀ c p : Int, ¬ (c = 336 ∧ p = 18) → M1 c p = m c p) → M1 336 18 = m 336 18 - 1 → K (m 344 (m 336 18 - 1)) M1) : wp_X12_pop S m 336 K := by
  refine u_X12_pop ?_
  refine g_getu 18 rfl hS.k336 (fun v ev => ?_)
  refine g_C ?_
  refine g_S (by omega) (by omega) ?_
  refine g_put 18 rfl hS.k336 (hm.w_336_18 (by omega) (by omega)) (fun m1 e1 hm1 => ?_)
  have f1 : ∀ c p : Int, ¬ (c = 336 ∧ p = 18) → m1 c p = m c p := fun c p q => (congrFun (congrFun e1 _) _).trans (up_ne q)
  have x1 : m1 336 18 = v - 1 := (congrFun (congrFun e1 _) _).trans (up_at _ _ _ _)
  refine g_getr 17 344 rfl hS.k336 hm1.f_336_17 (by decide) ?_
  refine g_getu 18 rfl hS.k336 (fun v2 ev2 => ?_)
  refine g_ldu hS.k344 hS.l344 (by omega) (by omega) (fun v3 ev3 => ?_)
  have e3 : v3 = m 344 (m 336 18 - 1) := by
    rw [ev3, f1 344 _ (by first | decide | exact fun z => absurd z.1 (by decide) | exact ⟨fun z => absurd z.1 (by decide), fun z => absurd z.1 (by decide)⟩ | omega)]
    congr 1
    omega
  rw [e3]
  exact hk m1 hm1 f1 (by omega)
theorem zg_push {X : Mm} {S : Sh} {m : Mm} {K : Mm → Prop} {u : Int} (hS : Shp S) (hm : Inv X S m) (h0 : 0 ≤ m 336 18) (h1 : m 336 18 ≤ 63) (hk : ∀ M1 : Mm, Inv X S M1 → (∀ c p : Int, ¬ (c = 336 ∧ p = 18) ∧ ¬ (c = 344 ∧ p = m 336 18) → M1 c p = m c p) → M1 336 18 = m 336 18 + 1 → M1 344 (m 336 18) = u → K M1) : wp_X12_push S m 336 u K := by
  refine u_X12_push ?_
  refine g_getr 17 344 rfl hS.k336 hm.f_336_17 (by decide) ?_
  refine g_getu 18 rfl hS.k336 (fun v ev => ?_)
  refine g_st hS.k344 hS.l344 (by omega) (by omega) (hm.wa_344 (by omega) (by omega)) (fun m1 e1 hm1 => ?_)
  have f1 : ∀ c p : Int, ¬ (c = 344 ∧ p = v) → m1 c p = m c p := fun c p q => (congrFun (congrFun e1 _) _).trans (up_ne q)
  have x1 : m1 344 v = u := (congrFun (congrFun e1 _) _).trans (up_at _ _ _ _)
  refine g_getu 18 rfl hS.k336 (fun v2 ev2 => ?_)
  rw [f1 336 18 (by first | decide | exact fun z => absurd z.1 (by decide) | exact ⟨fun z => absurd z.1 (by decide), fun z => absurd z.1 (by decide)⟩ | omega)] at ev2
  refine g_C ?_
  refine g_A (by omega) (by omega) ?_
  refine g_put 18 rfl hS.k336 (hm1.w_336_18 (by omega) (by omega)) (fun m2 e2 hm2 => ?_)
  have f2 : ∀ c p : Int, ¬ (c = 336 ∧ p = 18) → m2 c p = m1 c p := fun c p q => (congrFun (congrFun e2 _) _).trans (up_ne q)
  have x2 : m2 336 18 = v2 + 1 := (congrFun (congrFun e2 _) _).trans (up_at _ _ _ _)
  refine hk m2 hm2 (fun c p q => (f2 c p (by first | exact fun y => absurd (y.1 ▸ z) (by decide) | exact fun y => absurd (y.1 ▸ q) (by decide) | exact z | exact q | exact z.1 | exact q.1 | exact z.2 | exact q.2 | omega)).trans (f1 c p (by first | exact fun y => absurd (y.1 ▸ z) (by decide) | exact fun y => absurd (y.1 ▸ q) (by decide) | exact z | exact q | exact z.1 | exact q.1 | exact z.2 | exact q.2 | omega))) (by omega) ?_
  rw [f2 344 _ (by first | decide | exact fun z => absurd z.1 (by decide) | exact ⟨fun z => absurd z.1 (by decide), fun z => absurd z.1 (by decide)⟩ | omega), ← ev]
  exact x1
theorem zg_one {S : Sh} {m0 : Mm} {K : Int → Mm → Prop} {x a b : Int} (hx : -24 ≤ x ∧ x ≤ -12) (hn : ¬ x = -22) (hk : K (jo x a b) m0) : wp_X12_one S m0 (en x) a b K := by
  have go : ∀ v : Int, v = jo x a b → K v m0 := fun v e => by rw [e]; exact hk
  clear hk
  refine u_X12_one ?_
  rcases (show x = -15 ∨ x = -16 ∨ x = -12 ∨ x = -13 ∨ x = -17 ∨ x = -18 ∨ x = -19 ∨ x = -20 ∨ x = -21 ∨ x = -23 ∨ x = -24 ∨ x = -14 by omega) with e | e | e | e | e | e | e | e | e | e | e | e <;> subst e
  · exact g_ifT (by decide) (go _ rfl)
  · exact g_ifF (by decide) (g_ifT (by decide) (go _ rfl))
  · exact g_ifF (by decide) (g_ifF (by decide) (g_ifT (by decide) (go _ rfl)))
  · have go2 : ∀ v : Int, v = (if b = 0 then 0 else lDiv a b) → K v m0 := go
    refine g_ifF (by decide) (g_ifF (by decide) (g_ifF (by decide) (g_ifT (by decide) ?_)))
    refine g_C ?_
    refine g_cmp (fun z => ?_) (fun z => ?_) (fun z => ?_)
    · exact g_ifT (by decide) (g_divE (by omega) (go2 _ (by rw [if_neg (by omega)])))
    · exact g_ifF (by decide) (g_C (go2 0 (by rw [if_pos z])))
    · exact g_ifT (by decide) (g_divE (by omega) (go2 _ (by rw [if_neg (by omega)])))
  · have go2 : ∀ v : Int, v = (if a < b then 1 else 0) → K v m0 := go
    refine g_ifF (by decide) (g_ifF (by decide) (g_ifF (by decide) (g_ifF (by decide) (g_ifT (by decide) ?_))))
    refine g_cmp (fun z => ?_) (fun z => ?_) (fun z => ?_)
    · exact g_ifF (by decide) (g_C (go2 1 (by rw [if_pos (by omega)])))
    · exact g_ifT (by decide) (g_C (go2 0 (by rw [if_neg (by omega)])))
    · exact g_ifT (by decide) (g_C (go2 0 (by rw [if_neg (by omega)])))
  · have go2 : ∀ v : Int, v = (if a ≤ b then 1 else 0) → K v m0 := go
    refine g_ifF (by decide) (g_ifF (by decide) (g_ifF (by decide) (g_ifF (by decide) (g_ifF (by decide) (g_ifT (by decide) ?_)))))
    refine g_cmp (fun z => ?_) (fun z => ?_) (fun z => ?_)
    · exact g_ifF (by decide) (g_C (go2 1 (by rw [if_pos (by omega)])))
    · exact g_ifF (by decide) (g_C (go2 1 (by rw [if_pos (by omega)])))
    · exact g_ifT (by decide) (g_C (go2 0 (by rw [if_neg (by omega)])))
  · have go2 : ∀ v : Int, v = (if a = b then 1 else 0) → K v m0 := go
    refine g_ifF (by decide) (g_ifF (by decide) (g_ifF (by decide) (g_ifF (by decide) (g_ifF (by decide) (g_ifF (by decide) (g_ifT (by decide) ?_))))))
    refine g_cmp (fun z => ?_) (fun z => ?_) (fun z => ?_)
    · exact g_ifT (by decide) (g_C (go2 0 (by rw [if_neg (by omega)])))
    · exact g_ifF (by decide) (g_C (go2 1 (by rw [if_pos (by omega)])))
    · exact g_ifT (by decide) (g_C (go2 0 (by rw [if_neg (by omega)])))
  · have go2 : ∀ v : Int, v = (if b ≤ a then 1 else 0) → K v m0 := go
    refine g_ifF (by decide) (g_ifF (by decide) (g_ifF (by decide) (g_ifF (by decide) (g_ifF (by decide) (g_ifF (by decide) (g_ifF (by decide) (g_ifT (by decide) ?_)))))))
    refine g_cmp (fun z => ?_) (fun z => ?_) (fun z => ?_)
    · exact g_ifT (by decide) (g_C (go2 0 (by rw [if_neg (by omega)])))
    · exact g_ifF (by decide) (g_C (go2 1 (by rw [if_pos (by omega)])))
    · exact g_ifF (by decide) (g_C (go2 1 (by rw [if_pos (by omega)])))
  · have go2 : ∀ v : Int, v = (if b < a then 1 else 0) → K v m0 := go
    refine g_ifF (by decide) (g_ifF (by decide) (g_ifF (by decide) (g_ifF (by decide) (g_ifF (by decide) (g_ifF (by decide) (g_ifF (by decide) (g_ifF (by decide) (g_ifT (by decide) ?_))))))))
    refine g_cmp (fun z => ?_) (fun z => ?_) (fun z => ?_)
    · exact g_ifT (by decide) (g_C (go2 0 (by rw [if_neg (by omega)])))
    · exact g_ifT (by decide) (g_C (go2 0 (by rw [if_neg (by omega)])))
    · exact g_ifF (by decide) (g_C (go2 1 (by rw [if_pos (by omega)])))
  · exact g_ifF (by decide) (g_ifF (by decide) (g_ifF (by decide) (g_ifF (by decide) (g_ifF (by decide) (g_ifF (by decide) (g_ifF (by decide) (g_ifF (by decide) (g_ifF (by decide) (g_ifF (by decide) (g_ifT (by decide) (go _ rfl)))))))))))
  · exact g_ifF (by decide) (g_ifF (by decide) (g_ifF (by decide) (g_ifF (by decide) (g_ifF (by decide) (g_ifF (by decide) (g_ifF (by decide) (g_ifF (by decide) (g_ifF (by decide) (g_ifF (by decide) (g_ifF (by decide) (g_ifT (by decide) (go _ rfl))))))))))))
  · have go2 : ∀ v : Int, v = (if b = 0 then 0 else lRem a b) → K v m0 := go
    refine g_ifF (by decide) (g_ifF (by decide) (g_ifF (by decide) (g_ifF (by decide) (g_ifF (by decide) (g_ifF (by decide) (g_ifF (by decide) (g_ifF (by decide) (g_ifF (by decide) (g_ifF (by decide) (g_ifF (by decide) (g_ifF (by decide) (g_ifT (by decide) ?_))))))))))))
    refine g_C ?_
    refine g_cmp (fun z => ?_) (fun z => ?_) (fun z => ?_)
    · exact g_ifT (by decide) (g_divE (by omega) (go2 _ (by rw [if_neg (by omega)])))
    · exact g_ifF (by decide) (g_C (go2 0 (by rw [if_pos z])))
    · exact g_ifT (by decide) (g_divE (by omega) (go2 _ (by rw [if_neg (by omega)])))
/-- the reference's WORDS -/
def wdR (M : Mm) (j : Int) : Int := M 345 j
theorem zk_run {X : Mm} {S : Sh} {m0 : Mm} {K : Int → Mm → Prop} {t u3 : Int} (hS : Shp S) (ht0 : 0 ≤ t) (ht5 : t ≤ 5) (hu : u3 ≤ 400) : ∀ (V : List Int) (n : Nat) (i : Int) (m : Mm) (L : List Int) (D D' : List Bool), Inv X S m → (∀ c p : Int, ¬ c = 344 ∧ ¬ (c = 336 ∧ p = 18) → m c p = m0 c p) → Hs (fun j => m0 338 (400 * t + j)) i (V.map en) → i + (V.length : Int) ≤ u3 → 0 ≤ i → V.foldl ty1 (some D) = some D' → Bt L D → pl (m 344) (m 336 18 - 1 + 1).toNat = L → 0 ≤ m 336 18 → L.length + nvs V ≤ 64 → (∀ m' : Mm, Inv X S m' → (∀ c p : Int, ¬ c = 344 ∧ ¬ (c = 336 ∧ p = 18) → m' c p = m0 c p) → pl (m' 344) (m' 336 18 - 1 + 1).toNat = evl (wdR m0) L V → 0 ≤ m' 336 18 → wp_X12_reckons_8 S K n 336 t u3 (i + (V.length : Int)) m') → wp_X12_reckons_8 S K (V.length + n) 336 t u3 i m := by
  intro V
  induction V with
  | nil =>
    intro n i m L D D' hm F _ _ _ _ _ hp ht _ hc
    have q := hc m hm F hp ht
    have q2 : wp_X12_reckons_8 S K n 336 t u3 (i + ((0 : Nat) : Int)) m := q
    rw [show i + ((0 : Nat) : Int) = i by omega] at q2
    show wp_X12_reckons_8 S K (0 + n) 336 t u3 i m
    rw [Nat.zero_add]
    exact q2
  | cons x V ih =>
    intro n i m L D D' hm F hV hl hi hty hb hp ht hn hc
    obtain ⟨E, t1, t2⟩ := ty_split hty
    obtain ⟨b1, _⟩ := ev1_ty (w := wdR m0) t1 hb
    have rl1 : ((x :: V).length : Int) = (V.length : Int) + 1 := by rw [List.length_cons]; omega
    rw [rl1] at hl
    have hlen := congrArg List.length hp
    rw [pl_len] at hlen
    have nx : nvs (x :: V) = (if -11 ≤ x then 1 else 0) + nvs V := rfl
    have hx : m 338 (400 * t + i) = en x := by
      rw [F 338 _ (by first | decide | exact fun z => absurd z.1 (by decide) | exact ⟨fun z => absurd z.1 (by decide), fun z => absurd z.1 (by decide)⟩ | omega)]
      exact hV.1
    have fuel : (x :: V).length + n = (V.length + n) + 1 := by rw [List.length_cons]; omega
    rw [fuel]
    have go : ∀ m' : Mm, Inv X S m' → (∀ c p : Int, ¬ c = 344 ∧ ¬ (c = 336 ∧ p = 18) → m' c p = m0 c p) → pl (m' 344) (m' 336 18 - 1 + 1).toNat = ev1 (wdR m0) L x → 0 ≤ m' 336 18 → (ev1 (wdR m0) L x).length + nvs V ≤ 64 → wp_X12_reckons_129 S (fun a0 a1 a2 a3 M => wp_X12_reckons_8 S K (V.length + n) a0 a1 a2 a3 M) K 336 t u3 i m' := by
      intro m' hm' F' hp' ht' hn'
      refine u_X12_reckons_129 ?_
      refine g_A (by omega) (by omega) ?_
      refine ih n (i + 1) m' (ev1 (wdR m0) L x) E D' hm' F' hV.2 (by omega) (by omega) t2 b1 hp' ht' hn' (fun m2 hm2 F2 hp2 ht2 => ?_)
      have q := hc m2 hm2 F2 hp2 ht2
      rw [rl1, show i + ((V.length : Int) + 1) = i + 1 + (V.length : Int) by omega] at q
      exact q
    refine u_X12_reckons_8 ?_
    refine g_ifF (by first | decide | omega) ?_
    refine g_getr 3 338 rfl hS.k336 hm.f_336_3 (by decide) ?_
    refine g_C ?_
    refine g_M (by omega) (by omega) ?_
    refine g_A (by omega) (by omega) ?_
    refine g_ldu hS.k338 hS.l338 (by omega) (by omega) (fun v ev => ?_)
    refine g_C ?_
    refine g_Oe (fun s es => ?_)
    refine g_getr 3 338 rfl hS.k336 hm.f_336_3 (by decide) ?_
    refine g_C ?_
    refine g_M (by omega) (by omega) ?_
    refine g_A (by omega) (by omega) ?_
    refine g_ldu hS.k338 hS.l338 (by omega) (by omega) (fun v2 ev2 => ?_)
    refine g_C ?_
    refine g_Oe (fun r er => ?_)
    rw [ev, hx] at es
    rw [ev2, hx] at er
    have push : ∀ u : Int, -11 ≤ x → u = (if 0 ≤ x then x else wdR m0 (-2 - x)) → wp_X12_push S m 336 u (fun M => wp_X12_reckons_129 S (fun a0 a1 a2 a3 M => wp_X12_reckons_8 S K (V.length + n) a0 a1 a2 a3 M) K 336 t u3 i M) := by
      intro u e eu
      rw [if_pos e] at nx
      rw [ev_val _ _ e, List.length_cons] at go
      refine zg_push hS hm ht (by omega) (fun m4 hm4 f4 y4 z4 => ?_)
      refine go m4 hm4 (fun c p q => (f4 c p (by first | exact fun y => absurd (y.1 ▸ z) (by decide) | exact fun y => absurd (y.1 ▸ q) (by decide) | exact z | exact q | exact z.1 | exact q.1 | exact z.2 | exact q.2 | omega)).trans (F c p q)) ?_ (by omega) (by omega)
      have q := pl_push (g := m4 344) (t := m 336 18 - 1) (a := u) (by omega) hp (fun j j0 j1 => f4 344 j (by first | decide | exact fun z => absurd z.1 (by decide) | exact ⟨fun z => absurd z.1 (by decide), fun z => absurd z.1 (by decide)⟩ | omega)) (by rw [show m 336 18 - 1 + 1 = m 336 18 by omega]; exact z4)
      rw [y4, show m 336 18 + 1 - 1 + 1 = m 336 18 - 1 + 1 + 1 by omega, ← eu]
      exact q
    have bin : ∀ (bb aa : Int) (L' : List Int), (-24 ≤ x ∧ x ≤ -12) → ¬ x = -22 → L = bb :: aa :: L' → wIf (¬ s = 0) (wC 1 fun v34 => wIf (¬ s = v34) (wC 11 fun v36 => wIf (¬ s = v36) (isK S 336 12 ∧ (wp_X12_pop S m 336 <| fun v39 M38 => isK S 336 12 ∧ (wp_X12_pop S M38 336 <| fun v42 M41 => wp_X12_one S M41 s v42 v39 <| fun v45 M44 => isK S 336 12 ∧ (wp_X12_push S M44 336 v45 <| fun M47 => wp_X12_reckons_129 S (fun a0 a1 a2 a3 M => wp_X12_reckons_8 S K (V.length + n) a0 a1 a2 a3 M) K 336 t u3 i M47)))) (wC 1 fun v48 => isK S 336 12 ∧ (wp_X12_pop S m 336 <| fun v51 M50 => wLS v48 v51 fun v53 => isK S 336 12 ∧ (wp_X12_push S M50 336 v53 <| fun M55 => wp_X12_reckons_129 S (fun a0 a1 a2 a3 M => wp_X12_reckons_8 S K (V.length + n) a0 a1 a2 a3 M) K 336 t u3 i M55)))) (wGetR S m 336 12 19 fun v56 => wLd S m v56 16 r fun v58 => isK S 336 12 ∧ (wp_X12_push S m 336 v58 <| fun M60 => wp_X12_reckons_129 S (fun a0 a1 a2 a3 M => wp_X12_reckons_8 S K (V.length + n) a0 a1 a2 a3 M) K 336 t u3 i M60))) (wC r fun v61 => isK S 336 12 ∧ (wp_X12_push S m 336 v61 <| fun M63 => wp_X12_reckons_129 S (fun a0 a1 a2 a3 M => wp_X12_reckons_8 S K (V.length + n) a0 a1 a2 a3 M) K 336 t u3 i M63)) := by
      intro bb aa L' e e22 eL
      subst eL
      obtain ⟨o1, o2, o3, o4⟩ := en_op e
      rw [o1] at es
      subst es
      rw [if_neg (by omega)] at nx
      rw [ev_two _ _ (by omega) e22, List.length_cons] at go
      rw [List.length_cons, List.length_cons] at hn hlen
      obtain ⟨p0, p1, p2⟩ := pl_top (L := aa :: L') (by omega) hp
      obtain ⟨p3, p4, p5⟩ := pl_top (by omega) p2
      refine g_ifT (by first | decide | omega) ?_
      refine g_C ?_
      refine g_ifT (by first | decide | omega) ?_
      refine g_C ?_
      refine g_ifT (fun z => e22 (o4.mp z)) ?_
      refine ⟨hS.k336, ?_⟩
      refine zg_pop hS hm (by omega) (by omega) (fun m1 hm1 f1 y1 => ?_)
      refine ⟨hS.k336, ?_⟩
      refine zg_pop hS hm1 (by omega) (by omega) (fun m2 hm2 f2 y2 => ?_)
      rw [f1 344 _ (by first | decide | exact fun z => absurd z.1 (by decide) | exact ⟨fun z => absurd z.1 (by decide), fun z => absurd z.1 (by decide)⟩ | omega), y1, p1, p4]
      refine zg_one e e22 ?_
      refine ⟨hS.k336, ?_⟩
      refine zg_push hS hm2 (by omega) (by omega) (fun m4 hm4 f4 y4 z4 => ?_)
      refine go m4 hm4 (fun c p q => (f4 c p (by first | exact fun y => absurd (y.1 ▸ z) (by decide) | exact fun y => absurd (y.1 ▸ q) (by decide) | exact z | exact q | exact z.1 | exact q.1 | exact z.2 | exact q.2 | omega)).trans ((f2 c p (by first | exact fun y => absurd (y.1 ▸ z) (by decide) | exact fun y => absurd (y.1 ▸ q) (by decide) | exact z | exact q | exact z.1 | exact q.1 | exact z.2 | exact q.2 | omega)).trans ((f1 c p (by first | exact fun y => absurd (y.1 ▸ z) (by decide) | exact fun y => absurd (y.1 ▸ q) (by decide) | exact z | exact q | exact z.1 | exact q.1 | exact z.2 | exact q.2 | omega)).trans (F c p q)))) ?_ (by omega) (by omega)
      have q := pl_push (g := m4 344) (t := m 336 18 - 1 - 1 - 1) (a := jo x aa bb) (by omega) p5 (fun j j0 j1 => by rw [f4 344 j (by first | decide | exact fun z => absurd z.1 (by decide) | exact ⟨fun z => absurd z.1 (by decide), fun z => absurd z.1 (by decide)⟩ | omega), f2 344 j (by first | decide | exact fun z => absurd z.1 (by decide) | exact ⟨fun z => absurd z.1 (by decide), fun z => absurd z.1 (by decide)⟩ | omega), f1 344 j (by first | decide | exact fun z => absurd z.1 (by decide) | exact ⟨fun z => absurd z.1 (by decide), fun z => absurd z.1 (by decide)⟩ | omega)]) (by rw [show m 336 18 - 1 - 1 - 1 + 1 = m2 336 18 by omega]; exact z4)
      rw [show m4 336 18 - 1 + 1 = m 336 18 - 1 - 1 - 1 + 1 + 1 by omega]
      exact q
    rcases ty_cases t1 with ⟨e, _⟩ | ⟨e, E', e1', _⟩ | ⟨e, E', e1', _⟩ | ⟨e, E', e1', _⟩ | ⟨e, E', e1', _⟩
    · rcases en_val e with ⟨a1, a2, a3⟩ | ⟨a1, a2, a3⟩
      · rw [a2] at es
        rw [a3] at er
        refine g_ifF (by first | decide | omega) ?_
        refine g_C ?_
        exact ⟨hS.k336, push r e.1 (by rw [if_pos a1]; exact er)⟩
      · rw [a2] at es
        rw [a3] at er
        refine g_ifT (by first | decide | omega) ?_
        refine g_C ?_
        refine g_ifF (by first | decide | omega) ?_
        refine g_getr 19 345 rfl hS.k336 hm.f_336_19 (by decide) ?_
        refine g_ldu hS.k345 hS.l345 (by omega) (by omega) (fun x5 ex5 => ?_)
        refine ⟨hS.k336, push x5 e.1 ?_⟩
        rw [if_neg (by omega), ex5, er, F 345 _ (by first | decide | exact fun z => absurd z.1 (by decide) | exact ⟨fun z => absurd z.1 (by decide), fun z => absurd z.1 (by decide)⟩ | omega)]
        rfl
    · subst e1'
      obtain ⟨bb, aa, L', eL, _, _, _⟩ := hb.two
      exact bin bb aa L' (by omega) (by omega) eL
    · subst e1'
      obtain ⟨bb, aa, L', eL, _, _, _⟩ := hb.two
      exact bin bb aa L' (by omega) (by omega) eL
    · subst e1'
      obtain ⟨aa, L', rfl, _, _⟩ := hb.one
      obtain ⟨o1, o2, o3, o4⟩ := en_op (x := x) (by omega)
      rw [o1] at es
      rw [if_neg (by omega)] at nx
      rw [e, ev_not, List.length_cons] at go
      rw [List.length_cons] at hn hlen
      obtain ⟨p0, p1, p2⟩ := pl_top (L := L') (by omega) hp
      have s11 : s = 11 := es.trans (o4.mpr e)
      refine g_ifT (by first | decide | omega) ?_
      refine g_C ?_
      refine g_ifT (by first | decide | omega) ?_
      refine g_C ?_
      refine g_ifF (by first | decide | omega) ?_
      refine g_C ?_
      refine ⟨hS.k336, ?_⟩
      refine zg_pop hS hm (by omega) (by omega) (fun m1 hm1 f1 y1 => ?_)
      rw [p1]
      show isK S 336 12 ∧ wp_X12_push S m1 336 (w64 (1 - aa)) _
      refine ⟨hS.k336, ?_⟩
      refine zg_push hS hm1 (by omega) (by omega) (fun m4 hm4 f4 y4 z4 => ?_)
      refine go m4 hm4 (fun c p q => (f4 c p (by first | exact fun y => absurd (y.1 ▸ z) (by decide) | exact fun y => absurd (y.1 ▸ q) (by decide) | exact z | exact q | exact z.1 | exact q.1 | exact z.2 | exact q.2 | omega)).trans ((f1 c p (by first | exact fun y => absurd (y.1 ▸ z) (by decide) | exact fun y => absurd (y.1 ▸ q) (by decide) | exact z | exact q | exact z.1 | exact q.1 | exact z.2 | exact q.2 | omega)).trans (F c p q))) ?_ (by omega) (by omega)
      have q := pl_push (g := m4 344) (t := m 336 18 - 1 - 1) (a := w64 (1 - aa)) (by omega) p2 (fun j j0 j1 => by rw [f4 344 j (by first | decide | exact fun z => absurd z.1 (by decide) | exact ⟨fun z => absurd z.1 (by decide), fun z => absurd z.1 (by decide)⟩ | omega), f1 344 j (by first | decide | exact fun z => absurd z.1 (by decide) | exact ⟨fun z => absurd z.1 (by decide), fun z => absurd z.1 (by decide)⟩ | omega)]) (by rw [show m 336 18 - 1 - 1 + 1 = m1 336 18 by omega]; exact z4)
      rw [show m4 336 18 - 1 + 1 = m 336 18 - 1 - 1 + 1 + 1 by omega]
      exact q
    · subst e1'
      obtain ⟨bb, aa, L', eL, _, _, _⟩ := hb.two
      exact bin bb aa L' (by omega) (by omega) eL
theorem zk_reckons {X : Mm} {S : Sh} {m0 : Mm} {K : Int → Mm → Prop} {t u2 u3 : Int} {V : List Int} {d : Bool} (hS : Shp S) (hm0 : Inv X S m0) (ht0 : 0 ≤ t) (ht5 : t ≤ 5) (hV : Hs (fun j => m0 338 (400 * t + j)) u2 (V.map en)) (h2 : 0 ≤ u2) (h3 : u3 = u2 + (V.length : Int)) (h4 : u3 ≤ 400) (hty : tyl V = some [d]) (hn : nvs V ≤ 60) (hk : ∀ (r : Int) (M1 : Mm), Inv X S M1 → (∀ c p : Int, ¬ c = 344 ∧ ¬ (c = 336 ∧ p = 18) → M1 c p = m0 c p) → r = (evl (wdR m0) [] V).headD 0 → (d = true → r = 0 ∨ r = 1) → K r M1) : wp_X12_reckons S m0 336 t u2 u3 K := by
  refine u_X12_reckons ?_
  refine g_C ?_
  refine g_put 18 rfl hS.k336 (hm0.w_336_18 (by omega) (by omega)) (fun m1 e1 hm1 => ?_)
  have f1 : ∀ c p : Int, ¬ (c = 336 ∧ p = 18) → m1 c p = m0 c p := fun c p q => (congrFun (congrFun e1 _) _).trans (up_ne q)
  have x1 : m1 336 18 = 0 := (congrFun (congrFun e1 _) _).trans (up_at _ _ _ _)
  refine ⟨V.length + 1, zk_run hS ht0 ht5 h4 V 1 u2 m1 [] [] [d] hm1 (fun c p q => f1 c p (by first | exact fun y => absurd (y.1 ▸ z) (by decide) | exact fun y => absurd (y.1 ▸ q) (by decide) | exact z | exact q | exact z.1 | exact q.1 | exact z.2 | exact q.2 | omega)) hV (by omega) h2 hty trivial (by rw [x1]; rfl) (by omega) (by show 0 + nvs V ≤ 64; omega) (fun m2 hm2 F2 hp2 ht2 => ?_)⟩
  obtain ⟨a, ea, eb⟩ := Bt.sing (evl_ty (w := wdR m0) V [] [] [d] hty trivial).1
  rw [ea] at hp2
  obtain ⟨p0, p1, p2⟩ := pl_top (L := []) (by omega) hp2
  have z18 : m2 336 18 = 1 := by
    have q := congrArg List.length hp2
    rw [pl_len] at q
    have q2 : (m2 336 18 - 1 + 1).toNat = 1 := q
    omega
  refine u_X12_reckons_8 ?_
  refine g_ifT (by first | decide | omega) ?_
  refine ⟨hS.k336, ?_⟩
  refine zg_pop hS hm2 (by omega) (by omega) (fun m3 hm3 f3 y3 => ?_)
  rw [p1]
  exact hk a m3 hm3 (fun c p q => (f3 c p (by first | exact fun y => absurd (y.1 ▸ z) (by decide) | exact fun y => absurd (y.1 ▸ q) (by decide) | exact z | exact q | exact z.1 | exact q.1 | exact z.2 | exact q.2 | omega)).trans (F2 c p q)) (by rw [ea]; rfl) eb
/-- what holds of a rule's row of the reference: its clauses, where they lie -/
def RwR (M : Mm) (t : Int) (Cs : List Cz) : Prop := Hs (fun j => M 338 (400 * t + j)) 0 ((rowC Cs).map en) ∧ Tbl M t 0 0 Cs ∧ M 341 t = (Cs.length : Int) ∧ ((rowC Cs).length : Int) ≤ 400 ∧ Cs.length ≤ 12
theorem zk_summedBy {X : Mm} {S : Sh} {m0 : Mm} {K : Int → Mm → Prop} {t : Int} {Cs : List Cz} (hS : Shp S) (hm0 : Inv X S m0) (ht0 : 0 ≤ t) (ht5 : t ≤ 5) (hR : RwR m0 t Cs) (hn : nvs (rowC Cs) ≤ 60) (hk : ∀ M1 : Mm, Inv X S M1 → (∀ c p : Int, ¬ c = 344 ∧ ¬ (c = 336 ∧ p = 18) → M1 c p = m0 c p) → K (evC (wdR m0) Cs) M1) : wp_X12_summedBy S m0 336 t K := by
  obtain ⟨R1, R2, R3, R4, R5⟩ := hR
  have wsame : ∀ m : Mm, (∀ c p : Int, ¬ c = 344 ∧ ¬ (c = 336 ∧ p = 18) → m c p = m0 c p) → wdR m = wdR m0 := fun m F => funext (fun j => F 345 j (by first | decide | exact fun z => absurd z.1 (by decide) | exact ⟨fun z => absurd z.1 (by decide), fun z => absurd z.1 (by decide)⟩ | omega))
  have L : ∀ (l : List Cz) (n : Nat) (i a : Int) (m : Mm), (∀ M1 : Mm, Inv X S M1 → (∀ c p : Int, ¬ c = 344 ∧ ¬ (c = 336 ∧ p = 18) → M1 c p = m0 c p) → K (evC (wdR m0) l) M1) → Inv X S m → (∀ c p : Int, ¬ c = 344 ∧ ¬ (c = 336 ∧ p = 18) → m c p = m0 c p) → 0 ≤ i → i + (l.length : Int) = (Cs.length : Int) → 0 ≤ a → a + ((rowC l).length : Int) ≤ 400 → Hs (fun j => m0 338 (400 * t + j)) a ((rowC l).map en) → Tbl m0 t i a l → nvs (rowC l) ≤ 60 → l.length + 1 ≤ n → wp_X12_summedBy_2 S K n 336 t i m := by
    intro l
    induction l with
    | nil =>
      intro n i a m hk hm F i0 il _ _ _ _ _ hnn
      have il2 : i + ((0 : Nat) : Int) = (Cs.length : Int) := il
      cases n with
      | zero => exact absurd hnn (Nat.not_succ_le_zero _)
      | succ n =>
        refine u_X12_summedBy_2 ?_
        refine g_getr 6 341 rfl hS.k336 hm.f_336_6 (by decide) ?_
        refine g_ldu hS.k341 hS.l341 (by omega) (by omega) (fun v ev => ?_)
        rw [F 341 _ (by first | decide | exact fun z => absurd z.1 (by decide) | exact ⟨fun z => absurd z.1 (by decide), fun z => absurd z.1 (by decide)⟩ | omega), R3] at ev
        refine g_ifT (by first | decide | omega) ?_
        exact g_C (hk m hm F)
    | cons c l ih =>
      intro n i a m hk hm F i0 il a0 al hH hT hn hnn
      have il2 : i + ((l.length : Int) + 1) = (Cs.length : Int) := by
        rw [List.length_cons] at il
        omega
      rw [List.length_cons] at hnn
      have er : rowC (c :: l) = c.1 ++ (c.2.2 ++ rowC l) := by
        show (c.1 ++ c.2.2) ++ rowC l = _
        rw [List.append_assoc]
      rw [er] at al hH hn
      rw [List.map_append, List.map_append] at hH
      obtain ⟨H1, H2⟩ := Hs.app _ _ _ hH
      obtain ⟨H3, H4⟩ := Hs.app _ _ _ H2
      rw [List.length_map] at H3 H4
      rw [List.length_map] at H4
      rw [List.length_append, List.length_append] at al
      rw [nvs_app, nvs_app] at hn
      obtain ⟨⟨⟨T1, T2⟩, E1, E2, E3⟩, T4⟩ := hT
      have lr : ((row1 c).length : Int) = (c.1.length : Int) + (c.2.2.length : Int) := by
        show ((c.1 ++ c.2.2).length : Int) = _
        rw [List.length_append]
        omega
      cases n with
      | zero => exact absurd hnn (Nat.not_succ_le_zero _)
      | succ n =>
        -- the SUM
        have sum : ∀ m' : Mm, Inv X S m' → (∀ c p : Int, ¬ c = 344 ∧ ¬ (c = 336 ∧ p = 18) → m' c p = m0 c p) → (evC (wdR m0) (c :: l) = (evl (wdR m0) [] c.1).headD 0) → wp_X12_summedBy_58 S K 336 t (48 * t + 4 * i) m' := by
          intro m' hm' F' ee
          refine u_X12_summedBy_58 ?_
          refine g_getr 5 340 rfl hS.k336 hm'.f_336_5 (by decide) ?_
          refine g_ldu hS.k340 hS.l340 (by omega) (by omega) (fun v1 e1 => ?_)
          refine g_getr 5 340 rfl hS.k336 hm'.f_336_5 (by decide) ?_
          refine g_C ?_
          refine g_A (by omega) (by omega) ?_
          refine g_ldu hS.k340 hS.l340 (by omega) (by omega) (fun v2 e2 => ?_)
          rw [F' 340 _ (by first | decide | exact fun z => absurd z.1 (by decide) | exact ⟨fun z => absurd z.1 (by decide), fun z => absurd z.1 (by decide)⟩ | omega)] at e1 e2
          refine ⟨hS.k336, ?_⟩
          have hV : Hs (fun j => m' 338 (400 * t + j)) v1 (c.1.map en) := by
            rw [e1, E1]
            have e : (fun j => m' 338 (400 * t + j)) = (fun j => m0 338 (400 * t + j)) := funext (fun j => F' 338 _ (by first | decide | exact fun z => absurd z.1 (by decide) | exact ⟨fun z => absurd z.1 (by decide), fun z => absurd z.1 (by decide)⟩ | omega))
            rw [e]
            exact H1
          refine zk_reckons (V := c.1) (d := false) hS hm' ht0 ht5 hV (by omega) (by omega) (by omega) T1 (by omega) (fun r m2 hm2 f2 er2 _ => ?_)
          have q := hk m2 hm2 (fun c p z => (f2 c p z).trans (F' c p z))
          rw [ee, ← wsame m' F', ← er2] at q
          exact q
        refine u_X12_summedBy_2 ?_
        refine g_getr 6 341 rfl hS.k336 hm.f_336_6 (by decide) ?_
        refine g_ldu hS.k341 hS.l341 (by omega) (by omega) (fun v ev => ?_)
        rw [F 341 _ (by first | decide | exact fun z => absurd z.1 (by decide) | exact ⟨fun z => absurd z.1 (by decide), fun z => absurd z.1 (by decide)⟩ | omega), R3] at ev
        refine g_ifF (by first | decide | omega) ?_
        refine g_C ?_
        refine g_M (by omega) (by omega) ?_
        refine g_C ?_
        refine g_M (by omega) (by omega) ?_
        refine g_A (by omega) (by omega) ?_
        refine g_getr 5 340 rfl hS.k336 hm.f_336_5 (by decide) ?_
        refine g_C ?_
        refine g_A (by omega) (by omega) ?_
        refine g_ldu hS.k340 hS.l340 (by omega) (by omega) (fun v2 e2 => ?_)
        rw [F 340 _ (by first | decide | exact fun z => absurd z.1 (by decide) | exact ⟨fun z => absurd z.1 (by decide), fun z => absurd z.1 (by decide)⟩ | omega)] at e2
        rcases E3 with ⟨x1, x2, x3⟩ | ⟨x1, x2, x3⟩
        · refine g_ifT (by first | decide | omega) ?_
          refine sum m hm F ?_
          show (if c.2.1 = true ∧ (evl (wdR m0) [] c.2.2).headD 0 = 0 then evC (wdR m0) l else (evl (wdR m0) [] c.1).headD 0) = _
          rw [if_neg (fun z => by rw [x1] at z; cases z.1)]
        · refine g_ifF (by first | decide | omega) ?_
          refine g_getr 5 340 rfl hS.k336 hm.f_336_5 (by decide) ?_
          refine g_C ?_
          refine g_A (by omega) (by omega) ?_
          refine g_ldu hS.k340 hS.l340 (by omega) (by omega) (fun v3 e3 => ?_)
          refine g_getr 5 340 rfl hS.k336 hm.f_336_5 (by decide) ?_
          refine g_C ?_
          refine g_A (by omega) (by omega) ?_
          refine g_ldu hS.k340 hS.l340 (by omega) (by omega) (fun v4 e4 => ?_)
          rw [F 340 _ (by first | decide | exact fun z => absurd z.1 (by decide) | exact ⟨fun z => absurd z.1 (by decide), fun z => absurd z.1 (by decide)⟩ | omega)] at e3 e4
          refine ⟨hS.k336, ?_⟩
          have hV : Hs (fun j => m 338 (400 * t + j)) v3 (c.2.2.map en) := by
            rw [e3, x2]
            have e : (fun j => m 338 (400 * t + j)) = (fun j => m0 338 (400 * t + j)) := funext (fun j => F 338 _ (by first | decide | exact fun z => absurd z.1 (by decide) | exact ⟨fun z => absurd z.1 (by decide), fun z => absurd z.1 (by decide)⟩ | omega))
            rw [e]
            exact H3
          refine zk_reckons (V := c.2.2) (d := true) hS hm ht0 ht5 hV (by omega) (by omega) (by omega) (T2 x1) (by omega) (fun r m2 hm2 f2 er2 e01 => ?_)
          have F2 : ∀ c p : Int, ¬ c = 344 ∧ ¬ (c = 336 ∧ p = 18) → m2 c p = m0 c p := fun c p z => (f2 c p z).trans (F c p z)
          rw [wsame m F] at er2
          have r01 := e01 rfl
          have yes : ¬ r = 0 → evC (wdR m0) (c :: l) = (evl (wdR m0) [] c.1).headD 0 := by
            intro z
            show (if c.2.1 = true ∧ (evl (wdR m0) [] c.2.2).headD 0 = 0 then evC (wdR m0) l else (evl (wdR m0) [] c.1).headD 0) = _
            rw [if_neg (fun y => z (er2.trans y.2))]
          have no : r = 0 → wA i 1 fun v63 => wp_X12_summedBy_2 S K n 336 t v63 m2 := by
            intro z
            have ee : evC (wdR m0) (c :: l) = evC (wdR m0) l := by
              show (if c.2.1 = true ∧ (evl (wdR m0) [] c.2.2).headD 0 = 0 then evC (wdR m0) l else (evl (wdR m0) [] c.1).headD 0) = _
              rw [if_pos ⟨x1, er2.symm.trans z⟩]
            rw [ee] at hk
            rw [lr] at T4
            rw [show a + ((c.1.length : Int) + (c.2.2.length : Int)) = a + (c.1.length : Int) + (c.2.2.length : Int) by omega] at T4
            refine g_A (by omega) (by omega) ?_
            exact ih n (i + 1) _ m2 hk hm2 F2 (by omega) (by omega) (by omega) (by omega) H4 T4 (by omega) (by omega)
          refine g_C ?_
          refine g_cmp (fun w => ?_) (fun w => ?_) (fun w => ?_)
          · exact g_ifT (by decide) (no (by omega))
          · exact g_ifF (by decide) (sum m2 hm2 F2 (yes (by omega)))
          · exfalso; omega
  refine u_X12_summedBy ?_
  refine g_C ?_
  exact ⟨Cs.length + 1, L Cs (Cs.length + 1) 0 0 m0 hk hm0 (fun _ _ _ => rfl) (by decide) (by omega) (by decide) (by omega) R1 R2 hn (Nat.le_refl _)⟩
end
section
/-! at most 60 VALUES are written, and something -/
def Pz (P : List Int) : Prop := ∀ x : Int, x ∈ P → x < -11
theorem Pz.rR {u : Int} : ∀ P : List Int, Pz P → Pz (uR u P) := by
  intro P
  induction P with
  | nil => intro h; exact h
  | cons x P ih =>
    intro h
    by_cases e : x = -27 ∨ bnS x < u
    · rw [(uW_low e).2]; exact h
    · rw [(uW_top e).2]; exact ih (fun y hy => h y (List.mem_cons_of_mem _ hy))
theorem Pz.nW {u : Int} : ∀ P : List Int, Pz P → nvs (uW u P) = 0 := by
  intro P
  induction P with
  | nil => intro _; rfl
  | cons x P ih =>
    intro h
    by_cases e : x = -27 ∨ bnS x < u
    · rw [(uW_low e).1]; rfl
    · rw [(uW_top e).1]
      show (if -11 ≤ x then 1 else 0) + nvs (uW u P) = 0
      have := h x (List.mem_cons_self ..)
      rw [if_neg (by omega), ih (fun y hy => h y (List.mem_cons_of_mem _ hy))]
theorem Pz.cons {x : Int} {P : List Int} (h : x < -11) (hp : Pz P) : Pz (x :: P) := by
  intro y hy
  rcases List.mem_cons.mp hy with e | e
  · rw [e]; exact h
  · exact hp y e
theorem arS_r (x : Int) : -16 ≤ arS x ∧ arS x ≤ -12 := by
  unfold arS
  repeat' split
  all_goals decide
theorem cmS_r (x : Int) (e : Bool) : -21 ≤ cmS x e ∧ cmS x e ≤ -17 := by
  unfold cmS
  cases e <;> repeat' split
  all_goals decide
theorem nvs_one {O : List Int} {v : Int} : (nvs (O ++ [v]) : Int) ≤ nvs O + 1 := by
  rw [nvs_app]
  show ((nvs O + ((if -11 ≤ v then 1 else 0) + 0) : Nat) : Int) ≤ _
  split <;> omega
theorem nvs_tok {O : List Int} {v : Int} (h : v < -11) : nvs (O ++ [v]) = nvs O := by
  rw [nvs_app]
  show nvs O + ((if -11 ≤ v then 1 else 0) + 0) = _
  rw [if_neg (by omega)]
  rfl
def Bok (E : List Int) : Prop := nvs E ≤ 60 ∧ ¬ E = []
theorem bcc_ok {b : Int → Int} {n : Int} : ∀ (N : Nat) (m p c : Int) (P O : List Int) (k f : Int) (E : List Int), bcc b n N m p c P O k f E → f = 0 → (nvs O : Int) ≤ c → c ≤ 60 → Pz P → (¬ (0 ≤ m ∧ m ≤ 8) → ¬ O = []) → Bok E := by
  intro N
  induction N with
  | zero => intro m p c P O k f E h; exact h.elim
  | succ N ih =>
    intro m p c P O k f E h hf hc h60 hP hO
    obtain ⟨q, _, h⟩ := h
    have val : ∀ (v r : Int), ¬ c = 60 → (0 ≤ m + 3 ∧ m + 3 ≤ 8) → bcc b n N (m + 3) r (c + 1) P (O ++ [v]) k f E → Bok E := by
      intro v r h6 h9 z
      have := nvs_one (O := O) (v := v)
      exact ih _ _ _ _ _ _ _ _ z hf (by omega) (by omega) hP (fun y => absurd h9 y)
    have pil : ∀ (m' p' c' s : Int), s < -11 → (0 ≤ m' ∧ m' ≤ 8) → c ≤ c' → c' ≤ 60 → bPile (bcc b n N) m' p' c' s P O k f E → Bok E := by
      intro m' p' c' s hs h9 hc' h6 z
      have e := Pz.nW (u := bnS s) P hP
      exact ih _ _ _ _ _ _ _ _ z hf (by rw [nvs_app, e]; omega) h6 (Pz.cons hs (Pz.rR P hP)) (fun y => absurd h9 y)
    have bad : ∀ a : Int, (1 ≤ a ∧ a ≤ 5) → (f = a + 8 * q ∧ E = []) → Bok E := fun a ha z => by
      exfalso
      have := z.1
      omega
    have e0 := Pz.nW (u := 0) P hP
    have fin : ∀ t : Int, t < -11 → bcc b n N 9 q c [] (O ++ uW 0 P ++ [t]) k f E → Bok E := by
      intro t ht z
      exact ih _ _ _ _ _ _ _ _ z hf (by rw [nvs_tok ht, nvs_app, e0]; omega) h60 (fun x hx => absurd hx List.not_mem_nil) (fun _ y => by
        have := congrArg List.length y
        rw [List.length_append] at this
        exact absurd this (Nat.succ_ne_zero _))
    have bBk : bB b n (bcc b n N) q c P O k f E → Bok E := by
      intro g
      by_cases a : Wk b n 15 q
      · exact pil 8 _ c (-23) (by decide) (by decide) (by omega) h60 (g.1 a)
      · by_cases a2 : Wk b n 16 q
        · exact pil 8 _ c (-24) (by decide) (by decide) (by omega) h60 ((g.2 a).1 a2)
        · exact bad 1 (by decide) ((g.2 a).2 a2)
    have bCk : ∀ Z : Prop, (Z → Bok E) → bC b n (bcc b n N) q c P O k f E Z → Bok E := by
      intro Z hZ g
      by_cases a : q < n ∧ b q = 93 ∧ ¬ nOp P = 0
      · refine ih _ _ _ _ _ _ _ _ (g.1 a) hf (by rw [nvs_app, e0]; omega) h60 (fun x hx => Pz.rR (u := 0) P hP x (List.mem_of_mem_tail hx)) (fun y => absurd (by decide) y)
      · by_cases a2 : nOp P = 0 ∧ (n ≤ q ∨ b q = 59)
        · exact fin (-26) (by decide) ((g.2 a).1 a2)
        · exact hZ ((g.2 a).2 a2)
    by_cases m0 : m = 0
    · have g := h.1 m0
      by_cases a : Wk b n 6 q
      · by_cases a2 : k = 12
        · exact bad 5 (by decide) ((g.1 a).1 a2)
        · exact ih _ _ _ _ _ _ _ _ ((g.1 a).2 a2) hf hc h60 (fun x hx => absurd hx List.not_mem_nil) (fun y => absurd (by decide) y)
      · exact bad 1 (by decide) (g.2 a)
    have h1 := h.2 m0
    by_cases m1 : m = 1 ∨ m = 2 ∨ m = 3
    · have g := h1.1 m1
      by_cases a : q < n ∧ Dg (b q)
      · obtain ⟨r, _, g2⟩ := g.1 a
        by_cases a2 : 5 < r - q
        · exact bad 2 (by decide) (g2.1 a2)
        · by_cases a3 : c = 60
          · exact bad 4 (by decide) ((g2.2 a2).1 a3)
          · exact val _ _ a3 (by omega) ((g2.2 a2).2 a3)
      · have g2 := g.2 a
        have : ∀ l : List (Nat × Int), bV b n (bcc b n N) m q c P O k f E l → Bok E := by
          intro l
          induction l with
          | nil => intro z; exact bad 1 (by decide) z
          | cons j js ihl =>
            intro z
            by_cases w : Wk b n j.1 q
            · by_cases a3 : c = 60
              · exact bad 4 (by decide) ((z.1 w).1 a3)
              · exact val _ _ a3 (by omega) ((z.1 w).2 a3)
            · exact ihl (z.2 w)
        exact this _ g2
    have h2 := h1.2 m1
    by_cases m4 : m = 4
    · have g := h2.1 m4
      by_cases a : n ≤ q ∨ b q = 59
      · exact fin (-25) (by decide) (g.1 a)
      · by_cases a2 : Ar (b q)
        · have := arS_r (b q)
          exact pil 1 _ c _ (by omega) (by decide) (by omega) h60 ((g.2 a).1 a2)
        · by_cases a3 : Wk b n 13 q
          · exact ih _ _ _ _ _ _ _ _ (((g.2 a).2 a2).1 a3) hf (by rw [nvs_app, e0]; omega) h60 (Pz.rR P hP) (fun y => absurd (by decide) y)
          · exact bad 1 (by decide) (((g.2 a).2 a2).2 a3)
    have h3 := h2.2 m4
    by_cases m5 : m = 5
    · have g := h3.1 m5
      by_cases a : q < n ∧ Ar (b q)
      · have := arS_r (b q)
        exact pil 2 _ c _ (by omega) (by decide) (by omega) h60 (g.1 a)
      · by_cases a2 : q < n ∧ Cm (b q)
        · by_cases a3 : c = 60
          · exact bad 4 (by decide) (((g.2 a).1 a2).1 a3)
          · have g2 := ((g.2 a).1 a2).2 a3
            by_cases a4 : ¬ b q = 61 ∧ q + 1 < n ∧ b (q + 1) = 61
            · have := cmS_r (b q) true
              exact pil 3 _ (c + 1) _ (by omega) (by decide) (by omega) (by omega) (g2.1 a4)
            · have := cmS_r (b q) false
              exact pil 3 _ (c + 1) _ (by omega) (by decide) (by omega) (by omega) (g2.2 a4)
        · exact bad 1 (by decide) ((g.2 a).2 a2)
    have h4 := h3.2 m5
    by_cases m6 : m = 6
    · refine bCk _ (fun g => ?_) (h4.1 m6)
      by_cases a : q < n ∧ Ar (b q)
      · have := arS_r (b q)
        exact pil 3 _ c _ (by omega) (by decide) (by omega) h60 (g.1 a)
      · exact bBk (g.2 a)
    have h5 := h4.2 m6
    by_cases m7 : m = 7
    · exact bCk _ bBk (h5.1 m7)
    have h6 := h5.2 m7
    by_cases m8 : m = 8
    · have g := h6.1 m8
      by_cases a : q < n ∧ b q = 91
      · by_cases a2 : nDp P = 10
        · exact bad 3 (by decide) ((g.1 a).1 a2)
        · exact ih _ _ _ _ _ _ _ _ ((g.1 a).2 a2) hf hc h60 (Pz.cons (by decide) hP) (fun y => absurd (by decide) y)
      · have g2 := g.2 a
        by_cases a1 : Wk b n 14 q
        · by_cases a2 : nDp P = 10
          · exact bad 3 (by decide) ((g2.1 a1).1 a2)
          · exact ih _ _ _ _ _ _ _ _ ((g2.1 a1).2 a2) hf hc h60 (Pz.cons (by decide) hP) (fun y => absurd (by decide) y)
        · exact ih _ _ _ _ _ _ _ _ (g2.2 a1) hf hc h60 hP (fun y => absurd (by decide) y)
    have g := h6.2 m8
    by_cases a : n ≤ q
    · have z := g.1 a
      have ho := hO (by omega)
      have z2 := z.2
      subst z2
      exact ⟨by omega, ho⟩
    · have g2 := g.2 a
      by_cases a2 : b q = 59
      · exact ih _ _ _ _ _ _ _ _ (g2.1 a2) hf hc h60 (fun x hx => absurd hx List.not_mem_nil) (fun y => absurd (by decide) y)
      · exact bad 1 (by decide) (g2.2 a2)
theorem Bcc.ok {b : Int → Int} {n : Int} {E : List Int} (h : Bcc b n 0 0 0 [] [] 0 0 E) : Bok E := by
  obtain ⟨N, h⟩ := h
  exact bcc_ok N _ _ _ _ _ _ _ _ h rfl (by decide) (by decide) (fun x hx => absurd hx List.not_mem_nil) (fun y => absurd (by decide) y)
theorem Hs.snoc {f : Int → Int} : ∀ (L : List Int) (i x : Int), Hs f i L → f (i + (L.length : Int)) = x → Hs f i (L ++ [x]) := by
  intro L
  induction L with
  | nil =>
    intro i x _ h
    have h2 : f (i + ((0 : Nat) : Int)) = x := h
    rw [show i + ((0 : Nat) : Int) = i by omega] at h2
    exact ⟨h2, trivial⟩
  | cons y L ih =>
    intro i x h h2
    refine ⟨h.1, ih (i + 1) x h.2 ?_⟩
    rw [List.length_cons] at h2
    rw [show i + 1 + (L.length : Int) = i + ((L.length + 1 : Nat) : Int) by omega]
    exact h2
theorem Hs_rl {f : Int → Int} : ∀ n : Nat, Hs f 0 (rl f n) := by
  intro n
  induction n with
  | zero => exact trivial
  | succ n ih =>
    refine Hs.snoc _ _ _ ih ?_
    rw [rl_len]
    congr 1
    omega
theorem Hs.same {f g : Int → Int} : ∀ (L : List Int) (i : Int), (∀ j : Int, i ≤ j → j < i + (L.length : Int) → g j = f j) → Hs f i L → Hs g i L := by
  intro L
  induction L with
  | nil => intro i _ _; exact trivial
  | cons x L ih =>
    intro i h z
    rw [List.length_cons] at h
    exact ⟨(h i (by omega) (by omega)).trans z.1, ih (i + 1) (fun j a c => h j (by omega) (by omega)) z.2⟩
end
section
/-- an ACT: the class keeps its STATE and changes it, the reference keeps its row and changes it -/
theorem RW.act {m0 M1 M2 M3 M4 : Mm} {i u s : Int} (R : RW m0) (ei : i = m0 0 4) (i0 : 0 ≤ i) (i1 : i ≤ 19) (f1 : ∀ c p : Int, ¬ (176 + 8 * i ≤ c ∧ c ≤ 183 + 8 * i) → ¬ (c = 0 ∧ (p = 4 ∨ p = 5)) → M1 c p = m0 c p) (n1 : M1 0 4 = (i + 1) % 20) (v1 : M1 0 5 = m0 0 5 + 1 ∨ (M1 0 5 = 20 ∧ m0 0 5 = 20)) (w0 : M1 (176 + 8 * i) 0 = m0 16 0) (w1 : M1 (176 + 8 * i) 1 = m0 16 1) (w2 : ∀ p : Int, 0 ≤ p → p < 5 → M1 (177 + 8 * i) p = m0 17 p ∧ M1 (178 + 8 * i) p = m0 18 p ∧ M1 (179 + 8 * i) p = m0 19 p) (w3 : ∀ p : Int, 0 ≤ p → p < 4 → M1 (180 + 8 * i) p = m0 20 p ∧ M1 (181 + 8 * i) p = m0 21 p ∧ M1 (182 + 8 * i) p = m0 22 p) (w4 : ∀ p : Int, 0 ≤ p → p < 6 → M1 (183 + 8 * i) p = m0 23 p) (f2 : ∀ c p : Int, ¬ (16 ≤ c ∧ c ≤ 23) → ¬ (55 ≤ c ∧ c ≤ 75) → M2 c p = M1 c p) (u0 : 0 ≤ u) (u1 : u ≤ 19) (e3 : M3 336 25 = u + 1) (hs : (s = 0 ∧ u = M2 336 25) ∨ (s = 57 ∧ u = 19 ∧ M2 336 25 = 20)) (f3 : ∀ c p : Int, ¬ c = 347 → ¬ (c = 336 ∧ p = 25) → M3 c p = M2 c p) (g3 : ∀ j : Int, 0 ≤ j → j < 57 → M3 347 (57 * u + j) = M2 346 j) (k3 : ∀ p : Int, 0 ≤ p → p < 57 * u → M3 347 p = M2 347 (p + s)) (f4 : ∀ c p : Int, ¬ (c = 346 ∧ 0 ≤ p ∧ p < 57 ∧ ¬ tp p) → ¬ (344 ≤ c ∧ c ≤ 345) → ¬ (c = 336 ∧ p = 18) → M4 c p = M3 c p) (b0 : 0 ≤ m0 0 5 ∧ m0 0 5 ≤ 20) (b1 : M1 0 5 ≤ 20) (x : SR M4 16 (M4 346)) : RW M4 := by
  obtain ⟨⟨⟨b, b3⟩, t, r, xx⟩, im, eu, pa⟩ := R
  have F : ∀ c p : Int, ¬ (176 + 8 * i ≤ c ∧ c ≤ 183 + 8 * i) → ¬ (c = 0 ∧ (p = 4 ∨ p = 5)) → ¬ (16 ≤ c ∧ c ≤ 23) → ¬ (55 ≤ c ∧ c ≤ 75) → ¬ c = 347 → ¬ (c = 336 ∧ (p = 25 ∨ p = 18)) → ¬ (c = 346 ∧ 0 ≤ p ∧ p < 57 ∧ ¬ tp p) → ¬ (344 ≤ c ∧ c ≤ 345) → M4 c p = m0 c p := fun c p a1 a2 a3 a4 a5 a6 a7 a8 => by
    rw [f4 c p a7 a8 (fun z => a6 ⟨z.1, Or.inr z.2⟩), f3 c p a5 (fun z => a6 ⟨z.1, Or.inl z.2⟩), f2 c p a3 a4, f1 c p a1 a2]
  have G : ∀ p : Int, (tp p ∨ ¬ (0 ≤ p ∧ p < 57)) → M4 346 p = m0 346 p := fun p q => F 346 p (by first | decide | exact fun z => absurd z.1 (by decide) | exact ⟨fun z => absurd z.1 (by decide), fun z => absurd z.1 (by decide)⟩ | omega) (by first | decide | exact fun z => absurd z.1 (by decide) | exact ⟨fun z => absurd z.1 (by decide), fun z => absurd z.1 (by decide)⟩ | omega) (by first | decide | exact fun z => absurd z.1 (by decide) | exact ⟨fun z => absurd z.1 (by decide), fun z => absurd z.1 (by decide)⟩ | omega) (by first | decide | exact fun z => absurd z.1 (by decide) | exact ⟨fun z => absurd z.1 (by decide), fun z => absurd z.1 (by decide)⟩ | omega) (by first | decide | exact fun z => absurd z.1 (by decide) | exact ⟨fun z => absurd z.1 (by decide), fun z => absurd z.1 (by decide)⟩ | omega) (by first | decide | exact fun z => absurd z.1 (by decide) | exact ⟨fun z => absurd z.1 (by decide), fun z => absurd z.1 (by decide)⟩ | omega) (fun z => q.elim (fun y => z.2.2.2 y) (fun y => y ⟨z.2.1, z.2.2.1⟩)) (by omega)
  have e25 : M2 336 25 = m0 336 25 := by rw [f2 336 25 (by first | decide | exact fun z => absurd z.1 (by decide) | exact ⟨fun z => absurd z.1 (by decide), fun z => absurd z.1 (by decide)⟩ | omega) (by first | decide | exact fun z => absurd z.1 (by decide) | exact ⟨fun z => absurd z.1 (by decide), fun z => absurd z.1 (by decide)⟩ | omega), f1 336 25 (by first | decide | exact fun z => absurd z.1 (by decide) | exact ⟨fun z => absurd z.1 (by decide), fun z => absurd z.1 (by decide)⟩ | omega) (by first | decide | exact fun z => absurd z.1 (by decide) | exact ⟨fun z => absurd z.1 (by decide), fun z => absurd z.1 (by decide)⟩ | omega)]
  have q25 : M4 336 25 = u + 1 := by rw [f4 336 25 (by first | decide | exact fun z => absurd z.1 (by decide) | exact ⟨fun z => absurd z.1 (by decide), fun z => absurd z.1 (by decide)⟩ | omega) (by first | decide | exact fun z => absurd z.1 (by decide) | exact ⟨fun z => absurd z.1 (by decide), fun z => absurd z.1 (by decide)⟩ | omega) (by first | decide | exact fun z => absurd z.1 (by decide) | exact ⟨fun z => absurd z.1 (by decide), fun z => absurd z.1 (by decide)⟩ | omega), e3]
  have q05 : M4 0 5 = M1 0 5 := by rw [f4 0 5 (by first | decide | exact fun z => absurd z.1 (by decide) | exact ⟨fun z => absurd z.1 (by decide), fun z => absurd z.1 (by decide)⟩ | omega) (by first | decide | exact fun z => absurd z.1 (by decide) | exact ⟨fun z => absurd z.1 (by decide), fun z => absurd z.1 (by decide)⟩ | omega) (by first | decide | exact fun z => absurd z.1 (by decide) | exact ⟨fun z => absurd z.1 (by decide), fun z => absurd z.1 (by decide)⟩ | omega), f3 0 5 (by first | decide | exact fun z => absurd z.1 (by decide) | exact ⟨fun z => absurd z.1 (by decide), fun z => absurd z.1 (by decide)⟩ | omega) (by first | decide | exact fun z => absurd z.1 (by decide) | exact ⟨fun z => absurd z.1 (by decide), fun z => absurd z.1 (by decide)⟩ | omega), f2 0 5 (by first | decide | exact fun z => absurd z.1 (by decide) | exact ⟨fun z => absurd z.1 (by decide), fun z => absurd z.1 (by decide)⟩ | omega) (by first | decide | exact fun z => absurd z.1 (by decide) | exact ⟨fun z => absurd z.1 (by decide), fun z => absurd z.1 (by decide)⟩ | omega)]
  have q04 : M4 0 4 = (i + 1) % 20 := by rw [f4 0 4 (by first | decide | exact fun z => absurd z.1 (by decide) | exact ⟨fun z => absurd z.1 (by decide), fun z => absurd z.1 (by decide)⟩ | omega) (by first | decide | exact fun z => absurd z.1 (by decide) | exact ⟨fun z => absurd z.1 (by decide), fun z => absurd z.1 (by decide)⟩ | omega) (by first | decide | exact fun z => absurd z.1 (by decide) | exact ⟨fun z => absurd z.1 (by decide), fun z => absurd z.1 (by decide)⟩ | omega), f3 0 4 (by first | decide | exact fun z => absurd z.1 (by decide) | exact ⟨fun z => absurd z.1 (by decide), fun z => absurd z.1 (by decide)⟩ | omega) (by first | decide | exact fun z => absurd z.1 (by decide) | exact ⟨fun z => absurd z.1 (by decide), fun z => absurd z.1 (by decide)⟩ | omega), f2 0 4 (by first | decide | exact fun z => absurd z.1 (by decide) | exact ⟨fun z => absurd z.1 (by decide), fun z => absurd z.1 (by decide)⟩ | omega) (by first | decide | exact fun z => absurd z.1 (by decide) | exact ⟨fun z => absurd z.1 (by decide), fun z => absurd z.1 (by decide)⟩ | omega), n1]
  have m6 : ∀ p : Int, M2 346 p = m0 346 p := fun p => by rw [f2 346 p (by first | decide | exact fun z => absurd z.1 (by decide) | exact ⟨fun z => absurd z.1 (by decide), fun z => absurd z.1 (by decide)⟩ | omega) (by first | decide | exact fun z => absurd z.1 (by decide) | exact ⟨fun z => absurd z.1 (by decide), fun z => absurd z.1 (by decide)⟩ | omega), f1 346 p (by first | decide | exact fun z => absurd z.1 (by decide) | exact ⟨fun z => absurd z.1 (by decide), fun z => absurd z.1 (by decide)⟩ | omega) (by first | decide | exact fun z => absurd z.1 (by decide) | exact ⟨fun z => absurd z.1 (by decide), fun z => absurd z.1 (by decide)⟩ | omega)]
  have m7 : ∀ p : Int, M2 347 p = m0 347 p := fun p => by rw [f2 347 p (by first | decide | exact fun z => absurd z.1 (by decide) | exact ⟨fun z => absurd z.1 (by decide), fun z => absurd z.1 (by decide)⟩ | omega) (by first | decide | exact fun z => absurd z.1 (by decide) | exact ⟨fun z => absurd z.1 (by decide), fun z => absurd z.1 (by decide)⟩ | omega), f1 347 p (by first | decide | exact fun z => absurd z.1 (by decide) | exact ⟨fun z => absurd z.1 (by decide), fun z => absurd z.1 (by decide)⟩ | omega) (by first | decide | exact fun z => absurd z.1 (by decide) | exact ⟨fun z => absurd z.1 (by decide), fun z => absurd z.1 (by decide)⟩ | omega)]
  have m4 : ∀ p : Int, M4 347 p = M3 347 p := fun p => f4 347 p (by first | decide | exact fun z => absurd z.1 (by decide) | exact ⟨fun z => absurd z.1 (by decide), fun z => absurd z.1 (by decide)⟩ | omega) (by first | decide | exact fun z => absurd z.1 (by decide) | exact ⟨fun z => absurd z.1 (by decide), fun z => absurd z.1 (by decide)⟩ | omega) (by first | decide | exact fun z => absurd z.1 (by decide) | exact ⟨fun z => absurd z.1 (by decide), fun z => absurd z.1 (by decide)⟩ | omega)
  have c4 : ∀ c p : Int, 176 ≤ c → c ≤ 335 → M4 c p = M1 c p := fun c p a1 a2 => by rw [f4 c p (by first | exact fun y => absurd (y.1 ▸ z) (by decide) | exact fun y => absurd (y.1 ▸ q) (by decide) | exact z | exact q | exact z.1 | exact q.1 | exact z.2 | exact q.2 | omega) (by omega) (by omega), f3 c p (by first | exact fun y => absurd (y.1 ▸ z) (by decide) | exact fun y => absurd (y.1 ▸ q) (by decide) | exact z | exact q | exact z.1 | exact q.1 | exact z.2 | exact q.2 | omega) (by omega), f2 c p (by first | exact fun y => absurd (y.1 ▸ z) (by decide) | exact fun y => absurd (y.1 ▸ q) (by decide) | exact z | exact q | exact z.1 | exact q.1 | exact z.2 | exact q.2 | omega) (by omega)]
  refine ⟨⟨⟨b.move (fun p q => G p (by omega)), by rw [G 3 (by omega)]; exact b3⟩, t.move b b3 (fun p _ _ => F _ p (by omega) (by omega) (by omega) (by omega) (by omega) (by omega) (by omega) (by omega)) (fun c p q => F _ p (by omega) (by omega) (by omega) (by omega) (by omega) (by omega) (by omega) (by omega)) (fun p q => G p (Or.inl q)), x, xx.move b (F 3 4 (by first | decide | exact fun z => absurd z.1 (by decide) | exact ⟨fun z => absurd z.1 (by decide), fun z => absurd z.1 (by decide)⟩ | omega) (by first | decide | exact fun z => absurd z.1 (by decide) | exact ⟨fun z => absurd z.1 (by decide), fun z => absurd z.1 (by decide)⟩ | omega) (by first | decide | exact fun z => absurd z.1 (by decide) | exact ⟨fun z => absurd z.1 (by decide), fun z => absurd z.1 (by decide)⟩ | omega) (by first | decide | exact fun z => absurd z.1 (by decide) | exact ⟨fun z => absurd z.1 (by decide), fun z => absurd z.1 (by decide)⟩ | omega) (by first | decide | exact fun z => absurd z.1 (by decide) | exact ⟨fun z => absurd z.1 (by decide), fun z => absurd z.1 (by decide)⟩ | omega) (by first | decide | exact fun z => absurd z.1 (by decide) | exact ⟨fun z => absurd z.1 (by decide), fun z => absurd z.1 (by decide)⟩ | omega) (by first | decide | exact fun z => absurd z.1 (by decide) | exact ⟨fun z => absurd z.1 (by decide), fun z => absurd z.1 (by decide)⟩ | omega) (by first | decide | exact fun z => absurd z.1 (by decide) | exact ⟨fun z => absurd z.1 (by decide), fun z => absurd z.1 (by decide)⟩ | omega)) (fun c p c0 c1 _ _ => F _ p (by omega) (by omega) (by omega) (by omega) (by omega) (by omega) (by omega) (by omega)) (fun p p0 p1 => G p (by omega))⟩, fun k k0 k1 => ?_, ?_, fun q q0 q1 => ?_⟩
  · rw [F 357 k (by first | decide | exact fun z => absurd z.1 (by decide) | exact ⟨fun z => absurd z.1 (by decide), fun z => absurd z.1 (by decide)⟩ | omega) (by first | decide | exact fun z => absurd z.1 (by decide) | exact ⟨fun z => absurd z.1 (by decide), fun z => absurd z.1 (by decide)⟩ | omega) (by first | decide | exact fun z => absurd z.1 (by decide) | exact ⟨fun z => absurd z.1 (by decide), fun z => absurd z.1 (by decide)⟩ | omega) (by first | decide | exact fun z => absurd z.1 (by decide) | exact ⟨fun z => absurd z.1 (by decide), fun z => absurd z.1 (by decide)⟩ | omega) (by first | decide | exact fun z => absurd z.1 (by decide) | exact ⟨fun z => absurd z.1 (by decide), fun z => absurd z.1 (by decide)⟩ | omega) (by first | decide | exact fun z => absurd z.1 (by decide) | exact ⟨fun z => absurd z.1 (by decide), fun z => absurd z.1 (by decide)⟩ | omega) (by first | decide | exact fun z => absurd z.1 (by decide) | exact ⟨fun z => absurd z.1 (by decide), fun z => absurd z.1 (by decide)⟩ | omega) (by first | decide | exact fun z => absurd z.1 (by decide) | exact ⟨fun z => absurd z.1 (by decide), fun z => absurd z.1 (by decide)⟩ | omega)]
    refine (im k k0 k1).imp (fun z => z) (fun z => z.same (fun c p c0 c1 => F c p (by omega) (by omega) (by omega) (by omega) (by omega) (by omega) (by omega) (by omega)) (F _ _ (by omega) (by omega) (by omega) (by omega) (by omega) (by omega) (by omega) (by omega)) (fun p p0 p1 => ?_))
    exact F 354 _ (by first | decide | exact fun z => absurd z.1 (by decide) | exact ⟨fun z => absurd z.1 (by decide), fun z => absurd z.1 (by decide)⟩ | omega) (by first | decide | exact fun z => absurd z.1 (by decide) | exact ⟨fun z => absurd z.1 (by decide), fun z => absurd z.1 (by decide)⟩ | omega) (by first | decide | exact fun z => absurd z.1 (by decide) | exact ⟨fun z => absurd z.1 (by decide), fun z => absurd z.1 (by decide)⟩ | omega) (by first | decide | exact fun z => absurd z.1 (by decide) | exact ⟨fun z => absurd z.1 (by decide), fun z => absurd z.1 (by decide)⟩ | omega) (by first | decide | exact fun z => absurd z.1 (by decide) | exact ⟨fun z => absurd z.1 (by decide), fun z => absurd z.1 (by decide)⟩ | omega) (by first | decide | exact fun z => absurd z.1 (by decide) | exact ⟨fun z => absurd z.1 (by decide), fun z => absurd z.1 (by decide)⟩ | omega) (by first | decide | exact fun z => absurd z.1 (by decide) | exact ⟨fun z => absurd z.1 (by decide), fun z => absurd z.1 (by decide)⟩ | omega) (by first | decide | exact fun z => absurd z.1 (by decide) | exact ⟨fun z => absurd z.1 (by decide), fun z => absurd z.1 (by decide)⟩ | omega)
  · rw [q05, q25]
    rcases v1 with z | ⟨z, z2⟩ <;> rcases hs with ⟨y, y2⟩ | ⟨y, y2, y3⟩ <;> omega
  · rw [q25] at q1
    rw [q04, q25]
    have bb : DB (M4 346) := b.move (fun p q => G p (by omega))
    by_cases e : q = u
    · have ex : 176 + 8 * (((i + 1) % 20 + 20 - (u + 1) + q) % 20) = 176 + 8 * i := by omega
      rw [ex, e]
      have D0 : ∀ p : Int, 0 ≤ p → p < 57 → uD M4 u p = m0 346 p := fun p p0 p1 => by
        show M4 347 (57 * u + p) = _
        rw [m4, g3 p p0 p1, m6]
      refine ⟨⟨r.move b (fun p p0 p1 => ?_) (fun c p q => ?_) D0, bb⟩, fun p p1 tq => ?_⟩
      · rw [c4 _ p (by omega) (by omega)]
        rcases (show p = 0 ∨ p = 1 by omega) with z | z <;> subst z
        · exact w0
        · exact w1
      · obtain ⟨p0, q⟩ := q
        rw [c4 _ p (by omega) (by omega)]
        rcases (show c = 1 ∨ c = 2 ∨ c = 3 ∨ c = 4 ∨ c = 5 ∨ c = 6 ∨ c = 7 by omega) with z | z | z | z | z | z | z <;> subst z
        · rw [show 176 + 8 * i + 1 = 177 + 8 * i by omega]; exact (w2 p p0 (by omega)).1
        · rw [show 176 + 8 * i + 2 = 178 + 8 * i by omega]; exact (w2 p p0 (by omega)).2.1
        · rw [show 176 + 8 * i + 3 = 179 + 8 * i by omega]; exact (w2 p p0 (by omega)).2.2
        · rw [show 176 + 8 * i + 4 = 180 + 8 * i by omega]; exact (w3 p p0 (by omega)).1
        · rw [show 176 + 8 * i + 5 = 181 + 8 * i by omega]; exact (w3 p p0 (by omega)).2.1
        · rw [show 176 + 8 * i + 6 = 182 + 8 * i by omega]; exact (w3 p p0 (by omega)).2.2
        · rw [show 176 + 8 * i + 7 = 183 + 8 * i by omega]; exact w4 p p0 (by omega)
      · rw [D0 p (by omega) p1, G p (Or.inl tq)]
    · obtain ⟨d, hd⟩ : ∃ d : Int, d = (if s = 0 then 0 else 1) := ⟨_, rfl⟩
      have ds : s = 57 * d ∧ (d = 0 ∨ d = 1) ∧ (u + d = m0 336 25) := by
        rcases hs with ⟨z, y⟩ | ⟨z, y, y2⟩
        · rw [if_pos z] at hd; omega
        · rw [if_neg (by omega)] at hd; omega
      obtain ⟨o, ho⟩ : ∃ o : Int, o = (m0 0 4 + 20 - m0 336 25 + (q + d)) % 20 := ⟨_, rfl⟩
      have ex : ((i + 1) % 20 + 20 - (u + 1) + q) % 20 = o := by omega
      have on : ¬ o = i ∧ 0 ≤ o ∧ o ≤ 19 := by omega
      rw [ex]
      obtain ⟨⟨sr, _⟩, tl⟩ := pa (q + d) (by omega) (by omega)
      rw [← ho] at sr
      have D0 : ∀ p : Int, 0 ≤ p → p < 57 → uD M4 q p = uD m0 (q + d) p := fun p p0 p1 => by
        show M4 347 (57 * q + p) = m0 347 (57 * (q + d) + p)
        rw [m4, k3 _ (by omega) (by omega), m7]
        congr 1
        omega
      have bq : DB (uD m0 (q + d)) ∨ True := Or.inr trivial
      have bo : ∀ p : Int, tp p → p < 57 → uD m0 (q + d) p = m0 346 p := fun p a1 a2 => tl p a2 a1
      have bd' : DB (fun p => if p = 157 then m0 346 157 else uD m0 (q + d) p) := b.move (fun p z => by
        by_cases z2 : p = 157
        · rw [z2]; rfl
        · show (if p = 157 then m0 346 157 else uD m0 (q + d) p) = _
          rw [if_neg z2]; exact bo p (by omega) (by omega))
      have sr' : SR m0 (176 + 8 * o) (fun p => if p = 157 then m0 346 157 else uD m0 (q + d) p) := by
        obtain ⟨⟨r1, r2⟩, r3, r4, r5, r6⟩ := sr
        obtain ⟨b4, b5, b6, b9, b157⟩ := b
        have e4 := bo 4 (by omega) (by omega)
        have e5 := bo 5 (by omega) (by omega)
        have e6 := bo 6 (by omega) (by omega)
        have N : ∀ p : Int, p < 57 → (fun p : Int => if p = 157 then m0 346 157 else uD m0 (q + d) p) p = uD m0 (q + d) p := fun p z => if_neg (by omega)
        refine ⟨⟨by rw [N 7 (by omega)]; exact r1, by rw [N 8 (by omega)]; exact r2⟩, fun a a0 a1 => ?_, fun a a0 a1 => ?_, fun a a0 a1 => ?_, fun a a0 a1 => ?_⟩
        · rw [N 4 (by omega)] at a1
          have z := r3 a a0 a1
          unfold SRh at z ⊢
          rw [N _ (by omega), N _ (by omega), N _ (by omega)]
          exact z
        · rw [N 5 (by omega)] at a1
          have z := r4 a a0 a1
          unfold SRj at z ⊢
          rw [N _ (by omega), N _ (by omega), N _ (by omega), N _ (by omega), N _ (by omega)]
          exact z
        · rw [N 5 (by omega)] at a0
          exact r5 a a0 a1
        · rw [N 6 (by omega)] at a1
          rw [N _ (by omega)]
          exact r6 a a0 a1
      refine ⟨⟨sr'.move bd' (fun p p0 p1 => ?_) (fun c p z => ?_) (fun p p0 p1 => ?_), bb⟩, fun p p1 tq => ?_⟩
      · rw [c4 _ p (by omega) (by omega), f1 _ p (by omega) (by omega)]
      · rw [c4 _ p (by omega) (by omega), f1 _ p (by omega) (by omega)]
      · show _ = (if p = 157 then m0 346 157 else uD m0 (q + d) p)
        rw [D0 p p0 p1, if_neg (by omega)]
      · rw [D0 p (by omega) p1, tl p p1 tq, G p (Or.inl tq)]
end
section
/-! an ACT begins: what is kept -/
def KP (m0 M1 : Mm) (i : Int) : Prop := i = m0 0 4 ∧ (0 ≤ i ∧ i ≤ 19) ∧ (∀ c p : Int, ¬ (176 + 8 * i ≤ c ∧ c ≤ 183 + 8 * i) → ¬ (c = 0 ∧ (p = 4 ∨ p = 5)) → M1 c p = m0 c p) ∧ M1 0 4 = (i + 1) % 20 ∧ (M1 0 5 = m0 0 5 + 1 ∨ (M1 0 5 = 20 ∧ m0 0 5 = 20)) ∧ (M1 (176 + 8 * i) 0 = m0 16 0 ∧ M1 (176 + 8 * i) 1 = m0 16 1) ∧ (∀ p : Int, 0 ≤ p → p < 5 → M1 (177 + 8 * i) p = m0 17 p ∧ M1 (178 + 8 * i) p = m0 18 p ∧ M1 (179 + 8 * i) p = m0 19 p) ∧ (∀ p : Int, 0 ≤ p → p < 4 → M1 (180 + 8 * i) p = m0 20 p ∧ M1 (181 + 8 * i) p = m0 21 p ∧ M1 (182 + 8 * i) p = m0 22 p) ∧ (∀ p : Int, 0 ≤ p → p < 6 → M1 (183 + 8 * i) p = m0 23 p) ∧ (0 ≤ m0 0 5 ∧ m0 0 5 ≤ 20) ∧ M1 0 5 ≤ 20
def KA (m2 M3 : Mm) (u s : Int) : Prop := (0 ≤ u ∧ u ≤ 19) ∧ M3 336 25 = u + 1 ∧ ((s = 0 ∧ u = m2 336 25) ∨ (s = 57 ∧ u = 19 ∧ m2 336 25 = 20)) ∧ (∀ c p : Int, ¬ c = 347 → ¬ (c = 336 ∧ p = 25) → M3 c p = m2 c p) ∧ (∀ j : Int, 0 ≤ j → j < 57 → M3 347 (57 * u + j) = m2 346 j) ∧ (∀ p : Int, 0 ≤ p → p < 57 * u → M3 347 p = m2 347 (p + s))
theorem KP.f {m0 M1 : Mm} {i : Int} (k : KP m0 M1 i) {c p : Int} (a : ¬ (176 ≤ c ∧ c ≤ 335)) (b : ¬ (c = 0 ∧ (p = 4 ∨ p = 5))) : M1 c p = m0 c p := k.2.2.1 c p (by have := k.2.1; omega) b
theorem KA.f {m2 M3 : Mm} {u s : Int} (k : KA m2 M3 u s) {c p : Int} (a : ¬ c = 347) (b : ¬ (c = 336 ∧ p = 25)) : M3 c p = m2 c p := k.2.2.2.1 c p a b
theorem zk_keepPast {X : Mm} {S : Sh} {m0 : Mm} {K : Mm → Prop} (hS : Shp S) (hm0 : Inv X S m0) (hk : ∀ (i : Int) (M1 : Mm), Inv X S M1 → KP m0 M1 i → K M1) : wp_X11_keepPast S m0 0 K := zx_keepPast hS hm0 (fun i M1 h e i0 i1 f n v w0 w1 w2 w3 w4 => hk i M1 h ⟨e, ⟨i0, i1⟩, f, n, v, ⟨w0, w1⟩, w2, w3, w4, hm0.f_0_5, h.f_0_5.2⟩)
theorem zk_keepsAct {X : Mm} {S : Sh} {m0 : Mm} {K : Mm → Prop} (hS : Shp S) (hm0 : Inv X S m0) (hk : ∀ (u s : Int) (M1 : Mm), Inv X S M1 → KA m0 M1 u s → K M1) : wp_X12_keepsAct S m0 336 K := zx_keepsAct hS hm0 (fun M1 u s h u0 u1 e c f g k => hk u s M1 h ⟨⟨u0, u1⟩, e, c, f, g, k⟩)
theorem zs_isHand11 {X : Mm} {S : Sh} {m : Mm} {K : Int → Mm → Prop} {h : Int} (hS : Shp S) (hm : Inv X S m) (h1 : 0 ≤ h ∧ h < m 4 4 → K 1 m) (h0 : ¬ (0 ≤ h ∧ h < m 4 4) → K 0 m) : wp_X11_isHand S m 0 h K := by
  refine u_X11_isHand ?_
  refine g_if (fun w => g_C ⟨by decide, h0 (by omega)⟩) (fun w => ?_)
  refine g_getr 1 3 rfl hS.k0 hm.f_0_1 (by decide) ?_
  refine g_getr 0 4 rfl hS.k3 hm.f_3_0 (by decide) ?_
  refine g_getu 4 rfl hS.k4 (fun v ev => ?_)
  exact g_if (fun w2 => g_C ⟨by decide, h0 (by omega)⟩) (fun w2 => g_C ⟨by decide, h1 (by omega)⟩)
theorem zs_isJug11 {X : Mm} {S : Sh} {m : Mm} {K : Int → Mm → Prop} {h : Int} (hS : Shp S) (hm : Inv X S m) (h1 : 0 ≤ h ∧ h < m 4 5 → K 1 m) (h0 : ¬ (0 ≤ h ∧ h < m 4 5) → K 0 m) : wp_X11_isJug S m 0 h K := by
  refine u_X11_isJug ?_
  refine g_if (fun w => g_C ⟨by decide, h0 (by omega)⟩) (fun w => ?_)
  refine g_getr 1 3 rfl hS.k0 hm.f_0_1 (by decide) ?_
  refine g_getr 0 4 rfl hS.k3 hm.f_3_0 (by decide) ?_
  refine g_getu 5 rfl hS.k4 (fun v ev => ?_)
  exact g_if (fun w2 => g_C ⟨by decide, h0 (by omega)⟩) (fun w2 => g_C ⟨by decide, h1 (by omega)⟩)
theorem zs_isPlace11 {X : Mm} {S : Sh} {m : Mm} {K : Int → Mm → Prop} {h : Int} (hS : Shp S) (hm : Inv X S m) (h1 : 0 ≤ h ∧ h < m 4 0 → K 1 m) (h0 : ¬ (0 ≤ h ∧ h < m 4 0) → K 0 m) : wp_X11_isPlace S m 0 h K := by
  refine u_X11_isPlace ?_
  refine g_if (fun w => g_C ⟨by decide, h0 (by omega)⟩) (fun w => ?_)
  refine g_getr 1 3 rfl hS.k0 hm.f_0_1 (by decide) ?_
  refine g_getr 0 4 rfl hS.k3 hm.f_3_0 (by decide) ?_
  refine g_getu 0 rfl hS.k4 (fun v ev => ?_)
  exact g_if (fun w2 => g_C ⟨by decide, h0 (by omega)⟩) (fun w2 => g_C ⟨by decide, h1 (by omega)⟩)
theorem zs_isWant11 {X : Mm} {S : Sh} {m : Mm} {K : Int → Mm → Prop} {h : Int} (hS : Shp S) (hm : Inv X S m) (h1 : 0 ≤ h ∧ h < m 4 7 → K 1 m) (h0 : ¬ (0 ≤ h ∧ h < m 4 7) → K 0 m) : wp_X11_isWant S m 0 h K := by
  refine u_X11_isWant ?_
  refine g_if (fun w => g_C ⟨by decide, h0 (by omega)⟩) (fun w => ?_)
  refine g_getr 1 3 rfl hS.k0 hm.f_0_1 (by decide) ?_
  refine g_getr 0 4 rfl hS.k3 hm.f_3_0 (by decide) ?_
  refine g_getu 7 rfl hS.k4 (fun v ev => ?_)
  exact g_if (fun w2 => g_C ⟨by decide, h0 (by omega)⟩) (fun w2 => g_C ⟨by decide, h1 (by omega)⟩)
theorem zs_isHand12 {X : Mm} {S : Sh} {m : Mm} {K : Int → Mm → Prop} {h : Int} (hS : Shp S) (hm : Inv X S m) (h1 : 0 ≤ h ∧ h < m 346 4 → K 1 m) (h0 : ¬ (0 ≤ h ∧ h < m 346 4) → K 0 m) : wp_X12_isHand S m 336 h K := by
  refine u_X12_isHand ?_
  refine g_if (fun w => g_C ⟨by decide, h0 (by omega)⟩) (fun w => ?_)
  refine g_getr 20 346 rfl hS.k336 hm.f_336_20 (by decide) ?_
  refine g_C ?_
  refine g_ldu hS.k346 hS.l346 (by omega) (by omega) (fun v ev => ?_)
  exact g_if (fun w2 => g_C ⟨by decide, h0 (by omega)⟩) (fun w2 => g_C ⟨by decide, h1 (by omega)⟩)
theorem zs_isJug12 {X : Mm} {S : Sh} {m : Mm} {K : Int → Mm → Prop} {h : Int} (hS : Shp S) (hm : Inv X S m) (h1 : 0 ≤ h ∧ h < m 346 5 → K 1 m) (h0 : ¬ (0 ≤ h ∧ h < m 346 5) → K 0 m) : wp_X12_isJug S m 336 h K := by
  refine u_X12_isJug ?_
  refine g_if (fun w => g_C ⟨by decide, h0 (by omega)⟩) (fun w => ?_)
  refine g_getr 20 346 rfl hS.k336 hm.f_336_20 (by decide) ?_
  refine g_C ?_
  refine g_ldu hS.k346 hS.l346 (by omega) (by omega) (fun v ev => ?_)
  exact g_if (fun w2 => g_C ⟨by decide, h0 (by omega)⟩) (fun w2 => g_C ⟨by decide, h1 (by omega)⟩)
theorem zs_isWant12 {X : Mm} {S : Sh} {m : Mm} {K : Int → Mm → Prop} {h : Int} (hS : Shp S) (hm : Inv X S m) (h1 : 0 ≤ h ∧ h < m 346 6 → K 1 m) (h0 : ¬ (0 ≤ h ∧ h < m 346 6) → K 0 m) : wp_X12_isWant S m 336 h K := by
  refine u_X12_isWant ?_
  refine g_if (fun w => g_C ⟨by decide, h0 (by omega)⟩) (fun w => ?_)
  refine g_getr 20 346 rfl hS.k336 hm.f_336_20 (by decide) ?_
  refine g_C ?_
  refine g_ldu hS.k346 hS.l346 (by omega) (by omega) (fun v ev => ?_)
  exact g_if (fun w2 => g_C ⟨by decide, h0 (by omega)⟩) (fun w2 => g_C ⟨by decide, h1 (by omega)⟩)
theorem zs_isPlace12 {X : Mm} {S : Sh} {m : Mm} {K : Int → Mm → Prop} {h : Int} (hS : Shp S) (hm : Inv X S m) (h1 : 0 ≤ h ∧ h < m 346 0 → K 1 m) (h0 : ¬ (0 ≤ h ∧ h < m 346 0) → K 0 m) : wp_X12_isPlace S m 336 h K := by
  refine u_X12_isPlace ?_
  refine g_if (fun w => g_C ⟨by decide, h0 (by omega)⟩) (fun w => ?_)
  refine g_getr 20 346 rfl hS.k336 hm.f_336_20 (by decide) ?_
  refine g_C ?_
  refine g_ldu hS.k346 hS.l346 (by omega) (by omega) (fun v ev => ?_)
  exact g_if (fun w2 => g_C ⟨by decide, h0 (by omega)⟩) (fun w2 => g_C ⟨by decide, h1 (by omega)⟩)
theorem zs_giveTo {X : Mm} {S : Sh} {m : Mm} {K : Mm → Prop} {h j : Int} (hS : Shp S) (hm : Inv X S m) (i0 : 0 ≤ h) (i1 : h ≤ 4) (j0 : 0 ≤ j) (j1 : j ≤ 3) (hk : ∀ M1 : Mm, Inv X S M1 → (∀ c p : Int, ¬ (p = j ∧ (c = 20 ∨ c = 21)) → M1 c p = m c p) → M1 21 j = h → M1 20 j = -1 → K M1) : wp_X5_giveTo S m 16 h j K := by
  have hb : isSt 16 := by decide
  refine u_X5_giveTo ?_
  refine g_getr 6 21 rfl hS.k16 hm.f_16_6 (by decide) ?_
  refine g_st hS.k21 hS.l21 (by omega) (by omega) (hm.waB_5_5 hb j0 (by omega) (by omega) (by omega)) (fun m1 e1 hm1 => ?_)
  have f1 : ∀ c p : Int, ¬ (c = 21 ∧ p = j) → m1 c p = m c p := fun c p q => (congrFun (congrFun e1 _) _).trans (up_ne q)
  have y1 : m1 21 j = h := (congrFun (congrFun e1 _) _).trans (up_at _ _ _ _)
  refine g_getr 5 20 rfl hS.k16 hm1.f_16_5 (by decide) ?_
  refine g_C ?_
  refine g_st hS.k20 hS.l20 (by omega) (by omega) (hm1.waB_5_4 hb j0 (by omega) (by omega) (by omega)) (fun m2 e2 hm2 => ?_)
  have f2 : ∀ c p : Int, ¬ (c = 20 ∧ p = j) → m2 c p = m1 c p := fun c p q => (congrFun (congrFun e2 _) _).trans (up_ne q)
  have y2 : m2 20 j = -1 := (congrFun (congrFun e2 _) _).trans (up_at _ _ _ _)
  exact hk m2 hm2 (fun c p q => by rw [f2 c p (by omega), f1 c p (by omega)]) (by rw [f2 21 j (by omega), y1]) y2
abbrev cTk (m : Mm) (h j : Int) : Prop := (0 ≤ h ∧ h < m 4 4) ∧ (0 ≤ j ∧ j < m 4 5) ∧ (¬ m 20 j = -1 ∧ m 20 j = m 17 h ∧ m 18 h = 0 ∧ bcF (hbt (m 21) h 4) < 2)
theorem zs_take11 {X : Mm} {S : Sh} {m0 : Mm} {K : Int → Mm → Prop} {h j : Int} (hS : Shp S) (hm : Inv X S m0) (h0 : ¬ cTk m0 h j → K (-1) m0) (hk : ∀ (i : Int) (M1 M2 : Mm), cTk m0 h j → KP m0 M1 i → Inv X S M2 → (∀ c p : Int, ¬ (p = j ∧ (c = 20 ∨ c = 21)) → M2 c p = M1 c p) → M2 21 j = h → M2 20 j = -1 → K (hbt (M2 21) h 4) M2) : wp_X11_take S m0 0 h j K := by
  have b4 := hm.f_4_4
  have b5 := hm.f_4_5
  have hb : isSt 16 := by decide
  refine u_X11_take ?_
  refine ⟨hS.k0, ?_⟩
  refine zs_isHand11 hS hm (fun c1 => g_ifF (by decide) ?_) (fun c1 => g_ifT rfl (g_C (h0 (fun z => c1 z.1))))
  refine ⟨hS.k0, ?_⟩
  refine zs_isJug11 hS hm (fun c2 => g_ifF (by decide) ?_) (fun c2 => g_ifT rfl (g_C (h0 (fun z => c2 z.2.1))))
  refine g_getr 1 3 rfl hS.k0 hm.f_0_1 (by decide) ?_
  refine g_getr 1 16 rfl hS.k3 hm.f_3_1 (by decide) ?_
  refine ⟨hS.k16, ?_⟩
  refine zt_canTake hS hm hb (by omega) (by omega) (by omega) (by omega) (fun c3 => g_ifT (by decide) ?_) (fun c3 => g_ifF (by decide) (g_C (h0 (fun z => c3 z.2.2))))
  refine ⟨hS.k0, ?_⟩
  refine zk_keepPast hS hm (fun i m1 hm1 kp => ?_)
  refine g_getr 1 3 rfl hS.k0 hm1.f_0_1 (by decide) ?_
  refine g_getr 1 16 rfl hS.k3 hm1.f_3_1 (by decide) ?_
  refine ⟨hS.k16, ?_⟩
  refine zs_giveTo hS hm1 (by omega) (by omega) (by omega) (by omega) (fun m2 hm2 f2 y21 y20 => ?_)
  refine g_getr 1 3 rfl hS.k0 hm2.f_0_1 (by decide) ?_
  refine g_getr 1 16 rfl hS.k3 hm2.f_3_1 (by decide) ?_
  refine ⟨hS.k16, ?_⟩
  exact zt_heldBits hS hm2 hb (hk i m1 m2 ⟨c1, c2, c3⟩ kp hm2 f2 y21 y20)
theorem zs_takes {X : Mm} {S : Sh} {m : Mm} {K : Mm → Prop} {h j : Int} (hS : Shp S) (hm : Inv X S m) (i0 : -1 ≤ h) (i1 : h ≤ 4) (j0 : 0 ≤ j) (j1 : j ≤ 3) (hk : ∀ M1 : Mm, Inv X S M1 → (∀ c p : Int, ¬ (c = 346 ∧ p = 35 + 4 * j + 1) → M1 c p = m c p) → M1 346 (35 + 4 * j + 1) = h → K M1) : wp_X12_takes S m 336 h j K := by
  refine u_X12_takes ?_
  refine g_getr 20 346 rfl hS.k336 hm.f_336_20 (by decide) ?_
  refine g_C ?_
  refine g_C ?_
  refine g_M (by omega) (by omega) ?_
  refine g_A (by omega) (by omega) ?_
  refine g_C ?_
  refine g_A (by omega) (by omega) ?_
  refine g_st hS.k346 hS.l346 (by omega) (by omega) (wfm_346_36_4_0_3 hm (a := j) (by omega) (by omega) (by omega) (by omega) (by omega)) (fun m1 e1 hm1 => ?_)
  exact hk m1 hm1 (fun c p q => (congrFun (congrFun e1 _) _).trans (up_ne q)) ((congrFun (congrFun e1 _) _).trans (up_at _ _ _ _))
abbrev rTk (m : Mm) (h j : Int) : Prop := (0 ≤ h ∧ h < m 346 4) ∧ (0 ≤ j ∧ j < m 346 5) ∧ (m 346 (10 + 5 * h + 1) = 0 ∧ StR m j ∧ m 346 (35 + 4 * j + 0) = m 346 (10 + 5 * h + 0) ∧ bcF (hbR m h) < 2)
theorem zs_take12 {X : Mm} {S : Sh} {m0 : Mm} {K : Int → Mm → Prop} {h j : Int} (hS : Shp S) (hm : Inv X S m0) (h0 : ¬ rTk m0 h j → K (-1) m0) (hk : ∀ (u s : Int) (M1 M2 : Mm), rTk m0 h j → KA m0 M1 u s → Inv X S M2 → (∀ c p : Int, ¬ (c = 346 ∧ p = 35 + 4 * j + 1) → M2 c p = M1 c p) → M2 346 (35 + 4 * j + 1) = h → K (hbR M2 h) M2) : wp_X12_take S m0 336 h j K := by
  have b4 := hm.f_346_4
  have b5 := hm.f_346_5
  refine u_X12_take ?_
  refine ⟨hS.k336, ?_⟩
  refine zs_isHand12 hS hm (fun c1 => g_ifF (by decide) ?_) (fun c1 => g_ifT rfl (g_C (h0 (fun z => c1 z.1))))
  refine ⟨hS.k336, ?_⟩
  refine zs_isJug12 hS hm (fun c2 => g_ifF (by decide) ?_) (fun c2 => g_ifT rfl (g_C (h0 (fun z => c2 z.2.1))))
  refine ⟨hS.k336, ?_⟩
  refine zt_takeR hS hm (by omega) (by omega) (by omega) (by omega) (fun c3 => g_ifT (by decide) ?_) (fun c3 => g_ifF (by decide) (g_C (h0 (fun z => c3 z.2.2))))
  refine ⟨hS.k336, ?_⟩
  refine zk_keepsAct hS hm (fun u s m1 hm1 ka => ?_)
  refine ⟨hS.k336, ?_⟩
  refine zs_takes hS hm1 (by omega) (by omega) (by omega) (by omega) (fun m2 hm2 f2 y2 => ?_)
  refine ⟨hS.k336, ?_⟩
  exact zt_held hS hm2 (hk u s m1 m2 ⟨c1, c2, c3⟩ ka hm2 f2 y2)
end
section
/-! put, handOn, go of both sides, to the letter -/
abbrev cPt (m : Mm) (h j : Int) : Prop := (0 ≤ h ∧ h < m 4 4) ∧ (0 ≤ j ∧ j < m 4 5) ∧ m 18 h = 0 ∧ m 21 j = h
theorem zs_put11 {X : Mm} {S : Sh} {m0 : Mm} {K : Int → Mm → Prop} {h j : Int} (hS : Shp S) (hm : Inv X S m0) (h0 : ¬ cPt m0 h j → K (-1) m0) (hk : ∀ (i : Int) (M1 M2 : Mm), cPt m0 h j → KP m0 M1 i → Inv X S M2 → (∀ c p : Int, ¬ (p = j ∧ (c = 20 ∨ c = 21)) → M2 c p = M1 c p) → M2 21 j = -1 → M2 20 j = m0 17 h → K (m0 17 h) M2) : wp_X11_put S m0 0 h j K := by
  have b4 := hm.f_4_4
  have b5 := hm.f_4_5
  have hb : isSt 16 := by decide
  refine u_X11_put ?_
  refine ⟨hS.k0, ?_⟩
  refine zs_isHand11 hS hm (fun c1 => g_ifF (by decide) ?_) (fun c1 => g_ifT rfl (g_C (h0 (fun z => c1 z.1))))
  refine ⟨hS.k0, ?_⟩
  refine zs_isJug11 hS hm (fun c2 => g_ifF (by decide) ?_) (fun c2 => g_ifT rfl (g_C (h0 (fun z => c2 z.2.1))))
  refine g_getr 1 3 rfl hS.k0 hm.f_0_1 (by decide) ?_
  refine g_getr 1 16 rfl hS.k3 hm.f_3_1 (by decide) ?_
  refine ⟨hS.k16, ?_⟩
  refine zt_atPlace hS hm hb (by omega) (by omega) (fun c3 => g_ifT (by decide) ?_) (fun c3 => g_ifF (by decide) (g_C (h0 (fun z => c3 z.2.2.1))))
  refine g_getr 1 3 rfl hS.k0 hm.f_0_1 (by decide) ?_
  refine g_getr 1 16 rfl hS.k3 hm.f_3_1 (by decide) ?_
  refine g_getr 6 21 rfl hS.k16 hm.f_16_6 (by decide) ?_
  refine g_ldu hS.k21 hS.l21 (by omega) (by omega) (fun v ev => ?_)
  refine g_if (fun w => ?_) (fun w => g_C (h0 (fun z => w (ev.trans z.2.2.2))))
  refine ⟨hS.k0, ?_⟩
  refine zk_keepPast hS hm (fun i m1 hm1 kp => ?_)
  refine g_getr 1 3 rfl hS.k0 hm1.f_0_1 (by decide) ?_
  refine g_getr 1 16 rfl hS.k3 hm1.f_3_1 (by decide) ?_
  refine g_getr 6 21 rfl hS.k16 hm1.f_16_6 (by decide) ?_
  refine g_C ?_
  refine g_st hS.k21 hS.l21 (by omega) (by omega) (hm1.waB_5_5 hb c2.1 (by omega) (by omega) (by omega)) (fun m2 e2 hm2 => ?_)
  have f2 : ∀ c p : Int, ¬ (c = 21 ∧ p = j) → m2 c p = m1 c p := fun c p q => (congrFun (congrFun e2 _) _).trans (up_ne q)
  have y2 : m2 21 j = -1 := (congrFun (congrFun e2 _) _).trans (up_at _ _ _ _)
  refine g_getr 1 3 rfl hS.k0 hm2.f_0_1 (by decide) ?_
  refine g_getr 1 16 rfl hS.k3 hm2.f_3_1 (by decide) ?_
  refine g_getr 5 20 rfl hS.k16 hm2.f_16_5 (by decide) ?_
  refine g_getr 1 3 rfl hS.k0 hm2.f_0_1 (by decide) ?_
  refine g_getr 1 16 rfl hS.k3 hm2.f_3_1 (by decide) ?_
  refine g_getr 2 17 rfl hS.k16 hm2.f_16_2 (by decide) ?_
  refine g_ldu hS.k17 hS.l17 (by omega) (by omega) (fun v2 ev2 => ?_)
  have q17 : 0 ≤ m2 17 h ∧ m2 17 h ≤ 5 := hm2.aB_5_1 hb (i := h) (by omega) (by omega)
  have r17 : m2 17 h = m0 17 h := by rw [f2 17 h (by omega), kp.f (by omega) (by omega)]
  refine g_st hS.k20 hS.l20 (by omega) (by omega) (hm2.waB_5_4 hb c2.1 (by omega) (by omega) (by omega)) (fun m3 e3 hm3 => ?_)
  have f3 : ∀ c p : Int, ¬ (c = 20 ∧ p = j) → m3 c p = m2 c p := fun c p q => (congrFun (congrFun e3 _) _).trans (up_ne q)
  have y3 : m3 20 j = v2 := (congrFun (congrFun e3 _) _).trans (up_at _ _ _ _)
  refine g_getr 1 3 rfl hS.k0 hm3.f_0_1 (by decide) ?_
  refine g_getr 1 16 rfl hS.k3 hm3.f_3_1 (by decide) ?_
  refine g_getr 2 17 rfl hS.k16 hm3.f_16_2 (by decide) ?_
  refine g_ldu hS.k17 hS.l17 (by omega) (by omega) (fun v3 ev3 => ?_)
  have e4 : v3 = m0 17 h := by rw [ev3, f3 17 h (by omega), r17]
  rw [e4]
  exact hk i m1 m3 ⟨c1, c2, c3, ev.symm.trans w⟩ kp hm3 (fun c p q => by rw [f3 c p (by omega), f2 c p (by omega)]) (by rw [f3 21 j (by omega), y2]) (by rw [y3, ev2, r17])
abbrev rPt (m : Mm) (h j : Int) : Prop := (0 ≤ h ∧ h < m 346 4) ∧ (0 ≤ j ∧ j < m 346 5) ∧ m 346 (35 + 4 * j + 1) = h ∧ m 346 (10 + 5 * h + 1) = 0
theorem zs_put12 {X : Mm} {S : Sh} {m0 : Mm} {K : Int → Mm → Prop} {h j : Int} (hS : Shp S) (hm : Inv X S m0) (h0 : ¬ rPt m0 h j → K (-1) m0) (hk : ∀ (u s : Int) (M1 M2 : Mm), rPt m0 h j → KA m0 M1 u s → Inv X S M2 → (∀ c p : Int, ¬ (c = 346 ∧ (p = 35 + 4 * j + 1 ∨ p = 35 + 4 * j)) → M2 c p = M1 c p) → M2 346 (35 + 4 * j + 1) = -1 → M2 346 (35 + 4 * j) = m0 346 (10 + 5 * h + 0) → K (m0 346 (10 + 5 * h + 0)) M2) : wp_X12_put S m0 336 h j K := by
  have b4 := hm.f_346_4
  have b5 := hm.f_346_5
  refine u_X12_put ?_
  refine ⟨hS.k336, ?_⟩
  refine zs_isHand12 hS hm (fun c1 => g_ifF (by decide) ?_) (fun c1 => g_ifT rfl (g_C (h0 (fun z => c1 z.1))))
  refine ⟨hS.k336, ?_⟩
  refine zs_isJug12 hS hm (fun c2 => g_ifF (by decide) ?_) (fun c2 => g_ifT rfl (g_C (h0 (fun z => c2 z.2.1))))
  refine g_C ?_
  refine ⟨hS.k336, ?_⟩
  refine zt_jugOf hS hm (by omega) (by omega) (by omega) (by omega) ?_
  refine g_if (fun w => g_C (h0 (fun z => w z.2.2.1))) (fun w => ?_)
  refine ⟨hS.k336, ?_⟩
  refine zt_atR hS hm (by omega) (by omega) (fun c3 => g_ifT (by decide) ?_) (fun c3 => g_ifF (by decide) (g_C (h0 (fun z => c3 z.2.2.2))))
  refine ⟨hS.k336, ?_⟩
  refine zk_keepsAct hS hm (fun u s m1 hm1 ka => ?_)
  refine g_getr 20 346 rfl hS.k336 hm1.f_336_20 (by decide) ?_
  refine g_C ?_
  refine g_C ?_
  refine g_M (by omega) (by omega) ?_
  refine g_A (by omega) (by omega) ?_
  refine g_C ?_
  refine g_A (by omega) (by omega) ?_
  refine g_C ?_
  refine g_st hS.k346 hS.l346 (by omega) (by omega) (wfm_346_36_4_0_3 hm1 (a := j) (by omega) (by omega) (by omega) (by omega) (by omega)) (fun m2 e2 hm2 => ?_)
  have f2 : ∀ c p : Int, ¬ (c = 346 ∧ p = 35 + 4 * j + 1) → m2 c p = m1 c p := fun c p q => (congrFun (congrFun e2 _) _).trans (up_ne q)
  have y2 : m2 346 (35 + 4 * j + 1) = -1 := (congrFun (congrFun e2 _) _).trans (up_at _ _ _ _)
  refine g_getr 20 346 rfl hS.k336 hm2.f_336_20 (by decide) ?_
  refine g_C ?_
  refine g_C ?_
  refine g_M (by omega) (by omega) ?_
  refine g_A (by omega) (by omega) ?_
  refine g_C ?_
  refine ⟨hS.k336, ?_⟩
  refine zt_handOf hS hm2 (by omega) (by omega) (by omega) (by omega) ?_
  have r0 : m2 346 (10 + 5 * h + 0) = m0 346 (10 + 5 * h + 0) := by rw [f2 346 _ (by omega), ka.f (by omega) (by omega)]
  have q0 : 0 ≤ m2 346 (10 + 5 * h + 0) ∧ m2 346 (10 + 5 * h + 0) ≤ 5 := fam_346_10_5_0_4 hm2 (a := h) (by omega) (by omega) (by omega)
  have x4 : m0 346 4 = X 346 4 := hm.g (by decide)
  have pp : m2 346 (10 + 5 * h) < X 346 0 := hm2.pl.1.1 h c1.1 (by omega)
  rw [show 10 + 5 * h = 10 + 5 * h + 0 by omega] at pp
  refine g_st hS.k346 hS.l346 (by omega) (by omega) (wfm_346_35_4_0_3 hm2 (a := j) (by omega) (by omega) (by omega) (by omega) (by omega) pp) (fun m3 e3 hm3 => ?_)
  have f3 : ∀ c p : Int, ¬ (c = 346 ∧ p = 35 + 4 * j) → m3 c p = m2 c p := fun c p q => (congrFun (congrFun e3 _) _).trans (up_ne q)
  have y3 : m3 346 (35 + 4 * j) = m2 346 (10 + 5 * h + 0) := (congrFun (congrFun e3 _) _).trans (up_at _ _ _ _)
  refine g_C ?_
  refine ⟨hS.k336, ?_⟩
  refine zt_handOf hS hm3 (by omega) (by omega) (by omega) (by omega) ?_
  rw [f3 346 (10 + 5 * h + 0) (by omega), r0]
  exact hk u s m1 m3 ⟨c1, c2, by omega, c3⟩ ka hm3 (fun c p q => by rw [f3 c p (by omega), f2 c p (by omega)]) (by rw [f3 346 _ (by omega), y2]) (by rw [y3, r0])
abbrev cHo (m : Mm) (j h : Int) : Prop := (0 ≤ h ∧ h < m 4 4) ∧ (0 ≤ j ∧ j < m 4 5) ∧ (0 ≤ m 21 j ∧ m 21 j < m 4 4) ∧ ¬ m 21 j = h ∧ (m 18 (m 21 j) = 0 ∧ m 17 (m 21 j) = m 17 h ∧ m 18 h = 0 ∧ bcF (hbt (m 21) h 4) < 2)
theorem zs_handOn11 {X : Mm} {S : Sh} {m0 : Mm} {K : Int → Mm → Prop} {j h : Int} (hS : Shp S) (hm : Inv X S m0) (h0 : ¬ cHo m0 j h → K (-1) m0) (hk : ∀ (i : Int) (M1 M2 : Mm), cHo m0 j h → KP m0 M1 i → Inv X S M2 → (∀ c p : Int, ¬ (p = j ∧ (c = 20 ∨ c = 21)) → M2 c p = M1 c p) → M2 21 j = h → M2 20 j = -1 → K (m0 21 j) M2) : wp_X11_handOn S m0 0 j h K := by
  have b4 := hm.f_4_4
  have b5 := hm.f_4_5
  have hb : isSt 16 := by decide
  refine u_X11_handOn ?_
  refine ⟨hS.k0, ?_⟩
  refine zs_isHand11 hS hm (fun c1 => g_ifF (by decide) ?_) (fun c1 => g_ifT rfl (g_C (h0 (fun z => c1 z.1))))
  refine ⟨hS.k0, ?_⟩
  refine zs_isJug11 hS hm (fun c2 => g_ifT (by decide) ?_) (fun c2 => g_ifF (by decide) (g_C (h0 (fun z => c2 z.2.1))))
  refine g_getr 1 3 rfl hS.k0 hm.f_0_1 (by decide) ?_
  refine g_getr 1 16 rfl hS.k3 hm.f_3_1 (by decide) ?_
  refine g_getr 6 21 rfl hS.k16 hm.f_16_6 (by decide) ?_
  refine g_ldu hS.k21 hS.l21 (by omega) (by omega) (fun v ev => ?_)
  subst ev
  refine ⟨hS.k0, ?_⟩
  refine zs_isHand11 hS hm (fun c3 => g_ifF (by decide) ?_) (fun c3 => g_ifT rfl (g_C (h0 (fun z => c3 z.2.2.1))))
  refine g_if (fun w => g_C (h0 (fun z => z.2.2.2.1 w))) (fun w => ?_)
  refine g_getr 1 3 rfl hS.k0 hm.f_0_1 (by decide) ?_
  refine g_getr 1 16 rfl hS.k3 hm.f_3_1 (by decide) ?_
  refine ⟨hS.k16, ?_⟩
  refine zt_canGive hS hm hb (by omega) (by omega) (by omega) (by omega) (fun c4 => g_ifT (by decide) ?_) (fun c4 => g_ifF (by decide) (g_C (h0 (fun z => c4 z.2.2.2.2))))
  refine ⟨hS.k0, ?_⟩
  refine zk_keepPast hS hm (fun i m1 hm1 kp => ?_)
  refine g_getr 1 3 rfl hS.k0 hm1.f_0_1 (by decide) ?_
  refine g_getr 1 16 rfl hS.k3 hm1.f_3_1 (by decide) ?_
  refine ⟨hS.k16, ?_⟩
  exact zs_giveTo hS hm1 (by omega) (by omega) (by omega) (by omega) (fun m2 hm2 f2 y21 y20 => hk i m1 m2 ⟨c1, c2, c3, w, c4⟩ kp hm2 f2 y21 y20)
abbrev rHo (m : Mm) (j h : Int) : Prop := (0 ≤ j ∧ j < m 346 5) ∧ (0 ≤ h ∧ h < m 346 4) ∧ 0 ≤ m 346 (35 + 4 * j + 1) ∧ ¬ m 346 (35 + 4 * j + 1) = h ∧ m 346 (10 + 5 * m 346 (35 + 4 * j + 1) + 1) = 0 ∧ m 346 (10 + 5 * h + 1) = 0 ∧ m 346 (10 + 5 * m 346 (35 + 4 * j + 1) + 0) = m 346 (10 + 5 * h + 0) ∧ ¬ bcF (hbR m h) = 2
theorem zs_handOn12 {X : Mm} {S : Sh} {m0 : Mm} {K : Int → Mm → Prop} {j h : Int} (hS : Shp S) (hm : Inv X S m0) (h0 : ¬ rHo m0 j h → K (-1) m0) (hk : ∀ (u s : Int) (M1 M2 : Mm), rHo m0 j h → KA m0 M1 u s → Inv X S M2 → (∀ c p : Int, ¬ (c = 346 ∧ p = 35 + 4 * j + 1) → M2 c p = M1 c p) → M2 346 (35 + 4 * j + 1) = h → K (m0 346 (35 + 4 * j + 1)) M2) : wp_X12_handOn S m0 336 j h K := by
  have b4 := hm.f_346_4
  have b5 := hm.f_346_5
  refine u_X12_handOn ?_
  refine ⟨hS.k336, ?_⟩
  refine zs_isJug12 hS hm (fun c1 => g_ifF (by decide) ?_) (fun c1 => g_ifT rfl (g_C (h0 (fun z => c1 z.1))))
  refine ⟨hS.k336, ?_⟩
  refine zs_isHand12 hS hm (fun c2 => g_ifF (by decide) ?_) (fun c2 => g_ifT rfl (g_C (h0 (fun z => c2 z.2.1))))
  have bj : -1 ≤ m0 346 (35 + 4 * j + 1) ∧ m0 346 (35 + 4 * j + 1) ≤ 4 := fam_346_36_4_0_3 hm (a := j) (by omega) (by omega) (by omega)
  refine g_C ?_
  refine ⟨hS.k336, ?_⟩
  refine zt_jugOf hS hm (by omega) (by omega) (by omega) (by omega) ?_
  refine g_if (fun w => g_C (h0 (fun z => absurd z.2.2.1 (by omega)))) (fun w => ?_)
  refine g_C ?_
  refine ⟨hS.k336, ?_⟩
  refine zt_jugOf hS hm (by omega) (by omega) (by omega) (by omega) ?_
  refine g_if (fun w2 => ?_) (fun w2 => g_C (h0 (fun z => w2 z.2.2.2.1)))
  refine g_C ?_
  refine ⟨hS.k336, ?_⟩
  refine zt_jugOf hS hm (by omega) (by omega) (by omega) (by omega) ?_
  refine ⟨hS.k336, ?_⟩
  refine zt_atR hS hm (by omega) (by omega) (fun c3 => g_ifF (by decide) ?_) (fun c3 => g_ifT rfl (g_C (h0 (fun z => c3 z.2.2.2.2.1))))
  refine ⟨hS.k336, ?_⟩
  refine zt_atR hS hm (by omega) (by omega) (fun c4 => g_ifF (by decide) ?_) (fun c4 => g_ifT rfl (g_C (h0 (fun z => c4 z.2.2.2.2.2.1))))
  refine g_C ?_
  refine ⟨hS.k336, ?_⟩
  refine zt_handOf hS hm (by omega) (by omega) (by omega) (by omega) ?_
  refine g_C ?_
  refine ⟨hS.k336, ?_⟩
  refine zt_handOf hS hm (by omega) (by omega) (by omega) (by omega) ?_
  refine g_if (fun w3 => g_C (h0 (fun z => w3 z.2.2.2.2.2.2.1))) (fun w3 => ?_)
  refine ⟨hS.k336, ?_⟩
  refine zt_held hS hm ?_
  have bb := hbt_15 (f := fun j => m0 346 (36 + 4 * j)) (h := h) (n := (m0 346 5).toNat) (by omega)
  refine zt_bits bb.1 bb.2 ?_
  refine g_C ?_
  refine g_if (fun w4 => ?_) (fun w4 => g_C (h0 (fun z => w4 z.2.2.2.2.2.2.2)))
  refine ⟨hS.k336, ?_⟩
  refine zk_keepsAct hS hm (fun u s m1 hm1 ka => ?_)
  refine ⟨hS.k336, ?_⟩
  exact zs_takes hS hm1 (by omega) (by omega) (by omega) (by omega) (fun m2 hm2 f2 y2 => hk u s m1 m2 ⟨c1, c2, by omega, w2, c3, c4, by omega, w4⟩ ka hm2 f2 y2)
abbrev rMt (D : Int → Int) (a c k : Int) : Prop := (D (57 + 3 * k) = a ∧ D (57 + 3 * k + 1) = c) ∨ (D (57 + 3 * k) = c ∧ D (57 + 3 * k + 1) = a)
theorem zs_roadOf {X : Mm} {S : Sh} {m : Mm} {K : Int → Mm → Prop} {a b : Int} (hS : Shp S) (hm : Inv X S m) (h0 : ¬ Rt (m 346) a b → K 0 m) (hk : ∀ k : Int, 0 ≤ k → k < m 346 3 → rMt (m 346) a b k → K (m 346 (57 + 3 * k + 2)) m) : wp_X12_roadOf S m 336 a b K := by
  have b3 := hm.f_346_3
  refine u_X12_roadOf ?_
  refine g_C ?_
  have L : ∀ (n : Nat) (i : Int), 0 ≤ i → i ≤ m 346 3 → (∀ l : Int, 0 ≤ l → l < i → ¬ rMt (m 346) a b l) → 9 - i ≤ (n : Int) → wp_X12_roadOf_2 S K n 336 a b i m := by
    intro n
    induction n with
    | zero => intro i i0 i1 _ hn; exfalso; omega
    | succ n ih =>
      intro i i0 i1 hi hn
      refine u_X12_roadOf_2 ?_
      refine g_getr 20 346 rfl hS.k336 hm.f_336_20 (by decide) ?_
      refine g_C ?_
      refine g_ldu hS.k346 hS.l346 (by omega) (by omega) (fun v ev => ?_)
      refine g_if (fun w => g_C (h0 (fun z => ?_))) (fun w => ?_)
      · obtain ⟨k, k0, k1, k2⟩ := z
        exact hi k k0 (by omega) k2
      have found : rMt (m 346) a b i → wp_X12_roadOf_68 S K 336 (57 + 3 * i) m := by
        intro q
        refine u_X12_roadOf_68 ?_
        refine g_getr 20 346 rfl hS.k336 hm.f_336_20 (by decide) ?_
        refine g_C ?_
        refine g_A (by omega) (by omega) ?_
        refine g_ldu hS.k346 hS.l346 (by omega) (by omega) (fun v2 ev2 => ?_)
        rw [ev2]
        exact hk i i0 (by omega) q
      have next : ¬ rMt (m 346) a b i → wp_X12_roadOf_78 S (fun a0 a1 a2 a3 M => wp_X12_roadOf_2 S K n a0 a1 a2 a3 M) K 336 a b i m := by
        intro q
        refine u_X12_roadOf_78 ?_
        refine g_A (by omega) (by omega) ?_
        refine ih (i + 1) (by omega) (by omega) (fun l l0 l1 => ?_) (by omega)
        by_cases e : l = i
        · rw [e]; exact q
        · exact hi l l0 (by omega)
      have second : ¬ (m 346 (57 + 3 * i) = a ∧ m 346 (57 + 3 * i + 1) = b) → wp_X12_roadOf_44 S (fun a0 a1 a2 a3 M => wp_X12_roadOf_2 S K n a0 a1 a2 a3 M) K 336 a b i (57 + 3 * i) m := by
        intro q
        refine u_X12_roadOf_44 ?_
        refine g_getr 20 346 rfl hS.k336 hm.f_336_20 (by decide) ?_
        refine g_ldu hS.k346 hS.l346 (by omega) (by omega) (fun v2 ev2 => ?_)
        refine g_if (fun w2 => next (fun z => z.elim q (fun y => w2 (ev2.trans y.1)))) (fun w2 => ?_)
        refine g_getr 20 346 rfl hS.k336 hm.f_336_20 (by decide) ?_
        refine g_C ?_
        refine g_A (by omega) (by omega) ?_
        refine g_ldu hS.k346 hS.l346 (by omega) (by omega) (fun v3 ev3 => ?_)
        exact g_if (fun w3 => next (fun z => z.elim q (fun y => w3 (ev3.trans y.2)))) (fun w3 => found (Or.inr ⟨by omega, by omega⟩))
      refine g_C ?_
      refine g_C ?_
      refine g_M (by omega) (by omega) ?_
      refine g_A (by omega) (by omega) ?_
      refine g_getr 20 346 rfl hS.k336 hm.f_336_20 (by decide) ?_
      refine g_ldu hS.k346 hS.l346 (by omega) (by omega) (fun v2 ev2 => ?_)
      refine g_if (fun w2 => second (fun z => w2 (ev2.trans z.1))) (fun w2 => ?_)
      refine g_getr 20 346 rfl hS.k336 hm.f_336_20 (by decide) ?_
      refine g_C ?_
      refine g_A (by omega) (by omega) ?_
      refine g_ldu hS.k346 hS.l346 (by omega) (by omega) (fun v3 ev3 => ?_)
      exact g_if (fun w3 => found (Or.inl ⟨by omega, by omega⟩)) (fun w3 => second (fun z => w3 (ev3.trans z.2)))
  exact ⟨9, L 9 0 (by omega) (by omega) (fun l l0 l1 => absurd l1 (by omega)) (by omega)⟩
end
section
/-! go and meet of both sides, to the letter -/
theorem zs_roadFor {X : Mm} {S : Sh} {m : Mm} {K : Int → Mm → Prop} {h p : Int} (hS : Shp S) (hm : Inv X S m) (i0 : 0 ≤ h) (i1 : h ≤ 4) (p0 : 0 ≤ p) (p1 : p ≤ 5) (h0 : ¬ m 18 h = 0 → K 0 m) (hk : m 18 h = 0 → 0 ≤ m 17 h → m 17 h ≤ 5 → K (m 5 (6 * m 17 h + p)) m) : wp_X5_roadFor S m 16 4 h p K := by
  have hb : isSt 16 := by decide
  refine u_X5_roadFor ?_
  refine ⟨hS.k16, ?_⟩
  refine zt_atPlace hS hm hb i0 i1 (fun c3 => g_ifF (by decide) ?_) (fun c3 => g_ifT rfl (g_C (h0 c3)))
  refine g_getr 2 17 rfl hS.k16 hm.f_16_2 (by decide) ?_
  refine g_ldu hS.k17 hS.l17 (by omega) (by omega) (fun v ev => ?_)
  have q17 : 0 ≤ m 17 h ∧ m 17 h ≤ 5 := hm.aB_5_1 hb (i := h) (by omega) (by omega)
  refine ⟨hS.k4, ?_⟩
  refine u_X8_roadHours ?_
  refine g_getr 8 5 rfl hS.k4 hm.f_4_8 (by decide) ?_
  refine u_X8_pair ?_
  refine g_C ?_
  refine g_M (by omega) (by omega) ?_
  refine g_A (by omega) (by omega) ?_
  refine g_ldu hS.k5 hS.l5 (by omega) (by omega) (fun v2 ev2 => ?_)
  rw [ev2, show v * 6 + p = 6 * m 17 h + p by omega]
  exact hk c3 q17.1 q17.2
abbrev cGo (m : Mm) (h p : Int) : Prop := (0 ≤ h ∧ h < m 4 4) ∧ (0 ≤ p ∧ p < m 4 0) ∧ m 18 h = 0 ∧ ¬ m 5 (6 * m 17 h + p) = 0
theorem zs_go11 {X : Mm} {S : Sh} {m0 : Mm} {K : Int → Mm → Prop} {h p : Int} (hS : Shp S) (hm : Inv X S m0) (h0 : ¬ cGo m0 h p → K (-1) m0) (hk : ∀ (i : Int) (M1 M2 : Mm), cGo m0 h p → KP m0 M1 i → Inv X S M2 → (∀ c q : Int, ¬ (q = h ∧ (c = 17 ∨ c = 18)) → M2 c q = M1 c q) → M2 17 h = p → M2 18 h = m0 5 (6 * m0 17 h + p) → K (m0 5 (6 * m0 17 h + p)) M2) : wp_X11_go S m0 0 h p K := by
  have b4 := hm.f_4_4
  have b0 := hm.f_4_0
  have hb : isSt 16 := by decide
  refine u_X11_go ?_
  refine ⟨hS.k0, ?_⟩
  refine zs_isHand11 hS hm (fun c1 => g_ifF (by decide) ?_) (fun c1 => g_ifT rfl (g_C (h0 (fun z => c1 z.1))))
  refine ⟨hS.k0, ?_⟩
  refine zs_isPlace11 hS hm (fun c2 => g_ifT (by decide) ?_) (fun c2 => g_ifF (by decide) (g_C (h0 (fun z => c2 z.2.1))))
  refine g_getr 1 3 rfl hS.k0 hm.f_0_1 (by decide) ?_
  refine g_getr 1 16 rfl hS.k3 hm.f_3_1 (by decide) ?_
  refine g_getr 1 3 rfl hS.k0 hm.f_0_1 (by decide) ?_
  refine g_getr 0 4 rfl hS.k3 hm.f_3_0 (by decide) ?_
  refine ⟨hS.k16, ?_⟩
  refine zs_roadFor hS hm (by omega) (by omega) (by omega) (by omega) (fun c3 => g_ifF (by decide) (g_C (h0 (fun z => c3 z.2.2.1)))) (fun c3 q0 q1 => ?_)
  refine g_if (fun c4 => ?_) (fun c4 => g_C (h0 (fun z => c4 z.2.2.2)))
  have br : 0 ≤ m0 5 (6 * m0 17 h + p) ∧ m0 5 (6 * m0 17 h + p) ≤ 5 := hm.a_5 (i := 6 * m0 17 h + p) (by omega) (by omega)
  refine ⟨hS.k0, ?_⟩
  refine zk_keepPast hS hm (fun i m1 hm1 kp => ?_)
  refine g_getr 1 3 rfl hS.k0 hm1.f_0_1 (by decide) ?_
  refine g_getr 1 16 rfl hS.k3 hm1.f_3_1 (by decide) ?_
  refine ⟨hS.k16, ?_⟩
  refine u_X5_setOut ?_
  refine g_getr 2 17 rfl hS.k16 hm1.f_16_2 (by decide) ?_
  refine g_st hS.k17 hS.l17 (by omega) (by omega) (hm1.waB_5_1 hb c1.1 (by omega) (by omega) (by omega)) (fun m2 e2 hm2 => ?_)
  have f2 : ∀ c q : Int, ¬ (c = 17 ∧ q = h) → m2 c q = m1 c q := fun c q z => (congrFun (congrFun e2 _) _).trans (up_ne z)
  have y2 : m2 17 h = p := (congrFun (congrFun e2 _) _).trans (up_at _ _ _ _)
  refine g_getr 3 18 rfl hS.k16 hm2.f_16_3 (by decide) ?_
  refine g_st hS.k18 hS.l18 (by omega) (by omega) (hm2.waB_5_2 hb c1.1 (by omega) (by omega) (by omega)) (fun m3 e3 hm3 => ?_)
  have f3 : ∀ c q : Int, ¬ (c = 18 ∧ q = h) → m3 c q = m2 c q := fun c q z => (congrFun (congrFun e3 _) _).trans (up_ne z)
  have y3 : m3 18 h = m0 5 (6 * m0 17 h + p) := (congrFun (congrFun e3 _) _).trans (up_at _ _ _ _)
  exact hk i m1 m3 ⟨c1, c2, c3, c4⟩ kp hm3 (fun c q z => by rw [f3 c q (by omega), f2 c q (by omega)]) (by rw [f3 17 h (by omega), y2]) y3
/-- the ROADS of a row, as a table -/
def RO (D f : Int → Int) : Prop := ∀ a c : Int, 0 ≤ a → a ≤ 5 → 0 ≤ c → c ≤ 5 → (f (6 * a + c) = 0 ∧ ¬ Rt D a c) ∨ (1 ≤ f (6 * a + c) ∧ Rt D a c ∧ ∀ k : Int, 0 ≤ k → k < D 3 → rMt D a c k → D (57 + 3 * k + 2) = f (6 * a + c))
theorem zs_roadR {X : Mm} {S : Sh} {m : Mm} {K : Int → Mm → Prop} {f : Int → Int} {a b : Int} (hS : Shp S) (hm : Inv X S m) (r : RO (m 346) f) (a0 : 0 ≤ a) (a1 : a ≤ 5) (b0 : 0 ≤ b) (b1 : b ≤ 5) (hk : 0 ≤ f (6 * a + b) → K (f (6 * a + b)) m) : wp_X12_roadOf S m 336 a b K := by
  rcases r a b a0 a1 b0 b1 with ⟨e, n⟩ | ⟨e, n, q⟩
  · rw [e] at hk
    refine zs_roadOf hS hm (fun _ => hk (by omega)) (fun k k0 k1 z => absurd ⟨k, k0, k1, z⟩ n)
  · refine zs_roadOf hS hm (fun z => absurd n z) (fun k k0 k1 z => ?_)
    rw [q k k0 k1 z]
    exact hk (by omega)
abbrev rGo (m : Mm) (f : Int → Int) (h p : Int) : Prop := (0 ≤ h ∧ h < m 346 4) ∧ (0 ≤ p ∧ p < m 346 0) ∧ m 346 (10 + 5 * h + 1) = 0 ∧ 0 < f (6 * m 346 (10 + 5 * h + 0) + p)
theorem zs_canGo {X : Mm} {S : Sh} {m : Mm} {K : Int → Mm → Prop} {f : Int → Int} {h p : Int} (hS : Shp S) (hm : Inv X S m) (r : RO (m 346) f) (i0 : 0 ≤ h) (i1 : h ≤ 4) (p0 : 0 ≤ p) (p1 : p ≤ 5) (h1 : (m 346 (10 + 5 * h + 1) = 0 ∧ 0 < f (6 * m 346 (10 + 5 * h + 0) + p)) → K 1 m) (h0 : ¬ (m 346 (10 + 5 * h + 1) = 0 ∧ 0 < f (6 * m 346 (10 + 5 * h + 0) + p)) → K 0 m) : wp_X12_canGo S m 336 h p K := by
  refine u_X12_canGo ?_
  refine ⟨hS.k336, ?_⟩
  refine zt_atR hS hm i0 i1 (fun c3 => g_ifF (by decide) ?_) (fun c3 => g_ifT rfl (g_C ⟨by decide, h0 (fun z => c3 z.1)⟩))
  refine g_C ?_
  refine ⟨hS.k336, ?_⟩
  refine zt_handOf hS hm i0 i1 (by omega) (by omega) ?_
  have q0 : 0 ≤ m 346 (10 + 5 * h + 0) ∧ m 346 (10 + 5 * h + 0) ≤ 5 := fam_346_10_5_0_4 hm (a := h) (by omega) (by omega) (by omega)
  refine ⟨hS.k336, ?_⟩
  refine zs_roadR hS hm r q0.1 q0.2 p0 p1 (fun _ => ?_)
  exact g_if (fun w => g_C ⟨by decide, h0 (fun z => by omega)⟩) (fun w => g_C ⟨by decide, h1 ⟨c3, by omega⟩⟩)
theorem zs_goes {X : Mm} {S : Sh} {m : Mm} {K : Mm → Prop} {f : Int → Int} {h p : Int} (hS : Shp S) (hm : Inv X S m) (r : RO (m 346) f) (fb : ∀ i : Int, 0 ≤ i → i < 36 → 0 ≤ f i ∧ f i ≤ 5) (i0 : 0 ≤ h) (i1 : h ≤ 4) (p0 : 0 ≤ p) (p1 : p ≤ 5) (pp : p < X 346 0) (hk : ∀ M2 : Mm, Inv X S M2 → (∀ c q : Int, ¬ (c = 346 ∧ (q = 10 + 5 * h + 1 ∨ q = 10 + 5 * h)) → M2 c q = m c q) → M2 346 (10 + 5 * h + 1) = f (6 * m 346 (10 + 5 * h + 0) + p) → M2 346 (10 + 5 * h) = p → K M2) : wp_X12_goes S m 336 h p K := by
  refine u_X12_goes ?_
  refine g_getr 20 346 rfl hS.k336 hm.f_336_20 (by decide) ?_
  refine g_C ?_
  refine g_C ?_
  refine g_M (by omega) (by omega) ?_
  refine g_A (by omega) (by omega) ?_
  refine g_C ?_
  refine g_A (by omega) (by omega) ?_
  refine g_C ?_
  refine ⟨hS.k336, ?_⟩
  refine zt_handOf hS hm i0 i1 (by omega) (by omega) ?_
  have q0 : 0 ≤ m 346 (10 + 5 * h + 0) ∧ m 346 (10 + 5 * h + 0) ≤ 5 := fam_346_10_5_0_4 hm (a := h) (by omega) (by omega) (by omega)
  refine ⟨hS.k336, ?_⟩
  refine zs_roadR hS hm r q0.1 q0.2 p0 p1 (fun _ => ?_)
  have bb := fb (6 * m 346 (10 + 5 * h + 0) + p) (by omega) (by omega)
  refine g_st hS.k346 hS.l346 (by omega) (by omega) (wfm_346_11_5_0_4 hm (a := h) (by omega) (by omega) (by omega) (by omega) (by omega)) (fun m2 e2 hm2 => ?_)
  have f2 : ∀ c q : Int, ¬ (c = 346 ∧ q = 10 + 5 * h + 1) → m2 c q = m c q := fun c q z => (congrFun (congrFun e2 _) _).trans (up_ne z)
  have y2 : m2 346 (10 + 5 * h + 1) = f (6 * m 346 (10 + 5 * h + 0) + p) := (congrFun (congrFun e2 _) _).trans (up_at _ _ _ _)
  refine g_getr 20 346 rfl hS.k336 hm2.f_336_20 (by decide) ?_
  refine g_C ?_
  refine g_C ?_
  refine g_M (by omega) (by omega) ?_
  refine g_A (by omega) (by omega) ?_
  refine g_st hS.k346 hS.l346 (by omega) (by omega) (wfm_346_10_5_0_4 hm2 (a := h) (by omega) (by omega) (by omega) (by omega) (by omega) pp) (fun m3 e3 hm3 => ?_)
  have f3 : ∀ c q : Int, ¬ (c = 346 ∧ q = 10 + 5 * h) → m3 c q = m2 c q := fun c q z => (congrFun (congrFun e3 _) _).trans (up_ne z)
  have y3 : m3 346 (10 + 5 * h) = p := (congrFun (congrFun e3 _) _).trans (up_at _ _ _ _)
  exact hk m3 hm3 (fun c q z => by rw [f3 c q (by omega), f2 c q (by omega)]) (by rw [f3 346 _ (by omega), y2]) y3
theorem RO.same {D D' f : Int → Int} (h : RO D f) (b3 : D 3 ≤ 8) (G : ∀ p : Int, (p = 3 ∨ (57 ≤ p ∧ p < 81)) → D' p = D p) : RO D' f := by
  have g3 := G 3 (by omega)
  have A : ∀ a c k : Int, 0 ≤ k → k < D 3 → (rMt D' a c k ↔ rMt D a c k) := fun a c k k0 k1 => by
    unfold rMt
    rw [G (57 + 3 * k) (by omega), G (57 + 3 * k + 1) (by omega)]
  have B : ∀ a c : Int, Rt D' a c ↔ Rt D a c := fun a c => by
    constructor
    · rintro ⟨k, k0, k1, k2⟩
      rw [g3] at k1
      exact ⟨k, k0, k1, (A a c k k0 k1).1 k2⟩
    · rintro ⟨k, k0, k1, k2⟩
      exact ⟨k, k0, by rw [g3]; exact k1, (A a c k k0 k1).2 k2⟩
  intro a c a0 a1 c0 c1
  rcases h a c a0 a1 c0 c1 with ⟨e, n⟩ | ⟨e, n, q⟩
  · exact Or.inl ⟨e, fun z => n ((B a c).1 z)⟩
  · refine Or.inr ⟨e, (B a c).2 n, fun k k0 k1 z => ?_⟩
    rw [g3] at k1
    rw [G (57 + 3 * k + 2) (by omega)]
    exact q k k0 k1 ((A a c k k0 k1).1 z)
theorem zs_go12 {X : Mm} {S : Sh} {m0 : Mm} {K : Int → Mm → Prop} {f : Int → Int} {h p : Int} (hS : Shp S) (hm : Inv X S m0) (r : RO (m0 346) f) (fb : ∀ i : Int, 0 ≤ i → i < 36 → 0 ≤ f i ∧ f i ≤ 5) (h0 : ¬ rGo m0 f h p → K (-1) m0) (hk : ∀ (u s : Int) (M1 M2 : Mm), rGo m0 f h p → KA m0 M1 u s → Inv X S M2 → (∀ c q : Int, ¬ (c = 346 ∧ (q = 10 + 5 * h + 1 ∨ q = 10 + 5 * h)) → M2 c q = M1 c q) → M2 346 (10 + 5 * h + 1) = f (6 * m0 346 (10 + 5 * h + 0) + p) → M2 346 (10 + 5 * h) = p → K (f (6 * m0 346 (10 + 5 * h + 0) + p)) M2) : wp_X12_go S m0 336 h p K := by
  have b4 := hm.f_346_4
  have b0 := hm.f_346_0
  have b3 := hm.f_346_3
  have x0 : m0 346 0 = X 346 0 := hm.g (by decide)
  refine u_X12_go ?_
  refine ⟨hS.k336, ?_⟩
  refine zs_isHand12 hS hm (fun c1 => g_ifF (by decide) ?_) (fun c1 => g_ifT rfl (g_C (h0 (fun z => c1 z.1))))
  refine ⟨hS.k336, ?_⟩
  refine zs_isPlace12 hS hm (fun c2 => g_ifF (by decide) ?_) (fun c2 => g_ifT rfl (g_C (h0 (fun z => c2 z.2.1))))
  refine ⟨hS.k336, ?_⟩
  refine zs_canGo hS hm r (by omega) (by omega) (by omega) (by omega) (fun c3 => g_ifT (by decide) ?_) (fun c3 => g_ifF (by decide) (g_C (h0 (fun z => c3 z.2.2))))
  refine ⟨hS.k336, ?_⟩
  refine zk_keepsAct hS hm (fun u s m1 hm1 ka => ?_)
  have r1 : RO (m1 346) f := r.same b3.2 (fun q _ => ka.f (by omega) (by omega))
  refine ⟨hS.k336, ?_⟩
  refine zs_goes hS hm1 r1 fb (by omega) (by omega) (by omega) (by omega) (by omega) (fun m2 hm2 f2 y1 y0 => ?_)
  rw [ka.f (by omega) (by omega)] at y1
  refine g_C ?_
  refine ⟨hS.k336, ?_⟩
  refine zt_handOf hS hm2 (by omega) (by omega) (by omega) (by omega) ?_
  rw [y1]
  exact hk u s m1 m2 ⟨c1, c2, c3⟩ ka hm2 f2 y1 y0
/-- the first JUG that meets a WANT -/
abbrev cSu (m : Mm) (w j : Int) : Prop := m 20 j = m 12 w ∧ m 13 w ≤ m 22 j ∧ m 22 j ≤ m 14 w
theorem zs_jugFor {X : Mm} {S : Sh} {m : Mm} {K : Int → Mm → Prop} {w : Int} (hS : Shp S) (hm : Inv X S m) (w0 : 0 ≤ w) (w1 : w ≤ 5) (h0 : (m 23 w = -1 → ∀ j : Int, 0 ≤ j → j < m 4 5 → ¬ cSu m w j) → K (-1) m) (hk : ∀ j : Int, m 23 w = -1 → 0 ≤ j → j < m 4 5 → cSu m w j → (∀ l : Int, 0 ≤ l → l < j → ¬ cSu m w l) → K j m) : wp_X11_jugFor S m 0 w K := by
  have b5 := hm.f_4_5
  refine u_X11_jugFor ?_
  refine g_getr 1 3 rfl hS.k0 hm.f_0_1 (by decide) ?_
  refine g_getr 1 16 rfl hS.k3 hm.f_3_1 (by decide) ?_
  refine g_getr 8 23 rfl hS.k16 hm.f_16_8 (by decide) ?_
  refine g_ldu hS.k23 hS.l23 (by omega) (by omega) (fun v ev => ?_)
  refine g_C ?_
  refine g_if (fun c => ?_) (fun c => g_C (h0 (fun z => absurd (ev.trans z) c)))
  refine g_C ?_
  have L : ∀ (n : Nat) (i : Int), 0 ≤ i → i ≤ m 4 5 → (∀ l : Int, 0 ≤ l → l < i → ¬ cSu m w l) → 5 - i ≤ (n : Int) → wp_X11_jugFor_20 S K n 0 w i m := by
    intro n
    induction n with
    | zero => intro i i0 i1 _ hn; exfalso; omega
    | succ n ih =>
      intro i i0 i1 hi hn
      refine u_X11_jugFor_20 ?_
      refine g_getr 1 3 rfl hS.k0 hm.f_0_1 (by decide) ?_
      refine g_getr 0 4 rfl hS.k3 hm.f_3_0 (by decide) ?_
      refine g_getu 5 rfl hS.k4 (fun v2 ev2 => ?_)
      refine g_if (fun c2 => g_C (h0 (fun _ l l0 l1 => hi l l0 (by omega)))) (fun c2 => ?_)
      have next : ¬ cSu m w i → wp_X11_jugFor_99 S (fun a0 a1 a2 M => wp_X11_jugFor_20 S K n a0 a1 a2 M) K 0 w i m := by
        intro q
        refine u_X11_jugFor_99 ?_
        refine g_A (by omega) (by omega) ?_
        refine ih (i + 1) (by omega) (by omega) (fun l l0 l1 => ?_) (by omega)
        by_cases e : l = i
        · rw [e]; exact q
        · exact hi l l0 (by omega)
      refine g_getr 1 3 rfl hS.k0 hm.f_0_1 (by decide) ?_
      refine g_getr 1 16 rfl hS.k3 hm.f_3_1 (by decide) ?_
      refine g_getr 5 20 rfl hS.k16 hm.f_16_5 (by decide) ?_
      refine g_ldu hS.k20 hS.l20 (by omega) (by omega) (fun v3 ev3 => ?_)
      refine g_getr 1 3 rfl hS.k0 hm.f_0_1 (by decide) ?_
      refine g_getr 0 4 rfl hS.k3 hm.f_3_0 (by decide) ?_
      refine g_getr 15 12 rfl hS.k4 hm.f_4_15 (by decide) ?_
      refine g_ldu hS.k12 hS.l12 (by omega) (by omega) (fun v4 ev4 => ?_)
      refine g_if (fun c3 => g_C ?_) (fun c3 => g_C ?_)
      · refine u_X11_jugFor_66 ?_
        exact g_ifT rfl (next (fun z => c3 (by rw [ev3, ev4]; exact z.1)))
      · refine u_X11_jugFor_66 ?_
        refine g_ifF (by decide) ?_
        refine g_getr 1 3 rfl hS.k0 hm.f_0_1 (by decide) ?_
        refine g_getr 0 4 rfl hS.k3 hm.f_3_0 (by decide) ?_
        refine g_getr 1 3 rfl hS.k0 hm.f_0_1 (by decide) ?_
        refine g_getr 1 16 rfl hS.k3 hm.f_3_1 (by decide) ?_
        refine g_getr 7 22 rfl hS.k16 hm.f_16_7 (by decide) ?_
        refine g_ldu hS.k22 hS.l22 (by omega) (by omega) (fun v5 ev5 => ?_)
        refine ⟨hS.k4, ?_⟩
        refine u_X8_suits ?_
        refine g_getr 16 13 rfl hS.k4 hm.f_4_16 (by decide) ?_
        refine g_ldu hS.k13 hS.l13 (by omega) (by omega) (fun v6 ev6 => ?_)
        refine g_if (fun c4 => g_C ⟨by decide, g_ifT rfl (next (fun z => by have := z.2.1; omega))⟩) (fun c4 => ?_)
        refine g_getr 17 14 rfl hS.k4 hm.f_4_17 (by decide) ?_
        refine g_ldu hS.k14 hS.l14 (by omega) (by omega) (fun v7 ev7 => ?_)
        refine g_if (fun c5 => g_C ⟨by decide, g_ifT rfl (next (fun z => by have := z.2.2; omega))⟩) (fun c5 => ?_)
        exact g_C ⟨by decide, g_ifF (by decide) (hk i (ev.symm.trans c) i0 (by omega) ⟨by omega, by omega, by omega⟩ hi)⟩
  exact ⟨5, L 5 0 (by omega) (by omega) (fun l l0 l1 => absurd l1 (by omega)) (by omega)⟩
abbrev rSu (m : Mm) (w j : Int) : Prop := StR m j ∧ m 346 (35 + 4 * j + 0) = m 346 (93 + 4 * w + 0) ∧ m 346 (93 + 4 * w + 1) ≤ m 346 (35 + 4 * j + 2) ∧ m 346 (35 + 4 * j + 2) ≤ m 346 (93 + 4 * w + 2)
theorem zs_firstFor {X : Mm} {S : Sh} {m : Mm} {K : Int → Mm → Prop} {w : Int} (hS : Shp S) (hm : Inv X S m) (w0 : 0 ≤ w) (w1 : w ≤ 5) (h0 : (m 346 (51 + w) < 0 → ∀ j : Int, 0 ≤ j → j < m 346 5 → ¬ rSu m w j) → K (-1) m) (hk : ∀ j : Int, m 346 (51 + w) < 0 → 0 ≤ j → j < m 346 5 → rSu m w j → (∀ l : Int, 0 ≤ l → l < j → ¬ rSu m w l) → K j m) : wp_X12_firstFor S m 336 w K := by
  have b5 := hm.f_346_5
  refine u_X12_firstFor ?_
  refine g_getr 20 346 rfl hS.k336 hm.f_336_20 (by decide) ?_
  refine g_C ?_
  refine g_A (by omega) (by omega) ?_
  refine g_ldu hS.k346 hS.l346 (by omega) (by omega) (fun v ev => ?_)
  refine g_if (fun c => ?_) (fun c => g_C (h0 (fun z => absurd z (by omega))))
  refine g_C ?_
  have L : ∀ (n : Nat) (i : Int), 0 ≤ i → i ≤ m 346 5 → (∀ l : Int, 0 ≤ l → l < i → ¬ rSu m w l) → 5 - i ≤ (n : Int) → wp_X12_firstFor_16 S K n 336 w i m := by
    intro n
    induction n with
    | zero => intro i i0 i1 _ hn; exfalso; omega
    | succ n ih =>
      intro i i0 i1 hi hn
      refine u_X12_firstFor_16 ?_
      refine g_getr 20 346 rfl hS.k336 hm.f_336_20 (by decide) ?_
      refine g_C ?_
      refine g_ldu hS.k346 hS.l346 (by omega) (by omega) (fun v2 ev2 => ?_)
      refine g_if (fun c2 => g_C (h0 (fun _ l l0 l1 => hi l l0 (by omega)))) (fun c2 => ?_)
      have next : ¬ rSu m w i → wp_X12_firstFor_78 S (fun a0 a1 a2 M => wp_X12_firstFor_16 S K n a0 a1 a2 M) K 336 w i m := by
        intro q
        refine u_X12_firstFor_78 ?_
        refine g_A (by omega) (by omega) ?_
        refine ih (i + 1) (by omega) (by omega) (fun l l0 l1 => ?_) (by omega)
        by_cases e : l = i
        · rw [e]; exact q
        · exact hi l l0 (by omega)
      refine ⟨hS.k336, ?_⟩
      refine zt_stands hS hm i0 (by omega) (fun c3 => g_ifF (by decide) ?_) (fun c3 => g_ifT rfl (next (fun z => c3 z.1)))
      refine g_C ?_
      refine ⟨hS.k336, ?_⟩
      refine zt_jugOf hS hm i0 (by omega) (by omega) (by omega) ?_
      refine g_C ?_
      refine ⟨hS.k336, ?_⟩
      refine zt_wantOf hS hm w0 w1 (by omega) (by omega) ?_
      refine g_if (fun c4 => next (fun z => c4 z.2.1)) (fun c4 => ?_)
      refine g_C ?_
      refine ⟨hS.k336, ?_⟩
      refine zt_jugOf hS hm i0 (by omega) (by omega) (by omega) ?_
      refine g_C ?_
      refine g_C ?_
      refine ⟨hS.k336, ?_⟩
      refine zt_wantOf hS hm w0 w1 (by omega) (by omega) ?_
      refine g_C ?_
      refine g_C ?_
      refine ⟨hS.k336, ?_⟩
      refine zt_wantOf hS hm w0 w1 (by omega) (by omega) ?_
      refine g_C ?_
      refine z_in (fun a b => ?_) (fun c5 => g_ifT rfl (next (fun z => c5 ⟨z.2.2.1, z.2.2.2⟩)))
      refine g_ifF (by decide) (hk i (by omega) i0 (by omega) ⟨c3, by omega, a, b⟩ hi)
  exact ⟨5, L 5 0 (by omega) (by omega) (fun l l0 l1 => absurd l1 (by omega)) (by omega)⟩
end
section
/-! meet of both sides, to the letter -/
theorem g_Ax {a b : Int} {K : Int → Prop} (h : ∀ v : Int, v = w32 (a + b) → -2147483648 ≤ v → v ≤ 2147483647 → K v) : wA a b K := h _ rfl (w32_r _).1 (w32_r _).2
abbrev cMe (m : Mm) (w j : Int) : Prop := (0 ≤ w ∧ w < m 4 7) ∧ m 23 w = -1 ∧ (0 ≤ j ∧ j < m 4 5) ∧ cSu m w j ∧ ∀ l : Int, 0 ≤ l → l < j → ¬ cSu m w l
theorem zs_meet11 {X : Mm} {S : Sh} {m0 : Mm} {K : Int → Mm → Prop} {w : Int} (hS : Shp S) (hm : Inv X S m0) (h0 : (0 ≤ w ∧ w < m0 4 7 → m0 23 w = -1 → ∀ j : Int, 0 ≤ j → j < m0 4 5 → ¬ cSu m0 w j) → K (-1) m0) (hk : ∀ (j i : Int) (M1 M2 : Mm), cMe m0 w j → KP m0 M1 i → Inv X S M2 → (∀ c p : Int, ¬ (c = 23 ∧ p = w) → ¬ (c = 16 ∧ p = 1) → ¬ (c = 20 ∧ p = j) → M2 c p = M1 c p) → M2 23 w = m0 16 0 → M2 16 1 = w32 (m0 16 1 + m0 15 w) → M2 20 j = -1 → K j M2) : wp_X11_meet S m0 0 w K := by
  have b7 := hm.f_4_7
  have b5 := hm.f_4_5
  have hb : isSt 16 := by decide
  refine u_X11_meet ?_
  refine ⟨hS.k0, ?_⟩
  refine zs_isWant11 hS hm (fun c1 => g_ifF (by decide) ?_) (fun c1 => g_ifT rfl (g_C ?_))
  rotate_left
  · refine u_X11_meet_17 ?_
    refine g_C ?_
    exact g_ifF (fun z => z rfl) (g_C (h0 (fun z => absurd z c1)))
  refine ⟨hS.k0, ?_⟩
  refine zs_jugFor hS hm c1.1 (by omega) (fun q => ?_) (fun j e23 j0 j1 su fi => ?_)
  · refine u_X11_meet_17 ?_
    refine g_C ?_
    exact g_ifF (fun z => z rfl) (g_C (h0 (fun _ => q)))
  refine u_X11_meet_17 ?_
  refine g_C ?_
  refine g_ifT (by first | decide | omega) ?_
  refine ⟨hS.k0, ?_⟩
  refine zk_keepPast hS hm (fun i m1 hm1 kp => ?_)
  refine g_getr 1 3 rfl hS.k0 hm1.f_0_1 (by decide) ?_
  refine g_getr 1 16 rfl hS.k3 hm1.f_3_1 (by decide) ?_
  refine g_getr 8 23 rfl hS.k16 hm1.f_16_8 (by decide) ?_
  refine g_getr 1 3 rfl hS.k0 hm1.f_0_1 (by decide) ?_
  refine g_getr 1 16 rfl hS.k3 hm1.f_3_1 (by decide) ?_
  refine g_getu 0 rfl hS.k16 (fun v ev => ?_)
  have bh := hm1.f_16_0
  refine g_st hS.k23 hS.l23 (by omega) (by omega) (hm1.waB_5_7 hb c1.1 (by omega) (by omega) (by omega)) (fun m2 e2 hm2 => ?_)
  have f2 : ∀ c p : Int, ¬ (c = 23 ∧ p = w) → m2 c p = m1 c p := fun c p q => (congrFun (congrFun e2 _) _).trans (up_ne q)
  have y2 : m2 23 w = v := (congrFun (congrFun e2 _) _).trans (up_at _ _ _ _)
  refine g_getr 1 3 rfl hS.k0 hm2.f_0_1 (by decide) ?_
  refine g_getr 1 16 rfl hS.k3 hm2.f_3_1 (by decide) ?_
  refine g_getu 1 rfl hS.k16 (fun v2 ev2 => ?_)
  refine g_getr 1 3 rfl hS.k0 hm2.f_0_1 (by decide) ?_
  refine g_getr 0 4 rfl hS.k3 hm2.f_3_0 (by decide) ?_
  refine g_getr 18 15 rfl hS.k4 hm2.f_4_18 (by decide) ?_
  refine g_ldu hS.k15 hS.l15 (by omega) (by omega) (fun v3 ev3 => ?_)
  refine g_Ax (fun v4 ev4 bv4 cv4 => ?_)
  refine g_put 1 rfl hS.k16 (hm2.w_16_1 bv4 cv4) (fun m3 e3 hm3 => ?_)
  have f3 : ∀ c p : Int, ¬ (c = 16 ∧ p = 1) → m3 c p = m2 c p := fun c p q => (congrFun (congrFun e3 _) _).trans (up_ne q)
  have y3 : m3 16 1 = v4 := (congrFun (congrFun e3 _) _).trans (up_at _ _ _ _)
  refine g_getr 1 3 rfl hS.k0 hm3.f_0_1 (by decide) ?_
  refine g_getr 1 16 rfl hS.k3 hm3.f_3_1 (by decide) ?_
  refine g_getr 5 20 rfl hS.k16 hm3.f_16_5 (by decide) ?_
  refine g_C ?_
  refine g_st hS.k20 hS.l20 (by omega) (by omega) (hm3.waB_5_4 hb j0 (by omega) (by omega) (by omega)) (fun m4 e4 hm4 => ?_)
  have f4 : ∀ c p : Int, ¬ (c = 20 ∧ p = j) → m4 c p = m3 c p := fun c p q => (congrFun (congrFun e4 _) _).trans (up_ne q)
  have y4 : m4 20 j = -1 := (congrFun (congrFun e4 _) _).trans (up_at _ _ _ _)
  refine hk j i m1 m4 ⟨c1, e23, ⟨j0, j1⟩, su, fi⟩ kp hm4 (fun c p q1 q2 q3 => by rw [f4 c p q3, f3 c p q2, f2 c p q1]) ?_ ?_ y4
  · rw [f4 23 w (by first | decide | exact fun z => absurd z.1 (by decide) | exact ⟨fun z => absurd z.1 (by decide), fun z => absurd z.1 (by decide)⟩ | omega), f3 23 w (by first | decide | exact fun z => absurd z.1 (by decide) | exact ⟨fun z => absurd z.1 (by decide), fun z => absurd z.1 (by decide)⟩ | omega), y2, ev, kp.f (by omega) (by omega)]
  · rw [f4 16 1 (by first | decide | exact fun z => absurd z.1 (by decide) | exact ⟨fun z => absurd z.1 (by decide), fun z => absurd z.1 (by decide)⟩ | omega), y3, ev4, ev2, ev3, f2 16 1 (by first | decide | exact fun z => absurd z.1 (by decide) | exact ⟨fun z => absurd z.1 (by decide), fun z => absurd z.1 (by decide)⟩ | omega), f2 15 w (by first | decide | exact fun z => absurd z.1 (by decide) | exact ⟨fun z => absurd z.1 (by decide), fun z => absurd z.1 (by decide)⟩ | omega), kp.f (by omega) (by omega), kp.f (by omega) (by omega)]
abbrev rMe (m : Mm) (w j : Int) : Prop := (0 ≤ w ∧ w < m 346 6) ∧ m 346 (51 + w) < 0 ∧ (0 ≤ j ∧ j < m 346 5) ∧ rSu m w j ∧ ∀ l : Int, 0 ≤ l → l < j → ¬ rSu m w l
theorem zs_meet12 {X : Mm} {S : Sh} {m0 : Mm} {K : Int → Mm → Prop} {w : Int} (hS : Shp S) (hm : Inv X S m0) (h0 : (0 ≤ w ∧ w < m0 346 6 → m0 346 (51 + w) < 0 → ∀ j : Int, 0 ≤ j → j < m0 346 5 → ¬ rSu m0 w j) → K (-1) m0) (hk : ∀ (j u s : Int) (M1 M2 : Mm), rMe m0 w j → KA m0 M1 u s → Inv X S M2 → (∀ c p : Int, ¬ (c = 346 ∧ (p = 35 + 4 * j + 3 ∨ p = 51 + w ∨ p = 8)) → M2 c p = M1 c p) → M2 346 (35 + 4 * j + 3) = 1 → M2 346 (51 + w) = m0 346 7 → M2 346 8 = w32 (m0 346 8 + m0 346 (93 + 4 * w + 3)) → K j M2) : wp_X12_meet S m0 336 w K := by
  have b6 := hm.f_346_6
  have b5 := hm.f_346_5
  refine u_X12_meet ?_
  refine ⟨hS.k336, ?_⟩
  refine zs_isWant12 hS hm (fun c1 => g_ifT (by decide) ?_) (fun c1 => g_ifF (by decide) (g_C (h0 (fun z => absurd z c1))))
  refine ⟨hS.k336, ?_⟩
  refine zs_firstFor hS hm c1.1 (by omega) (fun q => g_ifF (by decide) (g_C (h0 (fun _ => q)))) (fun j e51 j0 j1 su fi => ?_)
  refine g_ifT j0 ?_
  refine ⟨hS.k336, ?_⟩
  refine zk_keepsAct hS hm (fun u s m1 hm1 ka => ?_)
  refine g_getr 20 346 rfl hS.k336 hm1.f_336_20 (by decide) ?_
  refine g_C ?_
  refine g_C ?_
  refine g_M (by omega) (by omega) ?_
  refine g_A (by omega) (by omega) ?_
  refine g_C ?_
  refine g_A (by omega) (by omega) ?_
  refine g_C ?_
  refine g_st hS.k346 hS.l346 (by omega) (by omega) (wfm_346_38_4_0_3 hm1 (a := j) (by omega) (by omega) (by omega) (by omega) (by omega)) (fun m2 e2 hm2 => ?_)
  have f2 : ∀ c p : Int, ¬ (c = 346 ∧ p = 35 + 4 * j + 3) → m2 c p = m1 c p := fun c p q => (congrFun (congrFun e2 _) _).trans (up_ne q)
  have y2 : m2 346 (35 + 4 * j + 3) = 1 := (congrFun (congrFun e2 _) _).trans (up_at _ _ _ _)
  refine g_getr 20 346 rfl hS.k336 hm2.f_336_20 (by decide) ?_
  refine g_C ?_
  refine g_A (by omega) (by omega) ?_
  refine g_getr 20 346 rfl hS.k336 hm2.f_336_20 (by decide) ?_
  refine g_C ?_
  refine g_ld (-2147483648) (2147483647) hS.k346 hS.l346 (by omega) (by omega) (hm2.f_346_7) (fun v ev bv cv => ?_)
  refine g_st hS.k346 hS.l346 (by omega) (by omega) (wfm_346_51_1_0_5 hm2 (a := w) (by omega) (by omega) (by omega) bv cv) (fun m3 e3 hm3 => ?_)
  have f3 : ∀ c p : Int, ¬ (c = 346 ∧ p = 51 + w) → m3 c p = m2 c p := fun c p q => (congrFun (congrFun e3 _) _).trans (up_ne q)
  have y3 : m3 346 (51 + w) = v := (congrFun (congrFun e3 _) _).trans (up_at _ _ _ _)
  refine g_getr 20 346 rfl hS.k336 hm3.f_336_20 (by decide) ?_
  refine g_C ?_
  refine g_ldu hS.k346 hS.l346 (by omega) (by omega) (fun v2 ev2 => ?_)
  refine g_C ?_
  refine ⟨hS.k336, ?_⟩
  refine zt_wantOf hS hm3 c1.1 (by omega) (by omega) (by omega) ?_
  refine g_Ax (fun v4 ev4 bv4 cv4 => ?_)
  refine g_st hS.k346 hS.l346 (by omega) (by omega) (hm3.w_346_8 bv4 cv4) (fun m4 e4 hm4 => ?_)
  have f4 : ∀ c p : Int, ¬ (c = 346 ∧ p = 8) → m4 c p = m3 c p := fun c p q => (congrFun (congrFun e4 _) _).trans (up_ne q)
  have y4 : m4 346 8 = v4 := (congrFun (congrFun e4 _) _).trans (up_at _ _ _ _)
  refine hk j u s m1 m4 ⟨c1, e51, ⟨j0, j1⟩, su, fi⟩ ka hm4 (fun c p q => by rw [f4 c p (by first | exact fun y => absurd (y.1 ▸ z) (by decide) | exact fun y => absurd (y.1 ▸ q) (by decide) | exact z | exact q | exact z.1 | exact q.1 | exact z.2 | exact q.2 | omega), f3 c p (by first | exact fun y => absurd (y.1 ▸ z) (by decide) | exact fun y => absurd (y.1 ▸ q) (by decide) | exact z | exact q | exact z.1 | exact q.1 | exact z.2 | exact q.2 | omega), f2 c p (by first | exact fun y => absurd (y.1 ▸ z) (by decide) | exact fun y => absurd (y.1 ▸ q) (by decide) | exact z | exact q | exact z.1 | exact q.1 | exact z.2 | exact q.2 | omega)]) ?_ ?_ ?_
  · rw [f4 346 _ (by first | decide | exact fun z => absurd z.1 (by decide) | exact ⟨fun z => absurd z.1 (by decide), fun z => absurd z.1 (by decide)⟩ | omega), f3 346 _ (by first | decide | exact fun z => absurd z.1 (by decide) | exact ⟨fun z => absurd z.1 (by decide), fun z => absurd z.1 (by decide)⟩ | omega), y2]
  · rw [f4 346 _ (by first | decide | exact fun z => absurd z.1 (by decide) | exact ⟨fun z => absurd z.1 (by decide), fun z => absurd z.1 (by decide)⟩ | omega), y3, ev, f2 346 7 (by first | decide | exact fun z => absurd z.1 (by decide) | exact ⟨fun z => absurd z.1 (by decide), fun z => absurd z.1 (by decide)⟩ | omega), ka.f (by omega) (by omega)]
  · rw [y4, ev4, ev2, f3 346 8 (by first | decide | exact fun z => absurd z.1 (by decide) | exact ⟨fun z => absurd z.1 (by decide), fun z => absurd z.1 (by decide)⟩ | omega), f3 346 (93 + 4 * w + 3) (by first | decide | exact fun z => absurd z.1 (by decide) | exact ⟨fun z => absurd z.1 (by decide), fun z => absurd z.1 (by decide)⟩ | omega), f2 346 8 (by first | decide | exact fun z => absurd z.1 (by decide) | exact ⟨fun z => absurd z.1 (by decide), fun z => absurd z.1 (by decide)⟩ | omega), f2 346 (93 + 4 * w + 3) (by first | decide | exact fun z => absurd z.1 (by decide) | exact ⟨fun z => absurd z.1 (by decide), fun z => absurd z.1 (by decide)⟩ | omega), ka.f (by omega) (by omega), ka.f (by omega) (by omega)]
end
