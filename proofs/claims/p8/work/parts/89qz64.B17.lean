/-! a JUG in a HAND that is not TIRED at first, HOUR by HOUR: WHO and PROBE -/
def stq (o : Option (List Cz)) (D : Int → Int) (h j ro t a b : Int) : Int := tvO o (wds h (D (10 + 5 * h + 3)) b j a (htR D t) t ro 1 (if a < D 2 then 0 else 1))
def hT (o : Option (List Cz)) (D : Int → Int) (h j ro t s : Int) : Nat → Int × Int
  | 0 => (s, 0)
  | k + 1 => (min ((hT o D h j ro t s k).1 + stq o D h j ro (t + k) (hT o D h j ro t s k).1 (hT o D h j ro t s k).2) 999, min ((hT o D h j ro t s k).2 + D (10 + 5 * h + 4)) 99)
def HB (D : Int → Int) (h : Int) : Prop := (0 ≤ D (10 + 5 * h + 3) ∧ D (10 + 5 * h + 3) ≤ 20) ∧ (0 ≤ D (10 + 5 * h + 4) ∧ D (10 + 5 * h + 4) ≤ 5) ∧ ∀ t : Int, 0 ≤ htR D t ∧ htR D t ≤ 20
theorem HB.of {X : Mm} {S : Sh} {m : Mm} {h : Int} (hm : Inv X S m) (h0 : 0 ≤ h) (h4 : h ≤ 4) : HB (m 346) h := by
  refine ⟨fam_346_13_5_0_4 hm (a := h) (by omega) h0 h4, fam_346_14_5_0_4 hm (a := h) (by omega) h0 h4, fun t => ?_⟩
  have b9 := hm.f_346_9
  have q := htF_b (a := fun k => m 346 (81 + 3 * k)) (b := fun k => m 346 (81 + 3 * k + 1)) (c := fun k => m 346 (81 + 3 * k + 2)) (t := t) (m 346 9).toNat (fun k k0 k1 => fam_346_83_3_0_3 hm (a := k) (by omega) (by omega) (by omega))
  unfold htR
  omega
