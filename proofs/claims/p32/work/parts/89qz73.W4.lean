/-- what a HAND makes of a JUG on the ROAD that leaves r ROADS -/
def crR (o : Option (List Cz)) (D : Int → Int) (j : Int) (lh lb : Nat → Int) (n : Nat) (r h : Nat) (s : Int) : Int := (hT o D (h : Int) j 1 (lb (n - 1 - r)) s (lh (n - 1 - r)).toNat).1
def okR (lo hi : Int) (s : Int) : Bool := decide (lo ≤ s ∧ s ≤ hi)
/-- what holds of the class while a RELAY is worked out -/
def RvE (S : Sh) (o : Option (List Cz)) (D : Int → Int) (n : Nat) (lh lb : Nat → Int) (j lo hi : Int) (M : Mm) : Prop := RC S M o ∧ TL 4 D M ∧ M 55 2 = 0 ∧ M 58 6 = (n : Int) ∧ M 58 7 = j ∧ M 58 9 = lo ∧ M 58 10 = hi ∧ ∀ i : Nat, i < n → M 59 i = lh i ∧ M 60 i = lb i
abbrev vF (m M : Mm) : Prop := ∀ c p : Int, ¬ c = 56 → ¬ (c = 55 ∧ 4 ≤ p) → ¬ c = 61 → ¬ c = 62 → M c p = m c p
theorem RvE.keep {S : Sh} {o : Option (List Cz)} {D : Int → Int} {n : Nat} {lh lb : Nat → Int} {j lo hi : Int} {m M : Mm} (e : RvE S o D n lh lb j lo hi m) (db : DB D) (b3 : D 3 ≤ 8) (F : vF m M) : RvE S o D n lh lb j lo hi M := by
  obtain ⟨e1, e2, e3, e4, e5, e6, e7, e8⟩ := e
  refine ⟨e1.keep (fun c p q => F c p (by omega) (by omega) (by omega) (by omega)), e2.move db b3 (fun p _ _ => F _ p (by omega) (by omega) (by omega) (by omega)) (fun c p q => F _ p (by unfold inT at q; omega) (by unfold inT at q; omega) (by unfold inT at q; omega) (by unfold inT at q; omega)) (fun p _ => rfl), ?_, ?_, ?_, ?_, ?_, fun i hi => ?_⟩
  · rw [F 55 2 (by omega) (by omega) (by omega) (by omega)]; exact e3
  · rw [F 58 6 (by omega) (by omega) (by omega) (by omega)]; exact e4
  · rw [F 58 7 (by omega) (by omega) (by omega) (by omega)]; exact e5
  · rw [F 58 9 (by omega) (by omega) (by omega) (by omega)]; exact e6
  · rw [F 58 10 (by omega) (by omega) (by omega) (by omega)]; exact e7
  · rw [F 59 i (by omega) (by omega) (by omega) (by omega), F 60 i (by omega) (by omega) (by omega) (by omega)]
    exact e8 i hi
/-- the table: what stands in it is right, and what comes of it stands there too -/
def VS (o : Option (List Cz)) (D : Int → Int) (H n : Nat) (lh lb : Nat → Int) (j lo hi : Int) (M : Mm) : Prop := ∀ (k : Nat) (s : Int), k ≤ n → 0 ≤ s → s ≤ 999 → M 61 ((k : Int) * 1000 + s) = -1 ∨ (M 61 ((k : Int) * 1000 + s) = rwF H (crR o D j lh lb n) (okR lo hi) (n - k) s ∧ M 62 ((k : Int) * 1000 + s) = leF H (crR o D j lh lb n) (n - k) s ∧ (k < n → ∀ h : Nat, h < H → ¬ M 61 (((k : Int) + 1) * 1000 + crR o D j lh lb n (n - 1 - k) h s) = -1))
theorem rw_31 {H : Nat} {cr : Nat → Nat → Int → Int} {ok : Int → Bool} {r : Nat} {s : Int} (hH : H ≤ 5) (hr : r ≤ 5) : 0 ≤ rwF H cr ok r s ∧ rwF H cr ok r s ≤ 15625 := by
  have a := rw_0 (H := H) (cr := cr) (ok := ok) r s
  have b := pw_b H (by omega) r (by omega)
  omega
/-- one more place of the table -/
theorem VS.put {o : Option (List Cz)} {D : Int → Int} {H n k : Nat} {lh lb : Nat → Int} {j lo hi s : Int} {m M : Mm} (hH : H ≤ 5) (n5 : n ≤ 5) (v : VS o D H n lh lb j lo hi m) (kn : k ≤ n) (s0 : 0 ≤ s) (s9 : s ≤ 999) (F : ∀ x : Int, ¬ x = (k : Int) * 1000 + s → M 61 x = m 61 x ∧ M 62 x = m 62 x) (y1 : M 61 ((k : Int) * 1000 + s) = rwF H (crR o D j lh lb n) (okR lo hi) (n - k) s) (y2 : M 62 ((k : Int) * 1000 + s) = leF H (crR o D j lh lb n) (n - k) s) (ch : k < n → ∀ h : Nat, h < H → ¬ m 61 (((k : Int) + 1) * 1000 + crR o D j lh lb n (n - 1 - k) h s) = -1) : VS o D H n lh lb j lo hi M ∧ ¬ M 61 ((k : Int) * 1000 + s) = -1 := by
  have rb := rw_31 (cr := crR o D j lh lb n) (ok := okR lo hi) (r := n - k) (s := s) hH (by omega)
  have nn : ∀ x : Int, ¬ m 61 x = -1 → ¬ M 61 x = -1 := fun x hx => by
    by_cases e : x = (k : Int) * 1000 + s
    · rw [e, y1]; omega
    · rw [(F x e).1]; exact hx
  refine ⟨fun k' s' kn' s0' s9' => ?_, by rw [y1]; omega⟩
  by_cases e : (k' : Int) * 1000 + s' = (k : Int) * 1000 + s
  · have e1 : k' = k := by omega
    have e2 : s' = s := by omega
    subst e1 e2
    exact Or.inr ⟨y1, y2, fun q h hh => nn _ (ch q h hh)⟩
  · rw [(F _ e).1, (F _ e).2]
    rcases v k' s' kn' s0' s9' with z | ⟨z1, z2, z3⟩
    · exact Or.inl z
    · exact Or.inr ⟨z1, z2, fun q h hh => nn _ (z3 q h hh)⟩
