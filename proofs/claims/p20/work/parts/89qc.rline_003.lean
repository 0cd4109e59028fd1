theorem zc_cell {X : Mm} {S : Sh} {m0 : Mm} {K : Int → Mm → Prop} {b : Int → Int} {n k u1 lo hi : Int} {T : Int → Dd → Prop} {D : Dd} (h j : Nat) (hS : Shp S) (hm0 : Inv X S m0) (ht : TR X b n) (rd : Rd D m0) (h9 : m0 336 9 = 0) (hp : m0 336 8 ≤ n) (l : Ld b n T 1 h j (m0 336 8) k D) (hu : dCl D h j = u1) (h1 : 0 ≤ u1) (h1' : u1 ≤ 116) (hlo : dLo D h j = lo) (hhi : dHi D h j = hi) (hb : ∀ v : Int, lo ≤ v → v ≤ hi → okb (bd 342 u1.toNat) v) (hf : ∀ M1 : Mm, Inv X S M1 → ¬ M1 336 9 = 0 → T (M1 336 9) dz → K 0 M1) (hk : ∀ (q v : Int) (M1 : Mm), Inv X S M1 → (∀ c p : Int, ¬ (c = 336 ∧ 8 ≤ p ∧ p ≤ 10) ∧ ¬ (c = 342 ∧ p = u1) → M1 c p = m0 c p) → lo ≤ v → v ≤ hi → 0 ≤ q → q ≤ n → Sk b n (m0 336 8) q → M1 342 u1 = v → Rd (ud D u1 v) M1 → M1 336 9 = 0 → M1 336 8 ≤ n → m0 336 8 ≤ M1 336 8 → (¬ dBad D h j v → ¬ j = dEnd h → Ld b n T 1 h (j + 1) (M1 336 8) k (ud D u1 v)) → (¬ dBad D h j v → j = dEnd h → Ld b n T 2 0 0 (M1 336 8) k (dFin (ud D u1 v) h)) → (dBad D h j v → T (2 + 8 * q) dz) → K 1 M1) : wp_X12_cellHere S m0 336 u1 lo hi K := by
  have b8 := hm0.f_336_8
  subst hu hlo hhi
  refine u_X12_cellHere ?_
  refine ⟨hS.k336, ?_⟩
  refine zx_num hS hm0 ht h9 hp (fun q r m2 hm2 f2 sk qd dr a5 al ah nn x10 x8 rn => ?_) (fun q m2 hm2 sk q0 nd x9 => ?_) (fun q r m2 hm2 sk q0 qd dr bad x9 => ?_)
  · have sk1 := sk.1
    have dr1 := dr.1
    refine g_ifT (by decide) ?_
    refine g_getr 7 342 rfl hS.k336 hm2.f_336_7 (by decide) ?_
    refine g_getu 10 rfl hS.k336 (fun v ev => ?_)
    rw [x10] at ev
    refine g_st hS.k342 hS.l342 (by omega) (by omega) (hm2.w342 (by omega) (hb v (by omega) (by omega))) (fun m3 e3 hm3 => ?_)
    have f3 : ∀ c p : Int, ¬ (c = 342 ∧ p = dCl D h j) → m3 c p = m2 c p := fun c p q => (congrFun (congrFun e3 _) _).trans (up_ne q)
    have x3 : m3 342 (dCl D h j) = v := (congrFun (congrFun e3 _) _).trans (up_at _ _ _ _)
    have e8 : m3 336 8 = r := (f3 336 8 (by omega)).trans x8
    refine g_C ⟨by decide, hk q v m3 hm3 (fun c p z => (f3 c p (by omega)).trans (f2 c p (by omega))) (by omega) (by omega) (by omega) (by omega) sk x3 (rd.up (fun p z => (f3 342 p (fun y => z y.2)).trans (f2 342 p (by omega))) x3) ?_ (by omega) (by omega) (fun nb ne => ?_) (fun nb ee => ?_) (fun yb => ?_)⟩
    · rw [f3 336 9 (by omega), f2 336 9 (by omega)]
      exact h9
    · rw [e8, ev]
      rw [ev] at nb
      exact l.nx sk qd dr (fun z => by rcases z with z | z | z | z; exact a5 z; exact al z; exact ah z; exact nb z) ne
    · rw [e8, ev]
      rw [ev] at nb
      exact l.end sk qd dr (fun z => by rcases z with z | z | z | z; exact a5 z; exact al z; exact ah z; exact nb z) ee
    · rw [ev] at yb
      exact l.bad1 sk qd dr (Or.inr (Or.inr (Or.inr yb)))
  · refine g_ifF (by decide) (g_C ⟨by decide, hf m2 hm2 (by omega) ?_⟩)
    rw [x9]
    exact l.bad0 sk nd
  · refine g_ifF (by decide) (g_C ⟨by decide, hf m2 hm2 (by omega) ?_⟩)
    rw [x9]
    refine l.bad1 sk qd dr ?_
    rcases bad with z | z | z
    · exact Or.inl z
    · exact Or.inr (Or.inl z)
    · exact Or.inr (Or.inr (Or.inl z))

