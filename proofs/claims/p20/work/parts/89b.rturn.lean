/-- clause c of row t is good, within the first l signs -/
def Cl (M : Mm) (t c l : Int) : Prop := (0 ≤ M 340 (48 * t + 4 * c) ∧ M 340 (48 * t + 4 * c) ≤ M 340 (48 * t + 4 * c + 1) ∧ M 340 (48 * t + 4 * c + 1) ≤ l ∧ pth M t (M 340 (48 * t + 4 * c + 1) - M 340 (48 * t + 4 * c)).toNat (M 340 (48 * t + 4 * c)) 0 1) ∧ (M 340 (48 * t + 4 * c + 2) < 0 ∨ (0 ≤ M 340 (48 * t + 4 * c + 2) ∧ M 340 (48 * t + 4 * c + 2) ≤ M 340 (48 * t + 4 * c + 3) ∧ M 340 (48 * t + 4 * c + 3) ≤ l ∧ pth M t (M 340 (48 * t + 4 * c + 3) - M 340 (48 * t + 4 * c + 2)).toNat (M 340 (48 * t + 4 * c + 2)) 0 1))
theorem Cl.same {M M1 : Mm} {t c l l1 : Int} (h : Cl M t c l) (a0 : M1 340 (48 * t + 4 * c) = M 340 (48 * t + 4 * c)) (a1 : M1 340 (48 * t + 4 * c + 1) = M 340 (48 * t + 4 * c + 1)) (a2 : M1 340 (48 * t + 4 * c + 2) = M 340 (48 * t + 4 * c + 2)) (a3 : M1 340 (48 * t + 4 * c + 3) = M 340 (48 * t + 4 * c + 3)) (hs : ∀ j : Int, j < 400 * t + l → M1 338 j = M 338 j) (hl : l ≤ l1) : Cl M1 t c l1 := by
  unfold Cl at h ⊢
  rw [a0, a1, a2, a3]
  obtain ⟨⟨h1, h2, h3, h4⟩, h5⟩ := h
  refine ⟨⟨h1, h2, by omega, pth_same _ _ _ _ (fun j _ _ => hs _ (by omega)) h4⟩, ?_⟩
  rcases h5 with h5 | ⟨h5, h6, h7, h8⟩
  · exact Or.inl h5
  · exact Or.inr ⟨h5, h6, by omega, pth_same _ _ _ _ (fun j _ _ => hs _ (by omega)) h8⟩
theorem pfr_of {M : Mm} {t a b : Int} (h1 : 0 ≤ a) (h2 : a ≤ b) (h3 : b ≤ 400) (h4 : pth M t (b - a).toNat a 0 1) : pfr M t a b := by
  refine ⟨h1, ?_, h3, pfx_of _ _ _ h4⟩
  by_cases e : a = b
  · rw [e, show (b - b).toNat = 0 by omega] at h4
    exact absurd (show (0 : Int) = 1 from h4) (by decide)
  · omega
theorem Cl.ok {M : Mm} {t c l : Int} (h : Cl M t c l) (hl : l ≤ 400) : pfr M t (M 340 (48 * t + 4 * c)) (M 340 (48 * t + 4 * c + 1)) ∧ (M 340 (48 * t + 4 * c + 2) < 0 ∨ pfr M t (M 340 (48 * t + 4 * c + 2)) (M 340 (48 * t + 4 * c + 3))) := by
  obtain ⟨⟨h1, h2, h3, h4⟩, h5⟩ := h
  refine ⟨pfr_of h1 h2 (by omega) h4, ?_⟩
  rcases h5 with h5 | ⟨h5, h6, h7, h8⟩
  · exact Or.inl h5
  · exact Or.inr (pfr_of h5 h6 (by omega) h8)
/-- a rule's row, so far (d: how many more lines than clauses) -/
def Rl (X M : Mm) (d : Int) : Prop := GX X M ∧ M 339 (X 336 2) ≤ M 336 8 ∧ M 341 (X 336 2) + d = M 336 14 ∧ (0 ≤ M 341 (X 336 2) ∧ M 336 14 ≤ 12) ∧ ∀ c : Int, 0 ≤ c → c < M 341 (X 336 2) → Cl M (X 336 2) c (M 339 (X 336 2))
theorem Rl.fr {X m m1 : Mm} {d : Int} (h : Rl X m d) (f : ∀ c p : Int, ¬ (c = 336 ∧ ¬ p = 11 ∧ ¬ p = 14) → m1 c p = m c p) (h8 : m 336 8 ≤ m1 336 8) : Rl X m1 d := by
  obtain ⟨g, a, b, c, e⟩ := h
  refine ⟨⟨(f 336 11 (by omega)).trans g.1, g.2⟩, ?_, ?_, ?_, fun i i0 i1 => ?_⟩
  · rw [f 339 _ (by omega)]; omega
  · rw [f 341 _ (by omega), f 336 14 (by omega)]; exact b
  · rw [f 341 _ (by omega), f 336 14 (by omega)]; exact c
  · rw [f 341 _ (by omega)] at i1
    exact (e i i0 i1).same (f 340 _ (by omega)) (f 340 _ (by omega)) (f 340 _ (by omega)) (f 340 _ (by omega)) (fun j _ => f 338 j (by omega)) (by rw [f 339 _ (by omega)]; omega)
theorem zx_takesWord {X : Mm} {S : Sh} {m0 : Mm} {K : Int → Mm → Prop} {b : Int → Int} {n u : Int} (k : Nat) (hS : Shp S) (hm0 : Inv X S m0) (ht : TR X b n) (hp : m0 336 8 ≤ n) (hk17 : k < 17) (hu : u = pw k) (hk : ∀ (r q : Int) (M1 : Mm), Inv X S M1 → (∀ c p : Int, ¬ (c = 336 ∧ 8 ≤ p ∧ p ≤ 8) → M1 c p = m0 c p) → Sk b n (m0 336 8) q → q ≤ n → ((r = 0 ∧ M1 336 8 = q ∧ ¬ Wk b n k q) ∨ (r = 1 ∧ M1 336 8 = q + tl k ∧ Wk b n k q ∧ q + tl k ≤ n)) → K r M1) : wp_X12_takesWord S m0 336 u K := by
  have b8 := hm0.f_336_8
  refine u_X12_takesWord ?_
  refine ⟨hS.k336, ?_⟩
  refine zx_isWord k hS hm0 ht hp hk17 hu (fun q m1 hm1 f1 sk e1 qn wk => ?_) (fun q m1 hm1 f1 sk e1 qn wk => ?_)
  · refine g_ifT (by decide) ?_
    refine ⟨hS.k336, ?_⟩
    refine zx_passWord k hS hm1 ht e1 (by have := sk.1; omega) hk17 wk (fun m2 hm2 f2 e2 rn => ?_)
    exact g_C ⟨by decide, hk 1 q m2 hm2 (fun c p z => (f2 c p z).trans (f1 c p z)) sk qn (Or.inr ⟨rfl, e2, wk, rn⟩)⟩
  · exact g_ifF (by decide) (g_C ⟨by decide, hk 0 q m1 hm1 f1 sk qn (Or.inl ⟨rfl, e1, wk⟩)⟩)
