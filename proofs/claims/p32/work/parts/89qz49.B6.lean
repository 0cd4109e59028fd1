/-! feed, end, force, seed, test, undo, image, back: alike they stay -/
abbrev KZ (c p : Int) : Prop := (4 ≤ c ∧ c ≤ 27) ∨ (c = 3 ∧ (p = 2 ∨ p = 4)) ∨ (76 ≤ c ∧ c ≤ 335) ∨ c = 346 ∨ c = 347 ∨ c = 354 ∨ c = 357 ∨ (c = 0 ∧ (p = 4 ∨ p = 5)) ∨ (c = 336 ∧ (p = 25 ∨ p = 23 ∨ p = 2)) ∨ (c = 55 ∧ (p = 1 ∨ p = 2)) ∨ 358 ≤ c ∨ c = 30 ∨ c = 338 ∨ c = 340 ∨ c = 341
theorem RZ.keep {S : Sh} {M M' : Mm} {n : Int} (h : RZ S M n) (j : JX S M') (F : ∀ c p : Int, KZ c p → M' c p = M c p) : RZ S M' n :=
  ⟨j, h.2.1.same (fun c p q => F c p (by
      rcases q with q | q | q | q | q | q | q | q | q
      · exact Or.inl q
      · exact Or.inr (Or.inl ⟨q.1, Or.inr q.2⟩)
      · exact Or.inr (Or.inr (Or.inl q))
      · exact Or.inr (Or.inr (Or.inr (Or.inl q)))
      · exact Or.inr (Or.inr (Or.inr (Or.inr (Or.inl q))))
      · exact Or.inr (Or.inr (Or.inr (Or.inr (Or.inr (Or.inl q)))))
      · exact Or.inr (Or.inr (Or.inr (Or.inr (Or.inr (Or.inr (Or.inl q))))))
      · exact Or.inr (Or.inr (Or.inr (Or.inr (Or.inr (Or.inr (Or.inr (Or.inl q)))))))
      · exact Or.inr (Or.inr (Or.inr (Or.inr (Or.inr (Or.inr (Or.inr (Or.inr (Or.inl ⟨q.1, Or.inl q.2⟩)))))))))), h.2.2.1.same (fun c p q => F c p (by
      rcases q with q | q | q | q | q | q | q | q
      · exact Or.inr (Or.inr (Or.inr (Or.inr (Or.inr (Or.inr (Or.inr (Or.inr (Or.inr (Or.inr (Or.inl q))))))))))
      · exact Or.inr (Or.inr (Or.inr (Or.inr (Or.inr (Or.inr (Or.inr (Or.inr (Or.inr (Or.inr (Or.inr (Or.inl q)))))))))))
      · exact Or.inr (Or.inr (Or.inr (Or.inr (Or.inr (Or.inr (Or.inr (Or.inr (Or.inl ⟨q.1, Or.inr (Or.inr q.2)⟩))))))))
      · exact Or.inr (Or.inr (Or.inr (Or.inr (Or.inr (Or.inr (Or.inr (Or.inr (Or.inr (Or.inl ⟨q.1, Or.inl q.2⟩)))))))))
      · exact Or.inr (Or.inl ⟨q.1, Or.inl q.2⟩)
      · exact Or.inr (Or.inr (Or.inr (Or.inr (Or.inr (Or.inr (Or.inr (Or.inr (Or.inr (Or.inr (Or.inr (Or.inr (Or.inl q))))))))))))
      · exact Or.inr (Or.inr (Or.inr (Or.inr (Or.inr (Or.inr (Or.inr (Or.inr (Or.inr (Or.inr (Or.inr (Or.inr (Or.inr (Or.inl q)))))))))))))
      · exact Or.inr (Or.inr (Or.inr (Or.inr (Or.inr (Or.inr (Or.inr (Or.inr (Or.inr (Or.inr (Or.inr (Or.inr (Or.inr (Or.inr q))))))))))))))), h.2.2.2.same (fun c p q => F c p (by
      rcases q with q | q | q | q | q | q | q | q | q
      · exact Or.inl q
      · exact Or.inr (Or.inl ⟨q.1, Or.inr q.2⟩)
      · exact Or.inr (Or.inr (Or.inl q))
      · exact Or.inr (Or.inr (Or.inr (Or.inl q)))
      · exact Or.inr (Or.inr (Or.inr (Or.inr (Or.inl q))))
      · exact Or.inr (Or.inr (Or.inr (Or.inr (Or.inr (Or.inl q)))))
      · exact Or.inr (Or.inr (Or.inr (Or.inr (Or.inr (Or.inr (Or.inl q))))))
      · exact Or.inr (Or.inr (Or.inr (Or.inr (Or.inr (Or.inr (Or.inr (Or.inr (Or.inr (Or.inl ⟨q.1, Or.inr q.2⟩)))))))))
      · exact Or.inr (Or.inr (Or.inr (Or.inr (Or.inr (Or.inr (Or.inr (Or.inr (Or.inl ⟨q.1, Or.inr (Or.inl q.2)⟩))))))))))⟩
theorem SR.mv {M M' : Mm} {u u' : Int} {D D' : Int → Int} (h : SR M u D) (b4 : D 4 ≤ 5) (b5 : D 5 ≤ 4) (b5' : 0 ≤ D 5) (b6 : D 6 ≤ 6) (h0 : ∀ p : Int, 0 ≤ p → p < 2 → M' u' p = M u p) (hh : ∀ c p : Int, inS c p → M' (u' + c) p = M (u + c) p) (G : ∀ p : Int, 0 ≤ p → p < 57 → D' p = D p) : SR M' u' D' := by
  obtain ⟨⟨r1, r2⟩, r3, r4, r5, r6⟩ := h
  have g4 := G 4 (by omega) (by omega)
  have g5 := G 5 (by omega) (by omega)
  have g6 := G 6 (by omega) (by omega)
  refine ⟨⟨?_, ?_⟩, fun i i0 i1 => ?_, fun j j0 j1 => ?_, fun j j0 j1 => ?_, fun w w0 w1 => ?_⟩
  · rw [h0 0 (by omega) (by first | decide | exact fun z => absurd z.1 (by decide) | exact ⟨fun z => absurd z.1 (by decide), fun z => absurd z.1 (by decide)⟩ | omega), G 7 (by omega) (by omega)]; exact r1
  · rw [h0 1 (by omega) (by first | decide | exact fun z => absurd z.1 (by decide) | exact ⟨fun z => absurd z.1 (by decide), fun z => absurd z.1 (by decide)⟩ | omega), G 8 (by omega) (by omega)]; exact r2
  · rw [g4] at i1
    have q := r3 i i0 i1
    unfold SRh at q ⊢
    rw [hh 1 i (by first | decide | exact fun z => absurd z.1 (by decide) | exact ⟨fun z => absurd z.1 (by decide), fun z => absurd z.1 (by decide)⟩ | omega), hh 2 i (by first | decide | exact fun z => absurd z.1 (by decide) | exact ⟨fun z => absurd z.1 (by decide), fun z => absurd z.1 (by decide)⟩ | omega), hh 3 i (by first | decide | exact fun z => absurd z.1 (by decide) | exact ⟨fun z => absurd z.1 (by decide), fun z => absurd z.1 (by decide)⟩ | omega), G (10 + 5 * i) (by omega) (by omega), G (10 + 5 * i + 1) (by omega) (by omega), G (10 + 5 * i + 2) (by omega) (by omega)]
    exact q
  · rw [g5] at j1
    have q := r4 j j0 j1
    unfold SRj at q ⊢
    rw [hh 4 j (by first | decide | exact fun z => absurd z.1 (by decide) | exact ⟨fun z => absurd z.1 (by decide), fun z => absurd z.1 (by decide)⟩ | omega), hh 5 j (by first | decide | exact fun z => absurd z.1 (by decide) | exact ⟨fun z => absurd z.1 (by decide), fun z => absurd z.1 (by decide)⟩ | omega), hh 6 j (by first | decide | exact fun z => absurd z.1 (by decide) | exact ⟨fun z => absurd z.1 (by decide), fun z => absurd z.1 (by decide)⟩ | omega), G (35 + 4 * j) (by omega) (by omega), G (35 + 4 * j + 1) (by omega) (by omega), G (35 + 4 * j + 2) (by omega) (by omega), G (35 + 4 * j + 3) (by omega) (by omega), g4]
    exact q
  · rw [g5] at j0
    rw [hh 4 j (by first | decide | exact fun z => absurd z.1 (by decide) | exact ⟨fun z => absurd z.1 (by decide), fun z => absurd z.1 (by decide)⟩ | omega), hh 5 j (by first | decide | exact fun z => absurd z.1 (by decide) | exact ⟨fun z => absurd z.1 (by decide), fun z => absurd z.1 (by decide)⟩ | omega)]
    exact r5 j j0 j1
  · rw [g6] at w1
    rw [hh 7 w (by first | decide | exact fun z => absurd z.1 (by decide) | exact ⟨fun z => absurd z.1 (by decide), fun z => absurd z.1 (by decide)⟩ | omega), G (51 + w) (by omega) (by omega)]
    exact r6 w w0 w1
theorem g_ldrw {S : Sh} {M : Mm} {x : Int} {ci n : Nat} {i : Int} {K : Int → Prop} (hk : isK S x ci) (hn : S.2.2 x = n) (h0 : 0 ≤ i) (h1 : i < n) (hb : rowv S (M x i)) (h : ∀ v : Int, v = M x i → rowv S v → K v) : wLdR S M x ci i K := ⟨hk, ⟨h0, by rw [hn]; exact h1⟩, rowv_ne hb, h _ rfl hb⟩
theorem zx_enforce {X : Mm} {S : Sh} {m0 : Mm} {K : Mm → Prop} (hS : Shp S) (hm0 : Inv X S m0) (hk : ∀ (M1 : Mm), Inv X S M1 → (∀ c p : Int, ¬ (c = 55 ∧ p = 1) → M1 c p = m0 c p) → M1 55 1 = (if m0 3 2 < 0 then -2 else m0 30 (m0 3 2)) → K M1) : wp_X11_enforce S m0 0 K := by
  have b := hm0.f_3_2
  refine u_X11_enforce ?_
  refine g_getr 1 3 rfl hS.k0 hm0.f_0_1 (by decide) ?_
  refine g_getu 2 rfl hS.k3 (fun v1 ev1 => ?_)
  refine g_if (fun w2 => ?_) (fun w2 => ?_)
  · refine u_X11_enforce_26 ?_
    refine g_C ?_
    refine u_X11_enforce_27 ?_
    refine g_getr 10 55 rfl hS.k0 hm0.f_0_10 (by decide) ?_
    refine g_ifT rfl ?_
    refine g_C ?_
    refine g_putr 1 rfl hS.k55 (rowv_ne (S := S) (Or.inl rfl)) (hm0.wrow55 (Or.inl rfl)) (fun m3 em3 hm3 => ?_)
    exact hk m3 hm3 (fun c p q => (congrFun (congrFun em3 _) _).trans (up_ne q)) ((congrFun (congrFun em3 _) _).trans ((up_at _ _ _ _).trans (by rw [if_pos (by omega)])))
  · refine g_getr 1 3 rfl hS.k0 hm0.f_0_1 (by decide) ?_
    refine g_getu 2 rfl hS.k3 (fun v4 ev4 => ?_)
    refine g_C ?_
    refine g_ifF (by first | decide | omega) ?_
    refine g_C ?_
    refine u_X11_enforce_27 ?_
    refine g_getr 10 55 rfl hS.k0 hm0.f_0_10 (by decide) ?_
    refine g_ifF (by decide) ?_
    refine g_getr 6 30 rfl hS.k0 hm0.f_0_6 (by decide) ?_
    refine g_getr 1 3 rfl hS.k0 hm0.f_0_1 (by decide) ?_
    refine g_getu 2 rfl hS.k3 (fun v5 ev5 => ?_)
    refine g_ldrw hS.k30 hS.l30 (by omega) (by omega) (hm0.row30 (by omega) (by omega)) (fun v6 ev6 hr_v6 => ?_)
    refine g_putr 1 rfl hS.k55 (rowv_ne (S := S) hr_v6) (hm0.wrow55 hr_v6) (fun m7 em7 hm7 => ?_)
    exact hk m7 hm7 (fun c p q => (congrFun (congrFun em7 _) _).trans (up_ne q)) ((congrFun (congrFun em7 _) _).trans ((up_at _ _ _ _).trans (by rw [if_neg (by omega), ev6, ev5])))
theorem zz_feed {S : Sh} {m0 : Mm} {K : Int → Int → Mm → Prop} {K1 : Int → Mm → Prop} {u1 u2 u3 u4 u5 n : Int} (hS : Shp S) (hz : RZ S m0 n) (hK : ∀ (r : Int) (M : Mm), wp_X12_feed S M 336 u1 u2 u3 u4 u5 (fun r2 M2 => K r r2 M2) → K1 r M) (hk : ∀ (r : Int) (M1 : Mm), RZ S M1 n → K r r M1) : wp_X11_feed S m0 0 u1 u2 u3 u4 u5 K1 := by
  have hj := hz.1
  obtain ⟨jc, xr, ⟨⟨a1, a2, a3⟩, a4, a5⟩⟩ := id hj
  obtain ⟨l, hl⟩ : ∃ l : Int, m0 1 1 = l := ⟨_, rfl⟩
  refine zk_feed11 hS jc hl (fun z => ?_) (fun m1 j1 l0 l1 f1 e1 w1 => ?_)
  · refine hK _ _ ?_
    refine zk_feed12 hS jc (a1.symm.trans hl) (fun _ => hk _ m0 hz) (fun m2 _ _ z2 _ _ _ => absurd z2 z)
  · refine hK _ _ ?_
    refine zk_feed12 hS j1 (l := l) (by rw [f1 336 1 (by first | decide | exact fun z => absurd z.1 (by decide) | exact ⟨fun z => absurd z.1 (by decide), fun z => absurd z.1 (by decide)⟩ | omega) (by first | decide | exact fun z => absurd z.1 (by decide) | exact ⟨fun z => absurd z.1 (by decide), fun z => absurd z.1 (by decide)⟩ | omega), ← a1]; exact hl) (fun z => absurd l1 z) (fun m2 j2 _ _ f2 e2 w2 => hk _ m2 (hz.keep ⟨j2, ?_, ?_⟩ (fun c p q => by unfold KZ at q; rw [f2 c p (by first | exact fun y => absurd (y.1 ▸ z) (by decide) | exact fun y => absurd (y.1 ▸ q) (by decide) | exact z | exact q | exact z.1 | exact q.1 | exact z.2 | exact q.2 | omega) (by omega), f1 c p (by first | exact fun y => absurd (y.1 ▸ z) (by decide) | exact fun y => absurd (y.1 ▸ q) (by decide) | exact z | exact q | exact z.1 | exact q.1 | exact z.2 | exact q.2 | omega) (by omega)])))
    · have F : ∀ c p : Int, ¬ c = 1 → ¬ c = 2 → ¬ (c = 336 ∧ p = 1) → ¬ c = 337 → m2 c p = m0 c p := fun c p q1 q2 q3 q4 => by rw [f2 c p q3 (by omega), f1 c p (by first | exact fun y => absurd (y.1 ▸ z) (by decide) | exact fun y => absurd (y.1 ▸ q) (by decide) | exact z | exact q | exact z.1 | exact q.1 | exact z.2 | exact q.2 | omega) (by omega)]
      unfold Xr at xr ⊢
      rw [F 3 3 (by first | decide | exact fun z => absurd z.1 (by decide) | exact ⟨fun z => absurd z.1 (by decide), fun z => absurd z.1 (by decide)⟩ | omega) (by first | decide | exact fun z => absurd z.1 (by decide) | exact ⟨fun z => absurd z.1 (by decide), fun z => absurd z.1 (by decide)⟩ | omega) (by first | decide | exact fun z => absurd z.1 (by decide) | exact ⟨fun z => absurd z.1 (by decide), fun z => absurd z.1 (by decide)⟩ | omega) (by first | decide | exact fun z => absurd z.1 (by decide) | exact ⟨fun z => absurd z.1 (by decide), fun z => absurd z.1 (by decide)⟩ | omega), F 336 22 (by first | decide | exact fun z => absurd z.1 (by decide) | exact ⟨fun z => absurd z.1 (by decide), fun z => absurd z.1 (by decide)⟩ | omega) (by first | decide | exact fun z => absurd z.1 (by decide) | exact ⟨fun z => absurd z.1 (by decide), fun z => absurd z.1 (by decide)⟩ | omega) (by first | decide | exact fun z => absurd z.1 (by decide) | exact ⟨fun z => absurd z.1 (by decide), fun z => absurd z.1 (by decide)⟩ | omega) (by first | decide | exact fun z => absurd z.1 (by decide) | exact ⟨fun z => absurd z.1 (by decide), fun z => absurd z.1 (by decide)⟩ | omega), F 76 3 (by first | decide | exact fun z => absurd z.1 (by decide) | exact ⟨fun z => absurd z.1 (by decide), fun z => absurd z.1 (by decide)⟩ | omega) (by first | decide | exact fun z => absurd z.1 (by decide) | exact ⟨fun z => absurd z.1 (by decide), fun z => absurd z.1 (by decide)⟩ | omega) (by first | decide | exact fun z => absurd z.1 (by decide) | exact ⟨fun z => absurd z.1 (by decide), fun z => absurd z.1 (by decide)⟩ | omega) (by first | decide | exact fun z => absurd z.1 (by decide) | exact ⟨fun z => absurd z.1 (by decide), fun z => absurd z.1 (by decide)⟩ | omega), F 356 0 (by first | decide | exact fun z => absurd z.1 (by decide) | exact ⟨fun z => absurd z.1 (by decide), fun z => absurd z.1 (by decide)⟩ | omega) (by first | decide | exact fun z => absurd z.1 (by decide) | exact ⟨fun z => absurd z.1 (by decide), fun z => absurd z.1 (by decide)⟩ | omega) (by first | decide | exact fun z => absurd z.1 (by decide) | exact ⟨fun z => absurd z.1 (by decide), fun z => absurd z.1 (by decide)⟩ | omega) (by first | decide | exact fun z => absurd z.1 (by decide) | exact ⟨fun z => absurd z.1 (by decide), fun z => absurd z.1 (by decide)⟩ | omega), F 76 9 (by first | decide | exact fun z => absurd z.1 (by decide) | exact ⟨fun z => absurd z.1 (by decide), fun z => absurd z.1 (by decide)⟩ | omega) (by first | decide | exact fun z => absurd z.1 (by decide) | exact ⟨fun z => absurd z.1 (by decide), fun z => absurd z.1 (by decide)⟩ | omega) (by first | decide | exact fun z => absurd z.1 (by decide) | exact ⟨fun z => absurd z.1 (by decide), fun z => absurd z.1 (by decide)⟩ | omega) (by first | decide | exact fun z => absurd z.1 (by decide) | exact ⟨fun z => absurd z.1 (by decide), fun z => absurd z.1 (by decide)⟩ | omega), F 357 0 (by first | decide | exact fun z => absurd z.1 (by decide) | exact ⟨fun z => absurd z.1 (by decide), fun z => absurd z.1 (by decide)⟩ | omega) (by first | decide | exact fun z => absurd z.1 (by decide) | exact ⟨fun z => absurd z.1 (by decide), fun z => absurd z.1 (by decide)⟩ | omega) (by first | decide | exact fun z => absurd z.1 (by decide) | exact ⟨fun z => absurd z.1 (by decide), fun z => absurd z.1 (by decide)⟩ | omega) (by first | decide | exact fun z => absurd z.1 (by decide) | exact ⟨fun z => absurd z.1 (by decide), fun z => absurd z.1 (by decide)⟩ | omega), F 101 3 (by first | decide | exact fun z => absurd z.1 (by decide) | exact ⟨fun z => absurd z.1 (by decide), fun z => absurd z.1 (by decide)⟩ | omega) (by first | decide | exact fun z => absurd z.1 (by decide) | exact ⟨fun z => absurd z.1 (by decide), fun z => absurd z.1 (by decide)⟩ | omega) (by first | decide | exact fun z => absurd z.1 (by decide) | exact ⟨fun z => absurd z.1 (by decide), fun z => absurd z.1 (by decide)⟩ | omega) (by first | decide | exact fun z => absurd z.1 (by decide) | exact ⟨fun z => absurd z.1 (by decide), fun z => absurd z.1 (by decide)⟩ | omega), F 356 1 (by first | decide | exact fun z => absurd z.1 (by decide) | exact ⟨fun z => absurd z.1 (by decide), fun z => absurd z.1 (by decide)⟩ | omega) (by first | decide | exact fun z => absurd z.1 (by decide) | exact ⟨fun z => absurd z.1 (by decide), fun z => absurd z.1 (by decide)⟩ | omega) (by first | decide | exact fun z => absurd z.1 (by decide) | exact ⟨fun z => absurd z.1 (by decide), fun z => absurd z.1 (by decide)⟩ | omega) (by first | decide | exact fun z => absurd z.1 (by decide) | exact ⟨fun z => absurd z.1 (by decide), fun z => absurd z.1 (by decide)⟩ | omega), F 101 9 (by first | decide | exact fun z => absurd z.1 (by decide) | exact ⟨fun z => absurd z.1 (by decide), fun z => absurd z.1 (by decide)⟩ | omega) (by first | decide | exact fun z => absurd z.1 (by decide) | exact ⟨fun z => absurd z.1 (by decide), fun z => absurd z.1 (by decide)⟩ | omega) (by first | decide | exact fun z => absurd z.1 (by decide) | exact ⟨fun z => absurd z.1 (by decide), fun z => absurd z.1 (by decide)⟩ | omega) (by first | decide | exact fun z => absurd z.1 (by decide) | exact ⟨fun z => absurd z.1 (by decide), fun z => absurd z.1 (by decide)⟩ | omega), F 357 1 (by first | decide | exact fun z => absurd z.1 (by decide) | exact ⟨fun z => absurd z.1 (by decide), fun z => absurd z.1 (by decide)⟩ | omega) (by first | decide | exact fun z => absurd z.1 (by decide) | exact ⟨fun z => absurd z.1 (by decide), fun z => absurd z.1 (by decide)⟩ | omega) (by first | decide | exact fun z => absurd z.1 (by decide) | exact ⟨fun z => absurd z.1 (by decide), fun z => absurd z.1 (by decide)⟩ | omega) (by first | decide | exact fun z => absurd z.1 (by decide) | exact ⟨fun z => absurd z.1 (by decide), fun z => absurd z.1 (by decide)⟩ | omega), F 126 3 (by first | decide | exact fun z => absurd z.1 (by decide) | exact ⟨fun z => absurd z.1 (by decide), fun z => absurd z.1 (by decide)⟩ | omega) (by first | decide | exact fun z => absurd z.1 (by decide) | exact ⟨fun z => absurd z.1 (by decide), fun z => absurd z.1 (by decide)⟩ | omega) (by first | decide | exact fun z => absurd z.1 (by decide) | exact ⟨fun z => absurd z.1 (by decide), fun z => absurd z.1 (by decide)⟩ | omega) (by first | decide | exact fun z => absurd z.1 (by decide) | exact ⟨fun z => absurd z.1 (by decide), fun z => absurd z.1 (by decide)⟩ | omega), F 356 2 (by first | decide | exact fun z => absurd z.1 (by decide) | exact ⟨fun z => absurd z.1 (by decide), fun z => absurd z.1 (by decide)⟩ | omega) (by first | decide | exact fun z => absurd z.1 (by decide) | exact ⟨fun z => absurd z.1 (by decide), fun z => absurd z.1 (by decide)⟩ | omega) (by first | decide | exact fun z => absurd z.1 (by decide) | exact ⟨fun z => absurd z.1 (by decide), fun z => absurd z.1 (by decide)⟩ | omega) (by first | decide | exact fun z => absurd z.1 (by decide) | exact ⟨fun z => absurd z.1 (by decide), fun z => absurd z.1 (by decide)⟩ | omega), F 126 9 (by first | decide | exact fun z => absurd z.1 (by decide) | exact ⟨fun z => absurd z.1 (by decide), fun z => absurd z.1 (by decide)⟩ | omega) (by first | decide | exact fun z => absurd z.1 (by decide) | exact ⟨fun z => absurd z.1 (by decide), fun z => absurd z.1 (by decide)⟩ | omega) (by first | decide | exact fun z => absurd z.1 (by decide) | exact ⟨fun z => absurd z.1 (by decide), fun z => absurd z.1 (by decide)⟩ | omega) (by first | decide | exact fun z => absurd z.1 (by decide) | exact ⟨fun z => absurd z.1 (by decide), fun z => absurd z.1 (by decide)⟩ | omega), F 357 2 (by first | decide | exact fun z => absurd z.1 (by decide) | exact ⟨fun z => absurd z.1 (by decide), fun z => absurd z.1 (by decide)⟩ | omega) (by first | decide | exact fun z => absurd z.1 (by decide) | exact ⟨fun z => absurd z.1 (by decide), fun z => absurd z.1 (by decide)⟩ | omega) (by first | decide | exact fun z => absurd z.1 (by decide) | exact ⟨fun z => absurd z.1 (by decide), fun z => absurd z.1 (by decide)⟩ | omega) (by first | decide | exact fun z => absurd z.1 (by decide) | exact ⟨fun z => absurd z.1 (by decide), fun z => absurd z.1 (by decide)⟩ | omega), F 151 3 (by first | decide | exact fun z => absurd z.1 (by decide) | exact ⟨fun z => absurd z.1 (by decide), fun z => absurd z.1 (by decide)⟩ | omega) (by first | decide | exact fun z => absurd z.1 (by decide) | exact ⟨fun z => absurd z.1 (by decide), fun z => absurd z.1 (by decide)⟩ | omega) (by first | decide | exact fun z => absurd z.1 (by decide) | exact ⟨fun z => absurd z.1 (by decide), fun z => absurd z.1 (by decide)⟩ | omega) (by first | decide | exact fun z => absurd z.1 (by decide) | exact ⟨fun z => absurd z.1 (by decide), fun z => absurd z.1 (by decide)⟩ | omega), F 356 3 (by first | decide | exact fun z => absurd z.1 (by decide) | exact ⟨fun z => absurd z.1 (by decide), fun z => absurd z.1 (by decide)⟩ | omega) (by first | decide | exact fun z => absurd z.1 (by decide) | exact ⟨fun z => absurd z.1 (by decide), fun z => absurd z.1 (by decide)⟩ | omega) (by first | decide | exact fun z => absurd z.1 (by decide) | exact ⟨fun z => absurd z.1 (by decide), fun z => absurd z.1 (by decide)⟩ | omega) (by first | decide | exact fun z => absurd z.1 (by decide) | exact ⟨fun z => absurd z.1 (by decide), fun z => absurd z.1 (by decide)⟩ | omega), F 151 9 (by first | decide | exact fun z => absurd z.1 (by decide) | exact ⟨fun z => absurd z.1 (by decide), fun z => absurd z.1 (by decide)⟩ | omega) (by first | decide | exact fun z => absurd z.1 (by decide) | exact ⟨fun z => absurd z.1 (by decide), fun z => absurd z.1 (by decide)⟩ | omega) (by first | decide | exact fun z => absurd z.1 (by decide) | exact ⟨fun z => absurd z.1 (by decide), fun z => absurd z.1 (by decide)⟩ | omega) (by first | decide | exact fun z => absurd z.1 (by decide) | exact ⟨fun z => absurd z.1 (by decide), fun z => absurd z.1 (by decide)⟩ | omega), F 357 3 (by first | decide | exact fun z => absurd z.1 (by decide) | exact ⟨fun z => absurd z.1 (by decide), fun z => absurd z.1 (by decide)⟩ | omega) (by first | decide | exact fun z => absurd z.1 (by decide) | exact ⟨fun z => absurd z.1 (by decide), fun z => absurd z.1 (by decide)⟩ | omega) (by first | decide | exact fun z => absurd z.1 (by decide) | exact ⟨fun z => absurd z.1 (by decide), fun z => absurd z.1 (by decide)⟩ | omega) (by first | decide | exact fun z => absurd z.1 (by decide) | exact ⟨fun z => absurd z.1 (by decide), fun z => absurd z.1 (by decide)⟩ | omega)]
      exact xr
    · have F : ∀ c p : Int, ¬ c = 1 → ¬ c = 2 → ¬ (c = 336 ∧ p = 1) → ¬ c = 337 → m2 c p = m0 c p := fun c p q1 q2 q3 q4 => by rw [f2 c p q3 (by omega), f1 c p (by first | exact fun y => absurd (y.1 ▸ z) (by decide) | exact fun y => absurd (y.1 ▸ q) (by decide) | exact z | exact q | exact z.1 | exact q.1 | exact z.2 | exact q.2 | omega) (by omega)]
      have G2 : ∀ p : Int, m2 2 p = m1 2 p := fun p => f2 2 p (by first | decide | exact fun z => absurd z.1 (by decide) | exact ⟨fun z => absurd z.1 (by decide), fun z => absurd z.1 (by decide)⟩ | omega) (by first | decide | exact fun z => absurd z.1 (by decide) | exact ⟨fun z => absurd z.1 (by decide), fun z => absurd z.1 (by decide)⟩ | omega)
      obtain ⟨v1, v2, v3, v4, v5⟩ := w1
      obtain ⟨x1, x2, x3, x4, x5⟩ := w2
      unfold Ya
      rw [F 0 7 (by first | decide | exact fun z => absurd z.1 (by decide) | exact ⟨fun z => absurd z.1 (by decide), fun z => absurd z.1 (by decide)⟩ | omega) (by first | decide | exact fun z => absurd z.1 (by decide) | exact ⟨fun z => absurd z.1 (by decide), fun z => absurd z.1 (by decide)⟩ | omega) (by first | decide | exact fun z => absurd z.1 (by decide) | exact ⟨fun z => absurd z.1 (by decide), fun z => absurd z.1 (by decide)⟩ | omega) (by first | decide | exact fun z => absurd z.1 (by decide) | exact ⟨fun z => absurd z.1 (by decide), fun z => absurd z.1 (by decide)⟩ | omega), F 336 2 (by first | decide | exact fun z => absurd z.1 (by decide) | exact ⟨fun z => absurd z.1 (by decide), fun z => absurd z.1 (by decide)⟩ | omega) (by first | decide | exact fun z => absurd z.1 (by decide) | exact ⟨fun z => absurd z.1 (by decide), fun z => absurd z.1 (by decide)⟩ | omega) (by first | decide | exact fun z => absurd z.1 (by decide) | exact ⟨fun z => absurd z.1 (by decide), fun z => absurd z.1 (by decide)⟩ | omega) (by first | decide | exact fun z => absurd z.1 (by decide) | exact ⟨fun z => absurd z.1 (by decide), fun z => absurd z.1 (by decide)⟩ | omega), F 3 2 (by first | decide | exact fun z => absurd z.1 (by decide) | exact ⟨fun z => absurd z.1 (by decide), fun z => absurd z.1 (by decide)⟩ | omega) (by first | decide | exact fun z => absurd z.1 (by decide) | exact ⟨fun z => absurd z.1 (by decide), fun z => absurd z.1 (by decide)⟩ | omega) (by first | decide | exact fun z => absurd z.1 (by decide) | exact ⟨fun z => absurd z.1 (by decide), fun z => absurd z.1 (by decide)⟩ | omega) (by first | decide | exact fun z => absurd z.1 (by decide) | exact ⟨fun z => absurd z.1 (by decide), fun z => absurd z.1 (by decide)⟩ | omega), F 336 21 (by first | decide | exact fun z => absurd z.1 (by decide) | exact ⟨fun z => absurd z.1 (by decide), fun z => absurd z.1 (by decide)⟩ | omega) (by first | decide | exact fun z => absurd z.1 (by decide) | exact ⟨fun z => absurd z.1 (by decide), fun z => absurd z.1 (by decide)⟩ | omega) (by first | decide | exact fun z => absurd z.1 (by decide) | exact ⟨fun z => absurd z.1 (by decide), fun z => absurd z.1 (by decide)⟩ | omega) (by first | decide | exact fun z => absurd z.1 (by decide) | exact ⟨fun z => absurd z.1 (by decide), fun z => absurd z.1 (by decide)⟩ | omega), F 76 2 (by first | decide | exact fun z => absurd z.1 (by decide) | exact ⟨fun z => absurd z.1 (by decide), fun z => absurd z.1 (by decide)⟩ | omega) (by first | decide | exact fun z => absurd z.1 (by decide) | exact ⟨fun z => absurd z.1 (by decide), fun z => absurd z.1 (by decide)⟩ | omega) (by first | decide | exact fun z => absurd z.1 (by decide) | exact ⟨fun z => absurd z.1 (by decide), fun z => absurd z.1 (by decide)⟩ | omega) (by first | decide | exact fun z => absurd z.1 (by decide) | exact ⟨fun z => absurd z.1 (by decide), fun z => absurd z.1 (by decide)⟩ | omega), F 355 0 (by first | decide | exact fun z => absurd z.1 (by decide) | exact ⟨fun z => absurd z.1 (by decide), fun z => absurd z.1 (by decide)⟩ | omega) (by first | decide | exact fun z => absurd z.1 (by decide) | exact ⟨fun z => absurd z.1 (by decide), fun z => absurd z.1 (by decide)⟩ | omega) (by first | decide | exact fun z => absurd z.1 (by decide) | exact ⟨fun z => absurd z.1 (by decide), fun z => absurd z.1 (by decide)⟩ | omega) (by first | decide | exact fun z => absurd z.1 (by decide) | exact ⟨fun z => absurd z.1 (by decide), fun z => absurd z.1 (by decide)⟩ | omega), F 357 0 (by first | decide | exact fun z => absurd z.1 (by decide) | exact ⟨fun z => absurd z.1 (by decide), fun z => absurd z.1 (by decide)⟩ | omega) (by first | decide | exact fun z => absurd z.1 (by decide) | exact ⟨fun z => absurd z.1 (by decide), fun z => absurd z.1 (by decide)⟩ | omega) (by first | decide | exact fun z => absurd z.1 (by decide) | exact ⟨fun z => absurd z.1 (by decide), fun z => absurd z.1 (by decide)⟩ | omega) (by first | decide | exact fun z => absurd z.1 (by decide) | exact ⟨fun z => absurd z.1 (by decide), fun z => absurd z.1 (by decide)⟩ | omega), F 101 2 (by first | decide | exact fun z => absurd z.1 (by decide) | exact ⟨fun z => absurd z.1 (by decide), fun z => absurd z.1 (by decide)⟩ | omega) (by first | decide | exact fun z => absurd z.1 (by decide) | exact ⟨fun z => absurd z.1 (by decide), fun z => absurd z.1 (by decide)⟩ | omega) (by first | decide | exact fun z => absurd z.1 (by decide) | exact ⟨fun z => absurd z.1 (by decide), fun z => absurd z.1 (by decide)⟩ | omega) (by first | decide | exact fun z => absurd z.1 (by decide) | exact ⟨fun z => absurd z.1 (by decide), fun z => absurd z.1 (by decide)⟩ | omega), F 355 1 (by first | decide | exact fun z => absurd z.1 (by decide) | exact ⟨fun z => absurd z.1 (by decide), fun z => absurd z.1 (by decide)⟩ | omega) (by first | decide | exact fun z => absurd z.1 (by decide) | exact ⟨fun z => absurd z.1 (by decide), fun z => absurd z.1 (by decide)⟩ | omega) (by first | decide | exact fun z => absurd z.1 (by decide) | exact ⟨fun z => absurd z.1 (by decide), fun z => absurd z.1 (by decide)⟩ | omega) (by first | decide | exact fun z => absurd z.1 (by decide) | exact ⟨fun z => absurd z.1 (by decide), fun z => absurd z.1 (by decide)⟩ | omega), F 357 1 (by first | decide | exact fun z => absurd z.1 (by decide) | exact ⟨fun z => absurd z.1 (by decide), fun z => absurd z.1 (by decide)⟩ | omega) (by first | decide | exact fun z => absurd z.1 (by decide) | exact ⟨fun z => absurd z.1 (by decide), fun z => absurd z.1 (by decide)⟩ | omega) (by first | decide | exact fun z => absurd z.1 (by decide) | exact ⟨fun z => absurd z.1 (by decide), fun z => absurd z.1 (by decide)⟩ | omega) (by first | decide | exact fun z => absurd z.1 (by decide) | exact ⟨fun z => absurd z.1 (by decide), fun z => absurd z.1 (by decide)⟩ | omega), F 126 2 (by first | decide | exact fun z => absurd z.1 (by decide) | exact ⟨fun z => absurd z.1 (by decide), fun z => absurd z.1 (by decide)⟩ | omega) (by first | decide | exact fun z => absurd z.1 (by decide) | exact ⟨fun z => absurd z.1 (by decide), fun z => absurd z.1 (by decide)⟩ | omega) (by first | decide | exact fun z => absurd z.1 (by decide) | exact ⟨fun z => absurd z.1 (by decide), fun z => absurd z.1 (by decide)⟩ | omega) (by first | decide | exact fun z => absurd z.1 (by decide) | exact ⟨fun z => absurd z.1 (by decide), fun z => absurd z.1 (by decide)⟩ | omega), F 355 2 (by first | decide | exact fun z => absurd z.1 (by decide) | exact ⟨fun z => absurd z.1 (by decide), fun z => absurd z.1 (by decide)⟩ | omega) (by first | decide | exact fun z => absurd z.1 (by decide) | exact ⟨fun z => absurd z.1 (by decide), fun z => absurd z.1 (by decide)⟩ | omega) (by first | decide | exact fun z => absurd z.1 (by decide) | exact ⟨fun z => absurd z.1 (by decide), fun z => absurd z.1 (by decide)⟩ | omega) (by first | decide | exact fun z => absurd z.1 (by decide) | exact ⟨fun z => absurd z.1 (by decide), fun z => absurd z.1 (by decide)⟩ | omega), F 357 2 (by first | decide | exact fun z => absurd z.1 (by decide) | exact ⟨fun z => absurd z.1 (by decide), fun z => absurd z.1 (by decide)⟩ | omega) (by first | decide | exact fun z => absurd z.1 (by decide) | exact ⟨fun z => absurd z.1 (by decide), fun z => absurd z.1 (by decide)⟩ | omega) (by first | decide | exact fun z => absurd z.1 (by decide) | exact ⟨fun z => absurd z.1 (by decide), fun z => absurd z.1 (by decide)⟩ | omega) (by first | decide | exact fun z => absurd z.1 (by decide) | exact ⟨fun z => absurd z.1 (by decide), fun z => absurd z.1 (by decide)⟩ | omega), F 151 2 (by first | decide | exact fun z => absurd z.1 (by decide) | exact ⟨fun z => absurd z.1 (by decide), fun z => absurd z.1 (by decide)⟩ | omega) (by first | decide | exact fun z => absurd z.1 (by decide) | exact ⟨fun z => absurd z.1 (by decide), fun z => absurd z.1 (by decide)⟩ | omega) (by first | decide | exact fun z => absurd z.1 (by decide) | exact ⟨fun z => absurd z.1 (by decide), fun z => absurd z.1 (by decide)⟩ | omega) (by first | decide | exact fun z => absurd z.1 (by decide) | exact ⟨fun z => absurd z.1 (by decide), fun z => absurd z.1 (by decide)⟩ | omega), F 355 3 (by first | decide | exact fun z => absurd z.1 (by decide) | exact ⟨fun z => absurd z.1 (by decide), fun z => absurd z.1 (by decide)⟩ | omega) (by first | decide | exact fun z => absurd z.1 (by decide) | exact ⟨fun z => absurd z.1 (by decide), fun z => absurd z.1 (by decide)⟩ | omega) (by first | decide | exact fun z => absurd z.1 (by decide) | exact ⟨fun z => absurd z.1 (by decide), fun z => absurd z.1 (by decide)⟩ | omega) (by first | decide | exact fun z => absurd z.1 (by decide) | exact ⟨fun z => absurd z.1 (by decide), fun z => absurd z.1 (by decide)⟩ | omega), F 357 3 (by first | decide | exact fun z => absurd z.1 (by decide) | exact ⟨fun z => absurd z.1 (by decide), fun z => absurd z.1 (by decide)⟩ | omega) (by first | decide | exact fun z => absurd z.1 (by decide) | exact ⟨fun z => absurd z.1 (by decide), fun z => absurd z.1 (by decide)⟩ | omega) (by first | decide | exact fun z => absurd z.1 (by decide) | exact ⟨fun z => absurd z.1 (by decide), fun z => absurd z.1 (by decide)⟩ | omega) (by first | decide | exact fun z => absurd z.1 (by decide) | exact ⟨fun z => absurd z.1 (by decide), fun z => absurd z.1 (by decide)⟩ | omega)]
      refine ⟨⟨by rw [f2 1 1 (by first | decide | exact fun z => absurd z.1 (by decide) | exact ⟨fun z => absurd z.1 (by decide), fun z => absurd z.1 (by decide)⟩ | omega) (by first | decide | exact fun z => absurd z.1 (by decide) | exact ⟨fun z => absurd z.1 (by decide), fun z => absurd z.1 (by decide)⟩ | omega)]; omega, fun p p0 p1 => ?_, a3⟩, a4, a5⟩
      rw [G2]
      by_cases c0 : l ≤ p ∧ p < l + 4
      · have y1 := v1 (p - l) (by omega) (by omega)
        have y2 := x1 (p - l) (by omega) (by omega)
        rw [show l + (p - l) = p by omega] at y1 y2
        rw [y1, y2]
      by_cases c1 : l + 4 ≤ p ∧ p < l + 8
      · have y1 := v2 (p - (l + 4)) (by omega) (by omega)
        have y2 := x2 (p - (l + 4)) (by omega) (by omega)
        rw [show l + 4 + (p - (l + 4)) = p by omega] at y1 y2
        rw [y1, y2]
      by_cases c2 : l + 8 ≤ p ∧ p < l + 12
      · have y1 := v3 (p - (l + 8)) (by omega) (by omega)
        have y2 := x3 (p - (l + 8)) (by omega) (by omega)
        rw [show l + 8 + (p - (l + 8)) = p by omega] at y1 y2
        rw [y1, y2]
      by_cases c3 : l + 12 ≤ p ∧ p < l + 16
      · have y1 := v4 (p - (l + 12)) (by omega) (by omega)
        have y2 := x4 (p - (l + 12)) (by omega) (by omega)
        rw [show l + 12 + (p - (l + 12)) = p by omega] at y1 y2
        rw [y1, y2]
      by_cases c4 : l + 16 ≤ p ∧ p < l + 20
      · have y1 := v5 (p - (l + 16)) (by omega) (by omega)
        have y2 := x5 (p - (l + 16)) (by omega) (by omega)
        rw [show l + 16 + (p - (l + 16)) = p by omega] at y1 y2
        rw [y1, y2]
      rw [f1 2 p (by first | decide | exact fun z => absurd z.1 (by decide) | exact ⟨fun z => absurd z.1 (by decide), fun z => absurd z.1 (by decide)⟩ | omega) (by first | decide | exact fun z => absurd z.1 (by decide) | exact ⟨fun z => absurd z.1 (by decide), fun z => absurd z.1 (by decide)⟩ | omega), f2 337 p (by first | decide | exact fun z => absurd z.1 (by decide) | exact ⟨fun z => absurd z.1 (by decide), fun z => absurd z.1 (by decide)⟩ | omega) (by first | decide | exact fun z => absurd z.1 (by decide) | exact ⟨fun z => absurd z.1 (by decide), fun z => absurd z.1 (by decide)⟩ | omega), f1 337 p (by first | decide | exact fun z => absurd z.1 (by decide) | exact ⟨fun z => absurd z.1 (by decide), fun z => absurd z.1 (by decide)⟩ | omega) (by first | decide | exact fun z => absurd z.1 (by decide) | exact ⟨fun z => absurd z.1 (by decide), fun z => absurd z.1 (by decide)⟩ | omega)]
      exact a2 p p0 p1
theorem zz_end {S : Sh} {m0 : Mm} {K : Int → Int → Mm → Prop} {K1 : Int → Mm → Prop} {u n : Int} (hS : Shp S) (hz : RZ S m0 n) (hK : ∀ (r : Int) (M : Mm), wp_X12_end S M 336 u (fun r2 M2 => K r r2 M2) → K1 r M) (hk : ∀ (r : Int) (M1 : Mm), RZ S M1 n → K r r M1) : wp_X11_end S m0 0 u K1 := by
  have hj := hz.1
  have hm0 := hj.inv
  have b1 := hm0.f_1_1
  have a1 := hj.2.2.1.1
  have a3 := hj.2.2.1.2.2
  refine u_X11_end ?_
  refine g_if (fun w => ?_) (fun w => ?_)
  · refine g_C ?_
    refine hK _ _ ?_
    refine u_X12_end ?_
    exact g_ifT w (g_C (hk _ m0 hz))
  · refine g_getr 0 1 rfl hS.k0 hm0.f_0_0 (by decide) ?_
    refine g_getu 1 rfl hS.k1 (fun v ev => ?_)
    refine g_if (fun w2 => ?_) (fun w2 => ?_)
    · refine g_getr 0 1 rfl hS.k0 hm0.f_0_0 (by decide) ?_
      refine g_putR 1 rfl hS.k1 (fun m1 e1 => ?_)
      have f1 : ∀ c p : Int, ¬ (c = 1 ∧ p = 1) → m1 c p = m0 c p := fun c p q => (congrFun (congrFun e1 _) _).trans (up_ne q)
      have x1 : m1 1 1 = u := (congrFun (congrFun e1 _) _).trans (up_at _ _ _ _)
      have j1 : Jc S m1 := by rw [e1]; exact hj.1.len11 (by omega) (by omega)
      refine hK _ _ ?_
      refine u_X12_end ?_
      refine g_ifF w ?_
      refine g_getu 1 rfl hS.k336 (fun v2 ev2 => ?_)
      rw [f1 336 1 (by first | decide | exact fun z => absurd z.1 (by decide) | exact ⟨fun z => absurd z.1 (by decide), fun z => absurd z.1 (by decide)⟩ | omega)] at ev2
      refine g_ifT (by first | decide | omega) ?_
      refine g_putR 1 rfl hS.k336 (fun m2 e2 => ?_)
      have f2 : ∀ c p : Int, ¬ (c = 336 ∧ p = 1) → m2 c p = m1 c p := fun c p q => (congrFun (congrFun e2 _) _).trans (up_ne q)
      have x2 : m2 336 1 = u := (congrFun (congrFun e2 _) _).trans (up_at _ _ _ _)
      have j2 : Jc S m2 := by rw [e2]; exact j1.len12 (by omega) (by omega)
      exact hk u m2 (hz.keep (hj.tape j2 (fun c p _ q1 q2 _ => by rw [f2 c p (by first | exact fun y => absurd (y.1 ▸ z) (by decide) | exact fun y => absurd (y.1 ▸ q) (by decide) | exact z | exact q | exact z.1 | exact q.1 | exact z.2 | exact q.2 | omega), f1 c p q1]) (by rw [f2 1 1 (by first | decide | exact fun z => absurd z.1 (by decide) | exact ⟨fun z => absurd z.1 (by decide), fun z => absurd z.1 (by decide)⟩ | omega), x1, x2]) (by rw [f2 0 7 (by first | decide | exact fun z => absurd z.1 (by decide) | exact ⟨fun z => absurd z.1 (by decide), fun z => absurd z.1 (by decide)⟩ | omega), f1 0 7 (by first | decide | exact fun z => absurd z.1 (by decide) | exact ⟨fun z => absurd z.1 (by decide), fun z => absurd z.1 (by decide)⟩ | omega), f2 336 2 (by first | decide | exact fun z => absurd z.1 (by decide) | exact ⟨fun z => absurd z.1 (by decide), fun z => absurd z.1 (by decide)⟩ | omega), f1 336 2 (by first | decide | exact fun z => absurd z.1 (by decide) | exact ⟨fun z => absurd z.1 (by decide), fun z => absurd z.1 (by decide)⟩ | omega)]; exact a3)) (fun c p q => by unfold KZ at q; rw [f2 c p (by first | exact fun y => absurd (y.1 ▸ z) (by decide) | exact fun y => absurd (y.1 ▸ q) (by decide) | exact z | exact q | exact z.1 | exact q.1 | exact z.2 | exact q.2 | omega), f1 c p (by first | exact fun y => absurd (y.1 ▸ z) (by decide) | exact fun y => absurd (y.1 ▸ q) (by decide) | exact z | exact q | exact z.1 | exact q.1 | exact z.2 | exact q.2 | omega)]))
    · refine g_C ?_
      refine hK _ _ ?_
      refine u_X12_end ?_
      refine g_ifF w ?_
      refine g_getu 1 rfl hS.k336 (fun v2 ev2 => ?_)
      exact g_ifF (by first | decide | omega) (g_C (hk _ m0 hz))
theorem zz_force {S : Sh} {m0 : Mm} {K : Int → Int → Mm → Prop} {K1 : Int → Mm → Prop} {u n : Int} (hS : Shp S) (hz : RZ S m0 n) (hK : ∀ (r : Int) (M : Mm), wp_X12_force S M 336 u (fun r2 M2 => K r r2 M2) → K1 r M) (hk : ∀ (r : Int) (M1 : Mm), RZ S M1 n → K r r M1) : wp_X11_force S m0 0 u K1 := by
  have hj := hz.1
  have hm0 := hj.inv
  obtain ⟨jc, xr, ⟨⟨a1, a2, a3⟩, a4, a5⟩⟩ := id hj
  have b7 := hm0.f_0_7
  have no : ∀ r : Int, r = -2 → (u < -1 ∨ m0 0 7 ≤ u) → ¬ u = -1 → wp_X12_force S m0 336 u (fun r2 M2 => K r r2 M2) := by
    intro r hr h1 h2
    subst hr
    refine u_X12_force ?_
    refine g_C ?_
    refine g_ifF h2 ?_
    refine ⟨hS.k336, ?_⟩
    refine u_X12_isRule ?_
    refine g_if (fun w => g_C ⟨by decide, g_ifF (by decide) (g_C (hk _ m0 hz))⟩) (fun w => ?_)
    refine g_getu 2 rfl hS.k336 (fun v ev => ?_)
    exact g_ifT (by first | decide | omega) (g_C ⟨by decide, g_ifF (by decide) (g_C (hk _ m0 hz))⟩)
  refine u_X11_force ?_
  refine g_C ?_
  refine g_if (fun w => g_C (hK _ _ (no _ rfl (by omega) (by omega)))) (fun w => ?_)
  refine g_getu 7 rfl hS.k0 (fun v ev => ?_)
  refine g_if (fun w2 => ?_) (fun w2 => g_C (hK _ _ (no _ rfl (by omega) (by omega))))
  refine g_getr 1 3 rfl hS.k0 hm0.f_0_1 (by decide) ?_
  refine g_getu 2 rfl hS.k3 (fun o eo => ?_)
  refine g_getr 1 3 rfl hS.k0 hm0.f_0_1 (by decide) ?_
  refine g_putR 2 rfl hS.k3 (fun m1 e1 => ?_)
  have f1 : ∀ c p : Int, ¬ (c = 3 ∧ p = 2) → m1 c p = m0 c p := fun c p q => (congrFun (congrFun e1 _) _).trans (up_ne q)
  have x1 : m1 3 2 = u := (congrFun (congrFun e1 _) _).trans (up_at _ _ _ _)
  have j1 : Jc S m1 := by
    rw [e1]
    refine jc.put (fun c p z1 z2 => ?_) (by decide)
    have z1 : c = 3 := by omega
    have z2 : p = 2 := by omega
    subst z1 z2
    exact okb_of (l := -1) (u := 5) (by decide +kernel) (by omega) (by omega)
  refine ⟨hS.k0, ?_⟩
  refine zx_enforce hS j1.inv (fun m2 hm2 fe ye => ?_)
  have sp : ∀ c p : Int, spP c p → m2 c p = m1 c p := fun c p q => (hm2.g q).trans (sf_e m1 (by omega))
  have j2 : Jc S m2 := Jc.of hm2
  have k2 : m2 336 2 = m0 336 2 := (sp 336 2 (by decide)).trans (f1 336 2 (by first | decide | exact fun z => absurd z.1 (by decide) | exact ⟨fun z => absurd z.1 (by decide), fun z => absurd z.1 (by decide)⟩ | omega))
  have go : wp_X12_force_16 S (fun r2 M2 => K o r2 M2) 336 u m2 := by
    refine u_X12_force_16 ?_
    refine g_getu 21 rfl hS.k336 (fun q eq => ?_)
    rw [sp 336 21 (by decide), f1 336 21 (by first | decide | exact fun z => absurd z.1 (by decide) | exact ⟨fun z => absurd z.1 (by decide), fun z => absurd z.1 (by decide)⟩ | omega)] at eq
    refine g_putR 21 rfl hS.k336 (fun m3 e3 => ?_)
    have f3 : ∀ c p : Int, ¬ (c = 336 ∧ p = 21) → m3 c p = m2 c p := fun c p q => (congrFun (congrFun e3 _) _).trans (up_ne q)
    have x3 : m3 336 21 = u := (congrFun (congrFun e3 _) _).trans (up_at _ _ _ _)
    have j3 : Jc S m3 := by
      obtain ⟨k1, k2', k3, k4, k5⟩ := j2
      refine ⟨fun c p hc hp => ?_, fun i i0 i1 => ?_, ?_, ?_, ?_⟩
      · by_cases e : (c : Int) = 336 ∧ (p : Int) = 21
        · have z1 : c = 336 := by omega
          have z2 : p = 21 := by omega
          subst z1 z2
          rw [show ((336 : Nat) : Int) = 336 from rfl, show ((21 : Nat) : Int) = 21 from rfl, x3]
          exact okb_of (l := -1) (u := 5) (by decide +kernel) (by omega) (by omega)
        · rw [f3 c p e]
          exact k1 c p hc hp
      · rw [f3 30 i (by first | decide | exact fun z => absurd z.1 (by decide) | exact ⟨fun z => absurd z.1 (by decide), fun z => absurd z.1 (by decide)⟩ | omega)]; exact k2' i i0 i1
      · rw [f3 55 1 (by first | decide | exact fun z => absurd z.1 (by decide) | exact ⟨fun z => absurd z.1 (by decide), fun z => absurd z.1 (by decide)⟩ | omega)]; exact k3
      · obtain ⟨ga, gb, gc, gd⟩ := k4
        unfold Good
        rw [x3, f3 336 2 (by first | decide | exact fun z => absurd z.1 (by decide) | exact ⟨fun z => absurd z.1 (by decide), fun z => absurd z.1 (by decide)⟩ | omega)]
        refine ⟨by omega, fun k k0 k1 => by rw [f3 355 k (by first | decide | exact fun z => absurd z.1 (by decide) | exact ⟨fun z => absurd z.1 (by decide), fun z => absurd z.1 (by decide)⟩ | omega), f3 357 k (by first | decide | exact fun z => absurd z.1 (by decide) | exact ⟨fun z => absurd z.1 (by decide), fun z => absurd z.1 (by decide)⟩ | omega)]; exact gb k k0 k1, gc, fun t t0 t1 => ?_⟩
        exact rulOK_same (gd t t0 t1) (f3 341 _ (by first | decide | exact fun z => absurd z.1 (by decide) | exact ⟨fun z => absurd z.1 (by decide), fun z => absurd z.1 (by decide)⟩ | omega)) (fun p _ _ => f3 340 p (by first | decide | exact fun z => absurd z.1 (by decide) | exact ⟨fun z => absurd z.1 (by decide), fun z => absurd z.1 (by decide)⟩ | omega)) (fun p _ _ => f3 338 p (by first | decide | exact fun z => absurd z.1 (by decide) | exact ⟨fun z => absurd z.1 (by decide), fun z => absurd z.1 (by decide)⟩ | omega))
      · unfold PL3 at k5 ⊢
        have e6 : m3 346 = m2 346 := funext (fun p => f3 346 p (by first | decide | exact fun z => absurd z.1 (by decide) | exact ⟨fun z => absurd z.1 (by decide), fun z => absurd z.1 (by decide)⟩ | omega))
        have e7 : m3 347 = m2 347 := funext (fun p => f3 347 p (by first | decide | exact fun z => absurd z.1 (by decide) | exact ⟨fun z => absurd z.1 (by decide), fun z => absurd z.1 (by decide)⟩ | omega))
        have e8 : m3 354 = m2 354 := funext (fun p => f3 354 p (by first | decide | exact fun z => absurd z.1 (by decide) | exact ⟨fun z => absurd z.1 (by decide), fun z => absurd z.1 (by decide)⟩ | omega))
        rw [e6, e7, e8, f3 336 25 (by first | decide | exact fun z => absurd z.1 (by decide) | exact ⟨fun z => absurd z.1 (by decide), fun z => absurd z.1 (by decide)⟩ | omega)]
        exact k5
    rw [show q = o by omega]
    have jx : JX S m3 := hj.forced j3 (fun c p hs q1 q2 => by rw [f3 c p q2, sp c p hs, f1 c p q1]) (by rw [f3 3 2 (by first | decide | exact fun z => absurd z.1 (by decide) | exact ⟨fun z => absurd z.1 (by decide), fun z => absurd z.1 (by decide)⟩ | omega), sp 3 2 (by decide), x1, x3])
    have F : ∀ c p : Int, ¬ (c = 336 ∧ p = 21) → ¬ (c = 55 ∧ p = 1) → ¬ (c = 3 ∧ p = 2) → m3 c p = m0 c p := fun c p q1 q2 q3 => by rw [f3 c p q1, fe c p q2, f1 c p q3]
    refine hk o m3 ⟨jx, hz.2.1.same (fun c p q => F c p (by omega) (by omega) (by omega)), ⟨fun k k0 k1 => ?_, ?_⟩, hz.2.2.2.same (fun c p q => F c p (by omega) (by omega) (by omega))⟩
    · rw [F 336 2 (by first | decide | exact fun z => absurd z.1 (by decide) | exact ⟨fun z => absurd z.1 (by decide), fun z => absurd z.1 (by decide)⟩ | omega) (by first | decide | exact fun z => absurd z.1 (by decide) | exact ⟨fun z => absurd z.1 (by decide), fun z => absurd z.1 (by decide)⟩ | omega) (by first | decide | exact fun z => absurd z.1 (by decide) | exact ⟨fun z => absurd z.1 (by decide), fun z => absurd z.1 (by decide)⟩ | omega)] at k1
      obtain ⟨Cs, r1, r2, r3⟩ := hz.2.2.1.1 k k0 k1
      refine ⟨Cs, ?_, r2.same (fun c p q => F c p (by omega) (by omega) (by omega)), r3⟩
      rw [F 30 k (by first | decide | exact fun z => absurd z.1 (by decide) | exact ⟨fun z => absurd z.1 (by decide), fun z => absurd z.1 (by decide)⟩ | omega) (by first | decide | exact fun z => absurd z.1 (by decide) | exact ⟨fun z => absurd z.1 (by decide), fun z => absurd z.1 (by decide)⟩ | omega) (by first | decide | exact fun z => absurd z.1 (by decide) | exact ⟨fun z => absurd z.1 (by decide), fun z => absurd z.1 (by decide)⟩ | omega)]
      exact r1.same (fun c p q => F c p (by omega) (by omega) (by omega))
    · rw [f3 55 1 (by first | decide | exact fun z => absurd z.1 (by decide) | exact ⟨fun z => absurd z.1 (by decide), fun z => absurd z.1 (by decide)⟩ | omega), ye, f3 3 2 (by first | decide | exact fun z => absurd z.1 (by decide) | exact ⟨fun z => absurd z.1 (by decide), fun z => absurd z.1 (by decide)⟩ | omega), fe 3 2 (by first | decide | exact fun z => absurd z.1 (by decide) | exact ⟨fun z => absurd z.1 (by decide), fun z => absurd z.1 (by decide)⟩ | omega)]
      by_cases z : m1 3 2 < 0
      · rw [if_pos z, if_pos z]
      · rw [if_neg z, if_neg z, F 30 _ (by first | decide | exact fun z => absurd z.1 (by decide) | exact ⟨fun z => absurd z.1 (by decide), fun z => absurd z.1 (by decide)⟩ | omega) (by first | decide | exact fun z => absurd z.1 (by decide) | exact ⟨fun z => absurd z.1 (by decide), fun z => absurd z.1 (by decide)⟩ | omega) (by first | decide | exact fun z => absurd z.1 (by decide) | exact ⟨fun z => absurd z.1 (by decide), fun z => absurd z.1 (by decide)⟩ | omega), f1 30 _ (by first | decide | exact fun z => absurd z.1 (by decide) | exact ⟨fun z => absurd z.1 (by decide), fun z => absurd z.1 (by decide)⟩ | omega)]
  refine hK _ _ ?_
  refine u_X12_force ?_
  refine g_C ?_
  refine g_if (fun w3 => go) (fun w3 => ?_)
  refine ⟨hS.k336, ?_⟩
  refine u_X12_isRule ?_
  refine g_ifF (by first | decide | omega) ?_
  refine g_getu 2 rfl hS.k336 (fun v3 ev3 => ?_)
  refine g_ifF (by first | decide | omega) ?_
  exact g_C ⟨by decide, g_ifT (by decide) go⟩
theorem zz_seed {S : Sh} {m0 : Mm} {K : Int → Int → Mm → Prop} {K1 : Int → Mm → Prop} {u n : Int} (hS : Shp S) (hz : RZ S m0 n) (hu : u ≤ 2147483647) (hK : ∀ (r : Int) (M : Mm), wp_X12_seed S M 336 u (fun r2 M2 => K r r2 M2) → K1 r M) (hk : ∀ (r : Int) (M1 : Mm), RZ S M1 n → K r r M1) : wp_X11_seed S m0 0 u K1 := by
  have hj := hz.1
  refine zj_seed11 hS hj.1 (fun w => ?_) (fun w => hK _ _ (zj_seed12 hS (fun w2 => absurd w2 (by omega)) (fun w2 => hk _ m0 hz)))
  refine hK _ _ ?_
  refine zj_seed12 hS (fun w2 => ?_) (fun w2 => absurd w2 (by omega))
  obtain ⟨m1, em1⟩ : ∃ m1 : Mm, m1 = up m0 3 3 u := ⟨_, rfl⟩
  obtain ⟨m2, em2⟩ : ∃ m2 : Mm, m2 = up m1 336 22 u := ⟨_, rfl⟩
  rw [← em1, ← em2]
  have f1 : ∀ c p : Int, ¬ (c = 3 ∧ p = 3) → m1 c p = m0 c p := fun c p q => (congrFun (congrFun em1 _) _).trans (up_ne q)
  have y1 : m1 3 3 = u := (congrFun (congrFun em1 _) _).trans (up_at _ _ _ _)
  have f2 : ∀ c p : Int, ¬ (c = 336 ∧ p = 22) → m2 c p = m1 c p := fun c p q => (congrFun (congrFun em2 _) _).trans (up_ne q)
  have y2 : m2 336 22 = u := (congrFun (congrFun em2 _) _).trans (up_at _ _ _ _)
  have j1 : Jc S m1 := hj.1.up1 3 3 em1 (okb_of (l := 0) (u := 2147483647) (by decide +kernel) w hu) (by decide) (hj.1.2.2.2.1.eq (fun p q => f1 336 p (by first | decide | exact fun z => absurd z.1 (by decide) | exact ⟨fun z => absurd z.1 (by decide), fun z => absurd z.1 (by decide)⟩ | omega)) (fun c p q => f1 c p (by first | exact fun y => absurd (y.1 ▸ z) (by decide) | exact fun y => absurd (y.1 ▸ q) (by decide) | exact z | exact q | exact z.1 | exact q.1 | exact z.2 | exact q.2 | omega))) (by decide)
  have j2 : Jc S m2 := j1.up1 336 22 em2 (okb_of (l := 0) (u := 2147483647) (by decide +kernel) w hu) (by decide) (j1.2.2.2.1.eq (fun p q => f2 336 p (by first | decide | exact fun z => absurd z.1 (by decide) | exact ⟨fun z => absurd z.1 (by decide), fun z => absurd z.1 (by decide)⟩ | omega)) (fun c p q => f2 c p (by first | exact fun y => absurd (y.1 ▸ z) (by decide) | exact fun y => absurd (y.1 ▸ q) (by decide) | exact z | exact q | exact z.1 | exact q.1 | exact z.2 | exact q.2 | omega))) (by decide)
  have e : m1 336 22 = m0 3 3 := by rw [f1 336 22 (by first | decide | exact fun z => absurd z.1 (by decide) | exact ⟨fun z => absurd z.1 (by decide), fun z => absurd z.1 (by decide)⟩ | omega)]; exact hj.2.1.1.symm
  rw [e]
  refine hk _ m2 (hz.keep ⟨j2, Xr.mk (by rw [y2, f2 3 3 (by first | decide | exact fun z => absurd z.1 (by decide) | exact ⟨fun z => absurd z.1 (by decide), fun z => absurd z.1 (by decide)⟩ | omega), y1]) (fun k k0 k1 => ?_), hj.2.2.out (fun c p q1 q2 => (f2 c p q2).trans (f1 c p q1))⟩ (fun c p q => by unfold KZ at q; rw [f2 c p (by first | exact fun y => absurd (y.1 ▸ z) (by decide) | exact fun y => absurd (y.1 ▸ q) (by decide) | exact z | exact q | exact z.1 | exact q.1 | exact z.2 | exact q.2 | omega), f1 c p (by first | exact fun y => absurd (y.1 ▸ z) (by decide) | exact fun y => absurd (y.1 ▸ q) (by decide) | exact z | exact q | exact z.1 | exact q.1 | exact z.2 | exact q.2 | omega)]))
  rw [f2 _ 3 (by omega), f2 _ 9 (by omega), f2 356 k (by first | decide | exact fun z => absurd z.1 (by decide) | exact ⟨fun z => absurd z.1 (by decide), fun z => absurd z.1 (by decide)⟩ | omega), f2 357 k (by first | decide | exact fun z => absurd z.1 (by decide) | exact ⟨fun z => absurd z.1 (by decide), fun z => absurd z.1 (by decide)⟩ | omega), f1 _ 3 (by omega), f1 _ 9 (by omega), f1 356 k (by first | decide | exact fun z => absurd z.1 (by decide) | exact ⟨fun z => absurd z.1 (by decide), fun z => absurd z.1 (by decide)⟩ | omega), f1 357 k (by first | decide | exact fun z => absurd z.1 (by decide) | exact ⟨fun z => absurd z.1 (by decide), fun z => absurd z.1 (by decide)⟩ | omega)]
  exact hj.2.1.k k0 k1
theorem zs_turned11 {S : Sh} {m : Mm} {K : Int → Mm → Prop} {u : Int} (h1 : 0 ≤ u ∧ u ≤ 999 → K 1 m) (h0 : ¬ (0 ≤ u ∧ u ≤ 999) → K 0 m) : wp_X11_isTurned S m u K := by
  refine u_X11_isTurned ?_
  refine g_if (fun w => g_C ⟨by decide, h0 (by omega)⟩) (fun w => ?_)
  refine g_C ?_
  exact g_if (fun w2 => g_C ⟨by decide, h0 (by omega)⟩) (fun w2 => g_C ⟨by decide, h1 (by omega)⟩)
theorem zs_in {S : Sh} {m : Mm} {K : Int → Mm → Prop} {v a b : Int} (h1 : a ≤ v ∧ v ≤ b → K 1 m) (h0 : ¬ (a ≤ v ∧ v ≤ b) → K 0 m) : wp_X12_in S m v a b K := by
  refine u_X12_in ?_
  refine g_cmpx (fun c1 e1 => ?_)
  refine g_if (fun w => g_C ⟨by decide, h0 (by omega)⟩) (fun w => ?_)
  refine g_cmpx (fun c2 e2 => ?_)
  exact g_if (fun w2 => g_C ⟨by decide, h0 (by omega)⟩) (fun w2 => g_C ⟨by decide, h1 (by omega)⟩)
abbrev gTs (m : Mm) (a b c d : Int) : Prop := ¬ m 346 0 = 0 ∧ (0 ≤ a ∧ a ≤ 999) ∧ (1 ≤ b ∧ b ≤ 20) ∧ (0 ≤ c ∧ c ≤ 99) ∧ (0 ≤ d ∧ d ≤ 999) ∧ ¬ m 346 157 = 10
theorem zs_test12 {X : Mm} {S : Sh} {m0 : Mm} {K : Int → Mm → Prop} {a b c d : Int} (hS : Shp S) (hm : Inv X S m0) (hn : b = -1 → ∀ M1 : Mm, Inv X S M1 → (∀ c p : Int, ¬ (c = 346 ∧ p = 157) → M1 c p = m0 c p) → M1 346 157 = 0 → K 0 M1) (h0 : ¬ b = -1 → ¬ gTs m0 a b c d → K (-2) m0) (hk : ∀ M1 : Mm, gTs m0 a b c d → Inv X S M1 → (∀ c p : Int, ¬ (c = 346 ∧ (p = 157 ∨ (117 + 4 * m0 346 157 ≤ p ∧ p ≤ 120 + 4 * m0 346 157))) → M1 c p = m0 c p) → M1 346 (117 + 4 * m0 346 157) = a → M1 346 (117 + 4 * m0 346 157 + 1) = b → M1 346 (117 + 4 * m0 346 157 + 2) = c → M1 346 (117 + 4 * m0 346 157 + 3) = d → M1 346 157 = m0 346 157 + 1 → K (m0 346 157 + 1) M1) : wp_X12_test S m0 336 a b c d K := by
  have b157 := hm.f_346_157
  refine u_X12_test ?_
  refine g_C ?_
  refine g_if (fun w => ?_) (fun w => ?_)
  · refine ⟨hS.k336, ?_⟩
    refine zs_isDairy hS hm (fun c1 => g_ifF (by decide) ?_) (fun c1 => g_ifT rfl (g_C (h0 w (fun z => z.1 c1))))
    refine g_C ?_
    refine g_C ?_
    refine g_C ?_
    refine zs_in (fun c2 => g_ifF (by decide) ?_) (fun c2 => g_ifT rfl (g_C (h0 w (fun z => c2 z.2.1))))
    refine g_C ?_
    refine g_C ?_
    refine g_C ?_
    refine zs_in (fun c3 => g_ifF (by decide) ?_) (fun c3 => g_ifT rfl (g_C (h0 w (fun z => c3 z.2.2.1))))
    refine g_C ?_
    refine g_C ?_
    refine g_C ?_
    refine zs_in (fun c4 => g_ifF (by decide) ?_) (fun c4 => g_ifT rfl (g_C (h0 w (fun z => c4 z.2.2.2.1))))
    refine g_C ?_
    refine g_C ?_
    refine g_C ?_
    refine zs_in (fun c5 => g_ifF (by decide) ?_) (fun c5 => g_ifT rfl (g_C (h0 w (fun z => c5 z.2.2.2.2.1))))
    refine g_getr 20 346 rfl hS.k336 hm.f_336_20 (by decide) ?_
    refine g_C ?_
    refine g_ldu hS.k346 hS.l346 (by decide) (by decide) (fun v ev => ?_)
    refine g_C ?_
    refine g_if (fun w2 => ?_) (fun w2 => g_C (h0 w (fun z => z.2.2.2.2.2 (by omega))))
    refine g_C ?_
    refine g_C ?_
    refine g_getr 20 346 rfl hS.k336 hm.f_336_20 (by decide) ?_
    refine g_C ?_
    refine g_ldu hS.k346 hS.l346 (by decide) (by decide) (fun t et => ?_)
    subst et
    refine g_M (by omega) (by omega) ?_
    refine g_A (by omega) (by omega) ?_
    refine g_getr 20 346 rfl hS.k336 hm.f_336_20 (by decide) ?_
    refine g_st hS.k346 hS.l346 (by omega) (by omega) (wfm_346_117_4_0_9 hm (a := m0 346 157) (by omega) (by omega) (by omega) (by omega) (by omega)) (fun m1 e1 hm1 => ?_)
    have f1 : ∀ c p : Int, ¬ (c = 346 ∧ p = 117 + 4 * m0 346 157) → m1 c p = m0 c p := fun c p q => (congrFun (congrFun e1 _) _).trans (up_ne q)
    have y1 : m1 346 (117 + 4 * m0 346 157) = a := (congrFun (congrFun e1 _) _).trans (up_at _ _ _ _)
    refine g_getr 20 346 rfl hS.k336 hm1.f_336_20 (by decide) ?_
    refine g_C ?_
    refine g_A (by omega) (by omega) ?_
    refine g_st hS.k346 hS.l346 (by omega) (by omega) (wfm_346_118_4_0_9 hm1 (a := m0 346 157) (by omega) (by omega) (by omega) (by omega) (by omega)) (fun m2 e2 hm2 => ?_)
    have f2 : ∀ c p : Int, ¬ (c = 346 ∧ p = 117 + 4 * m0 346 157 + 1) → m2 c p = m1 c p := fun c p q => (congrFun (congrFun e2 _) _).trans (up_ne q)
    have y2 : m2 346 (117 + 4 * m0 346 157 + 1) = b := (congrFun (congrFun e2 _) _).trans (up_at _ _ _ _)
    refine g_getr 20 346 rfl hS.k336 hm2.f_336_20 (by decide) ?_
    refine g_C ?_
    refine g_A (by omega) (by omega) ?_
    refine g_st hS.k346 hS.l346 (by omega) (by omega) (wfm_346_119_4_0_9 hm2 (a := m0 346 157) (by omega) (by omega) (by omega) (by omega) (by omega)) (fun m3 e3 hm3 => ?_)
    have f3 : ∀ c p : Int, ¬ (c = 346 ∧ p = 117 + 4 * m0 346 157 + 2) → m3 c p = m2 c p := fun c p q => (congrFun (congrFun e3 _) _).trans (up_ne q)
    have y3 : m3 346 (117 + 4 * m0 346 157 + 2) = c := (congrFun (congrFun e3 _) _).trans (up_at _ _ _ _)
    refine g_getr 20 346 rfl hS.k336 hm3.f_336_20 (by decide) ?_
    refine g_C ?_
    refine g_A (by omega) (by omega) ?_
    refine g_st hS.k346 hS.l346 (by omega) (by omega) (wfm_346_120_4_0_9 hm3 (a := m0 346 157) (by omega) (by omega) (by omega) (by omega) (by omega)) (fun m4 e4 hm4 => ?_)
    have f4 : ∀ c p : Int, ¬ (c = 346 ∧ p = 117 + 4 * m0 346 157 + 3) → m4 c p = m3 c p := fun c p q => (congrFun (congrFun e4 _) _).trans (up_ne q)
    have y4 : m4 346 (117 + 4 * m0 346 157 + 3) = d := (congrFun (congrFun e4 _) _).trans (up_at _ _ _ _)
    refine g_getr 20 346 rfl hS.k336 hm4.f_336_20 (by decide) ?_
    refine g_C ?_
    refine g_ldu hS.k346 hS.l346 (by decide) (by decide) (fun t et => ?_)
    have et2 : t = m0 346 157 := by rw [et, f4 346 157 (by first | decide | exact fun z => absurd z.1 (by decide) | exact ⟨fun z => absurd z.1 (by decide), fun z => absurd z.1 (by decide)⟩ | omega), f3 346 157 (by first | decide | exact fun z => absurd z.1 (by decide) | exact ⟨fun z => absurd z.1 (by decide), fun z => absurd z.1 (by decide)⟩ | omega), f2 346 157 (by first | decide | exact fun z => absurd z.1 (by decide) | exact ⟨fun z => absurd z.1 (by decide), fun z => absurd z.1 (by decide)⟩ | omega), f1 346 157 (by first | decide | exact fun z => absurd z.1 (by decide) | exact ⟨fun z => absurd z.1 (by decide), fun z => absurd z.1 (by decide)⟩ | omega)]
    refine g_C ?_
    refine g_A (by omega) (by omega) ?_
    refine g_st hS.k346 hS.l346 (by decide) (by decide) (hm4.w_346_157 (by omega) (by omega)) (fun m5 e5 hm5 => ?_)
    have f5 : ∀ c p : Int, ¬ (c = 346 ∧ p = 157) → m5 c p = m4 c p := fun c p q => (congrFun (congrFun e5 _) _).trans (up_ne q)
    have y5 : m5 346 157 = t + 1 := (congrFun (congrFun e5 _) _).trans (up_at _ _ _ _)
    refine g_getr 20 346 rfl hS.k336 hm5.f_336_20 (by decide) ?_
    refine g_C ?_
    refine g_ldu hS.k346 hS.l346 (by decide) (by decide) (fun t2 et3 => ?_)
    have e6 : t2 = m0 346 157 + 1 := by omega
    rw [e6]
    refine hk m5 ⟨c1, c2, c3, c4, c5, by omega⟩ hm5 (fun c p q => ?_) ?_ ?_ ?_ ?_ (by omega)
    · rw [f5 c p (by first | exact fun y => absurd (y.1 ▸ z) (by decide) | exact fun y => absurd (y.1 ▸ q) (by decide) | exact z | exact q | exact z.1 | exact q.1 | exact z.2 | exact q.2 | omega), f4 c p (by first | exact fun y => absurd (y.1 ▸ z) (by decide) | exact fun y => absurd (y.1 ▸ q) (by decide) | exact z | exact q | exact z.1 | exact q.1 | exact z.2 | exact q.2 | omega), f3 c p (by first | exact fun y => absurd (y.1 ▸ z) (by decide) | exact fun y => absurd (y.1 ▸ q) (by decide) | exact z | exact q | exact z.1 | exact q.1 | exact z.2 | exact q.2 | omega), f2 c p (by first | exact fun y => absurd (y.1 ▸ z) (by decide) | exact fun y => absurd (y.1 ▸ q) (by decide) | exact z | exact q | exact z.1 | exact q.1 | exact z.2 | exact q.2 | omega), f1 c p (by first | exact fun y => absurd (y.1 ▸ z) (by decide) | exact fun y => absurd (y.1 ▸ q) (by decide) | exact z | exact q | exact z.1 | exact q.1 | exact z.2 | exact q.2 | omega)]
    · rw [f5 346 _ (by first | decide | exact fun z => absurd z.1 (by decide) | exact ⟨fun z => absurd z.1 (by decide), fun z => absurd z.1 (by decide)⟩ | omega), f4 346 _ (by first | decide | exact fun z => absurd z.1 (by decide) | exact ⟨fun z => absurd z.1 (by decide), fun z => absurd z.1 (by decide)⟩ | omega), f3 346 _ (by first | decide | exact fun z => absurd z.1 (by decide) | exact ⟨fun z => absurd z.1 (by decide), fun z => absurd z.1 (by decide)⟩ | omega), f2 346 _ (by first | decide | exact fun z => absurd z.1 (by decide) | exact ⟨fun z => absurd z.1 (by decide), fun z => absurd z.1 (by decide)⟩ | omega), y1]
    · rw [f5 346 _ (by first | decide | exact fun z => absurd z.1 (by decide) | exact ⟨fun z => absurd z.1 (by decide), fun z => absurd z.1 (by decide)⟩ | omega), f4 346 _ (by first | decide | exact fun z => absurd z.1 (by decide) | exact ⟨fun z => absurd z.1 (by decide), fun z => absurd z.1 (by decide)⟩ | omega), f3 346 _ (by first | decide | exact fun z => absurd z.1 (by decide) | exact ⟨fun z => absurd z.1 (by decide), fun z => absurd z.1 (by decide)⟩ | omega), y2]
    · rw [f5 346 _ (by first | decide | exact fun z => absurd z.1 (by decide) | exact ⟨fun z => absurd z.1 (by decide), fun z => absurd z.1 (by decide)⟩ | omega), f4 346 _ (by first | decide | exact fun z => absurd z.1 (by decide) | exact ⟨fun z => absurd z.1 (by decide), fun z => absurd z.1 (by decide)⟩ | omega), y3]
    · rw [f5 346 _ (by first | decide | exact fun z => absurd z.1 (by decide) | exact ⟨fun z => absurd z.1 (by decide), fun z => absurd z.1 (by decide)⟩ | omega), y4]
  · refine g_getr 20 346 rfl hS.k336 hm.f_336_20 (by decide) ?_
    refine g_C ?_
    refine g_C ?_
    refine g_st hS.k346 hS.l346 (by decide) (by decide) (hm.w_346_157 (by omega) (by omega)) (fun m5 e5 hm5 => ?_)
    refine g_C ?_
    exact hn (by omega) m5 hm5 (fun c p q => (congrFun (congrFun e5 _) _).trans (up_ne q)) ((congrFun (congrFun e5 _) _).trans (up_at _ _ _ _))
abbrev gTc (m : Mm) (a b c d : Int) : Prop := ¬ m 4 0 = 0 ∧ ¬ b = -1 ∧ (0 ≤ a ∧ a ≤ 999) ∧ (0 ≤ d ∧ d ≤ 999) ∧ (1 ≤ b ∧ b ≤ 20) ∧ (0 ≤ c ∧ c ≤ 99) ∧ m 3 4 < 10
theorem zs_test11 {X : Mm} {S : Sh} {m0 : Mm} {K : Int → Mm → Prop} {a b c d : Int} (hS : Shp S) (hm : Inv X S m0) (hn : ¬ m0 4 0 = 0 → b = -1 → ∀ M1 : Mm, Inv X S M1 → (∀ c p : Int, ¬ (c = 3 ∧ p = 4) → M1 c p = m0 c p) → M1 3 4 = 0 → K 0 M1) (h0 : ¬ (¬ m0 4 0 = 0 ∧ b = -1) → ¬ gTc m0 a b c d → K (-2) m0) (hk : ∀ M1 : Mm, gTc m0 a b c d → Inv X S M1 → (∀ c p : Int, ¬ (c = 3 ∧ p = 4) → ¬ (24 ≤ c ∧ c ≤ 27 ∧ p = m0 3 4) → M1 c p = m0 c p) → M1 24 (m0 3 4) = a → M1 25 (m0 3 4) = b → M1 26 (m0 3 4) = c → M1 27 (m0 3 4) = d → M1 3 4 = m0 3 4 + 1 → K (m0 3 4 + 1) M1) : wp_X11_test S m0 0 a b c d K := by
  have b34 := hm.f_3_4
  refine u_X11_test ?_
  refine g_getr 1 3 rfl hS.k0 hm.f_0_1 (by decide) ?_
  refine g_getr 0 4 rfl hS.k3 hm.f_3_0 (by decide) ?_
  refine g_getu 0 rfl hS.k4 (fun v ev => ?_)
  refine g_if (fun w => ?_) (fun w => g_C (h0 (fun z => z.1 (by omega)) (fun z => z.1 (by omega))))
  have c1 : ¬ m0 4 0 = 0 := by omega
  refine g_C ?_
  refine g_if (fun w2 => ?_) (fun w2 => ?_)
  · have no : ¬ gTc m0 a b c d → K (-2) m0 := h0 (fun z => w2 z.2)
    refine zs_turned11 (fun c2 => g_ifF (by decide) ?_) (fun c2 => g_ifT rfl (g_C (no (fun z => c2 z.2.2.1))))
    refine zs_turned11 (fun c3 => g_ifF (by decide) ?_) (fun c3 => g_ifT rfl (g_C (no (fun z => c3 z.2.2.2.1))))
    refine g_C ?_
    refine g_if (fun w3 => g_C (no (fun z => absurd z.2.2.2.2.1.1 (by omega)))) (fun w3 => ?_)
    refine g_C ?_
    refine g_if (fun w4 => g_C (no (fun z => absurd z.2.2.2.2.1.2 (by omega)))) (fun w4 => ?_)
    refine g_if (fun w5 => g_C (no (fun z => absurd z.2.2.2.2.2.1.1 (by omega)))) (fun w5 => ?_)
    refine g_C ?_
    refine g_if (fun w6 => ?_) (fun w6 => g_C (no (fun z => absurd z.2.2.2.2.2.1.2 (by omega))))
    refine g_getr 1 3 rfl hS.k0 hm.f_0_1 (by decide) ?_
    refine g_getu 4 rfl hS.k3 (fun t et => ?_)
    refine g_C ?_
    refine g_if (fun w7 => ?_) (fun w7 => g_C (no (fun z => absurd z.2.2.2.2.2.2 (by omega))))
    have gt : gTc m0 a b c d := ⟨c1, w2, c2, c3, ⟨by omega, by omega⟩, ⟨by omega, by omega⟩, by omega⟩
    refine g_getr 1 3 rfl hS.k0 hm.f_0_1 (by decide) ?_
    refine ⟨hS.k3, ?_⟩
    refine u_X4_addTest ?_
    refine g_getu 4 rfl hS.k3 (fun t1 et1 => ?_)
    refine g_C ?_
    refine g_ifF (by first | decide | omega) ?_
    refine g_getr 5 24 rfl hS.k3 hm.f_3_5 (by decide) ?_
    refine g_getu 4 rfl hS.k3 (fun t2 et2 => ?_)
    subst et2
    refine g_st hS.k24 hS.l24 (by omega) (by omega) (hm.wa_24 (by omega) (by omega) (by omega) (by omega)) (fun m1 e1 hm1 => ?_)
    have f1 : ∀ c p : Int, ¬ (c = 24 ∧ p = m0 3 4) → m1 c p = m0 c p := fun c p q => (congrFun (congrFun e1 _) _).trans (up_ne q)
    have y1 : m1 24 (m0 3 4) = a := (congrFun (congrFun e1 _) _).trans (up_at _ _ _ _)
    refine g_getr 6 25 rfl hS.k3 hm1.f_3_6 (by decide) ?_
    refine g_getu 4 rfl hS.k3 (fun t3 et3 => ?_)
    rw [f1 3 4 (by first | decide | exact fun z => absurd z.1 (by decide) | exact ⟨fun z => absurd z.1 (by decide), fun z => absurd z.1 (by decide)⟩ | omega)] at et3
    subst et3
    refine g_st hS.k25 hS.l25 (by omega) (by omega) (hm1.wa_25 (by omega) (by omega) (by omega) (by omega)) (fun m2 e2 hm2 => ?_)
    have f2 : ∀ c p : Int, ¬ (c = 25 ∧ p = m0 3 4) → m2 c p = m1 c p := fun c p q => (congrFun (congrFun e2 _) _).trans (up_ne q)
    have y2 : m2 25 (m0 3 4) = b := (congrFun (congrFun e2 _) _).trans (up_at _ _ _ _)
    refine g_getr 7 26 rfl hS.k3 hm2.f_3_7 (by decide) ?_
    refine g_getu 4 rfl hS.k3 (fun t4 et4 => ?_)
    rw [f2 3 4 (by first | decide | exact fun z => absurd z.1 (by decide) | exact ⟨fun z => absurd z.1 (by decide), fun z => absurd z.1 (by decide)⟩ | omega), f1 3 4 (by first | decide | exact fun z => absurd z.1 (by decide) | exact ⟨fun z => absurd z.1 (by decide), fun z => absurd z.1 (by decide)⟩ | omega)] at et4
    subst et4
    refine g_st hS.k26 hS.l26 (by omega) (by omega) (hm2.wa_26 (by omega) (by omega) (by omega) (by omega)) (fun m3 e3 hm3 => ?_)
    have f3 : ∀ c p : Int, ¬ (c = 26 ∧ p = m0 3 4) → m3 c p = m2 c p := fun c p q => (congrFun (congrFun e3 _) _).trans (up_ne q)
    have y3 : m3 26 (m0 3 4) = c := (congrFun (congrFun e3 _) _).trans (up_at _ _ _ _)
    refine g_getr 8 27 rfl hS.k3 hm3.f_3_8 (by decide) ?_
    refine g_getu 4 rfl hS.k3 (fun t5 et5 => ?_)
    rw [f3 3 4 (by first | decide | exact fun z => absurd z.1 (by decide) | exact ⟨fun z => absurd z.1 (by decide), fun z => absurd z.1 (by decide)⟩ | omega), f2 3 4 (by first | decide | exact fun z => absurd z.1 (by decide) | exact ⟨fun z => absurd z.1 (by decide), fun z => absurd z.1 (by decide)⟩ | omega), f1 3 4 (by first | decide | exact fun z => absurd z.1 (by decide) | exact ⟨fun z => absurd z.1 (by decide), fun z => absurd z.1 (by decide)⟩ | omega)] at et5
    subst et5
    refine g_st hS.k27 hS.l27 (by omega) (by omega) (hm3.wa_27 (by omega) (by omega) (by omega) (by omega)) (fun m4 e4 hm4 => ?_)
    have f4 : ∀ c p : Int, ¬ (c = 27 ∧ p = m0 3 4) → m4 c p = m3 c p := fun c p q => (congrFun (congrFun e4 _) _).trans (up_ne q)
    have y4 : m4 27 (m0 3 4) = d := (congrFun (congrFun e4 _) _).trans (up_at _ _ _ _)
    refine g_getu 4 rfl hS.k3 (fun t6 et6 => ?_)
    rw [f4 3 4 (by first | decide | exact fun z => absurd z.1 (by decide) | exact ⟨fun z => absurd z.1 (by decide), fun z => absurd z.1 (by decide)⟩ | omega), f3 3 4 (by first | decide | exact fun z => absurd z.1 (by decide) | exact ⟨fun z => absurd z.1 (by decide), fun z => absurd z.1 (by decide)⟩ | omega), f2 3 4 (by first | decide | exact fun z => absurd z.1 (by decide) | exact ⟨fun z => absurd z.1 (by decide), fun z => absurd z.1 (by decide)⟩ | omega), f1 3 4 (by first | decide | exact fun z => absurd z.1 (by decide) | exact ⟨fun z => absurd z.1 (by decide), fun z => absurd z.1 (by decide)⟩ | omega)] at et6
    refine g_C ?_
    refine g_A (by omega) (by omega) ?_
    refine g_put 4 rfl hS.k3 (hm4.w_3_4 (by omega) (by omega)) (fun m5 e5 hm5 => ?_)
    have f5 : ∀ c p : Int, ¬ (c = 3 ∧ p = 4) → m5 c p = m4 c p := fun c p q => (congrFun (congrFun e5 _) _).trans (up_ne q)
    have y5 : m5 3 4 = t6 + 1 := (congrFun (congrFun e5 _) _).trans (up_at _ _ _ _)
    refine g_getr 1 3 rfl hS.k0 hm5.f_0_1 (by decide) ?_
    refine g_getu 4 rfl hS.k3 (fun t7 et7 => ?_)
    have e6 : t7 = m0 3 4 + 1 := by omega
    rw [e6]
    refine hk m5 gt hm5 (fun c p q q2 => ?_) ?_ ?_ ?_ ?_ (by omega)
    · rw [f5 c p q, f4 c p (by first | exact fun y => absurd (y.1 ▸ z) (by decide) | exact fun y => absurd (y.1 ▸ q) (by decide) | exact z | exact q | exact z.1 | exact q.1 | exact z.2 | exact q.2 | omega), f3 c p (by first | exact fun y => absurd (y.1 ▸ z) (by decide) | exact fun y => absurd (y.1 ▸ q) (by decide) | exact z | exact q | exact z.1 | exact q.1 | exact z.2 | exact q.2 | omega), f2 c p (by first | exact fun y => absurd (y.1 ▸ z) (by decide) | exact fun y => absurd (y.1 ▸ q) (by decide) | exact z | exact q | exact z.1 | exact q.1 | exact z.2 | exact q.2 | omega), f1 c p (by first | exact fun y => absurd (y.1 ▸ z) (by decide) | exact fun y => absurd (y.1 ▸ q) (by decide) | exact z | exact q | exact z.1 | exact q.1 | exact z.2 | exact q.2 | omega)]
    · rw [f5 24 _ (by first | decide | exact fun z => absurd z.1 (by decide) | exact ⟨fun z => absurd z.1 (by decide), fun z => absurd z.1 (by decide)⟩ | omega), f4 24 _ (by first | decide | exact fun z => absurd z.1 (by decide) | exact ⟨fun z => absurd z.1 (by decide), fun z => absurd z.1 (by decide)⟩ | omega), f3 24 _ (by first | decide | exact fun z => absurd z.1 (by decide) | exact ⟨fun z => absurd z.1 (by decide), fun z => absurd z.1 (by decide)⟩ | omega), f2 24 _ (by first | decide | exact fun z => absurd z.1 (by decide) | exact ⟨fun z => absurd z.1 (by decide), fun z => absurd z.1 (by decide)⟩ | omega), y1]
    · rw [f5 25 _ (by first | decide | exact fun z => absurd z.1 (by decide) | exact ⟨fun z => absurd z.1 (by decide), fun z => absurd z.1 (by decide)⟩ | omega), f4 25 _ (by first | decide | exact fun z => absurd z.1 (by decide) | exact ⟨fun z => absurd z.1 (by decide), fun z => absurd z.1 (by decide)⟩ | omega), f3 25 _ (by first | decide | exact fun z => absurd z.1 (by decide) | exact ⟨fun z => absurd z.1 (by decide), fun z => absurd z.1 (by decide)⟩ | omega), y2]
    · rw [f5 26 _ (by first | decide | exact fun z => absurd z.1 (by decide) | exact ⟨fun z => absurd z.1 (by decide), fun z => absurd z.1 (by decide)⟩ | omega), f4 26 _ (by first | decide | exact fun z => absurd z.1 (by decide) | exact ⟨fun z => absurd z.1 (by decide), fun z => absurd z.1 (by decide)⟩ | omega), y3]
    · rw [f5 27 _ (by first | decide | exact fun z => absurd z.1 (by decide) | exact ⟨fun z => absurd z.1 (by decide), fun z => absurd z.1 (by decide)⟩ | omega), y4]
  · refine g_getr 1 3 rfl hS.k0 hm.f_0_1 (by decide) ?_
    refine g_C ?_
    refine g_put 4 rfl hS.k3 (hm.w_3_4 (by omega) (by omega)) (fun m5 e5 hm5 => ?_)
    refine g_C ?_
    exact hn c1 (by omega) m5 hm5 (fun c p q => (congrFun (congrFun e5 _) _).trans (up_ne q)) ((congrFun (congrFun e5 _) _).trans (up_at _ _ _ _))
/-- all stays but the TESTS -/
theorem RZ.tests {S : Sh} {M M' : Mm} {n : Int} (h : RZ S M n) (j : JX S M') (F : ∀ c p : Int, ¬ (c = 3 ∧ p = 4) → ¬ (24 ≤ c ∧ c ≤ 27) → ¬ (c = 346 ∧ 117 ≤ p) → M' c p = M c p) (t : TT M' 3 (M' 346)) (b : 0 ≤ M' 346 157 ∧ M' 346 157 ≤ 10) (z : M' 4 0 = 0 → M' 3 4 = 0) : RZ S M' n := by
  obtain ⟨_, ⟨⟨⟨⟨b4, b5, b6, b9, b157⟩, b3⟩, tl, sr, tt⟩, im, eu, pa⟩, cr, xz⟩ := h
  have G : ∀ p : Int, p < 117 → M' 346 p = M 346 p := fun p q => F 346 p (by first | decide | exact fun z => absurd z.1 (by decide) | exact ⟨fun z => absurd z.1 (by decide), fun z => absurd z.1 (by decide)⟩ | omega) (by first | decide | exact fun z => absurd z.1 (by decide) | exact ⟨fun z => absurd z.1 (by decide), fun z => absurd z.1 (by decide)⟩ | omega) (by first | decide | exact fun z => absurd z.1 (by decide) | exact ⟨fun z => absurd z.1 (by decide), fun z => absurd z.1 (by decide)⟩ | omega)
  have db : DB (M 346) := ⟨b4, b5, b6, b9, b157⟩
  refine ⟨j, ⟨⟨⟨⟨?_, ?_, ?_, ?_, b⟩, ?_⟩, ?_, ?_, t⟩, fun k k0 k1 => ?_, ?_, fun r r0 r1 => ?_⟩, cr.same (fun c p q => F c p (by omega) (by omega) (by omega)), ?_⟩
  · rw [G 4 (by omega)]; exact b4
  · rw [G 5 (by omega)]; exact b5
  · rw [G 6 (by omega)]; exact b6
  · rw [G 9 (by omega)]; exact b9
  · rw [G 3 (by omega)]; exact b3
  · exact tl.move db b3 (fun p _ _ => F _ p (by omega) (by omega) (by omega)) (fun c p q => F _ p (by omega) (by omega) (by omega)) (fun p q => G p (by omega))
  · exact sr.move db (fun p _ _ => F _ p (by omega) (by omega) (by omega)) (fun c p q => F _ p (by omega) (by omega) (by omega)) (fun p _ _ => G p (by omega))
  · rw [F 357 k (by first | decide | exact fun z => absurd z.1 (by decide) | exact ⟨fun z => absurd z.1 (by decide), fun z => absurd z.1 (by decide)⟩ | omega) (by first | decide | exact fun z => absurd z.1 (by decide) | exact ⟨fun z => absurd z.1 (by decide), fun z => absurd z.1 (by decide)⟩ | omega) (by first | decide | exact fun z => absurd z.1 (by decide) | exact ⟨fun z => absurd z.1 (by decide), fun z => absurd z.1 (by decide)⟩ | omega), show iD M' k = iD M k from funext (fun p => F 354 _ (by first | decide | exact fun z => absurd z.1 (by decide) | exact ⟨fun z => absurd z.1 (by decide), fun z => absurd z.1 (by decide)⟩ | omega) (by first | decide | exact fun z => absurd z.1 (by decide) | exact ⟨fun z => absurd z.1 (by decide), fun z => absurd z.1 (by decide)⟩ | omega) (by first | decide | exact fun z => absurd z.1 (by decide) | exact ⟨fun z => absurd z.1 (by decide), fun z => absurd z.1 (by decide)⟩ | omega))]
    exact (im k k0 k1).imp (fun z => z) (fun z => z.same (fun c p c0 c1 => F c p (by omega) (by omega) (by omega)) (F _ 4 (by omega) (by omega) (by omega)) (fun p _ _ => rfl))
  · rw [F 0 5 (by first | decide | exact fun z => absurd z.1 (by decide) | exact ⟨fun z => absurd z.1 (by decide), fun z => absurd z.1 (by decide)⟩ | omega) (by first | decide | exact fun z => absurd z.1 (by decide) | exact ⟨fun z => absurd z.1 (by decide), fun z => absurd z.1 (by decide)⟩ | omega) (by first | decide | exact fun z => absurd z.1 (by decide) | exact ⟨fun z => absurd z.1 (by decide), fun z => absurd z.1 (by decide)⟩ | omega), F 336 25 (by first | decide | exact fun z => absurd z.1 (by decide) | exact ⟨fun z => absurd z.1 (by decide), fun z => absurd z.1 (by decide)⟩ | omega) (by first | decide | exact fun z => absurd z.1 (by decide) | exact ⟨fun z => absurd z.1 (by decide), fun z => absurd z.1 (by decide)⟩ | omega) (by first | decide | exact fun z => absurd z.1 (by decide) | exact ⟨fun z => absurd z.1 (by decide), fun z => absurd z.1 (by decide)⟩ | omega)]; exact eu
  · rw [F 336 25 (by first | decide | exact fun z => absurd z.1 (by decide) | exact ⟨fun z => absurd z.1 (by decide), fun z => absurd z.1 (by decide)⟩ | omega) (by first | decide | exact fun z => absurd z.1 (by decide) | exact ⟨fun z => absurd z.1 (by decide), fun z => absurd z.1 (by decide)⟩ | omega) (by first | decide | exact fun z => absurd z.1 (by decide) | exact ⟨fun z => absurd z.1 (by decide), fun z => absurd z.1 (by decide)⟩ | omega)] at r1 ⊢
    rw [F 0 4 (by first | decide | exact fun z => absurd z.1 (by decide) | exact ⟨fun z => absurd z.1 (by decide), fun z => absurd z.1 (by decide)⟩ | omega) (by first | decide | exact fun z => absurd z.1 (by decide) | exact ⟨fun z => absurd z.1 (by decide), fun z => absurd z.1 (by decide)⟩ | omega) (by first | decide | exact fun z => absurd z.1 (by decide) | exact ⟨fun z => absurd z.1 (by decide), fun z => absurd z.1 (by decide)⟩ | omega)]
    obtain ⟨o, ho⟩ : ∃ o : Int, o = (M 0 4 + 20 - M 336 25 + r) % 20 := ⟨_, rfl⟩
    obtain ⟨⟨sr', _⟩, tl'⟩ := pa r r0 r1
    rw [← ho] at sr' ⊢
    have ob : 0 ≤ o ∧ o ≤ 19 := by omega
    have eD : uD M' r = uD M r := funext (fun p => F 347 _ (by first | decide | exact fun z => absurd z.1 (by decide) | exact ⟨fun z => absurd z.1 (by decide), fun z => absurd z.1 (by decide)⟩ | omega) (by first | decide | exact fun z => absurd z.1 (by decide) | exact ⟨fun z => absurd z.1 (by decide), fun z => absurd z.1 (by decide)⟩ | omega) (by first | decide | exact fun z => absurd z.1 (by decide) | exact ⟨fun z => absurd z.1 (by decide), fun z => absurd z.1 (by decide)⟩ | omega))
    have x4 := tl' 4 (by omega) (by omega)
    have x5 := tl' 5 (by omega) (by omega)
    have x6 := tl' 6 (by omega) (by omega)
    refine ⟨⟨?_, ⟨by rw [G 4 (by omega)]; exact b4, by rw [G 5 (by omega)]; exact b5, by rw [G 6 (by omega)]; exact b6, by rw [G 9 (by omega)]; exact b9, b⟩⟩, fun p p1 q => ?_⟩
    · rw [eD]
      exact sr'.mv (by omega) (by omega) (by omega) (by omega) (fun p _ _ => F _ p (by omega) (by omega) (by omega)) (fun c p q => F _ p (by omega) (by omega) (by omega)) (fun p _ _ => rfl)
    · rw [eD, G p (by omega)]; exact tl' p p1 q
  · obtain ⟨⟨s1, s2, s3, s4⟩, xb, xc, xd, xe, xf⟩ := xz
    refine ⟨⟨?_, z, ?_, ?_⟩, fun k k0 k1 => (xb k k0 k1).move (F _ _ (by omega) (by omega) (by omega)) (F _ _ (by omega) (by omega) (by omega)) (F _ _ (by omega) (by omega) (by omega)) (fun p _ _ => F _ _ (by omega) (by omega) (by omega)) (fun p _ _ => F _ _ (by omega) (by omega) (by omega)) (fun p _ _ => F _ _ (by omega) (by omega) (by omega)), fun r r0 r1 => ?_, ?_, fun k k0 k1 => ?_, ?_⟩
    · rw [F _ 0 (by omega) (by omega) (by omega)]; exact s1
    · exact s3.move (F _ _ (by omega) (by omega) (by omega)) (fun p _ _ => F _ _ (by omega) (by omega) (by omega)) (fun p _ _ => F _ _ (by omega) (by omega) (by omega))
    · exact s4.move (fun p _ _ => F _ _ (by omega) (by omega) (by omega))
    · rw [F _ 0 (by omega) (by omega) (by omega)]
      exact ⟨(xc r r0 r1).1, (xc r r0 r1).2.move (fun p _ _ => F _ _ (by omega) (by omega) (by omega))⟩
    · exact xd.move b3 (fun p q => G p (by omega))
    · rw [F 357 k (by first | decide | exact fun z => absurd z.1 (by decide) | exact ⟨fun z => absurd z.1 (by decide), fun z => absurd z.1 (by decide)⟩ | omega) (by first | decide | exact fun z => absurd z.1 (by decide) | exact ⟨fun z => absurd z.1 (by decide), fun z => absurd z.1 (by decide)⟩ | omega) (by first | decide | exact fun z => absurd z.1 (by decide) | exact ⟨fun z => absurd z.1 (by decide), fun z => absurd z.1 (by decide)⟩ | omega), show iD M' k = iD M k from funext (fun p => F 354 _ (by first | decide | exact fun z => absurd z.1 (by decide) | exact ⟨fun z => absurd z.1 (by decide), fun z => absurd z.1 (by decide)⟩ | omega) (by first | decide | exact fun z => absurd z.1 (by decide) | exact ⟨fun z => absurd z.1 (by decide), fun z => absurd z.1 (by decide)⟩ | omega) (by first | decide | exact fun z => absurd z.1 (by decide) | exact ⟨fun z => absurd z.1 (by decide), fun z => absurd z.1 (by decide)⟩ | omega))]; exact xe k k0 k1
    · rw [F 55 2 (by first | decide | exact fun z => absurd z.1 (by decide) | exact ⟨fun z => absurd z.1 (by decide), fun z => absurd z.1 (by decide)⟩ | omega) (by first | decide | exact fun z => absurd z.1 (by decide) | exact ⟨fun z => absurd z.1 (by decide), fun z => absurd z.1 (by decide)⟩ | omega) (by first | decide | exact fun z => absurd z.1 (by decide) | exact ⟨fun z => absurd z.1 (by decide), fun z => absurd z.1 (by decide)⟩ | omega), F 336 23 (by first | decide | exact fun z => absurd z.1 (by decide) | exact ⟨fun z => absurd z.1 (by decide), fun z => absurd z.1 (by decide)⟩ | omega) (by first | decide | exact fun z => absurd z.1 (by decide) | exact ⟨fun z => absurd z.1 (by decide), fun z => absurd z.1 (by decide)⟩ | omega) (by first | decide | exact fun z => absurd z.1 (by decide) | exact ⟨fun z => absurd z.1 (by decide), fun z => absurd z.1 (by decide)⟩ | omega)]; exact xf
theorem ww_test {S : Sh} {m0 : Mm} {K : Int → Int → Mm → Prop} {K1 : Int → Mm → Prop} {n a b c d : Int} (hS : Shp S) (hz : RZ S m0 n) (hK : ∀ (r : Int) (M : Mm), wp_X12_test S M 336 a b c d (fun r2 M2 => K r r2 M2) → K1 r M) (hk : ∀ (r r2 : Int) (M1 : Mm), RZ S M1 n → K r r2 M1) : wp_X11_test S m0 0 a b c d K1 := by
  have hm := hz.inv
  have ct := hz.ct
  have db := hz.db
  have t34 : m0 3 4 = m0 346 157 := hz.tt.1
  refine zs_test11 hS hm (fun c1 e m1 hm1 f1 y1 => ?_) (fun q1 q2 => ?_) (fun m1 g1 hm1 f1 ya yb yc yd ye => ?_)
  · have j1 := hz.1.of hm1
    refine hK _ _ (zs_test12 hS j1.inv (fun _ m2 hm2 f2 y2 => ?_) (fun z => absurd e z) (fun m2 g2 => absurd g2.2.2.1.1 (by omega)))
    refine hk _ _ m2 (hz.tests (j1.of hm2) (fun c p p1 p2 p3 => by rw [f2 c p (by first | exact fun y => absurd (y.1 ▸ z) (by decide) | exact fun y => absurd (y.1 ▸ q) (by decide) | exact z | exact q | exact z.1 | exact q.1 | exact z.2 | exact q.2 | omega), f1 c p p1]) ⟨?_, fun i i0 i1 => absurd i1 (by omega)⟩ (by omega) (fun _ => ?_))
    · rw [f2 3 4 (by first | decide | exact fun z => absurd z.1 (by decide) | exact ⟨fun z => absurd z.1 (by decide), fun z => absurd z.1 (by decide)⟩ | omega), y1, y2]
    · rw [f2 3 4 (by first | decide | exact fun z => absurd z.1 (by decide) | exact ⟨fun z => absurd z.1 (by decide), fun z => absurd z.1 (by decide)⟩ | omega), y1]
  · refine hK _ _ (zs_test12 hS hm (fun e m2 hm2 f2 y2 => ?_) (fun _ _ => hk _ _ m0 hz) (fun m2 g2 _ _ _ _ _ _ _ => ?_))
    · have z0 : m0 4 0 = 0 := by
        by_cases z : m0 4 0 = 0
        · exact z
        · exact absurd ⟨z, e⟩ q1
      have z1 : m0 3 4 = 0 := hz.2.2.2.1.2.1 z0
      refine hk _ _ m2 (hz.tests (hz.1.of hm2) (fun c p p1 p2 p3 => by rw [f2 c p (by first | exact fun y => absurd (y.1 ▸ z) (by decide) | exact fun y => absurd (y.1 ▸ q) (by decide) | exact z | exact q | exact z.1 | exact q.1 | exact z.2 | exact q.2 | omega)]) ⟨?_, fun i i0 i1 => absurd i1 (by omega)⟩ (by omega) (fun _ => ?_))
      · rw [f2 3 4 (by first | decide | exact fun z => absurd z.1 (by decide) | exact ⟨fun z => absurd z.1 (by decide), fun z => absurd z.1 (by decide)⟩ | omega), z1, y2]
      · rw [f2 3 4 (by first | decide | exact fun z => absurd z.1 (by decide) | exact ⟨fun z => absurd z.1 (by decide), fun z => absurd z.1 (by decide)⟩ | omega), z1]
    · exfalso
      obtain ⟨z1, z2, z3, z4, z5, z6⟩ := g2
      exact q2 ⟨by omega, by omega, z2, z5, z3, z4, by omega⟩
  · have j1 := hz.1.of hm1
    obtain ⟨z1, z2, z3, z4, z5, z6, z7⟩ := g1
    have e46 : m1 346 = m0 346 := funext (fun p => f1 346 p (by first | decide | exact fun z => absurd z.1 (by decide) | exact ⟨fun z => absurd z.1 (by decide), fun z => absurd z.1 (by decide)⟩ | omega) (by first | decide | exact fun z => absurd z.1 (by decide) | exact ⟨fun z => absurd z.1 (by decide), fun z => absurd z.1 (by decide)⟩ | omega))
    refine hK _ _ (zs_test12 hS j1.inv (fun e => absurd e z2) (fun _ q => absurd (show gTs m1 a b c d by unfold gTs; rw [e46]; exact ⟨by omega, z3, z5, z6, z4, by omega⟩) q) (fun m2 g2 hm2 f2 xa xb xc xd xe => ?_))
    rw [e46] at f2 xa xb xc xd xe
    have F : ∀ c p : Int, ¬ (c = 3 ∧ p = 4) → ¬ (24 ≤ c ∧ c ≤ 27 ∧ p = m0 3 4) → ¬ (c = 346 ∧ (p = 157 ∨ (117 + 4 * m0 346 157 ≤ p ∧ p ≤ 120 + 4 * m0 346 157))) → m2 c p = m0 c p := fun c p p1 p2 p3 => by rw [f2 c p p3, f1 c p p1 p2]
    refine hk _ _ m2 (hz.tests (j1.of hm2) (fun c p p1 p2 p3 => F c p p1 (by omega) (by omega)) ⟨?_, fun i i0 i1 => ?_⟩ (by omega) (fun q => ?_))
    · rw [f2 3 4 (by first | decide | exact fun z => absurd z.1 (by decide) | exact ⟨fun z => absurd z.1 (by decide), fun z => absurd z.1 (by decide)⟩ | omega), ye, xe, t34]
    · rw [xe] at i1
      by_cases e : i = m0 346 157
      · subst e
        rw [← t34] at xa xb xc xd ⊢
        show m2 24 (m0 3 4) = _ ∧ m2 25 (m0 3 4) = _ ∧ m2 26 (m0 3 4) = _ ∧ m2 27 (m0 3 4) = _
        rw [f2 24 _ (by first | decide | exact fun z => absurd z.1 (by decide) | exact ⟨fun z => absurd z.1 (by decide), fun z => absurd z.1 (by decide)⟩ | omega), f2 25 _ (by first | decide | exact fun z => absurd z.1 (by decide) | exact ⟨fun z => absurd z.1 (by decide), fun z => absurd z.1 (by decide)⟩ | omega), f2 26 _ (by first | decide | exact fun z => absurd z.1 (by decide) | exact ⟨fun z => absurd z.1 (by decide), fun z => absurd z.1 (by decide)⟩ | omega), f2 27 _ (by first | decide | exact fun z => absurd z.1 (by decide) | exact ⟨fun z => absurd z.1 (by decide), fun z => absurd z.1 (by decide)⟩ | omega), ya, yb, yc, yd, xa, xb, xc, xd]
        exact ⟨rfl, rfl, rfl, rfl⟩
      · have q := hz.tt.2 i i0 (by omega)
        rw [F _ i (by omega) (by omega) (by omega), F _ i (by omega) (by omega) (by omega), F _ i (by omega) (by omega) (by omega), F _ i (by omega) (by omega) (by omega), F 346 _ (by first | decide | exact fun z => absurd z.1 (by decide) | exact ⟨fun z => absurd z.1 (by decide), fun z => absurd z.1 (by decide)⟩ | omega) (by first | decide | exact fun z => absurd z.1 (by decide) | exact ⟨fun z => absurd z.1 (by decide), fun z => absurd z.1 (by decide)⟩ | omega) (by first | decide | exact fun z => absurd z.1 (by decide) | exact ⟨fun z => absurd z.1 (by decide), fun z => absurd z.1 (by decide)⟩ | omega), F 346 _ (by first | decide | exact fun z => absurd z.1 (by decide) | exact ⟨fun z => absurd z.1 (by decide), fun z => absurd z.1 (by decide)⟩ | omega) (by first | decide | exact fun z => absurd z.1 (by decide) | exact ⟨fun z => absurd z.1 (by decide), fun z => absurd z.1 (by decide)⟩ | omega) (by first | decide | exact fun z => absurd z.1 (by decide) | exact ⟨fun z => absurd z.1 (by decide), fun z => absurd z.1 (by decide)⟩ | omega), F 346 _ (by first | decide | exact fun z => absurd z.1 (by decide) | exact ⟨fun z => absurd z.1 (by decide), fun z => absurd z.1 (by decide)⟩ | omega) (by first | decide | exact fun z => absurd z.1 (by decide) | exact ⟨fun z => absurd z.1 (by decide), fun z => absurd z.1 (by decide)⟩ | omega) (by first | decide | exact fun z => absurd z.1 (by decide) | exact ⟨fun z => absurd z.1 (by decide), fun z => absurd z.1 (by decide)⟩ | omega), F 346 _ (by first | decide | exact fun z => absurd z.1 (by decide) | exact ⟨fun z => absurd z.1 (by decide), fun z => absurd z.1 (by decide)⟩ | omega) (by first | decide | exact fun z => absurd z.1 (by decide) | exact ⟨fun z => absurd z.1 (by decide), fun z => absurd z.1 (by decide)⟩ | omega) (by first | decide | exact fun z => absurd z.1 (by decide) | exact ⟨fun z => absurd z.1 (by decide), fun z => absurd z.1 (by decide)⟩ | omega)]
        exact q
    · rw [F 4 0 (by first | decide | exact fun z => absurd z.1 (by decide) | exact ⟨fun z => absurd z.1 (by decide), fun z => absurd z.1 (by decide)⟩ | omega) (by first | decide | exact fun z => absurd z.1 (by decide) | exact ⟨fun z => absurd z.1 (by decide), fun z => absurd z.1 (by decide)⟩ | omega) (by first | decide | exact fun z => absurd z.1 (by decide) | exact ⟨fun z => absurd z.1 (by decide), fun z => absurd z.1 (by decide)⟩ | omega)] at q
      exact absurd q z1
