theorem i_X11 {S : Sh} {M : Mm} {K : Sh → Mm → Prop} (s0 : Sp 1 S) (m0 : Mp 1 (fun c p => (c = 0 ∧ (p = 0 ∨ p = 1 ∨ p = 2 ∨ p = 3 ∨ p = 6 ∨ p = 8 ∨ p = 9 ∨ p = 10 ∨ p = 11 ∨ p = 12 ∨ p = 13 ∨ p = 14 ∨ p = 15))) M) (h : ∀ (S' : Sh) (M' : Mm), Sp 336 S' → Mp 336 (fun _ _ => False) M' → K S' M') : wp_X11_init S M ((0 : Nat) : Int) K := by
  unfold wp_X11_init
  refine st_new (n := 1) (ci := 7) (N' := fun c p => (c = 0 ∧ (p = 0 ∨ p = 1 ∨ p = 2 ∨ p = 3 ∨ p = 6 ∨ p = 8 ∨ p = 9 ∨ p = 10 ∨ p = 11 ∨ p = 12 ∨ p = 13 ∨ p = 14 ∨ p = 15)) ∨ (c = 1 ∧ (p = 0))) s0 m0 (fun c p h => by omega) cel_1.1 cel_1.2.1 (fun p hp => by rw [cel_1.2.2.1] at hp; rcases (show p = 0 ∨ p = 1 ∨ p = 2 ∨ p = 3 ∨ p = 4 by omega) with e | e | e | e | e <;> subst e <;> first | exact Or.inl (by omega) | exact Or.inr (by rw [ini_of cel_1.2.2.2]; rfl)) (fun S1 M1 s1 m1 => ?_)
  refine ⟨s1.k 1 (by decide) cel_1.1 rfl, ?_⟩
  unfold wp_X7_init
  refine st_newA (n := 2) (ci := 13) (l := 400) (N' := fun c p => (c = 0 ∧ (p = 0 ∨ p = 1 ∨ p = 2 ∨ p = 3 ∨ p = 6 ∨ p = 8 ∨ p = 9 ∨ p = 10 ∨ p = 11 ∨ p = 12 ∨ p = 13 ∨ p = 14 ∨ p = 15)) ∨ (c = 1 ∧ (p = 0))) s1 m1 (fun c p h => by omega) cel_2.1 cel_2.2.1 (fun p hp => Or.inr (by rw [ini_u cel_2.2.2.2]; rfl)) (fun S2 M2 s2 m2 => ?_)
  refine st_putr (N' := fun c p => (c = 0 ∧ (p = 0 ∨ p = 1 ∨ p = 2 ∨ p = 3 ∨ p = 6 ∨ p = 8 ∨ p = 9 ∨ p = 10 ∨ p = 11 ∨ p = 12 ∨ p = 13 ∨ p = 14 ∨ p = 15))) 1 0 s2 m2 rfl rfl (by decide) cel_1.1 (by rw [ini_of cel_1.2.2.2]; rfl) (by decide) (fun c p h => by omega) (fun M3 m3 => ?_)
  refine st_putr (N' := fun c p => (c = 0 ∧ (p = 1 ∨ p = 2 ∨ p = 3 ∨ p = 6 ∨ p = 8 ∨ p = 9 ∨ p = 10 ∨ p = 11 ∨ p = 12 ∨ p = 13 ∨ p = 14 ∨ p = 15))) 0 0 s2 m3 rfl rfl (by decide) cel_0.1 (by rw [ini_of cel_0.2.2.2]; rfl) (by decide) (fun c p h => by omega) (fun M4 m4 => ?_)
  have ok3 : scOK 3 := ⟨cel_3, ⟨cel_4, cel_5, cel_6, cel_7, cel_8, cel_9, cel_10, cel_11, cel_12, cel_13, cel_14, cel_15⟩, ⟨cel_16, cel_17, cel_18, cel_19, cel_20, cel_21, cel_22, cel_23⟩, cel_24, cel_25, cel_26, cel_27⟩
  refine st_new (n := 3) (N' := fun c p => ((c = 0 ∧ (p = 1 ∨ p = 2 ∨ p = 3 ∨ p = 6 ∨ p = 8 ∨ p = 9 ∨ p = 10 ∨ p = 11 ∨ p = 12 ∨ p = 13 ∨ p = 14 ∨ p = 15))) ∨ (c = ((3 : Nat) : Int) ∧ p ≤ 8 ∧ ¬ p = 3 ∧ ¬ p = 4)) s2 m4 (fun c p h => Or.inl h) ok3.1.1 ok3.1.2.1 (fun p hp => by rcases nw_sc ok3.1 p hp with z | z; exact Or.inl (by omega); exact Or.inr z) (fun S5 M5 s5 m5 => ?_)
  refine ⟨s5.k 3 (by decide) cel_3.1 rfl, ?_⟩
  refine i_X4 (u := 3) (N := fun c p => (c = 0 ∧ (p = 1 ∨ p = 2 ∨ p = 3 ∨ p = 6 ∨ p = 8 ∨ p = 9 ∨ p = 10 ∨ p = 11 ∨ p = 12 ∨ p = 13 ∨ p = 14 ∨ p = 15))) ok3 (fun c p z => by omega) s5 m5 (fun S6 M6 s6 m6 => ?_)
  refine st_putr (N' := fun c p => (c = 0 ∧ (p = 2 ∨ p = 3 ∨ p = 6 ∨ p = 8 ∨ p = 9 ∨ p = 10 ∨ p = 11 ∨ p = 12 ∨ p = 13 ∨ p = 14 ∨ p = 15))) 0 1 s6 m6 rfl rfl (by decide) cel_0.1 (by rw [ini_of cel_0.2.2.2]; rfl) (by decide) (fun c p h => by omega) (fun M7 m7 => ?_)
  refine st_newA (n := 28) (ci := 17) (l := 4) (N' := fun c p => (c = 0 ∧ (p = 2 ∨ p = 3 ∨ p = 6 ∨ p = 8 ∨ p = 9 ∨ p = 10 ∨ p = 11 ∨ p = 12 ∨ p = 13 ∨ p = 14 ∨ p = 15)) ∨ (c = 28 ∧ 0 ≤ p ∧ p ≤ 3)) s6 m7 (fun c p h => by omega) cel_28.1 cel_28.2.1 (fun p hp => Or.inl (by rw [cel_28.2.2.1] at hp; omega)) (fun S8 M8 s8 m8 => ?_)
  refine st_putr (N' := fun c p => (c = 0 ∧ (p = 3 ∨ p = 6 ∨ p = 8 ∨ p = 9 ∨ p = 10 ∨ p = 11 ∨ p = 12 ∨ p = 13 ∨ p = 14 ∨ p = 15)) ∨ (c = 28 ∧ 0 ≤ p ∧ p ≤ 3)) 0 2 s8 m8 rfl rfl (by decide) cel_0.1 (by rw [ini_of cel_0.2.2.2]; rfl) (by decide) (fun c p h => by omega) (fun M9 m9 => ?_)
  refine st_newA (n := 29) (ci := 18) (l := 20) (N' := fun c p => (c = 0 ∧ (p = 3 ∨ p = 6 ∨ p = 8 ∨ p = 9 ∨ p = 10 ∨ p = 11 ∨ p = 12 ∨ p = 13 ∨ p = 14 ∨ p = 15)) ∨ (c = 28 ∧ 0 ≤ p ∧ p ≤ 3) ∨ (c = 29 ∧ 0 ≤ p ∧ p ≤ 19)) s8 m9 (fun c p h => by omega) cel_29.1 cel_29.2.1 (fun p hp => Or.inl (by rw [cel_29.2.2.1] at hp; omega)) (fun S10 M10 s10 m10 => ?_)
  refine st_putr (N' := fun c p => (c = 0 ∧ (p = 6 ∨ p = 8 ∨ p = 9 ∨ p = 10 ∨ p = 11 ∨ p = 12 ∨ p = 13 ∨ p = 14 ∨ p = 15)) ∨ (c = 28 ∧ 0 ≤ p ∧ p ≤ 3) ∨ (c = 29 ∧ 0 ≤ p ∧ p ≤ 19)) 0 3 s10 m10 rfl rfl (by decide) cel_0.1 (by rw [ini_of cel_0.2.2.2]; rfl) (by decide) (fun c p h => by omega) (fun M11 m11 => ?_)
  refine st_newA (n := 30) (ci := 19) (l := 6) (N' := fun c p => (c = 0 ∧ (p = 6 ∨ p = 8 ∨ p = 9 ∨ p = 10 ∨ p = 11 ∨ p = 12 ∨ p = 13 ∨ p = 14 ∨ p = 15)) ∨ (c = 28 ∧ 0 ≤ p ∧ p ≤ 3) ∨ (c = 29 ∧ 0 ≤ p ∧ p ≤ 19) ∨ (c = 30 ∧ 0 ≤ p ∧ p ≤ 5)) s10 m11 (fun c p h => by omega) cel_30.1 cel_30.2.1 (fun p hp => Or.inl (by rw [cel_30.2.2.1] at hp; omega)) (fun S12 M12 s12 m12 => ?_)
  refine st_putr (N' := fun c p => (c = 0 ∧ 8 ≤ p ∧ p ≤ 15) ∨ (c = 28 ∧ 0 ≤ p ∧ p ≤ 3) ∨ (c = 29 ∧ 0 ≤ p ∧ p ≤ 19) ∨ (c = 30 ∧ 0 ≤ p ∧ p ≤ 5)) 0 6 s12 m12 rfl rfl (by decide) cel_0.1 (by rw [ini_of cel_0.2.2.2]; rfl) (by decide) (fun c p h => by omega) (fun M13 m13 => ?_)
  refine st_new (n := 31) (ci := 0) (N' := fun c p => (c = 0 ∧ 8 ≤ p ∧ p ≤ 15) ∨ (c = 28 ∧ 0 ≤ p ∧ p ≤ 3) ∨ (c = 29 ∧ 0 ≤ p ∧ p ≤ 19) ∨ (c = 30 ∧ 0 ≤ p ∧ p ≤ 5) ∨ (c = 31 ∧ 0 ≤ p ∧ p ≤ 2)) s12 m13 (fun c p h => by omega) cel_31.1 cel_31.2.1 (fun p hp => by rw [cel_31.2.2.1] at hp; rcases (show p = 0 ∨ p = 1 ∨ p = 2 by omega) with e | e | e <;> subst e <;> first | exact Or.inl (by omega) | exact Or.inr (by rw [ini_of cel_31.2.2.2]; rfl)) (fun S14 M14 s14 m14 => ?_)
  refine st_getr (v := 1) 0 0 s14 m14 rfl rfl (by decide) cel_0.1 (by rw [cel_0.2.2.1]; decide) (by omega) (by rw [ini_of cel_0.2.2.2]; rfl) (by decide) ?_
  refine ⟨s14.k 31 (by decide) cel_31.1 rfl, ?_⟩
  unfold wp_X0_init
  have ok32 : toOK 32 := ⟨cel_32, cel_33, cel_34, cel_35, cel_36, cel_37, cel_38, cel_39, cel_40, cel_41, cel_42, cel_43⟩
  refine st_new (n := 32) (N' := fun c p => ((c = 0 ∧ 8 ≤ p ∧ p ≤ 15) ∨ (c = 28 ∧ 0 ≤ p ∧ p ≤ 3) ∨ (c = 29 ∧ 0 ≤ p ∧ p ≤ 19) ∨ (c = 30 ∧ 0 ≤ p ∧ p ≤ 5) ∨ (c = 31 ∧ 0 ≤ p ∧ p ≤ 2)) ∨ (c = ((32 : Nat) : Int) ∧ 8 ≤ p ∧ p ≤ 18)) s14 m14 (fun c p h => Or.inl h) ok32.1.1 ok32.1.2.1 (fun p hp => by rcases nw_to ok32.1 p hp with z | z; exact Or.inl (by omega); exact Or.inr z) (fun S15 M15 s15 m15 => ?_)
  refine ⟨s15.k 32 (by decide) cel_32.1 rfl, ?_⟩
  refine i_X8 (u := 32) (N := fun c p => (c = 0 ∧ 8 ≤ p ∧ p ≤ 15) ∨ (c = 28 ∧ 0 ≤ p ∧ p ≤ 3) ∨ (c = 29 ∧ 0 ≤ p ∧ p ≤ 19) ∨ (c = 30 ∧ 0 ≤ p ∧ p ≤ 5) ∨ (c = 31 ∧ 0 ≤ p ∧ p ≤ 2)) ok32 s15 m15 (fun S16 M16 s16 m16 => ?_)
  refine st_putr (N' := fun c p => (c = 0 ∧ 8 ≤ p ∧ p ≤ 15) ∨ (c = 28 ∧ 0 ≤ p ∧ p ≤ 3) ∨ (c = 29 ∧ 0 ≤ p ∧ p ≤ 19) ∨ (c = 30 ∧ 0 ≤ p ∧ p ≤ 5) ∨ (c = 31 ∧ (p = 0 ∨ p = 2))) 31 1 s16 m16 rfl rfl (by decide) cel_31.1 (by rw [ini_of cel_31.2.2.2]; rfl) (by decide) (fun c p h => by omega) (fun M17 m17 => ?_)
  have ok44 : stOK 44 := ⟨cel_44, cel_45, cel_46, cel_47, cel_48, cel_49, cel_50, cel_51⟩
  refine st_new (n := 44) (N' := fun c p => ((c = 0 ∧ 8 ≤ p ∧ p ≤ 15) ∨ (c = 28 ∧ 0 ≤ p ∧ p ≤ 3) ∨ (c = 29 ∧ 0 ≤ p ∧ p ≤ 19) ∨ (c = 30 ∧ 0 ≤ p ∧ p ≤ 5) ∨ (c = 31 ∧ (p = 0 ∨ p = 2))) ∨ (c = ((44 : Nat) : Int) ∧ 2 ≤ p ∧ p ≤ 8)) s16 m17 (fun c p h => Or.inl h) ok44.1.1 ok44.1.2.1 (fun p hp => by rcases nw_st ok44.1 p hp with z | z; exact Or.inl (by omega); exact Or.inr z) (fun S18 M18 s18 m18 => ?_)
  refine ⟨s18.k 44 (by decide) cel_44.1 rfl, ?_⟩
  refine i_X5 (u := 44) (N := fun c p => (c = 0 ∧ 8 ≤ p ∧ p ≤ 15) ∨ (c = 28 ∧ 0 ≤ p ∧ p ≤ 3) ∨ (c = 29 ∧ 0 ≤ p ∧ p ≤ 19) ∨ (c = 30 ∧ 0 ≤ p ∧ p ≤ 5) ∨ (c = 31 ∧ (p = 0 ∨ p = 2))) ok44 (fun c p z => by omega) s18 m18 (fun S19 M19 s19 m19 => ?_)
  refine st_putr (N' := fun c p => (c = 0 ∧ 8 ≤ p ∧ p ≤ 15) ∨ (c = 28 ∧ 0 ≤ p ∧ p ≤ 3) ∨ (c = 29 ∧ 0 ≤ p ∧ p ≤ 19) ∨ (c = 30 ∧ 0 ≤ p ∧ p ≤ 5) ∨ (c = 31 ∧ (p = 0))) 31 2 s19 m19 rfl rfl (by decide) cel_31.1 (by rw [ini_of cel_31.2.2.2]; rfl) (by decide) (fun c p h => by omega) (fun M20 m20 => ?_)
  refine st_putr (N' := fun c p => (c = 0 ∧ 8 ≤ p ∧ p ≤ 15) ∨ (c = 28 ∧ 0 ≤ p ∧ p ≤ 3) ∨ (c = 29 ∧ 0 ≤ p ∧ p ≤ 19) ∨ (c = 30 ∧ 0 ≤ p ∧ p ≤ 5)) 31 0 s19 m20 rfl rfl (by decide) cel_31.1 (by rw [ini_of cel_31.2.2.2]; rfl) (by decide) (fun c p h => by omega) (fun M21 m21 => ?_)
  refine st_putr (N' := fun c p => (c = 0 ∧ 9 ≤ p ∧ p ≤ 15) ∨ (c = 28 ∧ 0 ≤ p ∧ p ≤ 3) ∨ (c = 29 ∧ 0 ≤ p ∧ p ≤ 19) ∨ (c = 30 ∧ 0 ≤ p ∧ p ≤ 5)) 0 8 s19 m21 rfl rfl (by decide) cel_0.1 (by rw [ini_of cel_0.2.2.2]; rfl) (by decide) (fun c p h => by omega) (fun M22 m22 => ?_)
  refine st_new (n := 52) (ci := 3) (N' := fun c p => (c = 0 ∧ 9 ≤ p ∧ p ≤ 15) ∨ (c = 28 ∧ 0 ≤ p ∧ p ≤ 3) ∨ (c = 29 ∧ 0 ≤ p ∧ p ≤ 19) ∨ (c = 30 ∧ 0 ≤ p ∧ p ≤ 5) ∨ (c = 52 ∧ (p = 0 ∨ p = 1 ∨ p = 4))) s19 m22 (fun c p h => by omega) cel_52.1 cel_52.2.1 (fun p hp => by rw [cel_52.2.2.1] at hp; rcases (show p = 0 ∨ p = 1 ∨ p = 2 ∨ p = 3 ∨ p = 4 ∨ p = 5 ∨ p = 6 ∨ p = 7 ∨ p = 8 by omega) with e | e | e | e | e | e | e | e | e <;> subst e <;> first | exact Or.inl (by omega) | exact Or.inr (by rw [ini_of cel_52.2.2.2]; rfl)) (fun S23 M23 s23 m23 => ?_)
  refine st_getr (v := 1) 0 0 s23 m23 rfl rfl (by decide) cel_0.1 (by rw [cel_0.2.2.1]; decide) (by omega) (by rw [ini_of cel_0.2.2.2]; rfl) (by decide) ?_
  refine ⟨s23.k 52 (by decide) cel_52.1 rfl, ?_⟩
  unfold wp_X3_init
  refine st_newA (n := 53) (ci := 14) (l := 400) (N' := fun c p => (c = 0 ∧ 9 ≤ p ∧ p ≤ 15) ∨ (c = 28 ∧ 0 ≤ p ∧ p ≤ 3) ∨ (c = 29 ∧ 0 ≤ p ∧ p ≤ 19) ∨ (c = 30 ∧ 0 ≤ p ∧ p ≤ 5) ∨ (c = 52 ∧ (p = 0 ∨ p = 1 ∨ p = 4))) s23 m23 (fun c p h => by omega) cel_53.1 cel_53.2.1 (fun p hp => Or.inr (by rw [ini_u cel_53.2.2.2]; rfl)) (fun S24 M24 s24 m24 => ?_)
  refine st_putr (N' := fun c p => (c = 0 ∧ 9 ≤ p ∧ p ≤ 15) ∨ (c = 28 ∧ 0 ≤ p ∧ p ≤ 3) ∨ (c = 29 ∧ 0 ≤ p ∧ p ≤ 19) ∨ (c = 30 ∧ 0 ≤ p ∧ p ≤ 5) ∨ (c = 52 ∧ (p = 0 ∨ p = 4))) 52 1 s24 m24 rfl rfl (by decide) cel_52.1 (by rw [ini_of cel_52.2.2.2]; rfl) (by decide) (fun c p h => by omega) (fun M25 m25 => ?_)
  refine st_newA (n := 54) (ci := 14) (l := 400) (N' := fun c p => (c = 0 ∧ 9 ≤ p ∧ p ≤ 15) ∨ (c = 28 ∧ 0 ≤ p ∧ p ≤ 3) ∨ (c = 29 ∧ 0 ≤ p ∧ p ≤ 19) ∨ (c = 30 ∧ 0 ≤ p ∧ p ≤ 5) ∨ (c = 52 ∧ (p = 0 ∨ p = 4))) s24 m25 (fun c p h => by omega) cel_54.1 cel_54.2.1 (fun p hp => Or.inr (by rw [ini_u cel_54.2.2.2]; rfl)) (fun S26 M26 s26 m26 => ?_)
  refine st_putr (N' := fun c p => (c = 0 ∧ 9 ≤ p ∧ p ≤ 15) ∨ (c = 28 ∧ 0 ≤ p ∧ p ≤ 3) ∨ (c = 29 ∧ 0 ≤ p ∧ p ≤ 19) ∨ (c = 30 ∧ 0 ≤ p ∧ p ≤ 5) ∨ (c = 52 ∧ (p = 0))) 52 4 s26 m26 rfl rfl (by decide) cel_52.1 (by rw [ini_of cel_52.2.2.2]; rfl) (by decide) (fun c p h => by omega) (fun M27 m27 => ?_)
  refine st_putr (N' := fun c p => (c = 0 ∧ 9 ≤ p ∧ p ≤ 15) ∨ (c = 28 ∧ 0 ≤ p ∧ p ≤ 3) ∨ (c = 29 ∧ 0 ≤ p ∧ p ≤ 19) ∨ (c = 30 ∧ 0 ≤ p ∧ p ≤ 5)) 52 0 s26 m27 rfl rfl (by decide) cel_52.1 (by rw [ini_of cel_52.2.2.2]; rfl) (by decide) (fun c p h => by omega) (fun M28 m28 => ?_)
  refine st_putr (N' := fun c p => (c = 0 ∧ 10 ≤ p ∧ p ≤ 15) ∨ (c = 28 ∧ 0 ≤ p ∧ p ≤ 3) ∨ (c = 29 ∧ 0 ≤ p ∧ p ≤ 19) ∨ (c = 30 ∧ 0 ≤ p ∧ p ≤ 5)) 0 9 s26 m28 rfl rfl (by decide) cel_0.1 (by rw [ini_of cel_0.2.2.2]; rfl) (by decide) (fun c p h => by omega) (fun M29 m29 => ?_)
  refine st_new (n := 55) (ci := 10) (N' := fun c p => (c = 0 ∧ 10 ≤ p ∧ p ≤ 15) ∨ (c = 28 ∧ 0 ≤ p ∧ p ≤ 3) ∨ (c = 29 ∧ 0 ≤ p ∧ p ≤ 19) ∨ (c = 30 ∧ 0 ≤ p ∧ p ≤ 5) ∨ (c = 55 ∧ (p = 0 ∨ p = 1 ∨ p = 3))) s26 m29 (fun c p h => by omega) cel_55.1 cel_55.2.1 (fun p hp => by rw [cel_55.2.2.1] at hp; rcases (show p = 0 ∨ p = 1 ∨ p = 2 ∨ p = 3 ∨ p = 4 ∨ p = 5 ∨ p = 6 ∨ p = 7 ∨ p = 8 ∨ p = 9 ∨ p = 10 ∨ p = 11 by omega) with e | e | e | e | e | e | e | e | e | e | e | e <;> subst e <;> first | exact Or.inl (by omega) | exact Or.inr (by rw [ini_of cel_55.2.2.2]; rfl)) (fun S30 M30 s30 m30 => ?_)
  refine st_getr (v := 3) 0 1 s30 m30 rfl rfl (by decide) cel_0.1 (by rw [cel_0.2.2.1]; decide) (by omega) (by rw [ini_of cel_0.2.2.2]; rfl) (by decide) ?_
  refine st_getr (v := 4) 3 0 s30 m30 rfl rfl (by decide) cel_3.1 (by rw [cel_3.2.2.1]; decide) (by omega) (by rw [ini_of cel_3.2.2.2]; rfl) (by decide) ?_
  refine ⟨s30.k 55 (by decide) cel_55.1 rfl, ?_⟩
  unfold wp_X10_init
  refine g_C ?_
  refine st_putr (N' := fun c p => (c = 0 ∧ 10 ≤ p ∧ p ≤ 15) ∨ (c = 28 ∧ 0 ≤ p ∧ p ≤ 3) ∨ (c = 29 ∧ 0 ≤ p ∧ p ≤ 19) ∨ (c = 30 ∧ 0 ≤ p ∧ p ≤ 5) ∨ (c = 55 ∧ (p = 0 ∨ p = 3))) 55 1 s30 m30 rfl rfl (by decide) cel_55.1 (by rw [ini_of cel_55.2.2.2]; rfl) (by decide) (fun c p h => by omega) (fun M31 m31 => ?_)
  refine st_newA (n := 56) (ci := 16) (l := 64) (N' := fun c p => (c = 0 ∧ 10 ≤ p ∧ p ≤ 15) ∨ (c = 28 ∧ 0 ≤ p ∧ p ≤ 3) ∨ (c = 29 ∧ 0 ≤ p ∧ p ≤ 19) ∨ (c = 30 ∧ 0 ≤ p ∧ p ≤ 5) ∨ (c = 55 ∧ (p = 0 ∨ p = 3))) s30 m31 (fun c p h => by omega) cel_56.1 cel_56.2.1 (fun p hp => Or.inr (by rw [ini_u cel_56.2.2.2]; rfl)) (fun S32 M32 s32 m32 => ?_)
  refine st_putr (N' := fun c p => (c = 0 ∧ 10 ≤ p ∧ p ≤ 15) ∨ (c = 28 ∧ 0 ≤ p ∧ p ≤ 3) ∨ (c = 29 ∧ 0 ≤ p ∧ p ≤ 19) ∨ (c = 30 ∧ 0 ≤ p ∧ p ≤ 5) ∨ (c = 55 ∧ (p = 0))) 55 3 s32 m32 rfl rfl (by decide) cel_55.1 (by rw [ini_of cel_55.2.2.2]; rfl) (by decide) (fun c p h => by omega) (fun M33 m33 => ?_)
  refine st_putr (N' := fun c p => (c = 0 ∧ 10 ≤ p ∧ p ≤ 15) ∨ (c = 28 ∧ 0 ≤ p ∧ p ≤ 3) ∨ (c = 29 ∧ 0 ≤ p ∧ p ≤ 19) ∨ (c = 30 ∧ 0 ≤ p ∧ p ≤ 5)) 55 0 s32 m33 rfl rfl (by decide) cel_55.1 (by rw [ini_of cel_55.2.2.2]; rfl) (by decide) (fun c p h => by omega) (fun M34 m34 => ?_)
  refine st_putr (N' := fun c p => (c = 0 ∧ 11 ≤ p ∧ p ≤ 15) ∨ (c = 28 ∧ 0 ≤ p ∧ p ≤ 3) ∨ (c = 29 ∧ 0 ≤ p ∧ p ≤ 19) ∨ (c = 30 ∧ 0 ≤ p ∧ p ≤ 5)) 0 10 s32 m34 rfl rfl (by decide) cel_0.1 (by rw [ini_of cel_0.2.2.2]; rfl) (by decide) (fun c p h => by omega) (fun M35 m35 => ?_)
  refine st_new (n := 57) (ci := 1) (N' := fun c p => (c = 0 ∧ 11 ≤ p ∧ p ≤ 15) ∨ (c = 28 ∧ 0 ≤ p ∧ p ≤ 3) ∨ (c = 29 ∧ 0 ≤ p ∧ p ≤ 19) ∨ (c = 30 ∧ 0 ≤ p ∧ p ≤ 5) ∨ (c = 57 ∧ 0 ≤ p ∧ p ≤ 1)) s32 m35 (fun c p h => by omega) cel_57.1 cel_57.2.1 (fun p hp => by rw [cel_57.2.2.1] at hp; rcases (show p = 0 ∨ p = 1 ∨ p = 2 by omega) with e | e | e <;> subst e <;> first | exact Or.inl (by omega) | exact Or.inr (by rw [ini_of cel_57.2.2.2]; rfl)) (fun S36 M36 s36 m36 => ?_)
  refine st_getr (v := 55) 0 10 s36 m36 rfl rfl (by decide) cel_0.1 (by rw [cel_0.2.2.1]; decide) (by omega) (by rw [ini_of cel_0.2.2.2]; rfl) (by decide) ?_
  refine ⟨s36.k 57 (by decide) cel_57.1 rfl, ?_⟩
  unfold wp_X1_init
  refine st_putr (N' := fun c p => (c = 0 ∧ 11 ≤ p ∧ p ≤ 15) ∨ (c = 28 ∧ 0 ≤ p ∧ p ≤ 3) ∨ (c = 29 ∧ 0 ≤ p ∧ p ≤ 19) ∨ (c = 30 ∧ 0 ≤ p ∧ p ≤ 5) ∨ (c = 57 ∧ (p = 1))) 57 0 s36 m36 rfl rfl (by decide) cel_57.1 (by rw [ini_of cel_57.2.2.2]; rfl) (by decide) (fun c p h => by omega) (fun M37 m37 => ?_)
  refine st_getr (v := 4) 55 0 s36 m37 rfl rfl (by decide) cel_55.1 (by rw [cel_55.2.2.1]; decide) (by omega) (by rw [ini_of cel_55.2.2.2]; rfl) (by decide) ?_
  refine st_putr (N' := fun c p => (c = 0 ∧ 11 ≤ p ∧ p ≤ 15) ∨ (c = 28 ∧ 0 ≤ p ∧ p ≤ 3) ∨ (c = 29 ∧ 0 ≤ p ∧ p ≤ 19) ∨ (c = 30 ∧ 0 ≤ p ∧ p ≤ 5)) 57 1 s36 m37 rfl rfl (by decide) cel_57.1 (by rw [ini_of cel_57.2.2.2]; rfl) (by decide) (fun c p h => by omega) (fun M38 m38 => ?_)
  refine st_putr (N' := fun c p => (c = 0 ∧ 12 ≤ p ∧ p ≤ 15) ∨ (c = 28 ∧ 0 ≤ p ∧ p ≤ 3) ∨ (c = 29 ∧ 0 ≤ p ∧ p ≤ 19) ∨ (c = 30 ∧ 0 ≤ p ∧ p ≤ 5)) 0 11 s36 m38 rfl rfl (by decide) cel_0.1 (by rw [ini_of cel_0.2.2.2]; rfl) (by decide) (fun c p h => by omega) (fun M39 m39 => ?_)
  refine st_new (n := 58) (ci := 2) (N' := fun c p => (c = 0 ∧ 12 ≤ p ∧ p ≤ 15) ∨ (c = 28 ∧ 0 ≤ p ∧ p ≤ 3) ∨ (c = 29 ∧ 0 ≤ p ∧ p ≤ 19) ∨ (c = 30 ∧ 0 ≤ p ∧ p ≤ 5) ∨ (c = 58 ∧ 0 ≤ p ∧ p ≤ 5)) s36 m39 (fun c p h => by omega) cel_58.1 cel_58.2.1 (fun p hp => by rw [cel_58.2.2.1] at hp; rcases (show p = 0 ∨ p = 1 ∨ p = 2 ∨ p = 3 ∨ p = 4 ∨ p = 5 ∨ p = 6 ∨ p = 7 ∨ p = 8 ∨ p = 9 ∨ p = 10 by omega) with e | e | e | e | e | e | e | e | e | e | e <;> subst e <;> first | exact Or.inl (by omega) | exact Or.inr (by rw [ini_of cel_58.2.2.2]; rfl)) (fun S40 M40 s40 m40 => ?_)
  refine st_getr (v := 55) 0 10 s40 m40 rfl rfl (by decide) cel_0.1 (by rw [cel_0.2.2.1]; decide) (by omega) (by rw [ini_of cel_0.2.2.2]; rfl) (by decide) ?_
  refine ⟨s40.k 58 (by decide) cel_58.1 rfl, ?_⟩
  unfold wp_X2_init
  refine st_newA (n := 59) (ci := 14) (l := 5) (N' := fun c p => (c = 0 ∧ 12 ≤ p ∧ p ≤ 15) ∨ (c = 28 ∧ 0 ≤ p ∧ p ≤ 3) ∨ (c = 29 ∧ 0 ≤ p ∧ p ≤ 19) ∨ (c = 30 ∧ 0 ≤ p ∧ p ≤ 5) ∨ (c = 58 ∧ 0 ≤ p ∧ p ≤ 5)) s40 m40 (fun c p h => by omega) cel_59.1 cel_59.2.1 (fun p hp => Or.inr (by rw [ini_u cel_59.2.2.2]; rfl)) (fun S41 M41 s41 m41 => ?_)
  refine st_putr (N' := fun c p => (c = 0 ∧ 12 ≤ p ∧ p ≤ 15) ∨ (c = 28 ∧ 0 ≤ p ∧ p ≤ 3) ∨ (c = 29 ∧ 0 ≤ p ∧ p ≤ 19) ∨ (c = 30 ∧ 0 ≤ p ∧ p ≤ 5) ∨ (c = 58 ∧ (p = 0 ∨ p = 1 ∨ p = 3 ∨ p = 4 ∨ p = 5))) 58 2 s41 m41 rfl rfl (by decide) cel_58.1 (by rw [ini_of cel_58.2.2.2]; rfl) (by decide) (fun c p h => by omega) (fun M42 m42 => ?_)
  refine st_newA (n := 60) (ci := 14) (l := 5) (N' := fun c p => (c = 0 ∧ 12 ≤ p ∧ p ≤ 15) ∨ (c = 28 ∧ 0 ≤ p ∧ p ≤ 3) ∨ (c = 29 ∧ 0 ≤ p ∧ p ≤ 19) ∨ (c = 30 ∧ 0 ≤ p ∧ p ≤ 5) ∨ (c = 58 ∧ (p = 0 ∨ p = 1 ∨ p = 3 ∨ p = 4 ∨ p = 5))) s41 m42 (fun c p h => by omega) cel_60.1 cel_60.2.1 (fun p hp => Or.inr (by rw [ini_u cel_60.2.2.2]; rfl)) (fun S43 M43 s43 m43 => ?_)
  refine st_putr (N' := fun c p => (c = 0 ∧ 12 ≤ p ∧ p ≤ 15) ∨ (c = 28 ∧ 0 ≤ p ∧ p ≤ 3) ∨ (c = 29 ∧ 0 ≤ p ∧ p ≤ 19) ∨ (c = 30 ∧ 0 ≤ p ∧ p ≤ 5) ∨ (c = 58 ∧ (p = 0 ∨ p = 1 ∨ p = 4 ∨ p = 5))) 58 3 s43 m43 rfl rfl (by decide) cel_58.1 (by rw [ini_of cel_58.2.2.2]; rfl) (by decide) (fun c p h => by omega) (fun M44 m44 => ?_)
  refine st_newA (n := 61) (ci := 14) (l := 6000) (N' := fun c p => (c = 0 ∧ 12 ≤ p ∧ p ≤ 15) ∨ (c = 28 ∧ 0 ≤ p ∧ p ≤ 3) ∨ (c = 29 ∧ 0 ≤ p ∧ p ≤ 19) ∨ (c = 30 ∧ 0 ≤ p ∧ p ≤ 5) ∨ (c = 58 ∧ (p = 0 ∨ p = 1 ∨ p = 4 ∨ p = 5))) s43 m44 (fun c p h => by omega) cel_61.1 cel_61.2.1 (fun p hp => Or.inr (by rw [ini_u cel_61.2.2.2]; rfl)) (fun S45 M45 s45 m45 => ?_)
  refine st_putr (N' := fun c p => (c = 0 ∧ 12 ≤ p ∧ p ≤ 15) ∨ (c = 28 ∧ 0 ≤ p ∧ p ≤ 3) ∨ (c = 29 ∧ 0 ≤ p ∧ p ≤ 19) ∨ (c = 30 ∧ 0 ≤ p ∧ p ≤ 5) ∨ (c = 58 ∧ (p = 0 ∨ p = 1 ∨ p = 5))) 58 4 s45 m45 rfl rfl (by decide) cel_58.1 (by rw [ini_of cel_58.2.2.2]; rfl) (by decide) (fun c p h => by omega) (fun M46 m46 => ?_)
  refine st_newA (n := 62) (ci := 14) (l := 6000) (N' := fun c p => (c = 0 ∧ 12 ≤ p ∧ p ≤ 15) ∨ (c = 28 ∧ 0 ≤ p ∧ p ≤ 3) ∨ (c = 29 ∧ 0 ≤ p ∧ p ≤ 19) ∨ (c = 30 ∧ 0 ≤ p ∧ p ≤ 5) ∨ (c = 58 ∧ (p = 0 ∨ p = 1 ∨ p = 5))) s45 m46 (fun c p h => by omega) cel_62.1 cel_62.2.1 (fun p hp => Or.inr (by rw [ini_u cel_62.2.2.2]; rfl)) (fun S47 M47 s47 m47 => ?_)
  refine st_putr (N' := fun c p => (c = 0 ∧ 12 ≤ p ∧ p ≤ 15) ∨ (c = 28 ∧ 0 ≤ p ∧ p ≤ 3) ∨ (c = 29 ∧ 0 ≤ p ∧ p ≤ 19) ∨ (c = 30 ∧ 0 ≤ p ∧ p ≤ 5) ∨ (c = 58 ∧ 0 ≤ p ∧ p ≤ 1)) 58 5 s47 m47 rfl rfl (by decide) cel_58.1 (by rw [ini_of cel_58.2.2.2]; rfl) (by decide) (fun c p h => by omega) (fun M48 m48 => ?_)
  refine st_putr (N' := fun c p => (c = 0 ∧ 12 ≤ p ∧ p ≤ 15) ∨ (c = 28 ∧ 0 ≤ p ∧ p ≤ 3) ∨ (c = 29 ∧ 0 ≤ p ∧ p ≤ 19) ∨ (c = 30 ∧ 0 ≤ p ∧ p ≤ 5) ∨ (c = 58 ∧ (p = 1))) 58 0 s47 m48 rfl rfl (by decide) cel_58.1 (by rw [ini_of cel_58.2.2.2]; rfl) (by decide) (fun c p h => by omega) (fun M49 m49 => ?_)
  refine st_getr (v := 4) 55 0 s47 m49 rfl rfl (by decide) cel_55.1 (by rw [cel_55.2.2.1]; decide) (by omega) (by rw [ini_of cel_55.2.2.2]; rfl) (by decide) ?_
  refine st_putr (N' := fun c p => (c = 0 ∧ 12 ≤ p ∧ p ≤ 15) ∨ (c = 28 ∧ 0 ≤ p ∧ p ≤ 3) ∨ (c = 29 ∧ 0 ≤ p ∧ p ≤ 19) ∨ (c = 30 ∧ 0 ≤ p ∧ p ≤ 5)) 58 1 s47 m49 rfl rfl (by decide) cel_58.1 (by rw [ini_of cel_58.2.2.2]; rfl) (by decide) (fun c p h => by omega) (fun M50 m50 => ?_)
  refine st_putr (N' := fun c p => (c = 0 ∧ 13 ≤ p ∧ p ≤ 15) ∨ (c = 28 ∧ 0 ≤ p ∧ p ≤ 3) ∨ (c = 29 ∧ 0 ≤ p ∧ p ≤ 19) ∨ (c = 30 ∧ 0 ≤ p ∧ p ≤ 5)) 0 12 s47 m50 rfl rfl (by decide) cel_0.1 (by rw [ini_of cel_0.2.2.2]; rfl) (by decide) (fun c p h => by omega) (fun M51 m51 => ?_)
  refine st_new (n := 63) (ci := 6) (N' := fun c p => (c = 0 ∧ 13 ≤ p ∧ p ≤ 15) ∨ (c = 28 ∧ 0 ≤ p ∧ p ≤ 3) ∨ (c = 29 ∧ 0 ≤ p ∧ p ≤ 19) ∨ (c = 30 ∧ 0 ≤ p ∧ p ≤ 5) ∨ (c = 63 ∧ 0 ≤ p ∧ p ≤ 2)) s47 m51 (fun c p h => by omega) cel_63.1 cel_63.2.1 (fun p hp => by rw [cel_63.2.2.1] at hp; rcases (show p = 0 ∨ p = 1 ∨ p = 2 by omega) with e | e | e <;> subst e <;> first | exact Or.inl (by omega) | exact Or.inr (by rw [ini_of cel_63.2.2.2]; rfl)) (fun S52 M52 s52 m52 => ?_)
  refine st_getr (v := 3) 0 1 s52 m52 rfl rfl (by decide) cel_0.1 (by rw [cel_0.2.2.1]; decide) (by omega) (by rw [ini_of cel_0.2.2.2]; rfl) (by decide) ?_
  refine st_getr (v := 4) 3 0 s52 m52 rfl rfl (by decide) cel_3.1 (by rw [cel_3.2.2.1]; decide) (by omega) (by rw [ini_of cel_3.2.2.2]; rfl) (by decide) ?_
  refine ⟨s52.k 63 (by decide) cel_63.1 rfl, ?_⟩
  unfold wp_X6_init
  refine st_newA (n := 64) (ci := 14) (l := 112) (N' := fun c p => (c = 0 ∧ 13 ≤ p ∧ p ≤ 15) ∨ (c = 28 ∧ 0 ≤ p ∧ p ≤ 3) ∨ (c = 29 ∧ 0 ≤ p ∧ p ≤ 19) ∨ (c = 30 ∧ 0 ≤ p ∧ p ≤ 5) ∨ (c = 63 ∧ 0 ≤ p ∧ p ≤ 2)) s52 m52 (fun c p h => by omega) cel_64.1 cel_64.2.1 (fun p hp => Or.inr (by rw [ini_u cel_64.2.2.2]; rfl)) (fun S53 M53 s53 m53 => ?_)
  refine st_putr (N' := fun c p => (c = 0 ∧ 13 ≤ p ∧ p ≤ 15) ∨ (c = 28 ∧ 0 ≤ p ∧ p ≤ 3) ∨ (c = 29 ∧ 0 ≤ p ∧ p ≤ 19) ∨ (c = 30 ∧ 0 ≤ p ∧ p ≤ 5) ∨ (c = 63 ∧ (p = 0 ∨ p = 2))) 63 1 s53 m53 rfl rfl (by decide) cel_63.1 (by rw [ini_of cel_63.2.2.2]; rfl) (by decide) (fun c p h => by omega) (fun M54 m54 => ?_)
  refine st_newA (n := 65) (ci := 14) (l := 3913) (N' := fun c p => (c = 0 ∧ 13 ≤ p ∧ p ≤ 15) ∨ (c = 28 ∧ 0 ≤ p ∧ p ≤ 3) ∨ (c = 29 ∧ 0 ≤ p ∧ p ≤ 19) ∨ (c = 30 ∧ 0 ≤ p ∧ p ≤ 5) ∨ (c = 63 ∧ (p = 0 ∨ p = 2))) s53 m54 (fun c p h => by omega) cel_65.1 cel_65.2.1 (fun p hp => Or.inr (by rw [ini_u cel_65.2.2.2]; rfl)) (fun S55 M55 s55 m55 => ?_)
  refine st_putr (N' := fun c p => (c = 0 ∧ 13 ≤ p ∧ p ≤ 15) ∨ (c = 28 ∧ 0 ≤ p ∧ p ≤ 3) ∨ (c = 29 ∧ 0 ≤ p ∧ p ≤ 19) ∨ (c = 30 ∧ 0 ≤ p ∧ p ≤ 5) ∨ (c = 63 ∧ (p = 0))) 63 2 s55 m55 rfl rfl (by decide) cel_63.1 (by rw [ini_of cel_63.2.2.2]; rfl) (by decide) (fun c p h => by omega) (fun M56 m56 => ?_)
  refine st_putr (N' := fun c p => (c = 0 ∧ 13 ≤ p ∧ p ≤ 15) ∨ (c = 28 ∧ 0 ≤ p ∧ p ≤ 3) ∨ (c = 29 ∧ 0 ≤ p ∧ p ≤ 19) ∨ (c = 30 ∧ 0 ≤ p ∧ p ≤ 5)) 63 0 s55 m56 rfl rfl (by decide) cel_63.1 (by rw [ini_of cel_63.2.2.2]; rfl) (by decide) (fun c p h => by omega) (fun M57 m57 => ?_)
  refine st_putr (N' := fun c p => (c = 0 ∧ 14 ≤ p ∧ p ≤ 15) ∨ (c = 28 ∧ 0 ≤ p ∧ p ≤ 3) ∨ (c = 29 ∧ 0 ≤ p ∧ p ≤ 19) ∨ (c = 30 ∧ 0 ≤ p ∧ p ≤ 5)) 0 13 s55 m57 rfl rfl (by decide) cel_0.1 (by rw [ini_of cel_0.2.2.2]; rfl) (by decide) (fun c p h => by omega) (fun M58 m58 => ?_)
  refine st_new (n := 66) (ci := 9) (N' := fun c p => (c = 0 ∧ 14 ≤ p ∧ p ≤ 15) ∨ (c = 28 ∧ 0 ≤ p ∧ p ≤ 3) ∨ (c = 29 ∧ 0 ≤ p ∧ p ≤ 19) ∨ (c = 30 ∧ 0 ≤ p ∧ p ≤ 5) ∨ (c = 66 ∧ 0 ≤ p ∧ p ≤ 2)) s55 m58 (fun c p h => by omega) cel_66.1 cel_66.2.1 (fun p hp => by rw [cel_66.2.2.1] at hp; rcases (show p = 0 ∨ p = 1 ∨ p = 2 ∨ p = 3 ∨ p = 4 by omega) with e | e | e | e | e <;> subst e <;> first | exact Or.inl (by omega) | exact Or.inr (by rw [ini_of cel_66.2.2.2]; rfl)) (fun S59 M59 s59 m59 => ?_)
  refine st_getr (v := 3) 0 1 s59 m59 rfl rfl (by decide) cel_0.1 (by rw [cel_0.2.2.1]; decide) (by omega) (by rw [ini_of cel_0.2.2.2]; rfl) (by decide) ?_
  refine st_getr (v := 55) 0 10 s59 m59 rfl rfl (by decide) cel_0.1 (by rw [cel_0.2.2.1]; decide) (by omega) (by rw [ini_of cel_0.2.2.2]; rfl) (by decide) ?_
  refine ⟨s59.k 66 (by decide) cel_66.1 rfl, ?_⟩
  unfold wp_X9_init
  refine st_newA (n := 67) (ci := 14) (l := 100) (N' := fun c p => (c = 0 ∧ 14 ≤ p ∧ p ≤ 15) ∨ (c = 28 ∧ 0 ≤ p ∧ p ≤ 3) ∨ (c = 29 ∧ 0 ≤ p ∧ p ≤ 19) ∨ (c = 30 ∧ 0 ≤ p ∧ p ≤ 5) ∨ (c = 66 ∧ 0 ≤ p ∧ p ≤ 2)) s59 m59 (fun c p h => by omega) cel_67.1 cel_67.2.1 (fun p hp => Or.inr (by rw [ini_u cel_67.2.2.2]; rfl)) (fun S60 M60 s60 m60 => ?_)
  refine st_putr (N' := fun c p => (c = 0 ∧ 14 ≤ p ∧ p ≤ 15) ∨ (c = 28 ∧ 0 ≤ p ∧ p ≤ 3) ∨ (c = 29 ∧ 0 ≤ p ∧ p ≤ 19) ∨ (c = 30 ∧ 0 ≤ p ∧ p ≤ 5) ∨ (c = 66 ∧ 0 ≤ p ∧ p ≤ 1)) 66 2 s60 m60 rfl rfl (by decide) cel_66.1 (by rw [ini_of cel_66.2.2.2]; rfl) (by decide) (fun c p h => by omega) (fun M61 m61 => ?_)
  refine st_putr (N' := fun c p => (c = 0 ∧ 14 ≤ p ∧ p ≤ 15) ∨ (c = 28 ∧ 0 ≤ p ∧ p ≤ 3) ∨ (c = 29 ∧ 0 ≤ p ∧ p ≤ 19) ∨ (c = 30 ∧ 0 ≤ p ∧ p ≤ 5) ∨ (c = 66 ∧ (p = 1))) 66 0 s60 m61 rfl rfl (by decide) cel_66.1 (by rw [ini_of cel_66.2.2.2]; rfl) (by decide) (fun c p h => by omega) (fun M62 m62 => ?_)
  refine st_putr (N' := fun c p => (c = 0 ∧ 14 ≤ p ∧ p ≤ 15) ∨ (c = 28 ∧ 0 ≤ p ∧ p ≤ 3) ∨ (c = 29 ∧ 0 ≤ p ∧ p ≤ 19) ∨ (c = 30 ∧ 0 ≤ p ∧ p ≤ 5)) 66 1 s60 m62 rfl rfl (by decide) cel_66.1 (by rw [ini_of cel_66.2.2.2]; rfl) (by decide) (fun c p h => by omega) (fun M63 m63 => ?_)
  refine st_putr (N' := fun c p => (c = 0 ∧ (p = 15)) ∨ (c = 28 ∧ 0 ≤ p ∧ p ≤ 3) ∨ (c = 29 ∧ 0 ≤ p ∧ p ≤ 19) ∨ (c = 30 ∧ 0 ≤ p ∧ p ≤ 5)) 0 14 s60 m63 rfl rfl (by decide) cel_0.1 (by rw [ini_of cel_0.2.2.2]; rfl) (by decide) (fun c p h => by omega) (fun M64 m64 => ?_)
  have ok68 : stOK 68 := ⟨cel_68, cel_69, cel_70, cel_71, cel_72, cel_73, cel_74, cel_75⟩
  refine st_new (n := 68) (N' := fun c p => ((c = 0 ∧ (p = 15)) ∨ (c = 28 ∧ 0 ≤ p ∧ p ≤ 3) ∨ (c = 29 ∧ 0 ≤ p ∧ p ≤ 19) ∨ (c = 30 ∧ 0 ≤ p ∧ p ≤ 5)) ∨ (c = ((68 : Nat) : Int) ∧ 2 ≤ p ∧ p ≤ 8)) s60 m64 (fun c p h => Or.inl h) ok68.1.1 ok68.1.2.1 (fun p hp => by rcases nw_st ok68.1 p hp with z | z; exact Or.inl (by omega); exact Or.inr z) (fun S65 M65 s65 m65 => ?_)
  refine ⟨s65.k 68 (by decide) cel_68.1 rfl, ?_⟩
  refine i_X5 (u := 68) (N := fun c p => (c = 0 ∧ (p = 15)) ∨ (c = 28 ∧ 0 ≤ p ∧ p ≤ 3) ∨ (c = 29 ∧ 0 ≤ p ∧ p ≤ 19) ∨ (c = 30 ∧ 0 ≤ p ∧ p ≤ 5)) ok68 (fun c p z => by omega) s65 m65 (fun S66 M66 s66 m66 => ?_)
  refine st_putr (N' := fun c p => (c = 28 ∧ 0 ≤ p ∧ p ≤ 3) ∨ (c = 29 ∧ 0 ≤ p ∧ p ≤ 19) ∨ (c = 30 ∧ 0 ≤ p ∧ p ≤ 5)) 0 15 s66 m66 rfl rfl (by decide) cel_0.1 (by rw [ini_of cel_0.2.2.2]; rfl) (by decide) (fun c p h => by omega) (fun M67 m67 => ?_)
  refine st_getr (v := 28) 0 2 s66 m67 rfl rfl (by decide) cel_0.1 (by rw [cel_0.2.2.1]; decide) (by omega) (by rw [ini_of cel_0.2.2.2]; rfl) (by decide) ?_
  have ok76 : scOK 76 := ⟨cel_76, ⟨cel_77, cel_78, cel_79, cel_80, cel_81, cel_82, cel_83, cel_84, cel_85, cel_86, cel_87, cel_88⟩, ⟨cel_89, cel_90, cel_91, cel_92, cel_93, cel_94, cel_95, cel_96⟩, cel_97, cel_98, cel_99, cel_100⟩
  refine st_new (n := 76) (N' := fun c p => ((c = 28 ∧ 0 ≤ p ∧ p ≤ 3) ∨ (c = 29 ∧ 0 ≤ p ∧ p ≤ 19) ∨ (c = 30 ∧ 0 ≤ p ∧ p ≤ 5)) ∨ (c = ((76 : Nat) : Int) ∧ p ≤ 8 ∧ ¬ p = 3 ∧ ¬ p = 4)) s66 m67 (fun c p h => Or.inl h) ok76.1.1 ok76.1.2.1 (fun p hp => by rcases nw_sc ok76.1 p hp with z | z; exact Or.inl (by omega); exact Or.inr z) (fun S68 M68 s68 m68 => ?_)
  refine ⟨s68.k 76 (by decide) cel_76.1 rfl, ?_⟩
  refine i_X4 (u := 76) (N := fun c p => (c = 28 ∧ 0 ≤ p ∧ p ≤ 3) ∨ (c = 29 ∧ 0 ≤ p ∧ p ≤ 19) ∨ (c = 30 ∧ 0 ≤ p ∧ p ≤ 5)) ok76 (fun c p z => by omega) s68 m68 (fun S69 M69 s69 m69 => ?_)
  refine st_str (N' := fun c p => (c = 28 ∧ 1 ≤ p ∧ p ≤ 3) ∨ (c = 29 ∧ 0 ≤ p ∧ p ≤ 19) ∨ (c = 30 ∧ 0 ≤ p ∧ p ≤ 5)) 28 0 76 s69 m69 rfl rfl (by decide) cel_28.1 (by rw [cel_28.2.1]; decide) rfl (by decide) cel_76.1 (by rw [ini_of cel_28.2.2.2]; rfl) (fun c p h => by omega) (fun M70 m70 => ?_)
  refine st_getr (v := 28) 0 2 s69 m70 rfl rfl (by decide) cel_0.1 (by rw [cel_0.2.2.1]; decide) (by omega) (by rw [ini_of cel_0.2.2.2]; rfl) (by decide) ?_
  have ok101 : scOK 101 := ⟨cel_101, ⟨cel_102, cel_103, cel_104, cel_105, cel_106, cel_107, cel_108, cel_109, cel_110, cel_111, cel_112, cel_113⟩, ⟨cel_114, cel_115, cel_116, cel_117, cel_118, cel_119, cel_120, cel_121⟩, cel_122, cel_123, cel_124, cel_125⟩
  refine st_new (n := 101) (N' := fun c p => ((c = 28 ∧ 1 ≤ p ∧ p ≤ 3) ∨ (c = 29 ∧ 0 ≤ p ∧ p ≤ 19) ∨ (c = 30 ∧ 0 ≤ p ∧ p ≤ 5)) ∨ (c = ((101 : Nat) : Int) ∧ p ≤ 8 ∧ ¬ p = 3 ∧ ¬ p = 4)) s69 m70 (fun c p h => Or.inl h) ok101.1.1 ok101.1.2.1 (fun p hp => by rcases nw_sc ok101.1 p hp with z | z; exact Or.inl (by omega); exact Or.inr z) (fun S71 M71 s71 m71 => ?_)
  refine ⟨s71.k 101 (by decide) cel_101.1 rfl, ?_⟩
  refine i_X4 (u := 101) (N := fun c p => (c = 28 ∧ 1 ≤ p ∧ p ≤ 3) ∨ (c = 29 ∧ 0 ≤ p ∧ p ≤ 19) ∨ (c = 30 ∧ 0 ≤ p ∧ p ≤ 5)) ok101 (fun c p z => by omega) s71 m71 (fun S72 M72 s72 m72 => ?_)
  refine st_str (N' := fun c p => (c = 28 ∧ 2 ≤ p ∧ p ≤ 3) ∨ (c = 29 ∧ 0 ≤ p ∧ p ≤ 19) ∨ (c = 30 ∧ 0 ≤ p ∧ p ≤ 5)) 28 1 101 s72 m72 rfl rfl (by decide) cel_28.1 (by rw [cel_28.2.1]; decide) rfl (by decide) cel_101.1 (by rw [ini_of cel_28.2.2.2]; rfl) (fun c p h => by omega) (fun M73 m73 => ?_)
  refine st_getr (v := 28) 0 2 s72 m73 rfl rfl (by decide) cel_0.1 (by rw [cel_0.2.2.1]; decide) (by omega) (by rw [ini_of cel_0.2.2.2]; rfl) (by decide) ?_
  have ok126 : scOK 126 := ⟨cel_126, ⟨cel_127, cel_128, cel_129, cel_130, cel_131, cel_132, cel_133, cel_134, cel_135, cel_136, cel_137, cel_138⟩, ⟨cel_139, cel_140, cel_141, cel_142, cel_143, cel_144, cel_145, cel_146⟩, cel_147, cel_148, cel_149, cel_150⟩
  refine st_new (n := 126) (N' := fun c p => ((c = 28 ∧ 2 ≤ p ∧ p ≤ 3) ∨ (c = 29 ∧ 0 ≤ p ∧ p ≤ 19) ∨ (c = 30 ∧ 0 ≤ p ∧ p ≤ 5)) ∨ (c = ((126 : Nat) : Int) ∧ p ≤ 8 ∧ ¬ p = 3 ∧ ¬ p = 4)) s72 m73 (fun c p h => Or.inl h) ok126.1.1 ok126.1.2.1 (fun p hp => by rcases nw_sc ok126.1 p hp with z | z; exact Or.inl (by omega); exact Or.inr z) (fun S74 M74 s74 m74 => ?_)
  refine ⟨s74.k 126 (by decide) cel_126.1 rfl, ?_⟩
  refine i_X4 (u := 126) (N := fun c p => (c = 28 ∧ 2 ≤ p ∧ p ≤ 3) ∨ (c = 29 ∧ 0 ≤ p ∧ p ≤ 19) ∨ (c = 30 ∧ 0 ≤ p ∧ p ≤ 5)) ok126 (fun c p z => by omega) s74 m74 (fun S75 M75 s75 m75 => ?_)
  refine st_str (N' := fun c p => (c = 28 ∧ (p = 3)) ∨ (c = 29 ∧ 0 ≤ p ∧ p ≤ 19) ∨ (c = 30 ∧ 0 ≤ p ∧ p ≤ 5)) 28 2 126 s75 m75 rfl rfl (by decide) cel_28.1 (by rw [cel_28.2.1]; decide) rfl (by decide) cel_126.1 (by rw [ini_of cel_28.2.2.2]; rfl) (fun c p h => by omega) (fun M76 m76 => ?_)
  refine st_getr (v := 28) 0 2 s75 m76 rfl rfl (by decide) cel_0.1 (by rw [cel_0.2.2.1]; decide) (by omega) (by rw [ini_of cel_0.2.2.2]; rfl) (by decide) ?_
  have ok151 : scOK 151 := ⟨cel_151, ⟨cel_152, cel_153, cel_154, cel_155, cel_156, cel_157, cel_158, cel_159, cel_160, cel_161, cel_162, cel_163⟩, ⟨cel_164, cel_165, cel_166, cel_167, cel_168, cel_169, cel_170, cel_171⟩, cel_172, cel_173, cel_174, cel_175⟩
  refine st_new (n := 151) (N' := fun c p => ((c = 28 ∧ (p = 3)) ∨ (c = 29 ∧ 0 ≤ p ∧ p ≤ 19) ∨ (c = 30 ∧ 0 ≤ p ∧ p ≤ 5)) ∨ (c = ((151 : Nat) : Int) ∧ p ≤ 8 ∧ ¬ p = 3 ∧ ¬ p = 4)) s75 m76 (fun c p h => Or.inl h) ok151.1.1 ok151.1.2.1 (fun p hp => by rcases nw_sc ok151.1 p hp with z | z; exact Or.inl (by omega); exact Or.inr z) (fun S77 M77 s77 m77 => ?_)
  refine ⟨s77.k 151 (by decide) cel_151.1 rfl, ?_⟩
  refine i_X4 (u := 151) (N := fun c p => (c = 28 ∧ (p = 3)) ∨ (c = 29 ∧ 0 ≤ p ∧ p ≤ 19) ∨ (c = 30 ∧ 0 ≤ p ∧ p ≤ 5)) ok151 (fun c p z => by omega) s77 m77 (fun S78 M78 s78 m78 => ?_)
  refine st_str (N' := fun c p => (c = 29 ∧ 0 ≤ p ∧ p ≤ 19) ∨ (c = 30 ∧ 0 ≤ p ∧ p ≤ 5)) 28 3 151 s78 m78 rfl rfl (by decide) cel_28.1 (by rw [cel_28.2.1]; decide) rfl (by decide) cel_151.1 (by rw [ini_of cel_28.2.2.2]; rfl) (fun c p h => by omega) (fun M79 m79 => ?_)
  refine st_getr (v := 30) 0 6 s78 m79 rfl rfl (by decide) cel_0.1 (by rw [cel_0.2.2.1]; decide) (by omega) (by rw [ini_of cel_0.2.2.2]; rfl) (by decide) ?_
  refine g_C ?_
  refine st_st19 (N' := fun c p => (c = 29 ∧ 0 ≤ p ∧ p ≤ 19) ∨ (c = 30 ∧ 1 ≤ p ∧ p ≤ 5)) 30 0 s78 m79 rfl rfl (by decide) cel_30.1 (by rw [cel_30.2.1]; decide) (by rw [ini_u cel_30.2.2.2]) (fun c p h => by omega) (fun M80 m80 => ?_)
  refine st_getr (v := 30) 0 6 s78 m80 rfl rfl (by decide) cel_0.1 (by rw [cel_0.2.2.1]; decide) (by omega) (by rw [ini_of cel_0.2.2.2]; rfl) (by decide) ?_
  refine g_C ?_
  refine st_st19 (N' := fun c p => (c = 29 ∧ 0 ≤ p ∧ p ≤ 19) ∨ (c = 30 ∧ 2 ≤ p ∧ p ≤ 5)) 30 1 s78 m80 rfl rfl (by decide) cel_30.1 (by rw [cel_30.2.1]; decide) (by rw [ini_u cel_30.2.2.2]) (fun c p h => by omega) (fun M81 m81 => ?_)
  refine st_getr (v := 30) 0 6 s78 m81 rfl rfl (by decide) cel_0.1 (by rw [cel_0.2.2.1]; decide) (by omega) (by rw [ini_of cel_0.2.2.2]; rfl) (by decide) ?_
  refine g_C ?_
  refine st_st19 (N' := fun c p => (c = 29 ∧ 0 ≤ p ∧ p ≤ 19) ∨ (c = 30 ∧ 3 ≤ p ∧ p ≤ 5)) 30 2 s78 m81 rfl rfl (by decide) cel_30.1 (by rw [cel_30.2.1]; decide) (by rw [ini_u cel_30.2.2.2]) (fun c p h => by omega) (fun M82 m82 => ?_)
  refine st_getr (v := 30) 0 6 s78 m82 rfl rfl (by decide) cel_0.1 (by rw [cel_0.2.2.1]; decide) (by omega) (by rw [ini_of cel_0.2.2.2]; rfl) (by decide) ?_
  refine g_C ?_
  refine st_st19 (N' := fun c p => (c = 29 ∧ 0 ≤ p ∧ p ≤ 19) ∨ (c = 30 ∧ 4 ≤ p ∧ p ≤ 5)) 30 3 s78 m82 rfl rfl (by decide) cel_30.1 (by rw [cel_30.2.1]; decide) (by rw [ini_u cel_30.2.2.2]) (fun c p h => by omega) (fun M83 m83 => ?_)
  refine st_getr (v := 30) 0 6 s78 m83 rfl rfl (by decide) cel_0.1 (by rw [cel_0.2.2.1]; decide) (by omega) (by rw [ini_of cel_0.2.2.2]; rfl) (by decide) ?_
  refine g_C ?_
  refine st_st19 (N' := fun c p => (c = 29 ∧ 0 ≤ p ∧ p ≤ 19) ∨ (c = 30 ∧ (p = 5))) 30 4 s78 m83 rfl rfl (by decide) cel_30.1 (by rw [cel_30.2.1]; decide) (by rw [ini_u cel_30.2.2.2]) (fun c p h => by omega) (fun M84 m84 => ?_)
  refine st_getr (v := 30) 0 6 s78 m84 rfl rfl (by decide) cel_0.1 (by rw [cel_0.2.2.1]; decide) (by omega) (by rw [ini_of cel_0.2.2.2]; rfl) (by decide) ?_
  refine g_C ?_
  refine st_st19 (N' := fun c p => (c = 29 ∧ 0 ≤ p ∧ p ≤ 19)) 30 5 s78 m84 rfl rfl (by decide) cel_30.1 (by rw [cel_30.2.1]; decide) (by rw [ini_u cel_30.2.2.2]) (fun c p h => by omega) (fun M85 m85 => ?_)
  refine st_getr (v := 29) 0 3 s78 m85 rfl rfl (by decide) cel_0.1 (by rw [cel_0.2.2.1]; decide) (by omega) (by rw [ini_of cel_0.2.2.2]; rfl) (by decide) ?_
  have ok176 : stOK 176 := ⟨cel_176, cel_177, cel_178, cel_179, cel_180, cel_181, cel_182, cel_183⟩
  refine st_new (n := 176) (N' := fun c p => ((c = 29 ∧ 0 ≤ p ∧ p ≤ 19)) ∨ (c = ((176 : Nat) : Int) ∧ 2 ≤ p ∧ p ≤ 8)) s78 m85 (fun c p h => Or.inl h) ok176.1.1 ok176.1.2.1 (fun p hp => by rcases nw_st ok176.1 p hp with z | z; exact Or.inl (by omega); exact Or.inr z) (fun S86 M86 s86 m86 => ?_)
  refine ⟨s86.k 176 (by decide) cel_176.1 rfl, ?_⟩
  refine i_X5 (u := 176) (N := fun c p => (c = 29 ∧ 0 ≤ p ∧ p ≤ 19)) ok176 (fun c p z => by omega) s86 m86 (fun S87 M87 s87 m87 => ?_)
  refine st_str (N' := fun c p => (c = 29 ∧ 1 ≤ p ∧ p ≤ 19)) 29 0 176 s87 m87 rfl rfl (by decide) cel_29.1 (by rw [cel_29.2.1]; decide) rfl (by decide) cel_176.1 (by rw [ini_of cel_29.2.2.2]; rfl) (fun c p h => by omega) (fun M88 m88 => ?_)
  refine st_getr (v := 29) 0 3 s87 m88 rfl rfl (by decide) cel_0.1 (by rw [cel_0.2.2.1]; decide) (by omega) (by rw [ini_of cel_0.2.2.2]; rfl) (by decide) ?_
  have ok184 : stOK 184 := ⟨cel_184, cel_185, cel_186, cel_187, cel_188, cel_189, cel_190, cel_191⟩
  refine st_new (n := 184) (N' := fun c p => ((c = 29 ∧ 1 ≤ p ∧ p ≤ 19)) ∨ (c = ((184 : Nat) : Int) ∧ 2 ≤ p ∧ p ≤ 8)) s87 m88 (fun c p h => Or.inl h) ok184.1.1 ok184.1.2.1 (fun p hp => by rcases nw_st ok184.1 p hp with z | z; exact Or.inl (by omega); exact Or.inr z) (fun S89 M89 s89 m89 => ?_)
  refine ⟨s89.k 184 (by decide) cel_184.1 rfl, ?_⟩
  refine i_X5 (u := 184) (N := fun c p => (c = 29 ∧ 1 ≤ p ∧ p ≤ 19)) ok184 (fun c p z => by omega) s89 m89 (fun S90 M90 s90 m90 => ?_)
  refine st_str (N' := fun c p => (c = 29 ∧ 2 ≤ p ∧ p ≤ 19)) 29 1 184 s90 m90 rfl rfl (by decide) cel_29.1 (by rw [cel_29.2.1]; decide) rfl (by decide) cel_184.1 (by rw [ini_of cel_29.2.2.2]; rfl) (fun c p h => by omega) (fun M91 m91 => ?_)
  refine st_getr (v := 29) 0 3 s90 m91 rfl rfl (by decide) cel_0.1 (by rw [cel_0.2.2.1]; decide) (by omega) (by rw [ini_of cel_0.2.2.2]; rfl) (by decide) ?_
  have ok192 : stOK 192 := ⟨cel_192, cel_193, cel_194, cel_195, cel_196, cel_197, cel_198, cel_199⟩
  refine st_new (n := 192) (N' := fun c p => ((c = 29 ∧ 2 ≤ p ∧ p ≤ 19)) ∨ (c = ((192 : Nat) : Int) ∧ 2 ≤ p ∧ p ≤ 8)) s90 m91 (fun c p h => Or.inl h) ok192.1.1 ok192.1.2.1 (fun p hp => by rcases nw_st ok192.1 p hp with z | z; exact Or.inl (by omega); exact Or.inr z) (fun S92 M92 s92 m92 => ?_)
  refine ⟨s92.k 192 (by decide) cel_192.1 rfl, ?_⟩
  refine i_X5 (u := 192) (N := fun c p => (c = 29 ∧ 2 ≤ p ∧ p ≤ 19)) ok192 (fun c p z => by omega) s92 m92 (fun S93 M93 s93 m93 => ?_)
  refine st_str (N' := fun c p => (c = 29 ∧ 3 ≤ p ∧ p ≤ 19)) 29 2 192 s93 m93 rfl rfl (by decide) cel_29.1 (by rw [cel_29.2.1]; decide) rfl (by decide) cel_192.1 (by rw [ini_of cel_29.2.2.2]; rfl) (fun c p h => by omega) (fun M94 m94 => ?_)
  refine st_getr (v := 29) 0 3 s93 m94 rfl rfl (by decide) cel_0.1 (by rw [cel_0.2.2.1]; decide) (by omega) (by rw [ini_of cel_0.2.2.2]; rfl) (by decide) ?_
  have ok200 : stOK 200 := ⟨cel_200, cel_201, cel_202, cel_203, cel_204, cel_205, cel_206, cel_207⟩
  refine st_new (n := 200) (N' := fun c p => ((c = 29 ∧ 3 ≤ p ∧ p ≤ 19)) ∨ (c = ((200 : Nat) : Int) ∧ 2 ≤ p ∧ p ≤ 8)) s93 m94 (fun c p h => Or.inl h) ok200.1.1 ok200.1.2.1 (fun p hp => by rcases nw_st ok200.1 p hp with z | z; exact Or.inl (by omega); exact Or.inr z) (fun S95 M95 s95 m95 => ?_)
  refine ⟨s95.k 200 (by decide) cel_200.1 rfl, ?_⟩
  refine i_X5 (u := 200) (N := fun c p => (c = 29 ∧ 3 ≤ p ∧ p ≤ 19)) ok200 (fun c p z => by omega) s95 m95 (fun S96 M96 s96 m96 => ?_)
  refine st_str (N' := fun c p => (c = 29 ∧ 4 ≤ p ∧ p ≤ 19)) 29 3 200 s96 m96 rfl rfl (by decide) cel_29.1 (by rw [cel_29.2.1]; decide) rfl (by decide) cel_200.1 (by rw [ini_of cel_29.2.2.2]; rfl) (fun c p h => by omega) (fun M97 m97 => ?_)
  refine st_getr (v := 29) 0 3 s96 m97 rfl rfl (by decide) cel_0.1 (by rw [cel_0.2.2.1]; decide) (by omega) (by rw [ini_of cel_0.2.2.2]; rfl) (by decide) ?_
  have ok208 : stOK 208 := ⟨cel_208, cel_209, cel_210, cel_211, cel_212, cel_213, cel_214, cel_215⟩
  refine st_new (n := 208) (N' := fun c p => ((c = 29 ∧ 4 ≤ p ∧ p ≤ 19)) ∨ (c = ((208 : Nat) : Int) ∧ 2 ≤ p ∧ p ≤ 8)) s96 m97 (fun c p h => Or.inl h) ok208.1.1 ok208.1.2.1 (fun p hp => by rcases nw_st ok208.1 p hp with z | z; exact Or.inl (by omega); exact Or.inr z) (fun S98 M98 s98 m98 => ?_)
  refine ⟨s98.k 208 (by decide) cel_208.1 rfl, ?_⟩
  refine i_X5 (u := 208) (N := fun c p => (c = 29 ∧ 4 ≤ p ∧ p ≤ 19)) ok208 (fun c p z => by omega) s98 m98 (fun S99 M99 s99 m99 => ?_)
  refine st_str (N' := fun c p => (c = 29 ∧ 5 ≤ p ∧ p ≤ 19)) 29 4 208 s99 m99 rfl rfl (by decide) cel_29.1 (by rw [cel_29.2.1]; decide) rfl (by decide) cel_208.1 (by rw [ini_of cel_29.2.2.2]; rfl) (fun c p h => by omega) (fun M100 m100 => ?_)
  refine st_getr (v := 29) 0 3 s99 m100 rfl rfl (by decide) cel_0.1 (by rw [cel_0.2.2.1]; decide) (by omega) (by rw [ini_of cel_0.2.2.2]; rfl) (by decide) ?_
  have ok216 : stOK 216 := ⟨cel_216, cel_217, cel_218, cel_219, cel_220, cel_221, cel_222, cel_223⟩
  refine st_new (n := 216) (N' := fun c p => ((c = 29 ∧ 5 ≤ p ∧ p ≤ 19)) ∨ (c = ((216 : Nat) : Int) ∧ 2 ≤ p ∧ p ≤ 8)) s99 m100 (fun c p h => Or.inl h) ok216.1.1 ok216.1.2.1 (fun p hp => by rcases nw_st ok216.1 p hp with z | z; exact Or.inl (by omega); exact Or.inr z) (fun S101 M101 s101 m101 => ?_)
  refine ⟨s101.k 216 (by decide) cel_216.1 rfl, ?_⟩
  refine i_X5 (u := 216) (N := fun c p => (c = 29 ∧ 5 ≤ p ∧ p ≤ 19)) ok216 (fun c p z => by omega) s101 m101 (fun S102 M102 s102 m102 => ?_)
  refine st_str (N' := fun c p => (c = 29 ∧ 6 ≤ p ∧ p ≤ 19)) 29 5 216 s102 m102 rfl rfl (by decide) cel_29.1 (by rw [cel_29.2.1]; decide) rfl (by decide) cel_216.1 (by rw [ini_of cel_29.2.2.2]; rfl) (fun c p h => by omega) (fun M103 m103 => ?_)
  refine st_getr (v := 29) 0 3 s102 m103 rfl rfl (by decide) cel_0.1 (by rw [cel_0.2.2.1]; decide) (by omega) (by rw [ini_of cel_0.2.2.2]; rfl) (by decide) ?_
  have ok224 : stOK 224 := ⟨cel_224, cel_225, cel_226, cel_227, cel_228, cel_229, cel_230, cel_231⟩
  refine st_new (n := 224) (N' := fun c p => ((c = 29 ∧ 6 ≤ p ∧ p ≤ 19)) ∨ (c = ((224 : Nat) : Int) ∧ 2 ≤ p ∧ p ≤ 8)) s102 m103 (fun c p h => Or.inl h) ok224.1.1 ok224.1.2.1 (fun p hp => by rcases nw_st ok224.1 p hp with z | z; exact Or.inl (by omega); exact Or.inr z) (fun S104 M104 s104 m104 => ?_)
  refine ⟨s104.k 224 (by decide) cel_224.1 rfl, ?_⟩
  refine i_X5 (u := 224) (N := fun c p => (c = 29 ∧ 6 ≤ p ∧ p ≤ 19)) ok224 (fun c p z => by omega) s104 m104 (fun S105 M105 s105 m105 => ?_)
  refine st_str (N' := fun c p => (c = 29 ∧ 7 ≤ p ∧ p ≤ 19)) 29 6 224 s105 m105 rfl rfl (by decide) cel_29.1 (by rw [cel_29.2.1]; decide) rfl (by decide) cel_224.1 (by rw [ini_of cel_29.2.2.2]; rfl) (fun c p h => by omega) (fun M106 m106 => ?_)
  refine st_getr (v := 29) 0 3 s105 m106 rfl rfl (by decide) cel_0.1 (by rw [cel_0.2.2.1]; decide) (by omega) (by rw [ini_of cel_0.2.2.2]; rfl) (by decide) ?_
  have ok232 : stOK 232 := ⟨cel_232, cel_233, cel_234, cel_235, cel_236, cel_237, cel_238, cel_239⟩
  refine st_new (n := 232) (N' := fun c p => ((c = 29 ∧ 7 ≤ p ∧ p ≤ 19)) ∨ (c = ((232 : Nat) : Int) ∧ 2 ≤ p ∧ p ≤ 8)) s105 m106 (fun c p h => Or.inl h) ok232.1.1 ok232.1.2.1 (fun p hp => by rcases nw_st ok232.1 p hp with z | z; exact Or.inl (by omega); exact Or.inr z) (fun S107 M107 s107 m107 => ?_)
  refine ⟨s107.k 232 (by decide) cel_232.1 rfl, ?_⟩
  refine i_X5 (u := 232) (N := fun c p => (c = 29 ∧ 7 ≤ p ∧ p ≤ 19)) ok232 (fun c p z => by omega) s107 m107 (fun S108 M108 s108 m108 => ?_)
  refine st_str (N' := fun c p => (c = 29 ∧ 8 ≤ p ∧ p ≤ 19)) 29 7 232 s108 m108 rfl rfl (by decide) cel_29.1 (by rw [cel_29.2.1]; decide) rfl (by decide) cel_232.1 (by rw [ini_of cel_29.2.2.2]; rfl) (fun c p h => by omega) (fun M109 m109 => ?_)
  refine st_getr (v := 29) 0 3 s108 m109 rfl rfl (by decide) cel_0.1 (by rw [cel_0.2.2.1]; decide) (by omega) (by rw [ini_of cel_0.2.2.2]; rfl) (by decide) ?_
  have ok240 : stOK 240 := ⟨cel_240, cel_241, cel_242, cel_243, cel_244, cel_245, cel_246, cel_247⟩
  refine st_new (n := 240) (N' := fun c p => ((c = 29 ∧ 8 ≤ p ∧ p ≤ 19)) ∨ (c = ((240 : Nat) : Int) ∧ 2 ≤ p ∧ p ≤ 8)) s108 m109 (fun c p h => Or.inl h) ok240.1.1 ok240.1.2.1 (fun p hp => by rcases nw_st ok240.1 p hp with z | z; exact Or.inl (by omega); exact Or.inr z) (fun S110 M110 s110 m110 => ?_)
  refine ⟨s110.k 240 (by decide) cel_240.1 rfl, ?_⟩
  refine i_X5 (u := 240) (N := fun c p => (c = 29 ∧ 8 ≤ p ∧ p ≤ 19)) ok240 (fun c p z => by omega) s110 m110 (fun S111 M111 s111 m111 => ?_)
  refine st_str (N' := fun c p => (c = 29 ∧ 9 ≤ p ∧ p ≤ 19)) 29 8 240 s111 m111 rfl rfl (by decide) cel_29.1 (by rw [cel_29.2.1]; decide) rfl (by decide) cel_240.1 (by rw [ini_of cel_29.2.2.2]; rfl) (fun c p h => by omega) (fun M112 m112 => ?_)
  refine st_getr (v := 29) 0 3 s111 m112 rfl rfl (by decide) cel_0.1 (by rw [cel_0.2.2.1]; decide) (by omega) (by rw [ini_of cel_0.2.2.2]; rfl) (by decide) ?_
  have ok248 : stOK 248 := ⟨cel_248, cel_249, cel_250, cel_251, cel_252, cel_253, cel_254, cel_255⟩
  refine st_new (n := 248) (N' := fun c p => ((c = 29 ∧ 9 ≤ p ∧ p ≤ 19)) ∨ (c = ((248 : Nat) : Int) ∧ 2 ≤ p ∧ p ≤ 8)) s111 m112 (fun c p h => Or.inl h) ok248.1.1 ok248.1.2.1 (fun p hp => by rcases nw_st ok248.1 p hp with z | z; exact Or.inl (by omega); exact Or.inr z) (fun S113 M113 s113 m113 => ?_)
  refine ⟨s113.k 248 (by decide) cel_248.1 rfl, ?_⟩
  refine i_X5 (u := 248) (N := fun c p => (c = 29 ∧ 9 ≤ p ∧ p ≤ 19)) ok248 (fun c p z => by omega) s113 m113 (fun S114 M114 s114 m114 => ?_)
  refine st_str (N' := fun c p => (c = 29 ∧ 10 ≤ p ∧ p ≤ 19)) 29 9 248 s114 m114 rfl rfl (by decide) cel_29.1 (by rw [cel_29.2.1]; decide) rfl (by decide) cel_248.1 (by rw [ini_of cel_29.2.2.2]; rfl) (fun c p h => by omega) (fun M115 m115 => ?_)
  refine st_getr (v := 29) 0 3 s114 m115 rfl rfl (by decide) cel_0.1 (by rw [cel_0.2.2.1]; decide) (by omega) (by rw [ini_of cel_0.2.2.2]; rfl) (by decide) ?_
  have ok256 : stOK 256 := ⟨cel_256, cel_257, cel_258, cel_259, cel_260, cel_261, cel_262, cel_263⟩
  refine st_new (n := 256) (N' := fun c p => ((c = 29 ∧ 10 ≤ p ∧ p ≤ 19)) ∨ (c = ((256 : Nat) : Int) ∧ 2 ≤ p ∧ p ≤ 8)) s114 m115 (fun c p h => Or.inl h) ok256.1.1 ok256.1.2.1 (fun p hp => by rcases nw_st ok256.1 p hp with z | z; exact Or.inl (by omega); exact Or.inr z) (fun S116 M116 s116 m116 => ?_)
  refine ⟨s116.k 256 (by decide) cel_256.1 rfl, ?_⟩
  refine i_X5 (u := 256) (N := fun c p => (c = 29 ∧ 10 ≤ p ∧ p ≤ 19)) ok256 (fun c p z => by omega) s116 m116 (fun S117 M117 s117 m117 => ?_)
  refine st_str (N' := fun c p => (c = 29 ∧ 11 ≤ p ∧ p ≤ 19)) 29 10 256 s117 m117 rfl rfl (by decide) cel_29.1 (by rw [cel_29.2.1]; decide) rfl (by decide) cel_256.1 (by rw [ini_of cel_29.2.2.2]; rfl) (fun c p h => by omega) (fun M118 m118 => ?_)
  refine st_getr (v := 29) 0 3 s117 m118 rfl rfl (by decide) cel_0.1 (by rw [cel_0.2.2.1]; decide) (by omega) (by rw [ini_of cel_0.2.2.2]; rfl) (by decide) ?_
  have ok264 : stOK 264 := ⟨cel_264, cel_265, cel_266, cel_267, cel_268, cel_269, cel_270, cel_271⟩
  refine st_new (n := 264) (N' := fun c p => ((c = 29 ∧ 11 ≤ p ∧ p ≤ 19)) ∨ (c = ((264 : Nat) : Int) ∧ 2 ≤ p ∧ p ≤ 8)) s117 m118 (fun c p h => Or.inl h) ok264.1.1 ok264.1.2.1 (fun p hp => by rcases nw_st ok264.1 p hp with z | z; exact Or.inl (by omega); exact Or.inr z) (fun S119 M119 s119 m119 => ?_)
  refine ⟨s119.k 264 (by decide) cel_264.1 rfl, ?_⟩
  refine i_X5 (u := 264) (N := fun c p => (c = 29 ∧ 11 ≤ p ∧ p ≤ 19)) ok264 (fun c p z => by omega) s119 m119 (fun S120 M120 s120 m120 => ?_)
  refine st_str (N' := fun c p => (c = 29 ∧ 12 ≤ p ∧ p ≤ 19)) 29 11 264 s120 m120 rfl rfl (by decide) cel_29.1 (by rw [cel_29.2.1]; decide) rfl (by decide) cel_264.1 (by rw [ini_of cel_29.2.2.2]; rfl) (fun c p h => by omega) (fun M121 m121 => ?_)
  refine st_getr (v := 29) 0 3 s120 m121 rfl rfl (by decide) cel_0.1 (by rw [cel_0.2.2.1]; decide) (by omega) (by rw [ini_of cel_0.2.2.2]; rfl) (by decide) ?_
  have ok272 : stOK 272 := ⟨cel_272, cel_273, cel_274, cel_275, cel_276, cel_277, cel_278, cel_279⟩
  refine st_new (n := 272) (N' := fun c p => ((c = 29 ∧ 12 ≤ p ∧ p ≤ 19)) ∨ (c = ((272 : Nat) : Int) ∧ 2 ≤ p ∧ p ≤ 8)) s120 m121 (fun c p h => Or.inl h) ok272.1.1 ok272.1.2.1 (fun p hp => by rcases nw_st ok272.1 p hp with z | z; exact Or.inl (by omega); exact Or.inr z) (fun S122 M122 s122 m122 => ?_)
  refine ⟨s122.k 272 (by decide) cel_272.1 rfl, ?_⟩
  refine i_X5 (u := 272) (N := fun c p => (c = 29 ∧ 12 ≤ p ∧ p ≤ 19)) ok272 (fun c p z => by omega) s122 m122 (fun S123 M123 s123 m123 => ?_)
  refine st_str (N' := fun c p => (c = 29 ∧ 13 ≤ p ∧ p ≤ 19)) 29 12 272 s123 m123 rfl rfl (by decide) cel_29.1 (by rw [cel_29.2.1]; decide) rfl (by decide) cel_272.1 (by rw [ini_of cel_29.2.2.2]; rfl) (fun c p h => by omega) (fun M124 m124 => ?_)
  refine st_getr (v := 29) 0 3 s123 m124 rfl rfl (by decide) cel_0.1 (by rw [cel_0.2.2.1]; decide) (by omega) (by rw [ini_of cel_0.2.2.2]; rfl) (by decide) ?_
  have ok280 : stOK 280 := ⟨cel_280, cel_281, cel_282, cel_283, cel_284, cel_285, cel_286, cel_287⟩
  refine st_new (n := 280) (N' := fun c p => ((c = 29 ∧ 13 ≤ p ∧ p ≤ 19)) ∨ (c = ((280 : Nat) : Int) ∧ 2 ≤ p ∧ p ≤ 8)) s123 m124 (fun c p h => Or.inl h) ok280.1.1 ok280.1.2.1 (fun p hp => by rcases nw_st ok280.1 p hp with z | z; exact Or.inl (by omega); exact Or.inr z) (fun S125 M125 s125 m125 => ?_)
  refine ⟨s125.k 280 (by decide) cel_280.1 rfl, ?_⟩
  refine i_X5 (u := 280) (N := fun c p => (c = 29 ∧ 13 ≤ p ∧ p ≤ 19)) ok280 (fun c p z => by omega) s125 m125 (fun S126 M126 s126 m126 => ?_)
  refine st_str (N' := fun c p => (c = 29 ∧ 14 ≤ p ∧ p ≤ 19)) 29 13 280 s126 m126 rfl rfl (by decide) cel_29.1 (by rw [cel_29.2.1]; decide) rfl (by decide) cel_280.1 (by rw [ini_of cel_29.2.2.2]; rfl) (fun c p h => by omega) (fun M127 m127 => ?_)
  refine st_getr (v := 29) 0 3 s126 m127 rfl rfl (by decide) cel_0.1 (by rw [cel_0.2.2.1]; decide) (by omega) (by rw [ini_of cel_0.2.2.2]; rfl) (by decide) ?_
  have ok288 : stOK 288 := ⟨cel_288, cel_289, cel_290, cel_291, cel_292, cel_293, cel_294, cel_295⟩
  refine st_new (n := 288) (N' := fun c p => ((c = 29 ∧ 14 ≤ p ∧ p ≤ 19)) ∨ (c = ((288 : Nat) : Int) ∧ 2 ≤ p ∧ p ≤ 8)) s126 m127 (fun c p h => Or.inl h) ok288.1.1 ok288.1.2.1 (fun p hp => by rcases nw_st ok288.1 p hp with z | z; exact Or.inl (by omega); exact Or.inr z) (fun S128 M128 s128 m128 => ?_)
  refine ⟨s128.k 288 (by decide) cel_288.1 rfl, ?_⟩
  refine i_X5 (u := 288) (N := fun c p => (c = 29 ∧ 14 ≤ p ∧ p ≤ 19)) ok288 (fun c p z => by omega) s128 m128 (fun S129 M129 s129 m129 => ?_)
  refine st_str (N' := fun c p => (c = 29 ∧ 15 ≤ p ∧ p ≤ 19)) 29 14 288 s129 m129 rfl rfl (by decide) cel_29.1 (by rw [cel_29.2.1]; decide) rfl (by decide) cel_288.1 (by rw [ini_of cel_29.2.2.2]; rfl) (fun c p h => by omega) (fun M130 m130 => ?_)
  refine st_getr (v := 29) 0 3 s129 m130 rfl rfl (by decide) cel_0.1 (by rw [cel_0.2.2.1]; decide) (by omega) (by rw [ini_of cel_0.2.2.2]; rfl) (by decide) ?_
  have ok296 : stOK 296 := ⟨cel_296, cel_297, cel_298, cel_299, cel_300, cel_301, cel_302, cel_303⟩
  refine st_new (n := 296) (N' := fun c p => ((c = 29 ∧ 15 ≤ p ∧ p ≤ 19)) ∨ (c = ((296 : Nat) : Int) ∧ 2 ≤ p ∧ p ≤ 8)) s129 m130 (fun c p h => Or.inl h) ok296.1.1 ok296.1.2.1 (fun p hp => by rcases nw_st ok296.1 p hp with z | z; exact Or.inl (by omega); exact Or.inr z) (fun S131 M131 s131 m131 => ?_)
  refine ⟨s131.k 296 (by decide) cel_296.1 rfl, ?_⟩
  refine i_X5 (u := 296) (N := fun c p => (c = 29 ∧ 15 ≤ p ∧ p ≤ 19)) ok296 (fun c p z => by omega) s131 m131 (fun S132 M132 s132 m132 => ?_)
  refine st_str (N' := fun c p => (c = 29 ∧ 16 ≤ p ∧ p ≤ 19)) 29 15 296 s132 m132 rfl rfl (by decide) cel_29.1 (by rw [cel_29.2.1]; decide) rfl (by decide) cel_296.1 (by rw [ini_of cel_29.2.2.2]; rfl) (fun c p h => by omega) (fun M133 m133 => ?_)
  refine st_getr (v := 29) 0 3 s132 m133 rfl rfl (by decide) cel_0.1 (by rw [cel_0.2.2.1]; decide) (by omega) (by rw [ini_of cel_0.2.2.2]; rfl) (by decide) ?_
  have ok304 : stOK 304 := ⟨cel_304, cel_305, cel_306, cel_307, cel_308, cel_309, cel_310, cel_311⟩
  refine st_new (n := 304) (N' := fun c p => ((c = 29 ∧ 16 ≤ p ∧ p ≤ 19)) ∨ (c = ((304 : Nat) : Int) ∧ 2 ≤ p ∧ p ≤ 8)) s132 m133 (fun c p h => Or.inl h) ok304.1.1 ok304.1.2.1 (fun p hp => by rcases nw_st ok304.1 p hp with z | z; exact Or.inl (by omega); exact Or.inr z) (fun S134 M134 s134 m134 => ?_)
  refine ⟨s134.k 304 (by decide) cel_304.1 rfl, ?_⟩
  refine i_X5 (u := 304) (N := fun c p => (c = 29 ∧ 16 ≤ p ∧ p ≤ 19)) ok304 (fun c p z => by omega) s134 m134 (fun S135 M135 s135 m135 => ?_)
  refine st_str (N' := fun c p => (c = 29 ∧ 17 ≤ p ∧ p ≤ 19)) 29 16 304 s135 m135 rfl rfl (by decide) cel_29.1 (by rw [cel_29.2.1]; decide) rfl (by decide) cel_304.1 (by rw [ini_of cel_29.2.2.2]; rfl) (fun c p h => by omega) (fun M136 m136 => ?_)
  refine st_getr (v := 29) 0 3 s135 m136 rfl rfl (by decide) cel_0.1 (by rw [cel_0.2.2.1]; decide) (by omega) (by rw [ini_of cel_0.2.2.2]; rfl) (by decide) ?_
  have ok312 : stOK 312 := ⟨cel_312, cel_313, cel_314, cel_315, cel_316, cel_317, cel_318, cel_319⟩
  refine st_new (n := 312) (N' := fun c p => ((c = 29 ∧ 17 ≤ p ∧ p ≤ 19)) ∨ (c = ((312 : Nat) : Int) ∧ 2 ≤ p ∧ p ≤ 8)) s135 m136 (fun c p h => Or.inl h) ok312.1.1 ok312.1.2.1 (fun p hp => by rcases nw_st ok312.1 p hp with z | z; exact Or.inl (by omega); exact Or.inr z) (fun S137 M137 s137 m137 => ?_)
  refine ⟨s137.k 312 (by decide) cel_312.1 rfl, ?_⟩
  refine i_X5 (u := 312) (N := fun c p => (c = 29 ∧ 17 ≤ p ∧ p ≤ 19)) ok312 (fun c p z => by omega) s137 m137 (fun S138 M138 s138 m138 => ?_)
  refine st_str (N' := fun c p => (c = 29 ∧ 18 ≤ p ∧ p ≤ 19)) 29 17 312 s138 m138 rfl rfl (by decide) cel_29.1 (by rw [cel_29.2.1]; decide) rfl (by decide) cel_312.1 (by rw [ini_of cel_29.2.2.2]; rfl) (fun c p h => by omega) (fun M139 m139 => ?_)
  refine st_getr (v := 29) 0 3 s138 m139 rfl rfl (by decide) cel_0.1 (by rw [cel_0.2.2.1]; decide) (by omega) (by rw [ini_of cel_0.2.2.2]; rfl) (by decide) ?_
  have ok320 : stOK 320 := ⟨cel_320, cel_321, cel_322, cel_323, cel_324, cel_325, cel_326, cel_327⟩
  refine st_new (n := 320) (N' := fun c p => ((c = 29 ∧ 18 ≤ p ∧ p ≤ 19)) ∨ (c = ((320 : Nat) : Int) ∧ 2 ≤ p ∧ p ≤ 8)) s138 m139 (fun c p h => Or.inl h) ok320.1.1 ok320.1.2.1 (fun p hp => by rcases nw_st ok320.1 p hp with z | z; exact Or.inl (by omega); exact Or.inr z) (fun S140 M140 s140 m140 => ?_)
  refine ⟨s140.k 320 (by decide) cel_320.1 rfl, ?_⟩
  refine i_X5 (u := 320) (N := fun c p => (c = 29 ∧ 18 ≤ p ∧ p ≤ 19)) ok320 (fun c p z => by omega) s140 m140 (fun S141 M141 s141 m141 => ?_)
  refine st_str (N' := fun c p => (c = 29 ∧ (p = 19))) 29 18 320 s141 m141 rfl rfl (by decide) cel_29.1 (by rw [cel_29.2.1]; decide) rfl (by decide) cel_320.1 (by rw [ini_of cel_29.2.2.2]; rfl) (fun c p h => by omega) (fun M142 m142 => ?_)
  refine st_getr (v := 29) 0 3 s141 m142 rfl rfl (by decide) cel_0.1 (by rw [cel_0.2.2.1]; decide) (by omega) (by rw [ini_of cel_0.2.2.2]; rfl) (by decide) ?_
  have ok328 : stOK 328 := ⟨cel_328, cel_329, cel_330, cel_331, cel_332, cel_333, cel_334, cel_335⟩
  refine st_new (n := 328) (N' := fun c p => ((c = 29 ∧ (p = 19))) ∨ (c = ((328 : Nat) : Int) ∧ 2 ≤ p ∧ p ≤ 8)) s141 m142 (fun c p h => Or.inl h) ok328.1.1 ok328.1.2.1 (fun p hp => by rcases nw_st ok328.1 p hp with z | z; exact Or.inl (by omega); exact Or.inr z) (fun S143 M143 s143 m143 => ?_)
  refine ⟨s143.k 328 (by decide) cel_328.1 rfl, ?_⟩
  refine i_X5 (u := 328) (N := fun c p => (c = 29 ∧ (p = 19))) ok328 (fun c p z => by omega) s143 m143 (fun S144 M144 s144 m144 => ?_)
  refine st_str (N' := fun c p => False) 29 19 328 s144 m144 rfl rfl (by decide) cel_29.1 (by rw [cel_29.2.1]; decide) rfl (by decide) cel_328.1 (by rw [ini_of cel_29.2.2.2]; rfl) (fun c p h => by omega) (fun M145 m145 => ?_)
  exact h _ _ s144 m145
