theorem dX11_isWant_18 : decode cX11_isWant 18 = .ok (.iconst 1, 1) := by decide +kernel
theorem dX11_isWant_19 : decode cX11_isWant 19 = .ok (.goto 4, 3) := by decide +kernel
theorem dX11_isWant_22 : decode cX11_isWant 22 = .ok (.iconst 0, 1) := by decide +kernel
theorem dX11_isWant_23 : decode cX11_isWant 23 = .ok (.ireturn, 1) := by decide +kernel
def wp_X11_isWant (S : Sh) (M : Mm) (u0 : Int) (u1 : Int) (post : Int → Mm → Prop) : Prop := wIf (u1 < 0) (wC 0 fun v1 => (v1 = 0 ∨ v1 = 1) ∧ post v1 M) (wGetR S M u0 11 1 fun v3 => wGetR S M v3 4 0 fun v5 => wGet S M v5 8 7 fun v7 => wIf (v7 ≤ u1) (wC 0 fun v9 => (v9 = 0 ∨ v9 = 1) ∧ post v9 M) (wC 1 fun v11 => (v11 = 0 ∨ v11 = 1) ∧ post v11 M))
set_option maxHeartbeats 4000000 in
set_option maxRecDepth 100000 in
theorem c_X11_isWant (l : Launch) (D : va_G) (G : Gt) (S : Sh) (M : Mm) (xl0 : Int) (zl1 : Int32) (post : Int → Mm → Prop) (h : wp_X11_isWant S M xl0 zl1.toInt post) : Met l yX11_isWant (cw_X11_isWant :: gw) RM_X11_isWant (va_Pc [.ref (adr G xl0), .int zl1] (fun U => KN D G U ∧ Wd D G S M U.heap)) (QI D G S post) 0 0 (aG G) := by
  refine Met.ofW (cc := cX11_isWant) (maxL := 2) (ret := (some .boolean)) (by decide) rfl ?_
  intro p e s m args below meth c s₁ B hml hv
  obtain ⟨rfl, hK, hP⟩ := hv
  have hx := B.exec
  have hb := B.bytes
  have hr := B.returns
  have hts := atoms_spec (ws := cw_X11_isWant :: gw) B.pre
  have hown : s.vm.findClass RX11 = some m.cls := findClass_of_methodNamed B.named
  have hlocks := B.notSynchronized
  have hS : va_S (aG G) s.heap s.heap [] := va_S.rf
  have C : Cx p s m ([.ref (adr G xl0), .int zl1] : List Value).toArray meth c D G cX11_isWant 2 (some .boolean) (cw_X11_isWant :: gw) RX11 := ⟨hx, hb, hr, hlocks, hml, hown, hts, hK⟩
  have hl := lv_entry ([.ref (adr G xl0), .int zl1]) (n := 2) (Nat.le_of_ble_eq_true rfl)
  rw [lg_entry_eq]
  generalize (lg_sl ([.ref (adr G xl0), .int zl1]) ++ List.replicate (2 - (lg_sl ([.ref (adr G xl0), .int zl1])).length) Slot.unset).toArray = ls at hl ⊢
  have hl : lv_has ls 2 [(0, .ref (adr G xl0)), (1, .int zl1)] := hl
  unfold wp_X11_isWant at h
  refine lv_iload_n hx hb dX11_isWant_0 rfl (lv_at hl 1 rfl) ?_
  refine r_if_lt (tgt := 22) hx hb dX11_isWant_1 (by decide) h (fun h => ?_) (fun h => ?_)
  · refine r_iconst hx hb dX11_isWant_22 (by decide) h (fun z2 h => ?_)
    exact r_zret hx hb hr hlocks hP hS dX11_isWant_23 h
  · refine lv_iload_n hx hb dX11_isWant_4 rfl (lv_at hl 1 rfl) ?_
    refine lv_aload_n hx hb dX11_isWant_5 rfl (lv_at hl 0 rfl) ?_
    refine r_getr (C := RX11) (T := TX11) (N := 16) hx hb hts (fun w h => List.mem_cons_of_mem _ (iX11 w h)) hown hK hP rfl (by decide) rfl 1 (by decide) (hts _ (List.mem_cons_of_mem _ kw_492)) (fun _ h9 => h9) dX11_isWant_6 (by decide) h (fun x4 h => ?_)
    refine r_getrN (C := RX4) (T := TX4) (N := 10) hx hb hts (fun w h => List.mem_cons_of_mem _ (iX4 w h)) hown hK hP rfl (by decide) rfl 0 (by decide) (nw_70 hK) (fun _ h9 => h9) dX11_isWant_9 (by decide) h (fun x6 h => ?_)
    refine r_getiN (C := RX8) (T := TX8) (N := 19) hx hb hts (fun w h => List.mem_cons_of_mem _ (iX8 w h)) hown hK hP rfl (by decide) rfl 7 (by decide) (nw_25 hK) (fun _ h9 => h9) dX11_isWant_12 (by decide) h (fun z8 h => ?_)
    refine r_icmp_ge (tgt := 22) hx hb dX11_isWant_15 (by decide) h (fun h => ?_) (fun h => ?_)
    · refine r_iconst hx hb dX11_isWant_22 (by decide) h (fun z10 h => ?_)
      exact r_zret hx hb hr hlocks hP hS dX11_isWant_23 h
    · refine r_iconst hx hb dX11_isWant_18 (by decide) h (fun z12 h => ?_)
      refine lv_goto (tgt := 23) hx hb dX11_isWant_19 (by decide) ?_
      exact r_zret hx hb hr hlocks hP hS dX11_isWant_23 h
/-! TurningMilk$Told.suits(II)Z -/
abbrev RM_X8_suits : Room := { frames := 1, cells := 0, slots := 0, locals := 40 }
def cw_X8_suits : Cond := Cond.code yX8_suits cX8_suits 3 (Option.some FieldType.boolean)
theorem hd_X8_suits : yX8_suits.cls ≠ "java/lang/invoke/MethodHandle" ∧ yX8_suits.cls ≠ "java/lang/invoke/VarHandle" ∧ (parseMethodDescriptor yX8_suits.desc).map (fun d => d.parameters.length) = some 2 := by decide +kernel
theorem dX8_suits_0 : decode cX8_suits 0 = .ok (.aload_n 0, 1) := by decide +kernel
theorem dX8_suits_1 : decode cX8_suits 1 = .ok (.getfield 36, 3) := by decide +kernel
theorem dX8_suits_4 : decode cX8_suits 4 = .ok (.iload_n 1, 1) := by decide +kernel
theorem dX8_suits_5 : decode cX8_suits 5 = .ok (.iaload, 1) := by decide +kernel
theorem dX8_suits_6 : decode cX8_suits 6 = .ok (.iload_n 2, 1) := by decide +kernel
theorem dX8_suits_7 : decode cX8_suits 7 = .ok (.if_icmp .gt 17, 3) := by decide +kernel
theorem dX8_suits_10 : decode cX8_suits 10 = .ok (.iload_n 2, 1) := by decide +kernel
theorem dX8_suits_11 : decode cX8_suits 11 = .ok (.aload_n 0, 1) := by decide +kernel
theorem dX8_suits_12 : decode cX8_suits 12 = .ok (.getfield 39, 3) := by decide +kernel
theorem dX8_suits_15 : decode cX8_suits 15 = .ok (.iload_n 1, 1) := by decide +kernel
theorem dX8_suits_16 : decode cX8_suits 16 = .ok (.iaload, 1) := by decide +kernel
