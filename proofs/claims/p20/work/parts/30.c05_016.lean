theorem dX5_isGone_16 : decode cX5_isGone 16 = .ok (.iconst (-1), 1) := by decide +kernel
theorem dX5_isGone_17 : decode cX5_isGone 17 = .ok (.if_icmp .ne 7, 3) := by decide +kernel
theorem dX5_isGone_20 : decode cX5_isGone 20 = .ok (.iconst 1, 1) := by decide +kernel
theorem dX5_isGone_21 : decode cX5_isGone 21 = .ok (.goto 4, 3) := by decide +kernel
theorem dX5_isGone_24 : decode cX5_isGone 24 = .ok (.iconst 0, 1) := by decide +kernel
theorem dX5_isGone_25 : decode cX5_isGone 25 = .ok (.ireturn, 1) := by decide +kernel
def wp_X5_isGone (S : Sh) (M : Mm) (u0 : Int) (u1 : Int) (post : Int → Mm → Prop) : Prop := wGetR S M u0 5 5 fun v1 => wLd S M v1 14 u1 fun v3 => wC (-1) fun v5 => wIf (¬ v3 = v5) (wC 0 fun v7 => (v7 = 0 ∨ v7 = 1) ∧ post v7 M) (wGetR S M u0 5 6 fun v9 => wLd S M v9 14 u1 fun v11 => wC (-1) fun v13 => wIf (¬ v11 = v13) (wC 0 fun v15 => (v15 = 0 ∨ v15 = 1) ∧ post v15 M) (wC 1 fun v17 => (v17 = 0 ∨ v17 = 1) ∧ post v17 M))
set_option maxHeartbeats 4000000 in
set_option maxRecDepth 100000 in
theorem c_X5_isGone (l : Launch) (D : va_G) (G : Gt) (S : Sh) (M : Mm) (xl0 : Int) (zl1 : Int32) (post : Int → Mm → Prop) (h : wp_X5_isGone S M xl0 zl1.toInt post) : Met l yX5_isGone (cw_X5_isGone :: gw) RM_X5_isGone (va_Pc [.ref (adr G xl0), .int zl1] (fun U => KN D G U ∧ Wd D G S M U.heap)) (QI D G S post) 0 0 (aG G) := by
  refine Met.ofW (cc := cX5_isGone) (maxL := 2) (ret := (some .boolean)) (by decide) rfl ?_
  intro p e s m args below meth c s₁ B hml hv
  obtain ⟨rfl, hK, hP⟩ := hv
  have hx := B.exec
  have hb := B.bytes
  have hr := B.returns
  have hts := atoms_spec (ws := cw_X5_isGone :: gw) B.pre
  have hown : s.vm.findClass RX5 = some m.cls := findClass_of_methodNamed B.named
  have hlocks := B.notSynchronized
  have hS : va_S (aG G) s.heap s.heap [] := va_S.rf
  have C : Cx p s m ([.ref (adr G xl0), .int zl1] : List Value).toArray meth c D G cX5_isGone 2 (some .boolean) (cw_X5_isGone :: gw) RX5 := ⟨hx, hb, hr, hlocks, hml, hown, hts, hK⟩
  have hl := lv_entry ([.ref (adr G xl0), .int zl1]) (n := 2) (Nat.le_of_ble_eq_true rfl)
  rw [lg_entry_eq]
  generalize (lg_sl ([.ref (adr G xl0), .int zl1]) ++ List.replicate (2 - (lg_sl ([.ref (adr G xl0), .int zl1])).length) Slot.unset).toArray = ls at hl ⊢
  have hl : lv_has ls 2 [(0, .ref (adr G xl0)), (1, .int zl1)] := hl
  unfold wp_X5_isGone at h
  refine lv_aload_n hx hb dX5_isGone_0 rfl (lv_at hl 0 rfl) ?_
  refine r_getr (C := RX5) (T := TX5) (N := 9) hx hb hts (fun w h => List.mem_cons_of_mem _ (iX5 w h)) hown hK hP rfl (by decide) rfl 5 (by decide) (hts _ (List.mem_cons_of_mem _ kw_197)) (fun _ h9 => h9) dX5_isGone_1 (by decide) h (fun x2 h => ?_)
  refine lv_iload_n hx hb dX5_isGone_4 rfl (lv_at hl 1 rfl) ?_
  refine r_iald hx hb hK hP dX5_isGone_5 h (fun z4 h => ?_)
  refine r_iconst hx hb dX5_isGone_6 (by decide) h (fun z6 h => ?_)
  refine r_icmp_ne (tgt := 24) hx hb dX5_isGone_7 (by decide) h (fun h => ?_) (fun h => ?_)
  · refine r_iconst hx hb dX5_isGone_24 (by decide) h (fun z8 h => ?_)
    exact r_zret hx hb hr hlocks hP hS dX5_isGone_25 h
  · refine lv_aload_n hx hb dX5_isGone_10 rfl (lv_at hl 0 rfl) ?_
    refine r_getr (C := RX5) (T := TX5) (N := 9) hx hb hts (fun w h => List.mem_cons_of_mem _ (iX5 w h)) hown hK hP rfl (by decide) rfl 6 (by decide) (hts _ (List.mem_cons_of_mem _ kw_200)) (fun _ h9 => h9) dX5_isGone_11 (by decide) h (fun x10 h => ?_)
    refine lv_iload_n hx hb dX5_isGone_14 rfl (lv_at hl 1 rfl) ?_
    refine r_iald hx hb hK hP dX5_isGone_15 h (fun z12 h => ?_)
    refine r_iconst hx hb dX5_isGone_16 (by decide) h (fun z14 h => ?_)
    refine r_icmp_ne (tgt := 24) hx hb dX5_isGone_17 (by decide) h (fun h => ?_) (fun h => ?_)
    · refine r_iconst hx hb dX5_isGone_24 (by decide) h (fun z16 h => ?_)
      exact r_zret hx hb hr hlocks hP hS dX5_isGone_25 h
    · refine r_iconst hx hb dX5_isGone_20 (by decide) h (fun z18 h => ?_)
      refine lv_goto (tgt := 25) hx hb dX5_isGone_21 (by decide) ?_
      exact r_zret hx hb hr hlocks hP hS dX5_isGone_25 h
/-! TurningMilk.jug(II)I -/
abbrev RM_X11_jug : Room := { frames := 2, cells := 0, slots := 0, locals := 61 }
def cw_X11_jug : Cond := Cond.code yX11_jug cX11_jug 3 (Option.some FieldType.int)
theorem hd_X11_jug : yX11_jug.cls ≠ "java/lang/invoke/MethodHandle" ∧ yX11_jug.cls ≠ "java/lang/invoke/VarHandle" ∧ (parseMethodDescriptor yX11_jug.desc).map (fun d => d.parameters.length) = some 2 := by decide +kernel
theorem dX11_jug_0 : decode cX11_jug 0 = .ok (.aload_n 0, 1) := by decide +kernel
theorem dX11_jug_1 : decode cX11_jug 1 = .ok (.iload_n 1, 1) := by decide +kernel
theorem dX11_jug_2 : decode cX11_jug 2 = .ok (.invokevirtual 175, 3) := by decide +kernel
theorem dX11_jug_5 : decode cX11_jug 5 = .ok (.ifCond .ne 6, 3) := by decide +kernel
theorem dX11_jug_8 : decode cX11_jug 8 = .ok (.bipush (-2), 2) := by decide +kernel
theorem dX11_jug_10 : decode cX11_jug 10 = .ok (.ireturn, 1) := by decide +kernel
theorem dX11_jug_11 : decode cX11_jug 11 = .ok (.iload_n 2, 1) := by decide +kernel
theorem dX11_jug_12 : decode cX11_jug 12 = .ok (.tableswitch 126 0 4 #[36, 49, 62, 75, 106], 36) := by decide +kernel
theorem dX11_jug_48 : decode cX11_jug 48 = .ok (.aload_n 0, 1) := by decide +kernel
