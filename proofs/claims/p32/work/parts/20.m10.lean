/-! TurningMilkModel.jugIn(II)I -/
abbrev RM_X12_jugIn : Room := { frames := 2, cells := 0, slots := 0, locals := 63 }
def cw_X12_jugIn : Cond := Cond.code yX12_jugIn cX12_jugIn 3 (Option.some FieldType.int)
theorem hd_X12_jugIn : yX12_jugIn.cls ≠ "java/lang/invoke/MethodHandle" ∧ yX12_jugIn.cls ≠ "java/lang/invoke/VarHandle" ∧ (parseMethodDescriptor yX12_jugIn.desc).map (fun d => d.parameters.length) = some 2 := by decide +kernel
theorem dX12_jugIn_0 : decode cX12_jugIn 0 = .ok (.iload_n 1, 1) := by decide +kernel
theorem dX12_jugIn_1 : decode cX12_jugIn 1 = .ok (.aload_n 0, 1) := by decide +kernel
theorem dX12_jugIn_2 : decode cX12_jugIn 2 = .ok (.getfield 39, 3) := by decide +kernel
theorem dX12_jugIn_5 : decode cX12_jugIn 5 = .ok (.iconst 5, 1) := by decide +kernel
theorem dX12_jugIn_6 : decode cX12_jugIn 6 = .ok (.iaload, 1) := by decide +kernel
theorem dX12_jugIn_7 : decode cX12_jugIn 7 = .ok (.iconst 1, 1) := by decide +kernel
theorem dX12_jugIn_8 : decode cX12_jugIn 8 = .ok (.iadd, 1) := by decide +kernel
theorem dX12_jugIn_9 : decode cX12_jugIn 9 = .ok (.aload_n 0, 1) := by decide +kernel
theorem dX12_jugIn_10 : decode cX12_jugIn 10 = .ok (.getfield 39, 3) := by decide +kernel
theorem dX12_jugIn_13 : decode cX12_jugIn 13 = .ok (.bipush 6, 2) := by decide +kernel
theorem dX12_jugIn_15 : decode cX12_jugIn 15 = .ok (.iaload, 1) := by decide +kernel
theorem dX12_jugIn_16 : decode cX12_jugIn 16 = .ok (.iconst 1, 1) := by decide +kernel
theorem dX12_jugIn_17 : decode cX12_jugIn 17 = .ok (.isub, 1) := by decide +kernel
theorem dX12_jugIn_18 : decode cX12_jugIn 18 = .ok (.iload_n 2, 1) := by decide +kernel
theorem dX12_jugIn_19 : decode cX12_jugIn 19 = .ok (.isub, 1) := by decide +kernel
theorem dX12_jugIn_20 : decode cX12_jugIn 20 = .ok (.invokestatic 401, 3) := by decide +kernel
theorem dX12_jugIn_23 : decode cX12_jugIn 23 = .ok (.idiv, 1) := by decide +kernel
theorem dX12_jugIn_24 : decode cX12_jugIn 24 = .ok (.aload_n 0, 1) := by decide +kernel
theorem dX12_jugIn_25 : decode cX12_jugIn 25 = .ok (.getfield 39, 3) := by decide +kernel
theorem dX12_jugIn_28 : decode cX12_jugIn 28 = .ok (.iconst 5, 1) := by decide +kernel
theorem dX12_jugIn_29 : decode cX12_jugIn 29 = .ok (.iaload, 1) := by decide +kernel
theorem dX12_jugIn_30 : decode cX12_jugIn 30 = .ok (.iconst 1, 1) := by decide +kernel
theorem dX12_jugIn_31 : decode cX12_jugIn 31 = .ok (.iadd, 1) := by decide +kernel
theorem dX12_jugIn_32 : decode cX12_jugIn 32 = .ok (.irem, 1) := by decide +kernel
theorem dX12_jugIn_33 : decode cX12_jugIn 33 = .ok (.iconst 1, 1) := by decide +kernel
theorem dX12_jugIn_34 : decode cX12_jugIn 34 = .ok (.isub, 1) := by decide +kernel
theorem dX12_jugIn_35 : decode cX12_jugIn 35 = .ok (.ireturn, 1) := by decide +kernel
def wp_X12_jugIn (S : Sh) (M : Mm) (u0 : Int) (u1 : Int) (u2 : Int) (post : Int → Mm → Prop) : Prop := wGetR S M u0 12 20 fun v1 => wC 5 fun v3 => wLd S M v1 14 v3 fun v5 => wC 1 fun v7 => wA v5 v7 fun v9 => wGetR S M u0 12 20 fun v11 => wC 6 fun v13 => wLd S M v11 14 v13 fun v15 => wC 1 fun v17 => wS v15 v17 fun v19 => wS v19 u2 fun v21 => wp_X12_power S M v9 v21 <| fun v24 M23 => wD iDiv u1 v24 fun v26 => wGetR S M23 u0 12 20 fun v28 => wC 5 fun v30 => wLd S M23 v28 14 v30 fun v32 => wC 1 fun v34 => wA v32 v34 fun v36 => wD iRem v26 v36 fun v38 => wC 1 fun v40 => wS v38 v40 fun v42 => post v42 M23
set_option maxHeartbeats 4000000 in
set_option maxRecDepth 100000 in
theorem c_X12_jugIn (l : Launch) (D : va_G) (G : Gt) (S : Sh) (M : Mm) (xl0 : Int) (zl1 : Int32) (zl2 : Int32) (post : Int → Mm → Prop) (h : wp_X12_jugIn S M xl0 zl1.toInt zl2.toInt post) : Met l yX12_jugIn (cw_X12_jugIn :: gw) RM_X12_jugIn (va_Pc [.ref (adr G xl0), .int zl1, .int zl2] (fun U => KN D G U ∧ Wd D G S M U.heap)) (QI D G S post) 0 0 (aG G) := by
  refine Met.ofW (cc := cX12_jugIn) (maxL := 3) (ret := (some .int)) (by decide) rfl ?_
  intro p e s m args below meth c s₁ B hml hv
  obtain ⟨rfl, hK, hP⟩ := hv
  have hx := B.exec
  have hb := B.bytes
  have hr := B.returns
  have hts := atoms_spec (ws := cw_X12_jugIn :: gw) B.pre
  have hown : s.vm.findClass RX12 = some m.cls := findClass_of_methodNamed B.named
  have hlocks := B.notSynchronized
  have hS : va_S (aG G) s.heap s.heap [] := va_S.rf
  have C : Cx p s m ([.ref (adr G xl0), .int zl1, .int zl2] : List Value).toArray meth c D G cX12_jugIn 3 (some .int) (cw_X12_jugIn :: gw) RX12 := ⟨hx, hb, hr, hlocks, hml, hown, hts, hK⟩
  have hl := lv_entry ([.ref (adr G xl0), .int zl1, .int zl2]) (n := 3) (Nat.le_of_ble_eq_true rfl)
  rw [lg_entry_eq]
  generalize (lg_sl ([.ref (adr G xl0), .int zl1, .int zl2]) ++ List.replicate (3 - (lg_sl ([.ref (adr G xl0), .int zl1, .int zl2])).length) Slot.unset).toArray = ls at hl ⊢
  have hl : lv_has ls 3 [(0, .ref (adr G xl0)), (1, .int zl1), (2, .int zl2)] := hl
  unfold wp_X12_jugIn at h
  refine lv_iload_n hx hb dX12_jugIn_0 rfl (lv_at hl 1 rfl) ?_
  refine lv_aload_n hx hb dX12_jugIn_1 rfl (lv_at hl 0 rfl) ?_
  refine r_getr (C := RX12) (T := TX12) (N := 38) hx hb hts (fun w h => List.mem_cons_of_mem _ (iX12 w h)) hown hK hP rfl (by decide) rfl 20 (by decide) (hts _ (List.mem_cons_of_mem _ kw_1354)) (fun _ h9 => h9) dX12_jugIn_2 (by decide) h (fun x2 h => ?_)
  refine r_iconst hx hb dX12_jugIn_5 (by decide) h (fun z4 h => ?_)
  refine r_iald hx hb hK hP dX12_jugIn_6 h (fun z6 h => ?_)
  refine r_iconst hx hb dX12_jugIn_7 (by decide) h (fun z8 h => ?_)
  refine r_iadd hx hb dX12_jugIn_8 h (fun z10 h => ?_)
  refine lv_aload_n hx hb dX12_jugIn_9 rfl (lv_at hl 0 rfl) ?_
  refine r_getr (C := RX12) (T := TX12) (N := 38) hx hb hts (fun w h => List.mem_cons_of_mem _ (iX12 w h)) hown hK hP rfl (by decide) rfl 20 (by decide) (hts _ (List.mem_cons_of_mem _ kw_1354)) (fun _ h9 => h9) dX12_jugIn_10 (by decide) h (fun x12 h => ?_)
  refine r_bipush hx hb dX12_jugIn_13 (by decide) h (fun z14 h => ?_)
  refine r_iald hx hb hK hP dX12_jugIn_15 h (fun z16 h => ?_)
  refine r_iconst hx hb dX12_jugIn_16 (by decide) h (fun z18 h => ?_)
  refine r_isub hx hb dX12_jugIn_17 h (fun z20 h => ?_)
  refine lv_iload_n hx hb dX12_jugIn_18 rfl (lv_at hl 2 rfl) ?_
  refine r_isub hx hb dX12_jugIn_19 h (fun z22 h => ?_)
  refine q_Si hx hb hml hown hts hK hP hS (c_X12_power l D G S _ z10 z22 _ h) ⟨callB_of 2 hts (gw_good kw_1842) rfl rfl rfl (hts _ (List.mem_cons_of_mem _ kw_14)) (hts _ (List.mem_cons_of_mem _ kw_1840)) hd_X12_power ⟨Nat.le_of_ble_eq_true rfl, Nat.le_of_ble_eq_true rfl⟩, (hts _ (List.mem_cons_of_mem _ kw_1841))⟩ rfl hl.1 rfl (lv_room (Nat.le_of_ble_eq_true rfl)) dX12_jugIn_20 ⟨Nat.zero_le _, Nat.zero_le _⟩ (fun z25 M23 H locs h hP hS => ?_)
  refine r_idiv hx hb dX12_jugIn_23 h (fun z27 h => ?_)
  refine lv_aload_n hx hb dX12_jugIn_24 rfl (lv_at hl 0 rfl) ?_
  refine r_getr (C := RX12) (T := TX12) (N := 38) hx hb hts (fun w h => List.mem_cons_of_mem _ (iX12 w h)) hown hK hP rfl (by decide) rfl 20 (by decide) (hts _ (List.mem_cons_of_mem _ kw_1354)) (fun _ h9 => h9) dX12_jugIn_25 (by decide) h (fun x29 h => ?_)
  refine r_iconst hx hb dX12_jugIn_28 (by decide) h (fun z31 h => ?_)
  refine r_iald hx hb hK hP dX12_jugIn_29 h (fun z33 h => ?_)
  refine r_iconst hx hb dX12_jugIn_30 (by decide) h (fun z35 h => ?_)
  refine r_iadd hx hb dX12_jugIn_31 h (fun z37 h => ?_)
  refine r_irem hx hb dX12_jugIn_32 h (fun z39 h => ?_)
  refine r_iconst hx hb dX12_jugIn_33 (by decide) h (fun z41 h => ?_)
  refine r_isub hx hb dX12_jugIn_34 h (fun z43 h => ?_)
  exact r_iret hx hb hr hlocks hP hS dX12_jugIn_35 h
/-! TurningMilkModel.isOf(II)Z -/
abbrev RM_X12_isOf : Room := { frames := 1, cells := 0, slots := 0, locals := 40 }
def cw_X12_isOf : Cond := Cond.code yX12_isOf cX12_isOf 2 (Option.some FieldType.boolean)
theorem hd_X12_isOf : yX12_isOf.cls ≠ "java/lang/invoke/MethodHandle" ∧ yX12_isOf.cls ≠ "java/lang/invoke/VarHandle" ∧ (parseMethodDescriptor yX12_isOf.desc).map (fun d => d.parameters.length) = some 2 := by decide +kernel
theorem dX12_isOf_0 : decode cX12_isOf 0 = .ok (.iload_n 0, 1) := by decide +kernel
theorem dX12_isOf_1 : decode cX12_isOf 1 = .ok (.iload_n 1, 1) := by decide +kernel
theorem dX12_isOf_2 : decode cX12_isOf 2 = .ok (.ishr, 1) := by decide +kernel
theorem dX12_isOf_3 : decode cX12_isOf 3 = .ok (.iconst 1, 1) := by decide +kernel
theorem dX12_isOf_4 : decode cX12_isOf 4 = .ok (.iand, 1) := by decide +kernel
theorem dX12_isOf_5 : decode cX12_isOf 5 = .ok (.iconst 1, 1) := by decide +kernel
theorem dX12_isOf_6 : decode cX12_isOf 6 = .ok (.if_icmp .ne 7, 3) := by decide +kernel
theorem dX12_isOf_9 : decode cX12_isOf 9 = .ok (.iconst 1, 1) := by decide +kernel
theorem dX12_isOf_10 : decode cX12_isOf 10 = .ok (.goto 4, 3) := by decide +kernel
theorem dX12_isOf_13 : decode cX12_isOf 13 = .ok (.iconst 0, 1) := by decide +kernel
theorem dX12_isOf_14 : decode cX12_isOf 14 = .ok (.ireturn, 1) := by decide +kernel
def wp_X12_isOf (S : Sh) (M : Mm) (u0 : Int) (u1 : Int) (post : Int → Mm → Prop) : Prop := wO iShr u0 u1 fun v1 => wC 1 fun v3 => wO iAnd v1 v3 fun v5 => wC 1 fun v7 => wIf (¬ v5 = v7) (wC 0 fun v9 => (v9 = 0 ∨ v9 = 1) ∧ post v9 M) (wC 1 fun v11 => (v11 = 0 ∨ v11 = 1) ∧ post v11 M)
set_option maxHeartbeats 4000000 in
set_option maxRecDepth 100000 in
theorem c_X12_isOf (l : Launch) (D : va_G) (G : Gt) (S : Sh) (M : Mm) (zl0 : Int32) (zl1 : Int32) (post : Int → Mm → Prop) (h : wp_X12_isOf S M zl0.toInt zl1.toInt post) : Met l yX12_isOf (cw_X12_isOf :: gw) RM_X12_isOf (va_Pc [.int zl0, .int zl1] (fun U => KN D G U ∧ Wd D G S M U.heap)) (QI D G S post) 0 0 (aG G) := by
  refine Met.ofW (cc := cX12_isOf) (maxL := 2) (ret := (some .boolean)) (by decide) rfl ?_
  intro p e s m args below meth c s₁ B hml hv
  obtain ⟨rfl, hK, hP⟩ := hv
  have hx := B.exec
  have hb := B.bytes
  have hr := B.returns
  have hts := atoms_spec (ws := cw_X12_isOf :: gw) B.pre
  have hown : s.vm.findClass RX12 = some m.cls := findClass_of_methodNamed B.named
  have hlocks := B.notSynchronized
  have hS : va_S (aG G) s.heap s.heap [] := va_S.rf
  have C : Cx p s m ([.int zl0, .int zl1] : List Value).toArray meth c D G cX12_isOf 2 (some .boolean) (cw_X12_isOf :: gw) RX12 := ⟨hx, hb, hr, hlocks, hml, hown, hts, hK⟩
  have hl := lv_entry ([.int zl0, .int zl1]) (n := 2) (Nat.le_of_ble_eq_true rfl)
  rw [lg_entry_eq]
  generalize (lg_sl ([.int zl0, .int zl1]) ++ List.replicate (2 - (lg_sl ([.int zl0, .int zl1])).length) Slot.unset).toArray = ls at hl ⊢
  have hl : lv_has ls 2 [(0, .int zl0), (1, .int zl1)] := hl
  unfold wp_X12_isOf at h
  refine lv_iload_n hx hb dX12_isOf_0 rfl (lv_at hl 0 rfl) ?_
  refine lv_iload_n hx hb dX12_isOf_1 rfl (lv_at hl 1 rfl) ?_
  refine r_ishr hx hb dX12_isOf_2 h (fun z2 h => ?_)
  refine r_iconst hx hb dX12_isOf_3 (by decide) h (fun z4 h => ?_)
  refine r_iand hx hb dX12_isOf_4 h (fun z6 h => ?_)
  refine r_iconst hx hb dX12_isOf_5 (by decide) h (fun z8 h => ?_)
  refine r_icmp_ne (tgt := 13) hx hb dX12_isOf_6 (by decide) h (fun h => ?_) (fun h => ?_)
  · refine r_iconst hx hb dX12_isOf_13 (by decide) h (fun z10 h => ?_)
    exact r_zret hx hb hr hlocks hP hS dX12_isOf_14 h
  · refine r_iconst hx hb dX12_isOf_9 (by decide) h (fun z12 h => ?_)
    refine lv_goto (tgt := 14) hx hb dX12_isOf_10 (by decide) ?_
    exact r_zret hx hb hr hlocks hP hS dX12_isOf_14 h
/-! TurningMilkModel.payBy(I)I -/
abbrev RM_X12_payBy : Room := { frames := 3, cells := 0, slots := 0, locals := 85 }
def cw_X12_payBy : Cond := Cond.code yX12_payBy cX12_payBy 6 (Option.some FieldType.int)
theorem hd_X12_payBy : yX12_payBy.cls ≠ "java/lang/invoke/MethodHandle" ∧ yX12_payBy.cls ≠ "java/lang/invoke/VarHandle" ∧ (parseMethodDescriptor yX12_payBy.desc).map (fun d => d.parameters.length) = some 1 := by decide +kernel
theorem dX12_payBy_0 : decode cX12_payBy 0 = .ok (.iconst 0, 1) := by decide +kernel
theorem dX12_payBy_1 : decode cX12_payBy 1 = .ok (.istore_n 2, 1) := by decide +kernel
theorem dX12_payBy_2 : decode cX12_payBy 2 = .ok (.iconst 0, 1) := by decide +kernel
theorem dX12_payBy_3 : decode cX12_payBy 3 = .ok (.istore_n 3, 1) := by decide +kernel
theorem dX12_payBy_4 : decode cX12_payBy 4 = .ok (.iconst 0, 1) := by decide +kernel
theorem dX12_payBy_5 : decode cX12_payBy 5 = .ok (.istore 4, 2) := by decide +kernel
theorem dX12_payBy_7 : decode cX12_payBy 7 = .ok (.iload 4, 2) := by decide +kernel
theorem dX12_payBy_9 : decode cX12_payBy 9 = .ok (.aload_n 0, 1) := by decide +kernel
theorem dX12_payBy_10 : decode cX12_payBy 10 = .ok (.getfield 39, 3) := by decide +kernel
theorem dX12_payBy_13 : decode cX12_payBy 13 = .ok (.bipush 6, 2) := by decide +kernel
theorem dX12_payBy_15 : decode cX12_payBy 15 = .ok (.iaload, 1) := by decide +kernel
theorem dX12_payBy_16 : decode cX12_payBy 16 = .ok (.if_icmp .ge 108, 3) := by decide +kernel
theorem dX12_payBy_19 : decode cX12_payBy 19 = .ok (.aload_n 0, 1) := by decide +kernel
theorem dX12_payBy_20 : decode cX12_payBy 20 = .ok (.iload_n 1, 1) := by decide +kernel
theorem dX12_payBy_21 : decode cX12_payBy 21 = .ok (.iload 4, 2) := by decide +kernel
theorem dX12_payBy_23 : decode cX12_payBy 23 = .ok (.invokevirtual 417, 3) := by decide +kernel
theorem dX12_payBy_26 : decode cX12_payBy 26 = .ok (.istore 5, 2) := by decide +kernel
theorem dX12_payBy_28 : decode cX12_payBy 28 = .ok (.iload 5, 2) := by decide +kernel
theorem dX12_payBy_30 : decode cX12_payBy 30 = .ok (.ifCond .ge 6, 3) := by decide +kernel
theorem dX12_payBy_33 : decode cX12_payBy 33 = .ok (.goto 85, 3) := by decide +kernel
theorem dX12_payBy_36 : decode cX12_payBy 36 = .ok (.aload_n 0, 1) := by decide +kernel
theorem dX12_payBy_37 : decode cX12_payBy 37 = .ok (.getfield 39, 3) := by decide +kernel
theorem dX12_payBy_40 : decode cX12_payBy 40 = .ok (.bipush 51, 2) := by decide +kernel
theorem dX12_payBy_42 : decode cX12_payBy 42 = .ok (.iload 4, 2) := by decide +kernel
theorem dX12_payBy_44 : decode cX12_payBy 44 = .ok (.iadd, 1) := by decide +kernel
theorem dX12_payBy_45 : decode cX12_payBy 45 = .ok (.iaload, 1) := by decide +kernel
theorem dX12_payBy_46 : decode cX12_payBy 46 = .ok (.ifCond .ge 53, 3) := by decide +kernel
theorem dX12_payBy_49 : decode cX12_payBy 49 = .ok (.aload_n 0, 1) := by decide +kernel
theorem dX12_payBy_50 : decode cX12_payBy 50 = .ok (.iload 5, 2) := by decide +kernel
theorem dX12_payBy_52 : decode cX12_payBy 52 = .ok (.iconst 3, 1) := by decide +kernel
theorem dX12_payBy_53 : decode cX12_payBy 53 = .ok (.invokevirtual 284, 3) := by decide +kernel
theorem dX12_payBy_56 : decode cX12_payBy 56 = .ok (.iconst 1, 1) := by decide +kernel
theorem dX12_payBy_57 : decode cX12_payBy 57 = .ok (.if_icmp .eq 42, 3) := by decide +kernel
theorem dX12_payBy_60 : decode cX12_payBy 60 = .ok (.iload_n 2, 1) := by decide +kernel
theorem dX12_payBy_61 : decode cX12_payBy 61 = .ok (.iload 5, 2) := by decide +kernel
theorem dX12_payBy_63 : decode cX12_payBy 63 = .ok (.invokestatic 420, 3) := by decide +kernel
theorem dX12_payBy_66 : decode cX12_payBy 66 = .ok (.ifCond .ne 33, 3) := by decide +kernel
theorem dX12_payBy_69 : decode cX12_payBy 69 = .ok (.aload_n 0, 1) := by decide +kernel
theorem dX12_payBy_70 : decode cX12_payBy 70 = .ok (.iload 5, 2) := by decide +kernel
theorem dX12_payBy_72 : decode cX12_payBy 72 = .ok (.iconst 2, 1) := by decide +kernel
theorem dX12_payBy_73 : decode cX12_payBy 73 = .ok (.invokevirtual 284, 3) := by decide +kernel
theorem dX12_payBy_76 : decode cX12_payBy 76 = .ok (.i2l, 1) := by decide +kernel
theorem dX12_payBy_77 : decode cX12_payBy 77 = .ok (.aload_n 0, 1) := by decide +kernel
theorem dX12_payBy_78 : decode cX12_payBy 78 = .ok (.iload 4, 2) := by decide +kernel
theorem dX12_payBy_80 : decode cX12_payBy 80 = .ok (.iconst 1, 1) := by decide +kernel
theorem dX12_payBy_81 : decode cX12_payBy 81 = .ok (.invokevirtual 295, 3) := by decide +kernel
theorem dX12_payBy_84 : decode cX12_payBy 84 = .ok (.i2l, 1) := by decide +kernel
theorem dX12_payBy_85 : decode cX12_payBy 85 = .ok (.aload_n 0, 1) := by decide +kernel
theorem dX12_payBy_86 : decode cX12_payBy 86 = .ok (.iload 4, 2) := by decide +kernel
theorem dX12_payBy_88 : decode cX12_payBy 88 = .ok (.iconst 2, 1) := by decide +kernel
theorem dX12_payBy_89 : decode cX12_payBy 89 = .ok (.invokevirtual 295, 3) := by decide +kernel
theorem dX12_payBy_92 : decode cX12_payBy 92 = .ok (.i2l, 1) := by decide +kernel
theorem dX12_payBy_93 : decode cX12_payBy 93 = .ok (.invokestatic 118, 3) := by decide +kernel
theorem dX12_payBy_96 : decode cX12_payBy 96 = .ok (.ifCond .ne 5, 3) := by decide +kernel
theorem dX12_payBy_99 : decode cX12_payBy 99 = .ok (.iconst (-1), 1) := by decide +kernel
theorem dX12_payBy_100 : decode cX12_payBy 100 = .ok (.ireturn, 1) := by decide +kernel
theorem dX12_payBy_101 : decode cX12_payBy 101 = .ok (.iload_n 2, 1) := by decide +kernel
theorem dX12_payBy_102 : decode cX12_payBy 102 = .ok (.iconst 1, 1) := by decide +kernel
theorem dX12_payBy_103 : decode cX12_payBy 103 = .ok (.iload 5, 2) := by decide +kernel
theorem dX12_payBy_105 : decode cX12_payBy 105 = .ok (.ishl, 1) := by decide +kernel
theorem dX12_payBy_106 : decode cX12_payBy 106 = .ok (.ior, 1) := by decide +kernel
theorem dX12_payBy_107 : decode cX12_payBy 107 = .ok (.istore_n 2, 1) := by decide +kernel
theorem dX12_payBy_108 : decode cX12_payBy 108 = .ok (.iload_n 3, 1) := by decide +kernel
theorem dX12_payBy_109 : decode cX12_payBy 109 = .ok (.aload_n 0, 1) := by decide +kernel
theorem dX12_payBy_110 : decode cX12_payBy 110 = .ok (.iload 4, 2) := by decide +kernel
theorem dX12_payBy_112 : decode cX12_payBy 112 = .ok (.iconst 3, 1) := by decide +kernel
theorem dX12_payBy_113 : decode cX12_payBy 113 = .ok (.invokevirtual 295, 3) := by decide +kernel
theorem dX12_payBy_116 : decode cX12_payBy 116 = .ok (.iadd, 1) := by decide +kernel
theorem dX12_payBy_117 : decode cX12_payBy 117 = .ok (.istore_n 3, 1) := by decide +kernel
theorem dX12_payBy_118 : decode cX12_payBy 118 = .ok (.iinc 4 1, 3) := by decide +kernel
theorem dX12_payBy_121 : decode cX12_payBy 121 = .ok (.goto (-114), 3) := by decide +kernel
theorem dX12_payBy_124 : decode cX12_payBy 124 = .ok (.iload_n 3, 1) := by decide +kernel
theorem dX12_payBy_125 : decode cX12_payBy 125 = .ok (.ireturn, 1) := by decide +kernel
def wp_X12_payBy_118 (S : Sh) (k7 : Int → Int → Int → Int → Int → Mm → Prop) (post : Int → Mm → Prop) (u0 : Int) (u1 : Int) (u2 : Int) (u3 : Int) (u4 : Int) (M : Mm) : Prop := wA u4 1 fun v1 => k7 u0 u1 u2 u3 v1 M
def wp_X12_payBy_7 (S : Sh) (post : Int → Mm → Prop) : Nat → Int → Int → Int → Int → Int → Mm → Prop
  | 0, _, _, _, _, _, _ => False
  | n + 1, u0, u1, u2, u3, u4, M => wGetR S M u0 12 20 fun v3 => wC 6 fun v5 => wLd S M v3 14 v5 fun v7 => wIf (v7 ≤ u4) (post u3 M) (isK S u0 12 ∧ (wp_X12_jugIn S M u0 u1 u4 <| fun v10 M9 => wIf (0 ≤ v10) (wGetR S M9 u0 12 20 fun v12 => wC 51 fun v14 => wA v14 u4 fun v16 => wLd S M9 v12 14 v16 fun v18 => wIf (0 ≤ v18) (wC (-1) fun v20 => post v20 M9) (wC 3 fun v22 => isK S u0 12 ∧ (wp_X12_jugOf S M9 u0 v10 v22 <| fun v25 M24 => wC 1 fun v27 => wIf (v25 = v27) (wC (-1) fun v29 => post v29 M24) (wp_X12_isOf S M24 u2 v10 <| fun v32 M31 => wIf (¬ v32 = 0) (wC (-1) fun v34 => post v34 M31) (wC 2 fun v36 => isK S u0 12 ∧ (wp_X12_jugOf S M31 u0 v10 v36 <| fun v39 M38 => wC v39 fun v41 => wC 1 fun v43 => isK S u0 12 ∧ (wp_X12_wantOf S M38 u0 u4 v43 <| fun v46 M45 => wC v46 fun v48 => wC 2 fun v50 => isK S u0 12 ∧ (wp_X12_wantOf S M45 u0 u4 v50 <| fun v53 M52 => wC v53 fun v55 => wp_X12_in S M52 v41 v48 v55 <| fun v58 M57 => wIf (¬ v58 = 0) (wC 1 fun v60 => wO iShl v60 v10 fun v62 => wO iOr u2 v62 fun v64 => wC 3 fun v66 => isK S u0 12 ∧ (wp_X12_wantOf S M57 u0 u4 v66 <| fun v69 M68 => wA u3 v69 fun v71 => wp_X12_payBy_118 S (fun a0 a1 a2 a3 a4 M => wp_X12_payBy_7 S post n a0 a1 a2 a3 a4 M) post u0 u1 v64 v71 u4 M68)) (wC (-1) fun v73 => post v73 M57))))))))) (wp_X12_payBy_118 S (fun a0 a1 a2 a3 a4 M => wp_X12_payBy_7 S post n a0 a1 a2 a3 a4 M) post u0 u1 u2 u3 u4 M9)))
def wp_X12_payBy (S : Sh) (M : Mm) (u0 : Int) (u1 : Int) (post : Int → Mm → Prop) : Prop := wC 0 fun v75 => wC 0 fun v77 => wC 0 fun v79 => ∃ n9 : Nat, wp_X12_payBy_7 S post n9 u0 u1 v75 v77 v79 M
set_option maxHeartbeats 4000000 in
set_option maxRecDepth 100000 in
theorem t_X12_payBy_118 {p : Program} {l : Launch} {e : Env} {s : State} {m : MethodId} {args : Array Value} {below : List Frame} {meth : Method} {c : Code} {D : va_G} {G : Gt} {S : Sh} {post : Int → Mm → Prop} {k7 : Int → Int → Int → Int → Int → Mm → Prop} (C : Cx p s m args meth c D G cX12_payBy 6 (some .int) (cw_X12_payBy :: gw) RX12) (hk7 : ∀ (y0 : Int) (y1 : Int32) (y2 : Int32) (y3 : Int32) (y4 : Int32) (M : Mm) (H : Heap) (locs : List Loc) (ls : Array Slot), Wd D G S M H → va_S (aG G) s.heap H locs → lv_has ls 6 [(0, .ref (adr G y0)), (1, .int y1), (2, .int y2), (3, .int y3), (4, .int y4)] → k7 y0 y1.toInt y2.toInt y3.toInt y4.toInt M → W p l e RM_X12_payBy s m args below meth c H locs 0 0 (MQ below (QI D G S post) args s 0 0 (aG G)) (F0 m 7 ls [])) : ∀ (xl0 : Int) (zl1 : Int32) (zl2 : Int32) (zl3 : Int32) (zl4 : Int32) (M : Mm) (H : Heap) (locs : List Loc) (ls : Array Slot), Wd D G S M H → va_S (aG G) s.heap H locs → lv_has ls 6 [(0, .ref (adr G xl0)), (1, .int zl1), (2, .int zl2), (3, .int zl3), (4, .int zl4)] → wp_X12_payBy_118 S k7 post xl0 zl1.toInt zl2.toInt zl3.toInt zl4.toInt  M → W p l e RM_X12_payBy s m args below meth c H locs 0 0 (MQ below (QI D G S post) args s 0 0 (aG G)) (F0 m 118 ls []) := by
  obtain ⟨hx, hb, hr, hlocks, hml, hown, hts, hK⟩ := id C
  intro xl0 zl1 zl2 zl3 zl4 M H locs ls hP hS hl h
  unfold wp_X12_payBy_118 at h
  refine r_iinc hx hb (fun z2 => [(4, .int z2), (0, .ref (adr G xl0)), (1, .int zl1), (2, .int zl2), (3, .int zl3)]) dX12_payBy_118 (by decide) hl (k := 4) rfl (by decide) (fun _ => rfl) h (fun z2 ls hl h => ?_)
  refine lv_goto (tgt := 7) hx hb dX12_payBy_121 (by decide) ?_
  exact hk7 xl0 zl1 zl2 zl3 z2 _ _ _ _ hP hS (lv_sub hl [1, 2, 3, 4, 0] rfl) h
set_option maxHeartbeats 4000000 in
set_option maxRecDepth 100000 in
theorem t_X12_payBy_7 {p : Program} {l : Launch} {e : Env} {s : State} {m : MethodId} {args : Array Value} {below : List Frame} {meth : Method} {c : Code} {D : va_G} {G : Gt} {S : Sh} {post : Int → Mm → Prop} (C : Cx p s m args meth c D G cX12_payBy 6 (some .int) (cw_X12_payBy :: gw) RX12) : ∀ (n : Nat) (xl0 : Int) (zl1 : Int32) (zl2 : Int32) (zl3 : Int32) (zl4 : Int32) (M : Mm) (H : Heap) (locs : List Loc) (ls : Array Slot), Wd D G S M H → va_S (aG G) s.heap H locs → lv_has ls 6 [(0, .ref (adr G xl0)), (1, .int zl1), (2, .int zl2), (3, .int zl3), (4, .int zl4)] → wp_X12_payBy_7 S post n xl0 zl1.toInt zl2.toInt zl3.toInt zl4.toInt  M → W p l e RM_X12_payBy s m args below meth c H locs 0 0 (MQ below (QI D G S post) args s 0 0 (aG G)) (F0 m 7 ls []) := by
  obtain ⟨hx, hb, hr, hlocks, hml, hown, hts, hK⟩ := id C
  intro n
  induction n with
  | zero => intro xl0 zl1 zl2 zl3 zl4 M H locs ls hP hS hl h; exact h.elim
  | succ n ih =>
    intro xl0 zl1 zl2 zl3 zl4 M H locs ls hP hS hl h
    unfold wp_X12_payBy_7 at h
    refine lv_iload hx hb dX12_payBy_7 (lv_at hl 4 rfl) ?_
    refine lv_aload_n hx hb dX12_payBy_9 rfl (lv_at hl 0 rfl) ?_
    refine r_getr (C := RX12) (T := TX12) (N := 38) hx hb hts (fun w h => List.mem_cons_of_mem _ (iX12 w h)) hown hK hP rfl (by decide) rfl 20 (by decide) (hts _ (List.mem_cons_of_mem _ kw_1354)) (fun _ h9 => h9) dX12_payBy_10 (by decide) h (fun x4 h => ?_)
    refine r_bipush hx hb dX12_payBy_13 (by decide) h (fun z6 h => ?_)
    refine r_iald hx hb hK hP dX12_payBy_15 h (fun z8 h => ?_)
    refine r_icmp_ge (tgt := 124) hx hb dX12_payBy_16 (by decide) h (fun h => ?_) (fun h => ?_)
    · refine lv_iload_n hx hb dX12_payBy_124 rfl (lv_at hl 3 rfl) ?_
      exact r_iret hx hb hr hlocks hP hS dX12_payBy_125 h
    · refine lv_aload_n hx hb dX12_payBy_19 rfl (lv_at hl 0 rfl) ?_
      refine lv_iload_n hx hb dX12_payBy_20 rfl (lv_at hl 1 rfl) ?_
      refine lv_iload hx hb dX12_payBy_21 (lv_at hl 4 rfl) ?_
      refine q_Vi hx hb hml hown hts hK hP hS (c_X12_jugIn l D G S _ xl0 zl1 zl4 _ h.2) ⟨callB_of 2 hts (gw_good kw_1862) rfl rfl rfl (hts _ (List.mem_cons_of_mem _ kw_14)) (hts _ (List.mem_cons_of_mem _ kw_1859)) hd_X12_jugIn ⟨Nat.le_of_ble_eq_true rfl, Nat.le_of_ble_eq_true rfl⟩, (hts _ (List.mem_cons_of_mem _ kw_1861)), (hts _ (List.mem_cons_of_mem _ kp_123))⟩ h.1 (ci := 12) rfl (by decide) rfl hl.1 rfl (lv_room (Nat.le_of_ble_eq_true rfl)) dX12_payBy_23 ⟨Nat.zero_le _, Nat.zero_le _⟩ (fun z11 M9 H locs h hP hS => ?_)
      refine lv_istore (lv' := [(5, .int z11), (0, .ref (adr G xl0)), (1, .int zl1), (2, .int zl2), (3, .int zl3), (4, .int zl4)]) hx hb dX12_payBy_26 hl (by decide) rfl (fun ls hl => ?_)
      refine lv_iload hx hb dX12_payBy_28 (lv_at hl 0 rfl) ?_
      refine r_if_ge (tgt := 36) hx hb dX12_payBy_30 (by decide) h (fun h => ?_) (fun h => ?_)
      · refine lv_aload_n hx hb dX12_payBy_36 rfl (lv_at hl 1 rfl) ?_
        refine r_getr (C := RX12) (T := TX12) (N := 38) hx hb hts (fun w h => List.mem_cons_of_mem _ (iX12 w h)) hown hK hP rfl (by decide) rfl 20 (by decide) (hts _ (List.mem_cons_of_mem _ kw_1354)) (fun _ h9 => h9) dX12_payBy_37 (by decide) h (fun x13 h => ?_)
        refine r_bipush hx hb dX12_payBy_40 (by decide) h (fun z15 h => ?_)
        refine lv_iload hx hb dX12_payBy_42 (lv_at hl 5 rfl) ?_
        refine r_iadd hx hb dX12_payBy_44 h (fun z17 h => ?_)
        refine r_iald hx hb hK hP dX12_payBy_45 h (fun z19 h => ?_)
        refine r_if_ge (tgt := 99) hx hb dX12_payBy_46 (by decide) h (fun h => ?_) (fun h => ?_)
        · refine r_iconst hx hb dX12_payBy_99 (by decide) h (fun z21 h => ?_)
          exact r_iret hx hb hr hlocks hP hS dX12_payBy_100 h
        · refine lv_aload_n hx hb dX12_payBy_49 rfl (lv_at hl 1 rfl) ?_
          refine lv_iload hx hb dX12_payBy_50 (lv_at hl 0 rfl) ?_
          refine r_iconst hx hb dX12_payBy_52 (by decide) h (fun z23 h => ?_)
          refine q_Vi hx hb hml hown hts hK hP hS (c_X12_jugOf l D G S _ xl0 z11 z23 _ h.2) ⟨callB_of 2 hts (gw_good kw_1658) rfl rfl rfl (hts _ (List.mem_cons_of_mem _ kw_14)) (hts _ (List.mem_cons_of_mem _ kw_1655)) hd_X12_jugOf ⟨Nat.le_of_ble_eq_true rfl, Nat.le_of_ble_eq_true rfl⟩, (hts _ (List.mem_cons_of_mem _ kw_1657)), (hts _ (List.mem_cons_of_mem _ kp_90))⟩ h.1 (ci := 12) rfl (by decide) rfl hl.1 rfl (lv_room (Nat.le_of_ble_eq_true rfl)) dX12_payBy_53 ⟨Nat.zero_le _, Nat.zero_le _⟩ (fun z26 M24 H locs h hP hS => ?_)
          refine r_iconst hx hb dX12_payBy_56 (by decide) h (fun z28 h => ?_)
          refine r_icmp_eq (tgt := 99) hx hb dX12_payBy_57 (by decide) h (fun h => ?_) (fun h => ?_)
          · refine r_iconst hx hb dX12_payBy_99 (by decide) h (fun z30 h => ?_)
            exact r_iret hx hb hr hlocks hP hS dX12_payBy_100 h
          · refine lv_iload_n hx hb dX12_payBy_60 rfl (lv_at hl 3 rfl) ?_
            refine lv_iload hx hb dX12_payBy_61 (lv_at hl 0 rfl) ?_
            refine q_Si hx hb hml hown hts hK hP hS (c_X12_isOf l D G S _ zl2 z11 _ h) ⟨callB_of 2 hts (gw_good kw_1865) rfl rfl rfl (hts _ (List.mem_cons_of_mem _ kw_14)) (hts _ (List.mem_cons_of_mem _ kw_1863)) hd_X12_isOf ⟨Nat.le_of_ble_eq_true rfl, Nat.le_of_ble_eq_true rfl⟩, (hts _ (List.mem_cons_of_mem _ kw_1864))⟩ rfl hl.1 rfl (lv_room (Nat.le_of_ble_eq_true rfl)) dX12_payBy_63 ⟨Nat.zero_le _, Nat.zero_le _⟩ (fun z33 M31 H locs h hP hS => ?_)
            refine r_if_ne (tgt := 99) hx hb dX12_payBy_66 (by decide) h (fun h => ?_) (fun h => ?_)
            · refine r_iconst hx hb dX12_payBy_99 (by decide) h (fun z35 h => ?_)
              exact r_iret hx hb hr hlocks hP hS dX12_payBy_100 h
            · refine lv_aload_n hx hb dX12_payBy_69 rfl (lv_at hl 1 rfl) ?_
              refine lv_iload hx hb dX12_payBy_70 (lv_at hl 0 rfl) ?_
              refine r_iconst hx hb dX12_payBy_72 (by decide) h (fun z37 h => ?_)
              refine q_Vi hx hb hml hown hts hK hP hS (c_X12_jugOf l D G S _ xl0 z11 z37 _ h.2) ⟨callB_of 2 hts (gw_good kw_1658) rfl rfl rfl (hts _ (List.mem_cons_of_mem _ kw_14)) (hts _ (List.mem_cons_of_mem _ kw_1655)) hd_X12_jugOf ⟨Nat.le_of_ble_eq_true rfl, Nat.le_of_ble_eq_true rfl⟩, (hts _ (List.mem_cons_of_mem _ kw_1657)), (hts _ (List.mem_cons_of_mem _ kp_90))⟩ h.1 (ci := 12) rfl (by decide) rfl hl.1 rfl (lv_room (Nat.le_of_ble_eq_true rfl)) dX12_payBy_73 ⟨Nat.zero_le _, Nat.zero_le _⟩ (fun z40 M38 H locs h hP hS => ?_)
              refine r_i2l hx hb dX12_payBy_76 h (fun z42 h => ?_)
              refine lv_aload_n hx hb dX12_payBy_77 rfl (lv_at hl 1 rfl) ?_
              refine lv_iload hx hb dX12_payBy_78 (lv_at hl 5 rfl) ?_
              refine r_iconst hx hb dX12_payBy_80 (by decide) h (fun z44 h => ?_)
              refine q_Vi hx hb hml hown hts hK hP hS (c_X12_wantOf l D G S _ xl0 zl4 z44 _ h.2) ⟨callB_of 2 hts (gw_good kw_1682) rfl rfl rfl (hts _ (List.mem_cons_of_mem _ kw_14)) (hts _ (List.mem_cons_of_mem _ kw_1679)) hd_X12_wantOf ⟨Nat.le_of_ble_eq_true rfl, Nat.le_of_ble_eq_true rfl⟩, (hts _ (List.mem_cons_of_mem _ kw_1681)), (hts _ (List.mem_cons_of_mem _ kp_94))⟩ h.1 (ci := 12) rfl (by decide) rfl hl.1 rfl (lv_room (Nat.le_of_ble_eq_true rfl)) dX12_payBy_81 ⟨Nat.zero_le _, Nat.zero_le _⟩ (fun z47 M45 H locs h hP hS => ?_)
              refine r_i2l hx hb dX12_payBy_84 h (fun z49 h => ?_)
              refine lv_aload_n hx hb dX12_payBy_85 rfl (lv_at hl 1 rfl) ?_
              refine lv_iload hx hb dX12_payBy_86 (lv_at hl 5 rfl) ?_
              refine r_iconst hx hb dX12_payBy_88 (by decide) h (fun z51 h => ?_)
              refine q_Vi hx hb hml hown hts hK hP hS (c_X12_wantOf l D G S _ xl0 zl4 z51 _ h.2) ⟨callB_of 2 hts (gw_good kw_1682) rfl rfl rfl (hts _ (List.mem_cons_of_mem _ kw_14)) (hts _ (List.mem_cons_of_mem _ kw_1679)) hd_X12_wantOf ⟨Nat.le_of_ble_eq_true rfl, Nat.le_of_ble_eq_true rfl⟩, (hts _ (List.mem_cons_of_mem _ kw_1681)), (hts _ (List.mem_cons_of_mem _ kp_94))⟩ h.1 (ci := 12) rfl (by decide) rfl hl.1 rfl (lv_room (Nat.le_of_ble_eq_true rfl)) dX12_payBy_89 ⟨Nat.zero_le _, Nat.zero_le _⟩ (fun z54 M52 H locs h hP hS => ?_)
              refine r_i2l hx hb dX12_payBy_92 h (fun z56 h => ?_)
              refine q_Si hx hb hml hown hts hK hP hS (c_X12_in l D G S _ z42 z49 z56 _ h) ⟨callB_of 3 hts (gw_good kw_1523) rfl rfl rfl (hts _ (List.mem_cons_of_mem _ kw_14)) (hts _ (List.mem_cons_of_mem _ kw_1521)) hd_X12_in ⟨Nat.le_of_ble_eq_true rfl, Nat.le_of_ble_eq_true rfl⟩, (hts _ (List.mem_cons_of_mem _ kw_1522))⟩ rfl hl.1 rfl (lv_room (Nat.le_of_ble_eq_true rfl)) dX12_payBy_93 ⟨Nat.zero_le _, Nat.zero_le _⟩ (fun z59 M57 H locs h hP hS => ?_)
              refine r_if_ne (tgt := 101) hx hb dX12_payBy_96 (by decide) h (fun h => ?_) (fun h => ?_)
              · refine lv_iload_n hx hb dX12_payBy_101 rfl (lv_at hl 3 rfl) ?_
                refine r_iconst hx hb dX12_payBy_102 (by decide) h (fun z61 h => ?_)
                refine lv_iload hx hb dX12_payBy_103 (lv_at hl 0 rfl) ?_
                refine r_ishl hx hb dX12_payBy_105 h (fun z63 h => ?_)
                refine r_ior hx hb dX12_payBy_106 h (fun z65 h => ?_)
                refine lv_istore_n (lv' := [(2, .int z65), (5, .int z11), (0, .ref (adr G xl0)), (1, .int zl1), (3, .int zl3), (4, .int zl4)]) hx hb dX12_payBy_107 rfl hl (by decide) rfl (fun ls hl => ?_)
                refine lv_iload_n hx hb dX12_payBy_108 rfl (lv_at hl 4 rfl) ?_
                refine lv_aload_n hx hb dX12_payBy_109 rfl (lv_at hl 2 rfl) ?_
                refine lv_iload hx hb dX12_payBy_110 (lv_at hl 5 rfl) ?_
                refine r_iconst hx hb dX12_payBy_112 (by decide) h (fun z67 h => ?_)
                refine q_Vi hx hb hml hown hts hK hP hS (c_X12_wantOf l D G S _ xl0 zl4 z67 _ h.2) ⟨callB_of 2 hts (gw_good kw_1682) rfl rfl rfl (hts _ (List.mem_cons_of_mem _ kw_14)) (hts _ (List.mem_cons_of_mem _ kw_1679)) hd_X12_wantOf ⟨Nat.le_of_ble_eq_true rfl, Nat.le_of_ble_eq_true rfl⟩, (hts _ (List.mem_cons_of_mem _ kw_1681)), (hts _ (List.mem_cons_of_mem _ kp_94))⟩ h.1 (ci := 12) rfl (by decide) rfl hl.1 rfl (lv_room (Nat.le_of_ble_eq_true rfl)) dX12_payBy_113 ⟨Nat.zero_le _, Nat.zero_le _⟩ (fun z70 M68 H locs h hP hS => ?_)
                refine r_iadd hx hb dX12_payBy_116 h (fun z72 h => ?_)
                refine lv_istore_n (lv' := [(3, .int z72), (2, .int z65), (5, .int z11), (0, .ref (adr G xl0)), (1, .int zl1), (4, .int zl4)]) hx hb dX12_payBy_117 rfl hl (by decide) rfl (fun ls hl => ?_)
                exact t_X12_payBy_118 C ih xl0 zl1 z65 z72 zl4 _ _ _ _ hP hS (lv_sub hl [3, 4, 1, 0, 5] rfl) h
              · refine r_iconst hx hb dX12_payBy_99 (by decide) h (fun z74 h => ?_)
                exact r_iret hx hb hr hlocks hP hS dX12_payBy_100 h
      · refine lv_goto (tgt := 118) hx hb dX12_payBy_33 (by decide) ?_
        exact t_X12_payBy_118 C ih xl0 zl1 zl2 zl3 zl4 _ _ _ _ hP hS (lv_sub hl [1, 2, 3, 4, 5] rfl) h
set_option maxHeartbeats 4000000 in
set_option maxRecDepth 100000 in
theorem c_X12_payBy (l : Launch) (D : va_G) (G : Gt) (S : Sh) (M : Mm) (xl0 : Int) (zl1 : Int32) (post : Int → Mm → Prop) (h : wp_X12_payBy S M xl0 zl1.toInt post) : Met l yX12_payBy (cw_X12_payBy :: gw) RM_X12_payBy (va_Pc [.ref (adr G xl0), .int zl1] (fun U => KN D G U ∧ Wd D G S M U.heap)) (QI D G S post) 0 0 (aG G) := by
  refine Met.ofW (cc := cX12_payBy) (maxL := 6) (ret := (some .int)) (by decide) rfl ?_
  intro p e s m args below meth c s₁ B hml hv
  obtain ⟨rfl, hK, hP⟩ := hv
  have hx := B.exec
  have hb := B.bytes
  have hr := B.returns
  have hts := atoms_spec (ws := cw_X12_payBy :: gw) B.pre
  have hown : s.vm.findClass RX12 = some m.cls := findClass_of_methodNamed B.named
  have hlocks := B.notSynchronized
  have hS : va_S (aG G) s.heap s.heap [] := va_S.rf
  have C : Cx p s m ([.ref (adr G xl0), .int zl1] : List Value).toArray meth c D G cX12_payBy 6 (some .int) (cw_X12_payBy :: gw) RX12 := ⟨hx, hb, hr, hlocks, hml, hown, hts, hK⟩
  have hl := lv_entry ([.ref (adr G xl0), .int zl1]) (n := 6) (Nat.le_of_ble_eq_true rfl)
  rw [lg_entry_eq]
  generalize (lg_sl ([.ref (adr G xl0), .int zl1]) ++ List.replicate (6 - (lg_sl ([.ref (adr G xl0), .int zl1])).length) Slot.unset).toArray = ls at hl ⊢
  have hl : lv_has ls 6 [(0, .ref (adr G xl0)), (1, .int zl1)] := hl
  unfold wp_X12_payBy at h
  refine r_iconst hx hb dX12_payBy_0 (by decide) h (fun z76 h => ?_)
  refine lv_istore_n (lv' := [(2, .int z76), (0, .ref (adr G xl0)), (1, .int zl1)]) hx hb dX12_payBy_1 rfl hl (by decide) rfl (fun ls hl => ?_)
  refine r_iconst hx hb dX12_payBy_2 (by decide) h (fun z78 h => ?_)
  refine lv_istore_n (lv' := [(3, .int z78), (2, .int z76), (0, .ref (adr G xl0)), (1, .int zl1)]) hx hb dX12_payBy_3 rfl hl (by decide) rfl (fun ls hl => ?_)
  refine r_iconst hx hb dX12_payBy_4 (by decide) h (fun z80 h => ?_)
  refine lv_istore (lv' := [(4, .int z80), (3, .int z78), (2, .int z76), (0, .ref (adr G xl0)), (1, .int zl1)]) hx hb dX12_payBy_5 hl (by decide) rfl (fun ls hl => ?_)
  obtain ⟨n9, h⟩ := h
  exact t_X12_payBy_7 C n9 xl0 zl1 z76 z78 z80 _ _ _ _ hP hS (lv_sub hl [3, 4, 2, 1, 0] rfl) h
/-! TurningMilkModel.match(I)I -/
abbrev RM_X12_match : Room := { frames := 4, cells := 0, slots := 0, locals := 110 }
def cw_X12_match : Cond := Cond.code yX12_match cX12_match 6 (Option.some FieldType.int)
theorem hd_X12_match : yX12_match.cls ≠ "java/lang/invoke/MethodHandle" ∧ yX12_match.cls ≠ "java/lang/invoke/VarHandle" ∧ (parseMethodDescriptor yX12_match.desc).map (fun d => d.parameters.length) = some 1 := by decide +kernel
theorem dX12_match_0 : decode cX12_match 0 = .ok (.aload_n 0, 1) := by decide +kernel
theorem dX12_match_1 : decode cX12_match 1 = .ok (.invokevirtual 350, 3) := by decide +kernel
theorem dX12_match_4 : decode cX12_match 4 = .ok (.ifCond .eq 15, 3) := by decide +kernel
theorem dX12_match_7 : decode cX12_match 7 = .ok (.iload_n 1, 1) := by decide +kernel
theorem dX12_match_8 : decode cX12_match 8 = .ok (.i2l, 1) := by decide +kernel
theorem dX12_match_9 : decode cX12_match 9 = .ok (.lconst 0, 1) := by decide +kernel
theorem dX12_match_10 : decode cX12_match 10 = .ok (.ldc2_w 409, 3) := by decide +kernel
theorem dX12_match_13 : decode cX12_match 13 = .ok (.invokestatic 118, 3) := by decide +kernel
theorem dX12_match_16 : decode cX12_match 16 = .ok (.ifCond .ne 6, 3) := by decide +kernel
theorem dX12_match_19 : decode cX12_match 19 = .ok (.bipush (-3), 2) := by decide +kernel
theorem dX12_match_21 : decode cX12_match 21 = .ok (.ireturn, 1) := by decide +kernel
theorem dX12_match_22 : decode cX12_match 22 = .ok (.iconst 0, 1) := by decide +kernel
theorem dX12_match_23 : decode cX12_match 23 = .ok (.istore_n 2, 1) := by decide +kernel
theorem dX12_match_24 : decode cX12_match 24 = .ok (.iconst 0, 1) := by decide +kernel
theorem dX12_match_25 : decode cX12_match 25 = .ok (.istore_n 3, 1) := by decide +kernel
theorem dX12_match_26 : decode cX12_match 26 = .ok (.iconst 1, 1) := by decide +kernel
theorem dX12_match_27 : decode cX12_match 27 = .ok (.istore 4, 2) := by decide +kernel
theorem dX12_match_29 : decode cX12_match 29 = .ok (.iload 4, 2) := by decide +kernel
theorem dX12_match_31 : decode cX12_match 31 = .ok (.aload_n 0, 1) := by decide +kernel
theorem dX12_match_32 : decode cX12_match 32 = .ok (.getfield 39, 3) := by decide +kernel
theorem dX12_match_35 : decode cX12_match 35 = .ok (.iconst 5, 1) := by decide +kernel
theorem dX12_match_36 : decode cX12_match 36 = .ok (.iaload, 1) := by decide +kernel
theorem dX12_match_37 : decode cX12_match 37 = .ok (.iconst 1, 1) := by decide +kernel
theorem dX12_match_38 : decode cX12_match 38 = .ok (.iadd, 1) := by decide +kernel
theorem dX12_match_39 : decode cX12_match 39 = .ok (.aload_n 0, 1) := by decide +kernel
theorem dX12_match_40 : decode cX12_match 40 = .ok (.getfield 39, 3) := by decide +kernel
theorem dX12_match_43 : decode cX12_match 43 = .ok (.bipush 6, 2) := by decide +kernel
theorem dX12_match_45 : decode cX12_match 45 = .ok (.iaload, 1) := by decide +kernel
theorem dX12_match_46 : decode cX12_match 46 = .ok (.invokestatic 401, 3) := by decide +kernel
theorem dX12_match_49 : decode cX12_match 49 = .ok (.if_icmp .ge 32, 3) := by decide +kernel
theorem dX12_match_52 : decode cX12_match 52 = .ok (.aload_n 0, 1) := by decide +kernel
theorem dX12_match_53 : decode cX12_match 53 = .ok (.iload 4, 2) := by decide +kernel
theorem dX12_match_55 : decode cX12_match 55 = .ok (.invokevirtual 423, 3) := by decide +kernel
theorem dX12_match_58 : decode cX12_match 58 = .ok (.istore 5, 2) := by decide +kernel
theorem dX12_match_60 : decode cX12_match 60 = .ok (.iload 5, 2) := by decide +kernel
theorem dX12_match_62 : decode cX12_match 62 = .ok (.iload_n 3, 1) := by decide +kernel
theorem dX12_match_63 : decode cX12_match 63 = .ok (.if_icmp .gt 6, 3) := by decide +kernel
theorem dX12_match_66 : decode cX12_match 66 = .ok (.goto 9, 3) := by decide +kernel
theorem dX12_match_69 : decode cX12_match 69 = .ok (.iload 4, 2) := by decide +kernel
theorem dX12_match_71 : decode cX12_match 71 = .ok (.istore_n 2, 1) := by decide +kernel
theorem dX12_match_72 : decode cX12_match 72 = .ok (.iload 5, 2) := by decide +kernel
theorem dX12_match_74 : decode cX12_match 74 = .ok (.istore_n 3, 1) := by decide +kernel
theorem dX12_match_75 : decode cX12_match 75 = .ok (.iinc 4 1, 3) := by decide +kernel
theorem dX12_match_78 : decode cX12_match 78 = .ok (.goto (-49), 3) := by decide +kernel
theorem dX12_match_81 : decode cX12_match 81 = .ok (.iload_n 1, 1) := by decide +kernel
theorem dX12_match_82 : decode cX12_match 82 = .ok (.ifCond .ne 7, 3) := by decide +kernel
theorem dX12_match_85 : decode cX12_match 85 = .ok (.iload_n 3, 1) := by decide +kernel
theorem dX12_match_86 : decode cX12_match 86 = .ok (.goto 27, 3) := by decide +kernel
theorem dX12_match_89 : decode cX12_match 89 = .ok (.iload_n 1, 1) := by decide +kernel
theorem dX12_match_90 : decode cX12_match 90 = .ok (.aload_n 0, 1) := by decide +kernel
theorem dX12_match_91 : decode cX12_match 91 = .ok (.getfield 39, 3) := by decide +kernel
theorem dX12_match_94 : decode cX12_match 94 = .ok (.bipush 6, 2) := by decide +kernel
theorem dX12_match_96 : decode cX12_match 96 = .ok (.iaload, 1) := by decide +kernel
theorem dX12_match_97 : decode cX12_match 97 = .ok (.if_icmp .le 8, 3) := by decide +kernel
theorem dX12_match_100 : decode cX12_match 100 = .ok (.bipush (-2), 2) := by decide +kernel
theorem dX12_match_102 : decode cX12_match 102 = .ok (.goto 11, 3) := by decide +kernel
theorem dX12_match_105 : decode cX12_match 105 = .ok (.aload_n 0, 1) := by decide +kernel
theorem dX12_match_106 : decode cX12_match 106 = .ok (.iload_n 2, 1) := by decide +kernel
theorem dX12_match_107 : decode cX12_match 107 = .ok (.iload_n 1, 1) := by decide +kernel
theorem dX12_match_108 : decode cX12_match 108 = .ok (.iconst 1, 1) := by decide +kernel
theorem dX12_match_109 : decode cX12_match 109 = .ok (.isub, 1) := by decide +kernel
theorem dX12_match_110 : decode cX12_match 110 = .ok (.invokevirtual 417, 3) := by decide +kernel
theorem dX12_match_113 : decode cX12_match 113 = .ok (.ireturn, 1) := by decide +kernel
def wp_X12_match_75 (S : Sh) (k29 : Int → Int → Int → Int → Int → Mm → Prop) (post : Int → Mm → Prop) (u0 : Int) (u1 : Int) (u2 : Int) (u3 : Int) (u4 : Int) (M : Mm) : Prop := wA u4 1 fun v1 => k29 u0 u1 u2 u3 v1 M
def wp_X12_match_29 (S : Sh) (post : Int → Mm → Prop) : Nat → Int → Int → Int → Int → Int → Mm → Prop
  | 0, _, _, _, _, _, _ => False
  | n + 1, u0, u1, u2, u3, u4, M => wGetR S M u0 12 20 fun v3 => wC 5 fun v5 => wLd S M v3 14 v5 fun v7 => wC 1 fun v9 => wA v7 v9 fun v11 => wGetR S M u0 12 20 fun v13 => wC 6 fun v15 => wLd S M v13 14 v15 fun v17 => wp_X12_power S M v11 v17 <| fun v20 M19 => wIf (v20 ≤ u4) (wIf (¬ u1 = 0) (wGetR S M19 u0 12 20 fun v22 => wC 6 fun v24 => wLd S M19 v22 14 v24 fun v26 => wIf (u1 ≤ v26) (wC 1 fun v28 => wS u1 v28 fun v30 => isK S u0 12 ∧ (wp_X12_jugIn S M19 u0 u2 v30 <| fun v33 M32 => post v33 M32)) (wC (-2) fun v35 => post v35 M19)) (post u3 M19)) (isK S u0 12 ∧ (wp_X12_payBy S M19 u0 u4 <| fun v38 M37 => wIf (u3 < v38) (wp_X12_match_75 S (fun a0 a1 a2 a3 a4 M => wp_X12_match_29 S post n a0 a1 a2 a3 a4 M) post u0 u1 u4 v38 u4 M37) (wp_X12_match_75 S (fun a0 a1 a2 a3 a4 M => wp_X12_match_29 S post n a0 a1 a2 a3 a4 M) post u0 u1 u2 u3 u4 M37)))
def wp_X12_match (S : Sh) (M : Mm) (u0 : Int) (u1 : Int) (post : Int → Mm → Prop) : Prop := isK S u0 12 ∧ (wp_X12_isDairy S M u0 <| fun v41 M40 => wIf (v41 = 0) (wC (-3) fun v43 => post v43 M40) (wC u1 fun v45 => wC 0 fun v47 => wC 6 fun v49 => wp_X12_in S M40 v45 v47 v49 <| fun v52 M51 => wIf (¬ v52 = 0) (wC 0 fun v54 => wC 0 fun v56 => wC 1 fun v58 => ∃ n9 : Nat, wp_X12_match_29 S post n9 u0 u1 v54 v56 v58 M51) (wC (-3) fun v60 => post v60 M51)))
set_option maxHeartbeats 4000000 in
set_option maxRecDepth 100000 in
theorem t_X12_match_75 {p : Program} {l : Launch} {e : Env} {s : State} {m : MethodId} {args : Array Value} {below : List Frame} {meth : Method} {c : Code} {D : va_G} {G : Gt} {S : Sh} {post : Int → Mm → Prop} {k29 : Int → Int → Int → Int → Int → Mm → Prop} (C : Cx p s m args meth c D G cX12_match 6 (some .int) (cw_X12_match :: gw) RX12) (hk29 : ∀ (y0 : Int) (y1 : Int32) (y2 : Int32) (y3 : Int32) (y4 : Int32) (M : Mm) (H : Heap) (locs : List Loc) (ls : Array Slot), Wd D G S M H → va_S (aG G) s.heap H locs → lv_has ls 6 [(0, .ref (adr G y0)), (1, .int y1), (2, .int y2), (3, .int y3), (4, .int y4)] → k29 y0 y1.toInt y2.toInt y3.toInt y4.toInt M → W p l e RM_X12_match s m args below meth c H locs 0 0 (MQ below (QI D G S post) args s 0 0 (aG G)) (F0 m 29 ls [])) : ∀ (xl0 : Int) (zl1 : Int32) (zl2 : Int32) (zl3 : Int32) (zl4 : Int32) (M : Mm) (H : Heap) (locs : List Loc) (ls : Array Slot), Wd D G S M H → va_S (aG G) s.heap H locs → lv_has ls 6 [(0, .ref (adr G xl0)), (1, .int zl1), (2, .int zl2), (3, .int zl3), (4, .int zl4)] → wp_X12_match_75 S k29 post xl0 zl1.toInt zl2.toInt zl3.toInt zl4.toInt  M → W p l e RM_X12_match s m args below meth c H locs 0 0 (MQ below (QI D G S post) args s 0 0 (aG G)) (F0 m 75 ls []) := by
  obtain ⟨hx, hb, hr, hlocks, hml, hown, hts, hK⟩ := id C
  intro xl0 zl1 zl2 zl3 zl4 M H locs ls hP hS hl h
  unfold wp_X12_match_75 at h
  refine r_iinc hx hb (fun z2 => [(4, .int z2), (0, .ref (adr G xl0)), (1, .int zl1), (2, .int zl2), (3, .int zl3)]) dX12_match_75 (by decide) hl (k := 4) rfl (by decide) (fun _ => rfl) h (fun z2 ls hl h => ?_)
  refine lv_goto (tgt := 29) hx hb dX12_match_78 (by decide) ?_
  exact hk29 xl0 zl1 zl2 zl3 z2 _ _ _ _ hP hS (lv_sub hl [1, 2, 3, 4, 0] rfl) h
set_option maxHeartbeats 4000000 in
set_option maxRecDepth 100000 in
theorem t_X12_match_29 {p : Program} {l : Launch} {e : Env} {s : State} {m : MethodId} {args : Array Value} {below : List Frame} {meth : Method} {c : Code} {D : va_G} {G : Gt} {S : Sh} {post : Int → Mm → Prop} (C : Cx p s m args meth c D G cX12_match 6 (some .int) (cw_X12_match :: gw) RX12) : ∀ (n : Nat) (xl0 : Int) (zl1 : Int32) (zl2 : Int32) (zl3 : Int32) (zl4 : Int32) (M : Mm) (H : Heap) (locs : List Loc) (ls : Array Slot), Wd D G S M H → va_S (aG G) s.heap H locs → lv_has ls 6 [(0, .ref (adr G xl0)), (1, .int zl1), (2, .int zl2), (3, .int zl3), (4, .int zl4)] → wp_X12_match_29 S post n xl0 zl1.toInt zl2.toInt zl3.toInt zl4.toInt  M → W p l e RM_X12_match s m args below meth c H locs 0 0 (MQ below (QI D G S post) args s 0 0 (aG G)) (F0 m 29 ls []) := by
  obtain ⟨hx, hb, hr, hlocks, hml, hown, hts, hK⟩ := id C
  intro n
  induction n with
  | zero => intro xl0 zl1 zl2 zl3 zl4 M H locs ls hP hS hl h; exact h.elim
  | succ n ih =>
    intro xl0 zl1 zl2 zl3 zl4 M H locs ls hP hS hl h
    unfold wp_X12_match_29 at h
    refine lv_iload hx hb dX12_match_29 (lv_at hl 4 rfl) ?_
    refine lv_aload_n hx hb dX12_match_31 rfl (lv_at hl 0 rfl) ?_
    refine r_getr (C := RX12) (T := TX12) (N := 38) hx hb hts (fun w h => List.mem_cons_of_mem _ (iX12 w h)) hown hK hP rfl (by decide) rfl 20 (by decide) (hts _ (List.mem_cons_of_mem _ kw_1354)) (fun _ h9 => h9) dX12_match_32 (by decide) h (fun x4 h => ?_)
    refine r_iconst hx hb dX12_match_35 (by decide) h (fun z6 h => ?_)
    refine r_iald hx hb hK hP dX12_match_36 h (fun z8 h => ?_)
    refine r_iconst hx hb dX12_match_37 (by decide) h (fun z10 h => ?_)
    refine r_iadd hx hb dX12_match_38 h (fun z12 h => ?_)
    refine lv_aload_n hx hb dX12_match_39 rfl (lv_at hl 0 rfl) ?_
    refine r_getr (C := RX12) (T := TX12) (N := 38) hx hb hts (fun w h => List.mem_cons_of_mem _ (iX12 w h)) hown hK hP rfl (by decide) rfl 20 (by decide) (hts _ (List.mem_cons_of_mem _ kw_1354)) (fun _ h9 => h9) dX12_match_40 (by decide) h (fun x14 h => ?_)
    refine r_bipush hx hb dX12_match_43 (by decide) h (fun z16 h => ?_)
    refine r_iald hx hb hK hP dX12_match_45 h (fun z18 h => ?_)
    refine q_Si hx hb hml hown hts hK hP hS (c_X12_power l D G S _ z12 z18 _ h) ⟨callB_of 2 hts (gw_good kw_1842) rfl rfl rfl (hts _ (List.mem_cons_of_mem _ kw_14)) (hts _ (List.mem_cons_of_mem _ kw_1840)) hd_X12_power ⟨Nat.le_of_ble_eq_true rfl, Nat.le_of_ble_eq_true rfl⟩, (hts _ (List.mem_cons_of_mem _ kw_1841))⟩ rfl hl.1 rfl (lv_room (Nat.le_of_ble_eq_true rfl)) dX12_match_46 ⟨Nat.zero_le _, Nat.zero_le _⟩ (fun z21 M19 H locs h hP hS => ?_)
    refine r_icmp_ge (tgt := 81) hx hb dX12_match_49 (by decide) h (fun h => ?_) (fun h => ?_)
    · refine lv_iload_n hx hb dX12_match_81 rfl (lv_at hl 1 rfl) ?_
      refine r_if_ne (tgt := 89) hx hb dX12_match_82 (by decide) h (fun h => ?_) (fun h => ?_)
      · refine lv_iload_n hx hb dX12_match_89 rfl (lv_at hl 1 rfl) ?_
        refine lv_aload_n hx hb dX12_match_90 rfl (lv_at hl 0 rfl) ?_
        refine r_getr (C := RX12) (T := TX12) (N := 38) hx hb hts (fun w h => List.mem_cons_of_mem _ (iX12 w h)) hown hK hP rfl (by decide) rfl 20 (by decide) (hts _ (List.mem_cons_of_mem _ kw_1354)) (fun _ h9 => h9) dX12_match_91 (by decide) h (fun x23 h => ?_)
        refine r_bipush hx hb dX12_match_94 (by decide) h (fun z25 h => ?_)
        refine r_iald hx hb hK hP dX12_match_96 h (fun z27 h => ?_)
        refine r_icmp_le (tgt := 105) hx hb dX12_match_97 (by decide) h (fun h => ?_) (fun h => ?_)
        · refine lv_aload_n hx hb dX12_match_105 rfl (lv_at hl 0 rfl) ?_
          refine lv_iload_n hx hb dX12_match_106 rfl (lv_at hl 2 rfl) ?_
          refine lv_iload_n hx hb dX12_match_107 rfl (lv_at hl 1 rfl) ?_
          refine r_iconst hx hb dX12_match_108 (by decide) h (fun z29 h => ?_)
          refine r_isub hx hb dX12_match_109 h (fun z31 h => ?_)
          refine q_Vi hx hb hml hown hts hK hP hS (c_X12_jugIn l D G S _ xl0 zl2 z31 _ h.2) ⟨callB_of 2 hts (gw_good kw_1862) rfl rfl rfl (hts _ (List.mem_cons_of_mem _ kw_14)) (hts _ (List.mem_cons_of_mem _ kw_1859)) hd_X12_jugIn ⟨Nat.le_of_ble_eq_true rfl, Nat.le_of_ble_eq_true rfl⟩, (hts _ (List.mem_cons_of_mem _ kw_1861)), (hts _ (List.mem_cons_of_mem _ kp_123))⟩ h.1 (ci := 12) rfl (by decide) rfl hl.1 rfl (lv_room (Nat.le_of_ble_eq_true rfl)) dX12_match_110 ⟨Nat.zero_le _, Nat.zero_le _⟩ (fun z34 M32 H locs h hP hS => ?_)
          exact r_iret hx hb hr hlocks hP hS dX12_match_113 h
        · refine r_bipush hx hb dX12_match_100 (by decide) h (fun z36 h => ?_)
          refine lv_goto (tgt := 113) hx hb dX12_match_102 (by decide) ?_
          exact r_iret hx hb hr hlocks hP hS dX12_match_113 h
      · refine lv_iload_n hx hb dX12_match_85 rfl (lv_at hl 3 rfl) ?_
        refine lv_goto (tgt := 113) hx hb dX12_match_86 (by decide) ?_
        exact r_iret hx hb hr hlocks hP hS dX12_match_113 h
    · refine lv_aload_n hx hb dX12_match_52 rfl (lv_at hl 0 rfl) ?_
      refine lv_iload hx hb dX12_match_53 (lv_at hl 4 rfl) ?_
      refine q_Vi hx hb hml hown hts hK hP hS (c_X12_payBy l D G S _ xl0 zl4 _ h.2) ⟨callB_of 1 hts (gw_good kw_1858) rfl rfl rfl (hts _ (List.mem_cons_of_mem _ kw_14)) (hts _ (List.mem_cons_of_mem _ kw_1855)) hd_X12_payBy ⟨Nat.le_of_ble_eq_true rfl, Nat.le_of_ble_eq_true rfl⟩, (hts _ (List.mem_cons_of_mem _ kw_1857)), (hts _ (List.mem_cons_of_mem _ kp_122))⟩ h.1 (ci := 12) rfl (by decide) rfl hl.1 rfl (lv_room (Nat.le_of_ble_eq_true rfl)) dX12_match_55 ⟨Nat.zero_le _, Nat.zero_le _⟩ (fun z39 M37 H locs h hP hS => ?_)
      refine lv_istore (lv' := [(5, .int z39), (0, .ref (adr G xl0)), (1, .int zl1), (2, .int zl2), (3, .int zl3), (4, .int zl4)]) hx hb dX12_match_58 hl (by decide) rfl (fun ls hl => ?_)
      refine lv_iload hx hb dX12_match_60 (lv_at hl 0 rfl) ?_
      refine lv_iload_n hx hb dX12_match_62 rfl (lv_at hl 4 rfl) ?_
      refine r_icmp_gt (tgt := 69) hx hb dX12_match_63 (by decide) h (fun h => ?_) (fun h => ?_)
      · refine lv_iload hx hb dX12_match_69 (lv_at hl 5 rfl) ?_
        refine lv_istore_n (lv' := [(2, .int zl4), (5, .int z39), (0, .ref (adr G xl0)), (1, .int zl1), (3, .int zl3), (4, .int zl4)]) hx hb dX12_match_71 rfl hl (by decide) rfl (fun ls hl => ?_)
        refine lv_iload hx hb dX12_match_72 (lv_at hl 1 rfl) ?_
        refine lv_istore_n (lv' := [(3, .int z39), (2, .int zl4), (5, .int z39), (0, .ref (adr G xl0)), (1, .int zl1), (4, .int zl4)]) hx hb dX12_match_74 rfl hl (by decide) rfl (fun ls hl => ?_)
        exact t_X12_match_75 C ih xl0 zl1 zl4 z39 zl4 _ _ _ _ hP hS (lv_sub hl [3, 4, 1, 0, 5] rfl) h
      · refine lv_goto (tgt := 75) hx hb dX12_match_66 (by decide) ?_
        exact t_X12_match_75 C ih xl0 zl1 zl2 zl3 zl4 _ _ _ _ hP hS (lv_sub hl [1, 2, 3, 4, 5] rfl) h
set_option maxHeartbeats 4000000 in
set_option maxRecDepth 100000 in
theorem c_X12_match (l : Launch) (D : va_G) (G : Gt) (S : Sh) (M : Mm) (xl0 : Int) (zl1 : Int32) (post : Int → Mm → Prop) (h : wp_X12_match S M xl0 zl1.toInt post) : Met l yX12_match (cw_X12_match :: gw) RM_X12_match (va_Pc [.ref (adr G xl0), .int zl1] (fun U => KN D G U ∧ Wd D G S M U.heap)) (QI D G S post) 0 0 (aG G) := by
  refine Met.ofW (cc := cX12_match) (maxL := 6) (ret := (some .int)) (by decide) rfl ?_
  intro p e s m args below meth c s₁ B hml hv
  obtain ⟨rfl, hK, hP⟩ := hv
  have hx := B.exec
  have hb := B.bytes
  have hr := B.returns
  have hts := atoms_spec (ws := cw_X12_match :: gw) B.pre
  have hown : s.vm.findClass RX12 = some m.cls := findClass_of_methodNamed B.named
  have hlocks := B.notSynchronized
  have hS : va_S (aG G) s.heap s.heap [] := va_S.rf
  have C : Cx p s m ([.ref (adr G xl0), .int zl1] : List Value).toArray meth c D G cX12_match 6 (some .int) (cw_X12_match :: gw) RX12 := ⟨hx, hb, hr, hlocks, hml, hown, hts, hK⟩
  have hl := lv_entry ([.ref (adr G xl0), .int zl1]) (n := 6) (Nat.le_of_ble_eq_true rfl)
  rw [lg_entry_eq]
  generalize (lg_sl ([.ref (adr G xl0), .int zl1]) ++ List.replicate (6 - (lg_sl ([.ref (adr G xl0), .int zl1])).length) Slot.unset).toArray = ls at hl ⊢
  have hl : lv_has ls 6 [(0, .ref (adr G xl0)), (1, .int zl1)] := hl
  unfold wp_X12_match at h
  refine lv_aload_n hx hb dX12_match_0 rfl (lv_at hl 0 rfl) ?_
  refine q_Vi hx hb hml hown hts hK hP hS (c_X12_isDairy l D G S _ xl0 _ h.2) ⟨callB_of 0 hts (gw_good kw_1698) rfl rfl rfl (hts _ (List.mem_cons_of_mem _ kw_14)) (hts _ (List.mem_cons_of_mem _ kw_1695)) hd_X12_isDairy ⟨Nat.le_of_ble_eq_true rfl, Nat.le_of_ble_eq_true rfl⟩, (hts _ (List.mem_cons_of_mem _ kw_1697)), (hts _ (List.mem_cons_of_mem _ kp_96))⟩ h.1 (ci := 12) rfl (by decide) rfl hl.1 rfl (lv_room (Nat.le_of_ble_eq_true rfl)) dX12_match_1 ⟨Nat.zero_le _, Nat.zero_le _⟩ (fun z42 M40 H locs h hP hS => ?_)
  refine r_if_eq (tgt := 19) hx hb dX12_match_4 (by decide) h (fun h => ?_) (fun h => ?_)
  · refine r_bipush hx hb dX12_match_19 (by decide) h (fun z44 h => ?_)
    exact r_iret hx hb hr hlocks hP hS dX12_match_21 h
  · refine lv_iload_n hx hb dX12_match_7 rfl (lv_at hl 1 rfl) ?_
    refine r_i2l hx hb dX12_match_8 h (fun z46 h => ?_)
    refine r_lconst hx hb dX12_match_9 (v := 0) (by decide) h (fun z48 h => ?_)
    refine r_ldc2 hx hb hown (hts _ (List.mem_cons_of_mem _ kw_1835)) dX12_match_10 (n := 6) (by decide) h (fun z50 h => ?_)
    refine q_Si hx hb hml hown hts hK hP hS (c_X12_in l D G S _ z46 z48 z50 _ h) ⟨callB_of 3 hts (gw_good kw_1523) rfl rfl rfl (hts _ (List.mem_cons_of_mem _ kw_14)) (hts _ (List.mem_cons_of_mem _ kw_1521)) hd_X12_in ⟨Nat.le_of_ble_eq_true rfl, Nat.le_of_ble_eq_true rfl⟩, (hts _ (List.mem_cons_of_mem _ kw_1522))⟩ rfl hl.1 rfl (lv_room (Nat.le_of_ble_eq_true rfl)) dX12_match_13 ⟨Nat.zero_le _, Nat.zero_le _⟩ (fun z53 M51 H locs h hP hS => ?_)
    refine r_if_ne (tgt := 22) hx hb dX12_match_16 (by decide) h (fun h => ?_) (fun h => ?_)
    · refine r_iconst hx hb dX12_match_22 (by decide) h (fun z55 h => ?_)
      refine lv_istore_n (lv' := [(2, .int z55), (0, .ref (adr G xl0)), (1, .int zl1)]) hx hb dX12_match_23 rfl hl (by decide) rfl (fun ls hl => ?_)
      refine r_iconst hx hb dX12_match_24 (by decide) h (fun z57 h => ?_)
      refine lv_istore_n (lv' := [(3, .int z57), (2, .int z55), (0, .ref (adr G xl0)), (1, .int zl1)]) hx hb dX12_match_25 rfl hl (by decide) rfl (fun ls hl => ?_)
      refine r_iconst hx hb dX12_match_26 (by decide) h (fun z59 h => ?_)
      refine lv_istore (lv' := [(4, .int z59), (3, .int z57), (2, .int z55), (0, .ref (adr G xl0)), (1, .int zl1)]) hx hb dX12_match_27 hl (by decide) rfl (fun ls hl => ?_)
      obtain ⟨n9, h⟩ := h
      exact t_X12_match_29 C n9 xl0 zl1 z55 z57 z59 _ _ _ _ hP hS (lv_sub hl [3, 4, 2, 1, 0] rfl) h
    · refine r_bipush hx hb dX12_match_19 (by decide) h (fun z61 h => ?_)
      exact r_iret hx hb hr hlocks hP hS dX12_match_21 h
/-! TurningMilkModel.turnedResting(III)I -/
abbrev RM_X12_turnedResting : Room := { frames := 5, cells := 0, slots := 0, locals := 147 }
def cw_X12_turnedResting : Cond := Cond.code yX12_turnedResting cX12_turnedResting 7 (Option.some FieldType.int)
theorem hd_X12_turnedResting : yX12_turnedResting.cls ≠ "java/lang/invoke/MethodHandle" ∧ yX12_turnedResting.cls ≠ "java/lang/invoke/VarHandle" ∧ (parseMethodDescriptor yX12_turnedResting.desc).map (fun d => d.parameters.length) = some 3 := by decide +kernel
theorem dX12_turnedResting_0 : decode cX12_turnedResting 0 = .ok (.iconst 0, 1) := by decide +kernel
theorem dX12_turnedResting_1 : decode cX12_turnedResting 1 = .ok (.istore 4, 2) := by decide +kernel
theorem dX12_turnedResting_3 : decode cX12_turnedResting 3 = .ok (.aload_n 0, 1) := by decide +kernel
theorem dX12_turnedResting_4 : decode cX12_turnedResting 4 = .ok (.iload_n 1, 1) := by decide +kernel
theorem dX12_turnedResting_5 : decode cX12_turnedResting 5 = .ok (.iconst 2, 1) := by decide +kernel
theorem dX12_turnedResting_6 : decode cX12_turnedResting 6 = .ok (.invokevirtual 306, 3) := by decide +kernel
theorem dX12_turnedResting_9 : decode cX12_turnedResting 9 = .ok (.istore 5, 2) := by decide +kernel
theorem dX12_turnedResting_11 : decode cX12_turnedResting 11 = .ok (.iconst 0, 1) := by decide +kernel
theorem dX12_turnedResting_12 : decode cX12_turnedResting 12 = .ok (.istore 6, 2) := by decide +kernel
theorem dX12_turnedResting_14 : decode cX12_turnedResting 14 = .ok (.iload 6, 2) := by decide +kernel
theorem dX12_turnedResting_16 : decode cX12_turnedResting 16 = .ok (.iload_n 2, 1) := by decide +kernel
theorem dX12_turnedResting_17 : decode cX12_turnedResting 17 = .ok (.if_icmp .ge 78, 3) := by decide +kernel
theorem dX12_turnedResting_20 : decode cX12_turnedResting 20 = .ok (.iload_n 3, 1) := by decide +kernel
theorem dX12_turnedResting_21 : decode cX12_turnedResting 21 = .ok (.iload 6, 2) := by decide +kernel
theorem dX12_turnedResting_23 : decode cX12_turnedResting 23 = .ok (.invokestatic 420, 3) := by decide +kernel
theorem dX12_turnedResting_26 : decode cX12_turnedResting 26 = .ok (.ifCond .eq 48, 3) := by decide +kernel
theorem dX12_turnedResting_29 : decode cX12_turnedResting 29 = .ok (.iload 4, 2) := by decide +kernel
theorem dX12_turnedResting_31 : decode cX12_turnedResting 31 = .ok (.aload_n 0, 1) := by decide +kernel
theorem dX12_turnedResting_32 : decode cX12_turnedResting 32 = .ok (.iload_n 1, 1) := by decide +kernel
theorem dX12_turnedResting_33 : decode cX12_turnedResting 33 = .ok (.iload 5, 2) := by decide +kernel
theorem dX12_turnedResting_35 : decode cX12_turnedResting 35 = .ok (.iconst 0, 1) := by decide +kernel
theorem dX12_turnedResting_36 : decode cX12_turnedResting 36 = .ok (.iload 4, 2) := by decide +kernel
theorem dX12_turnedResting_38 : decode cX12_turnedResting 38 = .ok (.aload_n 0, 1) := by decide +kernel
theorem dX12_turnedResting_39 : decode cX12_turnedResting 39 = .ok (.getfield 39, 3) := by decide +kernel
theorem dX12_turnedResting_42 : decode cX12_turnedResting 42 = .ok (.bipush 7, 2) := by decide +kernel
theorem dX12_turnedResting_44 : decode cX12_turnedResting 44 = .ok (.iaload, 1) := by decide +kernel
theorem dX12_turnedResting_45 : decode cX12_turnedResting 45 = .ok (.iload 6, 2) := by decide +kernel
theorem dX12_turnedResting_47 : decode cX12_turnedResting 47 = .ok (.iadd, 1) := by decide +kernel
theorem dX12_turnedResting_48 : decode cX12_turnedResting 48 = .ok (.iconst 0, 1) := by decide +kernel
theorem dX12_turnedResting_49 : decode cX12_turnedResting 49 = .ok (.iconst 1, 1) := by decide +kernel
theorem dX12_turnedResting_50 : decode cX12_turnedResting 50 = .ok (.invokevirtual 337, 3) := by decide +kernel
theorem dX12_turnedResting_53 : decode cX12_turnedResting 53 = .ok (.iadd, 1) := by decide +kernel
theorem dX12_turnedResting_54 : decode cX12_turnedResting 54 = .ok (.sipush 999, 3) := by decide +kernel
theorem dX12_turnedResting_57 : decode cX12_turnedResting 57 = .ok (.invokestatic 334, 3) := by decide +kernel
theorem dX12_turnedResting_60 : decode cX12_turnedResting 60 = .ok (.istore 4, 2) := by decide +kernel
theorem dX12_turnedResting_62 : decode cX12_turnedResting 62 = .ok (.aload_n 0, 1) := by decide +kernel
theorem dX12_turnedResting_63 : decode cX12_turnedResting 63 = .ok (.iload_n 1, 1) := by decide +kernel
theorem dX12_turnedResting_64 : decode cX12_turnedResting 64 = .ok (.iload 5, 2) := by decide +kernel
theorem dX12_turnedResting_66 : decode cX12_turnedResting 66 = .ok (.invokevirtual 341, 3) := by decide +kernel
theorem dX12_turnedResting_69 : decode cX12_turnedResting 69 = .ok (.istore 5, 2) := by decide +kernel
theorem dX12_turnedResting_71 : decode cX12_turnedResting 71 = .ok (.goto 18, 3) := by decide +kernel
theorem dX12_turnedResting_74 : decode cX12_turnedResting 74 = .ok (.iload 5, 2) := by decide +kernel
theorem dX12_turnedResting_76 : decode cX12_turnedResting 76 = .ok (.iload 5, 2) := by decide +kernel
theorem dX12_turnedResting_78 : decode cX12_turnedResting 78 = .ok (.ifCond .le 7, 3) := by decide +kernel
theorem dX12_turnedResting_81 : decode cX12_turnedResting 81 = .ok (.iconst 1, 1) := by decide +kernel
theorem dX12_turnedResting_82 : decode cX12_turnedResting 82 = .ok (.goto 4, 3) := by decide +kernel
theorem dX12_turnedResting_85 : decode cX12_turnedResting 85 = .ok (.iconst 0, 1) := by decide +kernel
theorem dX12_turnedResting_86 : decode cX12_turnedResting 86 = .ok (.isub, 1) := by decide +kernel
theorem dX12_turnedResting_87 : decode cX12_turnedResting 87 = .ok (.istore 5, 2) := by decide +kernel
theorem dX12_turnedResting_89 : decode cX12_turnedResting 89 = .ok (.iinc 6 1, 3) := by decide +kernel
theorem dX12_turnedResting_92 : decode cX12_turnedResting 92 = .ok (.goto (-78), 3) := by decide +kernel
theorem dX12_turnedResting_95 : decode cX12_turnedResting 95 = .ok (.iload 4, 2) := by decide +kernel
theorem dX12_turnedResting_97 : decode cX12_turnedResting 97 = .ok (.ireturn, 1) := by decide +kernel
def wp_X12_turnedResting_89 (S : Sh) (k14 : Int → Int → Int → Int → Int → Int → Int → Mm → Prop) (post : Int → Mm → Prop) (u0 : Int) (u1 : Int) (u2 : Int) (u3 : Int) (u4 : Int) (u5 : Int) (u6 : Int) (M : Mm) : Prop := wA u6 1 fun v1 => k14 u0 u1 u2 u3 u4 u5 v1 M
def wp_X12_turnedResting_86 (S : Sh) (k14 : Int → Int → Int → Int → Int → Int → Int → Mm → Prop) (post : Int → Mm → Prop) (u0 : Int) (u1 : Int) (u2 : Int) (u3 : Int) (u4 : Int) (u6 : Int) (t0 : Int) (t1 : Int) (M : Mm) : Prop := wS t0 t1 fun v3 => wp_X12_turnedResting_89 S k14 post u0 u1 u2 u3 u4 v3 u6 M
def wp_X12_turnedResting_14 (S : Sh) (post : Int → Mm → Prop) : Nat → Int → Int → Int → Int → Int → Int → Int → Mm → Prop
  | 0, _, _, _, _, _, _, _, _ => False
  | n + 1, u0, u1, u2, u3, u4, u5, u6, M => wIf (u2 ≤ u6) (post u4 M) (wp_X12_isOf S M u3 u6 <| fun v6 M5 => wIf (v6 = 0) (wIf (u5 ≤ 0) (wC 0 fun v8 => wp_X12_turnedResting_86 S (fun a0 a1 a2 a3 a4 a5 a6 M => wp_X12_turnedResting_14 S post n a0 a1 a2 a3 a4 a5 a6 M) post u0 u1 u2 u3 u4 u6 u5 v8 M5) (wC 1 fun v10 => wp_X12_turnedResting_86 S (fun a0 a1 a2 a3 a4 a5 a6 M => wp_X12_turnedResting_14 S post n a0 a1 a2 a3 a4 a5 a6 M) post u0 u1 u2 u3 u4 u6 u5 v10 M5)) (wC 0 fun v12 => wGetR S M5 u0 12 20 fun v14 => wC 7 fun v16 => wLd S M5 v14 14 v16 fun v18 => wA v18 u6 fun v20 => wC 0 fun v22 => wC 1 fun v24 => isK S u0 12 ∧ (wp_X12_turnsIn S M5 u0 u1 u5 v12 u4 v20 v22 v24 <| fun v27 M26 => wA u4 v27 fun v29 => wC 999 fun v31 => wp_X12_atMost S M26 v29 v31 <| fun v34 M33 => isK S u0 12 ∧ (wp_X12_moreTired S M33 u0 u1 u5 <| fun v37 M36 => wp_X12_turnedResting_89 S (fun a0 a1 a2 a3 a4 a5 a6 M => wp_X12_turnedResting_14 S post n a0 a1 a2 a3 a4 a5 a6 M) post u0 u1 u2 u3 v34 v37 u6 M36))))
def wp_X12_turnedResting (S : Sh) (M : Mm) (u0 : Int) (u1 : Int) (u2 : Int) (u3 : Int) (post : Int → Mm → Prop) : Prop := wC 0 fun v39 => wC 2 fun v41 => isK S u0 12 ∧ (wp_X12_handOf S M u0 u1 v41 <| fun v44 M43 => wC 0 fun v46 => ∃ n9 : Nat, wp_X12_turnedResting_14 S post n9 u0 u1 u2 u3 v39 v44 v46 M43)
set_option maxHeartbeats 4000000 in
set_option maxRecDepth 100000 in
theorem t_X12_turnedResting_89 {p : Program} {l : Launch} {e : Env} {s : State} {m : MethodId} {args : Array Value} {below : List Frame} {meth : Method} {c : Code} {D : va_G} {G : Gt} {S : Sh} {post : Int → Mm → Prop} {k14 : Int → Int → Int → Int → Int → Int → Int → Mm → Prop} (C : Cx p s m args meth c D G cX12_turnedResting 7 (some .int) (cw_X12_turnedResting :: gw) RX12) (hk14 : ∀ (y0 : Int) (y1 : Int32) (y2 : Int32) (y3 : Int32) (y4 : Int32) (y5 : Int32) (y6 : Int32) (M : Mm) (H : Heap) (locs : List Loc) (ls : Array Slot), Wd D G S M H → va_S (aG G) s.heap H locs → lv_has ls 7 [(0, .ref (adr G y0)), (1, .int y1), (2, .int y2), (3, .int y3), (4, .int y4), (5, .int y5), (6, .int y6)] → k14 y0 y1.toInt y2.toInt y3.toInt y4.toInt y5.toInt y6.toInt M → W p l e RM_X12_turnedResting s m args below meth c H locs 0 0 (MQ below (QI D G S post) args s 0 0 (aG G)) (F0 m 14 ls [])) : ∀ (xl0 : Int) (zl1 : Int32) (zl2 : Int32) (zl3 : Int32) (zl4 : Int32) (zl5 : Int32) (zl6 : Int32) (M : Mm) (H : Heap) (locs : List Loc) (ls : Array Slot), Wd D G S M H → va_S (aG G) s.heap H locs → lv_has ls 7 [(0, .ref (adr G xl0)), (1, .int zl1), (2, .int zl2), (3, .int zl3), (4, .int zl4), (5, .int zl5), (6, .int zl6)] → wp_X12_turnedResting_89 S k14 post xl0 zl1.toInt zl2.toInt zl3.toInt zl4.toInt zl5.toInt zl6.toInt  M → W p l e RM_X12_turnedResting s m args below meth c H locs 0 0 (MQ below (QI D G S post) args s 0 0 (aG G)) (F0 m 89 ls []) := by
  obtain ⟨hx, hb, hr, hlocks, hml, hown, hts, hK⟩ := id C
  intro xl0 zl1 zl2 zl3 zl4 zl5 zl6 M H locs ls hP hS hl h
  unfold wp_X12_turnedResting_89 at h
  refine r_iinc hx hb (fun z2 => [(6, .int z2), (0, .ref (adr G xl0)), (1, .int zl1), (2, .int zl2), (3, .int zl3), (4, .int zl4), (5, .int zl5)]) dX12_turnedResting_89 (by decide) hl (k := 6) rfl (by decide) (fun _ => rfl) h (fun z2 ls hl h => ?_)
  refine lv_goto (tgt := 14) hx hb dX12_turnedResting_92 (by decide) ?_
  exact hk14 xl0 zl1 zl2 zl3 zl4 zl5 z2 _ _ _ _ hP hS (lv_sub hl [1, 2, 3, 4, 5, 6, 0] rfl) h
set_option maxHeartbeats 4000000 in
set_option maxRecDepth 100000 in
theorem t_X12_turnedResting_86 {p : Program} {l : Launch} {e : Env} {s : State} {m : MethodId} {args : Array Value} {below : List Frame} {meth : Method} {c : Code} {D : va_G} {G : Gt} {S : Sh} {post : Int → Mm → Prop} {k14 : Int → Int → Int → Int → Int → Int → Int → Mm → Prop} (C : Cx p s m args meth c D G cX12_turnedResting 7 (some .int) (cw_X12_turnedResting :: gw) RX12) (hk14 : ∀ (y0 : Int) (y1 : Int32) (y2 : Int32) (y3 : Int32) (y4 : Int32) (y5 : Int32) (y6 : Int32) (M : Mm) (H : Heap) (locs : List Loc) (ls : Array Slot), Wd D G S M H → va_S (aG G) s.heap H locs → lv_has ls 7 [(0, .ref (adr G y0)), (1, .int y1), (2, .int y2), (3, .int y3), (4, .int y4), (5, .int y5), (6, .int y6)] → k14 y0 y1.toInt y2.toInt y3.toInt y4.toInt y5.toInt y6.toInt M → W p l e RM_X12_turnedResting s m args below meth c H locs 0 0 (MQ below (QI D G S post) args s 0 0 (aG G)) (F0 m 14 ls [])) : ∀ (xl0 : Int) (zl1 : Int32) (zl2 : Int32) (zl3 : Int32) (zl4 : Int32) (zl6 : Int32) (zs0 : Int32) (zs1 : Int32) (M : Mm) (H : Heap) (locs : List Loc) (ls : Array Slot), Wd D G S M H → va_S (aG G) s.heap H locs → lv_has ls 7 [(0, .ref (adr G xl0)), (1, .int zl1), (2, .int zl2), (3, .int zl3), (4, .int zl4), (6, .int zl6)] → wp_X12_turnedResting_86 S k14 post xl0 zl1.toInt zl2.toInt zl3.toInt zl4.toInt zl6.toInt zs0.toInt zs1.toInt M → W p l e RM_X12_turnedResting s m args below meth c H locs 0 0 (MQ below (QI D G S post) args s 0 0 (aG G)) (F0 m 86 ls [.int zs1, .int zs0]) := by
  obtain ⟨hx, hb, hr, hlocks, hml, hown, hts, hK⟩ := id C
  intro xl0 zl1 zl2 zl3 zl4 zl6 zs0 zs1 M H locs ls hP hS hl h
  unfold wp_X12_turnedResting_86 at h
  refine r_isub hx hb dX12_turnedResting_86 h (fun z4 h => ?_)
  refine lv_istore (lv' := [(5, .int z4), (0, .ref (adr G xl0)), (1, .int zl1), (2, .int zl2), (3, .int zl3), (4, .int zl4), (6, .int zl6)]) hx hb dX12_turnedResting_87 hl (by decide) rfl (fun ls hl => ?_)
  exact t_X12_turnedResting_89 C hk14 xl0 zl1 zl2 zl3 zl4 z4 zl6 _ _ _ _ hP hS (lv_sub hl [1, 2, 3, 4, 5, 0, 6] rfl) h
set_option maxHeartbeats 4000000 in
set_option maxRecDepth 100000 in
theorem t_X12_turnedResting_14 {p : Program} {l : Launch} {e : Env} {s : State} {m : MethodId} {args : Array Value} {below : List Frame} {meth : Method} {c : Code} {D : va_G} {G : Gt} {S : Sh} {post : Int → Mm → Prop} (C : Cx p s m args meth c D G cX12_turnedResting 7 (some .int) (cw_X12_turnedResting :: gw) RX12) : ∀ (n : Nat) (xl0 : Int) (zl1 : Int32) (zl2 : Int32) (zl3 : Int32) (zl4 : Int32) (zl5 : Int32) (zl6 : Int32) (M : Mm) (H : Heap) (locs : List Loc) (ls : Array Slot), Wd D G S M H → va_S (aG G) s.heap H locs → lv_has ls 7 [(0, .ref (adr G xl0)), (1, .int zl1), (2, .int zl2), (3, .int zl3), (4, .int zl4), (5, .int zl5), (6, .int zl6)] → wp_X12_turnedResting_14 S post n xl0 zl1.toInt zl2.toInt zl3.toInt zl4.toInt zl5.toInt zl6.toInt  M → W p l e RM_X12_turnedResting s m args below meth c H locs 0 0 (MQ below (QI D G S post) args s 0 0 (aG G)) (F0 m 14 ls []) := by
  obtain ⟨hx, hb, hr, hlocks, hml, hown, hts, hK⟩ := id C
  intro n
  induction n with
  | zero => intro xl0 zl1 zl2 zl3 zl4 zl5 zl6 M H locs ls hP hS hl h; exact h.elim
  | succ n ih =>
    intro xl0 zl1 zl2 zl3 zl4 zl5 zl6 M H locs ls hP hS hl h
    unfold wp_X12_turnedResting_14 at h
    refine lv_iload hx hb dX12_turnedResting_14 (lv_at hl 6 rfl) ?_
    refine lv_iload_n hx hb dX12_turnedResting_16 rfl (lv_at hl 2 rfl) ?_
    refine r_icmp_ge (tgt := 95) hx hb dX12_turnedResting_17 (by decide) h (fun h => ?_) (fun h => ?_)
    · refine lv_iload hx hb dX12_turnedResting_95 (lv_at hl 4 rfl) ?_
      exact r_iret hx hb hr hlocks hP hS dX12_turnedResting_97 h
    · refine lv_iload_n hx hb dX12_turnedResting_20 rfl (lv_at hl 3 rfl) ?_
      refine lv_iload hx hb dX12_turnedResting_21 (lv_at hl 6 rfl) ?_
      refine q_Si hx hb hml hown hts hK hP hS (c_X12_isOf l D G S _ zl3 zl6 _ h) ⟨callB_of 2 hts (gw_good kw_1865) rfl rfl rfl (hts _ (List.mem_cons_of_mem _ kw_14)) (hts _ (List.mem_cons_of_mem _ kw_1863)) hd_X12_isOf ⟨Nat.le_of_ble_eq_true rfl, Nat.le_of_ble_eq_true rfl⟩, (hts _ (List.mem_cons_of_mem _ kw_1864))⟩ rfl hl.1 rfl (lv_room (Nat.le_of_ble_eq_true rfl)) dX12_turnedResting_23 ⟨Nat.zero_le _, Nat.zero_le _⟩ (fun z7 M5 H locs h hP hS => ?_)
      refine r_if_eq (tgt := 74) hx hb dX12_turnedResting_26 (by decide) h (fun h => ?_) (fun h => ?_)
      · refine lv_iload hx hb dX12_turnedResting_74 (lv_at hl 5 rfl) ?_
        refine lv_iload hx hb dX12_turnedResting_76 (lv_at hl 5 rfl) ?_
        refine r_if_le (tgt := 85) hx hb dX12_turnedResting_78 (by decide) h (fun h => ?_) (fun h => ?_)
        · refine r_iconst hx hb dX12_turnedResting_85 (by decide) h (fun z9 h => ?_)
          exact t_X12_turnedResting_86 C ih xl0 zl1 zl2 zl3 zl4 zl6 zl5 z9 _ _ _ _ hP hS (lv_sub hl [0, 1, 2, 3, 4, 6] rfl) h
        · refine r_iconst hx hb dX12_turnedResting_81 (by decide) h (fun z11 h => ?_)
          refine lv_goto (tgt := 86) hx hb dX12_turnedResting_82 (by decide) ?_
          exact t_X12_turnedResting_86 C ih xl0 zl1 zl2 zl3 zl4 zl6 zl5 z11 _ _ _ _ hP hS (lv_sub hl [0, 1, 2, 3, 4, 6] rfl) h
      · refine lv_iload hx hb dX12_turnedResting_29 (lv_at hl 4 rfl) ?_
        refine lv_aload_n hx hb dX12_turnedResting_31 rfl (lv_at hl 0 rfl) ?_
        refine lv_iload_n hx hb dX12_turnedResting_32 rfl (lv_at hl 1 rfl) ?_
        refine lv_iload hx hb dX12_turnedResting_33 (lv_at hl 5 rfl) ?_
        refine r_iconst hx hb dX12_turnedResting_35 (by decide) h (fun z13 h => ?_)
        refine lv_iload hx hb dX12_turnedResting_36 (lv_at hl 4 rfl) ?_
        refine lv_aload_n hx hb dX12_turnedResting_38 rfl (lv_at hl 0 rfl) ?_
        refine r_getr (C := RX12) (T := TX12) (N := 38) hx hb hts (fun w h => List.mem_cons_of_mem _ (iX12 w h)) hown hK hP rfl (by decide) rfl 20 (by decide) (hts _ (List.mem_cons_of_mem _ kw_1354)) (fun _ h9 => h9) dX12_turnedResting_39 (by decide) h (fun x15 h => ?_)
        refine r_bipush hx hb dX12_turnedResting_42 (by decide) h (fun z17 h => ?_)
        refine r_iald hx hb hK hP dX12_turnedResting_44 h (fun z19 h => ?_)
        refine lv_iload hx hb dX12_turnedResting_45 (lv_at hl 6 rfl) ?_
        refine r_iadd hx hb dX12_turnedResting_47 h (fun z21 h => ?_)
        refine r_iconst hx hb dX12_turnedResting_48 (by decide) h (fun z23 h => ?_)
        refine r_iconst hx hb dX12_turnedResting_49 (by decide) h (fun z25 h => ?_)
        refine q_Vi hx hb hml hown hts hK hP hS (c_X12_turnsIn l D G S _ xl0 zl1 zl5 z13 zl4 z21 z23 z25 _ h.2) ⟨callB_of 7 hts (gw_good kw_1721) rfl rfl rfl (hts _ (List.mem_cons_of_mem _ kw_14)) (hts _ (List.mem_cons_of_mem _ kw_1718)) hd_X12_turnsIn ⟨Nat.le_of_ble_eq_true rfl, Nat.le_of_ble_eq_true rfl⟩, (hts _ (List.mem_cons_of_mem _ kw_1720)), (hts _ (List.mem_cons_of_mem _ kp_101))⟩ h.1 (ci := 12) rfl (by decide) rfl hl.1 rfl (lv_room (Nat.le_of_ble_eq_true rfl)) dX12_turnedResting_50 ⟨Nat.zero_le _, Nat.zero_le _⟩ (fun z28 M26 H locs h hP hS => ?_)
        refine r_iadd hx hb dX12_turnedResting_53 h (fun z30 h => ?_)
        refine r_sipush hx hb dX12_turnedResting_54 (by decide) h (fun z32 h => ?_)
        refine q_Si hx hb hml hown hts hK hP hS (c_X12_atMost l D G S _ z30 z32 _ h) ⟨callB_of 2 hts (gw_good kw_1744) rfl rfl rfl (hts _ (List.mem_cons_of_mem _ kw_14)) (hts _ (List.mem_cons_of_mem _ kw_1742)) hd_X12_atMost ⟨Nat.le_of_ble_eq_true rfl, Nat.le_of_ble_eq_true rfl⟩, (hts _ (List.mem_cons_of_mem _ kw_1743))⟩ rfl hl.1 rfl (lv_room (Nat.le_of_ble_eq_true rfl)) dX12_turnedResting_57 ⟨Nat.zero_le _, Nat.zero_le _⟩ (fun z35 M33 H locs h hP hS => ?_)
        refine lv_istore (lv' := [(4, .int z35), (0, .ref (adr G xl0)), (1, .int zl1), (2, .int zl2), (3, .int zl3), (5, .int zl5), (6, .int zl6)]) hx hb dX12_turnedResting_60 hl (by decide) rfl (fun ls hl => ?_)
        refine lv_aload_n hx hb dX12_turnedResting_62 rfl (lv_at hl 1 rfl) ?_
        refine lv_iload_n hx hb dX12_turnedResting_63 rfl (lv_at hl 2 rfl) ?_
        refine lv_iload hx hb dX12_turnedResting_64 (lv_at hl 5 rfl) ?_
        refine q_Vi hx hb hml hown hts hK hP hS (c_X12_moreTired l D G S _ xl0 zl1 zl5 _ h.2) ⟨callB_of 2 hts (gw_good kw_1748) rfl rfl rfl (hts _ (List.mem_cons_of_mem _ kw_14)) (hts _ (List.mem_cons_of_mem _ kw_1745)) hd_X12_moreTired ⟨Nat.le_of_ble_eq_true rfl, Nat.le_of_ble_eq_true rfl⟩, (hts _ (List.mem_cons_of_mem _ kw_1747)), (hts _ (List.mem_cons_of_mem _ kp_106))⟩ h.1 (ci := 12) rfl (by decide) rfl hl.1 rfl (lv_room (Nat.le_of_ble_eq_true rfl)) dX12_turnedResting_66 ⟨Nat.zero_le _, Nat.zero_le _⟩ (fun z38 M36 H locs h hP hS => ?_)
        refine lv_istore (lv' := [(5, .int z38), (4, .int z35), (0, .ref (adr G xl0)), (1, .int zl1), (2, .int zl2), (3, .int zl3), (6, .int zl6)]) hx hb dX12_turnedResting_69 hl (by decide) rfl (fun ls hl => ?_)
        refine lv_goto (tgt := 89) hx hb dX12_turnedResting_71 (by decide) ?_
        exact t_X12_turnedResting_89 C ih xl0 zl1 zl2 zl3 z35 z38 zl6 _ _ _ _ hP hS (lv_sub hl [2, 3, 4, 5, 1, 0, 6] rfl) h
set_option maxHeartbeats 4000000 in
set_option maxRecDepth 100000 in
theorem c_X12_turnedResting (l : Launch) (D : va_G) (G : Gt) (S : Sh) (M : Mm) (xl0 : Int) (zl1 : Int32) (zl2 : Int32) (zl3 : Int32) (post : Int → Mm → Prop) (h : wp_X12_turnedResting S M xl0 zl1.toInt zl2.toInt zl3.toInt post) : Met l yX12_turnedResting (cw_X12_turnedResting :: gw) RM_X12_turnedResting (va_Pc [.ref (adr G xl0), .int zl1, .int zl2, .int zl3] (fun U => KN D G U ∧ Wd D G S M U.heap)) (QI D G S post) 0 0 (aG G) := by
  refine Met.ofW (cc := cX12_turnedResting) (maxL := 7) (ret := (some .int)) (by decide) rfl ?_
  intro p e s m args below meth c s₁ B hml hv
  obtain ⟨rfl, hK, hP⟩ := hv
  have hx := B.exec
  have hb := B.bytes
  have hr := B.returns
  have hts := atoms_spec (ws := cw_X12_turnedResting :: gw) B.pre
  have hown : s.vm.findClass RX12 = some m.cls := findClass_of_methodNamed B.named
  have hlocks := B.notSynchronized
  have hS : va_S (aG G) s.heap s.heap [] := va_S.rf
  have C : Cx p s m ([.ref (adr G xl0), .int zl1, .int zl2, .int zl3] : List Value).toArray meth c D G cX12_turnedResting 7 (some .int) (cw_X12_turnedResting :: gw) RX12 := ⟨hx, hb, hr, hlocks, hml, hown, hts, hK⟩
  have hl := lv_entry ([.ref (adr G xl0), .int zl1, .int zl2, .int zl3]) (n := 7) (Nat.le_of_ble_eq_true rfl)
  rw [lg_entry_eq]
  generalize (lg_sl ([.ref (adr G xl0), .int zl1, .int zl2, .int zl3]) ++ List.replicate (7 - (lg_sl ([.ref (adr G xl0), .int zl1, .int zl2, .int zl3])).length) Slot.unset).toArray = ls at hl ⊢
  have hl : lv_has ls 7 [(0, .ref (adr G xl0)), (1, .int zl1), (2, .int zl2), (3, .int zl3)] := hl
  unfold wp_X12_turnedResting at h
  refine r_iconst hx hb dX12_turnedResting_0 (by decide) h (fun z40 h => ?_)
  refine lv_istore (lv' := [(4, .int z40), (0, .ref (adr G xl0)), (1, .int zl1), (2, .int zl2), (3, .int zl3)]) hx hb dX12_turnedResting_1 hl (by decide) rfl (fun ls hl => ?_)
  refine lv_aload_n hx hb dX12_turnedResting_3 rfl (lv_at hl 1 rfl) ?_
  refine lv_iload_n hx hb dX12_turnedResting_4 rfl (lv_at hl 2 rfl) ?_
  refine r_iconst hx hb dX12_turnedResting_5 (by decide) h (fun z42 h => ?_)
  refine q_Vi hx hb hml hown hts hK hP hS (c_X12_handOf l D G S _ xl0 zl1 z42 _ h.2) ⟨callB_of 2 hts (gw_good kw_1650) rfl rfl rfl (hts _ (List.mem_cons_of_mem _ kw_14)) (hts _ (List.mem_cons_of_mem _ kw_1647)) hd_X12_handOf ⟨Nat.le_of_ble_eq_true rfl, Nat.le_of_ble_eq_true rfl⟩, (hts _ (List.mem_cons_of_mem _ kw_1649)), (hts _ (List.mem_cons_of_mem _ kp_88))⟩ h.1 (ci := 12) rfl (by decide) rfl hl.1 rfl (lv_room (Nat.le_of_ble_eq_true rfl)) dX12_turnedResting_6 ⟨Nat.zero_le _, Nat.zero_le _⟩ (fun z45 M43 H locs h hP hS => ?_)
  refine lv_istore (lv' := [(5, .int z45), (4, .int z40), (0, .ref (adr G xl0)), (1, .int zl1), (2, .int zl2), (3, .int zl3)]) hx hb dX12_turnedResting_9 hl (by decide) rfl (fun ls hl => ?_)
  refine r_iconst hx hb dX12_turnedResting_11 (by decide) h (fun z47 h => ?_)
  refine lv_istore (lv' := [(6, .int z47), (5, .int z45), (4, .int z40), (0, .ref (adr G xl0)), (1, .int zl1), (2, .int zl2), (3, .int zl3)]) hx hb dX12_turnedResting_12 hl (by decide) rfl (fun ls hl => ?_)
  obtain ⟨n9, h⟩ := h
  exact t_X12_turnedResting_14 C n9 xl0 zl1 zl2 zl3 z40 z45 z47 _ _ _ _ hP hS (lv_sub hl [3, 4, 5, 6, 2, 1, 0] rfl) h
/-! TurningMilkModel.rest(IIII)I -/
abbrev RM_X12_rest : Room := { frames := 6, cells := 0, slots := 0, locals := 173 }
def cw_X12_rest : Cond := Cond.code yX12_rest cX12_rest 9 (Option.some FieldType.int)
theorem hd_X12_rest : yX12_rest.cls ≠ "java/lang/invoke/MethodHandle" ∧ yX12_rest.cls ≠ "java/lang/invoke/VarHandle" ∧ (parseMethodDescriptor yX12_rest.desc).map (fun d => d.parameters.length) = some 4 := by decide +kernel
theorem dX12_rest_0 : decode cX12_rest 0 = .ok (.aload_n 0, 1) := by decide +kernel
theorem dX12_rest_1 : decode cX12_rest 1 = .ok (.iload_n 1, 1) := by decide +kernel
theorem dX12_rest_2 : decode cX12_rest 2 = .ok (.invokevirtual 301, 3) := by decide +kernel
theorem dX12_rest_5 : decode cX12_rest 5 = .ok (.ifCond .eq 37, 3) := by decide +kernel
theorem dX12_rest_8 : decode cX12_rest 8 = .ok (.iload_n 2, 1) := by decide +kernel
theorem dX12_rest_9 : decode cX12_rest 9 = .ok (.i2l, 1) := by decide +kernel
theorem dX12_rest_10 : decode cX12_rest 10 = .ok (.lconst 1, 1) := by decide +kernel
theorem dX12_rest_11 : decode cX12_rest 11 = .ok (.ldc2_w 426, 3) := by decide +kernel
theorem dX12_rest_14 : decode cX12_rest 14 = .ok (.invokestatic 118, 3) := by decide +kernel
theorem dX12_rest_17 : decode cX12_rest 17 = .ok (.ifCond .eq 25, 3) := by decide +kernel
theorem dX12_rest_20 : decode cX12_rest 20 = .ok (.iload_n 3, 1) := by decide +kernel
theorem dX12_rest_21 : decode cX12_rest 21 = .ok (.i2l, 1) := by decide +kernel
theorem dX12_rest_22 : decode cX12_rest 22 = .ok (.lconst 0, 1) := by decide +kernel
theorem dX12_rest_23 : decode cX12_rest 23 = .ok (.iload_n 2, 1) := by decide +kernel
theorem dX12_rest_24 : decode cX12_rest 24 = .ok (.i2l, 1) := by decide +kernel
theorem dX12_rest_25 : decode cX12_rest 25 = .ok (.invokestatic 118, 3) := by decide +kernel
theorem dX12_rest_28 : decode cX12_rest 28 = .ok (.ifCond .eq 14, 3) := by decide +kernel
theorem dX12_rest_31 : decode cX12_rest 31 = .ok (.iload 4, 2) := by decide +kernel
theorem dX12_rest_33 : decode cX12_rest 33 = .ok (.i2l, 1) := by decide +kernel
theorem dX12_rest_34 : decode cX12_rest 34 = .ok (.lconst 0, 1) := by decide +kernel
theorem dX12_rest_35 : decode cX12_rest 35 = .ok (.lconst 1, 1) := by decide +kernel
theorem dX12_rest_36 : decode cX12_rest 36 = .ok (.invokestatic 118, 3) := by decide +kernel
theorem dX12_rest_39 : decode cX12_rest 39 = .ok (.ifCond .ne 5, 3) := by decide +kernel
theorem dX12_rest_42 : decode cX12_rest 42 = .ok (.iconst (-1), 1) := by decide +kernel
theorem dX12_rest_43 : decode cX12_rest 43 = .ok (.ireturn, 1) := by decide +kernel
theorem dX12_rest_44 : decode cX12_rest 44 = .ok (.iconst (-1), 1) := by decide +kernel
theorem dX12_rest_45 : decode cX12_rest 45 = .ok (.istore 5, 2) := by decide +kernel
theorem dX12_rest_47 : decode cX12_rest 47 = .ok (.iconst 0, 1) := by decide +kernel
theorem dX12_rest_48 : decode cX12_rest 48 = .ok (.istore 6, 2) := by decide +kernel
theorem dX12_rest_50 : decode cX12_rest 50 = .ok (.iconst 0, 1) := by decide +kernel
theorem dX12_rest_51 : decode cX12_rest 51 = .ok (.istore 7, 2) := by decide +kernel
theorem dX12_rest_53 : decode cX12_rest 53 = .ok (.iload 7, 2) := by decide +kernel
theorem dX12_rest_55 : decode cX12_rest 55 = .ok (.iconst 1, 1) := by decide +kernel
theorem dX12_rest_56 : decode cX12_rest 56 = .ok (.iload_n 2, 1) := by decide +kernel
theorem dX12_rest_57 : decode cX12_rest 57 = .ok (.ishl, 1) := by decide +kernel
theorem dX12_rest_58 : decode cX12_rest 58 = .ok (.if_icmp .ge 54, 3) := by decide +kernel
theorem dX12_rest_61 : decode cX12_rest 61 = .ok (.iload 7, 2) := by decide +kernel
theorem dX12_rest_63 : decode cX12_rest 63 = .ok (.invokestatic 344, 3) := by decide +kernel
theorem dX12_rest_66 : decode cX12_rest 66 = .ok (.iload_n 3, 1) := by decide +kernel
theorem dX12_rest_67 : decode cX12_rest 67 = .ok (.if_icmp .eq 6, 3) := by decide +kernel
theorem dX12_rest_70 : decode cX12_rest 70 = .ok (.goto 36, 3) := by decide +kernel
theorem dX12_rest_73 : decode cX12_rest 73 = .ok (.aload_n 0, 1) := by decide +kernel
theorem dX12_rest_74 : decode cX12_rest 74 = .ok (.iload_n 1, 1) := by decide +kernel
theorem dX12_rest_75 : decode cX12_rest 75 = .ok (.iload_n 2, 1) := by decide +kernel
theorem dX12_rest_76 : decode cX12_rest 76 = .ok (.iload 7, 2) := by decide +kernel
theorem dX12_rest_78 : decode cX12_rest 78 = .ok (.invokevirtual 428, 3) := by decide +kernel
theorem dX12_rest_81 : decode cX12_rest 81 = .ok (.istore 8, 2) := by decide +kernel
theorem dX12_rest_83 : decode cX12_rest 83 = .ok (.iload 5, 2) := by decide +kernel
theorem dX12_rest_85 : decode cX12_rest 85 = .ok (.ifCond .lt 13, 3) := by decide +kernel
theorem dX12_rest_88 : decode cX12_rest 88 = .ok (.iload 8, 2) := by decide +kernel
theorem dX12_rest_90 : decode cX12_rest 90 = .ok (.iload 6, 2) := by decide +kernel
theorem dX12_rest_92 : decode cX12_rest 92 = .ok (.if_icmp .lt 6, 3) := by decide +kernel
theorem dX12_rest_95 : decode cX12_rest 95 = .ok (.goto 11, 3) := by decide +kernel
theorem dX12_rest_98 : decode cX12_rest 98 = .ok (.iload 7, 2) := by decide +kernel
theorem dX12_rest_100 : decode cX12_rest 100 = .ok (.istore 5, 2) := by decide +kernel
theorem dX12_rest_102 : decode cX12_rest 102 = .ok (.iload 8, 2) := by decide +kernel
theorem dX12_rest_104 : decode cX12_rest 104 = .ok (.istore 6, 2) := by decide +kernel
theorem dX12_rest_106 : decode cX12_rest 106 = .ok (.iinc 7 1, 3) := by decide +kernel
theorem dX12_rest_109 : decode cX12_rest 109 = .ok (.goto (-56), 3) := by decide +kernel
theorem dX12_rest_112 : decode cX12_rest 112 = .ok (.iload 4, 2) := by decide +kernel
theorem dX12_rest_114 : decode cX12_rest 114 = .ok (.ifCond .ne 8, 3) := by decide +kernel
theorem dX12_rest_117 : decode cX12_rest 117 = .ok (.iload 5, 2) := by decide +kernel
theorem dX12_rest_119 : decode cX12_rest 119 = .ok (.goto 5, 3) := by decide +kernel
theorem dX12_rest_122 : decode cX12_rest 122 = .ok (.iload 6, 2) := by decide +kernel
theorem dX12_rest_124 : decode cX12_rest 124 = .ok (.ireturn, 1) := by decide +kernel
def wp_X12_rest_106 (S : Sh) (k53 : Int → Int → Int → Int → Int → Int → Int → Int → Mm → Prop) (post : Int → Mm → Prop) (u0 : Int) (u1 : Int) (u2 : Int) (u3 : Int) (u4 : Int) (u5 : Int) (u6 : Int) (u7 : Int) (M : Mm) : Prop := wA u7 1 fun v1 => k53 u0 u1 u2 u3 u4 u5 u6 v1 M
def wp_X12_rest_98 (S : Sh) (k53 : Int → Int → Int → Int → Int → Int → Int → Int → Mm → Prop) (post : Int → Mm → Prop) (u0 : Int) (u1 : Int) (u2 : Int) (u3 : Int) (u4 : Int) (u7 : Int) (u8 : Int) (M : Mm) : Prop := wp_X12_rest_106 S k53 post u0 u1 u2 u3 u4 u7 u8 u7 M
def wp_X12_rest_53 (S : Sh) (post : Int → Mm → Prop) : Nat → Int → Int → Int → Int → Int → Int → Int → Int → Mm → Prop
  | 0, _, _, _, _, _, _, _, _, _ => False
  | n + 1, u0, u1, u2, u3, u4, u5, u6, u7, M => wC 1 fun v3 => wO iShl v3 u2 fun v5 => wIf (v5 ≤ u7) (wIf (¬ u4 = 0) (post u6 M) (post u5 M)) (wp_X12_bits S M u7 <| fun v8 M7 => wIf (v8 = u3) (isK S u0 12 ∧ (wp_X12_turnedResting S M7 u0 u1 u2 u7 <| fun v11 M10 => wIf (u5 < 0) (wp_X12_rest_98 S (fun a0 a1 a2 a3 a4 a5 a6 a7 M => wp_X12_rest_53 S post n a0 a1 a2 a3 a4 a5 a6 a7 M) post u0 u1 u2 u3 u4 u7 v11 M10) (wIf (v11 < u6) (wp_X12_rest_98 S (fun a0 a1 a2 a3 a4 a5 a6 a7 M => wp_X12_rest_53 S post n a0 a1 a2 a3 a4 a5 a6 a7 M) post u0 u1 u2 u3 u4 u7 v11 M10) (wp_X12_rest_106 S (fun a0 a1 a2 a3 a4 a5 a6 a7 M => wp_X12_rest_53 S post n a0 a1 a2 a3 a4 a5 a6 a7 M) post u0 u1 u2 u3 u4 u5 u6 u7 M10)))) (wp_X12_rest_106 S (fun a0 a1 a2 a3 a4 a5 a6 a7 M => wp_X12_rest_53 S post n a0 a1 a2 a3 a4 a5 a6 a7 M) post u0 u1 u2 u3 u4 u5 u6 u7 M7))
def wp_X12_rest (S : Sh) (M : Mm) (u0 : Int) (u1 : Int) (u2 : Int) (u3 : Int) (u4 : Int) (post : Int → Mm → Prop) : Prop := isK S u0 12 ∧ (wp_X12_isHand S M u0 u1 <| fun v14 M13 => wIf (v14 = 0) (wC (-1) fun v16 => post v16 M13) (wC u2 fun v18 => wC 1 fun v20 => wC 10 fun v22 => wp_X12_in S M13 v18 v20 v22 <| fun v25 M24 => wIf (v25 = 0) (wC (-1) fun v27 => post v27 M24) (wC u3 fun v29 => wC 0 fun v31 => wC u2 fun v33 => wp_X12_in S M24 v29 v31 v33 <| fun v36 M35 => wIf (v36 = 0) (wC (-1) fun v38 => post v38 M35) (wC u4 fun v40 => wC 0 fun v42 => wC 1 fun v44 => wp_X12_in S M35 v40 v42 v44 <| fun v47 M46 => wIf (¬ v47 = 0) (wC (-1) fun v49 => wC 0 fun v51 => wC 0 fun v53 => ∃ n9 : Nat, wp_X12_rest_53 S post n9 u0 u1 u2 u3 u4 v49 v51 v53 M46) (wC (-1) fun v55 => post v55 M46)))))
set_option maxHeartbeats 4000000 in
set_option maxRecDepth 100000 in
theorem t_X12_rest_106 {p : Program} {l : Launch} {e : Env} {s : State} {m : MethodId} {args : Array Value} {below : List Frame} {meth : Method} {c : Code} {D : va_G} {G : Gt} {S : Sh} {post : Int → Mm → Prop} {k53 : Int → Int → Int → Int → Int → Int → Int → Int → Mm → Prop} (C : Cx p s m args meth c D G cX12_rest 9 (some .int) (cw_X12_rest :: gw) RX12) (hk53 : ∀ (y0 : Int) (y1 : Int32) (y2 : Int32) (y3 : Int32) (y4 : Int32) (y5 : Int32) (y6 : Int32) (y7 : Int32) (M : Mm) (H : Heap) (locs : List Loc) (ls : Array Slot), Wd D G S M H → va_S (aG G) s.heap H locs → lv_has ls 9 [(0, .ref (adr G y0)), (1, .int y1), (2, .int y2), (3, .int y3), (4, .int y4), (5, .int y5), (6, .int y6), (7, .int y7)] → k53 y0 y1.toInt y2.toInt y3.toInt y4.toInt y5.toInt y6.toInt y7.toInt M → W p l e RM_X12_rest s m args below meth c H locs 0 0 (MQ below (QI D G S post) args s 0 0 (aG G)) (F0 m 53 ls [])) : ∀ (xl0 : Int) (zl1 : Int32) (zl2 : Int32) (zl3 : Int32) (zl4 : Int32) (zl5 : Int32) (zl6 : Int32) (zl7 : Int32) (M : Mm) (H : Heap) (locs : List Loc) (ls : Array Slot), Wd D G S M H → va_S (aG G) s.heap H locs → lv_has ls 9 [(0, .ref (adr G xl0)), (1, .int zl1), (2, .int zl2), (3, .int zl3), (4, .int zl4), (5, .int zl5), (6, .int zl6), (7, .int zl7)] → wp_X12_rest_106 S k53 post xl0 zl1.toInt zl2.toInt zl3.toInt zl4.toInt zl5.toInt zl6.toInt zl7.toInt  M → W p l e RM_X12_rest s m args below meth c H locs 0 0 (MQ below (QI D G S post) args s 0 0 (aG G)) (F0 m 106 ls []) := by
  obtain ⟨hx, hb, hr, hlocks, hml, hown, hts, hK⟩ := id C
  intro xl0 zl1 zl2 zl3 zl4 zl5 zl6 zl7 M H locs ls hP hS hl h
  unfold wp_X12_rest_106 at h
  refine r_iinc hx hb (fun z2 => [(7, .int z2), (0, .ref (adr G xl0)), (1, .int zl1), (2, .int zl2), (3, .int zl3), (4, .int zl4), (5, .int zl5), (6, .int zl6)]) dX12_rest_106 (by decide) hl (k := 7) rfl (by decide) (fun _ => rfl) h (fun z2 ls hl h => ?_)
  refine lv_goto (tgt := 53) hx hb dX12_rest_109 (by decide) ?_
  exact hk53 xl0 zl1 zl2 zl3 zl4 zl5 zl6 z2 _ _ _ _ hP hS (lv_sub hl [1, 2, 3, 4, 5, 6, 7, 0] rfl) h
set_option maxHeartbeats 4000000 in
set_option maxRecDepth 100000 in
theorem t_X12_rest_98 {p : Program} {l : Launch} {e : Env} {s : State} {m : MethodId} {args : Array Value} {below : List Frame} {meth : Method} {c : Code} {D : va_G} {G : Gt} {S : Sh} {post : Int → Mm → Prop} {k53 : Int → Int → Int → Int → Int → Int → Int → Int → Mm → Prop} (C : Cx p s m args meth c D G cX12_rest 9 (some .int) (cw_X12_rest :: gw) RX12) (hk53 : ∀ (y0 : Int) (y1 : Int32) (y2 : Int32) (y3 : Int32) (y4 : Int32) (y5 : Int32) (y6 : Int32) (y7 : Int32) (M : Mm) (H : Heap) (locs : List Loc) (ls : Array Slot), Wd D G S M H → va_S (aG G) s.heap H locs → lv_has ls 9 [(0, .ref (adr G y0)), (1, .int y1), (2, .int y2), (3, .int y3), (4, .int y4), (5, .int y5), (6, .int y6), (7, .int y7)] → k53 y0 y1.toInt y2.toInt y3.toInt y4.toInt y5.toInt y6.toInt y7.toInt M → W p l e RM_X12_rest s m args below meth c H locs 0 0 (MQ below (QI D G S post) args s 0 0 (aG G)) (F0 m 53 ls [])) : ∀ (xl0 : Int) (zl1 : Int32) (zl2 : Int32) (zl3 : Int32) (zl4 : Int32) (zl7 : Int32) (zl8 : Int32) (M : Mm) (H : Heap) (locs : List Loc) (ls : Array Slot), Wd D G S M H → va_S (aG G) s.heap H locs → lv_has ls 9 [(0, .ref (adr G xl0)), (1, .int zl1), (2, .int zl2), (3, .int zl3), (4, .int zl4), (7, .int zl7), (8, .int zl8)] → wp_X12_rest_98 S k53 post xl0 zl1.toInt zl2.toInt zl3.toInt zl4.toInt zl7.toInt zl8.toInt  M → W p l e RM_X12_rest s m args below meth c H locs 0 0 (MQ below (QI D G S post) args s 0 0 (aG G)) (F0 m 98 ls []) := by
  obtain ⟨hx, hb, hr, hlocks, hml, hown, hts, hK⟩ := id C
  intro xl0 zl1 zl2 zl3 zl4 zl7 zl8 M H locs ls hP hS hl h
  unfold wp_X12_rest_98 at h
  refine lv_iload hx hb dX12_rest_98 (lv_at hl 5 rfl) ?_
  refine lv_istore (lv' := [(5, .int zl7), (0, .ref (adr G xl0)), (1, .int zl1), (2, .int zl2), (3, .int zl3), (4, .int zl4), (7, .int zl7), (8, .int zl8)]) hx hb dX12_rest_100 hl (by decide) rfl (fun ls hl => ?_)
  refine lv_iload hx hb dX12_rest_102 (lv_at hl 7 rfl) ?_
  refine lv_istore (lv' := [(6, .int zl8), (5, .int zl7), (0, .ref (adr G xl0)), (1, .int zl1), (2, .int zl2), (3, .int zl3), (4, .int zl4), (7, .int zl7), (8, .int zl8)]) hx hb dX12_rest_104 hl (by decide) rfl (fun ls hl => ?_)
  exact t_X12_rest_106 C hk53 xl0 zl1 zl2 zl3 zl4 zl7 zl8 zl7 _ _ _ _ hP hS (lv_sub hl [2, 3, 4, 5, 6, 1, 0, 7] rfl) h
set_option maxHeartbeats 4000000 in
set_option maxRecDepth 100000 in
theorem t_X12_rest_53 {p : Program} {l : Launch} {e : Env} {s : State} {m : MethodId} {args : Array Value} {below : List Frame} {meth : Method} {c : Code} {D : va_G} {G : Gt} {S : Sh} {post : Int → Mm → Prop} (C : Cx p s m args meth c D G cX12_rest 9 (some .int) (cw_X12_rest :: gw) RX12) : ∀ (n : Nat) (xl0 : Int) (zl1 : Int32) (zl2 : Int32) (zl3 : Int32) (zl4 : Int32) (zl5 : Int32) (zl6 : Int32) (zl7 : Int32) (M : Mm) (H : Heap) (locs : List Loc) (ls : Array Slot), Wd D G S M H → va_S (aG G) s.heap H locs → lv_has ls 9 [(0, .ref (adr G xl0)), (1, .int zl1), (2, .int zl2), (3, .int zl3), (4, .int zl4), (5, .int zl5), (6, .int zl6), (7, .int zl7)] → wp_X12_rest_53 S post n xl0 zl1.toInt zl2.toInt zl3.toInt zl4.toInt zl5.toInt zl6.toInt zl7.toInt  M → W p l e RM_X12_rest s m args below meth c H locs 0 0 (MQ below (QI D G S post) args s 0 0 (aG G)) (F0 m 53 ls []) := by
  obtain ⟨hx, hb, hr, hlocks, hml, hown, hts, hK⟩ := id C
  intro n
  induction n with
  | zero => intro xl0 zl1 zl2 zl3 zl4 zl5 zl6 zl7 M H locs ls hP hS hl h; exact h.elim
  | succ n ih =>
    intro xl0 zl1 zl2 zl3 zl4 zl5 zl6 zl7 M H locs ls hP hS hl h
    unfold wp_X12_rest_53 at h
    refine lv_iload hx hb dX12_rest_53 (lv_at hl 7 rfl) ?_
    refine r_iconst hx hb dX12_rest_55 (by decide) h (fun z4 h => ?_)
    refine lv_iload_n hx hb dX12_rest_56 rfl (lv_at hl 2 rfl) ?_
    refine r_ishl hx hb dX12_rest_57 h (fun z6 h => ?_)
    refine r_icmp_ge (tgt := 112) hx hb dX12_rest_58 (by decide) h (fun h => ?_) (fun h => ?_)
    · refine lv_iload hx hb dX12_rest_112 (lv_at hl 4 rfl) ?_
      refine r_if_ne (tgt := 122) hx hb dX12_rest_114 (by decide) h (fun h => ?_) (fun h => ?_)
      · refine lv_iload hx hb dX12_rest_122 (lv_at hl 6 rfl) ?_
        exact r_iret hx hb hr hlocks hP hS dX12_rest_124 h
      · refine lv_iload hx hb dX12_rest_117 (lv_at hl 5 rfl) ?_
        refine lv_goto (tgt := 124) hx hb dX12_rest_119 (by decide) ?_
        exact r_iret hx hb hr hlocks hP hS dX12_rest_124 h
    · refine lv_iload hx hb dX12_rest_61 (lv_at hl 7 rfl) ?_
      refine q_Si hx hb hml hown hts hK hP hS (c_X12_bits l D G S _ zl7 _ h) ⟨callB_of 1 hts (gw_good kw_1717) rfl rfl rfl (hts _ (List.mem_cons_of_mem _ kw_14)) (hts _ (List.mem_cons_of_mem _ kw_1715)) hd_X12_bits ⟨Nat.le_of_ble_eq_true rfl, Nat.le_of_ble_eq_true rfl⟩, (hts _ (List.mem_cons_of_mem _ kw_1716))⟩ rfl hl.1 rfl (lv_room (Nat.le_of_ble_eq_true rfl)) dX12_rest_63 ⟨Nat.zero_le _, Nat.zero_le _⟩ (fun z9 M7 H locs h hP hS => ?_)
      refine lv_iload_n hx hb dX12_rest_66 rfl (lv_at hl 3 rfl) ?_
      refine r_icmp_eq (tgt := 73) hx hb dX12_rest_67 (by decide) h (fun h => ?_) (fun h => ?_)
      · refine lv_aload_n hx hb dX12_rest_73 rfl (lv_at hl 0 rfl) ?_
        refine lv_iload_n hx hb dX12_rest_74 rfl (lv_at hl 1 rfl) ?_
        refine lv_iload_n hx hb dX12_rest_75 rfl (lv_at hl 2 rfl) ?_
        refine lv_iload hx hb dX12_rest_76 (lv_at hl 7 rfl) ?_
        refine q_Vi hx hb hml hown hts hK hP hS (c_X12_turnedResting l D G S _ xl0 zl1 zl2 zl7 _ h.2) ⟨callB_of 3 hts (gw_good kw_1874) rfl rfl rfl (hts _ (List.mem_cons_of_mem _ kw_14)) (hts _ (List.mem_cons_of_mem _ kw_1871)) hd_X12_turnedResting ⟨Nat.le_of_ble_eq_true rfl, Nat.le_of_ble_eq_true rfl⟩, (hts _ (List.mem_cons_of_mem _ kw_1873)), (hts _ (List.mem_cons_of_mem _ kp_124))⟩ h.1 (ci := 12) rfl (by decide) rfl hl.1 rfl (lv_room (Nat.le_of_ble_eq_true rfl)) dX12_rest_78 ⟨Nat.zero_le _, Nat.zero_le _⟩ (fun z12 M10 H locs h hP hS => ?_)
        refine lv_istore (lv' := [(8, .int z12), (0, .ref (adr G xl0)), (1, .int zl1), (2, .int zl2), (3, .int zl3), (4, .int zl4), (5, .int zl5), (6, .int zl6), (7, .int zl7)]) hx hb dX12_rest_81 hl (by decide) rfl (fun ls hl => ?_)
        refine lv_iload hx hb dX12_rest_83 (lv_at hl 6 rfl) ?_
        refine r_if_lt (tgt := 98) hx hb dX12_rest_85 (by decide) h (fun h => ?_) (fun h => ?_)
        · exact t_X12_rest_98 C ih xl0 zl1 zl2 zl3 zl4 zl7 z12 _ _ _ _ hP hS (lv_sub hl [1, 2, 3, 4, 5, 8, 0] rfl) h
        · refine lv_iload hx hb dX12_rest_88 (lv_at hl 0 rfl) ?_
          refine lv_iload hx hb dX12_rest_90 (lv_at hl 7 rfl) ?_
          refine r_icmp_lt (tgt := 98) hx hb dX12_rest_92 (by decide) h (fun h => ?_) (fun h => ?_)
          · exact t_X12_rest_98 C ih xl0 zl1 zl2 zl3 zl4 zl7 z12 _ _ _ _ hP hS (lv_sub hl [1, 2, 3, 4, 5, 8, 0] rfl) h
          · refine lv_goto (tgt := 106) hx hb dX12_rest_95 (by decide) ?_
            exact t_X12_rest_106 C ih xl0 zl1 zl2 zl3 zl4 zl5 zl6 zl7 _ _ _ _ hP hS (lv_sub hl [1, 2, 3, 4, 5, 6, 7, 8] rfl) h
      · refine lv_goto (tgt := 106) hx hb dX12_rest_70 (by decide) ?_
        exact t_X12_rest_106 C ih xl0 zl1 zl2 zl3 zl4 zl5 zl6 zl7 _ _ _ _ hP hS (lv_sub hl [0, 1, 2, 3, 4, 5, 6, 7] rfl) h
set_option maxHeartbeats 4000000 in
set_option maxRecDepth 100000 in
theorem c_X12_rest (l : Launch) (D : va_G) (G : Gt) (S : Sh) (M : Mm) (xl0 : Int) (zl1 : Int32) (zl2 : Int32) (zl3 : Int32) (zl4 : Int32) (post : Int → Mm → Prop) (h : wp_X12_rest S M xl0 zl1.toInt zl2.toInt zl3.toInt zl4.toInt post) : Met l yX12_rest (cw_X12_rest :: gw) RM_X12_rest (va_Pc [.ref (adr G xl0), .int zl1, .int zl2, .int zl3, .int zl4] (fun U => KN D G U ∧ Wd D G S M U.heap)) (QI D G S post) 0 0 (aG G) := by
  refine Met.ofW (cc := cX12_rest) (maxL := 9) (ret := (some .int)) (by decide) rfl ?_
  intro p e s m args below meth c s₁ B hml hv
  obtain ⟨rfl, hK, hP⟩ := hv
  have hx := B.exec
  have hb := B.bytes
  have hr := B.returns
  have hts := atoms_spec (ws := cw_X12_rest :: gw) B.pre
  have hown : s.vm.findClass RX12 = some m.cls := findClass_of_methodNamed B.named
  have hlocks := B.notSynchronized
  have hS : va_S (aG G) s.heap s.heap [] := va_S.rf
  have C : Cx p s m ([.ref (adr G xl0), .int zl1, .int zl2, .int zl3, .int zl4] : List Value).toArray meth c D G cX12_rest 9 (some .int) (cw_X12_rest :: gw) RX12 := ⟨hx, hb, hr, hlocks, hml, hown, hts, hK⟩
  have hl := lv_entry ([.ref (adr G xl0), .int zl1, .int zl2, .int zl3, .int zl4]) (n := 9) (Nat.le_of_ble_eq_true rfl)
  rw [lg_entry_eq]
  generalize (lg_sl ([.ref (adr G xl0), .int zl1, .int zl2, .int zl3, .int zl4]) ++ List.replicate (9 - (lg_sl ([.ref (adr G xl0), .int zl1, .int zl2, .int zl3, .int zl4])).length) Slot.unset).toArray = ls at hl ⊢
  have hl : lv_has ls 9 [(0, .ref (adr G xl0)), (1, .int zl1), (2, .int zl2), (3, .int zl3), (4, .int zl4)] := hl
  unfold wp_X12_rest at h
  refine lv_aload_n hx hb dX12_rest_0 rfl (lv_at hl 0 rfl) ?_
  refine lv_iload_n hx hb dX12_rest_1 rfl (lv_at hl 1 rfl) ?_
  refine q_Vi hx hb hml hown hts hK hP hS (c_X12_isHand l D G S _ xl0 zl1 _ h.2) ⟨callB_of 1 hts (gw_good kw_1645) rfl rfl rfl (hts _ (List.mem_cons_of_mem _ kw_14)) (hts _ (List.mem_cons_of_mem _ kw_1642)) hd_X12_isHand ⟨Nat.le_of_ble_eq_true rfl, Nat.le_of_ble_eq_true rfl⟩, (hts _ (List.mem_cons_of_mem _ kw_1644)), (hts _ (List.mem_cons_of_mem _ kp_87))⟩ h.1 (ci := 12) rfl (by decide) rfl hl.1 rfl (lv_room (Nat.le_of_ble_eq_true rfl)) dX12_rest_2 ⟨Nat.zero_le _, Nat.zero_le _⟩ (fun z15 M13 H locs h hP hS => ?_)
  refine r_if_eq (tgt := 42) hx hb dX12_rest_5 (by decide) h (fun h => ?_) (fun h => ?_)
  · refine r_iconst hx hb dX12_rest_42 (by decide) h (fun z17 h => ?_)
    exact r_iret hx hb hr hlocks hP hS dX12_rest_43 h
  · refine lv_iload_n hx hb dX12_rest_8 rfl (lv_at hl 2 rfl) ?_
    refine r_i2l hx hb dX12_rest_9 h (fun z19 h => ?_)
    refine r_lconst hx hb dX12_rest_10 (v := 1) (by decide) h (fun z21 h => ?_)
    refine r_ldc2 hx hb hown (hts _ (List.mem_cons_of_mem _ kw_1870)) dX12_rest_11 (n := 10) (by decide) h (fun z23 h => ?_)
    refine q_Si hx hb hml hown hts hK hP hS (c_X12_in l D G S _ z19 z21 z23 _ h) ⟨callB_of 3 hts (gw_good kw_1523) rfl rfl rfl (hts _ (List.mem_cons_of_mem _ kw_14)) (hts _ (List.mem_cons_of_mem _ kw_1521)) hd_X12_in ⟨Nat.le_of_ble_eq_true rfl, Nat.le_of_ble_eq_true rfl⟩, (hts _ (List.mem_cons_of_mem _ kw_1522))⟩ rfl hl.1 rfl (lv_room (Nat.le_of_ble_eq_true rfl)) dX12_rest_14 ⟨Nat.zero_le _, Nat.zero_le _⟩ (fun z26 M24 H locs h hP hS => ?_)
    refine r_if_eq (tgt := 42) hx hb dX12_rest_17 (by decide) h (fun h => ?_) (fun h => ?_)
    · refine r_iconst hx hb dX12_rest_42 (by decide) h (fun z28 h => ?_)
      exact r_iret hx hb hr hlocks hP hS dX12_rest_43 h
    · refine lv_iload_n hx hb dX12_rest_20 rfl (lv_at hl 3 rfl) ?_
      refine r_i2l hx hb dX12_rest_21 h (fun z30 h => ?_)
      refine r_lconst hx hb dX12_rest_22 (v := 0) (by decide) h (fun z32 h => ?_)
      refine lv_iload_n hx hb dX12_rest_23 rfl (lv_at hl 2 rfl) ?_
      refine r_i2l hx hb dX12_rest_24 h (fun z34 h => ?_)
      refine q_Si hx hb hml hown hts hK hP hS (c_X12_in l D G S _ z30 z32 z34 _ h) ⟨callB_of 3 hts (gw_good kw_1523) rfl rfl rfl (hts _ (List.mem_cons_of_mem _ kw_14)) (hts _ (List.mem_cons_of_mem _ kw_1521)) hd_X12_in ⟨Nat.le_of_ble_eq_true rfl, Nat.le_of_ble_eq_true rfl⟩, (hts _ (List.mem_cons_of_mem _ kw_1522))⟩ rfl hl.1 rfl (lv_room (Nat.le_of_ble_eq_true rfl)) dX12_rest_25 ⟨Nat.zero_le _, Nat.zero_le _⟩ (fun z37 M35 H locs h hP hS => ?_)
      refine r_if_eq (tgt := 42) hx hb dX12_rest_28 (by decide) h (fun h => ?_) (fun h => ?_)
      · refine r_iconst hx hb dX12_rest_42 (by decide) h (fun z39 h => ?_)
        exact r_iret hx hb hr hlocks hP hS dX12_rest_43 h
      · refine lv_iload hx hb dX12_rest_31 (lv_at hl 4 rfl) ?_
        refine r_i2l hx hb dX12_rest_33 h (fun z41 h => ?_)
        refine r_lconst hx hb dX12_rest_34 (v := 0) (by decide) h (fun z43 h => ?_)
        refine r_lconst hx hb dX12_rest_35 (v := 1) (by decide) h (fun z45 h => ?_)
        refine q_Si hx hb hml hown hts hK hP hS (c_X12_in l D G S _ z41 z43 z45 _ h) ⟨callB_of 3 hts (gw_good kw_1523) rfl rfl rfl (hts _ (List.mem_cons_of_mem _ kw_14)) (hts _ (List.mem_cons_of_mem _ kw_1521)) hd_X12_in ⟨Nat.le_of_ble_eq_true rfl, Nat.le_of_ble_eq_true rfl⟩, (hts _ (List.mem_cons_of_mem _ kw_1522))⟩ rfl hl.1 rfl (lv_room (Nat.le_of_ble_eq_true rfl)) dX12_rest_36 ⟨Nat.zero_le _, Nat.zero_le _⟩ (fun z48 M46 H locs h hP hS => ?_)
        refine r_if_ne (tgt := 44) hx hb dX12_rest_39 (by decide) h (fun h => ?_) (fun h => ?_)
        · refine r_iconst hx hb dX12_rest_44 (by decide) h (fun z50 h => ?_)
          refine lv_istore (lv' := [(5, .int z50), (0, .ref (adr G xl0)), (1, .int zl1), (2, .int zl2), (3, .int zl3), (4, .int zl4)]) hx hb dX12_rest_45 hl (by decide) rfl (fun ls hl => ?_)
          refine r_iconst hx hb dX12_rest_47 (by decide) h (fun z52 h => ?_)
          refine lv_istore (lv' := [(6, .int z52), (5, .int z50), (0, .ref (adr G xl0)), (1, .int zl1), (2, .int zl2), (3, .int zl3), (4, .int zl4)]) hx hb dX12_rest_48 hl (by decide) rfl (fun ls hl => ?_)
          refine r_iconst hx hb dX12_rest_50 (by decide) h (fun z54 h => ?_)
          refine lv_istore (lv' := [(7, .int z54), (6, .int z52), (5, .int z50), (0, .ref (adr G xl0)), (1, .int zl1), (2, .int zl2), (3, .int zl3), (4, .int zl4)]) hx hb dX12_rest_51 hl (by decide) rfl (fun ls hl => ?_)
          obtain ⟨n9, h⟩ := h
          exact t_X12_rest_53 C n9 xl0 zl1 zl2 zl3 zl4 z50 z52 z54 _ _ _ _ hP hS (lv_sub hl [3, 4, 5, 6, 7, 2, 1, 0] rfl) h
        · refine r_iconst hx hb dX12_rest_42 (by decide) h (fun z56 h => ?_)
          exact r_iret hx hb hr hlocks hP hS dX12_rest_43 h
/-! TurningMilkModel.test(IIII)I -/
abbrev RM_X12_test : Room := { frames := 2, cells := 0, slots := 0, locals := 65 }
def cw_X12_test : Cond := Cond.code yX12_test cX12_test 6 (Option.some FieldType.int)
theorem hd_X12_test : yX12_test.cls ≠ "java/lang/invoke/MethodHandle" ∧ yX12_test.cls ≠ "java/lang/invoke/VarHandle" ∧ (parseMethodDescriptor yX12_test.desc).map (fun d => d.parameters.length) = some 4 := by decide +kernel
theorem dX12_test_0 : decode cX12_test 0 = .ok (.iload_n 2, 1) := by decide +kernel
theorem dX12_test_1 : decode cX12_test 1 = .ok (.iconst (-1), 1) := by decide +kernel
theorem dX12_test_2 : decode cX12_test 2 = .ok (.if_icmp .ne 14, 3) := by decide +kernel
theorem dX12_test_5 : decode cX12_test 5 = .ok (.aload_n 0, 1) := by decide +kernel
theorem dX12_test_6 : decode cX12_test 6 = .ok (.getfield 39, 3) := by decide +kernel
theorem dX12_test_9 : decode cX12_test 9 = .ok (.sipush 157, 3) := by decide +kernel
theorem dX12_test_12 : decode cX12_test 12 = .ok (.iconst 0, 1) := by decide +kernel
theorem dX12_test_13 : decode cX12_test 13 = .ok (.iastore, 1) := by decide +kernel
theorem dX12_test_14 : decode cX12_test 14 = .ok (.iconst 0, 1) := by decide +kernel
theorem dX12_test_15 : decode cX12_test 15 = .ok (.ireturn, 1) := by decide +kernel
theorem dX12_test_16 : decode cX12_test 16 = .ok (.aload_n 0, 1) := by decide +kernel
theorem dX12_test_17 : decode cX12_test 17 = .ok (.invokevirtual 350, 3) := by decide +kernel
theorem dX12_test_20 : decode cX12_test 20 = .ok (.ifCond .eq 65, 3) := by decide +kernel
theorem dX12_test_23 : decode cX12_test 23 = .ok (.iload_n 1, 1) := by decide +kernel
theorem dX12_test_24 : decode cX12_test 24 = .ok (.i2l, 1) := by decide +kernel
theorem dX12_test_25 : decode cX12_test 25 = .ok (.lconst 0, 1) := by decide +kernel
theorem dX12_test_26 : decode cX12_test 26 = .ok (.ldc2_w 407, 3) := by decide +kernel
theorem dX12_test_29 : decode cX12_test 29 = .ok (.invokestatic 118, 3) := by decide +kernel
theorem dX12_test_32 : decode cX12_test 32 = .ok (.ifCond .eq 53, 3) := by decide +kernel
theorem dX12_test_35 : decode cX12_test 35 = .ok (.iload_n 2, 1) := by decide +kernel
theorem dX12_test_36 : decode cX12_test 36 = .ok (.i2l, 1) := by decide +kernel
theorem dX12_test_37 : decode cX12_test 37 = .ok (.lconst 1, 1) := by decide +kernel
theorem dX12_test_38 : decode cX12_test 38 = .ok (.ldc2_w 432, 3) := by decide +kernel
theorem dX12_test_41 : decode cX12_test 41 = .ok (.invokestatic 118, 3) := by decide +kernel
theorem dX12_test_44 : decode cX12_test 44 = .ok (.ifCond .eq 41, 3) := by decide +kernel
theorem dX12_test_47 : decode cX12_test 47 = .ok (.iload_n 3, 1) := by decide +kernel
theorem dX12_test_48 : decode cX12_test 48 = .ok (.i2l, 1) := by decide +kernel
theorem dX12_test_49 : decode cX12_test 49 = .ok (.lconst 0, 1) := by decide +kernel
theorem dX12_test_50 : decode cX12_test 50 = .ok (.ldc2_w 434, 3) := by decide +kernel
theorem dX12_test_53 : decode cX12_test 53 = .ok (.invokestatic 118, 3) := by decide +kernel
theorem dX12_test_56 : decode cX12_test 56 = .ok (.ifCond .eq 29, 3) := by decide +kernel
theorem dX12_test_59 : decode cX12_test 59 = .ok (.iload 4, 2) := by decide +kernel
theorem dX12_test_61 : decode cX12_test 61 = .ok (.i2l, 1) := by decide +kernel
theorem dX12_test_62 : decode cX12_test 62 = .ok (.lconst 0, 1) := by decide +kernel
theorem dX12_test_63 : decode cX12_test 63 = .ok (.ldc2_w 407, 3) := by decide +kernel
theorem dX12_test_66 : decode cX12_test 66 = .ok (.invokestatic 118, 3) := by decide +kernel
theorem dX12_test_69 : decode cX12_test 69 = .ok (.ifCond .eq 16, 3) := by decide +kernel
theorem dX12_test_72 : decode cX12_test 72 = .ok (.aload_n 0, 1) := by decide +kernel
theorem dX12_test_73 : decode cX12_test 73 = .ok (.getfield 39, 3) := by decide +kernel
theorem dX12_test_76 : decode cX12_test 76 = .ok (.sipush 157, 3) := by decide +kernel
theorem dX12_test_79 : decode cX12_test 79 = .ok (.iaload, 1) := by decide +kernel
theorem dX12_test_80 : decode cX12_test 80 = .ok (.bipush 10, 2) := by decide +kernel
theorem dX12_test_82 : decode cX12_test 82 = .ok (.if_icmp .ne 6, 3) := by decide +kernel
theorem dX12_test_85 : decode cX12_test 85 = .ok (.bipush (-2), 2) := by decide +kernel
theorem dX12_test_87 : decode cX12_test 87 = .ok (.ireturn, 1) := by decide +kernel
theorem dX12_test_88 : decode cX12_test 88 = .ok (.bipush 117, 2) := by decide +kernel
theorem dX12_test_90 : decode cX12_test 90 = .ok (.iconst 4, 1) := by decide +kernel
theorem dX12_test_91 : decode cX12_test 91 = .ok (.aload_n 0, 1) := by decide +kernel
theorem dX12_test_92 : decode cX12_test 92 = .ok (.getfield 39, 3) := by decide +kernel
theorem dX12_test_95 : decode cX12_test 95 = .ok (.sipush 157, 3) := by decide +kernel
theorem dX12_test_98 : decode cX12_test 98 = .ok (.iaload, 1) := by decide +kernel
theorem dX12_test_99 : decode cX12_test 99 = .ok (.imul, 1) := by decide +kernel
theorem dX12_test_100 : decode cX12_test 100 = .ok (.iadd, 1) := by decide +kernel
theorem dX12_test_101 : decode cX12_test 101 = .ok (.istore 5, 2) := by decide +kernel
theorem dX12_test_103 : decode cX12_test 103 = .ok (.aload_n 0, 1) := by decide +kernel
theorem dX12_test_104 : decode cX12_test 104 = .ok (.getfield 39, 3) := by decide +kernel
theorem dX12_test_107 : decode cX12_test 107 = .ok (.iload 5, 2) := by decide +kernel
theorem dX12_test_109 : decode cX12_test 109 = .ok (.iload_n 1, 1) := by decide +kernel
theorem dX12_test_110 : decode cX12_test 110 = .ok (.iastore, 1) := by decide +kernel
theorem dX12_test_111 : decode cX12_test 111 = .ok (.aload_n 0, 1) := by decide +kernel
theorem dX12_test_112 : decode cX12_test 112 = .ok (.getfield 39, 3) := by decide +kernel
theorem dX12_test_115 : decode cX12_test 115 = .ok (.iload 5, 2) := by decide +kernel
theorem dX12_test_117 : decode cX12_test 117 = .ok (.iconst 1, 1) := by decide +kernel
theorem dX12_test_118 : decode cX12_test 118 = .ok (.iadd, 1) := by decide +kernel
theorem dX12_test_119 : decode cX12_test 119 = .ok (.iload_n 2, 1) := by decide +kernel
theorem dX12_test_120 : decode cX12_test 120 = .ok (.iastore, 1) := by decide +kernel
theorem dX12_test_121 : decode cX12_test 121 = .ok (.aload_n 0, 1) := by decide +kernel
theorem dX12_test_122 : decode cX12_test 122 = .ok (.getfield 39, 3) := by decide +kernel
theorem dX12_test_125 : decode cX12_test 125 = .ok (.iload 5, 2) := by decide +kernel
theorem dX12_test_127 : decode cX12_test 127 = .ok (.iconst 2, 1) := by decide +kernel
theorem dX12_test_128 : decode cX12_test 128 = .ok (.iadd, 1) := by decide +kernel
theorem dX12_test_129 : decode cX12_test 129 = .ok (.iload_n 3, 1) := by decide +kernel
theorem dX12_test_130 : decode cX12_test 130 = .ok (.iastore, 1) := by decide +kernel
theorem dX12_test_131 : decode cX12_test 131 = .ok (.aload_n 0, 1) := by decide +kernel
theorem dX12_test_132 : decode cX12_test 132 = .ok (.getfield 39, 3) := by decide +kernel
theorem dX12_test_135 : decode cX12_test 135 = .ok (.iload 5, 2) := by decide +kernel
theorem dX12_test_137 : decode cX12_test 137 = .ok (.iconst 3, 1) := by decide +kernel
theorem dX12_test_138 : decode cX12_test 138 = .ok (.iadd, 1) := by decide +kernel
theorem dX12_test_139 : decode cX12_test 139 = .ok (.iload 4, 2) := by decide +kernel
theorem dX12_test_141 : decode cX12_test 141 = .ok (.iastore, 1) := by decide +kernel
theorem dX12_test_142 : decode cX12_test 142 = .ok (.aload_n 0, 1) := by decide +kernel
theorem dX12_test_143 : decode cX12_test 143 = .ok (.getfield 39, 3) := by decide +kernel
theorem dX12_test_146 : decode cX12_test 146 = .ok (.sipush 157, 3) := by decide +kernel
theorem dX12_test_149 : decode cX12_test 149 = .ok (.dup2, 1) := by decide +kernel
theorem dX12_test_150 : decode cX12_test 150 = .ok (.iaload, 1) := by decide +kernel
theorem dX12_test_151 : decode cX12_test 151 = .ok (.iconst 1, 1) := by decide +kernel
theorem dX12_test_152 : decode cX12_test 152 = .ok (.iadd, 1) := by decide +kernel
theorem dX12_test_153 : decode cX12_test 153 = .ok (.iastore, 1) := by decide +kernel
theorem dX12_test_154 : decode cX12_test 154 = .ok (.aload_n 0, 1) := by decide +kernel
theorem dX12_test_155 : decode cX12_test 155 = .ok (.getfield 39, 3) := by decide +kernel
theorem dX12_test_158 : decode cX12_test 158 = .ok (.sipush 157, 3) := by decide +kernel
theorem dX12_test_161 : decode cX12_test 161 = .ok (.iaload, 1) := by decide +kernel
theorem dX12_test_162 : decode cX12_test 162 = .ok (.ireturn, 1) := by decide +kernel
def wp_X12_test (S : Sh) (M : Mm) (u0 : Int) (u1 : Int) (u2 : Int) (u3 : Int) (u4 : Int) (post : Int → Mm → Prop) : Prop := wC (-1) fun v1 => wIf (¬ u2 = v1) (isK S u0 12 ∧ (wp_X12_isDairy S M u0 <| fun v4 M3 => wIf (v4 = 0) (wC (-2) fun v6 => post v6 M3) (wC u1 fun v8 => wC 0 fun v10 => wC 999 fun v12 => wp_X12_in S M3 v8 v10 v12 <| fun v15 M14 => wIf (v15 = 0) (wC (-2) fun v17 => post v17 M14) (wC u2 fun v19 => wC 1 fun v21 => wC 20 fun v23 => wp_X12_in S M14 v19 v21 v23 <| fun v26 M25 => wIf (v26 = 0) (wC (-2) fun v28 => post v28 M25) (wC u3 fun v30 => wC 0 fun v32 => wC 99 fun v34 => wp_X12_in S M25 v30 v32 v34 <| fun v37 M36 => wIf (v37 = 0) (wC (-2) fun v39 => post v39 M36) (wC u4 fun v41 => wC 0 fun v43 => wC 999 fun v45 => wp_X12_in S M36 v41 v43 v45 <| fun v48 M47 => wIf (v48 = 0) (wC (-2) fun v50 => post v50 M47) (wGetR S M47 u0 12 20 fun v52 => wC 157 fun v54 => wLd S M47 v52 14 v54 fun v56 => wC 10 fun v58 => wIf (¬ v56 = v58) (wC 117 fun v60 => wC 4 fun v62 => wGetR S M47 u0 12 20 fun v64 => wC 157 fun v66 => wLd S M47 v64 14 v66 fun v68 => wM v62 v68 fun v70 => wA v60 v70 fun v72 => wGetR S M47 u0 12 20 fun v74 => wSt S M47 v74 14 v72 u1 fun M76 => wGetR S M76 u0 12 20 fun v77 => wC 1 fun v79 => wA v72 v79 fun v81 => wSt S M76 v77 14 v81 u2 fun M83 => wGetR S M83 u0 12 20 fun v84 => wC 2 fun v86 => wA v72 v86 fun v88 => wSt S M83 v84 14 v88 u3 fun M90 => wGetR S M90 u0 12 20 fun v91 => wC 3 fun v93 => wA v72 v93 fun v95 => wSt S M90 v91 14 v95 u4 fun M97 => wGetR S M97 u0 12 20 fun v98 => wC 157 fun v100 => wLd S M97 v98 14 v100 fun v102 => wC 1 fun v104 => wA v102 v104 fun v106 => wSt S M97 v98 14 v100 v106 fun M108 => wGetR S M108 u0 12 20 fun v109 => wC 157 fun v111 => wLd S M108 v109 14 v111 fun v113 => post v113 M108) (wC (-2) fun v115 => post v115 M47)))))))) (wGetR S M u0 12 20 fun v117 => wC 157 fun v119 => wC 0 fun v121 => wSt S M v117 14 v119 v121 fun M123 => wC 0 fun v124 => post v124 M123)
set_option maxHeartbeats 4000000 in
set_option maxRecDepth 100000 in
theorem c_X12_test (l : Launch) (D : va_G) (G : Gt) (S : Sh) (M : Mm) (xl0 : Int) (zl1 : Int32) (zl2 : Int32) (zl3 : Int32) (zl4 : Int32) (post : Int → Mm → Prop) (h : wp_X12_test S M xl0 zl1.toInt zl2.toInt zl3.toInt zl4.toInt post) : Met l yX12_test (cw_X12_test :: gw) RM_X12_test (va_Pc [.ref (adr G xl0), .int zl1, .int zl2, .int zl3, .int zl4] (fun U => KN D G U ∧ Wd D G S M U.heap)) (QI D G S post) 0 0 (aG G) := by
  refine Met.ofW (cc := cX12_test) (maxL := 6) (ret := (some .int)) (by decide) rfl ?_
  intro p e s m args below meth c s₁ B hml hv
  obtain ⟨rfl, hK, hP⟩ := hv
  have hx := B.exec
  have hb := B.bytes
  have hr := B.returns
  have hts := atoms_spec (ws := cw_X12_test :: gw) B.pre
  have hown : s.vm.findClass RX12 = some m.cls := findClass_of_methodNamed B.named
  have hlocks := B.notSynchronized
  have hS : va_S (aG G) s.heap s.heap [] := va_S.rf
  have C : Cx p s m ([.ref (adr G xl0), .int zl1, .int zl2, .int zl3, .int zl4] : List Value).toArray meth c D G cX12_test 6 (some .int) (cw_X12_test :: gw) RX12 := ⟨hx, hb, hr, hlocks, hml, hown, hts, hK⟩
  have hl := lv_entry ([.ref (adr G xl0), .int zl1, .int zl2, .int zl3, .int zl4]) (n := 6) (Nat.le_of_ble_eq_true rfl)
  rw [lg_entry_eq]
  generalize (lg_sl ([.ref (adr G xl0), .int zl1, .int zl2, .int zl3, .int zl4]) ++ List.replicate (6 - (lg_sl ([.ref (adr G xl0), .int zl1, .int zl2, .int zl3, .int zl4])).length) Slot.unset).toArray = ls at hl ⊢
  have hl : lv_has ls 6 [(0, .ref (adr G xl0)), (1, .int zl1), (2, .int zl2), (3, .int zl3), (4, .int zl4)] := hl
  unfold wp_X12_test at h
  refine lv_iload_n hx hb dX12_test_0 rfl (lv_at hl 2 rfl) ?_
  refine r_iconst hx hb dX12_test_1 (by decide) h (fun z2 h => ?_)
  refine r_icmp_ne (tgt := 16) hx hb dX12_test_2 (by decide) h (fun h => ?_) (fun h => ?_)
  · refine lv_aload_n hx hb dX12_test_16 rfl (lv_at hl 0 rfl) ?_
    refine q_Vi hx hb hml hown hts hK hP hS (c_X12_isDairy l D G S _ xl0 _ h.2) ⟨callB_of 0 hts (gw_good kw_1698) rfl rfl rfl (hts _ (List.mem_cons_of_mem _ kw_14)) (hts _ (List.mem_cons_of_mem _ kw_1695)) hd_X12_isDairy ⟨Nat.le_of_ble_eq_true rfl, Nat.le_of_ble_eq_true rfl⟩, (hts _ (List.mem_cons_of_mem _ kw_1697)), (hts _ (List.mem_cons_of_mem _ kp_96))⟩ h.1 (ci := 12) rfl (by decide) rfl hl.1 rfl (lv_room (Nat.le_of_ble_eq_true rfl)) dX12_test_17 ⟨Nat.zero_le _, Nat.zero_le _⟩ (fun z5 M3 H locs h hP hS => ?_)
    refine r_if_eq (tgt := 85) hx hb dX12_test_20 (by decide) h (fun h => ?_) (fun h => ?_)
    · refine r_bipush hx hb dX12_test_85 (by decide) h (fun z7 h => ?_)
      exact r_iret hx hb hr hlocks hP hS dX12_test_87 h
    · refine lv_iload_n hx hb dX12_test_23 rfl (lv_at hl 1 rfl) ?_
      refine r_i2l hx hb dX12_test_24 h (fun z9 h => ?_)
      refine r_lconst hx hb dX12_test_25 (v := 0) (by decide) h (fun z11 h => ?_)
      refine r_ldc2 hx hb hown (hts _ (List.mem_cons_of_mem _ kw_1834)) dX12_test_26 (n := 999) (by decide) h (fun z13 h => ?_)
      refine q_Si hx hb hml hown hts hK hP hS (c_X12_in l D G S _ z9 z11 z13 _ h) ⟨callB_of 3 hts (gw_good kw_1523) rfl rfl rfl (hts _ (List.mem_cons_of_mem _ kw_14)) (hts _ (List.mem_cons_of_mem _ kw_1521)) hd_X12_in ⟨Nat.le_of_ble_eq_true rfl, Nat.le_of_ble_eq_true rfl⟩, (hts _ (List.mem_cons_of_mem _ kw_1522))⟩ rfl hl.1 rfl (lv_room (Nat.le_of_ble_eq_true rfl)) dX12_test_29 ⟨Nat.zero_le _, Nat.zero_le _⟩ (fun z16 M14 H locs h hP hS => ?_)
      refine r_if_eq (tgt := 85) hx hb dX12_test_32 (by decide) h (fun h => ?_) (fun h => ?_)
      · refine r_bipush hx hb dX12_test_85 (by decide) h (fun z18 h => ?_)
        exact r_iret hx hb hr hlocks hP hS dX12_test_87 h
      · refine lv_iload_n hx hb dX12_test_35 rfl (lv_at hl 2 rfl) ?_
        refine r_i2l hx hb dX12_test_36 h (fun z20 h => ?_)
        refine r_lconst hx hb dX12_test_37 (v := 1) (by decide) h (fun z22 h => ?_)
        refine r_ldc2 hx hb hown (hts _ (List.mem_cons_of_mem _ kw_1879)) dX12_test_38 (n := 20) (by decide) h (fun z24 h => ?_)
        refine q_Si hx hb hml hown hts hK hP hS (c_X12_in l D G S _ z20 z22 z24 _ h) ⟨callB_of 3 hts (gw_good kw_1523) rfl rfl rfl (hts _ (List.mem_cons_of_mem _ kw_14)) (hts _ (List.mem_cons_of_mem _ kw_1521)) hd_X12_in ⟨Nat.le_of_ble_eq_true rfl, Nat.le_of_ble_eq_true rfl⟩, (hts _ (List.mem_cons_of_mem _ kw_1522))⟩ rfl hl.1 rfl (lv_room (Nat.le_of_ble_eq_true rfl)) dX12_test_41 ⟨Nat.zero_le _, Nat.zero_le _⟩ (fun z27 M25 H locs h hP hS => ?_)
        refine r_if_eq (tgt := 85) hx hb dX12_test_44 (by decide) h (fun h => ?_) (fun h => ?_)
        · refine r_bipush hx hb dX12_test_85 (by decide) h (fun z29 h => ?_)
          exact r_iret hx hb hr hlocks hP hS dX12_test_87 h
        · refine lv_iload_n hx hb dX12_test_47 rfl (lv_at hl 3 rfl) ?_
          refine r_i2l hx hb dX12_test_48 h (fun z31 h => ?_)
          refine r_lconst hx hb dX12_test_49 (v := 0) (by decide) h (fun z33 h => ?_)
          refine r_ldc2 hx hb hown (hts _ (List.mem_cons_of_mem _ kw_1880)) dX12_test_50 (n := 99) (by decide) h (fun z35 h => ?_)
          refine q_Si hx hb hml hown hts hK hP hS (c_X12_in l D G S _ z31 z33 z35 _ h) ⟨callB_of 3 hts (gw_good kw_1523) rfl rfl rfl (hts _ (List.mem_cons_of_mem _ kw_14)) (hts _ (List.mem_cons_of_mem _ kw_1521)) hd_X12_in ⟨Nat.le_of_ble_eq_true rfl, Nat.le_of_ble_eq_true rfl⟩, (hts _ (List.mem_cons_of_mem _ kw_1522))⟩ rfl hl.1 rfl (lv_room (Nat.le_of_ble_eq_true rfl)) dX12_test_53 ⟨Nat.zero_le _, Nat.zero_le _⟩ (fun z38 M36 H locs h hP hS => ?_)
          refine r_if_eq (tgt := 85) hx hb dX12_test_56 (by decide) h (fun h => ?_) (fun h => ?_)
          · refine r_bipush hx hb dX12_test_85 (by decide) h (fun z40 h => ?_)
            exact r_iret hx hb hr hlocks hP hS dX12_test_87 h
          · refine lv_iload hx hb dX12_test_59 (lv_at hl 4 rfl) ?_
            refine r_i2l hx hb dX12_test_61 h (fun z42 h => ?_)
            refine r_lconst hx hb dX12_test_62 (v := 0) (by decide) h (fun z44 h => ?_)
            refine r_ldc2 hx hb hown (hts _ (List.mem_cons_of_mem _ kw_1834)) dX12_test_63 (n := 999) (by decide) h (fun z46 h => ?_)
            refine q_Si hx hb hml hown hts hK hP hS (c_X12_in l D G S _ z42 z44 z46 _ h) ⟨callB_of 3 hts (gw_good kw_1523) rfl rfl rfl (hts _ (List.mem_cons_of_mem _ kw_14)) (hts _ (List.mem_cons_of_mem _ kw_1521)) hd_X12_in ⟨Nat.le_of_ble_eq_true rfl, Nat.le_of_ble_eq_true rfl⟩, (hts _ (List.mem_cons_of_mem _ kw_1522))⟩ rfl hl.1 rfl (lv_room (Nat.le_of_ble_eq_true rfl)) dX12_test_66 ⟨Nat.zero_le _, Nat.zero_le _⟩ (fun z49 M47 H locs h hP hS => ?_)
            refine r_if_eq (tgt := 85) hx hb dX12_test_69 (by decide) h (fun h => ?_) (fun h => ?_)
            · refine r_bipush hx hb dX12_test_85 (by decide) h (fun z51 h => ?_)
              exact r_iret hx hb hr hlocks hP hS dX12_test_87 h
            · refine lv_aload_n hx hb dX12_test_72 rfl (lv_at hl 0 rfl) ?_
              refine r_getr (C := RX12) (T := TX12) (N := 38) hx hb hts (fun w h => List.mem_cons_of_mem _ (iX12 w h)) hown hK hP rfl (by decide) rfl 20 (by decide) (hts _ (List.mem_cons_of_mem _ kw_1354)) (fun _ h9 => h9) dX12_test_73 (by decide) h (fun x53 h => ?_)
              refine r_sipush hx hb dX12_test_76 (by decide) h (fun z55 h => ?_)
              refine r_iald hx hb hK hP dX12_test_79 h (fun z57 h => ?_)
              refine r_bipush hx hb dX12_test_80 (by decide) h (fun z59 h => ?_)
              refine r_icmp_ne (tgt := 88) hx hb dX12_test_82 (by decide) h (fun h => ?_) (fun h => ?_)
              · refine r_bipush hx hb dX12_test_88 (by decide) h (fun z61 h => ?_)
                refine r_iconst hx hb dX12_test_90 (by decide) h (fun z63 h => ?_)
                refine lv_aload_n hx hb dX12_test_91 rfl (lv_at hl 0 rfl) ?_
                refine r_getr (C := RX12) (T := TX12) (N := 38) hx hb hts (fun w h => List.mem_cons_of_mem _ (iX12 w h)) hown hK hP rfl (by decide) rfl 20 (by decide) (hts _ (List.mem_cons_of_mem _ kw_1354)) (fun _ h9 => h9) dX12_test_92 (by decide) h (fun x65 h => ?_)
                refine r_sipush hx hb dX12_test_95 (by decide) h (fun z67 h => ?_)
                refine r_iald hx hb hK hP dX12_test_98 h (fun z69 h => ?_)
                refine r_imul hx hb dX12_test_99 h (fun z71 h => ?_)
                refine r_iadd hx hb dX12_test_100 h (fun z73 h => ?_)
                refine lv_istore (lv' := [(5, .int z73), (0, .ref (adr G xl0)), (1, .int zl1), (2, .int zl2), (3, .int zl3), (4, .int zl4)]) hx hb dX12_test_101 hl (by decide) rfl (fun ls hl => ?_)
                refine lv_aload_n hx hb dX12_test_103 rfl (lv_at hl 1 rfl) ?_
                refine r_getr (C := RX12) (T := TX12) (N := 38) hx hb hts (fun w h => List.mem_cons_of_mem _ (iX12 w h)) hown hK hP rfl (by decide) rfl 20 (by decide) (hts _ (List.mem_cons_of_mem _ kw_1354)) (fun _ h9 => h9) dX12_test_104 (by decide) h (fun x75 h => ?_)
                refine lv_iload hx hb dX12_test_107 (lv_at hl 0 rfl) ?_
                refine lv_iload_n hx hb dX12_test_109 rfl (lv_at hl 2 rfl) ?_
                refine r_iast hx hb hK hP hS dX12_test_110 h (fun M76 H locs h hP hS => ?_)
                refine lv_aload_n hx hb dX12_test_111 rfl (lv_at hl 1 rfl) ?_
                refine r_getr (C := RX12) (T := TX12) (N := 38) hx hb hts (fun w h => List.mem_cons_of_mem _ (iX12 w h)) hown hK hP rfl (by decide) rfl 20 (by decide) (hts _ (List.mem_cons_of_mem _ kw_1354)) (fun _ h9 => h9) dX12_test_112 (by decide) h (fun x78 h => ?_)
                refine lv_iload hx hb dX12_test_115 (lv_at hl 0 rfl) ?_
                refine r_iconst hx hb dX12_test_117 (by decide) h (fun z80 h => ?_)
                refine r_iadd hx hb dX12_test_118 h (fun z82 h => ?_)
                refine lv_iload_n hx hb dX12_test_119 rfl (lv_at hl 3 rfl) ?_
                refine r_iast hx hb hK hP hS dX12_test_120 h (fun M83 H locs h hP hS => ?_)
                refine lv_aload_n hx hb dX12_test_121 rfl (lv_at hl 1 rfl) ?_
                refine r_getr (C := RX12) (T := TX12) (N := 38) hx hb hts (fun w h => List.mem_cons_of_mem _ (iX12 w h)) hown hK hP rfl (by decide) rfl 20 (by decide) (hts _ (List.mem_cons_of_mem _ kw_1354)) (fun _ h9 => h9) dX12_test_122 (by decide) h (fun x85 h => ?_)
                refine lv_iload hx hb dX12_test_125 (lv_at hl 0 rfl) ?_
                refine r_iconst hx hb dX12_test_127 (by decide) h (fun z87 h => ?_)
                refine r_iadd hx hb dX12_test_128 h (fun z89 h => ?_)
                refine lv_iload_n hx hb dX12_test_129 rfl (lv_at hl 4 rfl) ?_
                refine r_iast hx hb hK hP hS dX12_test_130 h (fun M90 H locs h hP hS => ?_)
                refine lv_aload_n hx hb dX12_test_131 rfl (lv_at hl 1 rfl) ?_
                refine r_getr (C := RX12) (T := TX12) (N := 38) hx hb hts (fun w h => List.mem_cons_of_mem _ (iX12 w h)) hown hK hP rfl (by decide) rfl 20 (by decide) (hts _ (List.mem_cons_of_mem _ kw_1354)) (fun _ h9 => h9) dX12_test_132 (by decide) h (fun x92 h => ?_)
                refine lv_iload hx hb dX12_test_135 (lv_at hl 0 rfl) ?_
                refine r_iconst hx hb dX12_test_137 (by decide) h (fun z94 h => ?_)
                refine r_iadd hx hb dX12_test_138 h (fun z96 h => ?_)
                refine lv_iload hx hb dX12_test_139 (lv_at hl 5 rfl) ?_
                refine r_iast hx hb hK hP hS dX12_test_141 h (fun M97 H locs h hP hS => ?_)
                refine lv_aload_n hx hb dX12_test_142 rfl (lv_at hl 1 rfl) ?_
                refine r_getr (C := RX12) (T := TX12) (N := 38) hx hb hts (fun w h => List.mem_cons_of_mem _ (iX12 w h)) hown hK hP rfl (by decide) rfl 20 (by decide) (hts _ (List.mem_cons_of_mem _ kw_1354)) (fun _ h9 => h9) dX12_test_143 (by decide) h (fun x99 h => ?_)
                refine r_sipush hx hb dX12_test_146 (by decide) h (fun z101 h => ?_)
                refine lv_dup2_11 hx hb dX12_test_149 rfl rfl ?_
                refine r_iald hx hb hK hP dX12_test_150 h (fun z103 h => ?_)
                refine r_iconst hx hb dX12_test_151 (by decide) h (fun z105 h => ?_)
                refine r_iadd hx hb dX12_test_152 h (fun z107 h => ?_)
                refine r_iast hx hb hK hP hS dX12_test_153 h (fun M108 H locs h hP hS => ?_)
                refine lv_aload_n hx hb dX12_test_154 rfl (lv_at hl 1 rfl) ?_
                refine r_getr (C := RX12) (T := TX12) (N := 38) hx hb hts (fun w h => List.mem_cons_of_mem _ (iX12 w h)) hown hK hP rfl (by decide) rfl 20 (by decide) (hts _ (List.mem_cons_of_mem _ kw_1354)) (fun _ h9 => h9) dX12_test_155 (by decide) h (fun x110 h => ?_)
                refine r_sipush hx hb dX12_test_158 (by decide) h (fun z112 h => ?_)
                refine r_iald hx hb hK hP dX12_test_161 h (fun z114 h => ?_)
                exact r_iret hx hb hr hlocks hP hS dX12_test_162 h
              · refine r_bipush hx hb dX12_test_85 (by decide) h (fun z116 h => ?_)
                exact r_iret hx hb hr hlocks hP hS dX12_test_87 h
  · refine lv_aload_n hx hb dX12_test_5 rfl (lv_at hl 0 rfl) ?_
    refine r_getr (C := RX12) (T := TX12) (N := 38) hx hb hts (fun w h => List.mem_cons_of_mem _ (iX12 w h)) hown hK hP rfl (by decide) rfl 20 (by decide) (hts _ (List.mem_cons_of_mem _ kw_1354)) (fun _ h9 => h9) dX12_test_6 (by decide) h (fun x118 h => ?_)
    refine r_sipush hx hb dX12_test_9 (by decide) h (fun z120 h => ?_)
    refine r_iconst hx hb dX12_test_12 (by decide) h (fun z122 h => ?_)
    refine r_iast hx hb hK hP hS dX12_test_13 h (fun M123 H locs h hP hS => ?_)
    refine r_iconst hx hb dX12_test_14 (by decide) h (fun z125 h => ?_)
    exact r_iret hx hb hr hlocks hP hS dX12_test_15 h
