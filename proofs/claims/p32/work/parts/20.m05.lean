/-! TurningMilkModel.stands(I)Z -/
abbrev RM_X12_stands : Room := { frames := 2, cells := 0, slots := 0, locals := 62 }
def cw_X12_stands : Cond := Cond.code yX12_stands cX12_stands 2 (Option.some FieldType.boolean)
theorem hd_X12_stands : yX12_stands.cls ≠ "java/lang/invoke/MethodHandle" ∧ yX12_stands.cls ≠ "java/lang/invoke/VarHandle" ∧ (parseMethodDescriptor yX12_stands.desc).map (fun d => d.parameters.length) = some 1 := by decide +kernel
theorem dX12_stands_0 : decode cX12_stands 0 = .ok (.aload_n 0, 1) := by decide +kernel
theorem dX12_stands_1 : decode cX12_stands 1 = .ok (.iload_n 1, 1) := by decide +kernel
theorem dX12_stands_2 : decode cX12_stands 2 = .ok (.iconst 1, 1) := by decide +kernel
theorem dX12_stands_3 : decode cX12_stands 3 = .ok (.invokevirtual 284, 3) := by decide +kernel
theorem dX12_stands_6 : decode cX12_stands 6 = .ok (.ifCond .ge 16, 3) := by decide +kernel
theorem dX12_stands_9 : decode cX12_stands 9 = .ok (.aload_n 0, 1) := by decide +kernel
theorem dX12_stands_10 : decode cX12_stands 10 = .ok (.iload_n 1, 1) := by decide +kernel
theorem dX12_stands_11 : decode cX12_stands 11 = .ok (.iconst 3, 1) := by decide +kernel
theorem dX12_stands_12 : decode cX12_stands 12 = .ok (.invokevirtual 284, 3) := by decide +kernel
theorem dX12_stands_15 : decode cX12_stands 15 = .ok (.ifCond .ne 7, 3) := by decide +kernel
theorem dX12_stands_18 : decode cX12_stands 18 = .ok (.iconst 1, 1) := by decide +kernel
theorem dX12_stands_19 : decode cX12_stands 19 = .ok (.goto 4, 3) := by decide +kernel
theorem dX12_stands_22 : decode cX12_stands 22 = .ok (.iconst 0, 1) := by decide +kernel
theorem dX12_stands_23 : decode cX12_stands 23 = .ok (.ireturn, 1) := by decide +kernel
def wp_X12_stands (S : Sh) (M : Mm) (u0 : Int) (u1 : Int) (post : Int → Mm → Prop) : Prop := wC 1 fun v1 => isK S u0 12 ∧ (wp_X12_jugOf S M u0 u1 v1 <| fun v4 M3 => wIf (0 ≤ v4) (wC 0 fun v6 => (v6 = 0 ∨ v6 = 1) ∧ post v6 M3) (wC 3 fun v8 => isK S u0 12 ∧ (wp_X12_jugOf S M3 u0 u1 v8 <| fun v11 M10 => wIf (¬ v11 = 0) (wC 0 fun v13 => (v13 = 0 ∨ v13 = 1) ∧ post v13 M10) (wC 1 fun v15 => (v15 = 0 ∨ v15 = 1) ∧ post v15 M10))))
set_option maxHeartbeats 4000000 in
set_option maxRecDepth 100000 in
theorem c_X12_stands (l : Launch) (D : va_G) (G : Gt) (S : Sh) (M : Mm) (xl0 : Int) (zl1 : Int32) (post : Int → Mm → Prop) (h : wp_X12_stands S M xl0 zl1.toInt post) : Met l yX12_stands (cw_X12_stands :: gw) RM_X12_stands (va_Pc [.ref (adr G xl0), .int zl1] (fun U => KN D G U ∧ Wd D G S M U.heap)) (QI D G S post) 0 0 (aG G) := by
  refine Met.ofW (cc := cX12_stands) (maxL := 2) (ret := (some .boolean)) (by decide) rfl ?_
  intro p e s m args below meth c s₁ B hml hv
  obtain ⟨rfl, hK, hP⟩ := hv
  have hx := B.exec
  have hb := B.bytes
  have hr := B.returns
  have hts := atoms_spec (ws := cw_X12_stands :: gw) B.pre
  have hown : s.vm.findClass RX12 = some m.cls := findClass_of_methodNamed B.named
  have hlocks := B.notSynchronized
  have hS : va_S (aG G) s.heap s.heap [] := va_S.rf
  have C : Cx p s m ([.ref (adr G xl0), .int zl1] : List Value).toArray meth c D G cX12_stands 2 (some .boolean) (cw_X12_stands :: gw) RX12 := ⟨hx, hb, hr, hlocks, hml, hown, hts, hK⟩
  have hl := lv_entry ([.ref (adr G xl0), .int zl1]) (n := 2) (Nat.le_of_ble_eq_true rfl)
  rw [lg_entry_eq]
  generalize (lg_sl ([.ref (adr G xl0), .int zl1]) ++ List.replicate (2 - (lg_sl ([.ref (adr G xl0), .int zl1])).length) Slot.unset).toArray = ls at hl ⊢
  have hl : lv_has ls 2 [(0, .ref (adr G xl0)), (1, .int zl1)] := hl
  unfold wp_X12_stands at h
  refine lv_aload_n hx hb dX12_stands_0 rfl (lv_at hl 0 rfl) ?_
  refine lv_iload_n hx hb dX12_stands_1 rfl (lv_at hl 1 rfl) ?_
  refine r_iconst hx hb dX12_stands_2 (by decide) h (fun z2 h => ?_)
  refine q_Vi hx hb hml hown hts hK hP hS (c_X12_jugOf l D G S _ xl0 zl1 z2 _ h.2) ⟨callB_of 2 hts (gw_good kw_1658) rfl rfl rfl (hts _ (List.mem_cons_of_mem _ kw_14)) (hts _ (List.mem_cons_of_mem _ kw_1655)) hd_X12_jugOf ⟨Nat.le_of_ble_eq_true rfl, Nat.le_of_ble_eq_true rfl⟩, (hts _ (List.mem_cons_of_mem _ kw_1657)), (hts _ (List.mem_cons_of_mem _ kp_90))⟩ h.1 (ci := 12) rfl (by decide) rfl hl.1 rfl (lv_room (Nat.le_of_ble_eq_true rfl)) dX12_stands_3 ⟨Nat.zero_le _, Nat.zero_le _⟩ (fun z5 M3 H locs h hP hS => ?_)
  refine r_if_ge (tgt := 22) hx hb dX12_stands_6 (by decide) h (fun h => ?_) (fun h => ?_)
  · refine r_iconst hx hb dX12_stands_22 (by decide) h (fun z7 h => ?_)
    exact r_zret hx hb hr hlocks hP hS dX12_stands_23 h
  · refine lv_aload_n hx hb dX12_stands_9 rfl (lv_at hl 0 rfl) ?_
    refine lv_iload_n hx hb dX12_stands_10 rfl (lv_at hl 1 rfl) ?_
    refine r_iconst hx hb dX12_stands_11 (by decide) h (fun z9 h => ?_)
    refine q_Vi hx hb hml hown hts hK hP hS (c_X12_jugOf l D G S _ xl0 zl1 z9 _ h.2) ⟨callB_of 2 hts (gw_good kw_1658) rfl rfl rfl (hts _ (List.mem_cons_of_mem _ kw_14)) (hts _ (List.mem_cons_of_mem _ kw_1655)) hd_X12_jugOf ⟨Nat.le_of_ble_eq_true rfl, Nat.le_of_ble_eq_true rfl⟩, (hts _ (List.mem_cons_of_mem _ kw_1657)), (hts _ (List.mem_cons_of_mem _ kp_90))⟩ h.1 (ci := 12) rfl (by decide) rfl hl.1 rfl (lv_room (Nat.le_of_ble_eq_true rfl)) dX12_stands_12 ⟨Nat.zero_le _, Nat.zero_le _⟩ (fun z12 M10 H locs h hP hS => ?_)
    refine r_if_ne (tgt := 22) hx hb dX12_stands_15 (by decide) h (fun h => ?_) (fun h => ?_)
    · refine r_iconst hx hb dX12_stands_22 (by decide) h (fun z14 h => ?_)
      exact r_zret hx hb hr hlocks hP hS dX12_stands_23 h
    · refine r_iconst hx hb dX12_stands_18 (by decide) h (fun z16 h => ?_)
      refine lv_goto (tgt := 23) hx hb dX12_stands_19 (by decide) ?_
      exact r_zret hx hb hr hlocks hP hS dX12_stands_23 h
/-! TurningMilkModel.jug(II)I -/
abbrev RM_X12_jug : Room := { frames := 3, cells := 0, slots := 0, locals := 83 }
def cw_X12_jug : Cond := Cond.code yX12_jug cX12_jug 3 (Option.some FieldType.int)
theorem hd_X12_jug : yX12_jug.cls ≠ "java/lang/invoke/MethodHandle" ∧ yX12_jug.cls ≠ "java/lang/invoke/VarHandle" ∧ (parseMethodDescriptor yX12_jug.desc).map (fun d => d.parameters.length) = some 2 := by decide +kernel
theorem dX12_jug_0 : decode cX12_jug 0 = .ok (.aload_n 0, 1) := by decide +kernel
theorem dX12_jug_1 : decode cX12_jug 1 = .ok (.iload_n 1, 1) := by decide +kernel
theorem dX12_jug_2 : decode cX12_jug 2 = .ok (.invokevirtual 312, 3) := by decide +kernel
theorem dX12_jug_5 : decode cX12_jug 5 = .ok (.ifCond .ne 6, 3) := by decide +kernel
theorem dX12_jug_8 : decode cX12_jug 8 = .ok (.bipush (-2), 2) := by decide +kernel
theorem dX12_jug_10 : decode cX12_jug 10 = .ok (.ireturn, 1) := by decide +kernel
theorem dX12_jug_11 : decode cX12_jug 11 = .ok (.iload_n 2, 1) := by decide +kernel
theorem dX12_jug_12 : decode cX12_jug 12 = .ok (.tableswitch 90 0 4 #[36, 55, 55, 62, 83], 36) := by decide +kernel
theorem dX12_jug_48 : decode cX12_jug 48 = .ok (.aload_n 0, 1) := by decide +kernel
theorem dX12_jug_49 : decode cX12_jug 49 = .ok (.iload_n 1, 1) := by decide +kernel
theorem dX12_jug_50 : decode cX12_jug 50 = .ok (.invokevirtual 292, 3) := by decide +kernel
theorem dX12_jug_53 : decode cX12_jug 53 = .ok (.ifCond .eq 12, 3) := by decide +kernel
theorem dX12_jug_56 : decode cX12_jug 56 = .ok (.aload_n 0, 1) := by decide +kernel
theorem dX12_jug_57 : decode cX12_jug 57 = .ok (.iload_n 1, 1) := by decide +kernel
theorem dX12_jug_58 : decode cX12_jug 58 = .ok (.iconst 0, 1) := by decide +kernel
theorem dX12_jug_59 : decode cX12_jug 59 = .ok (.invokevirtual 284, 3) := by decide +kernel
theorem dX12_jug_62 : decode cX12_jug 62 = .ok (.goto 4, 3) := by decide +kernel
theorem dX12_jug_65 : decode cX12_jug 65 = .ok (.iconst (-1), 1) := by decide +kernel
theorem dX12_jug_66 : decode cX12_jug 66 = .ok (.ireturn, 1) := by decide +kernel
theorem dX12_jug_67 : decode cX12_jug 67 = .ok (.aload_n 0, 1) := by decide +kernel
theorem dX12_jug_68 : decode cX12_jug 68 = .ok (.iload_n 1, 1) := by decide +kernel
theorem dX12_jug_69 : decode cX12_jug 69 = .ok (.iload_n 2, 1) := by decide +kernel
theorem dX12_jug_70 : decode cX12_jug 70 = .ok (.invokevirtual 284, 3) := by decide +kernel
theorem dX12_jug_73 : decode cX12_jug 73 = .ok (.ireturn, 1) := by decide +kernel
theorem dX12_jug_74 : decode cX12_jug 74 = .ok (.aload_n 0, 1) := by decide +kernel
theorem dX12_jug_75 : decode cX12_jug 75 = .ok (.iload_n 1, 1) := by decide +kernel
theorem dX12_jug_76 : decode cX12_jug 76 = .ok (.iconst 2, 1) := by decide +kernel
theorem dX12_jug_77 : decode cX12_jug 77 = .ok (.invokevirtual 284, 3) := by decide +kernel
theorem dX12_jug_80 : decode cX12_jug 80 = .ok (.aload_n 0, 1) := by decide +kernel
theorem dX12_jug_81 : decode cX12_jug 81 = .ok (.getfield 39, 3) := by decide +kernel
theorem dX12_jug_84 : decode cX12_jug 84 = .ok (.iconst 2, 1) := by decide +kernel
theorem dX12_jug_85 : decode cX12_jug 85 = .ok (.iaload, 1) := by decide +kernel
theorem dX12_jug_86 : decode cX12_jug 86 = .ok (.if_icmp .lt 7, 3) := by decide +kernel
theorem dX12_jug_89 : decode cX12_jug 89 = .ok (.iconst 1, 1) := by decide +kernel
theorem dX12_jug_90 : decode cX12_jug 90 = .ok (.goto 4, 3) := by decide +kernel
theorem dX12_jug_93 : decode cX12_jug 93 = .ok (.iconst 0, 1) := by decide +kernel
theorem dX12_jug_94 : decode cX12_jug 94 = .ok (.ireturn, 1) := by decide +kernel
theorem dX12_jug_95 : decode cX12_jug 95 = .ok (.aload_n 0, 1) := by decide +kernel
theorem dX12_jug_96 : decode cX12_jug 96 = .ok (.iload_n 1, 1) := by decide +kernel
theorem dX12_jug_97 : decode cX12_jug 97 = .ok (.iconst 3, 1) := by decide +kernel
theorem dX12_jug_98 : decode cX12_jug 98 = .ok (.invokevirtual 284, 3) := by decide +kernel
theorem dX12_jug_101 : decode cX12_jug 101 = .ok (.ireturn, 1) := by decide +kernel
theorem dX12_jug_102 : decode cX12_jug 102 = .ok (.bipush (-2), 2) := by decide +kernel
theorem dX12_jug_104 : decode cX12_jug 104 = .ok (.ireturn, 1) := by decide +kernel
def wp_X12_jug (S : Sh) (M : Mm) (u0 : Int) (u1 : Int) (u2 : Int) (post : Int → Mm → Prop) : Prop := isK S u0 12 ∧ (wp_X12_isJug S M u0 u1 <| fun v2 M1 => wIf (¬ v2 = 0) (wIf (u2 = 0) (isK S u0 12 ∧ (wp_X12_stands S M1 u0 u1 <| fun v5 M4 => wIf (v5 = 0) (wC (-1) fun v7 => post v7 M4) (wC 0 fun v9 => isK S u0 12 ∧ (wp_X12_jugOf S M4 u0 u1 v9 <| fun v12 M11 => post v12 M11)))) (wIf (u2 = 1) (isK S u0 12 ∧ (wp_X12_jugOf S M1 u0 u1 u2 <| fun v15 M14 => post v15 M14)) (wIf (u2 = 2) (isK S u0 12 ∧ (wp_X12_jugOf S M1 u0 u1 u2 <| fun v18 M17 => post v18 M17)) (wIf (u2 = 3) (wC 2 fun v20 => isK S u0 12 ∧ (wp_X12_jugOf S M1 u0 u1 v20 <| fun v23 M22 => wGetR S M22 u0 12 20 fun v25 => wC 2 fun v27 => wLd S M22 v25 14 v27 fun v29 => wIf (v23 < v29) (wC 0 fun v31 => post v31 M22) (wC 1 fun v33 => post v33 M22))) (wIf (u2 = 4) (wC 3 fun v35 => isK S u0 12 ∧ (wp_X12_jugOf S M1 u0 u1 v35 <| fun v38 M37 => post v38 M37)) (wC (-2) fun v40 => post v40 M1)))))) (wC (-2) fun v42 => post v42 M1))
set_option maxHeartbeats 4000000 in
set_option maxRecDepth 100000 in
theorem c_X12_jug (l : Launch) (D : va_G) (G : Gt) (S : Sh) (M : Mm) (xl0 : Int) (zl1 : Int32) (zl2 : Int32) (post : Int → Mm → Prop) (h : wp_X12_jug S M xl0 zl1.toInt zl2.toInt post) : Met l yX12_jug (cw_X12_jug :: gw) RM_X12_jug (va_Pc [.ref (adr G xl0), .int zl1, .int zl2] (fun U => KN D G U ∧ Wd D G S M U.heap)) (QI D G S post) 0 0 (aG G) := by
  refine Met.ofW (cc := cX12_jug) (maxL := 3) (ret := (some .int)) (by decide) rfl ?_
  intro p e s m args below meth c s₁ B hml hv
  obtain ⟨rfl, hK, hP⟩ := hv
  have hx := B.exec
  have hb := B.bytes
  have hr := B.returns
  have hts := atoms_spec (ws := cw_X12_jug :: gw) B.pre
  have hown : s.vm.findClass RX12 = some m.cls := findClass_of_methodNamed B.named
  have hlocks := B.notSynchronized
  have hS : va_S (aG G) s.heap s.heap [] := va_S.rf
  have C : Cx p s m ([.ref (adr G xl0), .int zl1, .int zl2] : List Value).toArray meth c D G cX12_jug 3 (some .int) (cw_X12_jug :: gw) RX12 := ⟨hx, hb, hr, hlocks, hml, hown, hts, hK⟩
  have hl := lv_entry ([.ref (adr G xl0), .int zl1, .int zl2]) (n := 3) (Nat.le_of_ble_eq_true rfl)
  rw [lg_entry_eq]
  generalize (lg_sl ([.ref (adr G xl0), .int zl1, .int zl2]) ++ List.replicate (3 - (lg_sl ([.ref (adr G xl0), .int zl1, .int zl2])).length) Slot.unset).toArray = ls at hl ⊢
  have hl : lv_has ls 3 [(0, .ref (adr G xl0)), (1, .int zl1), (2, .int zl2)] := hl
  unfold wp_X12_jug at h
  refine lv_aload_n hx hb dX12_jug_0 rfl (lv_at hl 0 rfl) ?_
  refine lv_iload_n hx hb dX12_jug_1 rfl (lv_at hl 1 rfl) ?_
  refine q_Vi hx hb hml hown hts hK hP hS (c_X12_isJug l D G S _ xl0 zl1 _ h.2) ⟨callB_of 1 hts (gw_good kw_1666) rfl rfl rfl (hts _ (List.mem_cons_of_mem _ kw_14)) (hts _ (List.mem_cons_of_mem _ kw_1663)) hd_X12_isJug ⟨Nat.le_of_ble_eq_true rfl, Nat.le_of_ble_eq_true rfl⟩, (hts _ (List.mem_cons_of_mem _ kw_1665)), (hts _ (List.mem_cons_of_mem _ kp_91))⟩ h.1 (ci := 12) rfl (by decide) rfl hl.1 rfl (lv_room (Nat.le_of_ble_eq_true rfl)) dX12_jug_2 ⟨Nat.zero_le _, Nat.zero_le _⟩ (fun z3 M1 H locs h hP hS => ?_)
  refine r_if_ne (tgt := 11) hx hb dX12_jug_5 (by decide) h (fun h => ?_) (fun h => ?_)
  · refine lv_iload_n hx hb dX12_jug_11 rfl (lv_at hl 2 rfl) ?_
    refine sw (c := zl2.toInt = 0) h (fun e0 h => ?_) (fun e0 h => ?_)
    · refine lv_tableIn (tgt := 48) hx hb dX12_jug_12 (by omega) (by omega) (by rw [e0]; rfl) (by decide) ?_
      refine lv_aload_n hx hb dX12_jug_48 rfl (lv_at hl 0 rfl) ?_
      refine lv_iload_n hx hb dX12_jug_49 rfl (lv_at hl 1 rfl) ?_
      refine q_Vi hx hb hml hown hts hK hP hS (c_X12_stands l D G S _ xl0 zl1 _ h.2) ⟨callB_of 1 hts (gw_good kw_1670) rfl rfl rfl (hts _ (List.mem_cons_of_mem _ kw_14)) (hts _ (List.mem_cons_of_mem _ kw_1667)) hd_X12_stands ⟨Nat.le_of_ble_eq_true rfl, Nat.le_of_ble_eq_true rfl⟩, (hts _ (List.mem_cons_of_mem _ kw_1669)), (hts _ (List.mem_cons_of_mem _ kp_92))⟩ h.1 (ci := 12) rfl (by decide) rfl hl.1 rfl (lv_room (Nat.le_of_ble_eq_true rfl)) dX12_jug_50 ⟨Nat.zero_le _, Nat.zero_le _⟩ (fun z6 M4 H locs h hP hS => ?_)
      refine r_if_eq (tgt := 65) hx hb dX12_jug_53 (by decide) h (fun h => ?_) (fun h => ?_)
      · refine r_iconst hx hb dX12_jug_65 (by decide) h (fun z8 h => ?_)
        exact r_iret hx hb hr hlocks hP hS dX12_jug_66 h
      · refine lv_aload_n hx hb dX12_jug_56 rfl (lv_at hl 0 rfl) ?_
        refine lv_iload_n hx hb dX12_jug_57 rfl (lv_at hl 1 rfl) ?_
        refine r_iconst hx hb dX12_jug_58 (by decide) h (fun z10 h => ?_)
        refine q_Vi hx hb hml hown hts hK hP hS (c_X12_jugOf l D G S _ xl0 zl1 z10 _ h.2) ⟨callB_of 2 hts (gw_good kw_1658) rfl rfl rfl (hts _ (List.mem_cons_of_mem _ kw_14)) (hts _ (List.mem_cons_of_mem _ kw_1655)) hd_X12_jugOf ⟨Nat.le_of_ble_eq_true rfl, Nat.le_of_ble_eq_true rfl⟩, (hts _ (List.mem_cons_of_mem _ kw_1657)), (hts _ (List.mem_cons_of_mem _ kp_90))⟩ h.1 (ci := 12) rfl (by decide) rfl hl.1 rfl (lv_room (Nat.le_of_ble_eq_true rfl)) dX12_jug_59 ⟨Nat.zero_le _, Nat.zero_le _⟩ (fun z13 M11 H locs h hP hS => ?_)
        refine lv_goto (tgt := 66) hx hb dX12_jug_62 (by decide) ?_
        exact r_iret hx hb hr hlocks hP hS dX12_jug_66 h
    · refine sw (c := zl2.toInt = 1) h (fun e1 h => ?_) (fun e1 h => ?_)
      · refine lv_tableIn (tgt := 67) hx hb dX12_jug_12 (by omega) (by omega) (by rw [e1]; rfl) (by decide) ?_
        refine lv_aload_n hx hb dX12_jug_67 rfl (lv_at hl 0 rfl) ?_
        refine lv_iload_n hx hb dX12_jug_68 rfl (lv_at hl 1 rfl) ?_
        refine lv_iload_n hx hb dX12_jug_69 rfl (lv_at hl 2 rfl) ?_
        refine q_Vi hx hb hml hown hts hK hP hS (c_X12_jugOf l D G S _ xl0 zl1 zl2 _ h.2) ⟨callB_of 2 hts (gw_good kw_1658) rfl rfl rfl (hts _ (List.mem_cons_of_mem _ kw_14)) (hts _ (List.mem_cons_of_mem _ kw_1655)) hd_X12_jugOf ⟨Nat.le_of_ble_eq_true rfl, Nat.le_of_ble_eq_true rfl⟩, (hts _ (List.mem_cons_of_mem _ kw_1657)), (hts _ (List.mem_cons_of_mem _ kp_90))⟩ h.1 (ci := 12) rfl (by decide) rfl hl.1 rfl (lv_room (Nat.le_of_ble_eq_true rfl)) dX12_jug_70 ⟨Nat.zero_le _, Nat.zero_le _⟩ (fun z16 M14 H locs h hP hS => ?_)
        exact r_iret hx hb hr hlocks hP hS dX12_jug_73 h
      · refine sw (c := zl2.toInt = 2) h (fun e2 h => ?_) (fun e2 h => ?_)
        · refine lv_tableIn (tgt := 67) hx hb dX12_jug_12 (by omega) (by omega) (by rw [e2]; rfl) (by decide) ?_
          refine lv_aload_n hx hb dX12_jug_67 rfl (lv_at hl 0 rfl) ?_
          refine lv_iload_n hx hb dX12_jug_68 rfl (lv_at hl 1 rfl) ?_
          refine lv_iload_n hx hb dX12_jug_69 rfl (lv_at hl 2 rfl) ?_
          refine q_Vi hx hb hml hown hts hK hP hS (c_X12_jugOf l D G S _ xl0 zl1 zl2 _ h.2) ⟨callB_of 2 hts (gw_good kw_1658) rfl rfl rfl (hts _ (List.mem_cons_of_mem _ kw_14)) (hts _ (List.mem_cons_of_mem _ kw_1655)) hd_X12_jugOf ⟨Nat.le_of_ble_eq_true rfl, Nat.le_of_ble_eq_true rfl⟩, (hts _ (List.mem_cons_of_mem _ kw_1657)), (hts _ (List.mem_cons_of_mem _ kp_90))⟩ h.1 (ci := 12) rfl (by decide) rfl hl.1 rfl (lv_room (Nat.le_of_ble_eq_true rfl)) dX12_jug_70 ⟨Nat.zero_le _, Nat.zero_le _⟩ (fun z19 M17 H locs h hP hS => ?_)
          exact r_iret hx hb hr hlocks hP hS dX12_jug_73 h
        · refine sw (c := zl2.toInt = 3) h (fun e3 h => ?_) (fun e3 h => ?_)
          · refine lv_tableIn (tgt := 74) hx hb dX12_jug_12 (by omega) (by omega) (by rw [e3]; rfl) (by decide) ?_
            refine lv_aload_n hx hb dX12_jug_74 rfl (lv_at hl 0 rfl) ?_
            refine lv_iload_n hx hb dX12_jug_75 rfl (lv_at hl 1 rfl) ?_
            refine r_iconst hx hb dX12_jug_76 (by decide) h (fun z21 h => ?_)
            refine q_Vi hx hb hml hown hts hK hP hS (c_X12_jugOf l D G S _ xl0 zl1 z21 _ h.2) ⟨callB_of 2 hts (gw_good kw_1658) rfl rfl rfl (hts _ (List.mem_cons_of_mem _ kw_14)) (hts _ (List.mem_cons_of_mem _ kw_1655)) hd_X12_jugOf ⟨Nat.le_of_ble_eq_true rfl, Nat.le_of_ble_eq_true rfl⟩, (hts _ (List.mem_cons_of_mem _ kw_1657)), (hts _ (List.mem_cons_of_mem _ kp_90))⟩ h.1 (ci := 12) rfl (by decide) rfl hl.1 rfl (lv_room (Nat.le_of_ble_eq_true rfl)) dX12_jug_77 ⟨Nat.zero_le _, Nat.zero_le _⟩ (fun z24 M22 H locs h hP hS => ?_)
            refine lv_aload_n hx hb dX12_jug_80 rfl (lv_at hl 0 rfl) ?_
            refine r_getr (C := RX12) (T := TX12) (N := 38) hx hb hts (fun w h => List.mem_cons_of_mem _ (iX12 w h)) hown hK hP rfl (by decide) rfl 20 (by decide) (hts _ (List.mem_cons_of_mem _ kw_1354)) (fun _ h9 => h9) dX12_jug_81 (by decide) h (fun x26 h => ?_)
            refine r_iconst hx hb dX12_jug_84 (by decide) h (fun z28 h => ?_)
            refine r_iald hx hb hK hP dX12_jug_85 h (fun z30 h => ?_)
            refine r_icmp_lt (tgt := 93) hx hb dX12_jug_86 (by decide) h (fun h => ?_) (fun h => ?_)
            · refine r_iconst hx hb dX12_jug_93 (by decide) h (fun z32 h => ?_)
              exact r_iret hx hb hr hlocks hP hS dX12_jug_94 h
            · refine r_iconst hx hb dX12_jug_89 (by decide) h (fun z34 h => ?_)
              refine lv_goto (tgt := 94) hx hb dX12_jug_90 (by decide) ?_
              exact r_iret hx hb hr hlocks hP hS dX12_jug_94 h
          · refine sw (c := zl2.toInt = 4) h (fun e4 h => ?_) (fun e4 h => ?_)
            · refine lv_tableIn (tgt := 95) hx hb dX12_jug_12 (by omega) (by omega) (by rw [e4]; rfl) (by decide) ?_
              refine lv_aload_n hx hb dX12_jug_95 rfl (lv_at hl 0 rfl) ?_
              refine lv_iload_n hx hb dX12_jug_96 rfl (lv_at hl 1 rfl) ?_
              refine r_iconst hx hb dX12_jug_97 (by decide) h (fun z36 h => ?_)
              refine q_Vi hx hb hml hown hts hK hP hS (c_X12_jugOf l D G S _ xl0 zl1 z36 _ h.2) ⟨callB_of 2 hts (gw_good kw_1658) rfl rfl rfl (hts _ (List.mem_cons_of_mem _ kw_14)) (hts _ (List.mem_cons_of_mem _ kw_1655)) hd_X12_jugOf ⟨Nat.le_of_ble_eq_true rfl, Nat.le_of_ble_eq_true rfl⟩, (hts _ (List.mem_cons_of_mem _ kw_1657)), (hts _ (List.mem_cons_of_mem _ kp_90))⟩ h.1 (ci := 12) rfl (by decide) rfl hl.1 rfl (lv_room (Nat.le_of_ble_eq_true rfl)) dX12_jug_98 ⟨Nat.zero_le _, Nat.zero_le _⟩ (fun z39 M37 H locs h hP hS => ?_)
              exact r_iret hx hb hr hlocks hP hS dX12_jug_101 h
            · refine lv_tableOut (tgt := 102) hx hb dX12_jug_12 (by omega) (by decide) ?_
              refine r_bipush hx hb dX12_jug_102 (by decide) h (fun z41 h => ?_)
              exact r_iret hx hb hr hlocks hP hS dX12_jug_104 h
  · refine r_bipush hx hb dX12_jug_8 (by decide) h (fun z43 h => ?_)
    exact r_iret hx hb hr hlocks hP hS dX12_jug_10 h
/-! TurningMilkModel.isWant(I)Z -/
abbrev RM_X12_isWant : Room := { frames := 1, cells := 0, slots := 0, locals := 40 }
def cw_X12_isWant : Cond := Cond.code yX12_isWant cX12_isWant 2 (Option.some FieldType.boolean)
theorem hd_X12_isWant : yX12_isWant.cls ≠ "java/lang/invoke/MethodHandle" ∧ yX12_isWant.cls ≠ "java/lang/invoke/VarHandle" ∧ (parseMethodDescriptor yX12_isWant.desc).map (fun d => d.parameters.length) = some 1 := by decide +kernel
theorem dX12_isWant_0 : decode cX12_isWant 0 = .ok (.iload_n 1, 1) := by decide +kernel
theorem dX12_isWant_1 : decode cX12_isWant 1 = .ok (.ifCond .lt 18, 3) := by decide +kernel
theorem dX12_isWant_4 : decode cX12_isWant 4 = .ok (.iload_n 1, 1) := by decide +kernel
theorem dX12_isWant_5 : decode cX12_isWant 5 = .ok (.aload_n 0, 1) := by decide +kernel
theorem dX12_isWant_6 : decode cX12_isWant 6 = .ok (.getfield 39, 3) := by decide +kernel
theorem dX12_isWant_9 : decode cX12_isWant 9 = .ok (.bipush 6, 2) := by decide +kernel
theorem dX12_isWant_11 : decode cX12_isWant 11 = .ok (.iaload, 1) := by decide +kernel
theorem dX12_isWant_12 : decode cX12_isWant 12 = .ok (.if_icmp .ge 7, 3) := by decide +kernel
theorem dX12_isWant_15 : decode cX12_isWant 15 = .ok (.iconst 1, 1) := by decide +kernel
theorem dX12_isWant_16 : decode cX12_isWant 16 = .ok (.goto 4, 3) := by decide +kernel
theorem dX12_isWant_19 : decode cX12_isWant 19 = .ok (.iconst 0, 1) := by decide +kernel
theorem dX12_isWant_20 : decode cX12_isWant 20 = .ok (.ireturn, 1) := by decide +kernel
def wp_X12_isWant (S : Sh) (M : Mm) (u0 : Int) (u1 : Int) (post : Int → Mm → Prop) : Prop := wIf (u1 < 0) (wC 0 fun v1 => (v1 = 0 ∨ v1 = 1) ∧ post v1 M) (wGetR S M u0 12 20 fun v3 => wC 6 fun v5 => wLd S M v3 14 v5 fun v7 => wIf (v7 ≤ u1) (wC 0 fun v9 => (v9 = 0 ∨ v9 = 1) ∧ post v9 M) (wC 1 fun v11 => (v11 = 0 ∨ v11 = 1) ∧ post v11 M))
set_option maxHeartbeats 4000000 in
set_option maxRecDepth 100000 in
theorem c_X12_isWant (l : Launch) (D : va_G) (G : Gt) (S : Sh) (M : Mm) (xl0 : Int) (zl1 : Int32) (post : Int → Mm → Prop) (h : wp_X12_isWant S M xl0 zl1.toInt post) : Met l yX12_isWant (cw_X12_isWant :: gw) RM_X12_isWant (va_Pc [.ref (adr G xl0), .int zl1] (fun U => KN D G U ∧ Wd D G S M U.heap)) (QI D G S post) 0 0 (aG G) := by
  refine Met.ofW (cc := cX12_isWant) (maxL := 2) (ret := (some .boolean)) (by decide) rfl ?_
  intro p e s m args below meth c s₁ B hml hv
  obtain ⟨rfl, hK, hP⟩ := hv
  have hx := B.exec
  have hb := B.bytes
  have hr := B.returns
  have hts := atoms_spec (ws := cw_X12_isWant :: gw) B.pre
  have hown : s.vm.findClass RX12 = some m.cls := findClass_of_methodNamed B.named
  have hlocks := B.notSynchronized
  have hS : va_S (aG G) s.heap s.heap [] := va_S.rf
  have C : Cx p s m ([.ref (adr G xl0), .int zl1] : List Value).toArray meth c D G cX12_isWant 2 (some .boolean) (cw_X12_isWant :: gw) RX12 := ⟨hx, hb, hr, hlocks, hml, hown, hts, hK⟩
  have hl := lv_entry ([.ref (adr G xl0), .int zl1]) (n := 2) (Nat.le_of_ble_eq_true rfl)
  rw [lg_entry_eq]
  generalize (lg_sl ([.ref (adr G xl0), .int zl1]) ++ List.replicate (2 - (lg_sl ([.ref (adr G xl0), .int zl1])).length) Slot.unset).toArray = ls at hl ⊢
  have hl : lv_has ls 2 [(0, .ref (adr G xl0)), (1, .int zl1)] := hl
  unfold wp_X12_isWant at h
  refine lv_iload_n hx hb dX12_isWant_0 rfl (lv_at hl 1 rfl) ?_
  refine r_if_lt (tgt := 19) hx hb dX12_isWant_1 (by decide) h (fun h => ?_) (fun h => ?_)
  · refine r_iconst hx hb dX12_isWant_19 (by decide) h (fun z2 h => ?_)
    exact r_zret hx hb hr hlocks hP hS dX12_isWant_20 h
  · refine lv_iload_n hx hb dX12_isWant_4 rfl (lv_at hl 1 rfl) ?_
    refine lv_aload_n hx hb dX12_isWant_5 rfl (lv_at hl 0 rfl) ?_
    refine r_getr (C := RX12) (T := TX12) (N := 38) hx hb hts (fun w h => List.mem_cons_of_mem _ (iX12 w h)) hown hK hP rfl (by decide) rfl 20 (by decide) (hts _ (List.mem_cons_of_mem _ kw_1354)) (fun _ h9 => h9) dX12_isWant_6 (by decide) h (fun x4 h => ?_)
    refine r_bipush hx hb dX12_isWant_9 (by decide) h (fun z6 h => ?_)
    refine r_iald hx hb hK hP dX12_isWant_11 h (fun z8 h => ?_)
    refine r_icmp_ge (tgt := 19) hx hb dX12_isWant_12 (by decide) h (fun h => ?_) (fun h => ?_)
    · refine r_iconst hx hb dX12_isWant_19 (by decide) h (fun z10 h => ?_)
      exact r_zret hx hb hr hlocks hP hS dX12_isWant_20 h
    · refine r_iconst hx hb dX12_isWant_15 (by decide) h (fun z12 h => ?_)
      refine lv_goto (tgt := 20) hx hb dX12_isWant_16 (by decide) ?_
      exact r_zret hx hb hr hlocks hP hS dX12_isWant_20 h
/-! TurningMilkModel.wantOf(II)I -/
abbrev RM_X12_wantOf : Room := { frames := 1, cells := 0, slots := 0, locals := 40 }
def cw_X12_wantOf : Cond := Cond.code yX12_wantOf cX12_wantOf 3 (Option.some FieldType.int)
theorem hd_X12_wantOf : yX12_wantOf.cls ≠ "java/lang/invoke/MethodHandle" ∧ yX12_wantOf.cls ≠ "java/lang/invoke/VarHandle" ∧ (parseMethodDescriptor yX12_wantOf.desc).map (fun d => d.parameters.length) = some 2 := by decide +kernel
theorem dX12_wantOf_0 : decode cX12_wantOf 0 = .ok (.aload_n 0, 1) := by decide +kernel
theorem dX12_wantOf_1 : decode cX12_wantOf 1 = .ok (.getfield 39, 3) := by decide +kernel
theorem dX12_wantOf_4 : decode cX12_wantOf 4 = .ok (.bipush 93, 2) := by decide +kernel
theorem dX12_wantOf_6 : decode cX12_wantOf 6 = .ok (.iconst 4, 1) := by decide +kernel
theorem dX12_wantOf_7 : decode cX12_wantOf 7 = .ok (.iload_n 1, 1) := by decide +kernel
theorem dX12_wantOf_8 : decode cX12_wantOf 8 = .ok (.imul, 1) := by decide +kernel
theorem dX12_wantOf_9 : decode cX12_wantOf 9 = .ok (.iadd, 1) := by decide +kernel
theorem dX12_wantOf_10 : decode cX12_wantOf 10 = .ok (.iload_n 2, 1) := by decide +kernel
theorem dX12_wantOf_11 : decode cX12_wantOf 11 = .ok (.iadd, 1) := by decide +kernel
theorem dX12_wantOf_12 : decode cX12_wantOf 12 = .ok (.iaload, 1) := by decide +kernel
theorem dX12_wantOf_13 : decode cX12_wantOf 13 = .ok (.ireturn, 1) := by decide +kernel
def wp_X12_wantOf (S : Sh) (M : Mm) (u0 : Int) (u1 : Int) (u2 : Int) (post : Int → Mm → Prop) : Prop := wGetR S M u0 12 20 fun v1 => wC 93 fun v3 => wC 4 fun v5 => wM v5 u1 fun v7 => wA v3 v7 fun v9 => wA v9 u2 fun v11 => wLd S M v1 14 v11 fun v13 => post v13 M
set_option maxHeartbeats 4000000 in
set_option maxRecDepth 100000 in
theorem c_X12_wantOf (l : Launch) (D : va_G) (G : Gt) (S : Sh) (M : Mm) (xl0 : Int) (zl1 : Int32) (zl2 : Int32) (post : Int → Mm → Prop) (h : wp_X12_wantOf S M xl0 zl1.toInt zl2.toInt post) : Met l yX12_wantOf (cw_X12_wantOf :: gw) RM_X12_wantOf (va_Pc [.ref (adr G xl0), .int zl1, .int zl2] (fun U => KN D G U ∧ Wd D G S M U.heap)) (QI D G S post) 0 0 (aG G) := by
  refine Met.ofW (cc := cX12_wantOf) (maxL := 3) (ret := (some .int)) (by decide) rfl ?_
  intro p e s m args below meth c s₁ B hml hv
  obtain ⟨rfl, hK, hP⟩ := hv
  have hx := B.exec
  have hb := B.bytes
  have hr := B.returns
  have hts := atoms_spec (ws := cw_X12_wantOf :: gw) B.pre
  have hown : s.vm.findClass RX12 = some m.cls := findClass_of_methodNamed B.named
  have hlocks := B.notSynchronized
  have hS : va_S (aG G) s.heap s.heap [] := va_S.rf
  have C : Cx p s m ([.ref (adr G xl0), .int zl1, .int zl2] : List Value).toArray meth c D G cX12_wantOf 3 (some .int) (cw_X12_wantOf :: gw) RX12 := ⟨hx, hb, hr, hlocks, hml, hown, hts, hK⟩
  have hl := lv_entry ([.ref (adr G xl0), .int zl1, .int zl2]) (n := 3) (Nat.le_of_ble_eq_true rfl)
  rw [lg_entry_eq]
  generalize (lg_sl ([.ref (adr G xl0), .int zl1, .int zl2]) ++ List.replicate (3 - (lg_sl ([.ref (adr G xl0), .int zl1, .int zl2])).length) Slot.unset).toArray = ls at hl ⊢
  have hl : lv_has ls 3 [(0, .ref (adr G xl0)), (1, .int zl1), (2, .int zl2)] := hl
  unfold wp_X12_wantOf at h
  refine lv_aload_n hx hb dX12_wantOf_0 rfl (lv_at hl 0 rfl) ?_
  refine r_getr (C := RX12) (T := TX12) (N := 38) hx hb hts (fun w h => List.mem_cons_of_mem _ (iX12 w h)) hown hK hP rfl (by decide) rfl 20 (by decide) (hts _ (List.mem_cons_of_mem _ kw_1354)) (fun _ h9 => h9) dX12_wantOf_1 (by decide) h (fun x2 h => ?_)
  refine r_bipush hx hb dX12_wantOf_4 (by decide) h (fun z4 h => ?_)
  refine r_iconst hx hb dX12_wantOf_6 (by decide) h (fun z6 h => ?_)
  refine lv_iload_n hx hb dX12_wantOf_7 rfl (lv_at hl 1 rfl) ?_
  refine r_imul hx hb dX12_wantOf_8 h (fun z8 h => ?_)
  refine r_iadd hx hb dX12_wantOf_9 h (fun z10 h => ?_)
  refine lv_iload_n hx hb dX12_wantOf_10 rfl (lv_at hl 2 rfl) ?_
  refine r_iadd hx hb dX12_wantOf_11 h (fun z12 h => ?_)
  refine r_iald hx hb hK hP dX12_wantOf_12 h (fun z14 h => ?_)
  exact r_iret hx hb hr hlocks hP hS dX12_wantOf_13 h
/-! TurningMilkModel.firstFor(I)I -/
abbrev RM_X12_firstFor : Room := { frames := 3, cells := 0, slots := 0, locals := 83 }
def cw_X12_firstFor : Cond := Cond.code yX12_firstFor cX12_firstFor 3 (Option.some FieldType.int)
theorem hd_X12_firstFor : yX12_firstFor.cls ≠ "java/lang/invoke/MethodHandle" ∧ yX12_firstFor.cls ≠ "java/lang/invoke/VarHandle" ∧ (parseMethodDescriptor yX12_firstFor.desc).map (fun d => d.parameters.length) = some 1 := by decide +kernel
theorem dX12_firstFor_0 : decode cX12_firstFor 0 = .ok (.aload_n 0, 1) := by decide +kernel
theorem dX12_firstFor_1 : decode cX12_firstFor 1 = .ok (.getfield 39, 3) := by decide +kernel
theorem dX12_firstFor_4 : decode cX12_firstFor 4 = .ok (.bipush 51, 2) := by decide +kernel
theorem dX12_firstFor_6 : decode cX12_firstFor 6 = .ok (.iload_n 1, 1) := by decide +kernel
theorem dX12_firstFor_7 : decode cX12_firstFor 7 = .ok (.iadd, 1) := by decide +kernel
theorem dX12_firstFor_8 : decode cX12_firstFor 8 = .ok (.iaload, 1) := by decide +kernel
theorem dX12_firstFor_9 : decode cX12_firstFor 9 = .ok (.ifCond .lt 5, 3) := by decide +kernel
theorem dX12_firstFor_12 : decode cX12_firstFor 12 = .ok (.iconst (-1), 1) := by decide +kernel
theorem dX12_firstFor_13 : decode cX12_firstFor 13 = .ok (.ireturn, 1) := by decide +kernel
theorem dX12_firstFor_14 : decode cX12_firstFor 14 = .ok (.iconst 0, 1) := by decide +kernel
theorem dX12_firstFor_15 : decode cX12_firstFor 15 = .ok (.istore_n 2, 1) := by decide +kernel
theorem dX12_firstFor_16 : decode cX12_firstFor 16 = .ok (.iload_n 2, 1) := by decide +kernel
theorem dX12_firstFor_17 : decode cX12_firstFor 17 = .ok (.aload_n 0, 1) := by decide +kernel
theorem dX12_firstFor_18 : decode cX12_firstFor 18 = .ok (.getfield 39, 3) := by decide +kernel
theorem dX12_firstFor_21 : decode cX12_firstFor 21 = .ok (.iconst 5, 1) := by decide +kernel
theorem dX12_firstFor_22 : decode cX12_firstFor 22 = .ok (.iaload, 1) := by decide +kernel
theorem dX12_firstFor_23 : decode cX12_firstFor 23 = .ok (.if_icmp .ge 61, 3) := by decide +kernel
theorem dX12_firstFor_26 : decode cX12_firstFor 26 = .ok (.aload_n 0, 1) := by decide +kernel
theorem dX12_firstFor_27 : decode cX12_firstFor 27 = .ok (.iload_n 2, 1) := by decide +kernel
theorem dX12_firstFor_28 : decode cX12_firstFor 28 = .ok (.invokevirtual 292, 3) := by decide +kernel
theorem dX12_firstFor_31 : decode cX12_firstFor 31 = .ok (.ifCond .eq 47, 3) := by decide +kernel
theorem dX12_firstFor_34 : decode cX12_firstFor 34 = .ok (.aload_n 0, 1) := by decide +kernel
theorem dX12_firstFor_35 : decode cX12_firstFor 35 = .ok (.iload_n 2, 1) := by decide +kernel
theorem dX12_firstFor_36 : decode cX12_firstFor 36 = .ok (.iconst 0, 1) := by decide +kernel
theorem dX12_firstFor_37 : decode cX12_firstFor 37 = .ok (.invokevirtual 284, 3) := by decide +kernel
theorem dX12_firstFor_40 : decode cX12_firstFor 40 = .ok (.aload_n 0, 1) := by decide +kernel
theorem dX12_firstFor_41 : decode cX12_firstFor 41 = .ok (.iload_n 1, 1) := by decide +kernel
theorem dX12_firstFor_42 : decode cX12_firstFor 42 = .ok (.iconst 0, 1) := by decide +kernel
theorem dX12_firstFor_43 : decode cX12_firstFor 43 = .ok (.invokevirtual 295, 3) := by decide +kernel
theorem dX12_firstFor_46 : decode cX12_firstFor 46 = .ok (.if_icmp .ne 32, 3) := by decide +kernel
theorem dX12_firstFor_49 : decode cX12_firstFor 49 = .ok (.aload_n 0, 1) := by decide +kernel
theorem dX12_firstFor_50 : decode cX12_firstFor 50 = .ok (.iload_n 2, 1) := by decide +kernel
theorem dX12_firstFor_51 : decode cX12_firstFor 51 = .ok (.iconst 2, 1) := by decide +kernel
theorem dX12_firstFor_52 : decode cX12_firstFor 52 = .ok (.invokevirtual 284, 3) := by decide +kernel
theorem dX12_firstFor_55 : decode cX12_firstFor 55 = .ok (.i2l, 1) := by decide +kernel
theorem dX12_firstFor_56 : decode cX12_firstFor 56 = .ok (.aload_n 0, 1) := by decide +kernel
theorem dX12_firstFor_57 : decode cX12_firstFor 57 = .ok (.iload_n 1, 1) := by decide +kernel
theorem dX12_firstFor_58 : decode cX12_firstFor 58 = .ok (.iconst 1, 1) := by decide +kernel
theorem dX12_firstFor_59 : decode cX12_firstFor 59 = .ok (.invokevirtual 295, 3) := by decide +kernel
theorem dX12_firstFor_62 : decode cX12_firstFor 62 = .ok (.i2l, 1) := by decide +kernel
theorem dX12_firstFor_63 : decode cX12_firstFor 63 = .ok (.aload_n 0, 1) := by decide +kernel
theorem dX12_firstFor_64 : decode cX12_firstFor 64 = .ok (.iload_n 1, 1) := by decide +kernel
theorem dX12_firstFor_65 : decode cX12_firstFor 65 = .ok (.iconst 2, 1) := by decide +kernel
theorem dX12_firstFor_66 : decode cX12_firstFor 66 = .ok (.invokevirtual 295, 3) := by decide +kernel
theorem dX12_firstFor_69 : decode cX12_firstFor 69 = .ok (.i2l, 1) := by decide +kernel
theorem dX12_firstFor_70 : decode cX12_firstFor 70 = .ok (.invokestatic 118, 3) := by decide +kernel
theorem dX12_firstFor_73 : decode cX12_firstFor 73 = .ok (.ifCond .eq 5, 3) := by decide +kernel
theorem dX12_firstFor_76 : decode cX12_firstFor 76 = .ok (.iload_n 2, 1) := by decide +kernel
theorem dX12_firstFor_77 : decode cX12_firstFor 77 = .ok (.ireturn, 1) := by decide +kernel
theorem dX12_firstFor_78 : decode cX12_firstFor 78 = .ok (.iinc 2 1, 3) := by decide +kernel
theorem dX12_firstFor_81 : decode cX12_firstFor 81 = .ok (.goto (-65), 3) := by decide +kernel
theorem dX12_firstFor_84 : decode cX12_firstFor 84 = .ok (.iconst (-1), 1) := by decide +kernel
theorem dX12_firstFor_85 : decode cX12_firstFor 85 = .ok (.ireturn, 1) := by decide +kernel
def wp_X12_firstFor_78 (S : Sh) (k16 : Int → Int → Int → Mm → Prop) (post : Int → Mm → Prop) (u0 : Int) (u1 : Int) (u2 : Int) (M : Mm) : Prop := wA u2 1 fun v1 => k16 u0 u1 v1 M
def wp_X12_firstFor_16 (S : Sh) (post : Int → Mm → Prop) : Nat → Int → Int → Int → Mm → Prop
  | 0, _, _, _, _ => False
  | n + 1, u0, u1, u2, M => wGetR S M u0 12 20 fun v3 => wC 5 fun v5 => wLd S M v3 14 v5 fun v7 => wIf (v7 ≤ u2) (wC (-1) fun v9 => post v9 M) (isK S u0 12 ∧ (wp_X12_stands S M u0 u2 <| fun v12 M11 => wIf (v12 = 0) (wp_X12_firstFor_78 S (fun a0 a1 a2 M => wp_X12_firstFor_16 S post n a0 a1 a2 M) post u0 u1 u2 M11) (wC 0 fun v14 => isK S u0 12 ∧ (wp_X12_jugOf S M11 u0 u2 v14 <| fun v17 M16 => wC 0 fun v19 => isK S u0 12 ∧ (wp_X12_wantOf S M16 u0 u1 v19 <| fun v22 M21 => wIf (¬ v17 = v22) (wp_X12_firstFor_78 S (fun a0 a1 a2 M => wp_X12_firstFor_16 S post n a0 a1 a2 M) post u0 u1 u2 M21) (wC 2 fun v24 => isK S u0 12 ∧ (wp_X12_jugOf S M21 u0 u2 v24 <| fun v27 M26 => wC v27 fun v29 => wC 1 fun v31 => isK S u0 12 ∧ (wp_X12_wantOf S M26 u0 u1 v31 <| fun v34 M33 => wC v34 fun v36 => wC 2 fun v38 => isK S u0 12 ∧ (wp_X12_wantOf S M33 u0 u1 v38 <| fun v41 M40 => wC v41 fun v43 => wp_X12_in S M40 v29 v36 v43 <| fun v46 M45 => wIf (v46 = 0) (wp_X12_firstFor_78 S (fun a0 a1 a2 M => wp_X12_firstFor_16 S post n a0 a1 a2 M) post u0 u1 u2 M45) (post u2 M45))))))))))
def wp_X12_firstFor (S : Sh) (M : Mm) (u0 : Int) (u1 : Int) (post : Int → Mm → Prop) : Prop := wGetR S M u0 12 20 fun v48 => wC 51 fun v50 => wA v50 u1 fun v52 => wLd S M v48 14 v52 fun v54 => wIf (v54 < 0) (wC 0 fun v56 => ∃ n9 : Nat, wp_X12_firstFor_16 S post n9 u0 u1 v56 M) (wC (-1) fun v58 => post v58 M)
set_option maxHeartbeats 4000000 in
set_option maxRecDepth 100000 in
theorem t_X12_firstFor_78 {p : Program} {l : Launch} {e : Env} {s : State} {m : MethodId} {args : Array Value} {below : List Frame} {meth : Method} {c : Code} {D : va_G} {G : Gt} {S : Sh} {post : Int → Mm → Prop} {k16 : Int → Int → Int → Mm → Prop} (C : Cx p s m args meth c D G cX12_firstFor 3 (some .int) (cw_X12_firstFor :: gw) RX12) (hk16 : ∀ (y0 : Int) (y1 : Int32) (y2 : Int32) (M : Mm) (H : Heap) (locs : List Loc) (ls : Array Slot), Wd D G S M H → va_S (aG G) s.heap H locs → lv_has ls 3 [(0, .ref (adr G y0)), (1, .int y1), (2, .int y2)] → k16 y0 y1.toInt y2.toInt M → W p l e RM_X12_firstFor s m args below meth c H locs 0 0 (MQ below (QI D G S post) args s 0 0 (aG G)) (F0 m 16 ls [])) : ∀ (xl0 : Int) (zl1 : Int32) (zl2 : Int32) (M : Mm) (H : Heap) (locs : List Loc) (ls : Array Slot), Wd D G S M H → va_S (aG G) s.heap H locs → lv_has ls 3 [(0, .ref (adr G xl0)), (1, .int zl1), (2, .int zl2)] → wp_X12_firstFor_78 S k16 post xl0 zl1.toInt zl2.toInt  M → W p l e RM_X12_firstFor s m args below meth c H locs 0 0 (MQ below (QI D G S post) args s 0 0 (aG G)) (F0 m 78 ls []) := by
  obtain ⟨hx, hb, hr, hlocks, hml, hown, hts, hK⟩ := id C
  intro xl0 zl1 zl2 M H locs ls hP hS hl h
  unfold wp_X12_firstFor_78 at h
  refine r_iinc hx hb (fun z2 => [(2, .int z2), (0, .ref (adr G xl0)), (1, .int zl1)]) dX12_firstFor_78 (by decide) hl (k := 2) rfl (by decide) (fun _ => rfl) h (fun z2 ls hl h => ?_)
  refine lv_goto (tgt := 16) hx hb dX12_firstFor_81 (by decide) ?_
  exact hk16 xl0 zl1 z2 _ _ _ _ hP hS (lv_sub hl [1, 2, 0] rfl) h
set_option maxHeartbeats 4000000 in
set_option maxRecDepth 100000 in
theorem t_X12_firstFor_16 {p : Program} {l : Launch} {e : Env} {s : State} {m : MethodId} {args : Array Value} {below : List Frame} {meth : Method} {c : Code} {D : va_G} {G : Gt} {S : Sh} {post : Int → Mm → Prop} (C : Cx p s m args meth c D G cX12_firstFor 3 (some .int) (cw_X12_firstFor :: gw) RX12) : ∀ (n : Nat) (xl0 : Int) (zl1 : Int32) (zl2 : Int32) (M : Mm) (H : Heap) (locs : List Loc) (ls : Array Slot), Wd D G S M H → va_S (aG G) s.heap H locs → lv_has ls 3 [(0, .ref (adr G xl0)), (1, .int zl1), (2, .int zl2)] → wp_X12_firstFor_16 S post n xl0 zl1.toInt zl2.toInt  M → W p l e RM_X12_firstFor s m args below meth c H locs 0 0 (MQ below (QI D G S post) args s 0 0 (aG G)) (F0 m 16 ls []) := by
  obtain ⟨hx, hb, hr, hlocks, hml, hown, hts, hK⟩ := id C
  intro n
  induction n with
  | zero => intro xl0 zl1 zl2 M H locs ls hP hS hl h; exact h.elim
  | succ n ih =>
    intro xl0 zl1 zl2 M H locs ls hP hS hl h
    unfold wp_X12_firstFor_16 at h
    refine lv_iload_n hx hb dX12_firstFor_16 rfl (lv_at hl 2 rfl) ?_
    refine lv_aload_n hx hb dX12_firstFor_17 rfl (lv_at hl 0 rfl) ?_
    refine r_getr (C := RX12) (T := TX12) (N := 38) hx hb hts (fun w h => List.mem_cons_of_mem _ (iX12 w h)) hown hK hP rfl (by decide) rfl 20 (by decide) (hts _ (List.mem_cons_of_mem _ kw_1354)) (fun _ h9 => h9) dX12_firstFor_18 (by decide) h (fun x4 h => ?_)
    refine r_iconst hx hb dX12_firstFor_21 (by decide) h (fun z6 h => ?_)
    refine r_iald hx hb hK hP dX12_firstFor_22 h (fun z8 h => ?_)
    refine r_icmp_ge (tgt := 84) hx hb dX12_firstFor_23 (by decide) h (fun h => ?_) (fun h => ?_)
    · refine r_iconst hx hb dX12_firstFor_84 (by decide) h (fun z10 h => ?_)
      exact r_iret hx hb hr hlocks hP hS dX12_firstFor_85 h
    · refine lv_aload_n hx hb dX12_firstFor_26 rfl (lv_at hl 0 rfl) ?_
      refine lv_iload_n hx hb dX12_firstFor_27 rfl (lv_at hl 2 rfl) ?_
      refine q_Vi hx hb hml hown hts hK hP hS (c_X12_stands l D G S _ xl0 zl2 _ h.2) ⟨callB_of 1 hts (gw_good kw_1670) rfl rfl rfl (hts _ (List.mem_cons_of_mem _ kw_14)) (hts _ (List.mem_cons_of_mem _ kw_1667)) hd_X12_stands ⟨Nat.le_of_ble_eq_true rfl, Nat.le_of_ble_eq_true rfl⟩, (hts _ (List.mem_cons_of_mem _ kw_1669)), (hts _ (List.mem_cons_of_mem _ kp_92))⟩ h.1 (ci := 12) rfl (by decide) rfl hl.1 rfl (lv_room (Nat.le_of_ble_eq_true rfl)) dX12_firstFor_28 ⟨Nat.zero_le _, Nat.zero_le _⟩ (fun z13 M11 H locs h hP hS => ?_)
      refine r_if_eq (tgt := 78) hx hb dX12_firstFor_31 (by decide) h (fun h => ?_) (fun h => ?_)
      · exact t_X12_firstFor_78 C ih xl0 zl1 zl2 _ _ _ _ hP hS (lv_sub hl [0, 1, 2] rfl) h
      · refine lv_aload_n hx hb dX12_firstFor_34 rfl (lv_at hl 0 rfl) ?_
        refine lv_iload_n hx hb dX12_firstFor_35 rfl (lv_at hl 2 rfl) ?_
        refine r_iconst hx hb dX12_firstFor_36 (by decide) h (fun z15 h => ?_)
        refine q_Vi hx hb hml hown hts hK hP hS (c_X12_jugOf l D G S _ xl0 zl2 z15 _ h.2) ⟨callB_of 2 hts (gw_good kw_1658) rfl rfl rfl (hts _ (List.mem_cons_of_mem _ kw_14)) (hts _ (List.mem_cons_of_mem _ kw_1655)) hd_X12_jugOf ⟨Nat.le_of_ble_eq_true rfl, Nat.le_of_ble_eq_true rfl⟩, (hts _ (List.mem_cons_of_mem _ kw_1657)), (hts _ (List.mem_cons_of_mem _ kp_90))⟩ h.1 (ci := 12) rfl (by decide) rfl hl.1 rfl (lv_room (Nat.le_of_ble_eq_true rfl)) dX12_firstFor_37 ⟨Nat.zero_le _, Nat.zero_le _⟩ (fun z18 M16 H locs h hP hS => ?_)
        refine lv_aload_n hx hb dX12_firstFor_40 rfl (lv_at hl 0 rfl) ?_
        refine lv_iload_n hx hb dX12_firstFor_41 rfl (lv_at hl 1 rfl) ?_
        refine r_iconst hx hb dX12_firstFor_42 (by decide) h (fun z20 h => ?_)
        refine q_Vi hx hb hml hown hts hK hP hS (c_X12_wantOf l D G S _ xl0 zl1 z20 _ h.2) ⟨callB_of 2 hts (gw_good kw_1682) rfl rfl rfl (hts _ (List.mem_cons_of_mem _ kw_14)) (hts _ (List.mem_cons_of_mem _ kw_1679)) hd_X12_wantOf ⟨Nat.le_of_ble_eq_true rfl, Nat.le_of_ble_eq_true rfl⟩, (hts _ (List.mem_cons_of_mem _ kw_1681)), (hts _ (List.mem_cons_of_mem _ kp_94))⟩ h.1 (ci := 12) rfl (by decide) rfl hl.1 rfl (lv_room (Nat.le_of_ble_eq_true rfl)) dX12_firstFor_43 ⟨Nat.zero_le _, Nat.zero_le _⟩ (fun z23 M21 H locs h hP hS => ?_)
        refine r_icmp_ne (tgt := 78) hx hb dX12_firstFor_46 (by decide) h (fun h => ?_) (fun h => ?_)
        · exact t_X12_firstFor_78 C ih xl0 zl1 zl2 _ _ _ _ hP hS (lv_sub hl [0, 1, 2] rfl) h
        · refine lv_aload_n hx hb dX12_firstFor_49 rfl (lv_at hl 0 rfl) ?_
          refine lv_iload_n hx hb dX12_firstFor_50 rfl (lv_at hl 2 rfl) ?_
          refine r_iconst hx hb dX12_firstFor_51 (by decide) h (fun z25 h => ?_)
          refine q_Vi hx hb hml hown hts hK hP hS (c_X12_jugOf l D G S _ xl0 zl2 z25 _ h.2) ⟨callB_of 2 hts (gw_good kw_1658) rfl rfl rfl (hts _ (List.mem_cons_of_mem _ kw_14)) (hts _ (List.mem_cons_of_mem _ kw_1655)) hd_X12_jugOf ⟨Nat.le_of_ble_eq_true rfl, Nat.le_of_ble_eq_true rfl⟩, (hts _ (List.mem_cons_of_mem _ kw_1657)), (hts _ (List.mem_cons_of_mem _ kp_90))⟩ h.1 (ci := 12) rfl (by decide) rfl hl.1 rfl (lv_room (Nat.le_of_ble_eq_true rfl)) dX12_firstFor_52 ⟨Nat.zero_le _, Nat.zero_le _⟩ (fun z28 M26 H locs h hP hS => ?_)
          refine r_i2l hx hb dX12_firstFor_55 h (fun z30 h => ?_)
          refine lv_aload_n hx hb dX12_firstFor_56 rfl (lv_at hl 0 rfl) ?_
          refine lv_iload_n hx hb dX12_firstFor_57 rfl (lv_at hl 1 rfl) ?_
          refine r_iconst hx hb dX12_firstFor_58 (by decide) h (fun z32 h => ?_)
          refine q_Vi hx hb hml hown hts hK hP hS (c_X12_wantOf l D G S _ xl0 zl1 z32 _ h.2) ⟨callB_of 2 hts (gw_good kw_1682) rfl rfl rfl (hts _ (List.mem_cons_of_mem _ kw_14)) (hts _ (List.mem_cons_of_mem _ kw_1679)) hd_X12_wantOf ⟨Nat.le_of_ble_eq_true rfl, Nat.le_of_ble_eq_true rfl⟩, (hts _ (List.mem_cons_of_mem _ kw_1681)), (hts _ (List.mem_cons_of_mem _ kp_94))⟩ h.1 (ci := 12) rfl (by decide) rfl hl.1 rfl (lv_room (Nat.le_of_ble_eq_true rfl)) dX12_firstFor_59 ⟨Nat.zero_le _, Nat.zero_le _⟩ (fun z35 M33 H locs h hP hS => ?_)
          refine r_i2l hx hb dX12_firstFor_62 h (fun z37 h => ?_)
          refine lv_aload_n hx hb dX12_firstFor_63 rfl (lv_at hl 0 rfl) ?_
          refine lv_iload_n hx hb dX12_firstFor_64 rfl (lv_at hl 1 rfl) ?_
          refine r_iconst hx hb dX12_firstFor_65 (by decide) h (fun z39 h => ?_)
          refine q_Vi hx hb hml hown hts hK hP hS (c_X12_wantOf l D G S _ xl0 zl1 z39 _ h.2) ⟨callB_of 2 hts (gw_good kw_1682) rfl rfl rfl (hts _ (List.mem_cons_of_mem _ kw_14)) (hts _ (List.mem_cons_of_mem _ kw_1679)) hd_X12_wantOf ⟨Nat.le_of_ble_eq_true rfl, Nat.le_of_ble_eq_true rfl⟩, (hts _ (List.mem_cons_of_mem _ kw_1681)), (hts _ (List.mem_cons_of_mem _ kp_94))⟩ h.1 (ci := 12) rfl (by decide) rfl hl.1 rfl (lv_room (Nat.le_of_ble_eq_true rfl)) dX12_firstFor_66 ⟨Nat.zero_le _, Nat.zero_le _⟩ (fun z42 M40 H locs h hP hS => ?_)
          refine r_i2l hx hb dX12_firstFor_69 h (fun z44 h => ?_)
          refine q_Si hx hb hml hown hts hK hP hS (c_X12_in l D G S _ z30 z37 z44 _ h) ⟨callB_of 3 hts (gw_good kw_1523) rfl rfl rfl (hts _ (List.mem_cons_of_mem _ kw_14)) (hts _ (List.mem_cons_of_mem _ kw_1521)) hd_X12_in ⟨Nat.le_of_ble_eq_true rfl, Nat.le_of_ble_eq_true rfl⟩, (hts _ (List.mem_cons_of_mem _ kw_1522))⟩ rfl hl.1 rfl (lv_room (Nat.le_of_ble_eq_true rfl)) dX12_firstFor_70 ⟨Nat.zero_le _, Nat.zero_le _⟩ (fun z47 M45 H locs h hP hS => ?_)
          refine r_if_eq (tgt := 78) hx hb dX12_firstFor_73 (by decide) h (fun h => ?_) (fun h => ?_)
          · exact t_X12_firstFor_78 C ih xl0 zl1 zl2 _ _ _ _ hP hS (lv_sub hl [0, 1, 2] rfl) h
          · refine lv_iload_n hx hb dX12_firstFor_76 rfl (lv_at hl 2 rfl) ?_
            exact r_iret hx hb hr hlocks hP hS dX12_firstFor_77 h
set_option maxHeartbeats 4000000 in
set_option maxRecDepth 100000 in
theorem c_X12_firstFor (l : Launch) (D : va_G) (G : Gt) (S : Sh) (M : Mm) (xl0 : Int) (zl1 : Int32) (post : Int → Mm → Prop) (h : wp_X12_firstFor S M xl0 zl1.toInt post) : Met l yX12_firstFor (cw_X12_firstFor :: gw) RM_X12_firstFor (va_Pc [.ref (adr G xl0), .int zl1] (fun U => KN D G U ∧ Wd D G S M U.heap)) (QI D G S post) 0 0 (aG G) := by
  refine Met.ofW (cc := cX12_firstFor) (maxL := 3) (ret := (some .int)) (by decide) rfl ?_
  intro p e s m args below meth c s₁ B hml hv
  obtain ⟨rfl, hK, hP⟩ := hv
  have hx := B.exec
  have hb := B.bytes
  have hr := B.returns
  have hts := atoms_spec (ws := cw_X12_firstFor :: gw) B.pre
  have hown : s.vm.findClass RX12 = some m.cls := findClass_of_methodNamed B.named
  have hlocks := B.notSynchronized
  have hS : va_S (aG G) s.heap s.heap [] := va_S.rf
  have C : Cx p s m ([.ref (adr G xl0), .int zl1] : List Value).toArray meth c D G cX12_firstFor 3 (some .int) (cw_X12_firstFor :: gw) RX12 := ⟨hx, hb, hr, hlocks, hml, hown, hts, hK⟩
  have hl := lv_entry ([.ref (adr G xl0), .int zl1]) (n := 3) (Nat.le_of_ble_eq_true rfl)
  rw [lg_entry_eq]
  generalize (lg_sl ([.ref (adr G xl0), .int zl1]) ++ List.replicate (3 - (lg_sl ([.ref (adr G xl0), .int zl1])).length) Slot.unset).toArray = ls at hl ⊢
  have hl : lv_has ls 3 [(0, .ref (adr G xl0)), (1, .int zl1)] := hl
  unfold wp_X12_firstFor at h
  refine lv_aload_n hx hb dX12_firstFor_0 rfl (lv_at hl 0 rfl) ?_
  refine r_getr (C := RX12) (T := TX12) (N := 38) hx hb hts (fun w h => List.mem_cons_of_mem _ (iX12 w h)) hown hK hP rfl (by decide) rfl 20 (by decide) (hts _ (List.mem_cons_of_mem _ kw_1354)) (fun _ h9 => h9) dX12_firstFor_1 (by decide) h (fun x49 h => ?_)
  refine r_bipush hx hb dX12_firstFor_4 (by decide) h (fun z51 h => ?_)
  refine lv_iload_n hx hb dX12_firstFor_6 rfl (lv_at hl 1 rfl) ?_
  refine r_iadd hx hb dX12_firstFor_7 h (fun z53 h => ?_)
  refine r_iald hx hb hK hP dX12_firstFor_8 h (fun z55 h => ?_)
  refine r_if_lt (tgt := 14) hx hb dX12_firstFor_9 (by decide) h (fun h => ?_) (fun h => ?_)
  · refine r_iconst hx hb dX12_firstFor_14 (by decide) h (fun z57 h => ?_)
    refine lv_istore_n (lv' := [(2, .int z57), (0, .ref (adr G xl0)), (1, .int zl1)]) hx hb dX12_firstFor_15 rfl hl (by decide) rfl (fun ls hl => ?_)
    obtain ⟨n9, h⟩ := h
    exact t_X12_firstFor_16 C n9 xl0 zl1 z57 _ _ _ _ hP hS (lv_sub hl [1, 2, 0] rfl) h
  · refine r_iconst hx hb dX12_firstFor_12 (by decide) h (fun z59 h => ?_)
    exact r_iret hx hb hr hlocks hP hS dX12_firstFor_13 h
/-! TurningMilkModel.want(II)I -/
abbrev RM_X12_want : Room := { frames := 4, cells := 0, slots := 0, locals := 105 }
def cw_X12_want : Cond := Cond.code yX12_want cX12_want 3 (Option.some FieldType.int)
theorem hd_X12_want : yX12_want.cls ≠ "java/lang/invoke/MethodHandle" ∧ yX12_want.cls ≠ "java/lang/invoke/VarHandle" ∧ (parseMethodDescriptor yX12_want.desc).map (fun d => d.parameters.length) = some 2 := by decide +kernel
theorem dX12_want_0 : decode cX12_want 0 = .ok (.aload_n 0, 1) := by decide +kernel
theorem dX12_want_1 : decode cX12_want 1 = .ok (.iload_n 1, 1) := by decide +kernel
theorem dX12_want_2 : decode cX12_want 2 = .ok (.invokevirtual 315, 3) := by decide +kernel
theorem dX12_want_5 : decode cX12_want 5 = .ok (.ifCond .eq 15, 3) := by decide +kernel
theorem dX12_want_8 : decode cX12_want 8 = .ok (.iload_n 2, 1) := by decide +kernel
theorem dX12_want_9 : decode cX12_want 9 = .ok (.i2l, 1) := by decide +kernel
theorem dX12_want_10 : decode cX12_want 10 = .ok (.lconst 0, 1) := by decide +kernel
theorem dX12_want_11 : decode cX12_want 11 = .ok (.ldc2_w 304, 3) := by decide +kernel
theorem dX12_want_14 : decode cX12_want 14 = .ok (.invokestatic 118, 3) := by decide +kernel
theorem dX12_want_17 : decode cX12_want 17 = .ok (.ifCond .ne 6, 3) := by decide +kernel
theorem dX12_want_20 : decode cX12_want 20 = .ok (.bipush (-2), 2) := by decide +kernel
theorem dX12_want_22 : decode cX12_want 22 = .ok (.ireturn, 1) := by decide +kernel
theorem dX12_want_23 : decode cX12_want 23 = .ok (.iload_n 2, 1) := by decide +kernel
theorem dX12_want_24 : decode cX12_want 24 = .ok (.iconst 4, 1) := by decide +kernel
theorem dX12_want_25 : decode cX12_want 25 = .ok (.if_icmp .ge 12, 3) := by decide +kernel
theorem dX12_want_28 : decode cX12_want 28 = .ok (.aload_n 0, 1) := by decide +kernel
theorem dX12_want_29 : decode cX12_want 29 = .ok (.iload_n 1, 1) := by decide +kernel
theorem dX12_want_30 : decode cX12_want 30 = .ok (.iload_n 2, 1) := by decide +kernel
theorem dX12_want_31 : decode cX12_want 31 = .ok (.invokevirtual 295, 3) := by decide +kernel
theorem dX12_want_34 : decode cX12_want 34 = .ok (.goto 33, 3) := by decide +kernel
theorem dX12_want_37 : decode cX12_want 37 = .ok (.iload_n 2, 1) := by decide +kernel
theorem dX12_want_38 : decode cX12_want 38 = .ok (.iconst 4, 1) := by decide +kernel
theorem dX12_want_39 : decode cX12_want 39 = .ok (.if_icmp .ne 15, 3) := by decide +kernel
theorem dX12_want_42 : decode cX12_want 42 = .ok (.aload_n 0, 1) := by decide +kernel
theorem dX12_want_43 : decode cX12_want 43 = .ok (.getfield 39, 3) := by decide +kernel
theorem dX12_want_46 : decode cX12_want 46 = .ok (.bipush 51, 2) := by decide +kernel
theorem dX12_want_48 : decode cX12_want 48 = .ok (.iload_n 1, 1) := by decide +kernel
theorem dX12_want_49 : decode cX12_want 49 = .ok (.iadd, 1) := by decide +kernel
theorem dX12_want_50 : decode cX12_want 50 = .ok (.iaload, 1) := by decide +kernel
theorem dX12_want_51 : decode cX12_want 51 = .ok (.goto 16, 3) := by decide +kernel
theorem dX12_want_54 : decode cX12_want 54 = .ok (.aload_n 0, 1) := by decide +kernel
theorem dX12_want_55 : decode cX12_want 55 = .ok (.iload_n 1, 1) := by decide +kernel
theorem dX12_want_56 : decode cX12_want 56 = .ok (.invokevirtual 318, 3) := by decide +kernel
theorem dX12_want_59 : decode cX12_want 59 = .ok (.ifCond .lt 7, 3) := by decide +kernel
theorem dX12_want_62 : decode cX12_want 62 = .ok (.iconst 1, 1) := by decide +kernel
theorem dX12_want_63 : decode cX12_want 63 = .ok (.goto 4, 3) := by decide +kernel
theorem dX12_want_66 : decode cX12_want 66 = .ok (.iconst 0, 1) := by decide +kernel
theorem dX12_want_67 : decode cX12_want 67 = .ok (.ireturn, 1) := by decide +kernel
def wp_X12_want (S : Sh) (M : Mm) (u0 : Int) (u1 : Int) (u2 : Int) (post : Int → Mm → Prop) : Prop := isK S u0 12 ∧ (wp_X12_isWant S M u0 u1 <| fun v2 M1 => wIf (v2 = 0) (wC (-2) fun v4 => post v4 M1) (wC u2 fun v6 => wC 0 fun v8 => wC 5 fun v10 => wp_X12_in S M1 v6 v8 v10 <| fun v13 M12 => wIf (¬ v13 = 0) (wC 4 fun v15 => wIf (v15 ≤ u2) (wC 4 fun v17 => wIf (¬ u2 = v17) (isK S u0 12 ∧ (wp_X12_firstFor S M12 u0 u1 <| fun v20 M19 => wIf (v20 < 0) (wC 0 fun v22 => post v22 M19) (wC 1 fun v24 => post v24 M19))) (wGetR S M12 u0 12 20 fun v26 => wC 51 fun v28 => wA v28 u1 fun v30 => wLd S M12 v26 14 v30 fun v32 => post v32 M12)) (isK S u0 12 ∧ (wp_X12_wantOf S M12 u0 u1 u2 <| fun v35 M34 => post v35 M34))) (wC (-2) fun v37 => post v37 M12)))
set_option maxHeartbeats 4000000 in
set_option maxRecDepth 100000 in
theorem c_X12_want (l : Launch) (D : va_G) (G : Gt) (S : Sh) (M : Mm) (xl0 : Int) (zl1 : Int32) (zl2 : Int32) (post : Int → Mm → Prop) (h : wp_X12_want S M xl0 zl1.toInt zl2.toInt post) : Met l yX12_want (cw_X12_want :: gw) RM_X12_want (va_Pc [.ref (adr G xl0), .int zl1, .int zl2] (fun U => KN D G U ∧ Wd D G S M U.heap)) (QI D G S post) 0 0 (aG G) := by
  refine Met.ofW (cc := cX12_want) (maxL := 3) (ret := (some .int)) (by decide) rfl ?_
  intro p e s m args below meth c s₁ B hml hv
  obtain ⟨rfl, hK, hP⟩ := hv
  have hx := B.exec
  have hb := B.bytes
  have hr := B.returns
  have hts := atoms_spec (ws := cw_X12_want :: gw) B.pre
  have hown : s.vm.findClass RX12 = some m.cls := findClass_of_methodNamed B.named
  have hlocks := B.notSynchronized
  have hS : va_S (aG G) s.heap s.heap [] := va_S.rf
  have C : Cx p s m ([.ref (adr G xl0), .int zl1, .int zl2] : List Value).toArray meth c D G cX12_want 3 (some .int) (cw_X12_want :: gw) RX12 := ⟨hx, hb, hr, hlocks, hml, hown, hts, hK⟩
  have hl := lv_entry ([.ref (adr G xl0), .int zl1, .int zl2]) (n := 3) (Nat.le_of_ble_eq_true rfl)
  rw [lg_entry_eq]
  generalize (lg_sl ([.ref (adr G xl0), .int zl1, .int zl2]) ++ List.replicate (3 - (lg_sl ([.ref (adr G xl0), .int zl1, .int zl2])).length) Slot.unset).toArray = ls at hl ⊢
  have hl : lv_has ls 3 [(0, .ref (adr G xl0)), (1, .int zl1), (2, .int zl2)] := hl
  unfold wp_X12_want at h
  refine lv_aload_n hx hb dX12_want_0 rfl (lv_at hl 0 rfl) ?_
  refine lv_iload_n hx hb dX12_want_1 rfl (lv_at hl 1 rfl) ?_
  refine q_Vi hx hb hml hown hts hK hP hS (c_X12_isWant l D G S _ xl0 zl1 _ h.2) ⟨callB_of 1 hts (gw_good kw_1678) rfl rfl rfl (hts _ (List.mem_cons_of_mem _ kw_14)) (hts _ (List.mem_cons_of_mem _ kw_1675)) hd_X12_isWant ⟨Nat.le_of_ble_eq_true rfl, Nat.le_of_ble_eq_true rfl⟩, (hts _ (List.mem_cons_of_mem _ kw_1677)), (hts _ (List.mem_cons_of_mem _ kp_93))⟩ h.1 (ci := 12) rfl (by decide) rfl hl.1 rfl (lv_room (Nat.le_of_ble_eq_true rfl)) dX12_want_2 ⟨Nat.zero_le _, Nat.zero_le _⟩ (fun z3 M1 H locs h hP hS => ?_)
  refine r_if_eq (tgt := 20) hx hb dX12_want_5 (by decide) h (fun h => ?_) (fun h => ?_)
  · refine r_bipush hx hb dX12_want_20 (by decide) h (fun z5 h => ?_)
    exact r_iret hx hb hr hlocks hP hS dX12_want_22 h
  · refine lv_iload_n hx hb dX12_want_8 rfl (lv_at hl 2 rfl) ?_
    refine r_i2l hx hb dX12_want_9 h (fun z7 h => ?_)
    refine r_lconst hx hb dX12_want_10 (v := 0) (by decide) h (fun z9 h => ?_)
    refine r_ldc2 hx hb hown (hts _ (List.mem_cons_of_mem _ kw_1646)) dX12_want_11 (n := 5) (by decide) h (fun z11 h => ?_)
    refine q_Si hx hb hml hown hts hK hP hS (c_X12_in l D G S _ z7 z9 z11 _ h) ⟨callB_of 3 hts (gw_good kw_1523) rfl rfl rfl (hts _ (List.mem_cons_of_mem _ kw_14)) (hts _ (List.mem_cons_of_mem _ kw_1521)) hd_X12_in ⟨Nat.le_of_ble_eq_true rfl, Nat.le_of_ble_eq_true rfl⟩, (hts _ (List.mem_cons_of_mem _ kw_1522))⟩ rfl hl.1 rfl (lv_room (Nat.le_of_ble_eq_true rfl)) dX12_want_14 ⟨Nat.zero_le _, Nat.zero_le _⟩ (fun z14 M12 H locs h hP hS => ?_)
    refine r_if_ne (tgt := 23) hx hb dX12_want_17 (by decide) h (fun h => ?_) (fun h => ?_)
    · refine lv_iload_n hx hb dX12_want_23 rfl (lv_at hl 2 rfl) ?_
      refine r_iconst hx hb dX12_want_24 (by decide) h (fun z16 h => ?_)
      refine r_icmp_ge (tgt := 37) hx hb dX12_want_25 (by decide) h (fun h => ?_) (fun h => ?_)
      · refine lv_iload_n hx hb dX12_want_37 rfl (lv_at hl 2 rfl) ?_
        refine r_iconst hx hb dX12_want_38 (by decide) h (fun z18 h => ?_)
        refine r_icmp_ne (tgt := 54) hx hb dX12_want_39 (by decide) h (fun h => ?_) (fun h => ?_)
        · refine lv_aload_n hx hb dX12_want_54 rfl (lv_at hl 0 rfl) ?_
          refine lv_iload_n hx hb dX12_want_55 rfl (lv_at hl 1 rfl) ?_
          refine q_Vi hx hb hml hown hts hK hP hS (c_X12_firstFor l D G S _ xl0 zl1 _ h.2) ⟨callB_of 1 hts (gw_good kw_1686) rfl rfl rfl (hts _ (List.mem_cons_of_mem _ kw_14)) (hts _ (List.mem_cons_of_mem _ kw_1683)) hd_X12_firstFor ⟨Nat.le_of_ble_eq_true rfl, Nat.le_of_ble_eq_true rfl⟩, (hts _ (List.mem_cons_of_mem _ kw_1685)), (hts _ (List.mem_cons_of_mem _ kp_95))⟩ h.1 (ci := 12) rfl (by decide) rfl hl.1 rfl (lv_room (Nat.le_of_ble_eq_true rfl)) dX12_want_56 ⟨Nat.zero_le _, Nat.zero_le _⟩ (fun z21 M19 H locs h hP hS => ?_)
          refine r_if_lt (tgt := 66) hx hb dX12_want_59 (by decide) h (fun h => ?_) (fun h => ?_)
          · refine r_iconst hx hb dX12_want_66 (by decide) h (fun z23 h => ?_)
            exact r_iret hx hb hr hlocks hP hS dX12_want_67 h
          · refine r_iconst hx hb dX12_want_62 (by decide) h (fun z25 h => ?_)
            refine lv_goto (tgt := 67) hx hb dX12_want_63 (by decide) ?_
            exact r_iret hx hb hr hlocks hP hS dX12_want_67 h
        · refine lv_aload_n hx hb dX12_want_42 rfl (lv_at hl 0 rfl) ?_
          refine r_getr (C := RX12) (T := TX12) (N := 38) hx hb hts (fun w h => List.mem_cons_of_mem _ (iX12 w h)) hown hK hP rfl (by decide) rfl 20 (by decide) (hts _ (List.mem_cons_of_mem _ kw_1354)) (fun _ h9 => h9) dX12_want_43 (by decide) h (fun x27 h => ?_)
          refine r_bipush hx hb dX12_want_46 (by decide) h (fun z29 h => ?_)
          refine lv_iload_n hx hb dX12_want_48 rfl (lv_at hl 1 rfl) ?_
          refine r_iadd hx hb dX12_want_49 h (fun z31 h => ?_)
          refine r_iald hx hb hK hP dX12_want_50 h (fun z33 h => ?_)
          refine lv_goto (tgt := 67) hx hb dX12_want_51 (by decide) ?_
          exact r_iret hx hb hr hlocks hP hS dX12_want_67 h
      · refine lv_aload_n hx hb dX12_want_28 rfl (lv_at hl 0 rfl) ?_
        refine lv_iload_n hx hb dX12_want_29 rfl (lv_at hl 1 rfl) ?_
        refine lv_iload_n hx hb dX12_want_30 rfl (lv_at hl 2 rfl) ?_
        refine q_Vi hx hb hml hown hts hK hP hS (c_X12_wantOf l D G S _ xl0 zl1 zl2 _ h.2) ⟨callB_of 2 hts (gw_good kw_1682) rfl rfl rfl (hts _ (List.mem_cons_of_mem _ kw_14)) (hts _ (List.mem_cons_of_mem _ kw_1679)) hd_X12_wantOf ⟨Nat.le_of_ble_eq_true rfl, Nat.le_of_ble_eq_true rfl⟩, (hts _ (List.mem_cons_of_mem _ kw_1681)), (hts _ (List.mem_cons_of_mem _ kp_94))⟩ h.1 (ci := 12) rfl (by decide) rfl hl.1 rfl (lv_room (Nat.le_of_ble_eq_true rfl)) dX12_want_31 ⟨Nat.zero_le _, Nat.zero_le _⟩ (fun z36 M34 H locs h hP hS => ?_)
        refine lv_goto (tgt := 67) hx hb dX12_want_34 (by decide) ?_
        exact r_iret hx hb hr hlocks hP hS dX12_want_67 h
    · refine r_bipush hx hb dX12_want_20 (by decide) h (fun z38 h => ?_)
      exact r_iret hx hb hr hlocks hP hS dX12_want_22 h
/-! TurningMilkModel.undo()I -/
abbrev RM_X12_undo : Room := { frames := 1, cells := 0, slots := 0, locals := 40 }
def cw_X12_undo : Cond := Cond.code yX12_undo cX12_undo 2 (Option.some FieldType.int)
theorem hd_X12_undo : yX12_undo.cls ≠ "java/lang/invoke/MethodHandle" ∧ yX12_undo.cls ≠ "java/lang/invoke/VarHandle" ∧ (parseMethodDescriptor yX12_undo.desc).map (fun d => d.parameters.length) = some 0 := by decide +kernel
theorem dX12_undo_0 : decode cX12_undo 0 = .ok (.aload_n 0, 1) := by decide +kernel
theorem dX12_undo_1 : decode cX12_undo 1 = .ok (.getfield 266, 3) := by decide +kernel
theorem dX12_undo_4 : decode cX12_undo 4 = .ok (.ifCond .ne 5, 3) := by decide +kernel
theorem dX12_undo_7 : decode cX12_undo 7 = .ok (.iconst (-1), 1) := by decide +kernel
theorem dX12_undo_8 : decode cX12_undo 8 = .ok (.ireturn, 1) := by decide +kernel
theorem dX12_undo_9 : decode cX12_undo 9 = .ok (.aload_n 0, 1) := by decide +kernel
theorem dX12_undo_10 : decode cX12_undo 10 = .ok (.dup, 1) := by decide +kernel
theorem dX12_undo_11 : decode cX12_undo 11 = .ok (.getfield 266, 3) := by decide +kernel
theorem dX12_undo_14 : decode cX12_undo 14 = .ok (.iconst 1, 1) := by decide +kernel
theorem dX12_undo_15 : decode cX12_undo 15 = .ok (.isub, 1) := by decide +kernel
theorem dX12_undo_16 : decode cX12_undo 16 = .ok (.putfield 266, 3) := by decide +kernel
theorem dX12_undo_19 : decode cX12_undo 19 = .ok (.iconst 0, 1) := by decide +kernel
theorem dX12_undo_20 : decode cX12_undo 20 = .ok (.istore_n 1, 1) := by decide +kernel
theorem dX12_undo_21 : decode cX12_undo 21 = .ok (.iload_n 1, 1) := by decide +kernel
theorem dX12_undo_22 : decode cX12_undo 22 = .ok (.bipush 57, 2) := by decide +kernel
theorem dX12_undo_24 : decode cX12_undo 24 = .ok (.if_icmp .ge 29, 3) := by decide +kernel
theorem dX12_undo_27 : decode cX12_undo 27 = .ok (.aload_n 0, 1) := by decide +kernel
theorem dX12_undo_28 : decode cX12_undo 28 = .ok (.getfield 39, 3) := by decide +kernel
theorem dX12_undo_31 : decode cX12_undo 31 = .ok (.iload_n 1, 1) := by decide +kernel
theorem dX12_undo_32 : decode cX12_undo 32 = .ok (.aload_n 0, 1) := by decide +kernel
theorem dX12_undo_33 : decode cX12_undo 33 = .ok (.getfield 46, 3) := by decide +kernel
theorem dX12_undo_36 : decode cX12_undo 36 = .ok (.bipush 57, 2) := by decide +kernel
theorem dX12_undo_38 : decode cX12_undo 38 = .ok (.aload_n 0, 1) := by decide +kernel
theorem dX12_undo_39 : decode cX12_undo 39 = .ok (.getfield 266, 3) := by decide +kernel
theorem dX12_undo_42 : decode cX12_undo 42 = .ok (.imul, 1) := by decide +kernel
theorem dX12_undo_43 : decode cX12_undo 43 = .ok (.iload_n 1, 1) := by decide +kernel
theorem dX12_undo_44 : decode cX12_undo 44 = .ok (.iadd, 1) := by decide +kernel
theorem dX12_undo_45 : decode cX12_undo 45 = .ok (.iaload, 1) := by decide +kernel
theorem dX12_undo_46 : decode cX12_undo 46 = .ok (.iastore, 1) := by decide +kernel
theorem dX12_undo_47 : decode cX12_undo 47 = .ok (.iinc 1 1, 3) := by decide +kernel
theorem dX12_undo_50 : decode cX12_undo 50 = .ok (.goto (-29), 3) := by decide +kernel
theorem dX12_undo_53 : decode cX12_undo 53 = .ok (.aload_n 0, 1) := by decide +kernel
theorem dX12_undo_54 : decode cX12_undo 54 = .ok (.getfield 266, 3) := by decide +kernel
theorem dX12_undo_57 : decode cX12_undo 57 = .ok (.ireturn, 1) := by decide +kernel
def wp_X12_undo_21 (S : Sh) (post : Int → Mm → Prop) : Nat → Int → Int → Mm → Prop
  | 0, _, _, _ => False
  | n + 1, u0, u1, M => wC 57 fun v1 => wIf (v1 ≤ u1) (wGet S M u0 12 25 fun v3 => post v3 M) (wGetR S M u0 12 20 fun v5 => wGetR S M u0 12 24 fun v7 => wC 57 fun v9 => wGet S M u0 12 25 fun v11 => wM v9 v11 fun v13 => wA v13 u1 fun v15 => wLd S M v7 14 v15 fun v17 => wSt S M v5 14 u1 v17 fun M19 => wA u1 1 fun v20 => wp_X12_undo_21 S post n u0 v20 M19)
def wp_X12_undo (S : Sh) (M : Mm) (u0 : Int) (post : Int → Mm → Prop) : Prop := wGet S M u0 12 25 fun v22 => wIf (¬ v22 = 0) (wGet S M u0 12 25 fun v24 => wC 1 fun v26 => wS v24 v26 fun v28 => wPut S M u0 12 25 v28 fun M30 => wC 0 fun v31 => ∃ n9 : Nat, wp_X12_undo_21 S post n9 u0 v31 M30) (wC (-1) fun v33 => post v33 M)
set_option maxHeartbeats 4000000 in
set_option maxRecDepth 100000 in
theorem t_X12_undo_21 {p : Program} {l : Launch} {e : Env} {s : State} {m : MethodId} {args : Array Value} {below : List Frame} {meth : Method} {c : Code} {D : va_G} {G : Gt} {S : Sh} {post : Int → Mm → Prop} (C : Cx p s m args meth c D G cX12_undo 2 (some .int) (cw_X12_undo :: gw) RX12) : ∀ (n : Nat) (xl0 : Int) (zl1 : Int32) (M : Mm) (H : Heap) (locs : List Loc) (ls : Array Slot), Wd D G S M H → va_S (aG G) s.heap H locs → lv_has ls 2 [(0, .ref (adr G xl0)), (1, .int zl1)] → wp_X12_undo_21 S post n xl0 zl1.toInt  M → W p l e RM_X12_undo s m args below meth c H locs 0 0 (MQ below (QI D G S post) args s 0 0 (aG G)) (F0 m 21 ls []) := by
  obtain ⟨hx, hb, hr, hlocks, hml, hown, hts, hK⟩ := id C
  intro n
  induction n with
  | zero => intro xl0 zl1 M H locs ls hP hS hl h; exact h.elim
  | succ n ih =>
    intro xl0 zl1 M H locs ls hP hS hl h
    unfold wp_X12_undo_21 at h
    refine lv_iload_n hx hb dX12_undo_21 rfl (lv_at hl 1 rfl) ?_
    refine r_bipush hx hb dX12_undo_22 (by decide) h (fun z2 h => ?_)
    refine r_icmp_ge (tgt := 53) hx hb dX12_undo_24 (by decide) h (fun h => ?_) (fun h => ?_)
    · refine lv_aload_n hx hb dX12_undo_53 rfl (lv_at hl 0 rfl) ?_
      refine r_geti (C := RX12) (T := TX12) (N := 38) hx hb hts (fun w h => List.mem_cons_of_mem _ (iX12 w h)) hown hK hP rfl (by decide) rfl 25 (by decide) (hts _ (List.mem_cons_of_mem _ kw_1359)) (fun _ h9 => h9) dX12_undo_54 (by decide) h (fun z4 h => ?_)
      exact r_iret hx hb hr hlocks hP hS dX12_undo_57 h
    · refine lv_aload_n hx hb dX12_undo_27 rfl (lv_at hl 0 rfl) ?_
      refine r_getr (C := RX12) (T := TX12) (N := 38) hx hb hts (fun w h => List.mem_cons_of_mem _ (iX12 w h)) hown hK hP rfl (by decide) rfl 20 (by decide) (hts _ (List.mem_cons_of_mem _ kw_1354)) (fun _ h9 => h9) dX12_undo_28 (by decide) h (fun x6 h => ?_)
      refine lv_iload_n hx hb dX12_undo_31 rfl (lv_at hl 1 rfl) ?_
      refine lv_aload_n hx hb dX12_undo_32 rfl (lv_at hl 0 rfl) ?_
      refine r_getr (C := RX12) (T := TX12) (N := 38) hx hb hts (fun w h => List.mem_cons_of_mem _ (iX12 w h)) hown hK hP rfl (by decide) rfl 24 (by decide) (hts _ (List.mem_cons_of_mem _ kw_1358)) (fun _ h9 => h9) dX12_undo_33 (by decide) h (fun x8 h => ?_)
      refine r_bipush hx hb dX12_undo_36 (by decide) h (fun z10 h => ?_)
      refine lv_aload_n hx hb dX12_undo_38 rfl (lv_at hl 0 rfl) ?_
      refine r_geti (C := RX12) (T := TX12) (N := 38) hx hb hts (fun w h => List.mem_cons_of_mem _ (iX12 w h)) hown hK hP rfl (by decide) rfl 25 (by decide) (hts _ (List.mem_cons_of_mem _ kw_1359)) (fun _ h9 => h9) dX12_undo_39 (by decide) h (fun z12 h => ?_)
      refine r_imul hx hb dX12_undo_42 h (fun z14 h => ?_)
      refine lv_iload_n hx hb dX12_undo_43 rfl (lv_at hl 1 rfl) ?_
      refine r_iadd hx hb dX12_undo_44 h (fun z16 h => ?_)
      refine r_iald hx hb hK hP dX12_undo_45 h (fun z18 h => ?_)
      refine r_iast hx hb hK hP hS dX12_undo_46 h (fun M19 H locs h hP hS => ?_)
      refine r_iinc hx hb (fun z21 => [(1, .int z21), (0, .ref (adr G xl0))]) dX12_undo_47 (by decide) hl (k := 1) rfl (by decide) (fun _ => rfl) h (fun z21 ls hl h => ?_)
      refine lv_goto (tgt := 21) hx hb dX12_undo_50 (by decide) ?_
      exact ih xl0 z21 _ _ _ _ hP hS (lv_sub hl [1, 0] rfl) h
set_option maxHeartbeats 4000000 in
set_option maxRecDepth 100000 in
theorem c_X12_undo (l : Launch) (D : va_G) (G : Gt) (S : Sh) (M : Mm) (xl0 : Int) (post : Int → Mm → Prop) (h : wp_X12_undo S M xl0 post) : Met l yX12_undo (cw_X12_undo :: gw) RM_X12_undo (va_Pc [.ref (adr G xl0)] (fun U => KN D G U ∧ Wd D G S M U.heap)) (QI D G S post) 0 0 (aG G) := by
  refine Met.ofW (cc := cX12_undo) (maxL := 2) (ret := (some .int)) (by decide) rfl ?_
  intro p e s m args below meth c s₁ B hml hv
  obtain ⟨rfl, hK, hP⟩ := hv
  have hx := B.exec
  have hb := B.bytes
  have hr := B.returns
  have hts := atoms_spec (ws := cw_X12_undo :: gw) B.pre
  have hown : s.vm.findClass RX12 = some m.cls := findClass_of_methodNamed B.named
  have hlocks := B.notSynchronized
  have hS : va_S (aG G) s.heap s.heap [] := va_S.rf
  have C : Cx p s m ([.ref (adr G xl0)] : List Value).toArray meth c D G cX12_undo 2 (some .int) (cw_X12_undo :: gw) RX12 := ⟨hx, hb, hr, hlocks, hml, hown, hts, hK⟩
  have hl := lv_entry ([.ref (adr G xl0)]) (n := 2) (Nat.le_of_ble_eq_true rfl)
  rw [lg_entry_eq]
  generalize (lg_sl ([.ref (adr G xl0)]) ++ List.replicate (2 - (lg_sl ([.ref (adr G xl0)])).length) Slot.unset).toArray = ls at hl ⊢
  have hl : lv_has ls 2 [(0, .ref (adr G xl0))] := hl
  unfold wp_X12_undo at h
  refine lv_aload_n hx hb dX12_undo_0 rfl (lv_at hl 0 rfl) ?_
  refine r_geti (C := RX12) (T := TX12) (N := 38) hx hb hts (fun w h => List.mem_cons_of_mem _ (iX12 w h)) hown hK hP rfl (by decide) rfl 25 (by decide) (hts _ (List.mem_cons_of_mem _ kw_1359)) (fun _ h9 => h9) dX12_undo_1 (by decide) h (fun z23 h => ?_)
  refine r_if_ne (tgt := 9) hx hb dX12_undo_4 (by decide) h (fun h => ?_) (fun h => ?_)
  · refine lv_aload_n hx hb dX12_undo_9 rfl (lv_at hl 0 rfl) ?_
    refine lv_dup hx hb dX12_undo_10 rfl ?_
    refine r_geti (C := RX12) (T := TX12) (N := 38) hx hb hts (fun w h => List.mem_cons_of_mem _ (iX12 w h)) hown hK hP rfl (by decide) rfl 25 (by decide) (hts _ (List.mem_cons_of_mem _ kw_1359)) (fun _ h9 => h9) dX12_undo_11 (by decide) h (fun z25 h => ?_)
    refine r_iconst hx hb dX12_undo_14 (by decide) h (fun z27 h => ?_)
    refine r_isub hx hb dX12_undo_15 h (fun z29 h => ?_)
    refine r_puti (C := RX12) (T := TX12) (N := 38) hx hb hts (fun w h => List.mem_cons_of_mem _ (iX12 w h)) hown hK hP tyX12 tyX12_ok nmX12 hS rfl (by decide) rfl 25 (by decide) (hts _ (List.mem_cons_of_mem _ kw_1359)) (fun _ h9 => h9) rfl (tyX12_ok 25 (by decide)) rfl rfl dX12_undo_16 (by decide) h (fun M30 H locs h hP hS => ?_)
    refine r_iconst hx hb dX12_undo_19 (by decide) h (fun z32 h => ?_)
    refine lv_istore_n (lv' := [(1, .int z32), (0, .ref (adr G xl0))]) hx hb dX12_undo_20 rfl hl (by decide) rfl (fun ls hl => ?_)
    obtain ⟨n9, h⟩ := h
    exact t_X12_undo_21 C n9 xl0 z32 _ _ _ _ hP hS (lv_sub hl [1, 0] rfl) h
  · refine r_iconst hx hb dX12_undo_7 (by decide) h (fun z34 h => ?_)
    exact r_iret hx hb hr hlocks hP hS dX12_undo_8 h
/-! TurningMilkModel.isDairy()Z -/
abbrev RM_X12_isDairy : Room := { frames := 1, cells := 0, slots := 0, locals := 40 }
def cw_X12_isDairy : Cond := Cond.code yX12_isDairy cX12_isDairy 1 (Option.some FieldType.boolean)
theorem hd_X12_isDairy : yX12_isDairy.cls ≠ "java/lang/invoke/MethodHandle" ∧ yX12_isDairy.cls ≠ "java/lang/invoke/VarHandle" ∧ (parseMethodDescriptor yX12_isDairy.desc).map (fun d => d.parameters.length) = some 0 := by decide +kernel
theorem dX12_isDairy_0 : decode cX12_isDairy 0 = .ok (.aload_n 0, 1) := by decide +kernel
theorem dX12_isDairy_1 : decode cX12_isDairy 1 = .ok (.getfield 39, 3) := by decide +kernel
theorem dX12_isDairy_4 : decode cX12_isDairy 4 = .ok (.iconst 0, 1) := by decide +kernel
theorem dX12_isDairy_5 : decode cX12_isDairy 5 = .ok (.iaload, 1) := by decide +kernel
theorem dX12_isDairy_6 : decode cX12_isDairy 6 = .ok (.ifCond .le 7, 3) := by decide +kernel
theorem dX12_isDairy_9 : decode cX12_isDairy 9 = .ok (.iconst 1, 1) := by decide +kernel
theorem dX12_isDairy_10 : decode cX12_isDairy 10 = .ok (.goto 4, 3) := by decide +kernel
theorem dX12_isDairy_13 : decode cX12_isDairy 13 = .ok (.iconst 0, 1) := by decide +kernel
theorem dX12_isDairy_14 : decode cX12_isDairy 14 = .ok (.ireturn, 1) := by decide +kernel
def wp_X12_isDairy (S : Sh) (M : Mm) (u0 : Int) (post : Int → Mm → Prop) : Prop := wGetR S M u0 12 20 fun v1 => wC 0 fun v3 => wLd S M v1 14 v3 fun v5 => wIf (v5 ≤ 0) (wC 0 fun v7 => (v7 = 0 ∨ v7 = 1) ∧ post v7 M) (wC 1 fun v9 => (v9 = 0 ∨ v9 = 1) ∧ post v9 M)
set_option maxHeartbeats 4000000 in
set_option maxRecDepth 100000 in
theorem c_X12_isDairy (l : Launch) (D : va_G) (G : Gt) (S : Sh) (M : Mm) (xl0 : Int) (post : Int → Mm → Prop) (h : wp_X12_isDairy S M xl0 post) : Met l yX12_isDairy (cw_X12_isDairy :: gw) RM_X12_isDairy (va_Pc [.ref (adr G xl0)] (fun U => KN D G U ∧ Wd D G S M U.heap)) (QI D G S post) 0 0 (aG G) := by
  refine Met.ofW (cc := cX12_isDairy) (maxL := 1) (ret := (some .boolean)) (by decide) rfl ?_
  intro p e s m args below meth c s₁ B hml hv
  obtain ⟨rfl, hK, hP⟩ := hv
  have hx := B.exec
  have hb := B.bytes
  have hr := B.returns
  have hts := atoms_spec (ws := cw_X12_isDairy :: gw) B.pre
  have hown : s.vm.findClass RX12 = some m.cls := findClass_of_methodNamed B.named
  have hlocks := B.notSynchronized
  have hS : va_S (aG G) s.heap s.heap [] := va_S.rf
  have C : Cx p s m ([.ref (adr G xl0)] : List Value).toArray meth c D G cX12_isDairy 1 (some .boolean) (cw_X12_isDairy :: gw) RX12 := ⟨hx, hb, hr, hlocks, hml, hown, hts, hK⟩
  have hl := lv_entry ([.ref (adr G xl0)]) (n := 1) (Nat.le_of_ble_eq_true rfl)
  rw [lg_entry_eq]
  generalize (lg_sl ([.ref (adr G xl0)]) ++ List.replicate (1 - (lg_sl ([.ref (adr G xl0)])).length) Slot.unset).toArray = ls at hl ⊢
  have hl : lv_has ls 1 [(0, .ref (adr G xl0))] := hl
  unfold wp_X12_isDairy at h
  refine lv_aload_n hx hb dX12_isDairy_0 rfl (lv_at hl 0 rfl) ?_
  refine r_getr (C := RX12) (T := TX12) (N := 38) hx hb hts (fun w h => List.mem_cons_of_mem _ (iX12 w h)) hown hK hP rfl (by decide) rfl 20 (by decide) (hts _ (List.mem_cons_of_mem _ kw_1354)) (fun _ h9 => h9) dX12_isDairy_1 (by decide) h (fun x2 h => ?_)
  refine r_iconst hx hb dX12_isDairy_4 (by decide) h (fun z4 h => ?_)
  refine r_iald hx hb hK hP dX12_isDairy_5 h (fun z6 h => ?_)
  refine r_if_le (tgt := 13) hx hb dX12_isDairy_6 (by decide) h (fun h => ?_) (fun h => ?_)
  · refine r_iconst hx hb dX12_isDairy_13 (by decide) h (fun z8 h => ?_)
    exact r_zret hx hb hr hlocks hP hS dX12_isDairy_14 h
  · refine r_iconst hx hb dX12_isDairy_9 (by decide) h (fun z10 h => ?_)
    refine lv_goto (tgt := 14) hx hb dX12_isDairy_10 (by decide) ?_
    exact r_zret hx hb hr hlocks hP hS dX12_isDairy_14 h
/-! TurningMilkModel.keepsAct()V -/
abbrev RM_X12_keepsAct : Room := { frames := 1, cells := 0, slots := 0, locals := 40 }
def cw_X12_keepsAct : Cond := Cond.code yX12_keepsAct cX12_keepsAct 2 (Option.none : Option FieldType)
theorem hd_X12_keepsAct : yX12_keepsAct.cls ≠ "java/lang/invoke/MethodHandle" ∧ yX12_keepsAct.cls ≠ "java/lang/invoke/VarHandle" ∧ (parseMethodDescriptor yX12_keepsAct.desc).map (fun d => d.parameters.length) = some 0 := by decide +kernel
theorem dX12_keepsAct_0 : decode cX12_keepsAct 0 = .ok (.aload_n 0, 1) := by decide +kernel
theorem dX12_keepsAct_1 : decode cX12_keepsAct 1 = .ok (.getfield 266, 3) := by decide +kernel
theorem dX12_keepsAct_4 : decode cX12_keepsAct 4 = .ok (.bipush 20, 2) := by decide +kernel
theorem dX12_keepsAct_6 : decode cX12_keepsAct 6 = .ok (.if_icmp .ne 44, 3) := by decide +kernel
theorem dX12_keepsAct_9 : decode cX12_keepsAct 9 = .ok (.bipush 57, 2) := by decide +kernel
theorem dX12_keepsAct_11 : decode cX12_keepsAct 11 = .ok (.istore_n 1, 1) := by decide +kernel
theorem dX12_keepsAct_12 : decode cX12_keepsAct 12 = .ok (.iload_n 1, 1) := by decide +kernel
theorem dX12_keepsAct_13 : decode cX12_keepsAct 13 = .ok (.sipush 1140, 3) := by decide +kernel
theorem dX12_keepsAct_16 : decode cX12_keepsAct 16 = .ok (.if_icmp .ge 24, 3) := by decide +kernel
theorem dX12_keepsAct_19 : decode cX12_keepsAct 19 = .ok (.aload_n 0, 1) := by decide +kernel
theorem dX12_keepsAct_20 : decode cX12_keepsAct 20 = .ok (.getfield 46, 3) := by decide +kernel
theorem dX12_keepsAct_23 : decode cX12_keepsAct 23 = .ok (.iload_n 1, 1) := by decide +kernel
theorem dX12_keepsAct_24 : decode cX12_keepsAct 24 = .ok (.bipush 57, 2) := by decide +kernel
theorem dX12_keepsAct_26 : decode cX12_keepsAct 26 = .ok (.isub, 1) := by decide +kernel
theorem dX12_keepsAct_27 : decode cX12_keepsAct 27 = .ok (.aload_n 0, 1) := by decide +kernel
theorem dX12_keepsAct_28 : decode cX12_keepsAct 28 = .ok (.getfield 46, 3) := by decide +kernel
theorem dX12_keepsAct_31 : decode cX12_keepsAct 31 = .ok (.iload_n 1, 1) := by decide +kernel
theorem dX12_keepsAct_32 : decode cX12_keepsAct 32 = .ok (.iaload, 1) := by decide +kernel
theorem dX12_keepsAct_33 : decode cX12_keepsAct 33 = .ok (.iastore, 1) := by decide +kernel
theorem dX12_keepsAct_34 : decode cX12_keepsAct 34 = .ok (.iinc 1 1, 3) := by decide +kernel
theorem dX12_keepsAct_37 : decode cX12_keepsAct 37 = .ok (.goto (-25), 3) := by decide +kernel
theorem dX12_keepsAct_40 : decode cX12_keepsAct 40 = .ok (.aload_n 0, 1) := by decide +kernel
theorem dX12_keepsAct_41 : decode cX12_keepsAct 41 = .ok (.dup, 1) := by decide +kernel
theorem dX12_keepsAct_42 : decode cX12_keepsAct 42 = .ok (.getfield 266, 3) := by decide +kernel
theorem dX12_keepsAct_45 : decode cX12_keepsAct 45 = .ok (.iconst 1, 1) := by decide +kernel
theorem dX12_keepsAct_46 : decode cX12_keepsAct 46 = .ok (.isub, 1) := by decide +kernel
theorem dX12_keepsAct_47 : decode cX12_keepsAct 47 = .ok (.putfield 266, 3) := by decide +kernel
theorem dX12_keepsAct_50 : decode cX12_keepsAct 50 = .ok (.iconst 0, 1) := by decide +kernel
theorem dX12_keepsAct_51 : decode cX12_keepsAct 51 = .ok (.istore_n 1, 1) := by decide +kernel
theorem dX12_keepsAct_52 : decode cX12_keepsAct 52 = .ok (.iload_n 1, 1) := by decide +kernel
theorem dX12_keepsAct_53 : decode cX12_keepsAct 53 = .ok (.bipush 57, 2) := by decide +kernel
theorem dX12_keepsAct_55 : decode cX12_keepsAct 55 = .ok (.if_icmp .ge 29, 3) := by decide +kernel
theorem dX12_keepsAct_58 : decode cX12_keepsAct 58 = .ok (.aload_n 0, 1) := by decide +kernel
theorem dX12_keepsAct_59 : decode cX12_keepsAct 59 = .ok (.getfield 46, 3) := by decide +kernel
theorem dX12_keepsAct_62 : decode cX12_keepsAct 62 = .ok (.bipush 57, 2) := by decide +kernel
theorem dX12_keepsAct_64 : decode cX12_keepsAct 64 = .ok (.aload_n 0, 1) := by decide +kernel
theorem dX12_keepsAct_65 : decode cX12_keepsAct 65 = .ok (.getfield 266, 3) := by decide +kernel
theorem dX12_keepsAct_68 : decode cX12_keepsAct 68 = .ok (.imul, 1) := by decide +kernel
theorem dX12_keepsAct_69 : decode cX12_keepsAct 69 = .ok (.iload_n 1, 1) := by decide +kernel
theorem dX12_keepsAct_70 : decode cX12_keepsAct 70 = .ok (.iadd, 1) := by decide +kernel
theorem dX12_keepsAct_71 : decode cX12_keepsAct 71 = .ok (.aload_n 0, 1) := by decide +kernel
theorem dX12_keepsAct_72 : decode cX12_keepsAct 72 = .ok (.getfield 39, 3) := by decide +kernel
theorem dX12_keepsAct_75 : decode cX12_keepsAct 75 = .ok (.iload_n 1, 1) := by decide +kernel
theorem dX12_keepsAct_76 : decode cX12_keepsAct 76 = .ok (.iaload, 1) := by decide +kernel
theorem dX12_keepsAct_77 : decode cX12_keepsAct 77 = .ok (.iastore, 1) := by decide +kernel
theorem dX12_keepsAct_78 : decode cX12_keepsAct 78 = .ok (.iinc 1 1, 3) := by decide +kernel
theorem dX12_keepsAct_81 : decode cX12_keepsAct 81 = .ok (.goto (-29), 3) := by decide +kernel
theorem dX12_keepsAct_84 : decode cX12_keepsAct 84 = .ok (.aload_n 0, 1) := by decide +kernel
theorem dX12_keepsAct_85 : decode cX12_keepsAct 85 = .ok (.dup, 1) := by decide +kernel
theorem dX12_keepsAct_86 : decode cX12_keepsAct 86 = .ok (.getfield 266, 3) := by decide +kernel
theorem dX12_keepsAct_89 : decode cX12_keepsAct 89 = .ok (.iconst 1, 1) := by decide +kernel
theorem dX12_keepsAct_90 : decode cX12_keepsAct 90 = .ok (.iadd, 1) := by decide +kernel
theorem dX12_keepsAct_91 : decode cX12_keepsAct 91 = .ok (.putfield 266, 3) := by decide +kernel
theorem dX12_keepsAct_94 : decode cX12_keepsAct 94 = .ok (.return_, 1) := by decide +kernel
def wp_X12_keepsAct_52 (S : Sh) (post : Mm → Prop) : Nat → Int → Int → Mm → Prop
  | 0, _, _, _ => False
  | n + 1, u0, u1, M => wC 57 fun v1 => wIf (v1 ≤ u1) (wGet S M u0 12 25 fun v3 => wC 1 fun v5 => wA v3 v5 fun v7 => wPut S M u0 12 25 v7 fun M9 => post M9) (wGetR S M u0 12 24 fun v10 => wC 57 fun v12 => wGet S M u0 12 25 fun v14 => wM v12 v14 fun v16 => wA v16 u1 fun v18 => wGetR S M u0 12 20 fun v20 => wLd S M v20 14 u1 fun v22 => wSt S M v10 14 v18 v22 fun M24 => wA u1 1 fun v25 => wp_X12_keepsAct_52 S post n u0 v25 M24)
def wp_X12_keepsAct_50 (S : Sh) (post : Mm → Prop) (u0 : Int) (M : Mm) : Prop := wC 0 fun v27 => ∃ n9 : Nat, wp_X12_keepsAct_52 S post n9 u0 v27 M
def wp_X12_keepsAct_12 (S : Sh) (post : Mm → Prop) : Nat → Int → Int → Mm → Prop
  | 0, _, _, _ => False
  | n + 1, u0, u1, M => wC 1140 fun v29 => wIf (v29 ≤ u1) (wGet S M u0 12 25 fun v31 => wC 1 fun v33 => wS v31 v33 fun v35 => wPut S M u0 12 25 v35 fun M37 => wp_X12_keepsAct_50 S post u0 M37) (wGetR S M u0 12 24 fun v38 => wC 57 fun v40 => wS u1 v40 fun v42 => wGetR S M u0 12 24 fun v44 => wLd S M v44 14 u1 fun v46 => wSt S M v38 14 v42 v46 fun M48 => wA u1 1 fun v49 => wp_X12_keepsAct_12 S post n u0 v49 M48)
def wp_X12_keepsAct (S : Sh) (M : Mm) (u0 : Int) (post : Mm → Prop) : Prop := wGet S M u0 12 25 fun v51 => wC 20 fun v53 => wIf (¬ v51 = v53) (wp_X12_keepsAct_50 S post u0 M) (wC 57 fun v55 => ∃ n9 : Nat, wp_X12_keepsAct_12 S post n9 u0 v55 M)
set_option maxHeartbeats 4000000 in
set_option maxRecDepth 100000 in
theorem t_X12_keepsAct_52 {p : Program} {l : Launch} {e : Env} {s : State} {m : MethodId} {args : Array Value} {below : List Frame} {meth : Method} {c : Code} {D : va_G} {G : Gt} {S : Sh} {post : Mm → Prop} (C : Cx p s m args meth c D G cX12_keepsAct 2 none (cw_X12_keepsAct :: gw) RX12) : ∀ (n : Nat) (xl0 : Int) (zl1 : Int32) (M : Mm) (H : Heap) (locs : List Loc) (ls : Array Slot), Wd D G S M H → va_S (aG G) s.heap H locs → lv_has ls 2 [(0, .ref (adr G xl0)), (1, .int zl1)] → wp_X12_keepsAct_52 S post n xl0 zl1.toInt  M → W p l e RM_X12_keepsAct s m args below meth c H locs 0 0 (MQ below (QV D G S post) args s 0 0 (aG G)) (F0 m 52 ls []) := by
  obtain ⟨hx, hb, hr, hlocks, hml, hown, hts, hK⟩ := id C
  intro n
  induction n with
  | zero => intro xl0 zl1 M H locs ls hP hS hl h; exact h.elim
  | succ n ih =>
    intro xl0 zl1 M H locs ls hP hS hl h
    unfold wp_X12_keepsAct_52 at h
    refine lv_iload_n hx hb dX12_keepsAct_52 rfl (lv_at hl 1 rfl) ?_
    refine r_bipush hx hb dX12_keepsAct_53 (by decide) h (fun z2 h => ?_)
    refine r_icmp_ge (tgt := 84) hx hb dX12_keepsAct_55 (by decide) h (fun h => ?_) (fun h => ?_)
    · refine lv_aload_n hx hb dX12_keepsAct_84 rfl (lv_at hl 0 rfl) ?_
      refine lv_dup hx hb dX12_keepsAct_85 rfl ?_
      refine r_geti (C := RX12) (T := TX12) (N := 38) hx hb hts (fun w h => List.mem_cons_of_mem _ (iX12 w h)) hown hK hP rfl (by decide) rfl 25 (by decide) (hts _ (List.mem_cons_of_mem _ kw_1359)) (fun _ h9 => h9) dX12_keepsAct_86 (by decide) h (fun z4 h => ?_)
      refine r_iconst hx hb dX12_keepsAct_89 (by decide) h (fun z6 h => ?_)
      refine r_iadd hx hb dX12_keepsAct_90 h (fun z8 h => ?_)
      refine r_puti (C := RX12) (T := TX12) (N := 38) hx hb hts (fun w h => List.mem_cons_of_mem _ (iX12 w h)) hown hK hP tyX12 tyX12_ok nmX12 hS rfl (by decide) rfl 25 (by decide) (hts _ (List.mem_cons_of_mem _ kw_1359)) (fun _ h9 => h9) rfl (tyX12_ok 25 (by decide)) rfl rfl dX12_keepsAct_91 (by decide) h (fun M9 H locs h hP hS => ?_)
      exact r_vret hx hb hr hlocks hP hS dX12_keepsAct_94 h
    · refine lv_aload_n hx hb dX12_keepsAct_58 rfl (lv_at hl 0 rfl) ?_
      refine r_getr (C := RX12) (T := TX12) (N := 38) hx hb hts (fun w h => List.mem_cons_of_mem _ (iX12 w h)) hown hK hP rfl (by decide) rfl 24 (by decide) (hts _ (List.mem_cons_of_mem _ kw_1358)) (fun _ h9 => h9) dX12_keepsAct_59 (by decide) h (fun x11 h => ?_)
      refine r_bipush hx hb dX12_keepsAct_62 (by decide) h (fun z13 h => ?_)
      refine lv_aload_n hx hb dX12_keepsAct_64 rfl (lv_at hl 0 rfl) ?_
      refine r_geti (C := RX12) (T := TX12) (N := 38) hx hb hts (fun w h => List.mem_cons_of_mem _ (iX12 w h)) hown hK hP rfl (by decide) rfl 25 (by decide) (hts _ (List.mem_cons_of_mem _ kw_1359)) (fun _ h9 => h9) dX12_keepsAct_65 (by decide) h (fun z15 h => ?_)
      refine r_imul hx hb dX12_keepsAct_68 h (fun z17 h => ?_)
      refine lv_iload_n hx hb dX12_keepsAct_69 rfl (lv_at hl 1 rfl) ?_
      refine r_iadd hx hb dX12_keepsAct_70 h (fun z19 h => ?_)
      refine lv_aload_n hx hb dX12_keepsAct_71 rfl (lv_at hl 0 rfl) ?_
      refine r_getr (C := RX12) (T := TX12) (N := 38) hx hb hts (fun w h => List.mem_cons_of_mem _ (iX12 w h)) hown hK hP rfl (by decide) rfl 20 (by decide) (hts _ (List.mem_cons_of_mem _ kw_1354)) (fun _ h9 => h9) dX12_keepsAct_72 (by decide) h (fun x21 h => ?_)
      refine lv_iload_n hx hb dX12_keepsAct_75 rfl (lv_at hl 1 rfl) ?_
      refine r_iald hx hb hK hP dX12_keepsAct_76 h (fun z23 h => ?_)
      refine r_iast hx hb hK hP hS dX12_keepsAct_77 h (fun M24 H locs h hP hS => ?_)
      refine r_iinc hx hb (fun z26 => [(1, .int z26), (0, .ref (adr G xl0))]) dX12_keepsAct_78 (by decide) hl (k := 1) rfl (by decide) (fun _ => rfl) h (fun z26 ls hl h => ?_)
      refine lv_goto (tgt := 52) hx hb dX12_keepsAct_81 (by decide) ?_
      exact ih xl0 z26 _ _ _ _ hP hS (lv_sub hl [1, 0] rfl) h
set_option maxHeartbeats 4000000 in
set_option maxRecDepth 100000 in
theorem t_X12_keepsAct_50 {p : Program} {l : Launch} {e : Env} {s : State} {m : MethodId} {args : Array Value} {below : List Frame} {meth : Method} {c : Code} {D : va_G} {G : Gt} {S : Sh} {post : Mm → Prop} (C : Cx p s m args meth c D G cX12_keepsAct 2 none (cw_X12_keepsAct :: gw) RX12) : ∀ (xl0 : Int) (M : Mm) (H : Heap) (locs : List Loc) (ls : Array Slot), Wd D G S M H → va_S (aG G) s.heap H locs → lv_has ls 2 [(0, .ref (adr G xl0))] → wp_X12_keepsAct_50 S post xl0  M → W p l e RM_X12_keepsAct s m args below meth c H locs 0 0 (MQ below (QV D G S post) args s 0 0 (aG G)) (F0 m 50 ls []) := by
  obtain ⟨hx, hb, hr, hlocks, hml, hown, hts, hK⟩ := id C
  intro xl0 M H locs ls hP hS hl h
  unfold wp_X12_keepsAct_50 at h
  refine r_iconst hx hb dX12_keepsAct_50 (by decide) h (fun z28 h => ?_)
  refine lv_istore_n (lv' := [(1, .int z28), (0, .ref (adr G xl0))]) hx hb dX12_keepsAct_51 rfl hl (by decide) rfl (fun ls hl => ?_)
  obtain ⟨n9, h⟩ := h
  exact t_X12_keepsAct_52 C n9 xl0 z28 _ _ _ _ hP hS (lv_sub hl [1, 0] rfl) h
set_option maxHeartbeats 4000000 in
set_option maxRecDepth 100000 in
theorem t_X12_keepsAct_12 {p : Program} {l : Launch} {e : Env} {s : State} {m : MethodId} {args : Array Value} {below : List Frame} {meth : Method} {c : Code} {D : va_G} {G : Gt} {S : Sh} {post : Mm → Prop} (C : Cx p s m args meth c D G cX12_keepsAct 2 none (cw_X12_keepsAct :: gw) RX12) : ∀ (n : Nat) (xl0 : Int) (zl1 : Int32) (M : Mm) (H : Heap) (locs : List Loc) (ls : Array Slot), Wd D G S M H → va_S (aG G) s.heap H locs → lv_has ls 2 [(0, .ref (adr G xl0)), (1, .int zl1)] → wp_X12_keepsAct_12 S post n xl0 zl1.toInt  M → W p l e RM_X12_keepsAct s m args below meth c H locs 0 0 (MQ below (QV D G S post) args s 0 0 (aG G)) (F0 m 12 ls []) := by
  obtain ⟨hx, hb, hr, hlocks, hml, hown, hts, hK⟩ := id C
  intro n
  induction n with
  | zero => intro xl0 zl1 M H locs ls hP hS hl h; exact h.elim
  | succ n ih =>
    intro xl0 zl1 M H locs ls hP hS hl h
    unfold wp_X12_keepsAct_12 at h
    refine lv_iload_n hx hb dX12_keepsAct_12 rfl (lv_at hl 1 rfl) ?_
    refine r_sipush hx hb dX12_keepsAct_13 (by decide) h (fun z30 h => ?_)
    refine r_icmp_ge (tgt := 40) hx hb dX12_keepsAct_16 (by decide) h (fun h => ?_) (fun h => ?_)
    · refine lv_aload_n hx hb dX12_keepsAct_40 rfl (lv_at hl 0 rfl) ?_
      refine lv_dup hx hb dX12_keepsAct_41 rfl ?_
      refine r_geti (C := RX12) (T := TX12) (N := 38) hx hb hts (fun w h => List.mem_cons_of_mem _ (iX12 w h)) hown hK hP rfl (by decide) rfl 25 (by decide) (hts _ (List.mem_cons_of_mem _ kw_1359)) (fun _ h9 => h9) dX12_keepsAct_42 (by decide) h (fun z32 h => ?_)
      refine r_iconst hx hb dX12_keepsAct_45 (by decide) h (fun z34 h => ?_)
      refine r_isub hx hb dX12_keepsAct_46 h (fun z36 h => ?_)
      refine r_puti (C := RX12) (T := TX12) (N := 38) hx hb hts (fun w h => List.mem_cons_of_mem _ (iX12 w h)) hown hK hP tyX12 tyX12_ok nmX12 hS rfl (by decide) rfl 25 (by decide) (hts _ (List.mem_cons_of_mem _ kw_1359)) (fun _ h9 => h9) rfl (tyX12_ok 25 (by decide)) rfl rfl dX12_keepsAct_47 (by decide) h (fun M37 H locs h hP hS => ?_)
      exact t_X12_keepsAct_50 C xl0 _ _ _ _ hP hS (lv_sub hl [0] rfl) h
    · refine lv_aload_n hx hb dX12_keepsAct_19 rfl (lv_at hl 0 rfl) ?_
      refine r_getr (C := RX12) (T := TX12) (N := 38) hx hb hts (fun w h => List.mem_cons_of_mem _ (iX12 w h)) hown hK hP rfl (by decide) rfl 24 (by decide) (hts _ (List.mem_cons_of_mem _ kw_1358)) (fun _ h9 => h9) dX12_keepsAct_20 (by decide) h (fun x39 h => ?_)
      refine lv_iload_n hx hb dX12_keepsAct_23 rfl (lv_at hl 1 rfl) ?_
      refine r_bipush hx hb dX12_keepsAct_24 (by decide) h (fun z41 h => ?_)
      refine r_isub hx hb dX12_keepsAct_26 h (fun z43 h => ?_)
      refine lv_aload_n hx hb dX12_keepsAct_27 rfl (lv_at hl 0 rfl) ?_
      refine r_getr (C := RX12) (T := TX12) (N := 38) hx hb hts (fun w h => List.mem_cons_of_mem _ (iX12 w h)) hown hK hP rfl (by decide) rfl 24 (by decide) (hts _ (List.mem_cons_of_mem _ kw_1358)) (fun _ h9 => h9) dX12_keepsAct_28 (by decide) h (fun x45 h => ?_)
      refine lv_iload_n hx hb dX12_keepsAct_31 rfl (lv_at hl 1 rfl) ?_
      refine r_iald hx hb hK hP dX12_keepsAct_32 h (fun z47 h => ?_)
      refine r_iast hx hb hK hP hS dX12_keepsAct_33 h (fun M48 H locs h hP hS => ?_)
      refine r_iinc hx hb (fun z50 => [(1, .int z50), (0, .ref (adr G xl0))]) dX12_keepsAct_34 (by decide) hl (k := 1) rfl (by decide) (fun _ => rfl) h (fun z50 ls hl h => ?_)
      refine lv_goto (tgt := 12) hx hb dX12_keepsAct_37 (by decide) ?_
      exact ih xl0 z50 _ _ _ _ hP hS (lv_sub hl [1, 0] rfl) h
set_option maxHeartbeats 4000000 in
set_option maxRecDepth 100000 in
theorem c_X12_keepsAct (l : Launch) (D : va_G) (G : Gt) (S : Sh) (M : Mm) (xl0 : Int) (post : Mm → Prop) (h : wp_X12_keepsAct S M xl0 post) : Met l yX12_keepsAct (cw_X12_keepsAct :: gw) RM_X12_keepsAct (va_Pc [.ref (adr G xl0)] (fun U => KN D G U ∧ Wd D G S M U.heap)) (QV D G S post) 0 0 (aG G) := by
  refine Met.ofW (cc := cX12_keepsAct) (maxL := 2) (ret := none) (by decide) rfl ?_
  intro p e s m args below meth c s₁ B hml hv
  obtain ⟨rfl, hK, hP⟩ := hv
  have hx := B.exec
  have hb := B.bytes
  have hr := B.returns
  have hts := atoms_spec (ws := cw_X12_keepsAct :: gw) B.pre
  have hown : s.vm.findClass RX12 = some m.cls := findClass_of_methodNamed B.named
  have hlocks := B.notSynchronized
  have hS : va_S (aG G) s.heap s.heap [] := va_S.rf
  have C : Cx p s m ([.ref (adr G xl0)] : List Value).toArray meth c D G cX12_keepsAct 2 none (cw_X12_keepsAct :: gw) RX12 := ⟨hx, hb, hr, hlocks, hml, hown, hts, hK⟩
  have hl := lv_entry ([.ref (adr G xl0)]) (n := 2) (Nat.le_of_ble_eq_true rfl)
  rw [lg_entry_eq]
  generalize (lg_sl ([.ref (adr G xl0)]) ++ List.replicate (2 - (lg_sl ([.ref (adr G xl0)])).length) Slot.unset).toArray = ls at hl ⊢
  have hl : lv_has ls 2 [(0, .ref (adr G xl0))] := hl
  unfold wp_X12_keepsAct at h
  refine lv_aload_n hx hb dX12_keepsAct_0 rfl (lv_at hl 0 rfl) ?_
  refine r_geti (C := RX12) (T := TX12) (N := 38) hx hb hts (fun w h => List.mem_cons_of_mem _ (iX12 w h)) hown hK hP rfl (by decide) rfl 25 (by decide) (hts _ (List.mem_cons_of_mem _ kw_1359)) (fun _ h9 => h9) dX12_keepsAct_1 (by decide) h (fun z52 h => ?_)
  refine r_bipush hx hb dX12_keepsAct_4 (by decide) h (fun z54 h => ?_)
  refine r_icmp_ne (tgt := 50) hx hb dX12_keepsAct_6 (by decide) h (fun h => ?_) (fun h => ?_)
  · exact t_X12_keepsAct_50 C xl0 _ _ _ _ hP hS (lv_sub hl [0] rfl) h
  · refine r_bipush hx hb dX12_keepsAct_9 (by decide) h (fun z56 h => ?_)
    refine lv_istore_n (lv' := [(1, .int z56), (0, .ref (adr G xl0))]) hx hb dX12_keepsAct_11 rfl hl (by decide) rfl (fun ls hl => ?_)
    obtain ⟨n9, h⟩ := h
    exact t_X12_keepsAct_12 C n9 xl0 z56 _ _ _ _ hP hS (lv_sub hl [1, 0] rfl) h
/-! TurningMilkModel.heatIn(I)I -/
abbrev RM_X12_heatIn : Room := { frames := 1, cells := 0, slots := 0, locals := 40 }
def cw_X12_heatIn : Cond := Cond.code yX12_heatIn cX12_heatIn 5 (Option.some FieldType.int)
theorem hd_X12_heatIn : yX12_heatIn.cls ≠ "java/lang/invoke/MethodHandle" ∧ yX12_heatIn.cls ≠ "java/lang/invoke/VarHandle" ∧ (parseMethodDescriptor yX12_heatIn.desc).map (fun d => d.parameters.length) = some 1 := by decide +kernel
theorem dX12_heatIn_0 : decode cX12_heatIn 0 = .ok (.iconst 0, 1) := by decide +kernel
theorem dX12_heatIn_1 : decode cX12_heatIn 1 = .ok (.istore_n 2, 1) := by decide +kernel
theorem dX12_heatIn_2 : decode cX12_heatIn 2 = .ok (.iconst 0, 1) := by decide +kernel
theorem dX12_heatIn_3 : decode cX12_heatIn 3 = .ok (.istore_n 3, 1) := by decide +kernel
theorem dX12_heatIn_4 : decode cX12_heatIn 4 = .ok (.iload_n 3, 1) := by decide +kernel
theorem dX12_heatIn_5 : decode cX12_heatIn 5 = .ok (.aload_n 0, 1) := by decide +kernel
theorem dX12_heatIn_6 : decode cX12_heatIn 6 = .ok (.getfield 39, 3) := by decide +kernel
theorem dX12_heatIn_9 : decode cX12_heatIn 9 = .ok (.bipush 9, 2) := by decide +kernel
theorem dX12_heatIn_11 : decode cX12_heatIn 11 = .ok (.iaload, 1) := by decide +kernel
theorem dX12_heatIn_12 : decode cX12_heatIn 12 = .ok (.if_icmp .ge 64, 3) := by decide +kernel
theorem dX12_heatIn_15 : decode cX12_heatIn 15 = .ok (.aload_n 0, 1) := by decide +kernel
theorem dX12_heatIn_16 : decode cX12_heatIn 16 = .ok (.getfield 288, 3) := by decide +kernel
theorem dX12_heatIn_19 : decode cX12_heatIn 19 = .ok (.ifCond .ne 57, 3) := by decide +kernel
theorem dX12_heatIn_22 : decode cX12_heatIn 22 = .ok (.bipush 81, 2) := by decide +kernel
theorem dX12_heatIn_24 : decode cX12_heatIn 24 = .ok (.iconst 3, 1) := by decide +kernel
theorem dX12_heatIn_25 : decode cX12_heatIn 25 = .ok (.iload_n 3, 1) := by decide +kernel
theorem dX12_heatIn_26 : decode cX12_heatIn 26 = .ok (.imul, 1) := by decide +kernel
theorem dX12_heatIn_27 : decode cX12_heatIn 27 = .ok (.iadd, 1) := by decide +kernel
theorem dX12_heatIn_28 : decode cX12_heatIn 28 = .ok (.istore 4, 2) := by decide +kernel
theorem dX12_heatIn_30 : decode cX12_heatIn 30 = .ok (.iload_n 2, 1) := by decide +kernel
theorem dX12_heatIn_31 : decode cX12_heatIn 31 = .ok (.iload_n 1, 1) := by decide +kernel
theorem dX12_heatIn_32 : decode cX12_heatIn 32 = .ok (.aload_n 0, 1) := by decide +kernel
theorem dX12_heatIn_33 : decode cX12_heatIn 33 = .ok (.getfield 39, 3) := by decide +kernel
theorem dX12_heatIn_36 : decode cX12_heatIn 36 = .ok (.iload 4, 2) := by decide +kernel
theorem dX12_heatIn_38 : decode cX12_heatIn 38 = .ok (.iaload, 1) := by decide +kernel
theorem dX12_heatIn_39 : decode cX12_heatIn 39 = .ok (.if_icmp .lt 28, 3) := by decide +kernel
theorem dX12_heatIn_42 : decode cX12_heatIn 42 = .ok (.iload_n 1, 1) := by decide +kernel
theorem dX12_heatIn_43 : decode cX12_heatIn 43 = .ok (.aload_n 0, 1) := by decide +kernel
theorem dX12_heatIn_44 : decode cX12_heatIn 44 = .ok (.getfield 39, 3) := by decide +kernel
theorem dX12_heatIn_47 : decode cX12_heatIn 47 = .ok (.iload 4, 2) := by decide +kernel
theorem dX12_heatIn_49 : decode cX12_heatIn 49 = .ok (.iconst 1, 1) := by decide +kernel
theorem dX12_heatIn_50 : decode cX12_heatIn 50 = .ok (.iadd, 1) := by decide +kernel
theorem dX12_heatIn_51 : decode cX12_heatIn 51 = .ok (.iaload, 1) := by decide +kernel
theorem dX12_heatIn_52 : decode cX12_heatIn 52 = .ok (.if_icmp .gt 15, 3) := by decide +kernel
theorem dX12_heatIn_55 : decode cX12_heatIn 55 = .ok (.aload_n 0, 1) := by decide +kernel
theorem dX12_heatIn_56 : decode cX12_heatIn 56 = .ok (.getfield 39, 3) := by decide +kernel
theorem dX12_heatIn_59 : decode cX12_heatIn 59 = .ok (.iload 4, 2) := by decide +kernel
theorem dX12_heatIn_61 : decode cX12_heatIn 61 = .ok (.iconst 2, 1) := by decide +kernel
theorem dX12_heatIn_62 : decode cX12_heatIn 62 = .ok (.iadd, 1) := by decide +kernel
theorem dX12_heatIn_63 : decode cX12_heatIn 63 = .ok (.iaload, 1) := by decide +kernel
theorem dX12_heatIn_64 : decode cX12_heatIn 64 = .ok (.goto 4, 3) := by decide +kernel
theorem dX12_heatIn_67 : decode cX12_heatIn 67 = .ok (.iconst 0, 1) := by decide +kernel
theorem dX12_heatIn_68 : decode cX12_heatIn 68 = .ok (.iadd, 1) := by decide +kernel
theorem dX12_heatIn_69 : decode cX12_heatIn 69 = .ok (.istore_n 2, 1) := by decide +kernel
theorem dX12_heatIn_70 : decode cX12_heatIn 70 = .ok (.iinc 3 1, 3) := by decide +kernel
theorem dX12_heatIn_73 : decode cX12_heatIn 73 = .ok (.goto (-69), 3) := by decide +kernel
theorem dX12_heatIn_76 : decode cX12_heatIn 76 = .ok (.iload_n 2, 1) := by decide +kernel
theorem dX12_heatIn_77 : decode cX12_heatIn 77 = .ok (.ireturn, 1) := by decide +kernel
def wp_X12_heatIn_68 (S : Sh) (k4 : Int → Int → Int → Int → Mm → Prop) (post : Int → Mm → Prop) (u0 : Int) (u1 : Int) (u3 : Int) (t0 : Int) (t1 : Int) (M : Mm) : Prop := wA t0 t1 fun v1 => wA u3 1 fun v3 => k4 u0 u1 v1 v3 M
def wp_X12_heatIn_67 (S : Sh) (k4 : Int → Int → Int → Int → Mm → Prop) (post : Int → Mm → Prop) (u0 : Int) (u1 : Int) (u3 : Int) (t0 : Int) (M : Mm) : Prop := wC 0 fun v5 => wp_X12_heatIn_68 S k4 post u0 u1 u3 t0 v5 M
def wp_X12_heatIn_4 (S : Sh) (post : Int → Mm → Prop) : Nat → Int → Int → Int → Int → Mm → Prop
  | 0, _, _, _, _, _ => False
  | n + 1, u0, u1, u2, u3, M => wGetR S M u0 12 20 fun v7 => wC 9 fun v9 => wLd S M v7 14 v9 fun v11 => wIf (v11 ≤ u3) (post u2 M) (wGet S M u0 12 23 fun v13 => wIf (¬ v13 = 0) (post u2 M) (wC 81 fun v15 => wC 3 fun v17 => wM v17 u3 fun v19 => wA v15 v19 fun v21 => wGetR S M u0 12 20 fun v23 => wLd S M v23 14 v21 fun v25 => wIf (u1 < v25) (wp_X12_heatIn_67 S (fun a0 a1 a2 a3 M => wp_X12_heatIn_4 S post n a0 a1 a2 a3 M) post u0 u1 u3 u2 M) (wGetR S M u0 12 20 fun v27 => wC 1 fun v29 => wA v21 v29 fun v31 => wLd S M v27 14 v31 fun v33 => wIf (v33 < u1) (wp_X12_heatIn_67 S (fun a0 a1 a2 a3 M => wp_X12_heatIn_4 S post n a0 a1 a2 a3 M) post u0 u1 u3 u2 M) (wGetR S M u0 12 20 fun v35 => wC 2 fun v37 => wA v21 v37 fun v39 => wLd S M v35 14 v39 fun v41 => wp_X12_heatIn_68 S (fun a0 a1 a2 a3 M => wp_X12_heatIn_4 S post n a0 a1 a2 a3 M) post u0 u1 u3 u2 v41 M))))
def wp_X12_heatIn (S : Sh) (M : Mm) (u0 : Int) (u1 : Int) (post : Int → Mm → Prop) : Prop := wC 0 fun v43 => wC 0 fun v45 => ∃ n9 : Nat, wp_X12_heatIn_4 S post n9 u0 u1 v43 v45 M
set_option maxHeartbeats 4000000 in
set_option maxRecDepth 100000 in
theorem t_X12_heatIn_68 {p : Program} {l : Launch} {e : Env} {s : State} {m : MethodId} {args : Array Value} {below : List Frame} {meth : Method} {c : Code} {D : va_G} {G : Gt} {S : Sh} {post : Int → Mm → Prop} {k4 : Int → Int → Int → Int → Mm → Prop} (C : Cx p s m args meth c D G cX12_heatIn 5 (some .int) (cw_X12_heatIn :: gw) RX12) (hk4 : ∀ (y0 : Int) (y1 : Int32) (y2 : Int32) (y3 : Int32) (M : Mm) (H : Heap) (locs : List Loc) (ls : Array Slot), Wd D G S M H → va_S (aG G) s.heap H locs → lv_has ls 5 [(0, .ref (adr G y0)), (1, .int y1), (2, .int y2), (3, .int y3)] → k4 y0 y1.toInt y2.toInt y3.toInt M → W p l e RM_X12_heatIn s m args below meth c H locs 0 0 (MQ below (QI D G S post) args s 0 0 (aG G)) (F0 m 4 ls [])) : ∀ (xl0 : Int) (zl1 : Int32) (zl3 : Int32) (zs0 : Int32) (zs1 : Int32) (M : Mm) (H : Heap) (locs : List Loc) (ls : Array Slot), Wd D G S M H → va_S (aG G) s.heap H locs → lv_has ls 5 [(0, .ref (adr G xl0)), (1, .int zl1), (3, .int zl3)] → wp_X12_heatIn_68 S k4 post xl0 zl1.toInt zl3.toInt zs0.toInt zs1.toInt M → W p l e RM_X12_heatIn s m args below meth c H locs 0 0 (MQ below (QI D G S post) args s 0 0 (aG G)) (F0 m 68 ls [.int zs1, .int zs0]) := by
  obtain ⟨hx, hb, hr, hlocks, hml, hown, hts, hK⟩ := id C
  intro xl0 zl1 zl3 zs0 zs1 M H locs ls hP hS hl h
  unfold wp_X12_heatIn_68 at h
  refine r_iadd hx hb dX12_heatIn_68 h (fun z2 h => ?_)
  refine lv_istore_n (lv' := [(2, .int z2), (0, .ref (adr G xl0)), (1, .int zl1), (3, .int zl3)]) hx hb dX12_heatIn_69 rfl hl (by decide) rfl (fun ls hl => ?_)
  refine r_iinc hx hb (fun z4 => [(3, .int z4), (2, .int z2), (0, .ref (adr G xl0)), (1, .int zl1)]) dX12_heatIn_70 (by decide) hl (k := 3) rfl (by decide) (fun _ => rfl) h (fun z4 ls hl h => ?_)
  refine lv_goto (tgt := 4) hx hb dX12_heatIn_73 (by decide) ?_
  exact hk4 xl0 zl1 z2 z4 _ _ _ _ hP hS (lv_sub hl [2, 3, 1, 0] rfl) h
set_option maxHeartbeats 4000000 in
set_option maxRecDepth 100000 in
theorem t_X12_heatIn_67 {p : Program} {l : Launch} {e : Env} {s : State} {m : MethodId} {args : Array Value} {below : List Frame} {meth : Method} {c : Code} {D : va_G} {G : Gt} {S : Sh} {post : Int → Mm → Prop} {k4 : Int → Int → Int → Int → Mm → Prop} (C : Cx p s m args meth c D G cX12_heatIn 5 (some .int) (cw_X12_heatIn :: gw) RX12) (hk4 : ∀ (y0 : Int) (y1 : Int32) (y2 : Int32) (y3 : Int32) (M : Mm) (H : Heap) (locs : List Loc) (ls : Array Slot), Wd D G S M H → va_S (aG G) s.heap H locs → lv_has ls 5 [(0, .ref (adr G y0)), (1, .int y1), (2, .int y2), (3, .int y3)] → k4 y0 y1.toInt y2.toInt y3.toInt M → W p l e RM_X12_heatIn s m args below meth c H locs 0 0 (MQ below (QI D G S post) args s 0 0 (aG G)) (F0 m 4 ls [])) : ∀ (xl0 : Int) (zl1 : Int32) (zl3 : Int32) (zs0 : Int32) (M : Mm) (H : Heap) (locs : List Loc) (ls : Array Slot), Wd D G S M H → va_S (aG G) s.heap H locs → lv_has ls 5 [(0, .ref (adr G xl0)), (1, .int zl1), (3, .int zl3)] → wp_X12_heatIn_67 S k4 post xl0 zl1.toInt zl3.toInt zs0.toInt M → W p l e RM_X12_heatIn s m args below meth c H locs 0 0 (MQ below (QI D G S post) args s 0 0 (aG G)) (F0 m 67 ls [.int zs0]) := by
  obtain ⟨hx, hb, hr, hlocks, hml, hown, hts, hK⟩ := id C
  intro xl0 zl1 zl3 zs0 M H locs ls hP hS hl h
  unfold wp_X12_heatIn_67 at h
  refine r_iconst hx hb dX12_heatIn_67 (by decide) h (fun z6 h => ?_)
  exact t_X12_heatIn_68 C hk4 xl0 zl1 zl3 zs0 z6 _ _ _ _ hP hS (lv_sub hl [0, 1, 2] rfl) h
set_option maxHeartbeats 4000000 in
set_option maxRecDepth 100000 in
theorem t_X12_heatIn_4 {p : Program} {l : Launch} {e : Env} {s : State} {m : MethodId} {args : Array Value} {below : List Frame} {meth : Method} {c : Code} {D : va_G} {G : Gt} {S : Sh} {post : Int → Mm → Prop} (C : Cx p s m args meth c D G cX12_heatIn 5 (some .int) (cw_X12_heatIn :: gw) RX12) : ∀ (n : Nat) (xl0 : Int) (zl1 : Int32) (zl2 : Int32) (zl3 : Int32) (M : Mm) (H : Heap) (locs : List Loc) (ls : Array Slot), Wd D G S M H → va_S (aG G) s.heap H locs → lv_has ls 5 [(0, .ref (adr G xl0)), (1, .int zl1), (2, .int zl2), (3, .int zl3)] → wp_X12_heatIn_4 S post n xl0 zl1.toInt zl2.toInt zl3.toInt  M → W p l e RM_X12_heatIn s m args below meth c H locs 0 0 (MQ below (QI D G S post) args s 0 0 (aG G)) (F0 m 4 ls []) := by
  obtain ⟨hx, hb, hr, hlocks, hml, hown, hts, hK⟩ := id C
  intro n
  induction n with
  | zero => intro xl0 zl1 zl2 zl3 M H locs ls hP hS hl h; exact h.elim
  | succ n ih =>
    intro xl0 zl1 zl2 zl3 M H locs ls hP hS hl h
    unfold wp_X12_heatIn_4 at h
    refine lv_iload_n hx hb dX12_heatIn_4 rfl (lv_at hl 3 rfl) ?_
    refine lv_aload_n hx hb dX12_heatIn_5 rfl (lv_at hl 0 rfl) ?_
    refine r_getr (C := RX12) (T := TX12) (N := 38) hx hb hts (fun w h => List.mem_cons_of_mem _ (iX12 w h)) hown hK hP rfl (by decide) rfl 20 (by decide) (hts _ (List.mem_cons_of_mem _ kw_1354)) (fun _ h9 => h9) dX12_heatIn_6 (by decide) h (fun x8 h => ?_)
    refine r_bipush hx hb dX12_heatIn_9 (by decide) h (fun z10 h => ?_)
    refine r_iald hx hb hK hP dX12_heatIn_11 h (fun z12 h => ?_)
    refine r_icmp_ge (tgt := 76) hx hb dX12_heatIn_12 (by decide) h (fun h => ?_) (fun h => ?_)
    · refine lv_iload_n hx hb dX12_heatIn_76 rfl (lv_at hl 2 rfl) ?_
      exact r_iret hx hb hr hlocks hP hS dX12_heatIn_77 h
    · refine lv_aload_n hx hb dX12_heatIn_15 rfl (lv_at hl 0 rfl) ?_
      refine r_geti (C := RX12) (T := TX12) (N := 38) hx hb hts (fun w h => List.mem_cons_of_mem _ (iX12 w h)) hown hK hP rfl (by decide) rfl 23 (by decide) (hts _ (List.mem_cons_of_mem _ kw_1357)) (fun _ h9 => h9) dX12_heatIn_16 (by decide) h (fun z14 h => ?_)
      refine r_if_ne (tgt := 76) hx hb dX12_heatIn_19 (by decide) h (fun h => ?_) (fun h => ?_)
      · refine lv_iload_n hx hb dX12_heatIn_76 rfl (lv_at hl 2 rfl) ?_
        exact r_iret hx hb hr hlocks hP hS dX12_heatIn_77 h
      · refine r_bipush hx hb dX12_heatIn_22 (by decide) h (fun z16 h => ?_)
        refine r_iconst hx hb dX12_heatIn_24 (by decide) h (fun z18 h => ?_)
        refine lv_iload_n hx hb dX12_heatIn_25 rfl (lv_at hl 3 rfl) ?_
        refine r_imul hx hb dX12_heatIn_26 h (fun z20 h => ?_)
        refine r_iadd hx hb dX12_heatIn_27 h (fun z22 h => ?_)
        refine lv_istore (lv' := [(4, .int z22), (0, .ref (adr G xl0)), (1, .int zl1), (2, .int zl2), (3, .int zl3)]) hx hb dX12_heatIn_28 hl (by decide) rfl (fun ls hl => ?_)
        refine lv_iload_n hx hb dX12_heatIn_30 rfl (lv_at hl 3 rfl) ?_
        refine lv_iload_n hx hb dX12_heatIn_31 rfl (lv_at hl 2 rfl) ?_
        refine lv_aload_n hx hb dX12_heatIn_32 rfl (lv_at hl 1 rfl) ?_
        refine r_getr (C := RX12) (T := TX12) (N := 38) hx hb hts (fun w h => List.mem_cons_of_mem _ (iX12 w h)) hown hK hP rfl (by decide) rfl 20 (by decide) (hts _ (List.mem_cons_of_mem _ kw_1354)) (fun _ h9 => h9) dX12_heatIn_33 (by decide) h (fun x24 h => ?_)
        refine lv_iload hx hb dX12_heatIn_36 (lv_at hl 0 rfl) ?_
        refine r_iald hx hb hK hP dX12_heatIn_38 h (fun z26 h => ?_)
        refine r_icmp_lt (tgt := 67) hx hb dX12_heatIn_39 (by decide) h (fun h => ?_) (fun h => ?_)
        · exact t_X12_heatIn_67 C ih xl0 zl1 zl3 zl2 _ _ _ _ hP hS (lv_sub hl [1, 2, 4] rfl) h
        · refine lv_iload_n hx hb dX12_heatIn_42 rfl (lv_at hl 2 rfl) ?_
          refine lv_aload_n hx hb dX12_heatIn_43 rfl (lv_at hl 1 rfl) ?_
          refine r_getr (C := RX12) (T := TX12) (N := 38) hx hb hts (fun w h => List.mem_cons_of_mem _ (iX12 w h)) hown hK hP rfl (by decide) rfl 20 (by decide) (hts _ (List.mem_cons_of_mem _ kw_1354)) (fun _ h9 => h9) dX12_heatIn_44 (by decide) h (fun x28 h => ?_)
          refine lv_iload hx hb dX12_heatIn_47 (lv_at hl 0 rfl) ?_
          refine r_iconst hx hb dX12_heatIn_49 (by decide) h (fun z30 h => ?_)
          refine r_iadd hx hb dX12_heatIn_50 h (fun z32 h => ?_)
          refine r_iald hx hb hK hP dX12_heatIn_51 h (fun z34 h => ?_)
          refine r_icmp_gt (tgt := 67) hx hb dX12_heatIn_52 (by decide) h (fun h => ?_) (fun h => ?_)
          · exact t_X12_heatIn_67 C ih xl0 zl1 zl3 zl2 _ _ _ _ hP hS (lv_sub hl [1, 2, 4] rfl) h
          · refine lv_aload_n hx hb dX12_heatIn_55 rfl (lv_at hl 1 rfl) ?_
            refine r_getr (C := RX12) (T := TX12) (N := 38) hx hb hts (fun w h => List.mem_cons_of_mem _ (iX12 w h)) hown hK hP rfl (by decide) rfl 20 (by decide) (hts _ (List.mem_cons_of_mem _ kw_1354)) (fun _ h9 => h9) dX12_heatIn_56 (by decide) h (fun x36 h => ?_)
            refine lv_iload hx hb dX12_heatIn_59 (lv_at hl 0 rfl) ?_
            refine r_iconst hx hb dX12_heatIn_61 (by decide) h (fun z38 h => ?_)
            refine r_iadd hx hb dX12_heatIn_62 h (fun z40 h => ?_)
            refine r_iald hx hb hK hP dX12_heatIn_63 h (fun z42 h => ?_)
            refine lv_goto (tgt := 68) hx hb dX12_heatIn_64 (by decide) ?_
            exact t_X12_heatIn_68 C ih xl0 zl1 zl3 zl2 z42 _ _ _ _ hP hS (lv_sub hl [1, 2, 4] rfl) h
set_option maxHeartbeats 4000000 in
set_option maxRecDepth 100000 in
theorem c_X12_heatIn (l : Launch) (D : va_G) (G : Gt) (S : Sh) (M : Mm) (xl0 : Int) (zl1 : Int32) (post : Int → Mm → Prop) (h : wp_X12_heatIn S M xl0 zl1.toInt post) : Met l yX12_heatIn (cw_X12_heatIn :: gw) RM_X12_heatIn (va_Pc [.ref (adr G xl0), .int zl1] (fun U => KN D G U ∧ Wd D G S M U.heap)) (QI D G S post) 0 0 (aG G) := by
  refine Met.ofW (cc := cX12_heatIn) (maxL := 5) (ret := (some .int)) (by decide) rfl ?_
  intro p e s m args below meth c s₁ B hml hv
  obtain ⟨rfl, hK, hP⟩ := hv
  have hx := B.exec
  have hb := B.bytes
  have hr := B.returns
  have hts := atoms_spec (ws := cw_X12_heatIn :: gw) B.pre
  have hown : s.vm.findClass RX12 = some m.cls := findClass_of_methodNamed B.named
  have hlocks := B.notSynchronized
  have hS : va_S (aG G) s.heap s.heap [] := va_S.rf
  have C : Cx p s m ([.ref (adr G xl0), .int zl1] : List Value).toArray meth c D G cX12_heatIn 5 (some .int) (cw_X12_heatIn :: gw) RX12 := ⟨hx, hb, hr, hlocks, hml, hown, hts, hK⟩
  have hl := lv_entry ([.ref (adr G xl0), .int zl1]) (n := 5) (Nat.le_of_ble_eq_true rfl)
  rw [lg_entry_eq]
  generalize (lg_sl ([.ref (adr G xl0), .int zl1]) ++ List.replicate (5 - (lg_sl ([.ref (adr G xl0), .int zl1])).length) Slot.unset).toArray = ls at hl ⊢
  have hl : lv_has ls 5 [(0, .ref (adr G xl0)), (1, .int zl1)] := hl
  unfold wp_X12_heatIn at h
  refine r_iconst hx hb dX12_heatIn_0 (by decide) h (fun z44 h => ?_)
  refine lv_istore_n (lv' := [(2, .int z44), (0, .ref (adr G xl0)), (1, .int zl1)]) hx hb dX12_heatIn_1 rfl hl (by decide) rfl (fun ls hl => ?_)
  refine r_iconst hx hb dX12_heatIn_2 (by decide) h (fun z46 h => ?_)
  refine lv_istore_n (lv' := [(3, .int z46), (2, .int z44), (0, .ref (adr G xl0)), (1, .int zl1)]) hx hb dX12_heatIn_3 rfl hl (by decide) rfl (fun ls hl => ?_)
  obtain ⟨n9, h⟩ := h
  exact t_X12_heatIn_4 C n9 xl0 zl1 z44 z46 _ _ _ _ hP hS (lv_sub hl [2, 3, 1, 0] rfl) h
/-! TurningMilkModel.bits(I)I -/
abbrev RM_X12_bits : Room := { frames := 1, cells := 0, slots := 0, locals := 40 }
def cw_X12_bits : Cond := Cond.code yX12_bits cX12_bits 3 (Option.some FieldType.int)
theorem hd_X12_bits : yX12_bits.cls ≠ "java/lang/invoke/MethodHandle" ∧ yX12_bits.cls ≠ "java/lang/invoke/VarHandle" ∧ (parseMethodDescriptor yX12_bits.desc).map (fun d => d.parameters.length) = some 1 := by decide +kernel
theorem dX12_bits_0 : decode cX12_bits 0 = .ok (.iconst 0, 1) := by decide +kernel
theorem dX12_bits_1 : decode cX12_bits 1 = .ok (.istore_n 1, 1) := by decide +kernel
theorem dX12_bits_2 : decode cX12_bits 2 = .ok (.iload_n 0, 1) := by decide +kernel
theorem dX12_bits_3 : decode cX12_bits 3 = .ok (.istore_n 2, 1) := by decide +kernel
theorem dX12_bits_4 : decode cX12_bits 4 = .ok (.iload_n 2, 1) := by decide +kernel
theorem dX12_bits_5 : decode cX12_bits 5 = .ok (.ifCond .eq 15, 3) := by decide +kernel
theorem dX12_bits_8 : decode cX12_bits 8 = .ok (.iinc 1 1, 3) := by decide +kernel
theorem dX12_bits_11 : decode cX12_bits 11 = .ok (.iload_n 2, 1) := by decide +kernel
theorem dX12_bits_12 : decode cX12_bits 12 = .ok (.iload_n 2, 1) := by decide +kernel
theorem dX12_bits_13 : decode cX12_bits 13 = .ok (.iconst 1, 1) := by decide +kernel
theorem dX12_bits_14 : decode cX12_bits 14 = .ok (.isub, 1) := by decide +kernel
theorem dX12_bits_15 : decode cX12_bits 15 = .ok (.iand, 1) := by decide +kernel
theorem dX12_bits_16 : decode cX12_bits 16 = .ok (.istore_n 2, 1) := by decide +kernel
theorem dX12_bits_17 : decode cX12_bits 17 = .ok (.goto (-13), 3) := by decide +kernel
theorem dX12_bits_20 : decode cX12_bits 20 = .ok (.iload_n 1, 1) := by decide +kernel
theorem dX12_bits_21 : decode cX12_bits 21 = .ok (.ireturn, 1) := by decide +kernel
def wp_X12_bits_4 (S : Sh) (post : Int → Mm → Prop) : Nat → Int → Int → Mm → Prop
  | 0, _, _, _ => False
  | n + 1, u1, u2, M => wIf (u2 = 0) (post u1 M) (wA u1 1 fun v1 => wC 1 fun v3 => wS u2 v3 fun v5 => wO iAnd u2 v5 fun v7 => wp_X12_bits_4 S post n v1 v7 M)
def wp_X12_bits (S : Sh) (M : Mm) (u0 : Int) (post : Int → Mm → Prop) : Prop := wC 0 fun v9 => ∃ n9 : Nat, wp_X12_bits_4 S post n9 v9 u0 M
set_option maxHeartbeats 4000000 in
set_option maxRecDepth 100000 in
theorem t_X12_bits_4 {p : Program} {l : Launch} {e : Env} {s : State} {m : MethodId} {args : Array Value} {below : List Frame} {meth : Method} {c : Code} {D : va_G} {G : Gt} {S : Sh} {post : Int → Mm → Prop} (C : Cx p s m args meth c D G cX12_bits 3 (some .int) (cw_X12_bits :: gw) RX12) : ∀ (n : Nat) (zl1 : Int32) (zl2 : Int32) (M : Mm) (H : Heap) (locs : List Loc) (ls : Array Slot), Wd D G S M H → va_S (aG G) s.heap H locs → lv_has ls 3 [(1, .int zl1), (2, .int zl2)] → wp_X12_bits_4 S post n zl1.toInt zl2.toInt  M → W p l e RM_X12_bits s m args below meth c H locs 0 0 (MQ below (QI D G S post) args s 0 0 (aG G)) (F0 m 4 ls []) := by
  obtain ⟨hx, hb, hr, hlocks, hml, hown, hts, hK⟩ := id C
  intro n
  induction n with
  | zero => intro zl1 zl2 M H locs ls hP hS hl h; exact h.elim
  | succ n ih =>
    intro zl1 zl2 M H locs ls hP hS hl h
    unfold wp_X12_bits_4 at h
    refine lv_iload_n hx hb dX12_bits_4 rfl (lv_at hl 1 rfl) ?_
    refine r_if_eq (tgt := 20) hx hb dX12_bits_5 (by decide) h (fun h => ?_) (fun h => ?_)
    · refine lv_iload_n hx hb dX12_bits_20 rfl (lv_at hl 0 rfl) ?_
      exact r_iret hx hb hr hlocks hP hS dX12_bits_21 h
    · refine r_iinc hx hb (fun z2 => [(1, .int z2), (2, .int zl2)]) dX12_bits_8 (by decide) hl (k := 0) rfl (by decide) (fun _ => rfl) h (fun z2 ls hl h => ?_)
      refine lv_iload_n hx hb dX12_bits_11 rfl (lv_at hl 1 rfl) ?_
      refine lv_iload_n hx hb dX12_bits_12 rfl (lv_at hl 1 rfl) ?_
      refine r_iconst hx hb dX12_bits_13 (by decide) h (fun z4 h => ?_)
      refine r_isub hx hb dX12_bits_14 h (fun z6 h => ?_)
      refine r_iand hx hb dX12_bits_15 h (fun z8 h => ?_)
      refine lv_istore_n (lv' := [(2, .int z8), (1, .int z2)]) hx hb dX12_bits_16 rfl hl (by decide) rfl (fun ls hl => ?_)
      refine lv_goto (tgt := 4) hx hb dX12_bits_17 (by decide) ?_
      exact ih z2 z8 _ _ _ _ hP hS (lv_sub hl [1, 0] rfl) h
set_option maxHeartbeats 4000000 in
set_option maxRecDepth 100000 in
theorem c_X12_bits (l : Launch) (D : va_G) (G : Gt) (S : Sh) (M : Mm) (zl0 : Int32) (post : Int → Mm → Prop) (h : wp_X12_bits S M zl0.toInt post) : Met l yX12_bits (cw_X12_bits :: gw) RM_X12_bits (va_Pc [.int zl0] (fun U => KN D G U ∧ Wd D G S M U.heap)) (QI D G S post) 0 0 (aG G) := by
  refine Met.ofW (cc := cX12_bits) (maxL := 3) (ret := (some .int)) (by decide) rfl ?_
  intro p e s m args below meth c s₁ B hml hv
  obtain ⟨rfl, hK, hP⟩ := hv
  have hx := B.exec
  have hb := B.bytes
  have hr := B.returns
  have hts := atoms_spec (ws := cw_X12_bits :: gw) B.pre
  have hown : s.vm.findClass RX12 = some m.cls := findClass_of_methodNamed B.named
  have hlocks := B.notSynchronized
  have hS : va_S (aG G) s.heap s.heap [] := va_S.rf
  have C : Cx p s m ([.int zl0] : List Value).toArray meth c D G cX12_bits 3 (some .int) (cw_X12_bits :: gw) RX12 := ⟨hx, hb, hr, hlocks, hml, hown, hts, hK⟩
  have hl := lv_entry ([.int zl0]) (n := 3) (Nat.le_of_ble_eq_true rfl)
  rw [lg_entry_eq]
  generalize (lg_sl ([.int zl0]) ++ List.replicate (3 - (lg_sl ([.int zl0])).length) Slot.unset).toArray = ls at hl ⊢
  have hl : lv_has ls 3 [(0, .int zl0)] := hl
  unfold wp_X12_bits at h
  refine r_iconst hx hb dX12_bits_0 (by decide) h (fun z10 h => ?_)
  refine lv_istore_n (lv' := [(1, .int z10), (0, .int zl0)]) hx hb dX12_bits_1 rfl hl (by decide) rfl (fun ls hl => ?_)
  refine lv_iload_n hx hb dX12_bits_2 rfl (lv_at hl 1 rfl) ?_
  refine lv_istore_n (lv' := [(2, .int zl0), (1, .int z10), (0, .int zl0)]) hx hb dX12_bits_3 rfl hl (by decide) rfl (fun ls hl => ?_)
  obtain ⟨n9, h⟩ := h
  exact t_X12_bits_4 C n9 z10 zl0 _ _ _ _ hP hS (lv_sub hl [1, 0] rfl) h
/-! TurningMilkModel.push(J)V -/
abbrev RM_X12_push : Room := { frames := 1, cells := 0, slots := 0, locals := 40 }
def cw_X12_push : Cond := Cond.code yX12_push cX12_push 3 (Option.none : Option FieldType)
theorem hd_X12_push : yX12_push.cls ≠ "java/lang/invoke/MethodHandle" ∧ yX12_push.cls ≠ "java/lang/invoke/VarHandle" ∧ (parseMethodDescriptor yX12_push.desc).map (fun d => d.parameters.length) = some 1 := by decide +kernel
theorem dX12_push_0 : decode cX12_push 0 = .ok (.aload_n 0, 1) := by decide +kernel
theorem dX12_push_1 : decode cX12_push 1 = .ok (.getfield 32, 3) := by decide +kernel
theorem dX12_push_4 : decode cX12_push 4 = .ok (.aload_n 0, 1) := by decide +kernel
theorem dX12_push_5 : decode cX12_push 5 = .ok (.getfield 269, 3) := by decide +kernel
theorem dX12_push_8 : decode cX12_push 8 = .ok (.lload_n 1, 1) := by decide +kernel
theorem dX12_push_9 : decode cX12_push 9 = .ok (.lastore, 1) := by decide +kernel
theorem dX12_push_10 : decode cX12_push 10 = .ok (.aload_n 0, 1) := by decide +kernel
theorem dX12_push_11 : decode cX12_push 11 = .ok (.dup, 1) := by decide +kernel
theorem dX12_push_12 : decode cX12_push 12 = .ok (.getfield 269, 3) := by decide +kernel
theorem dX12_push_15 : decode cX12_push 15 = .ok (.iconst 1, 1) := by decide +kernel
theorem dX12_push_16 : decode cX12_push 16 = .ok (.iadd, 1) := by decide +kernel
theorem dX12_push_17 : decode cX12_push 17 = .ok (.putfield 269, 3) := by decide +kernel
theorem dX12_push_20 : decode cX12_push 20 = .ok (.return_, 1) := by decide +kernel
def wp_X12_push (S : Sh) (M : Mm) (u0 : Int) (u1 : Int) (post : Mm → Prop) : Prop := wGetR S M u0 12 17 fun v1 => wGet S M u0 12 18 fun v3 => wSt S M v1 16 v3 u1 fun M5 => wGet S M5 u0 12 18 fun v6 => wC 1 fun v8 => wA v6 v8 fun v10 => wPut S M5 u0 12 18 v10 fun M12 => post M12
set_option maxHeartbeats 4000000 in
set_option maxRecDepth 100000 in
theorem c_X12_push (l : Launch) (D : va_G) (G : Gt) (S : Sh) (M : Mm) (xl0 : Int) (zl1 : Int64) (post : Mm → Prop) (h : wp_X12_push S M xl0 zl1.toInt post) : Met l yX12_push (cw_X12_push :: gw) RM_X12_push (va_Pc [.ref (adr G xl0), .long zl1] (fun U => KN D G U ∧ Wd D G S M U.heap)) (QV D G S post) 0 0 (aG G) := by
  refine Met.ofW (cc := cX12_push) (maxL := 3) (ret := none) (by decide) rfl ?_
  intro p e s m args below meth c s₁ B hml hv
  obtain ⟨rfl, hK, hP⟩ := hv
  have hx := B.exec
  have hb := B.bytes
  have hr := B.returns
  have hts := atoms_spec (ws := cw_X12_push :: gw) B.pre
  have hown : s.vm.findClass RX12 = some m.cls := findClass_of_methodNamed B.named
  have hlocks := B.notSynchronized
  have hS : va_S (aG G) s.heap s.heap [] := va_S.rf
  have C : Cx p s m ([.ref (adr G xl0), .long zl1] : List Value).toArray meth c D G cX12_push 3 none (cw_X12_push :: gw) RX12 := ⟨hx, hb, hr, hlocks, hml, hown, hts, hK⟩
  have hl := lv_entry ([.ref (adr G xl0), .long zl1]) (n := 3) (Nat.le_of_ble_eq_true rfl)
  rw [lg_entry_eq]
  generalize (lg_sl ([.ref (adr G xl0), .long zl1]) ++ List.replicate (3 - (lg_sl ([.ref (adr G xl0), .long zl1])).length) Slot.unset).toArray = ls at hl ⊢
  have hl : lv_has ls 3 [(0, .ref (adr G xl0)), (1, .long zl1)] := hl
  unfold wp_X12_push at h
  refine lv_aload_n hx hb dX12_push_0 rfl (lv_at hl 0 rfl) ?_
  refine r_getr (C := RX12) (T := TX12) (N := 38) hx hb hts (fun w h => List.mem_cons_of_mem _ (iX12 w h)) hown hK hP rfl (by decide) rfl 17 (by decide) (hts _ (List.mem_cons_of_mem _ kw_1351)) (fun _ h9 => h9) dX12_push_1 (by decide) h (fun x2 h => ?_)
  refine lv_aload_n hx hb dX12_push_4 rfl (lv_at hl 0 rfl) ?_
  refine r_geti (C := RX12) (T := TX12) (N := 38) hx hb hts (fun w h => List.mem_cons_of_mem _ (iX12 w h)) hown hK hP rfl (by decide) rfl 18 (by decide) (hts _ (List.mem_cons_of_mem _ kw_1352)) (fun _ h9 => h9) dX12_push_5 (by decide) h (fun z4 h => ?_)
  refine lv_lload_n hx hb dX12_push_8 rfl (lv_at hl 1 rfl) ?_
  refine r_last hx hb hK hP hS dX12_push_9 h (fun M5 H locs h hP hS => ?_)
  refine lv_aload_n hx hb dX12_push_10 rfl (lv_at hl 0 rfl) ?_
  refine lv_dup hx hb dX12_push_11 rfl ?_
  refine r_geti (C := RX12) (T := TX12) (N := 38) hx hb hts (fun w h => List.mem_cons_of_mem _ (iX12 w h)) hown hK hP rfl (by decide) rfl 18 (by decide) (hts _ (List.mem_cons_of_mem _ kw_1352)) (fun _ h9 => h9) dX12_push_12 (by decide) h (fun z7 h => ?_)
  refine r_iconst hx hb dX12_push_15 (by decide) h (fun z9 h => ?_)
  refine r_iadd hx hb dX12_push_16 h (fun z11 h => ?_)
  refine r_puti (C := RX12) (T := TX12) (N := 38) hx hb hts (fun w h => List.mem_cons_of_mem _ (iX12 w h)) hown hK hP tyX12 tyX12_ok nmX12 hS rfl (by decide) rfl 18 (by decide) (hts _ (List.mem_cons_of_mem _ kw_1352)) (fun _ h9 => h9) rfl (tyX12_ok 18 (by decide)) rfl rfl dX12_push_17 (by decide) h (fun M12 H locs h hP hS => ?_)
  exact r_vret hx hb hr hlocks hP hS dX12_push_20 h
/-! TurningMilkModel.pop()J -/
abbrev RM_X12_pop : Room := { frames := 1, cells := 0, slots := 0, locals := 40 }
def cw_X12_pop : Cond := Cond.code yX12_pop cX12_pop 1 (Option.some FieldType.long)
theorem hd_X12_pop : yX12_pop.cls ≠ "java/lang/invoke/MethodHandle" ∧ yX12_pop.cls ≠ "java/lang/invoke/VarHandle" ∧ (parseMethodDescriptor yX12_pop.desc).map (fun d => d.parameters.length) = some 0 := by decide +kernel
theorem dX12_pop_0 : decode cX12_pop 0 = .ok (.aload_n 0, 1) := by decide +kernel
theorem dX12_pop_1 : decode cX12_pop 1 = .ok (.dup, 1) := by decide +kernel
theorem dX12_pop_2 : decode cX12_pop 2 = .ok (.getfield 269, 3) := by decide +kernel
theorem dX12_pop_5 : decode cX12_pop 5 = .ok (.iconst 1, 1) := by decide +kernel
theorem dX12_pop_6 : decode cX12_pop 6 = .ok (.isub, 1) := by decide +kernel
theorem dX12_pop_7 : decode cX12_pop 7 = .ok (.putfield 269, 3) := by decide +kernel
theorem dX12_pop_10 : decode cX12_pop 10 = .ok (.aload_n 0, 1) := by decide +kernel
theorem dX12_pop_11 : decode cX12_pop 11 = .ok (.getfield 32, 3) := by decide +kernel
theorem dX12_pop_14 : decode cX12_pop 14 = .ok (.aload_n 0, 1) := by decide +kernel
theorem dX12_pop_15 : decode cX12_pop 15 = .ok (.getfield 269, 3) := by decide +kernel
theorem dX12_pop_18 : decode cX12_pop 18 = .ok (.laload, 1) := by decide +kernel
theorem dX12_pop_19 : decode cX12_pop 19 = .ok (.lreturn, 1) := by decide +kernel
def wp_X12_pop (S : Sh) (M : Mm) (u0 : Int) (post : Int → Mm → Prop) : Prop := wGet S M u0 12 18 fun v1 => wC 1 fun v3 => wS v1 v3 fun v5 => wPut S M u0 12 18 v5 fun M7 => wGetR S M7 u0 12 17 fun v8 => wGet S M7 u0 12 18 fun v10 => wLd S M7 v8 16 v10 fun v12 => post v12 M7
set_option maxHeartbeats 4000000 in
set_option maxRecDepth 100000 in
theorem c_X12_pop (l : Launch) (D : va_G) (G : Gt) (S : Sh) (M : Mm) (xl0 : Int) (post : Int → Mm → Prop) (h : wp_X12_pop S M xl0 post) : Met l yX12_pop (cw_X12_pop :: gw) RM_X12_pop (va_Pc [.ref (adr G xl0)] (fun U => KN D G U ∧ Wd D G S M U.heap)) (QL D G S post) 0 0 (aG G) := by
  refine Met.ofW (cc := cX12_pop) (maxL := 1) (ret := (some .long)) (by decide) rfl ?_
  intro p e s m args below meth c s₁ B hml hv
  obtain ⟨rfl, hK, hP⟩ := hv
  have hx := B.exec
  have hb := B.bytes
  have hr := B.returns
  have hts := atoms_spec (ws := cw_X12_pop :: gw) B.pre
  have hown : s.vm.findClass RX12 = some m.cls := findClass_of_methodNamed B.named
  have hlocks := B.notSynchronized
  have hS : va_S (aG G) s.heap s.heap [] := va_S.rf
  have C : Cx p s m ([.ref (adr G xl0)] : List Value).toArray meth c D G cX12_pop 1 (some .long) (cw_X12_pop :: gw) RX12 := ⟨hx, hb, hr, hlocks, hml, hown, hts, hK⟩
  have hl := lv_entry ([.ref (adr G xl0)]) (n := 1) (Nat.le_of_ble_eq_true rfl)
  rw [lg_entry_eq]
  generalize (lg_sl ([.ref (adr G xl0)]) ++ List.replicate (1 - (lg_sl ([.ref (adr G xl0)])).length) Slot.unset).toArray = ls at hl ⊢
  have hl : lv_has ls 1 [(0, .ref (adr G xl0))] := hl
  unfold wp_X12_pop at h
  refine lv_aload_n hx hb dX12_pop_0 rfl (lv_at hl 0 rfl) ?_
  refine lv_dup hx hb dX12_pop_1 rfl ?_
  refine r_geti (C := RX12) (T := TX12) (N := 38) hx hb hts (fun w h => List.mem_cons_of_mem _ (iX12 w h)) hown hK hP rfl (by decide) rfl 18 (by decide) (hts _ (List.mem_cons_of_mem _ kw_1352)) (fun _ h9 => h9) dX12_pop_2 (by decide) h (fun z2 h => ?_)
  refine r_iconst hx hb dX12_pop_5 (by decide) h (fun z4 h => ?_)
  refine r_isub hx hb dX12_pop_6 h (fun z6 h => ?_)
  refine r_puti (C := RX12) (T := TX12) (N := 38) hx hb hts (fun w h => List.mem_cons_of_mem _ (iX12 w h)) hown hK hP tyX12 tyX12_ok nmX12 hS rfl (by decide) rfl 18 (by decide) (hts _ (List.mem_cons_of_mem _ kw_1352)) (fun _ h9 => h9) rfl (tyX12_ok 18 (by decide)) rfl rfl dX12_pop_7 (by decide) h (fun M7 H locs h hP hS => ?_)
  refine lv_aload_n hx hb dX12_pop_10 rfl (lv_at hl 0 rfl) ?_
  refine r_getr (C := RX12) (T := TX12) (N := 38) hx hb hts (fun w h => List.mem_cons_of_mem _ (iX12 w h)) hown hK hP rfl (by decide) rfl 17 (by decide) (hts _ (List.mem_cons_of_mem _ kw_1351)) (fun _ h9 => h9) dX12_pop_11 (by decide) h (fun x9 h => ?_)
  refine lv_aload_n hx hb dX12_pop_14 rfl (lv_at hl 0 rfl) ?_
  refine r_geti (C := RX12) (T := TX12) (N := 38) hx hb hts (fun w h => List.mem_cons_of_mem _ (iX12 w h)) hown hK hP rfl (by decide) rfl 18 (by decide) (hts _ (List.mem_cons_of_mem _ kw_1352)) (fun _ h9 => h9) dX12_pop_15 (by decide) h (fun z11 h => ?_)
  refine r_lald hx hb hK hP dX12_pop_18 h (fun z13 h => ?_)
  exact r_lret hx hb hr hlocks hP hS dX12_pop_19 h
