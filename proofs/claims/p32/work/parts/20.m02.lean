/-! TurningMilkModel.dairyLineHere(I)Z -/
abbrev RM_X12_dairyLineHere : Room := { frames := 5, cells := 0, slots := 0, locals := 135 }
def cw_X12_dairyLineHere : Cond := Cond.code yX12_dairyLineHere cX12_dairyLineHere 2 (Option.some FieldType.boolean)
theorem hd_X12_dairyLineHere : yX12_dairyLineHere.cls ≠ "java/lang/invoke/MethodHandle" ∧ yX12_dairyLineHere.cls ≠ "java/lang/invoke/VarHandle" ∧ (parseMethodDescriptor yX12_dairyLineHere.desc).map (fun d => d.parameters.length) = some 1 := by decide +kernel
theorem dX12_dairyLineHere_0 : decode cX12_dairyLineHere 0 = .ok (.aload_n 0, 1) := by decide +kernel
theorem dX12_dairyLineHere_1 : decode cX12_dairyLineHere 1 = .ok (.ldc2_w 221, 3) := by decide +kernel
theorem dX12_dairyLineHere_4 : decode cX12_dairyLineHere 4 = .ok (.invokevirtual 101, 3) := by decide +kernel
theorem dX12_dairyLineHere_7 : decode cX12_dairyLineHere 7 = .ok (.ifCond .eq 9, 3) := by decide +kernel
theorem dX12_dairyLineHere_10 : decode cX12_dairyLineHere 10 = .ok (.aload_n 0, 1) := by decide +kernel
theorem dX12_dairyLineHere_11 : decode cX12_dairyLineHere 11 = .ok (.iload_n 1, 1) := by decide +kernel
theorem dX12_dairyLineHere_12 : decode cX12_dairyLineHere 12 = .ok (.invokevirtual 223, 3) := by decide +kernel
theorem dX12_dairyLineHere_15 : decode cX12_dairyLineHere 15 = .ok (.ireturn, 1) := by decide +kernel
theorem dX12_dairyLineHere_16 : decode cX12_dairyLineHere 16 = .ok (.aload_n 0, 1) := by decide +kernel
theorem dX12_dairyLineHere_17 : decode cX12_dairyLineHere 17 = .ok (.getfield 26, 3) := by decide +kernel
theorem dX12_dairyLineHere_20 : decode cX12_dairyLineHere 20 = .ok (.iconst 0, 1) := by decide +kernel
theorem dX12_dairyLineHere_21 : decode cX12_dairyLineHere 21 = .ok (.iaload, 1) := by decide +kernel
theorem dX12_dairyLineHere_22 : decode cX12_dairyLineHere 22 = .ok (.ifCond .ne 10, 3) := by decide +kernel
theorem dX12_dairyLineHere_25 : decode cX12_dairyLineHere 25 = .ok (.aload_n 0, 1) := by decide +kernel
theorem dX12_dairyLineHere_26 : decode cX12_dairyLineHere 26 = .ok (.iconst 4, 1) := by decide +kernel
theorem dX12_dairyLineHere_27 : decode cX12_dairyLineHere 27 = .ok (.iload_n 1, 1) := by decide +kernel
theorem dX12_dairyLineHere_28 : decode cX12_dairyLineHere 28 = .ok (.invokevirtual 111, 3) := by decide +kernel
theorem dX12_dairyLineHere_31 : decode cX12_dairyLineHere 31 = .ok (.ireturn, 1) := by decide +kernel
theorem dX12_dairyLineHere_32 : decode cX12_dairyLineHere 32 = .ok (.aload_n 0, 1) := by decide +kernel
theorem dX12_dairyLineHere_33 : decode cX12_dairyLineHere 33 = .ok (.ldc2_w 136, 3) := by decide +kernel
theorem dX12_dairyLineHere_36 : decode cX12_dairyLineHere 36 = .ok (.invokevirtual 101, 3) := by decide +kernel
theorem dX12_dairyLineHere_39 : decode cX12_dairyLineHere 39 = .ok (.ifCond .eq 9, 3) := by decide +kernel
theorem dX12_dairyLineHere_42 : decode cX12_dairyLineHere 42 = .ok (.aload_n 0, 1) := by decide +kernel
theorem dX12_dairyLineHere_43 : decode cX12_dairyLineHere 43 = .ok (.iload_n 1, 1) := by decide +kernel
theorem dX12_dairyLineHere_44 : decode cX12_dairyLineHere 44 = .ok (.invokevirtual 226, 3) := by decide +kernel
theorem dX12_dairyLineHere_47 : decode cX12_dairyLineHere 47 = .ok (.ireturn, 1) := by decide +kernel
theorem dX12_dairyLineHere_48 : decode cX12_dairyLineHere 48 = .ok (.aload_n 0, 1) := by decide +kernel
theorem dX12_dairyLineHere_49 : decode cX12_dairyLineHere 49 = .ok (.ldc2_w 122, 3) := by decide +kernel
theorem dX12_dairyLineHere_52 : decode cX12_dairyLineHere 52 = .ok (.invokevirtual 101, 3) := by decide +kernel
theorem dX12_dairyLineHere_55 : decode cX12_dairyLineHere 55 = .ok (.ifCond .eq 9, 3) := by decide +kernel
theorem dX12_dairyLineHere_58 : decode cX12_dairyLineHere 58 = .ok (.aload_n 0, 1) := by decide +kernel
theorem dX12_dairyLineHere_59 : decode cX12_dairyLineHere 59 = .ok (.iload_n 1, 1) := by decide +kernel
theorem dX12_dairyLineHere_60 : decode cX12_dairyLineHere 60 = .ok (.invokevirtual 229, 3) := by decide +kernel
theorem dX12_dairyLineHere_63 : decode cX12_dairyLineHere 63 = .ok (.ireturn, 1) := by decide +kernel
theorem dX12_dairyLineHere_64 : decode cX12_dairyLineHere 64 = .ok (.aload_n 0, 1) := by decide +kernel
theorem dX12_dairyLineHere_65 : decode cX12_dairyLineHere 65 = .ok (.ldc2_w 128, 3) := by decide +kernel
theorem dX12_dairyLineHere_68 : decode cX12_dairyLineHere 68 = .ok (.invokevirtual 101, 3) := by decide +kernel
theorem dX12_dairyLineHere_71 : decode cX12_dairyLineHere 71 = .ok (.ifCond .eq 9, 3) := by decide +kernel
theorem dX12_dairyLineHere_74 : decode cX12_dairyLineHere 74 = .ok (.aload_n 0, 1) := by decide +kernel
theorem dX12_dairyLineHere_75 : decode cX12_dairyLineHere 75 = .ok (.iload_n 1, 1) := by decide +kernel
theorem dX12_dairyLineHere_76 : decode cX12_dairyLineHere 76 = .ok (.invokevirtual 232, 3) := by decide +kernel
theorem dX12_dairyLineHere_79 : decode cX12_dairyLineHere 79 = .ok (.ireturn, 1) := by decide +kernel
theorem dX12_dairyLineHere_80 : decode cX12_dairyLineHere 80 = .ok (.aload_n 0, 1) := by decide +kernel
theorem dX12_dairyLineHere_81 : decode cX12_dairyLineHere 81 = .ok (.ldc2_w 132, 3) := by decide +kernel
theorem dX12_dairyLineHere_84 : decode cX12_dairyLineHere 84 = .ok (.invokevirtual 101, 3) := by decide +kernel
theorem dX12_dairyLineHere_87 : decode cX12_dairyLineHere 87 = .ok (.ifCond .eq 11, 3) := by decide +kernel
theorem dX12_dairyLineHere_90 : decode cX12_dairyLineHere 90 = .ok (.aload_n 0, 1) := by decide +kernel
theorem dX12_dairyLineHere_91 : decode cX12_dairyLineHere 91 = .ok (.iload_n 1, 1) := by decide +kernel
theorem dX12_dairyLineHere_92 : decode cX12_dairyLineHere 92 = .ok (.invokevirtual 235, 3) := by decide +kernel
theorem dX12_dairyLineHere_95 : decode cX12_dairyLineHere 95 = .ok (.goto 8, 3) := by decide +kernel
theorem dX12_dairyLineHere_98 : decode cX12_dairyLineHere 98 = .ok (.aload_n 0, 1) := by decide +kernel
theorem dX12_dairyLineHere_99 : decode cX12_dairyLineHere 99 = .ok (.iload_n 1, 1) := by decide +kernel
theorem dX12_dairyLineHere_100 : decode cX12_dairyLineHere 100 = .ok (.invokevirtual 238, 3) := by decide +kernel
theorem dX12_dairyLineHere_103 : decode cX12_dairyLineHere 103 = .ok (.ireturn, 1) := by decide +kernel
def wp_X12_dairyLineHere (S : Sh) (M : Mm) (u0 : Int) (u1 : Int) (post : Int → Mm → Prop) : Prop := wC 431131030137 fun v1 => isK S u0 12 ∧ (wp_X12_isWord S M u0 v1 <| fun v4 M3 => wIf (v4 = 0) (wGetR S M3 u0 12 7 fun v6 => wC 0 fun v8 => wLd S M3 v6 14 v8 fun v10 => wIf (¬ v10 = 0) (wC 1919902052 fun v12 => isK S u0 12 ∧ (wp_X12_isWord S M3 u0 v12 <| fun v15 M14 => wIf (v15 = 0) (wC 1751215716 fun v17 => isK S u0 12 ∧ (wp_X12_isWord S M14 u0 v17 <| fun v20 M19 => wIf (v20 = 0) (wC 6976871 fun v22 => isK S u0 12 ∧ (wp_X12_isWord S M19 u0 v22 <| fun v25 M24 => wIf (v25 = 0) (wC 1751474548 fun v27 => isK S u0 12 ∧ (wp_X12_isWord S M24 u0 v27 <| fun v30 M29 => wIf (v30 = 0) (isK S u0 12 ∧ (wp_X12_isWantHere S M29 u0 u1 <| fun v33 M32 => (v33 = 0 ∨ v33 = 1) ∧ post v33 M32)) (isK S u0 12 ∧ (wp_X12_isHeatHere S M29 u0 u1 <| fun v36 M35 => (v36 = 0 ∨ v36 = 1) ∧ post v36 M35)))) (isK S u0 12 ∧ (wp_X12_isJugHere S M24 u0 u1 <| fun v39 M38 => (v39 = 0 ∨ v39 = 1) ∧ post v39 M38)))) (isK S u0 12 ∧ (wp_X12_isHandHere S M19 u0 u1 <| fun v42 M41 => (v42 = 0 ∨ v42 = 1) ∧ post v42 M41)))) (isK S u0 12 ∧ (wp_X12_isRoadHere S M14 u0 u1 <| fun v45 M44 => (v45 = 0 ∨ v45 = 1) ∧ post v45 M44)))) (wC 4 fun v47 => isK S u0 12 ∧ (wp_X12_fails S M3 u0 v47 u1 <| fun v50 M49 => (v50 = 0 ∨ v50 = 1) ∧ post v50 M49))) (isK S u0 12 ∧ (wp_X12_isDairyHere S M3 u0 u1 <| fun v53 M52 => (v53 = 0 ∨ v53 = 1) ∧ post v53 M52)))
set_option maxHeartbeats 4000000 in
set_option maxRecDepth 100000 in
theorem c_X12_dairyLineHere (l : Launch) (D : va_G) (G : Gt) (S : Sh) (M : Mm) (xl0 : Int) (zl1 : Int32) (post : Int → Mm → Prop) (h : wp_X12_dairyLineHere S M xl0 zl1.toInt post) : Met l yX12_dairyLineHere (cw_X12_dairyLineHere :: gw) RM_X12_dairyLineHere (va_Pc [.ref (adr G xl0), .int zl1] (fun U => KN D G U ∧ Wd D G S M U.heap)) (QI D G S post) 0 0 (aG G) := by
  refine Met.ofW (cc := cX12_dairyLineHere) (maxL := 2) (ret := (some .boolean)) (by decide) rfl ?_
  intro p e s m args below meth c s₁ B hml hv
  obtain ⟨rfl, hK, hP⟩ := hv
  have hx := B.exec
  have hb := B.bytes
  have hr := B.returns
  have hts := atoms_spec (ws := cw_X12_dairyLineHere :: gw) B.pre
  have hown : s.vm.findClass RX12 = some m.cls := findClass_of_methodNamed B.named
  have hlocks := B.notSynchronized
  have hS : va_S (aG G) s.heap s.heap [] := va_S.rf
  have C : Cx p s m ([.ref (adr G xl0), .int zl1] : List Value).toArray meth c D G cX12_dairyLineHere 2 (some .boolean) (cw_X12_dairyLineHere :: gw) RX12 := ⟨hx, hb, hr, hlocks, hml, hown, hts, hK⟩
  have hl := lv_entry ([.ref (adr G xl0), .int zl1]) (n := 2) (Nat.le_of_ble_eq_true rfl)
  rw [lg_entry_eq]
  generalize (lg_sl ([.ref (adr G xl0), .int zl1]) ++ List.replicate (2 - (lg_sl ([.ref (adr G xl0), .int zl1])).length) Slot.unset).toArray = ls at hl ⊢
  have hl : lv_has ls 2 [(0, .ref (adr G xl0)), (1, .int zl1)] := hl
  unfold wp_X12_dairyLineHere at h
  refine lv_aload_n hx hb dX12_dairyLineHere_0 rfl (lv_at hl 0 rfl) ?_
  refine r_ldc2 hx hb hown (hts _ (List.mem_cons_of_mem _ kw_1482)) dX12_dairyLineHere_1 (n := 431131030137) (by decide) h (fun z2 h => ?_)
  refine q_Vi hx hb hml hown hts hK hP hS (c_X12_isWord l D G S _ xl0 z2 _ h.2) ⟨callB_of 1 hts (gw_good kw_1486) rfl rfl rfl (hts _ (List.mem_cons_of_mem _ kw_14)) (hts _ (List.mem_cons_of_mem _ kw_1483)) hd_X12_isWord ⟨Nat.le_of_ble_eq_true rfl, Nat.le_of_ble_eq_true rfl⟩, (hts _ (List.mem_cons_of_mem _ kw_1485)), (hts _ (List.mem_cons_of_mem _ kp_56))⟩ h.1 (ci := 12) rfl (by decide) rfl hl.1 rfl (lv_room (Nat.le_of_ble_eq_true rfl)) dX12_dairyLineHere_4 ⟨Nat.zero_le _, Nat.zero_le _⟩ (fun z5 M3 H locs h hP hS => ?_)
  refine r_if_eq (tgt := 16) hx hb dX12_dairyLineHere_7 (by decide) h (fun h => ?_) (fun h => ?_)
  · refine lv_aload_n hx hb dX12_dairyLineHere_16 rfl (lv_at hl 0 rfl) ?_
    refine r_getr (C := RX12) (T := TX12) (N := 38) hx hb hts (fun w h => List.mem_cons_of_mem _ (iX12 w h)) hown hK hP rfl (by decide) rfl 7 (by decide) (hts _ (List.mem_cons_of_mem _ kw_1341)) (fun _ h9 => h9) dX12_dairyLineHere_17 (by decide) h (fun x7 h => ?_)
    refine r_iconst hx hb dX12_dairyLineHere_20 (by decide) h (fun z9 h => ?_)
    refine r_iald hx hb hK hP dX12_dairyLineHere_21 h (fun z11 h => ?_)
    refine r_if_ne (tgt := 32) hx hb dX12_dairyLineHere_22 (by decide) h (fun h => ?_) (fun h => ?_)
    · refine lv_aload_n hx hb dX12_dairyLineHere_32 rfl (lv_at hl 0 rfl) ?_
      refine r_ldc2 hx hb hown (hts _ (List.mem_cons_of_mem _ kw_1491)) dX12_dairyLineHere_33 (n := 1919902052) (by decide) h (fun z13 h => ?_)
      refine q_Vi hx hb hml hown hts hK hP hS (c_X12_isWord l D G S _ xl0 z13 _ h.2) ⟨callB_of 1 hts (gw_good kw_1486) rfl rfl rfl (hts _ (List.mem_cons_of_mem _ kw_14)) (hts _ (List.mem_cons_of_mem _ kw_1483)) hd_X12_isWord ⟨Nat.le_of_ble_eq_true rfl, Nat.le_of_ble_eq_true rfl⟩, (hts _ (List.mem_cons_of_mem _ kw_1485)), (hts _ (List.mem_cons_of_mem _ kp_56))⟩ h.1 (ci := 12) rfl (by decide) rfl hl.1 rfl (lv_room (Nat.le_of_ble_eq_true rfl)) dX12_dairyLineHere_36 ⟨Nat.zero_le _, Nat.zero_le _⟩ (fun z16 M14 H locs h hP hS => ?_)
      refine r_if_eq (tgt := 48) hx hb dX12_dairyLineHere_39 (by decide) h (fun h => ?_) (fun h => ?_)
      · refine lv_aload_n hx hb dX12_dairyLineHere_48 rfl (lv_at hl 0 rfl) ?_
        refine r_ldc2 hx hb hown (hts _ (List.mem_cons_of_mem _ kw_1492)) dX12_dairyLineHere_49 (n := 1751215716) (by decide) h (fun z18 h => ?_)
        refine q_Vi hx hb hml hown hts hK hP hS (c_X12_isWord l D G S _ xl0 z18 _ h.2) ⟨callB_of 1 hts (gw_good kw_1486) rfl rfl rfl (hts _ (List.mem_cons_of_mem _ kw_14)) (hts _ (List.mem_cons_of_mem _ kw_1483)) hd_X12_isWord ⟨Nat.le_of_ble_eq_true rfl, Nat.le_of_ble_eq_true rfl⟩, (hts _ (List.mem_cons_of_mem _ kw_1485)), (hts _ (List.mem_cons_of_mem _ kp_56))⟩ h.1 (ci := 12) rfl (by decide) rfl hl.1 rfl (lv_room (Nat.le_of_ble_eq_true rfl)) dX12_dairyLineHere_52 ⟨Nat.zero_le _, Nat.zero_le _⟩ (fun z21 M19 H locs h hP hS => ?_)
        refine r_if_eq (tgt := 64) hx hb dX12_dairyLineHere_55 (by decide) h (fun h => ?_) (fun h => ?_)
        · refine lv_aload_n hx hb dX12_dairyLineHere_64 rfl (lv_at hl 0 rfl) ?_
          refine r_ldc2 hx hb hown (hts _ (List.mem_cons_of_mem _ kw_1493)) dX12_dairyLineHere_65 (n := 6976871) (by decide) h (fun z23 h => ?_)
          refine q_Vi hx hb hml hown hts hK hP hS (c_X12_isWord l D G S _ xl0 z23 _ h.2) ⟨callB_of 1 hts (gw_good kw_1486) rfl rfl rfl (hts _ (List.mem_cons_of_mem _ kw_14)) (hts _ (List.mem_cons_of_mem _ kw_1483)) hd_X12_isWord ⟨Nat.le_of_ble_eq_true rfl, Nat.le_of_ble_eq_true rfl⟩, (hts _ (List.mem_cons_of_mem _ kw_1485)), (hts _ (List.mem_cons_of_mem _ kp_56))⟩ h.1 (ci := 12) rfl (by decide) rfl hl.1 rfl (lv_room (Nat.le_of_ble_eq_true rfl)) dX12_dairyLineHere_68 ⟨Nat.zero_le _, Nat.zero_le _⟩ (fun z26 M24 H locs h hP hS => ?_)
          refine r_if_eq (tgt := 80) hx hb dX12_dairyLineHere_71 (by decide) h (fun h => ?_) (fun h => ?_)
          · refine lv_aload_n hx hb dX12_dairyLineHere_80 rfl (lv_at hl 0 rfl) ?_
            refine r_ldc2 hx hb hown (hts _ (List.mem_cons_of_mem _ kw_1494)) dX12_dairyLineHere_81 (n := 1751474548) (by decide) h (fun z28 h => ?_)
            refine q_Vi hx hb hml hown hts hK hP hS (c_X12_isWord l D G S _ xl0 z28 _ h.2) ⟨callB_of 1 hts (gw_good kw_1486) rfl rfl rfl (hts _ (List.mem_cons_of_mem _ kw_14)) (hts _ (List.mem_cons_of_mem _ kw_1483)) hd_X12_isWord ⟨Nat.le_of_ble_eq_true rfl, Nat.le_of_ble_eq_true rfl⟩, (hts _ (List.mem_cons_of_mem _ kw_1485)), (hts _ (List.mem_cons_of_mem _ kp_56))⟩ h.1 (ci := 12) rfl (by decide) rfl hl.1 rfl (lv_room (Nat.le_of_ble_eq_true rfl)) dX12_dairyLineHere_84 ⟨Nat.zero_le _, Nat.zero_le _⟩ (fun z31 M29 H locs h hP hS => ?_)
            refine r_if_eq (tgt := 98) hx hb dX12_dairyLineHere_87 (by decide) h (fun h => ?_) (fun h => ?_)
            · refine lv_aload_n hx hb dX12_dairyLineHere_98 rfl (lv_at hl 0 rfl) ?_
              refine lv_iload_n hx hb dX12_dairyLineHere_99 rfl (lv_at hl 1 rfl) ?_
              refine q_Vi hx hb hml hown hts hK hP hS (c_X12_isWantHere l D G S _ xl0 zl1 _ h.2) ⟨callB_of 1 hts (gw_good kw_1551) rfl rfl rfl (hts _ (List.mem_cons_of_mem _ kw_14)) (hts _ (List.mem_cons_of_mem _ kw_1548)) hd_X12_isWantHere ⟨Nat.le_of_ble_eq_true rfl, Nat.le_of_ble_eq_true rfl⟩, (hts _ (List.mem_cons_of_mem _ kw_1550)), (hts _ (List.mem_cons_of_mem _ kp_70))⟩ h.1 (ci := 12) rfl (by decide) rfl hl.1 rfl (lv_room (Nat.le_of_ble_eq_true rfl)) dX12_dairyLineHere_100 ⟨Nat.zero_le _, Nat.zero_le _⟩ (fun z34 M32 H locs h hP hS => ?_)
              exact r_zret hx hb hr hlocks hP hS dX12_dairyLineHere_103 h
            · refine lv_aload_n hx hb dX12_dairyLineHere_90 rfl (lv_at hl 0 rfl) ?_
              refine lv_iload_n hx hb dX12_dairyLineHere_91 rfl (lv_at hl 1 rfl) ?_
              refine q_Vi hx hb hml hown hts hK hP hS (c_X12_isHeatHere l D G S _ xl0 zl1 _ h.2) ⟨callB_of 1 hts (gw_good kw_1547) rfl rfl rfl (hts _ (List.mem_cons_of_mem _ kw_14)) (hts _ (List.mem_cons_of_mem _ kw_1544)) hd_X12_isHeatHere ⟨Nat.le_of_ble_eq_true rfl, Nat.le_of_ble_eq_true rfl⟩, (hts _ (List.mem_cons_of_mem _ kw_1546)), (hts _ (List.mem_cons_of_mem _ kp_69))⟩ h.1 (ci := 12) rfl (by decide) rfl hl.1 rfl (lv_room (Nat.le_of_ble_eq_true rfl)) dX12_dairyLineHere_92 ⟨Nat.zero_le _, Nat.zero_le _⟩ (fun z37 M35 H locs h hP hS => ?_)
              refine lv_goto (tgt := 103) hx hb dX12_dairyLineHere_95 (by decide) ?_
              exact r_zret hx hb hr hlocks hP hS dX12_dairyLineHere_103 h
          · refine lv_aload_n hx hb dX12_dairyLineHere_74 rfl (lv_at hl 0 rfl) ?_
            refine lv_iload_n hx hb dX12_dairyLineHere_75 rfl (lv_at hl 1 rfl) ?_
            refine q_Vi hx hb hml hown hts hK hP hS (c_X12_isJugHere l D G S _ xl0 zl1 _ h.2) ⟨callB_of 1 hts (gw_good kw_1543) rfl rfl rfl (hts _ (List.mem_cons_of_mem _ kw_14)) (hts _ (List.mem_cons_of_mem _ kw_1540)) hd_X12_isJugHere ⟨Nat.le_of_ble_eq_true rfl, Nat.le_of_ble_eq_true rfl⟩, (hts _ (List.mem_cons_of_mem _ kw_1542)), (hts _ (List.mem_cons_of_mem _ kp_68))⟩ h.1 (ci := 12) rfl (by decide) rfl hl.1 rfl (lv_room (Nat.le_of_ble_eq_true rfl)) dX12_dairyLineHere_76 ⟨Nat.zero_le _, Nat.zero_le _⟩ (fun z40 M38 H locs h hP hS => ?_)
            exact r_zret hx hb hr hlocks hP hS dX12_dairyLineHere_79 h
        · refine lv_aload_n hx hb dX12_dairyLineHere_58 rfl (lv_at hl 0 rfl) ?_
          refine lv_iload_n hx hb dX12_dairyLineHere_59 rfl (lv_at hl 1 rfl) ?_
          refine q_Vi hx hb hml hown hts hK hP hS (c_X12_isHandHere l D G S _ xl0 zl1 _ h.2) ⟨callB_of 1 hts (gw_good kw_1539) rfl rfl rfl (hts _ (List.mem_cons_of_mem _ kw_14)) (hts _ (List.mem_cons_of_mem _ kw_1536)) hd_X12_isHandHere ⟨Nat.le_of_ble_eq_true rfl, Nat.le_of_ble_eq_true rfl⟩, (hts _ (List.mem_cons_of_mem _ kw_1538)), (hts _ (List.mem_cons_of_mem _ kp_67))⟩ h.1 (ci := 12) rfl (by decide) rfl hl.1 rfl (lv_room (Nat.le_of_ble_eq_true rfl)) dX12_dairyLineHere_60 ⟨Nat.zero_le _, Nat.zero_le _⟩ (fun z43 M41 H locs h hP hS => ?_)
          exact r_zret hx hb hr hlocks hP hS dX12_dairyLineHere_63 h
      · refine lv_aload_n hx hb dX12_dairyLineHere_42 rfl (lv_at hl 0 rfl) ?_
        refine lv_iload_n hx hb dX12_dairyLineHere_43 rfl (lv_at hl 1 rfl) ?_
        refine q_Vi hx hb hml hown hts hK hP hS (c_X12_isRoadHere l D G S _ xl0 zl1 _ h.2) ⟨callB_of 1 hts (gw_good kw_1531) rfl rfl rfl (hts _ (List.mem_cons_of_mem _ kw_14)) (hts _ (List.mem_cons_of_mem _ kw_1528)) hd_X12_isRoadHere ⟨Nat.le_of_ble_eq_true rfl, Nat.le_of_ble_eq_true rfl⟩, (hts _ (List.mem_cons_of_mem _ kw_1530)), (hts _ (List.mem_cons_of_mem _ kp_65))⟩ h.1 (ci := 12) rfl (by decide) rfl hl.1 rfl (lv_room (Nat.le_of_ble_eq_true rfl)) dX12_dairyLineHere_44 ⟨Nat.zero_le _, Nat.zero_le _⟩ (fun z46 M44 H locs h hP hS => ?_)
        exact r_zret hx hb hr hlocks hP hS dX12_dairyLineHere_47 h
    · refine lv_aload_n hx hb dX12_dairyLineHere_25 rfl (lv_at hl 0 rfl) ?_
      refine r_iconst hx hb dX12_dairyLineHere_26 (by decide) h (fun z48 h => ?_)
      refine lv_iload_n hx hb dX12_dairyLineHere_27 rfl (lv_at hl 1 rfl) ?_
      refine q_Vi hx hb hml hown hts hK hP hS (c_X12_fails l D G S _ xl0 z48 zl1 _ h.2) ⟨callB_of 2 hts (gw_good kw_1500) rfl rfl rfl (hts _ (List.mem_cons_of_mem _ kw_14)) (hts _ (List.mem_cons_of_mem _ kw_1497)) hd_X12_fails ⟨Nat.le_of_ble_eq_true rfl, Nat.le_of_ble_eq_true rfl⟩, (hts _ (List.mem_cons_of_mem _ kw_1499)), (hts _ (List.mem_cons_of_mem _ kp_58))⟩ h.1 (ci := 12) rfl (by decide) rfl hl.1 rfl (lv_room (Nat.le_of_ble_eq_true rfl)) dX12_dairyLineHere_28 ⟨Nat.zero_le _, Nat.zero_le _⟩ (fun z51 M49 H locs h hP hS => ?_)
      exact r_zret hx hb hr hlocks hP hS dX12_dairyLineHere_31 h
  · refine lv_aload_n hx hb dX12_dairyLineHere_10 rfl (lv_at hl 0 rfl) ?_
    refine lv_iload_n hx hb dX12_dairyLineHere_11 rfl (lv_at hl 1 rfl) ?_
    refine q_Vi hx hb hml hown hts hK hP hS (c_X12_isDairyHere l D G S _ xl0 zl1 _ h.2) ⟨callB_of 1 hts (gw_good kw_1508) rfl rfl rfl (hts _ (List.mem_cons_of_mem _ kw_14)) (hts _ (List.mem_cons_of_mem _ kw_1505)) hd_X12_isDairyHere ⟨Nat.le_of_ble_eq_true rfl, Nat.le_of_ble_eq_true rfl⟩, (hts _ (List.mem_cons_of_mem _ kw_1507)), (hts _ (List.mem_cons_of_mem _ kp_60))⟩ h.1 (ci := 12) rfl (by decide) rfl hl.1 rfl (lv_room (Nat.le_of_ble_eq_true rfl)) dX12_dairyLineHere_12 ⟨Nat.zero_le _, Nat.zero_le _⟩ (fun z54 M52 H locs h hP hS => ?_)
    exact r_zret hx hb hr hlocks hP hS dX12_dairyLineHere_15 h
/-! TurningMilkModel.makes(I)Z -/
abbrev RM_X12_makes : Room := { frames := 2, cells := 0, slots := 0, locals := 62 }
def cw_X12_makes : Cond := Cond.code yX12_makes cX12_makes 2 (Option.some FieldType.boolean)
theorem hd_X12_makes : yX12_makes.cls ≠ "java/lang/invoke/MethodHandle" ∧ yX12_makes.cls ≠ "java/lang/invoke/VarHandle" ∧ (parseMethodDescriptor yX12_makes.desc).map (fun d => d.parameters.length) = some 1 := by decide +kernel
theorem dX12_makes_0 : decode cX12_makes 0 = .ok (.aload_n 0, 1) := by decide +kernel
theorem dX12_makes_1 : decode cX12_makes 1 = .ok (.getfield 145, 3) := by decide +kernel
theorem dX12_makes_4 : decode cX12_makes 4 = .ok (.bipush 60, 2) := by decide +kernel
theorem dX12_makes_6 : decode cX12_makes 6 = .ok (.if_icmp .ne 10, 3) := by decide +kernel
theorem dX12_makes_9 : decode cX12_makes 9 = .ok (.aload_n 0, 1) := by decide +kernel
theorem dX12_makes_10 : decode cX12_makes 10 = .ok (.iconst 3, 1) := by decide +kernel
theorem dX12_makes_11 : decode cX12_makes 11 = .ok (.iload_n 1, 1) := by decide +kernel
theorem dX12_makes_12 : decode cX12_makes 12 = .ok (.invokevirtual 111, 3) := by decide +kernel
theorem dX12_makes_15 : decode cX12_makes 15 = .ok (.ireturn, 1) := by decide +kernel
theorem dX12_makes_16 : decode cX12_makes 16 = .ok (.aload_n 0, 1) := by decide +kernel
theorem dX12_makes_17 : decode cX12_makes 17 = .ok (.dup, 1) := by decide +kernel
theorem dX12_makes_18 : decode cX12_makes 18 = .ok (.getfield 145, 3) := by decide +kernel
theorem dX12_makes_21 : decode cX12_makes 21 = .ok (.iconst 1, 1) := by decide +kernel
theorem dX12_makes_22 : decode cX12_makes 22 = .ok (.iadd, 1) := by decide +kernel
theorem dX12_makes_23 : decode cX12_makes 23 = .ok (.putfield 145, 3) := by decide +kernel
theorem dX12_makes_26 : decode cX12_makes 26 = .ok (.iconst 1, 1) := by decide +kernel
theorem dX12_makes_27 : decode cX12_makes 27 = .ok (.ireturn, 1) := by decide +kernel
def wp_X12_makes (S : Sh) (M : Mm) (u0 : Int) (u1 : Int) (post : Int → Mm → Prop) : Prop := wGet S M u0 12 12 fun v1 => wC 60 fun v3 => wIf (¬ v1 = v3) (wGet S M u0 12 12 fun v5 => wC 1 fun v7 => wA v5 v7 fun v9 => wPut S M u0 12 12 v9 fun M11 => wC 1 fun v12 => (v12 = 0 ∨ v12 = 1) ∧ post v12 M11) (wC 3 fun v14 => isK S u0 12 ∧ (wp_X12_fails S M u0 v14 u1 <| fun v17 M16 => (v17 = 0 ∨ v17 = 1) ∧ post v17 M16))
set_option maxHeartbeats 4000000 in
set_option maxRecDepth 100000 in
theorem c_X12_makes (l : Launch) (D : va_G) (G : Gt) (S : Sh) (M : Mm) (xl0 : Int) (zl1 : Int32) (post : Int → Mm → Prop) (h : wp_X12_makes S M xl0 zl1.toInt post) : Met l yX12_makes (cw_X12_makes :: gw) RM_X12_makes (va_Pc [.ref (adr G xl0), .int zl1] (fun U => KN D G U ∧ Wd D G S M U.heap)) (QI D G S post) 0 0 (aG G) := by
  refine Met.ofW (cc := cX12_makes) (maxL := 2) (ret := (some .boolean)) (by decide) rfl ?_
  intro p e s m args below meth c s₁ B hml hv
  obtain ⟨rfl, hK, hP⟩ := hv
  have hx := B.exec
  have hb := B.bytes
  have hr := B.returns
  have hts := atoms_spec (ws := cw_X12_makes :: gw) B.pre
  have hown : s.vm.findClass RX12 = some m.cls := findClass_of_methodNamed B.named
  have hlocks := B.notSynchronized
  have hS : va_S (aG G) s.heap s.heap [] := va_S.rf
  have C : Cx p s m ([.ref (adr G xl0), .int zl1] : List Value).toArray meth c D G cX12_makes 2 (some .boolean) (cw_X12_makes :: gw) RX12 := ⟨hx, hb, hr, hlocks, hml, hown, hts, hK⟩
  have hl := lv_entry ([.ref (adr G xl0), .int zl1]) (n := 2) (Nat.le_of_ble_eq_true rfl)
  rw [lg_entry_eq]
  generalize (lg_sl ([.ref (adr G xl0), .int zl1]) ++ List.replicate (2 - (lg_sl ([.ref (adr G xl0), .int zl1])).length) Slot.unset).toArray = ls at hl ⊢
  have hl : lv_has ls 2 [(0, .ref (adr G xl0)), (1, .int zl1)] := hl
  unfold wp_X12_makes at h
  refine lv_aload_n hx hb dX12_makes_0 rfl (lv_at hl 0 rfl) ?_
  refine r_geti (C := RX12) (T := TX12) (N := 38) hx hb hts (fun w h => List.mem_cons_of_mem _ (iX12 w h)) hown hK hP rfl (by decide) rfl 12 (by decide) (hts _ (List.mem_cons_of_mem _ kw_1346)) (fun _ h9 => h9) dX12_makes_1 (by decide) h (fun z2 h => ?_)
  refine r_bipush hx hb dX12_makes_4 (by decide) h (fun z4 h => ?_)
  refine r_icmp_ne (tgt := 16) hx hb dX12_makes_6 (by decide) h (fun h => ?_) (fun h => ?_)
  · refine lv_aload_n hx hb dX12_makes_16 rfl (lv_at hl 0 rfl) ?_
    refine lv_dup hx hb dX12_makes_17 rfl ?_
    refine r_geti (C := RX12) (T := TX12) (N := 38) hx hb hts (fun w h => List.mem_cons_of_mem _ (iX12 w h)) hown hK hP rfl (by decide) rfl 12 (by decide) (hts _ (List.mem_cons_of_mem _ kw_1346)) (fun _ h9 => h9) dX12_makes_18 (by decide) h (fun z6 h => ?_)
    refine r_iconst hx hb dX12_makes_21 (by decide) h (fun z8 h => ?_)
    refine r_iadd hx hb dX12_makes_22 h (fun z10 h => ?_)
    refine r_puti (C := RX12) (T := TX12) (N := 38) hx hb hts (fun w h => List.mem_cons_of_mem _ (iX12 w h)) hown hK hP tyX12 tyX12_ok nmX12 hS rfl (by decide) rfl 12 (by decide) (hts _ (List.mem_cons_of_mem _ kw_1346)) (fun _ h9 => h9) rfl (tyX12_ok 12 (by decide)) rfl rfl dX12_makes_23 (by decide) h (fun M11 H locs h hP hS => ?_)
    refine r_iconst hx hb dX12_makes_26 (by decide) h (fun z13 h => ?_)
    exact r_zret hx hb hr hlocks hP hS dX12_makes_27 h
  · refine lv_aload_n hx hb dX12_makes_9 rfl (lv_at hl 0 rfl) ?_
    refine r_iconst hx hb dX12_makes_10 (by decide) h (fun z15 h => ?_)
    refine lv_iload_n hx hb dX12_makes_11 rfl (lv_at hl 1 rfl) ?_
    refine q_Vi hx hb hml hown hts hK hP hS (c_X12_fails l D G S _ xl0 z15 zl1 _ h.2) ⟨callB_of 2 hts (gw_good kw_1500) rfl rfl rfl (hts _ (List.mem_cons_of_mem _ kw_14)) (hts _ (List.mem_cons_of_mem _ kw_1497)) hd_X12_fails ⟨Nat.le_of_ble_eq_true rfl, Nat.le_of_ble_eq_true rfl⟩, (hts _ (List.mem_cons_of_mem _ kw_1499)), (hts _ (List.mem_cons_of_mem _ kp_58))⟩ h.1 (ci := 12) rfl (by decide) rfl hl.1 rfl (lv_room (Nat.le_of_ble_eq_true rfl)) dX12_makes_12 ⟨Nat.zero_le _, Nat.zero_le _⟩ (fun z18 M16 H locs h hP hS => ?_)
    exact r_zret hx hb hr hlocks hP hS dX12_makes_15 h
/-! TurningMilkModel.puts(II)V -/
abbrev RM_X12_puts : Room := { frames := 1, cells := 0, slots := 0, locals := 40 }
def cw_X12_puts : Cond := Cond.code yX12_puts cX12_puts 3 (Option.none : Option FieldType)
theorem hd_X12_puts : yX12_puts.cls ≠ "java/lang/invoke/MethodHandle" ∧ yX12_puts.cls ≠ "java/lang/invoke/VarHandle" ∧ (parseMethodDescriptor yX12_puts.desc).map (fun d => d.parameters.length) = some 2 := by decide +kernel
theorem dX12_puts_0 : decode cX12_puts 0 = .ok (.aload_n 0, 1) := by decide +kernel
theorem dX12_puts_1 : decode cX12_puts 1 = .ok (.getfield 13, 3) := by decide +kernel
theorem dX12_puts_4 : decode cX12_puts 4 = .ok (.sipush 400, 3) := by decide +kernel
theorem dX12_puts_7 : decode cX12_puts 7 = .ok (.aload_n 0, 1) := by decide +kernel
theorem dX12_puts_8 : decode cX12_puts 8 = .ok (.getfield 142, 3) := by decide +kernel
theorem dX12_puts_11 : decode cX12_puts 11 = .ok (.imul, 1) := by decide +kernel
theorem dX12_puts_12 : decode cX12_puts 12 = .ok (.aload_n 0, 1) := by decide +kernel
theorem dX12_puts_13 : decode cX12_puts 13 = .ok (.getfield 17, 3) := by decide +kernel
theorem dX12_puts_16 : decode cX12_puts 16 = .ok (.aload_n 0, 1) := by decide +kernel
theorem dX12_puts_17 : decode cX12_puts 17 = .ok (.getfield 142, 3) := by decide +kernel
theorem dX12_puts_20 : decode cX12_puts 20 = .ok (.iaload, 1) := by decide +kernel
theorem dX12_puts_21 : decode cX12_puts 21 = .ok (.iadd, 1) := by decide +kernel
theorem dX12_puts_22 : decode cX12_puts 22 = .ok (.iload_n 1, 1) := by decide +kernel
theorem dX12_puts_23 : decode cX12_puts 23 = .ok (.bipush 16, 2) := by decide +kernel
theorem dX12_puts_25 : decode cX12_puts 25 = .ok (.iload_n 2, 1) := by decide +kernel
theorem dX12_puts_26 : decode cX12_puts 26 = .ok (.imul, 1) := by decide +kernel
theorem dX12_puts_27 : decode cX12_puts 27 = .ok (.iadd, 1) := by decide +kernel
theorem dX12_puts_28 : decode cX12_puts 28 = .ok (.iastore, 1) := by decide +kernel
theorem dX12_puts_29 : decode cX12_puts 29 = .ok (.aload_n 0, 1) := by decide +kernel
theorem dX12_puts_30 : decode cX12_puts 30 = .ok (.getfield 17, 3) := by decide +kernel
theorem dX12_puts_33 : decode cX12_puts 33 = .ok (.aload_n 0, 1) := by decide +kernel
theorem dX12_puts_34 : decode cX12_puts 34 = .ok (.getfield 142, 3) := by decide +kernel
theorem dX12_puts_37 : decode cX12_puts 37 = .ok (.dup2, 1) := by decide +kernel
theorem dX12_puts_38 : decode cX12_puts 38 = .ok (.iaload, 1) := by decide +kernel
theorem dX12_puts_39 : decode cX12_puts 39 = .ok (.iconst 1, 1) := by decide +kernel
theorem dX12_puts_40 : decode cX12_puts 40 = .ok (.iadd, 1) := by decide +kernel
theorem dX12_puts_41 : decode cX12_puts 41 = .ok (.iastore, 1) := by decide +kernel
theorem dX12_puts_42 : decode cX12_puts 42 = .ok (.return_, 1) := by decide +kernel
def wp_X12_puts (S : Sh) (M : Mm) (u0 : Int) (u1 : Int) (u2 : Int) (post : Mm → Prop) : Prop := wGetR S M u0 12 3 fun v1 => wC 400 fun v3 => wGet S M u0 12 11 fun v5 => wM v3 v5 fun v7 => wGetR S M u0 12 4 fun v9 => wGet S M u0 12 11 fun v11 => wLd S M v9 14 v11 fun v13 => wA v7 v13 fun v15 => wC 16 fun v17 => wM v17 u2 fun v19 => wA u1 v19 fun v21 => wSt S M v1 14 v15 v21 fun M23 => wGetR S M23 u0 12 4 fun v24 => wGet S M23 u0 12 11 fun v26 => wLd S M23 v24 14 v26 fun v28 => wC 1 fun v30 => wA v28 v30 fun v32 => wSt S M23 v24 14 v26 v32 fun M34 => post M34
set_option maxHeartbeats 4000000 in
set_option maxRecDepth 100000 in
theorem c_X12_puts (l : Launch) (D : va_G) (G : Gt) (S : Sh) (M : Mm) (xl0 : Int) (zl1 : Int32) (zl2 : Int32) (post : Mm → Prop) (h : wp_X12_puts S M xl0 zl1.toInt zl2.toInt post) : Met l yX12_puts (cw_X12_puts :: gw) RM_X12_puts (va_Pc [.ref (adr G xl0), .int zl1, .int zl2] (fun U => KN D G U ∧ Wd D G S M U.heap)) (QV D G S post) 0 0 (aG G) := by
  refine Met.ofW (cc := cX12_puts) (maxL := 3) (ret := none) (by decide) rfl ?_
  intro p e s m args below meth c s₁ B hml hv
  obtain ⟨rfl, hK, hP⟩ := hv
  have hx := B.exec
  have hb := B.bytes
  have hr := B.returns
  have hts := atoms_spec (ws := cw_X12_puts :: gw) B.pre
  have hown : s.vm.findClass RX12 = some m.cls := findClass_of_methodNamed B.named
  have hlocks := B.notSynchronized
  have hS : va_S (aG G) s.heap s.heap [] := va_S.rf
  have C : Cx p s m ([.ref (adr G xl0), .int zl1, .int zl2] : List Value).toArray meth c D G cX12_puts 3 none (cw_X12_puts :: gw) RX12 := ⟨hx, hb, hr, hlocks, hml, hown, hts, hK⟩
  have hl := lv_entry ([.ref (adr G xl0), .int zl1, .int zl2]) (n := 3) (Nat.le_of_ble_eq_true rfl)
  rw [lg_entry_eq]
  generalize (lg_sl ([.ref (adr G xl0), .int zl1, .int zl2]) ++ List.replicate (3 - (lg_sl ([.ref (adr G xl0), .int zl1, .int zl2])).length) Slot.unset).toArray = ls at hl ⊢
  have hl : lv_has ls 3 [(0, .ref (adr G xl0)), (1, .int zl1), (2, .int zl2)] := hl
  unfold wp_X12_puts at h
  refine lv_aload_n hx hb dX12_puts_0 rfl (lv_at hl 0 rfl) ?_
  refine r_getr (C := RX12) (T := TX12) (N := 38) hx hb hts (fun w h => List.mem_cons_of_mem _ (iX12 w h)) hown hK hP rfl (by decide) rfl 3 (by decide) (hts _ (List.mem_cons_of_mem _ kw_1337)) (fun _ h9 => h9) dX12_puts_1 (by decide) h (fun x2 h => ?_)
  refine r_sipush hx hb dX12_puts_4 (by decide) h (fun z4 h => ?_)
  refine lv_aload_n hx hb dX12_puts_7 rfl (lv_at hl 0 rfl) ?_
  refine r_geti (C := RX12) (T := TX12) (N := 38) hx hb hts (fun w h => List.mem_cons_of_mem _ (iX12 w h)) hown hK hP rfl (by decide) rfl 11 (by decide) (hts _ (List.mem_cons_of_mem _ kw_1345)) (fun _ h9 => h9) dX12_puts_8 (by decide) h (fun z6 h => ?_)
  refine r_imul hx hb dX12_puts_11 h (fun z8 h => ?_)
  refine lv_aload_n hx hb dX12_puts_12 rfl (lv_at hl 0 rfl) ?_
  refine r_getr (C := RX12) (T := TX12) (N := 38) hx hb hts (fun w h => List.mem_cons_of_mem _ (iX12 w h)) hown hK hP rfl (by decide) rfl 4 (by decide) (hts _ (List.mem_cons_of_mem _ kw_1338)) (fun _ h9 => h9) dX12_puts_13 (by decide) h (fun x10 h => ?_)
  refine lv_aload_n hx hb dX12_puts_16 rfl (lv_at hl 0 rfl) ?_
  refine r_geti (C := RX12) (T := TX12) (N := 38) hx hb hts (fun w h => List.mem_cons_of_mem _ (iX12 w h)) hown hK hP rfl (by decide) rfl 11 (by decide) (hts _ (List.mem_cons_of_mem _ kw_1345)) (fun _ h9 => h9) dX12_puts_17 (by decide) h (fun z12 h => ?_)
  refine r_iald hx hb hK hP dX12_puts_20 h (fun z14 h => ?_)
  refine r_iadd hx hb dX12_puts_21 h (fun z16 h => ?_)
  refine lv_iload_n hx hb dX12_puts_22 rfl (lv_at hl 1 rfl) ?_
  refine r_bipush hx hb dX12_puts_23 (by decide) h (fun z18 h => ?_)
  refine lv_iload_n hx hb dX12_puts_25 rfl (lv_at hl 2 rfl) ?_
  refine r_imul hx hb dX12_puts_26 h (fun z20 h => ?_)
  refine r_iadd hx hb dX12_puts_27 h (fun z22 h => ?_)
  refine r_iast hx hb hK hP hS dX12_puts_28 h (fun M23 H locs h hP hS => ?_)
  refine lv_aload_n hx hb dX12_puts_29 rfl (lv_at hl 0 rfl) ?_
  refine r_getr (C := RX12) (T := TX12) (N := 38) hx hb hts (fun w h => List.mem_cons_of_mem _ (iX12 w h)) hown hK hP rfl (by decide) rfl 4 (by decide) (hts _ (List.mem_cons_of_mem _ kw_1338)) (fun _ h9 => h9) dX12_puts_30 (by decide) h (fun x25 h => ?_)
  refine lv_aload_n hx hb dX12_puts_33 rfl (lv_at hl 0 rfl) ?_
  refine r_geti (C := RX12) (T := TX12) (N := 38) hx hb hts (fun w h => List.mem_cons_of_mem _ (iX12 w h)) hown hK hP rfl (by decide) rfl 11 (by decide) (hts _ (List.mem_cons_of_mem _ kw_1345)) (fun _ h9 => h9) dX12_puts_34 (by decide) h (fun z27 h => ?_)
  refine lv_dup2_11 hx hb dX12_puts_37 rfl rfl ?_
  refine r_iald hx hb hK hP dX12_puts_38 h (fun z29 h => ?_)
  refine r_iconst hx hb dX12_puts_39 (by decide) h (fun z31 h => ?_)
  refine r_iadd hx hb dX12_puts_40 h (fun z33 h => ?_)
  refine r_iast hx hb hK hP hS dX12_puts_41 h (fun M34 H locs h hP hS => ?_)
  exact r_vret hx hb hr hlocks hP hS dX12_puts_42 h
/-! TurningMilkModel.wordHere()I -/
abbrev RM_X12_wordHere : Room := { frames := 3, cells := 0, slots := 0, locals := 86 }
def cw_X12_wordHere : Cond := Cond.code yX12_wordHere cX12_wordHere 1 (Option.some FieldType.int)
theorem hd_X12_wordHere : yX12_wordHere.cls ≠ "java/lang/invoke/MethodHandle" ∧ yX12_wordHere.cls ≠ "java/lang/invoke/VarHandle" ∧ (parseMethodDescriptor yX12_wordHere.desc).map (fun d => d.parameters.length) = some 0 := by decide +kernel
theorem dX12_wordHere_0 : decode cX12_wordHere 0 = .ok (.aload_n 0, 1) := by decide +kernel
theorem dX12_wordHere_1 : decode cX12_wordHere 1 = .ok (.ldc2_w 122, 3) := by decide +kernel
theorem dX12_wordHere_4 : decode cX12_wordHere 4 = .ok (.invokevirtual 101, 3) := by decide +kernel
theorem dX12_wordHere_7 : decode cX12_wordHere 7 = .ok (.ifCond .eq 5, 3) := by decide +kernel
theorem dX12_wordHere_10 : decode cX12_wordHere 10 = .ok (.iconst 0, 1) := by decide +kernel
theorem dX12_wordHere_11 : decode cX12_wordHere 11 = .ok (.ireturn, 1) := by decide +kernel
theorem dX12_wordHere_12 : decode cX12_wordHere 12 = .ok (.aload_n 0, 1) := by decide +kernel
theorem dX12_wordHere_13 : decode cX12_wordHere 13 = .ok (.ldc2_w 124, 3) := by decide +kernel
theorem dX12_wordHere_16 : decode cX12_wordHere 16 = .ok (.invokevirtual 101, 3) := by decide +kernel
theorem dX12_wordHere_19 : decode cX12_wordHere 19 = .ok (.ifCond .eq 5, 3) := by decide +kernel
theorem dX12_wordHere_22 : decode cX12_wordHere 22 = .ok (.iconst 1, 1) := by decide +kernel
theorem dX12_wordHere_23 : decode cX12_wordHere 23 = .ok (.ireturn, 1) := by decide +kernel
theorem dX12_wordHere_24 : decode cX12_wordHere 24 = .ok (.aload_n 0, 1) := by decide +kernel
theorem dX12_wordHere_25 : decode cX12_wordHere 25 = .ok (.ldc2_w 126, 3) := by decide +kernel
theorem dX12_wordHere_28 : decode cX12_wordHere 28 = .ok (.invokevirtual 101, 3) := by decide +kernel
theorem dX12_wordHere_31 : decode cX12_wordHere 31 = .ok (.ifCond .eq 5, 3) := by decide +kernel
theorem dX12_wordHere_34 : decode cX12_wordHere 34 = .ok (.iconst 2, 1) := by decide +kernel
theorem dX12_wordHere_35 : decode cX12_wordHere 35 = .ok (.ireturn, 1) := by decide +kernel
theorem dX12_wordHere_36 : decode cX12_wordHere 36 = .ok (.aload_n 0, 1) := by decide +kernel
theorem dX12_wordHere_37 : decode cX12_wordHere 37 = .ok (.ldc2_w 128, 3) := by decide +kernel
theorem dX12_wordHere_40 : decode cX12_wordHere 40 = .ok (.invokevirtual 101, 3) := by decide +kernel
theorem dX12_wordHere_43 : decode cX12_wordHere 43 = .ok (.ifCond .eq 5, 3) := by decide +kernel
theorem dX12_wordHere_46 : decode cX12_wordHere 46 = .ok (.iconst 3, 1) := by decide +kernel
theorem dX12_wordHere_47 : decode cX12_wordHere 47 = .ok (.ireturn, 1) := by decide +kernel
theorem dX12_wordHere_48 : decode cX12_wordHere 48 = .ok (.aload_n 0, 1) := by decide +kernel
theorem dX12_wordHere_49 : decode cX12_wordHere 49 = .ok (.ldc2_w 130, 3) := by decide +kernel
theorem dX12_wordHere_52 : decode cX12_wordHere 52 = .ok (.invokevirtual 101, 3) := by decide +kernel
theorem dX12_wordHere_55 : decode cX12_wordHere 55 = .ok (.ifCond .eq 5, 3) := by decide +kernel
theorem dX12_wordHere_58 : decode cX12_wordHere 58 = .ok (.iconst 4, 1) := by decide +kernel
theorem dX12_wordHere_59 : decode cX12_wordHere 59 = .ok (.ireturn, 1) := by decide +kernel
theorem dX12_wordHere_60 : decode cX12_wordHere 60 = .ok (.aload_n 0, 1) := by decide +kernel
theorem dX12_wordHere_61 : decode cX12_wordHere 61 = .ok (.ldc2_w 132, 3) := by decide +kernel
theorem dX12_wordHere_64 : decode cX12_wordHere 64 = .ok (.invokevirtual 101, 3) := by decide +kernel
theorem dX12_wordHere_67 : decode cX12_wordHere 67 = .ok (.ifCond .eq 5, 3) := by decide +kernel
theorem dX12_wordHere_70 : decode cX12_wordHere 70 = .ok (.iconst 5, 1) := by decide +kernel
theorem dX12_wordHere_71 : decode cX12_wordHere 71 = .ok (.ireturn, 1) := by decide +kernel
theorem dX12_wordHere_72 : decode cX12_wordHere 72 = .ok (.aload_n 0, 1) := by decide +kernel
theorem dX12_wordHere_73 : decode cX12_wordHere 73 = .ok (.ldc2_w 134, 3) := by decide +kernel
theorem dX12_wordHere_76 : decode cX12_wordHere 76 = .ok (.invokevirtual 101, 3) := by decide +kernel
theorem dX12_wordHere_79 : decode cX12_wordHere 79 = .ok (.ifCond .eq 6, 3) := by decide +kernel
theorem dX12_wordHere_82 : decode cX12_wordHere 82 = .ok (.bipush 6, 2) := by decide +kernel
theorem dX12_wordHere_84 : decode cX12_wordHere 84 = .ok (.ireturn, 1) := by decide +kernel
theorem dX12_wordHere_85 : decode cX12_wordHere 85 = .ok (.aload_n 0, 1) := by decide +kernel
theorem dX12_wordHere_86 : decode cX12_wordHere 86 = .ok (.ldc2_w 136, 3) := by decide +kernel
theorem dX12_wordHere_89 : decode cX12_wordHere 89 = .ok (.invokevirtual 101, 3) := by decide +kernel
theorem dX12_wordHere_92 : decode cX12_wordHere 92 = .ok (.ifCond .eq 6, 3) := by decide +kernel
theorem dX12_wordHere_95 : decode cX12_wordHere 95 = .ok (.bipush 7, 2) := by decide +kernel
theorem dX12_wordHere_97 : decode cX12_wordHere 97 = .ok (.ireturn, 1) := by decide +kernel
theorem dX12_wordHere_98 : decode cX12_wordHere 98 = .ok (.aload_n 0, 1) := by decide +kernel
theorem dX12_wordHere_99 : decode cX12_wordHere 99 = .ok (.ldc2_w 138, 3) := by decide +kernel
theorem dX12_wordHere_102 : decode cX12_wordHere 102 = .ok (.invokevirtual 101, 3) := by decide +kernel
theorem dX12_wordHere_105 : decode cX12_wordHere 105 = .ok (.ifCond .eq 8, 3) := by decide +kernel
theorem dX12_wordHere_108 : decode cX12_wordHere 108 = .ok (.bipush 8, 2) := by decide +kernel
theorem dX12_wordHere_110 : decode cX12_wordHere 110 = .ok (.goto 19, 3) := by decide +kernel
theorem dX12_wordHere_113 : decode cX12_wordHere 113 = .ok (.aload_n 0, 1) := by decide +kernel
theorem dX12_wordHere_114 : decode cX12_wordHere 114 = .ok (.ldc2_w 140, 3) := by decide +kernel
theorem dX12_wordHere_117 : decode cX12_wordHere 117 = .ok (.invokevirtual 101, 3) := by decide +kernel
theorem dX12_wordHere_120 : decode cX12_wordHere 120 = .ok (.ifCond .eq 8, 3) := by decide +kernel
theorem dX12_wordHere_123 : decode cX12_wordHere 123 = .ok (.bipush 9, 2) := by decide +kernel
theorem dX12_wordHere_125 : decode cX12_wordHere 125 = .ok (.goto 4, 3) := by decide +kernel
theorem dX12_wordHere_128 : decode cX12_wordHere 128 = .ok (.iconst (-1), 1) := by decide +kernel
theorem dX12_wordHere_129 : decode cX12_wordHere 129 = .ok (.ireturn, 1) := by decide +kernel
def wp_X12_wordHere (S : Sh) (M : Mm) (u0 : Int) (post : Int → Mm → Prop) : Prop := wC 1751215716 fun v1 => isK S u0 12 ∧ (wp_X12_isWord S M u0 v1 <| fun v4 M3 => wIf (v4 = 0) (wC 495806932324 fun v6 => isK S u0 12 ∧ (wp_X12_isWord S M3 u0 v6 <| fun v9 M8 => wIf (v9 = 0) (wC 499985311076 fun v11 => isK S u0 12 ∧ (wp_X12_isWord S M8 u0 v11 <| fun v14 M13 => wIf (v14 = 0) (wC 6976871 fun v16 => isK S u0 12 ∧ (wp_X12_isWord S M13 u0 v16 <| fun v19 M18 => wIf (v19 = 0) (wC 128047779833188 fun v21 => isK S u0 12 ∧ (wp_X12_isWord S M18 u0 v21 <| fun v24 M23 => wIf (v24 = 0) (wC 1751474548 fun v26 => isK S u0 12 ∧ (wp_X12_isWord S M23 u0 v26 <| fun v29 M28 => wIf (v29 = 0) (wC 1752135026 fun v31 => isK S u0 12 ∧ (wp_X12_isWord S M28 u0 v31 <| fun v34 M33 => wIf (v34 = 0) (wC 1919902052 fun v36 => isK S u0 12 ∧ (wp_X12_isWord S M33 u0 v36 <| fun v39 M38 => wIf (v39 = 0) (wC 1751477348 fun v41 => isK S u0 12 ∧ (wp_X12_isWord S M38 u0 v41 <| fun v44 M43 => wIf (v44 = 0) (wC 1936684402 fun v46 => isK S u0 12 ∧ (wp_X12_isWord S M43 u0 v46 <| fun v49 M48 => wIf (v49 = 0) (wC (-1) fun v51 => post v51 M48) (wC 9 fun v53 => post v53 M48))) (wC 8 fun v55 => post v55 M43))) (wC 7 fun v57 => post v57 M38))) (wC 6 fun v59 => post v59 M33))) (wC 5 fun v61 => post v61 M28))) (wC 4 fun v63 => post v63 M23))) (wC 3 fun v65 => post v65 M18))) (wC 2 fun v67 => post v67 M13))) (wC 1 fun v69 => post v69 M8))) (wC 0 fun v71 => post v71 M3))
set_option maxHeartbeats 4000000 in
set_option maxRecDepth 100000 in
theorem c_X12_wordHere (l : Launch) (D : va_G) (G : Gt) (S : Sh) (M : Mm) (xl0 : Int) (post : Int → Mm → Prop) (h : wp_X12_wordHere S M xl0 post) : Met l yX12_wordHere (cw_X12_wordHere :: gw) RM_X12_wordHere (va_Pc [.ref (adr G xl0)] (fun U => KN D G U ∧ Wd D G S M U.heap)) (QI D G S post) 0 0 (aG G) := by
  refine Met.ofW (cc := cX12_wordHere) (maxL := 1) (ret := (some .int)) (by decide) rfl ?_
  intro p e s m args below meth c s₁ B hml hv
  obtain ⟨rfl, hK, hP⟩ := hv
  have hx := B.exec
  have hb := B.bytes
  have hr := B.returns
  have hts := atoms_spec (ws := cw_X12_wordHere :: gw) B.pre
  have hown : s.vm.findClass RX12 = some m.cls := findClass_of_methodNamed B.named
  have hlocks := B.notSynchronized
  have hS : va_S (aG G) s.heap s.heap [] := va_S.rf
  have C : Cx p s m ([.ref (adr G xl0)] : List Value).toArray meth c D G cX12_wordHere 1 (some .int) (cw_X12_wordHere :: gw) RX12 := ⟨hx, hb, hr, hlocks, hml, hown, hts, hK⟩
  have hl := lv_entry ([.ref (adr G xl0)]) (n := 1) (Nat.le_of_ble_eq_true rfl)
  rw [lg_entry_eq]
  generalize (lg_sl ([.ref (adr G xl0)]) ++ List.replicate (1 - (lg_sl ([.ref (adr G xl0)])).length) Slot.unset).toArray = ls at hl ⊢
  have hl : lv_has ls 1 [(0, .ref (adr G xl0))] := hl
  unfold wp_X12_wordHere at h
  refine lv_aload_n hx hb dX12_wordHere_0 rfl (lv_at hl 0 rfl) ?_
  refine r_ldc2 hx hb hown (hts _ (List.mem_cons_of_mem _ kw_1492)) dX12_wordHere_1 (n := 1751215716) (by decide) h (fun z2 h => ?_)
  refine q_Vi hx hb hml hown hts hK hP hS (c_X12_isWord l D G S _ xl0 z2 _ h.2) ⟨callB_of 1 hts (gw_good kw_1486) rfl rfl rfl (hts _ (List.mem_cons_of_mem _ kw_14)) (hts _ (List.mem_cons_of_mem _ kw_1483)) hd_X12_isWord ⟨Nat.le_of_ble_eq_true rfl, Nat.le_of_ble_eq_true rfl⟩, (hts _ (List.mem_cons_of_mem _ kw_1485)), (hts _ (List.mem_cons_of_mem _ kp_56))⟩ h.1 (ci := 12) rfl (by decide) rfl hl.1 rfl (lv_room (Nat.le_of_ble_eq_true rfl)) dX12_wordHere_4 ⟨Nat.zero_le _, Nat.zero_le _⟩ (fun z5 M3 H locs h hP hS => ?_)
  refine r_if_eq (tgt := 12) hx hb dX12_wordHere_7 (by decide) h (fun h => ?_) (fun h => ?_)
  · refine lv_aload_n hx hb dX12_wordHere_12 rfl (lv_at hl 0 rfl) ?_
    refine r_ldc2 hx hb hown (hts _ (List.mem_cons_of_mem _ kw_1581)) dX12_wordHere_13 (n := 495806932324) (by decide) h (fun z7 h => ?_)
    refine q_Vi hx hb hml hown hts hK hP hS (c_X12_isWord l D G S _ xl0 z7 _ h.2) ⟨callB_of 1 hts (gw_good kw_1486) rfl rfl rfl (hts _ (List.mem_cons_of_mem _ kw_14)) (hts _ (List.mem_cons_of_mem _ kw_1483)) hd_X12_isWord ⟨Nat.le_of_ble_eq_true rfl, Nat.le_of_ble_eq_true rfl⟩, (hts _ (List.mem_cons_of_mem _ kw_1485)), (hts _ (List.mem_cons_of_mem _ kp_56))⟩ h.1 (ci := 12) rfl (by decide) rfl hl.1 rfl (lv_room (Nat.le_of_ble_eq_true rfl)) dX12_wordHere_16 ⟨Nat.zero_le _, Nat.zero_le _⟩ (fun z10 M8 H locs h hP hS => ?_)
    refine r_if_eq (tgt := 24) hx hb dX12_wordHere_19 (by decide) h (fun h => ?_) (fun h => ?_)
    · refine lv_aload_n hx hb dX12_wordHere_24 rfl (lv_at hl 0 rfl) ?_
      refine r_ldc2 hx hb hown (hts _ (List.mem_cons_of_mem _ kw_1582)) dX12_wordHere_25 (n := 499985311076) (by decide) h (fun z12 h => ?_)
      refine q_Vi hx hb hml hown hts hK hP hS (c_X12_isWord l D G S _ xl0 z12 _ h.2) ⟨callB_of 1 hts (gw_good kw_1486) rfl rfl rfl (hts _ (List.mem_cons_of_mem _ kw_14)) (hts _ (List.mem_cons_of_mem _ kw_1483)) hd_X12_isWord ⟨Nat.le_of_ble_eq_true rfl, Nat.le_of_ble_eq_true rfl⟩, (hts _ (List.mem_cons_of_mem _ kw_1485)), (hts _ (List.mem_cons_of_mem _ kp_56))⟩ h.1 (ci := 12) rfl (by decide) rfl hl.1 rfl (lv_room (Nat.le_of_ble_eq_true rfl)) dX12_wordHere_28 ⟨Nat.zero_le _, Nat.zero_le _⟩ (fun z15 M13 H locs h hP hS => ?_)
      refine r_if_eq (tgt := 36) hx hb dX12_wordHere_31 (by decide) h (fun h => ?_) (fun h => ?_)
      · refine lv_aload_n hx hb dX12_wordHere_36 rfl (lv_at hl 0 rfl) ?_
        refine r_ldc2 hx hb hown (hts _ (List.mem_cons_of_mem _ kw_1493)) dX12_wordHere_37 (n := 6976871) (by decide) h (fun z17 h => ?_)
        refine q_Vi hx hb hml hown hts hK hP hS (c_X12_isWord l D G S _ xl0 z17 _ h.2) ⟨callB_of 1 hts (gw_good kw_1486) rfl rfl rfl (hts _ (List.mem_cons_of_mem _ kw_14)) (hts _ (List.mem_cons_of_mem _ kw_1483)) hd_X12_isWord ⟨Nat.le_of_ble_eq_true rfl, Nat.le_of_ble_eq_true rfl⟩, (hts _ (List.mem_cons_of_mem _ kw_1485)), (hts _ (List.mem_cons_of_mem _ kp_56))⟩ h.1 (ci := 12) rfl (by decide) rfl hl.1 rfl (lv_room (Nat.le_of_ble_eq_true rfl)) dX12_wordHere_40 ⟨Nat.zero_le _, Nat.zero_le _⟩ (fun z20 M18 H locs h hP hS => ?_)
        refine r_if_eq (tgt := 48) hx hb dX12_wordHere_43 (by decide) h (fun h => ?_) (fun h => ?_)
        · refine lv_aload_n hx hb dX12_wordHere_48 rfl (lv_at hl 0 rfl) ?_
          refine r_ldc2 hx hb hown (hts _ (List.mem_cons_of_mem _ kw_1583)) dX12_wordHere_49 (n := 128047779833188) (by decide) h (fun z22 h => ?_)
          refine q_Vi hx hb hml hown hts hK hP hS (c_X12_isWord l D G S _ xl0 z22 _ h.2) ⟨callB_of 1 hts (gw_good kw_1486) rfl rfl rfl (hts _ (List.mem_cons_of_mem _ kw_14)) (hts _ (List.mem_cons_of_mem _ kw_1483)) hd_X12_isWord ⟨Nat.le_of_ble_eq_true rfl, Nat.le_of_ble_eq_true rfl⟩, (hts _ (List.mem_cons_of_mem _ kw_1485)), (hts _ (List.mem_cons_of_mem _ kp_56))⟩ h.1 (ci := 12) rfl (by decide) rfl hl.1 rfl (lv_room (Nat.le_of_ble_eq_true rfl)) dX12_wordHere_52 ⟨Nat.zero_le _, Nat.zero_le _⟩ (fun z25 M23 H locs h hP hS => ?_)
          refine r_if_eq (tgt := 60) hx hb dX12_wordHere_55 (by decide) h (fun h => ?_) (fun h => ?_)
          · refine lv_aload_n hx hb dX12_wordHere_60 rfl (lv_at hl 0 rfl) ?_
            refine r_ldc2 hx hb hown (hts _ (List.mem_cons_of_mem _ kw_1494)) dX12_wordHere_61 (n := 1751474548) (by decide) h (fun z27 h => ?_)
            refine q_Vi hx hb hml hown hts hK hP hS (c_X12_isWord l D G S _ xl0 z27 _ h.2) ⟨callB_of 1 hts (gw_good kw_1486) rfl rfl rfl (hts _ (List.mem_cons_of_mem _ kw_14)) (hts _ (List.mem_cons_of_mem _ kw_1483)) hd_X12_isWord ⟨Nat.le_of_ble_eq_true rfl, Nat.le_of_ble_eq_true rfl⟩, (hts _ (List.mem_cons_of_mem _ kw_1485)), (hts _ (List.mem_cons_of_mem _ kp_56))⟩ h.1 (ci := 12) rfl (by decide) rfl hl.1 rfl (lv_room (Nat.le_of_ble_eq_true rfl)) dX12_wordHere_64 ⟨Nat.zero_le _, Nat.zero_le _⟩ (fun z30 M28 H locs h hP hS => ?_)
            refine r_if_eq (tgt := 72) hx hb dX12_wordHere_67 (by decide) h (fun h => ?_) (fun h => ?_)
            · refine lv_aload_n hx hb dX12_wordHere_72 rfl (lv_at hl 0 rfl) ?_
              refine r_ldc2 hx hb hown (hts _ (List.mem_cons_of_mem _ kw_1584)) dX12_wordHere_73 (n := 1752135026) (by decide) h (fun z32 h => ?_)
              refine q_Vi hx hb hml hown hts hK hP hS (c_X12_isWord l D G S _ xl0 z32 _ h.2) ⟨callB_of 1 hts (gw_good kw_1486) rfl rfl rfl (hts _ (List.mem_cons_of_mem _ kw_14)) (hts _ (List.mem_cons_of_mem _ kw_1483)) hd_X12_isWord ⟨Nat.le_of_ble_eq_true rfl, Nat.le_of_ble_eq_true rfl⟩, (hts _ (List.mem_cons_of_mem _ kw_1485)), (hts _ (List.mem_cons_of_mem _ kp_56))⟩ h.1 (ci := 12) rfl (by decide) rfl hl.1 rfl (lv_room (Nat.le_of_ble_eq_true rfl)) dX12_wordHere_76 ⟨Nat.zero_le _, Nat.zero_le _⟩ (fun z35 M33 H locs h hP hS => ?_)
              refine r_if_eq (tgt := 85) hx hb dX12_wordHere_79 (by decide) h (fun h => ?_) (fun h => ?_)
              · refine lv_aload_n hx hb dX12_wordHere_85 rfl (lv_at hl 0 rfl) ?_
                refine r_ldc2 hx hb hown (hts _ (List.mem_cons_of_mem _ kw_1491)) dX12_wordHere_86 (n := 1919902052) (by decide) h (fun z37 h => ?_)
                refine q_Vi hx hb hml hown hts hK hP hS (c_X12_isWord l D G S _ xl0 z37 _ h.2) ⟨callB_of 1 hts (gw_good kw_1486) rfl rfl rfl (hts _ (List.mem_cons_of_mem _ kw_14)) (hts _ (List.mem_cons_of_mem _ kw_1483)) hd_X12_isWord ⟨Nat.le_of_ble_eq_true rfl, Nat.le_of_ble_eq_true rfl⟩, (hts _ (List.mem_cons_of_mem _ kw_1485)), (hts _ (List.mem_cons_of_mem _ kp_56))⟩ h.1 (ci := 12) rfl (by decide) rfl hl.1 rfl (lv_room (Nat.le_of_ble_eq_true rfl)) dX12_wordHere_89 ⟨Nat.zero_le _, Nat.zero_le _⟩ (fun z40 M38 H locs h hP hS => ?_)
                refine r_if_eq (tgt := 98) hx hb dX12_wordHere_92 (by decide) h (fun h => ?_) (fun h => ?_)
                · refine lv_aload_n hx hb dX12_wordHere_98 rfl (lv_at hl 0 rfl) ?_
                  refine r_ldc2 hx hb hown (hts _ (List.mem_cons_of_mem _ kw_1585)) dX12_wordHere_99 (n := 1751477348) (by decide) h (fun z42 h => ?_)
                  refine q_Vi hx hb hml hown hts hK hP hS (c_X12_isWord l D G S _ xl0 z42 _ h.2) ⟨callB_of 1 hts (gw_good kw_1486) rfl rfl rfl (hts _ (List.mem_cons_of_mem _ kw_14)) (hts _ (List.mem_cons_of_mem _ kw_1483)) hd_X12_isWord ⟨Nat.le_of_ble_eq_true rfl, Nat.le_of_ble_eq_true rfl⟩, (hts _ (List.mem_cons_of_mem _ kw_1485)), (hts _ (List.mem_cons_of_mem _ kp_56))⟩ h.1 (ci := 12) rfl (by decide) rfl hl.1 rfl (lv_room (Nat.le_of_ble_eq_true rfl)) dX12_wordHere_102 ⟨Nat.zero_le _, Nat.zero_le _⟩ (fun z45 M43 H locs h hP hS => ?_)
                  refine r_if_eq (tgt := 113) hx hb dX12_wordHere_105 (by decide) h (fun h => ?_) (fun h => ?_)
                  · refine lv_aload_n hx hb dX12_wordHere_113 rfl (lv_at hl 0 rfl) ?_
                    refine r_ldc2 hx hb hown (hts _ (List.mem_cons_of_mem _ kw_1586)) dX12_wordHere_114 (n := 1936684402) (by decide) h (fun z47 h => ?_)
                    refine q_Vi hx hb hml hown hts hK hP hS (c_X12_isWord l D G S _ xl0 z47 _ h.2) ⟨callB_of 1 hts (gw_good kw_1486) rfl rfl rfl (hts _ (List.mem_cons_of_mem _ kw_14)) (hts _ (List.mem_cons_of_mem _ kw_1483)) hd_X12_isWord ⟨Nat.le_of_ble_eq_true rfl, Nat.le_of_ble_eq_true rfl⟩, (hts _ (List.mem_cons_of_mem _ kw_1485)), (hts _ (List.mem_cons_of_mem _ kp_56))⟩ h.1 (ci := 12) rfl (by decide) rfl hl.1 rfl (lv_room (Nat.le_of_ble_eq_true rfl)) dX12_wordHere_117 ⟨Nat.zero_le _, Nat.zero_le _⟩ (fun z50 M48 H locs h hP hS => ?_)
                    refine r_if_eq (tgt := 128) hx hb dX12_wordHere_120 (by decide) h (fun h => ?_) (fun h => ?_)
                    · refine r_iconst hx hb dX12_wordHere_128 (by decide) h (fun z52 h => ?_)
                      exact r_iret hx hb hr hlocks hP hS dX12_wordHere_129 h
                    · refine r_bipush hx hb dX12_wordHere_123 (by decide) h (fun z54 h => ?_)
                      refine lv_goto (tgt := 129) hx hb dX12_wordHere_125 (by decide) ?_
                      exact r_iret hx hb hr hlocks hP hS dX12_wordHere_129 h
                  · refine r_bipush hx hb dX12_wordHere_108 (by decide) h (fun z56 h => ?_)
                    refine lv_goto (tgt := 129) hx hb dX12_wordHere_110 (by decide) ?_
                    exact r_iret hx hb hr hlocks hP hS dX12_wordHere_129 h
                · refine r_bipush hx hb dX12_wordHere_95 (by decide) h (fun z58 h => ?_)
                  exact r_iret hx hb hr hlocks hP hS dX12_wordHere_97 h
              · refine r_bipush hx hb dX12_wordHere_82 (by decide) h (fun z60 h => ?_)
                exact r_iret hx hb hr hlocks hP hS dX12_wordHere_84 h
            · refine r_iconst hx hb dX12_wordHere_70 (by decide) h (fun z62 h => ?_)
              exact r_iret hx hb hr hlocks hP hS dX12_wordHere_71 h
          · refine r_iconst hx hb dX12_wordHere_58 (by decide) h (fun z64 h => ?_)
            exact r_iret hx hb hr hlocks hP hS dX12_wordHere_59 h
        · refine r_iconst hx hb dX12_wordHere_46 (by decide) h (fun z66 h => ?_)
          exact r_iret hx hb hr hlocks hP hS dX12_wordHere_47 h
      · refine r_iconst hx hb dX12_wordHere_34 (by decide) h (fun z68 h => ?_)
        exact r_iret hx hb hr hlocks hP hS dX12_wordHere_35 h
    · refine r_iconst hx hb dX12_wordHere_22 (by decide) h (fun z70 h => ?_)
      exact r_iret hx hb hr hlocks hP hS dX12_wordHere_23 h
  · refine r_iconst hx hb dX12_wordHere_10 (by decide) h (fun z72 h => ?_)
    exact r_iret hx hb hr hlocks hP hS dX12_wordHere_11 h
/-! TurningMilkModel.value()Z -/
abbrev RM_X12_value : Room := { frames := 4, cells := 0, slots := 0, locals := 106 }
def cw_X12_value : Cond := Cond.code yX12_value cX12_value 3 (Option.some FieldType.boolean)
theorem hd_X12_value : yX12_value.cls ≠ "java/lang/invoke/MethodHandle" ∧ yX12_value.cls ≠ "java/lang/invoke/VarHandle" ∧ (parseMethodDescriptor yX12_value.desc).map (fun d => d.parameters.length) = some 0 := by decide +kernel
theorem dX12_value_0 : decode cX12_value 0 = .ok (.aload_n 0, 1) := by decide +kernel
theorem dX12_value_1 : decode cX12_value 1 = .ok (.invokevirtual 93, 3) := by decide +kernel
theorem dX12_value_4 : decode cX12_value 4 = .ok (.pop, 1) := by decide +kernel
theorem dX12_value_5 : decode cX12_value 5 = .ok (.aload_n 0, 1) := by decide +kernel
theorem dX12_value_6 : decode cX12_value 6 = .ok (.getfield 90, 3) := by decide +kernel
theorem dX12_value_9 : decode cX12_value 9 = .ok (.istore_n 1, 1) := by decide +kernel
theorem dX12_value_10 : decode cX12_value 10 = .ok (.aload_n 0, 1) := by decide +kernel
theorem dX12_value_11 : decode cX12_value 11 = .ok (.aload_n 0, 1) := by decide +kernel
theorem dX12_value_12 : decode cX12_value 12 = .ok (.getfield 90, 3) := by decide +kernel
theorem dX12_value_15 : decode cX12_value 15 = .ok (.invokevirtual 108, 3) := by decide +kernel
theorem dX12_value_18 : decode cX12_value 18 = .ok (.ifCond .eq 34, 3) := by decide +kernel
theorem dX12_value_21 : decode cX12_value 21 = .ok (.aload_n 0, 1) := by decide +kernel
theorem dX12_value_22 : decode cX12_value 22 = .ok (.iconst 0, 1) := by decide +kernel
theorem dX12_value_23 : decode cX12_value 23 = .ok (.ldc 162, 2) := by decide +kernel
theorem dX12_value_25 : decode cX12_value 25 = .ok (.invokevirtual 163, 3) := by decide +kernel
theorem dX12_value_28 : decode cX12_value 28 = .ok (.ifCond .eq 11, 3) := by decide +kernel
theorem dX12_value_31 : decode cX12_value 31 = .ok (.aload_n 0, 1) := by decide +kernel
theorem dX12_value_32 : decode cX12_value 32 = .ok (.iload_n 1, 1) := by decide +kernel
theorem dX12_value_33 : decode cX12_value 33 = .ok (.invokevirtual 166, 3) := by decide +kernel
theorem dX12_value_36 : decode cX12_value 36 = .ok (.ifCond .ne 5, 3) := by decide +kernel
theorem dX12_value_39 : decode cX12_value 39 = .ok (.iconst 0, 1) := by decide +kernel
theorem dX12_value_40 : decode cX12_value 40 = .ok (.ireturn, 1) := by decide +kernel
theorem dX12_value_41 : decode cX12_value 41 = .ok (.aload_n 0, 1) := by decide +kernel
theorem dX12_value_42 : decode cX12_value 42 = .ok (.iconst 0, 1) := by decide +kernel
theorem dX12_value_43 : decode cX12_value 43 = .ok (.aload_n 0, 1) := by decide +kernel
theorem dX12_value_44 : decode cX12_value 44 = .ok (.getfield 115, 3) := by decide +kernel
theorem dX12_value_47 : decode cX12_value 47 = .ok (.invokevirtual 158, 3) := by decide +kernel
theorem dX12_value_50 : decode cX12_value 50 = .ok (.iconst 1, 1) := by decide +kernel
theorem dX12_value_51 : decode cX12_value 51 = .ok (.ireturn, 1) := by decide +kernel
theorem dX12_value_52 : decode cX12_value 52 = .ok (.aload_n 0, 1) := by decide +kernel
theorem dX12_value_53 : decode cX12_value 53 = .ok (.invokevirtual 169, 3) := by decide +kernel
theorem dX12_value_56 : decode cX12_value 56 = .ok (.istore_n 2, 1) := by decide +kernel
theorem dX12_value_57 : decode cX12_value 57 = .ok (.iload_n 2, 1) := by decide +kernel
theorem dX12_value_58 : decode cX12_value 58 = .ok (.ifCond .ge 10, 3) := by decide +kernel
theorem dX12_value_61 : decode cX12_value 61 = .ok (.aload_n 0, 1) := by decide +kernel
theorem dX12_value_62 : decode cX12_value 62 = .ok (.iconst 0, 1) := by decide +kernel
theorem dX12_value_63 : decode cX12_value 63 = .ok (.iload_n 1, 1) := by decide +kernel
theorem dX12_value_64 : decode cX12_value 64 = .ok (.invokevirtual 111, 3) := by decide +kernel
theorem dX12_value_67 : decode cX12_value 67 = .ok (.ireturn, 1) := by decide +kernel
theorem dX12_value_68 : decode cX12_value 68 = .ok (.aload_n 0, 1) := by decide +kernel
theorem dX12_value_69 : decode cX12_value 69 = .ok (.iload_n 1, 1) := by decide +kernel
theorem dX12_value_70 : decode cX12_value 70 = .ok (.invokevirtual 166, 3) := by decide +kernel
theorem dX12_value_73 : decode cX12_value 73 = .ok (.ifCond .ne 5, 3) := by decide +kernel
theorem dX12_value_76 : decode cX12_value 76 = .ok (.iconst 0, 1) := by decide +kernel
theorem dX12_value_77 : decode cX12_value 77 = .ok (.ireturn, 1) := by decide +kernel
theorem dX12_value_78 : decode cX12_value 78 = .ok (.aload_n 0, 1) := by decide +kernel
theorem dX12_value_79 : decode cX12_value 79 = .ok (.invokevirtual 105, 3) := by decide +kernel
theorem dX12_value_82 : decode cX12_value 82 = .ok (.aload_n 0, 1) := by decide +kernel
theorem dX12_value_83 : decode cX12_value 83 = .ok (.iconst 1, 1) := by decide +kernel
theorem dX12_value_84 : decode cX12_value 84 = .ok (.iload_n 2, 1) := by decide +kernel
theorem dX12_value_85 : decode cX12_value 85 = .ok (.invokevirtual 158, 3) := by decide +kernel
theorem dX12_value_88 : decode cX12_value 88 = .ok (.iconst 1, 1) := by decide +kernel
theorem dX12_value_89 : decode cX12_value 89 = .ok (.ireturn, 1) := by decide +kernel
def wp_X12_value (S : Sh) (M : Mm) (u0 : Int) (post : Int → Mm → Prop) : Prop := isK S u0 12 ∧ (wp_X12_see S M u0 <| fun v2 M1 => wGet S M1 u0 12 8 fun v4 => wGet S M1 u0 12 8 fun v6 => isK S u0 12 ∧ (wp_X12_isDigit S M1 u0 v6 <| fun v9 M8 => wIf (v9 = 0) (isK S u0 12 ∧ (wp_X12_wordHere S M8 u0 <| fun v12 M11 => wIf (0 ≤ v12) (isK S u0 12 ∧ (wp_X12_makes S M11 u0 v4 <| fun v15 M14 => wIf (¬ v15 = 0) (isK S u0 12 ∧ (wp_X12_passWord S M14 u0 <| fun M17 => wC 1 fun v18 => isK S u0 12 ∧ (wp_X12_puts S M17 u0 v18 v12 <| fun M20 => wC 1 fun v21 => (v21 = 0 ∨ v21 = 1) ∧ post v21 M20))) (wC 0 fun v23 => (v23 = 0 ∨ v23 = 1) ∧ post v23 M14))) (wC 0 fun v25 => isK S u0 12 ∧ (wp_X12_fails S M11 u0 v25 v4 <| fun v28 M27 => (v28 = 0 ∨ v28 = 1) ∧ post v28 M27)))) (wC 0 fun v30 => wC 99999 fun v32 => isK S u0 12 ∧ (wp_X12_numberHere S M8 u0 v30 v32 <| fun v35 M34 => wIf (v35 = 0) (wC 0 fun v37 => (v37 = 0 ∨ v37 = 1) ∧ post v37 M34) (isK S u0 12 ∧ (wp_X12_makes S M34 u0 v4 <| fun v40 M39 => wIf (¬ v40 = 0) (wC 0 fun v42 => wGet S M39 u0 12 10 fun v44 => isK S u0 12 ∧ (wp_X12_puts S M39 u0 v42 v44 <| fun M46 => wC 1 fun v47 => (v47 = 0 ∨ v47 = 1) ∧ post v47 M46)) (wC 0 fun v49 => (v49 = 0 ∨ v49 = 1) ∧ post v49 M39)))))))
set_option maxHeartbeats 4000000 in
set_option maxRecDepth 100000 in
theorem c_X12_value (l : Launch) (D : va_G) (G : Gt) (S : Sh) (M : Mm) (xl0 : Int) (post : Int → Mm → Prop) (h : wp_X12_value S M xl0 post) : Met l yX12_value (cw_X12_value :: gw) RM_X12_value (va_Pc [.ref (adr G xl0)] (fun U => KN D G U ∧ Wd D G S M U.heap)) (QI D G S post) 0 0 (aG G) := by
  refine Met.ofW (cc := cX12_value) (maxL := 3) (ret := (some .boolean)) (by decide) rfl ?_
  intro p e s m args below meth c s₁ B hml hv
  obtain ⟨rfl, hK, hP⟩ := hv
  have hx := B.exec
  have hb := B.bytes
  have hr := B.returns
  have hts := atoms_spec (ws := cw_X12_value :: gw) B.pre
  have hown : s.vm.findClass RX12 = some m.cls := findClass_of_methodNamed B.named
  have hlocks := B.notSynchronized
  have hS : va_S (aG G) s.heap s.heap [] := va_S.rf
  have C : Cx p s m ([.ref (adr G xl0)] : List Value).toArray meth c D G cX12_value 3 (some .boolean) (cw_X12_value :: gw) RX12 := ⟨hx, hb, hr, hlocks, hml, hown, hts, hK⟩
  have hl := lv_entry ([.ref (adr G xl0)]) (n := 3) (Nat.le_of_ble_eq_true rfl)
  rw [lg_entry_eq]
  generalize (lg_sl ([.ref (adr G xl0)]) ++ List.replicate (3 - (lg_sl ([.ref (adr G xl0)])).length) Slot.unset).toArray = ls at hl ⊢
  have hl : lv_has ls 3 [(0, .ref (adr G xl0))] := hl
  unfold wp_X12_value at h
  refine lv_aload_n hx hb dX12_value_0 rfl (lv_at hl 0 rfl) ?_
  refine q_Vi hx hb hml hown hts hK hP hS (c_X12_see l D G S _ xl0 _ h.2) ⟨callB_of 0 hts (gw_good kw_1477) rfl rfl rfl (hts _ (List.mem_cons_of_mem _ kw_14)) (hts _ (List.mem_cons_of_mem _ kw_1474)) hd_X12_see ⟨Nat.le_of_ble_eq_true rfl, Nat.le_of_ble_eq_true rfl⟩, (hts _ (List.mem_cons_of_mem _ kw_1476)), (hts _ (List.mem_cons_of_mem _ kp_54))⟩ h.1 (ci := 12) rfl (by decide) rfl hl.1 rfl (lv_room (Nat.le_of_ble_eq_true rfl)) dX12_value_1 ⟨Nat.zero_le _, Nat.zero_le _⟩ (fun z3 M1 H locs h hP hS => ?_)
  refine lv_pop hx hb dX12_value_4 rfl ?_
  refine lv_aload_n hx hb dX12_value_5 rfl (lv_at hl 0 rfl) ?_
  refine r_geti (C := RX12) (T := TX12) (N := 38) hx hb hts (fun w h => List.mem_cons_of_mem _ (iX12 w h)) hown hK hP rfl (by decide) rfl 8 (by decide) (hts _ (List.mem_cons_of_mem _ kw_1342)) (fun _ h9 => h9) dX12_value_6 (by decide) h (fun z5 h => ?_)
  refine lv_istore_n (lv' := [(1, .int z5), (0, .ref (adr G xl0))]) hx hb dX12_value_9 rfl hl (by decide) rfl (fun ls hl => ?_)
  refine lv_aload_n hx hb dX12_value_10 rfl (lv_at hl 1 rfl) ?_
  refine lv_aload_n hx hb dX12_value_11 rfl (lv_at hl 1 rfl) ?_
  refine r_geti (C := RX12) (T := TX12) (N := 38) hx hb hts (fun w h => List.mem_cons_of_mem _ (iX12 w h)) hown hK hP rfl (by decide) rfl 8 (by decide) (hts _ (List.mem_cons_of_mem _ kw_1342)) (fun _ h9 => h9) dX12_value_12 (by decide) h (fun z7 h => ?_)
  refine q_Vi hx hb hml hown hts hK hP hS (c_X12_isDigit l D G S _ xl0 z7 _ h.2) ⟨callB_of 1 hts (gw_good kw_1520) rfl rfl rfl (hts _ (List.mem_cons_of_mem _ kw_14)) (hts _ (List.mem_cons_of_mem _ kw_1517)) hd_X12_isDigit ⟨Nat.le_of_ble_eq_true rfl, Nat.le_of_ble_eq_true rfl⟩, (hts _ (List.mem_cons_of_mem _ kw_1519)), (hts _ (List.mem_cons_of_mem _ kp_63))⟩ h.1 (ci := 12) rfl (by decide) rfl hl.1 rfl (lv_room (Nat.le_of_ble_eq_true rfl)) dX12_value_15 ⟨Nat.zero_le _, Nat.zero_le _⟩ (fun z10 M8 H locs h hP hS => ?_)
  refine r_if_eq (tgt := 52) hx hb dX12_value_18 (by decide) h (fun h => ?_) (fun h => ?_)
  · refine lv_aload_n hx hb dX12_value_52 rfl (lv_at hl 1 rfl) ?_
    refine q_Vi hx hb hml hown hts hK hP hS (c_X12_wordHere l D G S _ xl0 _ h.2) ⟨callB_of 0 hts (gw_good kw_1580) rfl rfl rfl (hts _ (List.mem_cons_of_mem _ kw_14)) (hts _ (List.mem_cons_of_mem _ kw_1577)) hd_X12_wordHere ⟨Nat.le_of_ble_eq_true rfl, Nat.le_of_ble_eq_true rfl⟩, (hts _ (List.mem_cons_of_mem _ kw_1579)), (hts _ (List.mem_cons_of_mem _ kp_77))⟩ h.1 (ci := 12) rfl (by decide) rfl hl.1 rfl (lv_room (Nat.le_of_ble_eq_true rfl)) dX12_value_53 ⟨Nat.zero_le _, Nat.zero_le _⟩ (fun z13 M11 H locs h hP hS => ?_)
    refine lv_istore_n (lv' := [(2, .int z13), (1, .int z5), (0, .ref (adr G xl0))]) hx hb dX12_value_56 rfl hl (by decide) rfl (fun ls hl => ?_)
    refine lv_iload_n hx hb dX12_value_57 rfl (lv_at hl 0 rfl) ?_
    refine r_if_ge (tgt := 68) hx hb dX12_value_58 (by decide) h (fun h => ?_) (fun h => ?_)
    · refine lv_aload_n hx hb dX12_value_68 rfl (lv_at hl 2 rfl) ?_
      refine lv_iload_n hx hb dX12_value_69 rfl (lv_at hl 1 rfl) ?_
      refine q_Vi hx hb hml hown hts hK hP hS (c_X12_makes l D G S _ xl0 z5 _ h.2) ⟨callB_of 1 hts (gw_good kw_1572) rfl rfl rfl (hts _ (List.mem_cons_of_mem _ kw_14)) (hts _ (List.mem_cons_of_mem _ kw_1569)) hd_X12_makes ⟨Nat.le_of_ble_eq_true rfl, Nat.le_of_ble_eq_true rfl⟩, (hts _ (List.mem_cons_of_mem _ kw_1571)), (hts _ (List.mem_cons_of_mem _ kp_75))⟩ h.1 (ci := 12) rfl (by decide) rfl hl.1 rfl (lv_room (Nat.le_of_ble_eq_true rfl)) dX12_value_70 ⟨Nat.zero_le _, Nat.zero_le _⟩ (fun z16 M14 H locs h hP hS => ?_)
      refine r_if_ne (tgt := 78) hx hb dX12_value_73 (by decide) h (fun h => ?_) (fun h => ?_)
      · refine lv_aload_n hx hb dX12_value_78 rfl (lv_at hl 2 rfl) ?_
        refine q_Vv hx hb hml hown hts hK hP hS (c_X12_passWord l D G S _ xl0 _ h.2) ⟨callB_of 0 hts (gw_good kw_1512) rfl rfl rfl (hts _ (List.mem_cons_of_mem _ kw_14)) (hts _ (List.mem_cons_of_mem _ kw_1509)) hd_X12_passWord ⟨Nat.le_of_ble_eq_true rfl, Nat.le_of_ble_eq_true rfl⟩, (hts _ (List.mem_cons_of_mem _ kw_1511)), (hts _ (List.mem_cons_of_mem _ kp_61))⟩ h.1 (ci := 12) rfl (by decide) rfl hl.1 rfl (lv_room (Nat.le_of_ble_eq_true rfl)) dX12_value_79 ⟨Nat.zero_le _, Nat.zero_le _⟩ (fun M17 H locs h hP hS => ?_)
        refine lv_aload_n hx hb dX12_value_82 rfl (lv_at hl 2 rfl) ?_
        refine r_iconst hx hb dX12_value_83 (by decide) h (fun z19 h => ?_)
        refine lv_iload_n hx hb dX12_value_84 rfl (lv_at hl 0 rfl) ?_
        refine q_Vv hx hb hml hown hts hK hP hS (c_X12_puts l D G S _ xl0 z19 z13 _ h.2) ⟨callB_of 2 hts (gw_good kw_1576) rfl rfl rfl (hts _ (List.mem_cons_of_mem _ kw_14)) (hts _ (List.mem_cons_of_mem _ kw_1573)) hd_X12_puts ⟨Nat.le_of_ble_eq_true rfl, Nat.le_of_ble_eq_true rfl⟩, (hts _ (List.mem_cons_of_mem _ kw_1575)), (hts _ (List.mem_cons_of_mem _ kp_76))⟩ h.1 (ci := 12) rfl (by decide) rfl hl.1 rfl (lv_room (Nat.le_of_ble_eq_true rfl)) dX12_value_85 ⟨Nat.zero_le _, Nat.zero_le _⟩ (fun M20 H locs h hP hS => ?_)
        refine r_iconst hx hb dX12_value_88 (by decide) h (fun z22 h => ?_)
        exact r_zret hx hb hr hlocks hP hS dX12_value_89 h
      · refine r_iconst hx hb dX12_value_76 (by decide) h (fun z24 h => ?_)
        exact r_zret hx hb hr hlocks hP hS dX12_value_77 h
    · refine lv_aload_n hx hb dX12_value_61 rfl (lv_at hl 2 rfl) ?_
      refine r_iconst hx hb dX12_value_62 (by decide) h (fun z26 h => ?_)
      refine lv_iload_n hx hb dX12_value_63 rfl (lv_at hl 1 rfl) ?_
      refine q_Vi hx hb hml hown hts hK hP hS (c_X12_fails l D G S _ xl0 z26 z5 _ h.2) ⟨callB_of 2 hts (gw_good kw_1500) rfl rfl rfl (hts _ (List.mem_cons_of_mem _ kw_14)) (hts _ (List.mem_cons_of_mem _ kw_1497)) hd_X12_fails ⟨Nat.le_of_ble_eq_true rfl, Nat.le_of_ble_eq_true rfl⟩, (hts _ (List.mem_cons_of_mem _ kw_1499)), (hts _ (List.mem_cons_of_mem _ kp_58))⟩ h.1 (ci := 12) rfl (by decide) rfl hl.1 rfl (lv_room (Nat.le_of_ble_eq_true rfl)) dX12_value_64 ⟨Nat.zero_le _, Nat.zero_le _⟩ (fun z29 M27 H locs h hP hS => ?_)
      exact r_zret hx hb hr hlocks hP hS dX12_value_67 h
  · refine lv_aload_n hx hb dX12_value_21 rfl (lv_at hl 1 rfl) ?_
    refine r_iconst hx hb dX12_value_22 (by decide) h (fun z31 h => ?_)
    refine r_ldc hx hb hown (hts _ (List.mem_cons_of_mem _ kw_1568)) dX12_value_23 (n := 99999) (by decide) h (fun z33 h => ?_)
    refine q_Vi hx hb hml hown hts hK hP hS (c_X12_numberHere l D G S _ xl0 z31 z33 _ h.2) ⟨callB_of 2 hts (gw_good kw_1516) rfl rfl rfl (hts _ (List.mem_cons_of_mem _ kw_14)) (hts _ (List.mem_cons_of_mem _ kw_1513)) hd_X12_numberHere ⟨Nat.le_of_ble_eq_true rfl, Nat.le_of_ble_eq_true rfl⟩, (hts _ (List.mem_cons_of_mem _ kw_1515)), (hts _ (List.mem_cons_of_mem _ kp_62))⟩ h.1 (ci := 12) rfl (by decide) rfl hl.1 rfl (lv_room (Nat.le_of_ble_eq_true rfl)) dX12_value_25 ⟨Nat.zero_le _, Nat.zero_le _⟩ (fun z36 M34 H locs h hP hS => ?_)
    refine r_if_eq (tgt := 39) hx hb dX12_value_28 (by decide) h (fun h => ?_) (fun h => ?_)
    · refine r_iconst hx hb dX12_value_39 (by decide) h (fun z38 h => ?_)
      exact r_zret hx hb hr hlocks hP hS dX12_value_40 h
    · refine lv_aload_n hx hb dX12_value_31 rfl (lv_at hl 1 rfl) ?_
      refine lv_iload_n hx hb dX12_value_32 rfl (lv_at hl 0 rfl) ?_
      refine q_Vi hx hb hml hown hts hK hP hS (c_X12_makes l D G S _ xl0 z5 _ h.2) ⟨callB_of 1 hts (gw_good kw_1572) rfl rfl rfl (hts _ (List.mem_cons_of_mem _ kw_14)) (hts _ (List.mem_cons_of_mem _ kw_1569)) hd_X12_makes ⟨Nat.le_of_ble_eq_true rfl, Nat.le_of_ble_eq_true rfl⟩, (hts _ (List.mem_cons_of_mem _ kw_1571)), (hts _ (List.mem_cons_of_mem _ kp_75))⟩ h.1 (ci := 12) rfl (by decide) rfl hl.1 rfl (lv_room (Nat.le_of_ble_eq_true rfl)) dX12_value_33 ⟨Nat.zero_le _, Nat.zero_le _⟩ (fun z41 M39 H locs h hP hS => ?_)
      refine r_if_ne (tgt := 41) hx hb dX12_value_36 (by decide) h (fun h => ?_) (fun h => ?_)
      · refine lv_aload_n hx hb dX12_value_41 rfl (lv_at hl 1 rfl) ?_
        refine r_iconst hx hb dX12_value_42 (by decide) h (fun z43 h => ?_)
        refine lv_aload_n hx hb dX12_value_43 rfl (lv_at hl 1 rfl) ?_
        refine r_geti (C := RX12) (T := TX12) (N := 38) hx hb hts (fun w h => List.mem_cons_of_mem _ (iX12 w h)) hown hK hP rfl (by decide) rfl 10 (by decide) (hts _ (List.mem_cons_of_mem _ kw_1344)) (fun _ h9 => h9) dX12_value_44 (by decide) h (fun z45 h => ?_)
        refine q_Vv hx hb hml hown hts hK hP hS (c_X12_puts l D G S _ xl0 z43 z45 _ h.2) ⟨callB_of 2 hts (gw_good kw_1576) rfl rfl rfl (hts _ (List.mem_cons_of_mem _ kw_14)) (hts _ (List.mem_cons_of_mem _ kw_1573)) hd_X12_puts ⟨Nat.le_of_ble_eq_true rfl, Nat.le_of_ble_eq_true rfl⟩, (hts _ (List.mem_cons_of_mem _ kw_1575)), (hts _ (List.mem_cons_of_mem _ kp_76))⟩ h.1 (ci := 12) rfl (by decide) rfl hl.1 rfl (lv_room (Nat.le_of_ble_eq_true rfl)) dX12_value_47 ⟨Nat.zero_le _, Nat.zero_le _⟩ (fun M46 H locs h hP hS => ?_)
        refine r_iconst hx hb dX12_value_50 (by decide) h (fun z48 h => ?_)
        exact r_zret hx hb hr hlocks hP hS dX12_value_51 h
      · refine r_iconst hx hb dX12_value_39 (by decide) h (fun z50 h => ?_)
        exact r_zret hx hb hr hlocks hP hS dX12_value_40 h
/-! TurningMilkModel.term()Z -/
abbrev RM_X12_term : Room := { frames := 5, cells := 0, slots := 0, locals := 128 }
def cw_X12_term : Cond := Cond.code yX12_term cX12_term 2 (Option.some FieldType.boolean)
theorem hd_X12_term : yX12_term.cls ≠ "java/lang/invoke/MethodHandle" ∧ yX12_term.cls ≠ "java/lang/invoke/VarHandle" ∧ (parseMethodDescriptor yX12_term.desc).map (fun d => d.parameters.length) = some 0 := by decide +kernel
theorem dX12_term_0 : decode cX12_term 0 = .ok (.aload_n 0, 1) := by decide +kernel
theorem dX12_term_1 : decode cX12_term 1 = .ok (.invokevirtual 172, 3) := by decide +kernel
theorem dX12_term_4 : decode cX12_term 4 = .ok (.ifCond .ne 5, 3) := by decide +kernel
theorem dX12_term_7 : decode cX12_term 7 = .ok (.iconst 0, 1) := by decide +kernel
theorem dX12_term_8 : decode cX12_term 8 = .ok (.ireturn, 1) := by decide +kernel
theorem dX12_term_9 : decode cX12_term 9 = .ok (.aload_n 0, 1) := by decide +kernel
theorem dX12_term_10 : decode cX12_term 10 = .ok (.invokevirtual 93, 3) := by decide +kernel
theorem dX12_term_13 : decode cX12_term 13 = .ok (.bipush 42, 2) := by decide +kernel
theorem dX12_term_15 : decode cX12_term 15 = .ok (.if_icmp .eq 21, 3) := by decide +kernel
theorem dX12_term_18 : decode cX12_term 18 = .ok (.aload_n 0, 1) := by decide +kernel
theorem dX12_term_19 : decode cX12_term 19 = .ok (.invokevirtual 93, 3) := by decide +kernel
theorem dX12_term_22 : decode cX12_term 22 = .ok (.bipush 47, 2) := by decide +kernel
theorem dX12_term_24 : decode cX12_term 24 = .ok (.if_icmp .eq 12, 3) := by decide +kernel
theorem dX12_term_27 : decode cX12_term 27 = .ok (.aload_n 0, 1) := by decide +kernel
theorem dX12_term_28 : decode cX12_term 28 = .ok (.invokevirtual 93, 3) := by decide +kernel
theorem dX12_term_31 : decode cX12_term 31 = .ok (.bipush 37, 2) := by decide +kernel
theorem dX12_term_33 : decode cX12_term 33 = .ok (.if_icmp .ne 70, 3) := by decide +kernel
theorem dX12_term_36 : decode cX12_term 36 = .ok (.aload_n 0, 1) := by decide +kernel
theorem dX12_term_37 : decode cX12_term 37 = .ok (.getfield 7, 3) := by decide +kernel
theorem dX12_term_40 : decode cX12_term 40 = .ok (.aload_n 0, 1) := by decide +kernel
theorem dX12_term_41 : decode cX12_term 41 = .ok (.getfield 90, 3) := by decide +kernel
theorem dX12_term_44 : decode cX12_term 44 = .ok (.baload, 1) := by decide +kernel
theorem dX12_term_45 : decode cX12_term 45 = .ok (.bipush 42, 2) := by decide +kernel
theorem dX12_term_47 : decode cX12_term 47 = .ok (.if_icmp .ne 7, 3) := by decide +kernel
theorem dX12_term_50 : decode cX12_term 50 = .ok (.iconst 4, 1) := by decide +kernel
theorem dX12_term_51 : decode cX12_term 51 = .ok (.goto 23, 3) := by decide +kernel
theorem dX12_term_54 : decode cX12_term 54 = .ok (.aload_n 0, 1) := by decide +kernel
theorem dX12_term_55 : decode cX12_term 55 = .ok (.getfield 7, 3) := by decide +kernel
theorem dX12_term_58 : decode cX12_term 58 = .ok (.aload_n 0, 1) := by decide +kernel
theorem dX12_term_59 : decode cX12_term 59 = .ok (.getfield 90, 3) := by decide +kernel
theorem dX12_term_62 : decode cX12_term 62 = .ok (.baload, 1) := by decide +kernel
theorem dX12_term_63 : decode cX12_term 63 = .ok (.bipush 47, 2) := by decide +kernel
theorem dX12_term_65 : decode cX12_term 65 = .ok (.if_icmp .ne 7, 3) := by decide +kernel
theorem dX12_term_68 : decode cX12_term 68 = .ok (.iconst 5, 1) := by decide +kernel
theorem dX12_term_69 : decode cX12_term 69 = .ok (.goto 5, 3) := by decide +kernel
theorem dX12_term_72 : decode cX12_term 72 = .ok (.bipush 14, 2) := by decide +kernel
theorem dX12_term_74 : decode cX12_term 74 = .ok (.istore_n 1, 1) := by decide +kernel
theorem dX12_term_75 : decode cX12_term 75 = .ok (.aload_n 0, 1) := by decide +kernel
theorem dX12_term_76 : decode cX12_term 76 = .ok (.dup, 1) := by decide +kernel
theorem dX12_term_77 : decode cX12_term 77 = .ok (.getfield 90, 3) := by decide +kernel
theorem dX12_term_80 : decode cX12_term 80 = .ok (.iconst 1, 1) := by decide +kernel
theorem dX12_term_81 : decode cX12_term 81 = .ok (.iadd, 1) := by decide +kernel
theorem dX12_term_82 : decode cX12_term 82 = .ok (.putfield 90, 3) := by decide +kernel
theorem dX12_term_85 : decode cX12_term 85 = .ok (.aload_n 0, 1) := by decide +kernel
theorem dX12_term_86 : decode cX12_term 86 = .ok (.invokevirtual 172, 3) := by decide +kernel
theorem dX12_term_89 : decode cX12_term 89 = .ok (.ifCond .ne 5, 3) := by decide +kernel
theorem dX12_term_92 : decode cX12_term 92 = .ok (.iconst 0, 1) := by decide +kernel
theorem dX12_term_93 : decode cX12_term 93 = .ok (.ireturn, 1) := by decide +kernel
theorem dX12_term_94 : decode cX12_term 94 = .ok (.aload_n 0, 1) := by decide +kernel
theorem dX12_term_95 : decode cX12_term 95 = .ok (.iload_n 1, 1) := by decide +kernel
theorem dX12_term_96 : decode cX12_term 96 = .ok (.iconst 0, 1) := by decide +kernel
theorem dX12_term_97 : decode cX12_term 97 = .ok (.invokevirtual 158, 3) := by decide +kernel
theorem dX12_term_100 : decode cX12_term 100 = .ok (.goto (-91), 3) := by decide +kernel
theorem dX12_term_103 : decode cX12_term 103 = .ok (.iconst 1, 1) := by decide +kernel
theorem dX12_term_104 : decode cX12_term 104 = .ok (.ireturn, 1) := by decide +kernel
def wp_X12_term_74 (S : Sh) (k9 : Int → Mm → Prop) (post : Int → Mm → Prop) (u0 : Int) (t0 : Int) (M : Mm) : Prop := wGet S M u0 12 8 fun v1 => wC 1 fun v3 => wA v1 v3 fun v5 => wPut S M u0 12 8 v5 fun M7 => isK S u0 12 ∧ (wp_X12_value S M7 u0 <| fun v9 M8 => wIf (¬ v9 = 0) (wC 0 fun v11 => isK S u0 12 ∧ (wp_X12_puts S M8 u0 t0 v11 <| fun M13 => k9 u0 M13)) (wC 0 fun v14 => (v14 = 0 ∨ v14 = 1) ∧ post v14 M8))
def wp_X12_term_36 (S : Sh) (k9 : Int → Mm → Prop) (post : Int → Mm → Prop) (u0 : Int) (M : Mm) : Prop := wGetR S M u0 12 0 fun v16 => wGet S M u0 12 8 fun v18 => wLd S M v16 13 v18 fun v20 => wC 42 fun v22 => wIf (¬ v20 = v22) (wGetR S M u0 12 0 fun v24 => wGet S M u0 12 8 fun v26 => wLd S M v24 13 v26 fun v28 => wC 47 fun v30 => wIf (¬ v28 = v30) (wC 14 fun v32 => wp_X12_term_74 S k9 post u0 v32 M) (wC 5 fun v34 => wp_X12_term_74 S k9 post u0 v34 M)) (wC 4 fun v36 => wp_X12_term_74 S k9 post u0 v36 M)
def wp_X12_term_9 (S : Sh) (post : Int → Mm → Prop) : Nat → Int → Mm → Prop
  | 0, _, _ => False
  | n + 1, u0, M => isK S u0 12 ∧ (wp_X12_see S M u0 <| fun v39 M38 => wC 42 fun v41 => wIf (v39 = v41) (wp_X12_term_36 S (fun a0 M => wp_X12_term_9 S post n a0 M) post u0 M38) (isK S u0 12 ∧ (wp_X12_see S M38 u0 <| fun v44 M43 => wC 47 fun v46 => wIf (v44 = v46) (wp_X12_term_36 S (fun a0 M => wp_X12_term_9 S post n a0 M) post u0 M43) (isK S u0 12 ∧ (wp_X12_see S M43 u0 <| fun v49 M48 => wC 37 fun v51 => wIf (¬ v49 = v51) (wC 1 fun v53 => (v53 = 0 ∨ v53 = 1) ∧ post v53 M48) (wp_X12_term_36 S (fun a0 M => wp_X12_term_9 S post n a0 M) post u0 M48))))))
def wp_X12_term (S : Sh) (M : Mm) (u0 : Int) (post : Int → Mm → Prop) : Prop := isK S u0 12 ∧ (wp_X12_value S M u0 <| fun v56 M55 => wIf (¬ v56 = 0) (∃ n9 : Nat, wp_X12_term_9 S post n9 u0 M55) (wC 0 fun v58 => (v58 = 0 ∨ v58 = 1) ∧ post v58 M55))
set_option maxHeartbeats 4000000 in
set_option maxRecDepth 100000 in
theorem t_X12_term_74 {p : Program} {l : Launch} {e : Env} {s : State} {m : MethodId} {args : Array Value} {below : List Frame} {meth : Method} {c : Code} {D : va_G} {G : Gt} {S : Sh} {post : Int → Mm → Prop} {k9 : Int → Mm → Prop} (C : Cx p s m args meth c D G cX12_term 2 (some .boolean) (cw_X12_term :: gw) RX12) (hk9 : ∀ (y0 : Int) (M : Mm) (H : Heap) (locs : List Loc) (ls : Array Slot), Wd D G S M H → va_S (aG G) s.heap H locs → lv_has ls 2 [(0, .ref (adr G y0))] → k9 y0 M → W p l e RM_X12_term s m args below meth c H locs 0 0 (MQ below (QI D G S post) args s 0 0 (aG G)) (F0 m 9 ls [])) : ∀ (xl0 : Int) (zs0 : Int32) (M : Mm) (H : Heap) (locs : List Loc) (ls : Array Slot), Wd D G S M H → va_S (aG G) s.heap H locs → lv_has ls 2 [(0, .ref (adr G xl0))] → wp_X12_term_74 S k9 post xl0 zs0.toInt M → W p l e RM_X12_term s m args below meth c H locs 0 0 (MQ below (QI D G S post) args s 0 0 (aG G)) (F0 m 74 ls [.int zs0]) := by
  obtain ⟨hx, hb, hr, hlocks, hml, hown, hts, hK⟩ := id C
  intro xl0 zs0 M H locs ls hP hS hl h
  unfold wp_X12_term_74 at h
  refine lv_istore_n (lv' := [(1, .int zs0), (0, .ref (adr G xl0))]) hx hb dX12_term_74 rfl hl (by decide) rfl (fun ls hl => ?_)
  refine lv_aload_n hx hb dX12_term_75 rfl (lv_at hl 1 rfl) ?_
  refine lv_dup hx hb dX12_term_76 rfl ?_
  refine r_geti (C := RX12) (T := TX12) (N := 38) hx hb hts (fun w h => List.mem_cons_of_mem _ (iX12 w h)) hown hK hP rfl (by decide) rfl 8 (by decide) (hts _ (List.mem_cons_of_mem _ kw_1342)) (fun _ h9 => h9) dX12_term_77 (by decide) h (fun z2 h => ?_)
  refine r_iconst hx hb dX12_term_80 (by decide) h (fun z4 h => ?_)
  refine r_iadd hx hb dX12_term_81 h (fun z6 h => ?_)
  refine r_puti (C := RX12) (T := TX12) (N := 38) hx hb hts (fun w h => List.mem_cons_of_mem _ (iX12 w h)) hown hK hP tyX12 tyX12_ok nmX12 hS rfl (by decide) rfl 8 (by decide) (hts _ (List.mem_cons_of_mem _ kw_1342)) (fun _ h9 => h9) rfl (tyX12_ok 8 (by decide)) rfl rfl dX12_term_82 (by decide) h (fun M7 H locs h hP hS => ?_)
  refine lv_aload_n hx hb dX12_term_85 rfl (lv_at hl 1 rfl) ?_
  refine q_Vi hx hb hml hown hts hK hP hS (c_X12_value l D G S _ xl0 _ h.2) ⟨callB_of 0 hts (gw_good kw_1567) rfl rfl rfl (hts _ (List.mem_cons_of_mem _ kw_14)) (hts _ (List.mem_cons_of_mem _ kw_1564)) hd_X12_value ⟨Nat.le_of_ble_eq_true rfl, Nat.le_of_ble_eq_true rfl⟩, (hts _ (List.mem_cons_of_mem _ kw_1566)), (hts _ (List.mem_cons_of_mem _ kp_74))⟩ h.1 (ci := 12) rfl (by decide) rfl hl.1 rfl (lv_room (Nat.le_of_ble_eq_true rfl)) dX12_term_86 ⟨Nat.zero_le _, Nat.zero_le _⟩ (fun z10 M8 H locs h hP hS => ?_)
  refine r_if_ne (tgt := 94) hx hb dX12_term_89 (by decide) h (fun h => ?_) (fun h => ?_)
  · refine lv_aload_n hx hb dX12_term_94 rfl (lv_at hl 1 rfl) ?_
    refine lv_iload_n hx hb dX12_term_95 rfl (lv_at hl 0 rfl) ?_
    refine r_iconst hx hb dX12_term_96 (by decide) h (fun z12 h => ?_)
    refine q_Vv hx hb hml hown hts hK hP hS (c_X12_puts l D G S _ xl0 zs0 z12 _ h.2) ⟨callB_of 2 hts (gw_good kw_1576) rfl rfl rfl (hts _ (List.mem_cons_of_mem _ kw_14)) (hts _ (List.mem_cons_of_mem _ kw_1573)) hd_X12_puts ⟨Nat.le_of_ble_eq_true rfl, Nat.le_of_ble_eq_true rfl⟩, (hts _ (List.mem_cons_of_mem _ kw_1575)), (hts _ (List.mem_cons_of_mem _ kp_76))⟩ h.1 (ci := 12) rfl (by decide) rfl hl.1 rfl (lv_room (Nat.le_of_ble_eq_true rfl)) dX12_term_97 ⟨Nat.zero_le _, Nat.zero_le _⟩ (fun M13 H locs h hP hS => ?_)
    refine lv_goto (tgt := 9) hx hb dX12_term_100 (by decide) ?_
    exact hk9 xl0 _ _ _ _ hP hS (lv_sub hl [1] rfl) h
  · refine r_iconst hx hb dX12_term_92 (by decide) h (fun z15 h => ?_)
    exact r_zret hx hb hr hlocks hP hS dX12_term_93 h
set_option maxHeartbeats 4000000 in
set_option maxRecDepth 100000 in
theorem t_X12_term_36 {p : Program} {l : Launch} {e : Env} {s : State} {m : MethodId} {args : Array Value} {below : List Frame} {meth : Method} {c : Code} {D : va_G} {G : Gt} {S : Sh} {post : Int → Mm → Prop} {k9 : Int → Mm → Prop} (C : Cx p s m args meth c D G cX12_term 2 (some .boolean) (cw_X12_term :: gw) RX12) (hk9 : ∀ (y0 : Int) (M : Mm) (H : Heap) (locs : List Loc) (ls : Array Slot), Wd D G S M H → va_S (aG G) s.heap H locs → lv_has ls 2 [(0, .ref (adr G y0))] → k9 y0 M → W p l e RM_X12_term s m args below meth c H locs 0 0 (MQ below (QI D G S post) args s 0 0 (aG G)) (F0 m 9 ls [])) : ∀ (xl0 : Int) (M : Mm) (H : Heap) (locs : List Loc) (ls : Array Slot), Wd D G S M H → va_S (aG G) s.heap H locs → lv_has ls 2 [(0, .ref (adr G xl0))] → wp_X12_term_36 S k9 post xl0  M → W p l e RM_X12_term s m args below meth c H locs 0 0 (MQ below (QI D G S post) args s 0 0 (aG G)) (F0 m 36 ls []) := by
  obtain ⟨hx, hb, hr, hlocks, hml, hown, hts, hK⟩ := id C
  intro xl0 M H locs ls hP hS hl h
  unfold wp_X12_term_36 at h
  refine lv_aload_n hx hb dX12_term_36 rfl (lv_at hl 0 rfl) ?_
  refine r_getr (C := RX12) (T := TX12) (N := 38) hx hb hts (fun w h => List.mem_cons_of_mem _ (iX12 w h)) hown hK hP rfl (by decide) rfl 0 (by decide) (hts _ (List.mem_cons_of_mem _ kw_1334)) (fun _ h9 => h9) dX12_term_37 (by decide) h (fun x17 h => ?_)
  refine lv_aload_n hx hb dX12_term_40 rfl (lv_at hl 0 rfl) ?_
  refine r_geti (C := RX12) (T := TX12) (N := 38) hx hb hts (fun w h => List.mem_cons_of_mem _ (iX12 w h)) hown hK hP rfl (by decide) rfl 8 (by decide) (hts _ (List.mem_cons_of_mem _ kw_1342)) (fun _ h9 => h9) dX12_term_41 (by decide) h (fun z19 h => ?_)
  refine r_bald hx hb hK hP dX12_term_44 h (fun z21 h => ?_)
  refine r_bipush hx hb dX12_term_45 (by decide) h (fun z23 h => ?_)
  refine r_icmp_ne (tgt := 54) hx hb dX12_term_47 (by decide) h (fun h => ?_) (fun h => ?_)
  · refine lv_aload_n hx hb dX12_term_54 rfl (lv_at hl 0 rfl) ?_
    refine r_getr (C := RX12) (T := TX12) (N := 38) hx hb hts (fun w h => List.mem_cons_of_mem _ (iX12 w h)) hown hK hP rfl (by decide) rfl 0 (by decide) (hts _ (List.mem_cons_of_mem _ kw_1334)) (fun _ h9 => h9) dX12_term_55 (by decide) h (fun x25 h => ?_)
    refine lv_aload_n hx hb dX12_term_58 rfl (lv_at hl 0 rfl) ?_
    refine r_geti (C := RX12) (T := TX12) (N := 38) hx hb hts (fun w h => List.mem_cons_of_mem _ (iX12 w h)) hown hK hP rfl (by decide) rfl 8 (by decide) (hts _ (List.mem_cons_of_mem _ kw_1342)) (fun _ h9 => h9) dX12_term_59 (by decide) h (fun z27 h => ?_)
    refine r_bald hx hb hK hP dX12_term_62 h (fun z29 h => ?_)
    refine r_bipush hx hb dX12_term_63 (by decide) h (fun z31 h => ?_)
    refine r_icmp_ne (tgt := 72) hx hb dX12_term_65 (by decide) h (fun h => ?_) (fun h => ?_)
    · refine r_bipush hx hb dX12_term_72 (by decide) h (fun z33 h => ?_)
      exact t_X12_term_74 C hk9 xl0 z33 _ _ _ _ hP hS (lv_sub hl [0] rfl) h
    · refine r_iconst hx hb dX12_term_68 (by decide) h (fun z35 h => ?_)
      refine lv_goto (tgt := 74) hx hb dX12_term_69 (by decide) ?_
      exact t_X12_term_74 C hk9 xl0 z35 _ _ _ _ hP hS (lv_sub hl [0] rfl) h
  · refine r_iconst hx hb dX12_term_50 (by decide) h (fun z37 h => ?_)
    refine lv_goto (tgt := 74) hx hb dX12_term_51 (by decide) ?_
    exact t_X12_term_74 C hk9 xl0 z37 _ _ _ _ hP hS (lv_sub hl [0] rfl) h
set_option maxHeartbeats 4000000 in
set_option maxRecDepth 100000 in
theorem t_X12_term_9 {p : Program} {l : Launch} {e : Env} {s : State} {m : MethodId} {args : Array Value} {below : List Frame} {meth : Method} {c : Code} {D : va_G} {G : Gt} {S : Sh} {post : Int → Mm → Prop} (C : Cx p s m args meth c D G cX12_term 2 (some .boolean) (cw_X12_term :: gw) RX12) : ∀ (n : Nat) (xl0 : Int) (M : Mm) (H : Heap) (locs : List Loc) (ls : Array Slot), Wd D G S M H → va_S (aG G) s.heap H locs → lv_has ls 2 [(0, .ref (adr G xl0))] → wp_X12_term_9 S post n xl0  M → W p l e RM_X12_term s m args below meth c H locs 0 0 (MQ below (QI D G S post) args s 0 0 (aG G)) (F0 m 9 ls []) := by
  obtain ⟨hx, hb, hr, hlocks, hml, hown, hts, hK⟩ := id C
  intro n
  induction n with
  | zero => intro xl0 M H locs ls hP hS hl h; exact h.elim
  | succ n ih =>
    intro xl0 M H locs ls hP hS hl h
    unfold wp_X12_term_9 at h
    refine lv_aload_n hx hb dX12_term_9 rfl (lv_at hl 0 rfl) ?_
    refine q_Vi hx hb hml hown hts hK hP hS (c_X12_see l D G S _ xl0 _ h.2) ⟨callB_of 0 hts (gw_good kw_1477) rfl rfl rfl (hts _ (List.mem_cons_of_mem _ kw_14)) (hts _ (List.mem_cons_of_mem _ kw_1474)) hd_X12_see ⟨Nat.le_of_ble_eq_true rfl, Nat.le_of_ble_eq_true rfl⟩, (hts _ (List.mem_cons_of_mem _ kw_1476)), (hts _ (List.mem_cons_of_mem _ kp_54))⟩ h.1 (ci := 12) rfl (by decide) rfl hl.1 rfl (lv_room (Nat.le_of_ble_eq_true rfl)) dX12_term_10 ⟨Nat.zero_le _, Nat.zero_le _⟩ (fun z40 M38 H locs h hP hS => ?_)
    refine r_bipush hx hb dX12_term_13 (by decide) h (fun z42 h => ?_)
    refine r_icmp_eq (tgt := 36) hx hb dX12_term_15 (by decide) h (fun h => ?_) (fun h => ?_)
    · exact t_X12_term_36 C ih xl0 _ _ _ _ hP hS (lv_sub hl [0] rfl) h
    · refine lv_aload_n hx hb dX12_term_18 rfl (lv_at hl 0 rfl) ?_
      refine q_Vi hx hb hml hown hts hK hP hS (c_X12_see l D G S _ xl0 _ h.2) ⟨callB_of 0 hts (gw_good kw_1477) rfl rfl rfl (hts _ (List.mem_cons_of_mem _ kw_14)) (hts _ (List.mem_cons_of_mem _ kw_1474)) hd_X12_see ⟨Nat.le_of_ble_eq_true rfl, Nat.le_of_ble_eq_true rfl⟩, (hts _ (List.mem_cons_of_mem _ kw_1476)), (hts _ (List.mem_cons_of_mem _ kp_54))⟩ h.1 (ci := 12) rfl (by decide) rfl hl.1 rfl (lv_room (Nat.le_of_ble_eq_true rfl)) dX12_term_19 ⟨Nat.zero_le _, Nat.zero_le _⟩ (fun z45 M43 H locs h hP hS => ?_)
      refine r_bipush hx hb dX12_term_22 (by decide) h (fun z47 h => ?_)
      refine r_icmp_eq (tgt := 36) hx hb dX12_term_24 (by decide) h (fun h => ?_) (fun h => ?_)
      · exact t_X12_term_36 C ih xl0 _ _ _ _ hP hS (lv_sub hl [0] rfl) h
      · refine lv_aload_n hx hb dX12_term_27 rfl (lv_at hl 0 rfl) ?_
        refine q_Vi hx hb hml hown hts hK hP hS (c_X12_see l D G S _ xl0 _ h.2) ⟨callB_of 0 hts (gw_good kw_1477) rfl rfl rfl (hts _ (List.mem_cons_of_mem _ kw_14)) (hts _ (List.mem_cons_of_mem _ kw_1474)) hd_X12_see ⟨Nat.le_of_ble_eq_true rfl, Nat.le_of_ble_eq_true rfl⟩, (hts _ (List.mem_cons_of_mem _ kw_1476)), (hts _ (List.mem_cons_of_mem _ kp_54))⟩ h.1 (ci := 12) rfl (by decide) rfl hl.1 rfl (lv_room (Nat.le_of_ble_eq_true rfl)) dX12_term_28 ⟨Nat.zero_le _, Nat.zero_le _⟩ (fun z50 M48 H locs h hP hS => ?_)
        refine r_bipush hx hb dX12_term_31 (by decide) h (fun z52 h => ?_)
        refine r_icmp_ne (tgt := 103) hx hb dX12_term_33 (by decide) h (fun h => ?_) (fun h => ?_)
        · refine r_iconst hx hb dX12_term_103 (by decide) h (fun z54 h => ?_)
          exact r_zret hx hb hr hlocks hP hS dX12_term_104 h
        · exact t_X12_term_36 C ih xl0 _ _ _ _ hP hS (lv_sub hl [0] rfl) h
set_option maxHeartbeats 4000000 in
set_option maxRecDepth 100000 in
theorem c_X12_term (l : Launch) (D : va_G) (G : Gt) (S : Sh) (M : Mm) (xl0 : Int) (post : Int → Mm → Prop) (h : wp_X12_term S M xl0 post) : Met l yX12_term (cw_X12_term :: gw) RM_X12_term (va_Pc [.ref (adr G xl0)] (fun U => KN D G U ∧ Wd D G S M U.heap)) (QI D G S post) 0 0 (aG G) := by
  refine Met.ofW (cc := cX12_term) (maxL := 2) (ret := (some .boolean)) (by decide) rfl ?_
  intro p e s m args below meth c s₁ B hml hv
  obtain ⟨rfl, hK, hP⟩ := hv
  have hx := B.exec
  have hb := B.bytes
  have hr := B.returns
  have hts := atoms_spec (ws := cw_X12_term :: gw) B.pre
  have hown : s.vm.findClass RX12 = some m.cls := findClass_of_methodNamed B.named
  have hlocks := B.notSynchronized
  have hS : va_S (aG G) s.heap s.heap [] := va_S.rf
  have C : Cx p s m ([.ref (adr G xl0)] : List Value).toArray meth c D G cX12_term 2 (some .boolean) (cw_X12_term :: gw) RX12 := ⟨hx, hb, hr, hlocks, hml, hown, hts, hK⟩
  have hl := lv_entry ([.ref (adr G xl0)]) (n := 2) (Nat.le_of_ble_eq_true rfl)
  rw [lg_entry_eq]
  generalize (lg_sl ([.ref (adr G xl0)]) ++ List.replicate (2 - (lg_sl ([.ref (adr G xl0)])).length) Slot.unset).toArray = ls at hl ⊢
  have hl : lv_has ls 2 [(0, .ref (adr G xl0))] := hl
  unfold wp_X12_term at h
  refine lv_aload_n hx hb dX12_term_0 rfl (lv_at hl 0 rfl) ?_
  refine q_Vi hx hb hml hown hts hK hP hS (c_X12_value l D G S _ xl0 _ h.2) ⟨callB_of 0 hts (gw_good kw_1567) rfl rfl rfl (hts _ (List.mem_cons_of_mem _ kw_14)) (hts _ (List.mem_cons_of_mem _ kw_1564)) hd_X12_value ⟨Nat.le_of_ble_eq_true rfl, Nat.le_of_ble_eq_true rfl⟩, (hts _ (List.mem_cons_of_mem _ kw_1566)), (hts _ (List.mem_cons_of_mem _ kp_74))⟩ h.1 (ci := 12) rfl (by decide) rfl hl.1 rfl (lv_room (Nat.le_of_ble_eq_true rfl)) dX12_term_1 ⟨Nat.zero_le _, Nat.zero_le _⟩ (fun z57 M55 H locs h hP hS => ?_)
  refine r_if_ne (tgt := 9) hx hb dX12_term_4 (by decide) h (fun h => ?_) (fun h => ?_)
  · obtain ⟨n9, h⟩ := h
    exact t_X12_term_9 C n9 xl0 _ _ _ _ hP hS (lv_sub hl [0] rfl) h
  · refine r_iconst hx hb dX12_term_7 (by decide) h (fun z59 h => ?_)
    exact r_zret hx hb hr hlocks hP hS dX12_term_8 h
/-! TurningMilkModel.sum()Z -/
abbrev RM_X12_sum : Room := { frames := 6, cells := 0, slots := 0, locals := 149 }
def cw_X12_sum : Cond := Cond.code yX12_sum cX12_sum 2 (Option.some FieldType.boolean)
theorem hd_X12_sum : yX12_sum.cls ≠ "java/lang/invoke/MethodHandle" ∧ yX12_sum.cls ≠ "java/lang/invoke/VarHandle" ∧ (parseMethodDescriptor yX12_sum.desc).map (fun d => d.parameters.length) = some 0 := by decide +kernel
theorem dX12_sum_0 : decode cX12_sum 0 = .ok (.aload_n 0, 1) := by decide +kernel
theorem dX12_sum_1 : decode cX12_sum 1 = .ok (.invokevirtual 176, 3) := by decide +kernel
theorem dX12_sum_4 : decode cX12_sum 4 = .ok (.ifCond .ne 5, 3) := by decide +kernel
theorem dX12_sum_7 : decode cX12_sum 7 = .ok (.iconst 0, 1) := by decide +kernel
theorem dX12_sum_8 : decode cX12_sum 8 = .ok (.ireturn, 1) := by decide +kernel
theorem dX12_sum_9 : decode cX12_sum 9 = .ok (.aload_n 0, 1) := by decide +kernel
theorem dX12_sum_10 : decode cX12_sum 10 = .ok (.invokevirtual 93, 3) := by decide +kernel
theorem dX12_sum_13 : decode cX12_sum 13 = .ok (.bipush 43, 2) := by decide +kernel
theorem dX12_sum_15 : decode cX12_sum 15 = .ok (.if_icmp .eq 12, 3) := by decide +kernel
theorem dX12_sum_18 : decode cX12_sum 18 = .ok (.aload_n 0, 1) := by decide +kernel
theorem dX12_sum_19 : decode cX12_sum 19 = .ok (.invokevirtual 93, 3) := by decide +kernel
theorem dX12_sum_22 : decode cX12_sum 22 = .ok (.bipush 45, 2) := by decide +kernel
theorem dX12_sum_24 : decode cX12_sum 24 = .ok (.if_icmp .ne 51, 3) := by decide +kernel
theorem dX12_sum_27 : decode cX12_sum 27 = .ok (.aload_n 0, 1) := by decide +kernel
theorem dX12_sum_28 : decode cX12_sum 28 = .ok (.getfield 7, 3) := by decide +kernel
theorem dX12_sum_31 : decode cX12_sum 31 = .ok (.aload_n 0, 1) := by decide +kernel
theorem dX12_sum_32 : decode cX12_sum 32 = .ok (.getfield 90, 3) := by decide +kernel
theorem dX12_sum_35 : decode cX12_sum 35 = .ok (.baload, 1) := by decide +kernel
theorem dX12_sum_36 : decode cX12_sum 36 = .ok (.bipush 43, 2) := by decide +kernel
theorem dX12_sum_38 : decode cX12_sum 38 = .ok (.if_icmp .ne 7, 3) := by decide +kernel
theorem dX12_sum_41 : decode cX12_sum 41 = .ok (.iconst 2, 1) := by decide +kernel
theorem dX12_sum_42 : decode cX12_sum 42 = .ok (.goto 4, 3) := by decide +kernel
theorem dX12_sum_45 : decode cX12_sum 45 = .ok (.iconst 3, 1) := by decide +kernel
theorem dX12_sum_46 : decode cX12_sum 46 = .ok (.istore_n 1, 1) := by decide +kernel
theorem dX12_sum_47 : decode cX12_sum 47 = .ok (.aload_n 0, 1) := by decide +kernel
theorem dX12_sum_48 : decode cX12_sum 48 = .ok (.dup, 1) := by decide +kernel
theorem dX12_sum_49 : decode cX12_sum 49 = .ok (.getfield 90, 3) := by decide +kernel
theorem dX12_sum_52 : decode cX12_sum 52 = .ok (.iconst 1, 1) := by decide +kernel
theorem dX12_sum_53 : decode cX12_sum 53 = .ok (.iadd, 1) := by decide +kernel
theorem dX12_sum_54 : decode cX12_sum 54 = .ok (.putfield 90, 3) := by decide +kernel
theorem dX12_sum_57 : decode cX12_sum 57 = .ok (.aload_n 0, 1) := by decide +kernel
theorem dX12_sum_58 : decode cX12_sum 58 = .ok (.invokevirtual 176, 3) := by decide +kernel
theorem dX12_sum_61 : decode cX12_sum 61 = .ok (.ifCond .ne 5, 3) := by decide +kernel
theorem dX12_sum_64 : decode cX12_sum 64 = .ok (.iconst 0, 1) := by decide +kernel
theorem dX12_sum_65 : decode cX12_sum 65 = .ok (.ireturn, 1) := by decide +kernel
theorem dX12_sum_66 : decode cX12_sum 66 = .ok (.aload_n 0, 1) := by decide +kernel
theorem dX12_sum_67 : decode cX12_sum 67 = .ok (.iload_n 1, 1) := by decide +kernel
theorem dX12_sum_68 : decode cX12_sum 68 = .ok (.iconst 0, 1) := by decide +kernel
theorem dX12_sum_69 : decode cX12_sum 69 = .ok (.invokevirtual 158, 3) := by decide +kernel
theorem dX12_sum_72 : decode cX12_sum 72 = .ok (.goto (-63), 3) := by decide +kernel
theorem dX12_sum_75 : decode cX12_sum 75 = .ok (.iconst 1, 1) := by decide +kernel
theorem dX12_sum_76 : decode cX12_sum 76 = .ok (.ireturn, 1) := by decide +kernel
def wp_X12_sum_46 (S : Sh) (k9 : Int → Mm → Prop) (post : Int → Mm → Prop) (u0 : Int) (t0 : Int) (M : Mm) : Prop := wGet S M u0 12 8 fun v1 => wC 1 fun v3 => wA v1 v3 fun v5 => wPut S M u0 12 8 v5 fun M7 => isK S u0 12 ∧ (wp_X12_term S M7 u0 <| fun v9 M8 => wIf (¬ v9 = 0) (wC 0 fun v11 => isK S u0 12 ∧ (wp_X12_puts S M8 u0 t0 v11 <| fun M13 => k9 u0 M13)) (wC 0 fun v14 => (v14 = 0 ∨ v14 = 1) ∧ post v14 M8))
def wp_X12_sum_27 (S : Sh) (k9 : Int → Mm → Prop) (post : Int → Mm → Prop) (u0 : Int) (M : Mm) : Prop := wGetR S M u0 12 0 fun v16 => wGet S M u0 12 8 fun v18 => wLd S M v16 13 v18 fun v20 => wC 43 fun v22 => wIf (¬ v20 = v22) (wC 3 fun v24 => wp_X12_sum_46 S k9 post u0 v24 M) (wC 2 fun v26 => wp_X12_sum_46 S k9 post u0 v26 M)
def wp_X12_sum_9 (S : Sh) (post : Int → Mm → Prop) : Nat → Int → Mm → Prop
  | 0, _, _ => False
  | n + 1, u0, M => isK S u0 12 ∧ (wp_X12_see S M u0 <| fun v29 M28 => wC 43 fun v31 => wIf (v29 = v31) (wp_X12_sum_27 S (fun a0 M => wp_X12_sum_9 S post n a0 M) post u0 M28) (isK S u0 12 ∧ (wp_X12_see S M28 u0 <| fun v34 M33 => wC 45 fun v36 => wIf (¬ v34 = v36) (wC 1 fun v38 => (v38 = 0 ∨ v38 = 1) ∧ post v38 M33) (wp_X12_sum_27 S (fun a0 M => wp_X12_sum_9 S post n a0 M) post u0 M33))))
def wp_X12_sum (S : Sh) (M : Mm) (u0 : Int) (post : Int → Mm → Prop) : Prop := isK S u0 12 ∧ (wp_X12_term S M u0 <| fun v41 M40 => wIf (¬ v41 = 0) (∃ n9 : Nat, wp_X12_sum_9 S post n9 u0 M40) (wC 0 fun v43 => (v43 = 0 ∨ v43 = 1) ∧ post v43 M40))
set_option maxHeartbeats 4000000 in
set_option maxRecDepth 100000 in
theorem t_X12_sum_46 {p : Program} {l : Launch} {e : Env} {s : State} {m : MethodId} {args : Array Value} {below : List Frame} {meth : Method} {c : Code} {D : va_G} {G : Gt} {S : Sh} {post : Int → Mm → Prop} {k9 : Int → Mm → Prop} (C : Cx p s m args meth c D G cX12_sum 2 (some .boolean) (cw_X12_sum :: gw) RX12) (hk9 : ∀ (y0 : Int) (M : Mm) (H : Heap) (locs : List Loc) (ls : Array Slot), Wd D G S M H → va_S (aG G) s.heap H locs → lv_has ls 2 [(0, .ref (adr G y0))] → k9 y0 M → W p l e RM_X12_sum s m args below meth c H locs 0 0 (MQ below (QI D G S post) args s 0 0 (aG G)) (F0 m 9 ls [])) : ∀ (xl0 : Int) (zs0 : Int32) (M : Mm) (H : Heap) (locs : List Loc) (ls : Array Slot), Wd D G S M H → va_S (aG G) s.heap H locs → lv_has ls 2 [(0, .ref (adr G xl0))] → wp_X12_sum_46 S k9 post xl0 zs0.toInt M → W p l e RM_X12_sum s m args below meth c H locs 0 0 (MQ below (QI D G S post) args s 0 0 (aG G)) (F0 m 46 ls [.int zs0]) := by
  obtain ⟨hx, hb, hr, hlocks, hml, hown, hts, hK⟩ := id C
  intro xl0 zs0 M H locs ls hP hS hl h
  unfold wp_X12_sum_46 at h
  refine lv_istore_n (lv' := [(1, .int zs0), (0, .ref (adr G xl0))]) hx hb dX12_sum_46 rfl hl (by decide) rfl (fun ls hl => ?_)
  refine lv_aload_n hx hb dX12_sum_47 rfl (lv_at hl 1 rfl) ?_
  refine lv_dup hx hb dX12_sum_48 rfl ?_
  refine r_geti (C := RX12) (T := TX12) (N := 38) hx hb hts (fun w h => List.mem_cons_of_mem _ (iX12 w h)) hown hK hP rfl (by decide) rfl 8 (by decide) (hts _ (List.mem_cons_of_mem _ kw_1342)) (fun _ h9 => h9) dX12_sum_49 (by decide) h (fun z2 h => ?_)
  refine r_iconst hx hb dX12_sum_52 (by decide) h (fun z4 h => ?_)
  refine r_iadd hx hb dX12_sum_53 h (fun z6 h => ?_)
  refine r_puti (C := RX12) (T := TX12) (N := 38) hx hb hts (fun w h => List.mem_cons_of_mem _ (iX12 w h)) hown hK hP tyX12 tyX12_ok nmX12 hS rfl (by decide) rfl 8 (by decide) (hts _ (List.mem_cons_of_mem _ kw_1342)) (fun _ h9 => h9) rfl (tyX12_ok 8 (by decide)) rfl rfl dX12_sum_54 (by decide) h (fun M7 H locs h hP hS => ?_)
  refine lv_aload_n hx hb dX12_sum_57 rfl (lv_at hl 1 rfl) ?_
  refine q_Vi hx hb hml hown hts hK hP hS (c_X12_term l D G S _ xl0 _ h.2) ⟨callB_of 0 hts (gw_good kw_1563) rfl rfl rfl (hts _ (List.mem_cons_of_mem _ kw_14)) (hts _ (List.mem_cons_of_mem _ kw_1560)) hd_X12_term ⟨Nat.le_of_ble_eq_true rfl, Nat.le_of_ble_eq_true rfl⟩, (hts _ (List.mem_cons_of_mem _ kw_1562)), (hts _ (List.mem_cons_of_mem _ kp_73))⟩ h.1 (ci := 12) rfl (by decide) rfl hl.1 rfl (lv_room (Nat.le_of_ble_eq_true rfl)) dX12_sum_58 ⟨Nat.zero_le _, Nat.zero_le _⟩ (fun z10 M8 H locs h hP hS => ?_)
  refine r_if_ne (tgt := 66) hx hb dX12_sum_61 (by decide) h (fun h => ?_) (fun h => ?_)
  · refine lv_aload_n hx hb dX12_sum_66 rfl (lv_at hl 1 rfl) ?_
    refine lv_iload_n hx hb dX12_sum_67 rfl (lv_at hl 0 rfl) ?_
    refine r_iconst hx hb dX12_sum_68 (by decide) h (fun z12 h => ?_)
    refine q_Vv hx hb hml hown hts hK hP hS (c_X12_puts l D G S _ xl0 zs0 z12 _ h.2) ⟨callB_of 2 hts (gw_good kw_1576) rfl rfl rfl (hts _ (List.mem_cons_of_mem _ kw_14)) (hts _ (List.mem_cons_of_mem _ kw_1573)) hd_X12_puts ⟨Nat.le_of_ble_eq_true rfl, Nat.le_of_ble_eq_true rfl⟩, (hts _ (List.mem_cons_of_mem _ kw_1575)), (hts _ (List.mem_cons_of_mem _ kp_76))⟩ h.1 (ci := 12) rfl (by decide) rfl hl.1 rfl (lv_room (Nat.le_of_ble_eq_true rfl)) dX12_sum_69 ⟨Nat.zero_le _, Nat.zero_le _⟩ (fun M13 H locs h hP hS => ?_)
    refine lv_goto (tgt := 9) hx hb dX12_sum_72 (by decide) ?_
    exact hk9 xl0 _ _ _ _ hP hS (lv_sub hl [1] rfl) h
  · refine r_iconst hx hb dX12_sum_64 (by decide) h (fun z15 h => ?_)
    exact r_zret hx hb hr hlocks hP hS dX12_sum_65 h
set_option maxHeartbeats 4000000 in
set_option maxRecDepth 100000 in
theorem t_X12_sum_27 {p : Program} {l : Launch} {e : Env} {s : State} {m : MethodId} {args : Array Value} {below : List Frame} {meth : Method} {c : Code} {D : va_G} {G : Gt} {S : Sh} {post : Int → Mm → Prop} {k9 : Int → Mm → Prop} (C : Cx p s m args meth c D G cX12_sum 2 (some .boolean) (cw_X12_sum :: gw) RX12) (hk9 : ∀ (y0 : Int) (M : Mm) (H : Heap) (locs : List Loc) (ls : Array Slot), Wd D G S M H → va_S (aG G) s.heap H locs → lv_has ls 2 [(0, .ref (adr G y0))] → k9 y0 M → W p l e RM_X12_sum s m args below meth c H locs 0 0 (MQ below (QI D G S post) args s 0 0 (aG G)) (F0 m 9 ls [])) : ∀ (xl0 : Int) (M : Mm) (H : Heap) (locs : List Loc) (ls : Array Slot), Wd D G S M H → va_S (aG G) s.heap H locs → lv_has ls 2 [(0, .ref (adr G xl0))] → wp_X12_sum_27 S k9 post xl0  M → W p l e RM_X12_sum s m args below meth c H locs 0 0 (MQ below (QI D G S post) args s 0 0 (aG G)) (F0 m 27 ls []) := by
  obtain ⟨hx, hb, hr, hlocks, hml, hown, hts, hK⟩ := id C
  intro xl0 M H locs ls hP hS hl h
  unfold wp_X12_sum_27 at h
  refine lv_aload_n hx hb dX12_sum_27 rfl (lv_at hl 0 rfl) ?_
  refine r_getr (C := RX12) (T := TX12) (N := 38) hx hb hts (fun w h => List.mem_cons_of_mem _ (iX12 w h)) hown hK hP rfl (by decide) rfl 0 (by decide) (hts _ (List.mem_cons_of_mem _ kw_1334)) (fun _ h9 => h9) dX12_sum_28 (by decide) h (fun x17 h => ?_)
  refine lv_aload_n hx hb dX12_sum_31 rfl (lv_at hl 0 rfl) ?_
  refine r_geti (C := RX12) (T := TX12) (N := 38) hx hb hts (fun w h => List.mem_cons_of_mem _ (iX12 w h)) hown hK hP rfl (by decide) rfl 8 (by decide) (hts _ (List.mem_cons_of_mem _ kw_1342)) (fun _ h9 => h9) dX12_sum_32 (by decide) h (fun z19 h => ?_)
  refine r_bald hx hb hK hP dX12_sum_35 h (fun z21 h => ?_)
  refine r_bipush hx hb dX12_sum_36 (by decide) h (fun z23 h => ?_)
  refine r_icmp_ne (tgt := 45) hx hb dX12_sum_38 (by decide) h (fun h => ?_) (fun h => ?_)
  · refine r_iconst hx hb dX12_sum_45 (by decide) h (fun z25 h => ?_)
    exact t_X12_sum_46 C hk9 xl0 z25 _ _ _ _ hP hS (lv_sub hl [0] rfl) h
  · refine r_iconst hx hb dX12_sum_41 (by decide) h (fun z27 h => ?_)
    refine lv_goto (tgt := 46) hx hb dX12_sum_42 (by decide) ?_
    exact t_X12_sum_46 C hk9 xl0 z27 _ _ _ _ hP hS (lv_sub hl [0] rfl) h
set_option maxHeartbeats 4000000 in
set_option maxRecDepth 100000 in
theorem t_X12_sum_9 {p : Program} {l : Launch} {e : Env} {s : State} {m : MethodId} {args : Array Value} {below : List Frame} {meth : Method} {c : Code} {D : va_G} {G : Gt} {S : Sh} {post : Int → Mm → Prop} (C : Cx p s m args meth c D G cX12_sum 2 (some .boolean) (cw_X12_sum :: gw) RX12) : ∀ (n : Nat) (xl0 : Int) (M : Mm) (H : Heap) (locs : List Loc) (ls : Array Slot), Wd D G S M H → va_S (aG G) s.heap H locs → lv_has ls 2 [(0, .ref (adr G xl0))] → wp_X12_sum_9 S post n xl0  M → W p l e RM_X12_sum s m args below meth c H locs 0 0 (MQ below (QI D G S post) args s 0 0 (aG G)) (F0 m 9 ls []) := by
  obtain ⟨hx, hb, hr, hlocks, hml, hown, hts, hK⟩ := id C
  intro n
  induction n with
  | zero => intro xl0 M H locs ls hP hS hl h; exact h.elim
  | succ n ih =>
    intro xl0 M H locs ls hP hS hl h
    unfold wp_X12_sum_9 at h
    refine lv_aload_n hx hb dX12_sum_9 rfl (lv_at hl 0 rfl) ?_
    refine q_Vi hx hb hml hown hts hK hP hS (c_X12_see l D G S _ xl0 _ h.2) ⟨callB_of 0 hts (gw_good kw_1477) rfl rfl rfl (hts _ (List.mem_cons_of_mem _ kw_14)) (hts _ (List.mem_cons_of_mem _ kw_1474)) hd_X12_see ⟨Nat.le_of_ble_eq_true rfl, Nat.le_of_ble_eq_true rfl⟩, (hts _ (List.mem_cons_of_mem _ kw_1476)), (hts _ (List.mem_cons_of_mem _ kp_54))⟩ h.1 (ci := 12) rfl (by decide) rfl hl.1 rfl (lv_room (Nat.le_of_ble_eq_true rfl)) dX12_sum_10 ⟨Nat.zero_le _, Nat.zero_le _⟩ (fun z30 M28 H locs h hP hS => ?_)
    refine r_bipush hx hb dX12_sum_13 (by decide) h (fun z32 h => ?_)
    refine r_icmp_eq (tgt := 27) hx hb dX12_sum_15 (by decide) h (fun h => ?_) (fun h => ?_)
    · exact t_X12_sum_27 C ih xl0 _ _ _ _ hP hS (lv_sub hl [0] rfl) h
    · refine lv_aload_n hx hb dX12_sum_18 rfl (lv_at hl 0 rfl) ?_
      refine q_Vi hx hb hml hown hts hK hP hS (c_X12_see l D G S _ xl0 _ h.2) ⟨callB_of 0 hts (gw_good kw_1477) rfl rfl rfl (hts _ (List.mem_cons_of_mem _ kw_14)) (hts _ (List.mem_cons_of_mem _ kw_1474)) hd_X12_see ⟨Nat.le_of_ble_eq_true rfl, Nat.le_of_ble_eq_true rfl⟩, (hts _ (List.mem_cons_of_mem _ kw_1476)), (hts _ (List.mem_cons_of_mem _ kp_54))⟩ h.1 (ci := 12) rfl (by decide) rfl hl.1 rfl (lv_room (Nat.le_of_ble_eq_true rfl)) dX12_sum_19 ⟨Nat.zero_le _, Nat.zero_le _⟩ (fun z35 M33 H locs h hP hS => ?_)
      refine r_bipush hx hb dX12_sum_22 (by decide) h (fun z37 h => ?_)
      refine r_icmp_ne (tgt := 75) hx hb dX12_sum_24 (by decide) h (fun h => ?_) (fun h => ?_)
      · refine r_iconst hx hb dX12_sum_75 (by decide) h (fun z39 h => ?_)
        exact r_zret hx hb hr hlocks hP hS dX12_sum_76 h
      · exact t_X12_sum_27 C ih xl0 _ _ _ _ hP hS (lv_sub hl [0] rfl) h
set_option maxHeartbeats 4000000 in
set_option maxRecDepth 100000 in
theorem c_X12_sum (l : Launch) (D : va_G) (G : Gt) (S : Sh) (M : Mm) (xl0 : Int) (post : Int → Mm → Prop) (h : wp_X12_sum S M xl0 post) : Met l yX12_sum (cw_X12_sum :: gw) RM_X12_sum (va_Pc [.ref (adr G xl0)] (fun U => KN D G U ∧ Wd D G S M U.heap)) (QI D G S post) 0 0 (aG G) := by
  refine Met.ofW (cc := cX12_sum) (maxL := 2) (ret := (some .boolean)) (by decide) rfl ?_
  intro p e s m args below meth c s₁ B hml hv
  obtain ⟨rfl, hK, hP⟩ := hv
  have hx := B.exec
  have hb := B.bytes
  have hr := B.returns
  have hts := atoms_spec (ws := cw_X12_sum :: gw) B.pre
  have hown : s.vm.findClass RX12 = some m.cls := findClass_of_methodNamed B.named
  have hlocks := B.notSynchronized
  have hS : va_S (aG G) s.heap s.heap [] := va_S.rf
  have C : Cx p s m ([.ref (adr G xl0)] : List Value).toArray meth c D G cX12_sum 2 (some .boolean) (cw_X12_sum :: gw) RX12 := ⟨hx, hb, hr, hlocks, hml, hown, hts, hK⟩
  have hl := lv_entry ([.ref (adr G xl0)]) (n := 2) (Nat.le_of_ble_eq_true rfl)
  rw [lg_entry_eq]
  generalize (lg_sl ([.ref (adr G xl0)]) ++ List.replicate (2 - (lg_sl ([.ref (adr G xl0)])).length) Slot.unset).toArray = ls at hl ⊢
  have hl : lv_has ls 2 [(0, .ref (adr G xl0))] := hl
  unfold wp_X12_sum at h
  refine lv_aload_n hx hb dX12_sum_0 rfl (lv_at hl 0 rfl) ?_
  refine q_Vi hx hb hml hown hts hK hP hS (c_X12_term l D G S _ xl0 _ h.2) ⟨callB_of 0 hts (gw_good kw_1563) rfl rfl rfl (hts _ (List.mem_cons_of_mem _ kw_14)) (hts _ (List.mem_cons_of_mem _ kw_1560)) hd_X12_term ⟨Nat.le_of_ble_eq_true rfl, Nat.le_of_ble_eq_true rfl⟩, (hts _ (List.mem_cons_of_mem _ kw_1562)), (hts _ (List.mem_cons_of_mem _ kp_73))⟩ h.1 (ci := 12) rfl (by decide) rfl hl.1 rfl (lv_room (Nat.le_of_ble_eq_true rfl)) dX12_sum_1 ⟨Nat.zero_le _, Nat.zero_le _⟩ (fun z42 M40 H locs h hP hS => ?_)
  refine r_if_ne (tgt := 9) hx hb dX12_sum_4 (by decide) h (fun h => ?_) (fun h => ?_)
  · obtain ⟨n9, h⟩ := h
    exact t_X12_sum_9 C n9 xl0 _ _ _ _ hP hS (lv_sub hl [0] rfl) h
  · refine r_iconst hx hb dX12_sum_7 (by decide) h (fun z44 h => ?_)
    exact r_zret hx hb hr hlocks hP hS dX12_sum_8 h
/-! TurningMilkModel.takesWord(J)Z -/
abbrev RM_X12_takesWord : Room := { frames := 3, cells := 0, slots := 0, locals := 86 }
def cw_X12_takesWord : Cond := Cond.code yX12_takesWord cX12_takesWord 3 (Option.some FieldType.boolean)
theorem hd_X12_takesWord : yX12_takesWord.cls ≠ "java/lang/invoke/MethodHandle" ∧ yX12_takesWord.cls ≠ "java/lang/invoke/VarHandle" ∧ (parseMethodDescriptor yX12_takesWord.desc).map (fun d => d.parameters.length) = some 1 := by decide +kernel
theorem dX12_takesWord_0 : decode cX12_takesWord 0 = .ok (.aload_n 0, 1) := by decide +kernel
theorem dX12_takesWord_1 : decode cX12_takesWord 1 = .ok (.lload_n 1, 1) := by decide +kernel
theorem dX12_takesWord_2 : decode cX12_takesWord 2 = .ok (.invokevirtual 101, 3) := by decide +kernel
theorem dX12_takesWord_5 : decode cX12_takesWord 5 = .ok (.ifCond .ne 5, 3) := by decide +kernel
theorem dX12_takesWord_8 : decode cX12_takesWord 8 = .ok (.iconst 0, 1) := by decide +kernel
theorem dX12_takesWord_9 : decode cX12_takesWord 9 = .ok (.ireturn, 1) := by decide +kernel
theorem dX12_takesWord_10 : decode cX12_takesWord 10 = .ok (.aload_n 0, 1) := by decide +kernel
theorem dX12_takesWord_11 : decode cX12_takesWord 11 = .ok (.invokevirtual 105, 3) := by decide +kernel
theorem dX12_takesWord_14 : decode cX12_takesWord 14 = .ok (.iconst 1, 1) := by decide +kernel
theorem dX12_takesWord_15 : decode cX12_takesWord 15 = .ok (.ireturn, 1) := by decide +kernel
def wp_X12_takesWord (S : Sh) (M : Mm) (u0 : Int) (u1 : Int) (post : Int → Mm → Prop) : Prop := isK S u0 12 ∧ (wp_X12_isWord S M u0 u1 <| fun v2 M1 => wIf (¬ v2 = 0) (isK S u0 12 ∧ (wp_X12_passWord S M1 u0 <| fun M4 => wC 1 fun v5 => (v5 = 0 ∨ v5 = 1) ∧ post v5 M4)) (wC 0 fun v7 => (v7 = 0 ∨ v7 = 1) ∧ post v7 M1))
set_option maxHeartbeats 4000000 in
set_option maxRecDepth 100000 in
theorem c_X12_takesWord (l : Launch) (D : va_G) (G : Gt) (S : Sh) (M : Mm) (xl0 : Int) (zl1 : Int64) (post : Int → Mm → Prop) (h : wp_X12_takesWord S M xl0 zl1.toInt post) : Met l yX12_takesWord (cw_X12_takesWord :: gw) RM_X12_takesWord (va_Pc [.ref (adr G xl0), .long zl1] (fun U => KN D G U ∧ Wd D G S M U.heap)) (QI D G S post) 0 0 (aG G) := by
  refine Met.ofW (cc := cX12_takesWord) (maxL := 3) (ret := (some .boolean)) (by decide) rfl ?_
  intro p e s m args below meth c s₁ B hml hv
  obtain ⟨rfl, hK, hP⟩ := hv
  have hx := B.exec
  have hb := B.bytes
  have hr := B.returns
  have hts := atoms_spec (ws := cw_X12_takesWord :: gw) B.pre
  have hown : s.vm.findClass RX12 = some m.cls := findClass_of_methodNamed B.named
  have hlocks := B.notSynchronized
  have hS : va_S (aG G) s.heap s.heap [] := va_S.rf
  have C : Cx p s m ([.ref (adr G xl0), .long zl1] : List Value).toArray meth c D G cX12_takesWord 3 (some .boolean) (cw_X12_takesWord :: gw) RX12 := ⟨hx, hb, hr, hlocks, hml, hown, hts, hK⟩
  have hl := lv_entry ([.ref (adr G xl0), .long zl1]) (n := 3) (Nat.le_of_ble_eq_true rfl)
  rw [lg_entry_eq]
  generalize (lg_sl ([.ref (adr G xl0), .long zl1]) ++ List.replicate (3 - (lg_sl ([.ref (adr G xl0), .long zl1])).length) Slot.unset).toArray = ls at hl ⊢
  have hl : lv_has ls 3 [(0, .ref (adr G xl0)), (1, .long zl1)] := hl
  unfold wp_X12_takesWord at h
  refine lv_aload_n hx hb dX12_takesWord_0 rfl (lv_at hl 0 rfl) ?_
  refine lv_lload_n hx hb dX12_takesWord_1 rfl (lv_at hl 1 rfl) ?_
  refine q_Vi hx hb hml hown hts hK hP hS (c_X12_isWord l D G S _ xl0 zl1 _ h.2) ⟨callB_of 1 hts (gw_good kw_1486) rfl rfl rfl (hts _ (List.mem_cons_of_mem _ kw_14)) (hts _ (List.mem_cons_of_mem _ kw_1483)) hd_X12_isWord ⟨Nat.le_of_ble_eq_true rfl, Nat.le_of_ble_eq_true rfl⟩, (hts _ (List.mem_cons_of_mem _ kw_1485)), (hts _ (List.mem_cons_of_mem _ kp_56))⟩ h.1 (ci := 12) rfl (by decide) rfl hl.1 rfl (lv_room (Nat.le_of_ble_eq_true rfl)) dX12_takesWord_2 ⟨Nat.zero_le _, Nat.zero_le _⟩ (fun z3 M1 H locs h hP hS => ?_)
  refine r_if_ne (tgt := 10) hx hb dX12_takesWord_5 (by decide) h (fun h => ?_) (fun h => ?_)
  · refine lv_aload_n hx hb dX12_takesWord_10 rfl (lv_at hl 0 rfl) ?_
    refine q_Vv hx hb hml hown hts hK hP hS (c_X12_passWord l D G S _ xl0 _ h.2) ⟨callB_of 0 hts (gw_good kw_1512) rfl rfl rfl (hts _ (List.mem_cons_of_mem _ kw_14)) (hts _ (List.mem_cons_of_mem _ kw_1509)) hd_X12_passWord ⟨Nat.le_of_ble_eq_true rfl, Nat.le_of_ble_eq_true rfl⟩, (hts _ (List.mem_cons_of_mem _ kw_1511)), (hts _ (List.mem_cons_of_mem _ kp_61))⟩ h.1 (ci := 12) rfl (by decide) rfl hl.1 rfl (lv_room (Nat.le_of_ble_eq_true rfl)) dX12_takesWord_11 ⟨Nat.zero_le _, Nat.zero_le _⟩ (fun M4 H locs h hP hS => ?_)
    refine r_iconst hx hb dX12_takesWord_14 (by decide) h (fun z6 h => ?_)
    exact r_zret hx hb hr hlocks hP hS dX12_takesWord_15 h
  · refine r_iconst hx hb dX12_takesWord_8 (by decide) h (fun z8 h => ?_)
    exact r_zret hx hb hr hlocks hP hS dX12_takesWord_9 h
/-! TurningMilkModel.opens(I)Z -/
abbrev RM_X12_opens : Room := { frames := 2, cells := 0, slots := 0, locals := 62 }
def cw_X12_opens : Cond := Cond.code yX12_opens cX12_opens 2 (Option.some FieldType.boolean)
theorem hd_X12_opens : yX12_opens.cls ≠ "java/lang/invoke/MethodHandle" ∧ yX12_opens.cls ≠ "java/lang/invoke/VarHandle" ∧ (parseMethodDescriptor yX12_opens.desc).map (fun d => d.parameters.length) = some 1 := by decide +kernel
theorem dX12_opens_0 : decode cX12_opens 0 = .ok (.aload_n 0, 1) := by decide +kernel
theorem dX12_opens_1 : decode cX12_opens 1 = .ok (.getfield 148, 3) := by decide +kernel
theorem dX12_opens_4 : decode cX12_opens 4 = .ok (.bipush 10, 2) := by decide +kernel
theorem dX12_opens_6 : decode cX12_opens 6 = .ok (.if_icmp .ne 13, 3) := by decide +kernel
theorem dX12_opens_9 : decode cX12_opens 9 = .ok (.aload_n 0, 1) := by decide +kernel
theorem dX12_opens_10 : decode cX12_opens 10 = .ok (.iconst 2, 1) := by decide +kernel
theorem dX12_opens_11 : decode cX12_opens 11 = .ok (.aload_n 0, 1) := by decide +kernel
theorem dX12_opens_12 : decode cX12_opens 12 = .ok (.getfield 90, 3) := by decide +kernel
theorem dX12_opens_15 : decode cX12_opens 15 = .ok (.invokevirtual 111, 3) := by decide +kernel
theorem dX12_opens_18 : decode cX12_opens 18 = .ok (.ireturn, 1) := by decide +kernel
theorem dX12_opens_19 : decode cX12_opens 19 = .ok (.aload_n 0, 1) := by decide +kernel
theorem dX12_opens_20 : decode cX12_opens 20 = .ok (.dup, 1) := by decide +kernel
theorem dX12_opens_21 : decode cX12_opens 21 = .ok (.getfield 148, 3) := by decide +kernel
theorem dX12_opens_24 : decode cX12_opens 24 = .ok (.iconst 1, 1) := by decide +kernel
theorem dX12_opens_25 : decode cX12_opens 25 = .ok (.iadd, 1) := by decide +kernel
theorem dX12_opens_26 : decode cX12_opens 26 = .ok (.putfield 148, 3) := by decide +kernel
theorem dX12_opens_29 : decode cX12_opens 29 = .ok (.aload_n 0, 1) := by decide +kernel
theorem dX12_opens_30 : decode cX12_opens 30 = .ok (.getfield 29, 3) := by decide +kernel
theorem dX12_opens_33 : decode cX12_opens 33 = .ok (.aload_n 0, 1) := by decide +kernel
theorem dX12_opens_34 : decode cX12_opens 34 = .ok (.getfield 151, 3) := by decide +kernel
theorem dX12_opens_37 : decode cX12_opens 37 = .ok (.iload_n 1, 1) := by decide +kernel
theorem dX12_opens_38 : decode cX12_opens 38 = .ok (.iastore, 1) := by decide +kernel
theorem dX12_opens_39 : decode cX12_opens 39 = .ok (.aload_n 0, 1) := by decide +kernel
theorem dX12_opens_40 : decode cX12_opens 40 = .ok (.dup, 1) := by decide +kernel
theorem dX12_opens_41 : decode cX12_opens 41 = .ok (.getfield 151, 3) := by decide +kernel
theorem dX12_opens_44 : decode cX12_opens 44 = .ok (.iconst 1, 1) := by decide +kernel
theorem dX12_opens_45 : decode cX12_opens 45 = .ok (.iadd, 1) := by decide +kernel
theorem dX12_opens_46 : decode cX12_opens 46 = .ok (.putfield 151, 3) := by decide +kernel
theorem dX12_opens_49 : decode cX12_opens 49 = .ok (.iconst 1, 1) := by decide +kernel
theorem dX12_opens_50 : decode cX12_opens 50 = .ok (.ireturn, 1) := by decide +kernel
def wp_X12_opens (S : Sh) (M : Mm) (u0 : Int) (u1 : Int) (post : Int → Mm → Prop) : Prop := wGet S M u0 12 13 fun v1 => wC 10 fun v3 => wIf (¬ v1 = v3) (wGet S M u0 12 13 fun v5 => wC 1 fun v7 => wA v5 v7 fun v9 => wPut S M u0 12 13 v9 fun M11 => wGetR S M11 u0 12 15 fun v12 => wGet S M11 u0 12 16 fun v14 => wSt S M11 v12 14 v14 u1 fun M16 => wGet S M16 u0 12 16 fun v17 => wC 1 fun v19 => wA v17 v19 fun v21 => wPut S M16 u0 12 16 v21 fun M23 => wC 1 fun v24 => (v24 = 0 ∨ v24 = 1) ∧ post v24 M23) (wC 2 fun v26 => wGet S M u0 12 8 fun v28 => isK S u0 12 ∧ (wp_X12_fails S M u0 v26 v28 <| fun v31 M30 => (v31 = 0 ∨ v31 = 1) ∧ post v31 M30))
set_option maxHeartbeats 4000000 in
set_option maxRecDepth 100000 in
theorem c_X12_opens (l : Launch) (D : va_G) (G : Gt) (S : Sh) (M : Mm) (xl0 : Int) (zl1 : Int32) (post : Int → Mm → Prop) (h : wp_X12_opens S M xl0 zl1.toInt post) : Met l yX12_opens (cw_X12_opens :: gw) RM_X12_opens (va_Pc [.ref (adr G xl0), .int zl1] (fun U => KN D G U ∧ Wd D G S M U.heap)) (QI D G S post) 0 0 (aG G) := by
  refine Met.ofW (cc := cX12_opens) (maxL := 2) (ret := (some .boolean)) (by decide) rfl ?_
  intro p e s m args below meth c s₁ B hml hv
  obtain ⟨rfl, hK, hP⟩ := hv
  have hx := B.exec
  have hb := B.bytes
  have hr := B.returns
  have hts := atoms_spec (ws := cw_X12_opens :: gw) B.pre
  have hown : s.vm.findClass RX12 = some m.cls := findClass_of_methodNamed B.named
  have hlocks := B.notSynchronized
  have hS : va_S (aG G) s.heap s.heap [] := va_S.rf
  have C : Cx p s m ([.ref (adr G xl0), .int zl1] : List Value).toArray meth c D G cX12_opens 2 (some .boolean) (cw_X12_opens :: gw) RX12 := ⟨hx, hb, hr, hlocks, hml, hown, hts, hK⟩
  have hl := lv_entry ([.ref (adr G xl0), .int zl1]) (n := 2) (Nat.le_of_ble_eq_true rfl)
  rw [lg_entry_eq]
  generalize (lg_sl ([.ref (adr G xl0), .int zl1]) ++ List.replicate (2 - (lg_sl ([.ref (adr G xl0), .int zl1])).length) Slot.unset).toArray = ls at hl ⊢
  have hl : lv_has ls 2 [(0, .ref (adr G xl0)), (1, .int zl1)] := hl
  unfold wp_X12_opens at h
  refine lv_aload_n hx hb dX12_opens_0 rfl (lv_at hl 0 rfl) ?_
  refine r_geti (C := RX12) (T := TX12) (N := 38) hx hb hts (fun w h => List.mem_cons_of_mem _ (iX12 w h)) hown hK hP rfl (by decide) rfl 13 (by decide) (hts _ (List.mem_cons_of_mem _ kw_1347)) (fun _ h9 => h9) dX12_opens_1 (by decide) h (fun z2 h => ?_)
  refine r_bipush hx hb dX12_opens_4 (by decide) h (fun z4 h => ?_)
  refine r_icmp_ne (tgt := 19) hx hb dX12_opens_6 (by decide) h (fun h => ?_) (fun h => ?_)
  · refine lv_aload_n hx hb dX12_opens_19 rfl (lv_at hl 0 rfl) ?_
    refine lv_dup hx hb dX12_opens_20 rfl ?_
    refine r_geti (C := RX12) (T := TX12) (N := 38) hx hb hts (fun w h => List.mem_cons_of_mem _ (iX12 w h)) hown hK hP rfl (by decide) rfl 13 (by decide) (hts _ (List.mem_cons_of_mem _ kw_1347)) (fun _ h9 => h9) dX12_opens_21 (by decide) h (fun z6 h => ?_)
    refine r_iconst hx hb dX12_opens_24 (by decide) h (fun z8 h => ?_)
    refine r_iadd hx hb dX12_opens_25 h (fun z10 h => ?_)
    refine r_puti (C := RX12) (T := TX12) (N := 38) hx hb hts (fun w h => List.mem_cons_of_mem _ (iX12 w h)) hown hK hP tyX12 tyX12_ok nmX12 hS rfl (by decide) rfl 13 (by decide) (hts _ (List.mem_cons_of_mem _ kw_1347)) (fun _ h9 => h9) rfl (tyX12_ok 13 (by decide)) rfl rfl dX12_opens_26 (by decide) h (fun M11 H locs h hP hS => ?_)
    refine lv_aload_n hx hb dX12_opens_29 rfl (lv_at hl 0 rfl) ?_
    refine r_getr (C := RX12) (T := TX12) (N := 38) hx hb hts (fun w h => List.mem_cons_of_mem _ (iX12 w h)) hown hK hP rfl (by decide) rfl 15 (by decide) (hts _ (List.mem_cons_of_mem _ kw_1349)) (fun _ h9 => h9) dX12_opens_30 (by decide) h (fun x13 h => ?_)
    refine lv_aload_n hx hb dX12_opens_33 rfl (lv_at hl 0 rfl) ?_
    refine r_geti (C := RX12) (T := TX12) (N := 38) hx hb hts (fun w h => List.mem_cons_of_mem _ (iX12 w h)) hown hK hP rfl (by decide) rfl 16 (by decide) (hts _ (List.mem_cons_of_mem _ kw_1350)) (fun _ h9 => h9) dX12_opens_34 (by decide) h (fun z15 h => ?_)
    refine lv_iload_n hx hb dX12_opens_37 rfl (lv_at hl 1 rfl) ?_
    refine r_iast hx hb hK hP hS dX12_opens_38 h (fun M16 H locs h hP hS => ?_)
    refine lv_aload_n hx hb dX12_opens_39 rfl (lv_at hl 0 rfl) ?_
    refine lv_dup hx hb dX12_opens_40 rfl ?_
    refine r_geti (C := RX12) (T := TX12) (N := 38) hx hb hts (fun w h => List.mem_cons_of_mem _ (iX12 w h)) hown hK hP rfl (by decide) rfl 16 (by decide) (hts _ (List.mem_cons_of_mem _ kw_1350)) (fun _ h9 => h9) dX12_opens_41 (by decide) h (fun z18 h => ?_)
    refine r_iconst hx hb dX12_opens_44 (by decide) h (fun z20 h => ?_)
    refine r_iadd hx hb dX12_opens_45 h (fun z22 h => ?_)
    refine r_puti (C := RX12) (T := TX12) (N := 38) hx hb hts (fun w h => List.mem_cons_of_mem _ (iX12 w h)) hown hK hP tyX12 tyX12_ok nmX12 hS rfl (by decide) rfl 16 (by decide) (hts _ (List.mem_cons_of_mem _ kw_1350)) (fun _ h9 => h9) rfl (tyX12_ok 16 (by decide)) rfl rfl dX12_opens_46 (by decide) h (fun M23 H locs h hP hS => ?_)
    refine r_iconst hx hb dX12_opens_49 (by decide) h (fun z25 h => ?_)
    exact r_zret hx hb hr hlocks hP hS dX12_opens_50 h
  · refine lv_aload_n hx hb dX12_opens_9 rfl (lv_at hl 0 rfl) ?_
    refine r_iconst hx hb dX12_opens_10 (by decide) h (fun z27 h => ?_)
    refine lv_aload_n hx hb dX12_opens_11 rfl (lv_at hl 0 rfl) ?_
    refine r_geti (C := RX12) (T := TX12) (N := 38) hx hb hts (fun w h => List.mem_cons_of_mem _ (iX12 w h)) hown hK hP rfl (by decide) rfl 8 (by decide) (hts _ (List.mem_cons_of_mem _ kw_1342)) (fun _ h9 => h9) dX12_opens_12 (by decide) h (fun z29 h => ?_)
    refine q_Vi hx hb hml hown hts hK hP hS (c_X12_fails l D G S _ xl0 z27 z29 _ h.2) ⟨callB_of 2 hts (gw_good kw_1500) rfl rfl rfl (hts _ (List.mem_cons_of_mem _ kw_14)) (hts _ (List.mem_cons_of_mem _ kw_1497)) hd_X12_fails ⟨Nat.le_of_ble_eq_true rfl, Nat.le_of_ble_eq_true rfl⟩, (hts _ (List.mem_cons_of_mem _ kw_1499)), (hts _ (List.mem_cons_of_mem _ kp_58))⟩ h.1 (ci := 12) rfl (by decide) rfl hl.1 rfl (lv_room (Nat.le_of_ble_eq_true rfl)) dX12_opens_15 ⟨Nat.zero_le _, Nat.zero_le _⟩ (fun z32 M30 H locs h hP hS => ?_)
    exact r_zret hx hb hr hlocks hP hS dX12_opens_18 h
