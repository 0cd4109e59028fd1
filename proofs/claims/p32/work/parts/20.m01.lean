/-! TurningMilkModel.isDairyHere(I)Z -/
abbrev RM_X12_isDairyHere : Room := { frames := 4, cells := 0, slots := 0, locals := 112 }
def cw_X12_isDairyHere : Cond := Cond.code yX12_isDairyHere cX12_isDairyHere 3 (Option.some FieldType.boolean)
theorem hd_X12_isDairyHere : yX12_isDairyHere.cls ≠ "java/lang/invoke/MethodHandle" ∧ yX12_isDairyHere.cls ≠ "java/lang/invoke/VarHandle" ∧ (parseMethodDescriptor yX12_isDairyHere.desc).map (fun d => d.parameters.length) = some 1 := by decide +kernel
theorem dX12_isDairyHere_0 : decode cX12_isDairyHere 0 = .ok (.aload_n 0, 1) := by decide +kernel
theorem dX12_isDairyHere_1 : decode cX12_isDairyHere 1 = .ok (.getfield 26, 3) := by decide +kernel
theorem dX12_isDairyHere_4 : decode cX12_isDairyHere 4 = .ok (.iconst 0, 1) := by decide +kernel
theorem dX12_isDairyHere_5 : decode cX12_isDairyHere 5 = .ok (.iaload, 1) := by decide +kernel
theorem dX12_isDairyHere_6 : decode cX12_isDairyHere 6 = .ok (.ifCond .le 10, 3) := by decide +kernel
theorem dX12_isDairyHere_9 : decode cX12_isDairyHere 9 = .ok (.aload_n 0, 1) := by decide +kernel
theorem dX12_isDairyHere_10 : decode cX12_isDairyHere 10 = .ok (.iconst 4, 1) := by decide +kernel
theorem dX12_isDairyHere_11 : decode cX12_isDairyHere 11 = .ok (.iload_n 1, 1) := by decide +kernel
theorem dX12_isDairyHere_12 : decode cX12_isDairyHere 12 = .ok (.invokevirtual 111, 3) := by decide +kernel
theorem dX12_isDairyHere_15 : decode cX12_isDairyHere 15 = .ok (.ireturn, 1) := by decide +kernel
theorem dX12_isDairyHere_16 : decode cX12_isDairyHere 16 = .ok (.aload_n 0, 1) := by decide +kernel
theorem dX12_isDairyHere_17 : decode cX12_isDairyHere 17 = .ok (.invokevirtual 105, 3) := by decide +kernel
theorem dX12_isDairyHere_20 : decode cX12_isDairyHere 20 = .ok (.aload_n 0, 1) := by decide +kernel
theorem dX12_isDairyHere_21 : decode cX12_isDairyHere 21 = .ok (.iconst 2, 1) := by decide +kernel
theorem dX12_isDairyHere_22 : decode cX12_isDairyHere 22 = .ok (.bipush 6, 2) := by decide +kernel
theorem dX12_isDairyHere_24 : decode cX12_isDairyHere 24 = .ok (.invokevirtual 163, 3) := by decide +kernel
theorem dX12_isDairyHere_27 : decode cX12_isDairyHere 27 = .ok (.ifCond .ne 5, 3) := by decide +kernel
theorem dX12_isDairyHere_30 : decode cX12_isDairyHere 30 = .ok (.iconst 0, 1) := by decide +kernel
theorem dX12_isDairyHere_31 : decode cX12_isDairyHere 31 = .ok (.ireturn, 1) := by decide +kernel
theorem dX12_isDairyHere_32 : decode cX12_isDairyHere 32 = .ok (.aload_n 0, 1) := by decide +kernel
theorem dX12_isDairyHere_33 : decode cX12_isDairyHere 33 = .ok (.getfield 115, 3) := by decide +kernel
theorem dX12_isDairyHere_36 : decode cX12_isDairyHere 36 = .ok (.istore_n 2, 1) := by decide +kernel
theorem dX12_isDairyHere_37 : decode cX12_isDairyHere 37 = .ok (.aload_n 0, 1) := by decide +kernel
theorem dX12_isDairyHere_38 : decode cX12_isDairyHere 38 = .ok (.iconst 1, 1) := by decide +kernel
theorem dX12_isDairyHere_39 : decode cX12_isDairyHere 39 = .ok (.iconst 0, 1) := by decide +kernel
theorem dX12_isDairyHere_40 : decode cX12_isDairyHere 40 = .ok (.bipush 9, 2) := by decide +kernel
theorem dX12_isDairyHere_42 : decode cX12_isDairyHere 42 = .ok (.invokevirtual 214, 3) := by decide +kernel
theorem dX12_isDairyHere_45 : decode cX12_isDairyHere 45 = .ok (.ifCond .eq 15, 3) := by decide +kernel
theorem dX12_isDairyHere_48 : decode cX12_isDairyHere 48 = .ok (.aload_n 0, 1) := by decide +kernel
theorem dX12_isDairyHere_49 : decode cX12_isDairyHere 49 = .ok (.iconst 2, 1) := by decide +kernel
theorem dX12_isDairyHere_50 : decode cX12_isDairyHere 50 = .ok (.bipush 10, 2) := by decide +kernel
theorem dX12_isDairyHere_52 : decode cX12_isDairyHere 52 = .ok (.bipush 99, 2) := by decide +kernel
theorem dX12_isDairyHere_54 : decode cX12_isDairyHere 54 = .ok (.invokevirtual 214, 3) := by decide +kernel
theorem dX12_isDairyHere_57 : decode cX12_isDairyHere 57 = .ok (.ifCond .ne 5, 3) := by decide +kernel
theorem dX12_isDairyHere_60 : decode cX12_isDairyHere 60 = .ok (.iconst 0, 1) := by decide +kernel
theorem dX12_isDairyHere_61 : decode cX12_isDairyHere 61 = .ok (.ireturn, 1) := by decide +kernel
theorem dX12_isDairyHere_62 : decode cX12_isDairyHere 62 = .ok (.aload_n 0, 1) := by decide +kernel
theorem dX12_isDairyHere_63 : decode cX12_isDairyHere 63 = .ok (.getfield 26, 3) := by decide +kernel
theorem dX12_isDairyHere_66 : decode cX12_isDairyHere 66 = .ok (.iconst 0, 1) := by decide +kernel
theorem dX12_isDairyHere_67 : decode cX12_isDairyHere 67 = .ok (.iload_n 2, 1) := by decide +kernel
theorem dX12_isDairyHere_68 : decode cX12_isDairyHere 68 = .ok (.iastore, 1) := by decide +kernel
theorem dX12_isDairyHere_69 : decode cX12_isDairyHere 69 = .ok (.iconst 1, 1) := by decide +kernel
theorem dX12_isDairyHere_70 : decode cX12_isDairyHere 70 = .ok (.ireturn, 1) := by decide +kernel
def wp_X12_isDairyHere (S : Sh) (M : Mm) (u0 : Int) (u1 : Int) (post : Int → Mm → Prop) : Prop := wGetR S M u0 12 7 fun v1 => wC 0 fun v3 => wLd S M v1 14 v3 fun v5 => wIf (v5 ≤ 0) (isK S u0 12 ∧ (wp_X12_passWord S M u0 <| fun M7 => wC 2 fun v8 => wC 6 fun v10 => isK S u0 12 ∧ (wp_X12_numberHere S M7 u0 v8 v10 <| fun v13 M12 => wIf (¬ v13 = 0) (wGet S M12 u0 12 10 fun v15 => wC 1 fun v17 => wC 0 fun v19 => wC 9 fun v21 => isK S u0 12 ∧ (wp_X12_cellHere S M12 u0 v17 v19 v21 <| fun v24 M23 => wIf (v24 = 0) (wC 0 fun v26 => (v26 = 0 ∨ v26 = 1) ∧ post v26 M23) (wC 2 fun v28 => wC 10 fun v30 => wC 99 fun v32 => isK S u0 12 ∧ (wp_X12_cellHere S M23 u0 v28 v30 v32 <| fun v35 M34 => wIf (¬ v35 = 0) (wGetR S M34 u0 12 7 fun v37 => wC 0 fun v39 => wSt S M34 v37 14 v39 v15 fun M41 => wC 1 fun v42 => (v42 = 0 ∨ v42 = 1) ∧ post v42 M41) (wC 0 fun v44 => (v44 = 0 ∨ v44 = 1) ∧ post v44 M34))))) (wC 0 fun v46 => (v46 = 0 ∨ v46 = 1) ∧ post v46 M12)))) (wC 4 fun v48 => isK S u0 12 ∧ (wp_X12_fails S M u0 v48 u1 <| fun v51 M50 => (v51 = 0 ∨ v51 = 1) ∧ post v51 M50))
set_option maxHeartbeats 4000000 in
set_option maxRecDepth 100000 in
theorem c_X12_isDairyHere (l : Launch) (D : va_G) (G : Gt) (S : Sh) (M : Mm) (xl0 : Int) (zl1 : Int32) (post : Int → Mm → Prop) (h : wp_X12_isDairyHere S M xl0 zl1.toInt post) : Met l yX12_isDairyHere (cw_X12_isDairyHere :: gw) RM_X12_isDairyHere (va_Pc [.ref (adr G xl0), .int zl1] (fun U => KN D G U ∧ Wd D G S M U.heap)) (QI D G S post) 0 0 (aG G) := by
  refine Met.ofW (cc := cX12_isDairyHere) (maxL := 3) (ret := (some .boolean)) (by decide) rfl ?_
  intro p e s m args below meth c s₁ B hml hv
  obtain ⟨rfl, hK, hP⟩ := hv
  have hx := B.exec
  have hb := B.bytes
  have hr := B.returns
  have hts := atoms_spec (ws := cw_X12_isDairyHere :: gw) B.pre
  have hown : s.vm.findClass RX12 = some m.cls := findClass_of_methodNamed B.named
  have hlocks := B.notSynchronized
  have hS : va_S (aG G) s.heap s.heap [] := va_S.rf
  have C : Cx p s m ([.ref (adr G xl0), .int zl1] : List Value).toArray meth c D G cX12_isDairyHere 3 (some .boolean) (cw_X12_isDairyHere :: gw) RX12 := ⟨hx, hb, hr, hlocks, hml, hown, hts, hK⟩
  have hl := lv_entry ([.ref (adr G xl0), .int zl1]) (n := 3) (Nat.le_of_ble_eq_true rfl)
  rw [lg_entry_eq]
  generalize (lg_sl ([.ref (adr G xl0), .int zl1]) ++ List.replicate (3 - (lg_sl ([.ref (adr G xl0), .int zl1])).length) Slot.unset).toArray = ls at hl ⊢
  have hl : lv_has ls 3 [(0, .ref (adr G xl0)), (1, .int zl1)] := hl
  unfold wp_X12_isDairyHere at h
  refine lv_aload_n hx hb dX12_isDairyHere_0 rfl (lv_at hl 0 rfl) ?_
  refine r_getr (C := RX12) (T := TX12) (N := 38) hx hb hts (fun w h => List.mem_cons_of_mem _ (iX12 w h)) hown hK hP rfl (by decide) rfl 7 (by decide) (hts _ (List.mem_cons_of_mem _ kw_1341)) (fun _ h9 => h9) dX12_isDairyHere_1 (by decide) h (fun x2 h => ?_)
  refine r_iconst hx hb dX12_isDairyHere_4 (by decide) h (fun z4 h => ?_)
  refine r_iald hx hb hK hP dX12_isDairyHere_5 h (fun z6 h => ?_)
  refine r_if_le (tgt := 16) hx hb dX12_isDairyHere_6 (by decide) h (fun h => ?_) (fun h => ?_)
  · refine lv_aload_n hx hb dX12_isDairyHere_16 rfl (lv_at hl 0 rfl) ?_
    refine q_Vv hx hb hml hown hts hK hP hS (c_X12_passWord l D G S _ xl0 _ h.2) ⟨callB_of 0 hts (gw_good kw_1512) rfl rfl rfl (hts _ (List.mem_cons_of_mem _ kw_14)) (hts _ (List.mem_cons_of_mem _ kw_1509)) hd_X12_passWord ⟨Nat.le_of_ble_eq_true rfl, Nat.le_of_ble_eq_true rfl⟩, (hts _ (List.mem_cons_of_mem _ kw_1511)), (hts _ (List.mem_cons_of_mem _ kp_61))⟩ h.1 (ci := 12) rfl (by decide) rfl hl.1 rfl (lv_room (Nat.le_of_ble_eq_true rfl)) dX12_isDairyHere_17 ⟨Nat.zero_le _, Nat.zero_le _⟩ (fun M7 H locs h hP hS => ?_)
    refine lv_aload_n hx hb dX12_isDairyHere_20 rfl (lv_at hl 0 rfl) ?_
    refine r_iconst hx hb dX12_isDairyHere_21 (by decide) h (fun z9 h => ?_)
    refine r_bipush hx hb dX12_isDairyHere_22 (by decide) h (fun z11 h => ?_)
    refine q_Vi hx hb hml hown hts hK hP hS (c_X12_numberHere l D G S _ xl0 z9 z11 _ h.2) ⟨callB_of 2 hts (gw_good kw_1516) rfl rfl rfl (hts _ (List.mem_cons_of_mem _ kw_14)) (hts _ (List.mem_cons_of_mem _ kw_1513)) hd_X12_numberHere ⟨Nat.le_of_ble_eq_true rfl, Nat.le_of_ble_eq_true rfl⟩, (hts _ (List.mem_cons_of_mem _ kw_1515)), (hts _ (List.mem_cons_of_mem _ kp_62))⟩ h.1 (ci := 12) rfl (by decide) rfl hl.1 rfl (lv_room (Nat.le_of_ble_eq_true rfl)) dX12_isDairyHere_24 ⟨Nat.zero_le _, Nat.zero_le _⟩ (fun z14 M12 H locs h hP hS => ?_)
    refine r_if_ne (tgt := 32) hx hb dX12_isDairyHere_27 (by decide) h (fun h => ?_) (fun h => ?_)
    · refine lv_aload_n hx hb dX12_isDairyHere_32 rfl (lv_at hl 0 rfl) ?_
      refine r_geti (C := RX12) (T := TX12) (N := 38) hx hb hts (fun w h => List.mem_cons_of_mem _ (iX12 w h)) hown hK hP rfl (by decide) rfl 10 (by decide) (hts _ (List.mem_cons_of_mem _ kw_1344)) (fun _ h9 => h9) dX12_isDairyHere_33 (by decide) h (fun z16 h => ?_)
      refine lv_istore_n (lv' := [(2, .int z16), (0, .ref (adr G xl0)), (1, .int zl1)]) hx hb dX12_isDairyHere_36 rfl hl (by decide) rfl (fun ls hl => ?_)
      refine lv_aload_n hx hb dX12_isDairyHere_37 rfl (lv_at hl 1 rfl) ?_
      refine r_iconst hx hb dX12_isDairyHere_38 (by decide) h (fun z18 h => ?_)
      refine r_iconst hx hb dX12_isDairyHere_39 (by decide) h (fun z20 h => ?_)
      refine r_bipush hx hb dX12_isDairyHere_40 (by decide) h (fun z22 h => ?_)
      refine q_Vi hx hb hml hown hts hK hP hS (c_X12_cellHere l D G S _ xl0 z18 z20 z22 _ h.2) ⟨callB_of 3 hts (gw_good kw_1527) rfl rfl rfl (hts _ (List.mem_cons_of_mem _ kw_14)) (hts _ (List.mem_cons_of_mem _ kw_1524)) hd_X12_cellHere ⟨Nat.le_of_ble_eq_true rfl, Nat.le_of_ble_eq_true rfl⟩, (hts _ (List.mem_cons_of_mem _ kw_1526)), (hts _ (List.mem_cons_of_mem _ kp_64))⟩ h.1 (ci := 12) rfl (by decide) rfl hl.1 rfl (lv_room (Nat.le_of_ble_eq_true rfl)) dX12_isDairyHere_42 ⟨Nat.zero_le _, Nat.zero_le _⟩ (fun z25 M23 H locs h hP hS => ?_)
      refine r_if_eq (tgt := 60) hx hb dX12_isDairyHere_45 (by decide) h (fun h => ?_) (fun h => ?_)
      · refine r_iconst hx hb dX12_isDairyHere_60 (by decide) h (fun z27 h => ?_)
        exact r_zret hx hb hr hlocks hP hS dX12_isDairyHere_61 h
      · refine lv_aload_n hx hb dX12_isDairyHere_48 rfl (lv_at hl 1 rfl) ?_
        refine r_iconst hx hb dX12_isDairyHere_49 (by decide) h (fun z29 h => ?_)
        refine r_bipush hx hb dX12_isDairyHere_50 (by decide) h (fun z31 h => ?_)
        refine r_bipush hx hb dX12_isDairyHere_52 (by decide) h (fun z33 h => ?_)
        refine q_Vi hx hb hml hown hts hK hP hS (c_X12_cellHere l D G S _ xl0 z29 z31 z33 _ h.2) ⟨callB_of 3 hts (gw_good kw_1527) rfl rfl rfl (hts _ (List.mem_cons_of_mem _ kw_14)) (hts _ (List.mem_cons_of_mem _ kw_1524)) hd_X12_cellHere ⟨Nat.le_of_ble_eq_true rfl, Nat.le_of_ble_eq_true rfl⟩, (hts _ (List.mem_cons_of_mem _ kw_1526)), (hts _ (List.mem_cons_of_mem _ kp_64))⟩ h.1 (ci := 12) rfl (by decide) rfl hl.1 rfl (lv_room (Nat.le_of_ble_eq_true rfl)) dX12_isDairyHere_54 ⟨Nat.zero_le _, Nat.zero_le _⟩ (fun z36 M34 H locs h hP hS => ?_)
        refine r_if_ne (tgt := 62) hx hb dX12_isDairyHere_57 (by decide) h (fun h => ?_) (fun h => ?_)
        · refine lv_aload_n hx hb dX12_isDairyHere_62 rfl (lv_at hl 1 rfl) ?_
          refine r_getr (C := RX12) (T := TX12) (N := 38) hx hb hts (fun w h => List.mem_cons_of_mem _ (iX12 w h)) hown hK hP rfl (by decide) rfl 7 (by decide) (hts _ (List.mem_cons_of_mem _ kw_1341)) (fun _ h9 => h9) dX12_isDairyHere_63 (by decide) h (fun x38 h => ?_)
          refine r_iconst hx hb dX12_isDairyHere_66 (by decide) h (fun z40 h => ?_)
          refine lv_iload_n hx hb dX12_isDairyHere_67 rfl (lv_at hl 0 rfl) ?_
          refine r_iast hx hb hK hP hS dX12_isDairyHere_68 h (fun M41 H locs h hP hS => ?_)
          refine r_iconst hx hb dX12_isDairyHere_69 (by decide) h (fun z43 h => ?_)
          exact r_zret hx hb hr hlocks hP hS dX12_isDairyHere_70 h
        · refine r_iconst hx hb dX12_isDairyHere_60 (by decide) h (fun z45 h => ?_)
          exact r_zret hx hb hr hlocks hP hS dX12_isDairyHere_61 h
    · refine r_iconst hx hb dX12_isDairyHere_30 (by decide) h (fun z47 h => ?_)
      exact r_zret hx hb hr hlocks hP hS dX12_isDairyHere_31 h
  · refine lv_aload_n hx hb dX12_isDairyHere_9 rfl (lv_at hl 0 rfl) ?_
    refine r_iconst hx hb dX12_isDairyHere_10 (by decide) h (fun z49 h => ?_)
    refine lv_iload_n hx hb dX12_isDairyHere_11 rfl (lv_at hl 1 rfl) ?_
    refine q_Vi hx hb hml hown hts hK hP hS (c_X12_fails l D G S _ xl0 z49 zl1 _ h.2) ⟨callB_of 2 hts (gw_good kw_1500) rfl rfl rfl (hts _ (List.mem_cons_of_mem _ kw_14)) (hts _ (List.mem_cons_of_mem _ kw_1497)) hd_X12_fails ⟨Nat.le_of_ble_eq_true rfl, Nat.le_of_ble_eq_true rfl⟩, (hts _ (List.mem_cons_of_mem _ kw_1499)), (hts _ (List.mem_cons_of_mem _ kp_58))⟩ h.1 (ci := 12) rfl (by decide) rfl hl.1 rfl (lv_room (Nat.le_of_ble_eq_true rfl)) dX12_isDairyHere_12 ⟨Nat.zero_le _, Nat.zero_le _⟩ (fun z52 M50 H locs h hP hS => ?_)
    exact r_zret hx hb hr hlocks hP hS dX12_isDairyHere_15 h
/-! TurningMilkModel.isRoadTold(II)Z -/
abbrev RM_X12_isRoadTold : Room := { frames := 1, cells := 0, slots := 0, locals := 40 }
def cw_X12_isRoadTold : Cond := Cond.code yX12_isRoadTold cX12_isRoadTold 5 (Option.some FieldType.boolean)
theorem hd_X12_isRoadTold : yX12_isRoadTold.cls ≠ "java/lang/invoke/MethodHandle" ∧ yX12_isRoadTold.cls ≠ "java/lang/invoke/VarHandle" ∧ (parseMethodDescriptor yX12_isRoadTold.desc).map (fun d => d.parameters.length) = some 2 := by decide +kernel
theorem dX12_isRoadTold_0 : decode cX12_isRoadTold 0 = .ok (.iconst 0, 1) := by decide +kernel
theorem dX12_isRoadTold_1 : decode cX12_isRoadTold 1 = .ok (.istore_n 3, 1) := by decide +kernel
theorem dX12_isRoadTold_2 : decode cX12_isRoadTold 2 = .ok (.iload_n 3, 1) := by decide +kernel
theorem dX12_isRoadTold_3 : decode cX12_isRoadTold 3 = .ok (.aload_n 0, 1) := by decide +kernel
theorem dX12_isRoadTold_4 : decode cX12_isRoadTold 4 = .ok (.getfield 26, 3) := by decide +kernel
theorem dX12_isRoadTold_7 : decode cX12_isRoadTold 7 = .ok (.iconst 3, 1) := by decide +kernel
theorem dX12_isRoadTold_8 : decode cX12_isRoadTold 8 = .ok (.iaload, 1) := by decide +kernel
theorem dX12_isRoadTold_9 : decode cX12_isRoadTold 9 = .ok (.if_icmp .ge 67, 3) := by decide +kernel
theorem dX12_isRoadTold_12 : decode cX12_isRoadTold 12 = .ok (.bipush 57, 2) := by decide +kernel
theorem dX12_isRoadTold_14 : decode cX12_isRoadTold 14 = .ok (.iconst 3, 1) := by decide +kernel
theorem dX12_isRoadTold_15 : decode cX12_isRoadTold 15 = .ok (.iload_n 3, 1) := by decide +kernel
theorem dX12_isRoadTold_16 : decode cX12_isRoadTold 16 = .ok (.imul, 1) := by decide +kernel
theorem dX12_isRoadTold_17 : decode cX12_isRoadTold 17 = .ok (.iadd, 1) := by decide +kernel
theorem dX12_isRoadTold_18 : decode cX12_isRoadTold 18 = .ok (.istore 4, 2) := by decide +kernel
theorem dX12_isRoadTold_20 : decode cX12_isRoadTold 20 = .ok (.aload_n 0, 1) := by decide +kernel
theorem dX12_isRoadTold_21 : decode cX12_isRoadTold 21 = .ok (.getfield 26, 3) := by decide +kernel
theorem dX12_isRoadTold_24 : decode cX12_isRoadTold 24 = .ok (.iload 4, 2) := by decide +kernel
theorem dX12_isRoadTold_26 : decode cX12_isRoadTold 26 = .ok (.iaload, 1) := by decide +kernel
theorem dX12_isRoadTold_27 : decode cX12_isRoadTold 27 = .ok (.iload_n 1, 1) := by decide +kernel
theorem dX12_isRoadTold_28 : decode cX12_isRoadTold 28 = .ok (.if_icmp .ne 16, 3) := by decide +kernel
theorem dX12_isRoadTold_31 : decode cX12_isRoadTold 31 = .ok (.aload_n 0, 1) := by decide +kernel
theorem dX12_isRoadTold_32 : decode cX12_isRoadTold 32 = .ok (.getfield 26, 3) := by decide +kernel
theorem dX12_isRoadTold_35 : decode cX12_isRoadTold 35 = .ok (.iload 4, 2) := by decide +kernel
theorem dX12_isRoadTold_37 : decode cX12_isRoadTold 37 = .ok (.iconst 1, 1) := by decide +kernel
theorem dX12_isRoadTold_38 : decode cX12_isRoadTold 38 = .ok (.iadd, 1) := by decide +kernel
theorem dX12_isRoadTold_39 : decode cX12_isRoadTold 39 = .ok (.iaload, 1) := by decide +kernel
theorem dX12_isRoadTold_40 : decode cX12_isRoadTold 40 = .ok (.iload_n 2, 1) := by decide +kernel
theorem dX12_isRoadTold_41 : decode cX12_isRoadTold 41 = .ok (.if_icmp .eq 27, 3) := by decide +kernel
theorem dX12_isRoadTold_44 : decode cX12_isRoadTold 44 = .ok (.aload_n 0, 1) := by decide +kernel
theorem dX12_isRoadTold_45 : decode cX12_isRoadTold 45 = .ok (.getfield 26, 3) := by decide +kernel
theorem dX12_isRoadTold_48 : decode cX12_isRoadTold 48 = .ok (.iload 4, 2) := by decide +kernel
theorem dX12_isRoadTold_50 : decode cX12_isRoadTold 50 = .ok (.iaload, 1) := by decide +kernel
theorem dX12_isRoadTold_51 : decode cX12_isRoadTold 51 = .ok (.iload_n 2, 1) := by decide +kernel
theorem dX12_isRoadTold_52 : decode cX12_isRoadTold 52 = .ok (.if_icmp .ne 18, 3) := by decide +kernel
theorem dX12_isRoadTold_55 : decode cX12_isRoadTold 55 = .ok (.aload_n 0, 1) := by decide +kernel
theorem dX12_isRoadTold_56 : decode cX12_isRoadTold 56 = .ok (.getfield 26, 3) := by decide +kernel
theorem dX12_isRoadTold_59 : decode cX12_isRoadTold 59 = .ok (.iload 4, 2) := by decide +kernel
theorem dX12_isRoadTold_61 : decode cX12_isRoadTold 61 = .ok (.iconst 1, 1) := by decide +kernel
theorem dX12_isRoadTold_62 : decode cX12_isRoadTold 62 = .ok (.iadd, 1) := by decide +kernel
theorem dX12_isRoadTold_63 : decode cX12_isRoadTold 63 = .ok (.iaload, 1) := by decide +kernel
theorem dX12_isRoadTold_64 : decode cX12_isRoadTold 64 = .ok (.iload_n 1, 1) := by decide +kernel
theorem dX12_isRoadTold_65 : decode cX12_isRoadTold 65 = .ok (.if_icmp .ne 5, 3) := by decide +kernel
theorem dX12_isRoadTold_68 : decode cX12_isRoadTold 68 = .ok (.iconst 1, 1) := by decide +kernel
theorem dX12_isRoadTold_69 : decode cX12_isRoadTold 69 = .ok (.ireturn, 1) := by decide +kernel
theorem dX12_isRoadTold_70 : decode cX12_isRoadTold 70 = .ok (.iinc 3 1, 3) := by decide +kernel
theorem dX12_isRoadTold_73 : decode cX12_isRoadTold 73 = .ok (.goto (-71), 3) := by decide +kernel
theorem dX12_isRoadTold_76 : decode cX12_isRoadTold 76 = .ok (.iconst 0, 1) := by decide +kernel
theorem dX12_isRoadTold_77 : decode cX12_isRoadTold 77 = .ok (.ireturn, 1) := by decide +kernel
def wp_X12_isRoadTold_70 (S : Sh) (k2 : Int → Int → Int → Int → Mm → Prop) (post : Int → Mm → Prop) (u0 : Int) (u1 : Int) (u2 : Int) (u3 : Int) (M : Mm) : Prop := wA u3 1 fun v1 => k2 u0 u1 u2 v1 M
def wp_X12_isRoadTold_44 (S : Sh) (k2 : Int → Int → Int → Int → Mm → Prop) (post : Int → Mm → Prop) (u0 : Int) (u1 : Int) (u2 : Int) (u3 : Int) (u4 : Int) (M : Mm) : Prop := wGetR S M u0 12 7 fun v3 => wLd S M v3 14 u4 fun v5 => wIf (¬ v5 = u2) (wp_X12_isRoadTold_70 S k2 post u0 u1 u2 u3 M) (wGetR S M u0 12 7 fun v7 => wC 1 fun v9 => wA u4 v9 fun v11 => wLd S M v7 14 v11 fun v13 => wIf (¬ v13 = u1) (wp_X12_isRoadTold_70 S k2 post u0 u1 u2 u3 M) (wC 1 fun v15 => (v15 = 0 ∨ v15 = 1) ∧ post v15 M))
def wp_X12_isRoadTold_2 (S : Sh) (post : Int → Mm → Prop) : Nat → Int → Int → Int → Int → Mm → Prop
  | 0, _, _, _, _, _ => False
  | n + 1, u0, u1, u2, u3, M => wGetR S M u0 12 7 fun v17 => wC 3 fun v19 => wLd S M v17 14 v19 fun v21 => wIf (v21 ≤ u3) (wC 0 fun v23 => (v23 = 0 ∨ v23 = 1) ∧ post v23 M) (wC 57 fun v25 => wC 3 fun v27 => wM v27 u3 fun v29 => wA v25 v29 fun v31 => wGetR S M u0 12 7 fun v33 => wLd S M v33 14 v31 fun v35 => wIf (¬ v35 = u1) (wp_X12_isRoadTold_44 S (fun a0 a1 a2 a3 M => wp_X12_isRoadTold_2 S post n a0 a1 a2 a3 M) post u0 u1 u2 u3 v31 M) (wGetR S M u0 12 7 fun v37 => wC 1 fun v39 => wA v31 v39 fun v41 => wLd S M v37 14 v41 fun v43 => wIf (v43 = u2) (wC 1 fun v45 => (v45 = 0 ∨ v45 = 1) ∧ post v45 M) (wp_X12_isRoadTold_44 S (fun a0 a1 a2 a3 M => wp_X12_isRoadTold_2 S post n a0 a1 a2 a3 M) post u0 u1 u2 u3 v31 M)))
def wp_X12_isRoadTold (S : Sh) (M : Mm) (u0 : Int) (u1 : Int) (u2 : Int) (post : Int → Mm → Prop) : Prop := wC 0 fun v47 => ∃ n9 : Nat, wp_X12_isRoadTold_2 S post n9 u0 u1 u2 v47 M
set_option maxHeartbeats 4000000 in
set_option maxRecDepth 100000 in
theorem t_X12_isRoadTold_70 {p : Program} {l : Launch} {e : Env} {s : State} {m : MethodId} {args : Array Value} {below : List Frame} {meth : Method} {c : Code} {D : va_G} {G : Gt} {S : Sh} {post : Int → Mm → Prop} {k2 : Int → Int → Int → Int → Mm → Prop} (C : Cx p s m args meth c D G cX12_isRoadTold 5 (some .boolean) (cw_X12_isRoadTold :: gw) RX12) (hk2 : ∀ (y0 : Int) (y1 : Int32) (y2 : Int32) (y3 : Int32) (M : Mm) (H : Heap) (locs : List Loc) (ls : Array Slot), Wd D G S M H → va_S (aG G) s.heap H locs → lv_has ls 5 [(0, .ref (adr G y0)), (1, .int y1), (2, .int y2), (3, .int y3)] → k2 y0 y1.toInt y2.toInt y3.toInt M → W p l e RM_X12_isRoadTold s m args below meth c H locs 0 0 (MQ below (QI D G S post) args s 0 0 (aG G)) (F0 m 2 ls [])) : ∀ (xl0 : Int) (zl1 : Int32) (zl2 : Int32) (zl3 : Int32) (M : Mm) (H : Heap) (locs : List Loc) (ls : Array Slot), Wd D G S M H → va_S (aG G) s.heap H locs → lv_has ls 5 [(0, .ref (adr G xl0)), (1, .int zl1), (2, .int zl2), (3, .int zl3)] → wp_X12_isRoadTold_70 S k2 post xl0 zl1.toInt zl2.toInt zl3.toInt  M → W p l e RM_X12_isRoadTold s m args below meth c H locs 0 0 (MQ below (QI D G S post) args s 0 0 (aG G)) (F0 m 70 ls []) := by
  obtain ⟨hx, hb, hr, hlocks, hml, hown, hts, hK⟩ := id C
  intro xl0 zl1 zl2 zl3 M H locs ls hP hS hl h
  unfold wp_X12_isRoadTold_70 at h
  refine r_iinc hx hb (fun z2 => [(3, .int z2), (0, .ref (adr G xl0)), (1, .int zl1), (2, .int zl2)]) dX12_isRoadTold_70 (by decide) hl (k := 3) rfl (by decide) (fun _ => rfl) h (fun z2 ls hl h => ?_)
  refine lv_goto (tgt := 2) hx hb dX12_isRoadTold_73 (by decide) ?_
  exact hk2 xl0 zl1 zl2 z2 _ _ _ _ hP hS (lv_sub hl [1, 2, 3, 0] rfl) h
set_option maxHeartbeats 4000000 in
set_option maxRecDepth 100000 in
theorem t_X12_isRoadTold_44 {p : Program} {l : Launch} {e : Env} {s : State} {m : MethodId} {args : Array Value} {below : List Frame} {meth : Method} {c : Code} {D : va_G} {G : Gt} {S : Sh} {post : Int → Mm → Prop} {k2 : Int → Int → Int → Int → Mm → Prop} (C : Cx p s m args meth c D G cX12_isRoadTold 5 (some .boolean) (cw_X12_isRoadTold :: gw) RX12) (hk2 : ∀ (y0 : Int) (y1 : Int32) (y2 : Int32) (y3 : Int32) (M : Mm) (H : Heap) (locs : List Loc) (ls : Array Slot), Wd D G S M H → va_S (aG G) s.heap H locs → lv_has ls 5 [(0, .ref (adr G y0)), (1, .int y1), (2, .int y2), (3, .int y3)] → k2 y0 y1.toInt y2.toInt y3.toInt M → W p l e RM_X12_isRoadTold s m args below meth c H locs 0 0 (MQ below (QI D G S post) args s 0 0 (aG G)) (F0 m 2 ls [])) : ∀ (xl0 : Int) (zl1 : Int32) (zl2 : Int32) (zl3 : Int32) (zl4 : Int32) (M : Mm) (H : Heap) (locs : List Loc) (ls : Array Slot), Wd D G S M H → va_S (aG G) s.heap H locs → lv_has ls 5 [(0, .ref (adr G xl0)), (1, .int zl1), (2, .int zl2), (3, .int zl3), (4, .int zl4)] → wp_X12_isRoadTold_44 S k2 post xl0 zl1.toInt zl2.toInt zl3.toInt zl4.toInt  M → W p l e RM_X12_isRoadTold s m args below meth c H locs 0 0 (MQ below (QI D G S post) args s 0 0 (aG G)) (F0 m 44 ls []) := by
  obtain ⟨hx, hb, hr, hlocks, hml, hown, hts, hK⟩ := id C
  intro xl0 zl1 zl2 zl3 zl4 M H locs ls hP hS hl h
  unfold wp_X12_isRoadTold_44 at h
  refine lv_aload_n hx hb dX12_isRoadTold_44 rfl (lv_at hl 0 rfl) ?_
  refine r_getr (C := RX12) (T := TX12) (N := 38) hx hb hts (fun w h => List.mem_cons_of_mem _ (iX12 w h)) hown hK hP rfl (by decide) rfl 7 (by decide) (hts _ (List.mem_cons_of_mem _ kw_1341)) (fun _ h9 => h9) dX12_isRoadTold_45 (by decide) h (fun x4 h => ?_)
  refine lv_iload hx hb dX12_isRoadTold_48 (lv_at hl 4 rfl) ?_
  refine r_iald hx hb hK hP dX12_isRoadTold_50 h (fun z6 h => ?_)
  refine lv_iload_n hx hb dX12_isRoadTold_51 rfl (lv_at hl 2 rfl) ?_
  refine r_icmp_ne (tgt := 70) hx hb dX12_isRoadTold_52 (by decide) h (fun h => ?_) (fun h => ?_)
  · exact t_X12_isRoadTold_70 C hk2 xl0 zl1 zl2 zl3 _ _ _ _ hP hS (lv_sub hl [0, 1, 2, 3] rfl) h
  · refine lv_aload_n hx hb dX12_isRoadTold_55 rfl (lv_at hl 0 rfl) ?_
    refine r_getr (C := RX12) (T := TX12) (N := 38) hx hb hts (fun w h => List.mem_cons_of_mem _ (iX12 w h)) hown hK hP rfl (by decide) rfl 7 (by decide) (hts _ (List.mem_cons_of_mem _ kw_1341)) (fun _ h9 => h9) dX12_isRoadTold_56 (by decide) h (fun x8 h => ?_)
    refine lv_iload hx hb dX12_isRoadTold_59 (lv_at hl 4 rfl) ?_
    refine r_iconst hx hb dX12_isRoadTold_61 (by decide) h (fun z10 h => ?_)
    refine r_iadd hx hb dX12_isRoadTold_62 h (fun z12 h => ?_)
    refine r_iald hx hb hK hP dX12_isRoadTold_63 h (fun z14 h => ?_)
    refine lv_iload_n hx hb dX12_isRoadTold_64 rfl (lv_at hl 1 rfl) ?_
    refine r_icmp_ne (tgt := 70) hx hb dX12_isRoadTold_65 (by decide) h (fun h => ?_) (fun h => ?_)
    · exact t_X12_isRoadTold_70 C hk2 xl0 zl1 zl2 zl3 _ _ _ _ hP hS (lv_sub hl [0, 1, 2, 3] rfl) h
    · refine r_iconst hx hb dX12_isRoadTold_68 (by decide) h (fun z16 h => ?_)
      exact r_zret hx hb hr hlocks hP hS dX12_isRoadTold_69 h
set_option maxHeartbeats 4000000 in
set_option maxRecDepth 100000 in
theorem t_X12_isRoadTold_2 {p : Program} {l : Launch} {e : Env} {s : State} {m : MethodId} {args : Array Value} {below : List Frame} {meth : Method} {c : Code} {D : va_G} {G : Gt} {S : Sh} {post : Int → Mm → Prop} (C : Cx p s m args meth c D G cX12_isRoadTold 5 (some .boolean) (cw_X12_isRoadTold :: gw) RX12) : ∀ (n : Nat) (xl0 : Int) (zl1 : Int32) (zl2 : Int32) (zl3 : Int32) (M : Mm) (H : Heap) (locs : List Loc) (ls : Array Slot), Wd D G S M H → va_S (aG G) s.heap H locs → lv_has ls 5 [(0, .ref (adr G xl0)), (1, .int zl1), (2, .int zl2), (3, .int zl3)] → wp_X12_isRoadTold_2 S post n xl0 zl1.toInt zl2.toInt zl3.toInt  M → W p l e RM_X12_isRoadTold s m args below meth c H locs 0 0 (MQ below (QI D G S post) args s 0 0 (aG G)) (F0 m 2 ls []) := by
  obtain ⟨hx, hb, hr, hlocks, hml, hown, hts, hK⟩ := id C
  intro n
  induction n with
  | zero => intro xl0 zl1 zl2 zl3 M H locs ls hP hS hl h; exact h.elim
  | succ n ih =>
    intro xl0 zl1 zl2 zl3 M H locs ls hP hS hl h
    unfold wp_X12_isRoadTold_2 at h
    refine lv_iload_n hx hb dX12_isRoadTold_2 rfl (lv_at hl 3 rfl) ?_
    refine lv_aload_n hx hb dX12_isRoadTold_3 rfl (lv_at hl 0 rfl) ?_
    refine r_getr (C := RX12) (T := TX12) (N := 38) hx hb hts (fun w h => List.mem_cons_of_mem _ (iX12 w h)) hown hK hP rfl (by decide) rfl 7 (by decide) (hts _ (List.mem_cons_of_mem _ kw_1341)) (fun _ h9 => h9) dX12_isRoadTold_4 (by decide) h (fun x18 h => ?_)
    refine r_iconst hx hb dX12_isRoadTold_7 (by decide) h (fun z20 h => ?_)
    refine r_iald hx hb hK hP dX12_isRoadTold_8 h (fun z22 h => ?_)
    refine r_icmp_ge (tgt := 76) hx hb dX12_isRoadTold_9 (by decide) h (fun h => ?_) (fun h => ?_)
    · refine r_iconst hx hb dX12_isRoadTold_76 (by decide) h (fun z24 h => ?_)
      exact r_zret hx hb hr hlocks hP hS dX12_isRoadTold_77 h
    · refine r_bipush hx hb dX12_isRoadTold_12 (by decide) h (fun z26 h => ?_)
      refine r_iconst hx hb dX12_isRoadTold_14 (by decide) h (fun z28 h => ?_)
      refine lv_iload_n hx hb dX12_isRoadTold_15 rfl (lv_at hl 3 rfl) ?_
      refine r_imul hx hb dX12_isRoadTold_16 h (fun z30 h => ?_)
      refine r_iadd hx hb dX12_isRoadTold_17 h (fun z32 h => ?_)
      refine lv_istore (lv' := [(4, .int z32), (0, .ref (adr G xl0)), (1, .int zl1), (2, .int zl2), (3, .int zl3)]) hx hb dX12_isRoadTold_18 hl (by decide) rfl (fun ls hl => ?_)
      refine lv_aload_n hx hb dX12_isRoadTold_20 rfl (lv_at hl 1 rfl) ?_
      refine r_getr (C := RX12) (T := TX12) (N := 38) hx hb hts (fun w h => List.mem_cons_of_mem _ (iX12 w h)) hown hK hP rfl (by decide) rfl 7 (by decide) (hts _ (List.mem_cons_of_mem _ kw_1341)) (fun _ h9 => h9) dX12_isRoadTold_21 (by decide) h (fun x34 h => ?_)
      refine lv_iload hx hb dX12_isRoadTold_24 (lv_at hl 0 rfl) ?_
      refine r_iald hx hb hK hP dX12_isRoadTold_26 h (fun z36 h => ?_)
      refine lv_iload_n hx hb dX12_isRoadTold_27 rfl (lv_at hl 2 rfl) ?_
      refine r_icmp_ne (tgt := 44) hx hb dX12_isRoadTold_28 (by decide) h (fun h => ?_) (fun h => ?_)
      · exact t_X12_isRoadTold_44 C ih xl0 zl1 zl2 zl3 z32 _ _ _ _ hP hS (lv_sub hl [1, 2, 3, 4, 0] rfl) h
      · refine lv_aload_n hx hb dX12_isRoadTold_31 rfl (lv_at hl 1 rfl) ?_
        refine r_getr (C := RX12) (T := TX12) (N := 38) hx hb hts (fun w h => List.mem_cons_of_mem _ (iX12 w h)) hown hK hP rfl (by decide) rfl 7 (by decide) (hts _ (List.mem_cons_of_mem _ kw_1341)) (fun _ h9 => h9) dX12_isRoadTold_32 (by decide) h (fun x38 h => ?_)
        refine lv_iload hx hb dX12_isRoadTold_35 (lv_at hl 0 rfl) ?_
        refine r_iconst hx hb dX12_isRoadTold_37 (by decide) h (fun z40 h => ?_)
        refine r_iadd hx hb dX12_isRoadTold_38 h (fun z42 h => ?_)
        refine r_iald hx hb hK hP dX12_isRoadTold_39 h (fun z44 h => ?_)
        refine lv_iload_n hx hb dX12_isRoadTold_40 rfl (lv_at hl 3 rfl) ?_
        refine r_icmp_eq (tgt := 68) hx hb dX12_isRoadTold_41 (by decide) h (fun h => ?_) (fun h => ?_)
        · refine r_iconst hx hb dX12_isRoadTold_68 (by decide) h (fun z46 h => ?_)
          exact r_zret hx hb hr hlocks hP hS dX12_isRoadTold_69 h
        · exact t_X12_isRoadTold_44 C ih xl0 zl1 zl2 zl3 z32 _ _ _ _ hP hS (lv_sub hl [1, 2, 3, 4, 0] rfl) h
set_option maxHeartbeats 4000000 in
set_option maxRecDepth 100000 in
theorem c_X12_isRoadTold (l : Launch) (D : va_G) (G : Gt) (S : Sh) (M : Mm) (xl0 : Int) (zl1 : Int32) (zl2 : Int32) (post : Int → Mm → Prop) (h : wp_X12_isRoadTold S M xl0 zl1.toInt zl2.toInt post) : Met l yX12_isRoadTold (cw_X12_isRoadTold :: gw) RM_X12_isRoadTold (va_Pc [.ref (adr G xl0), .int zl1, .int zl2] (fun U => KN D G U ∧ Wd D G S M U.heap)) (QI D G S post) 0 0 (aG G) := by
  refine Met.ofW (cc := cX12_isRoadTold) (maxL := 5) (ret := (some .boolean)) (by decide) rfl ?_
  intro p e s m args below meth c s₁ B hml hv
  obtain ⟨rfl, hK, hP⟩ := hv
  have hx := B.exec
  have hb := B.bytes
  have hr := B.returns
  have hts := atoms_spec (ws := cw_X12_isRoadTold :: gw) B.pre
  have hown : s.vm.findClass RX12 = some m.cls := findClass_of_methodNamed B.named
  have hlocks := B.notSynchronized
  have hS : va_S (aG G) s.heap s.heap [] := va_S.rf
  have C : Cx p s m ([.ref (adr G xl0), .int zl1, .int zl2] : List Value).toArray meth c D G cX12_isRoadTold 5 (some .boolean) (cw_X12_isRoadTold :: gw) RX12 := ⟨hx, hb, hr, hlocks, hml, hown, hts, hK⟩
  have hl := lv_entry ([.ref (adr G xl0), .int zl1, .int zl2]) (n := 5) (Nat.le_of_ble_eq_true rfl)
  rw [lg_entry_eq]
  generalize (lg_sl ([.ref (adr G xl0), .int zl1, .int zl2]) ++ List.replicate (5 - (lg_sl ([.ref (adr G xl0), .int zl1, .int zl2])).length) Slot.unset).toArray = ls at hl ⊢
  have hl : lv_has ls 5 [(0, .ref (adr G xl0)), (1, .int zl1), (2, .int zl2)] := hl
  unfold wp_X12_isRoadTold at h
  refine r_iconst hx hb dX12_isRoadTold_0 (by decide) h (fun z48 h => ?_)
  refine lv_istore_n (lv' := [(3, .int z48), (0, .ref (adr G xl0)), (1, .int zl1), (2, .int zl2)]) hx hb dX12_isRoadTold_1 rfl hl (by decide) rfl (fun ls hl => ?_)
  obtain ⟨n9, h⟩ := h
  exact t_X12_isRoadTold_2 C n9 xl0 zl1 zl2 z48 _ _ _ _ hP hS (lv_sub hl [1, 2, 3, 0] rfl) h
/-! TurningMilkModel.isRoadHere(I)Z -/
abbrev RM_X12_isRoadHere : Room := { frames := 4, cells := 0, slots := 0, locals := 112 }
def cw_X12_isRoadHere : Cond := Cond.code yX12_isRoadHere cX12_isRoadHere 4 (Option.some FieldType.boolean)
theorem hd_X12_isRoadHere : yX12_isRoadHere.cls ≠ "java/lang/invoke/MethodHandle" ∧ yX12_isRoadHere.cls ≠ "java/lang/invoke/VarHandle" ∧ (parseMethodDescriptor yX12_isRoadHere.desc).map (fun d => d.parameters.length) = some 1 := by decide +kernel
theorem dX12_isRoadHere_0 : decode cX12_isRoadHere 0 = .ok (.aload_n 0, 1) := by decide +kernel
theorem dX12_isRoadHere_1 : decode cX12_isRoadHere 1 = .ok (.getfield 26, 3) := by decide +kernel
theorem dX12_isRoadHere_4 : decode cX12_isRoadHere 4 = .ok (.iconst 3, 1) := by decide +kernel
theorem dX12_isRoadHere_5 : decode cX12_isRoadHere 5 = .ok (.iaload, 1) := by decide +kernel
theorem dX12_isRoadHere_6 : decode cX12_isRoadHere 6 = .ok (.bipush 8, 2) := by decide +kernel
theorem dX12_isRoadHere_8 : decode cX12_isRoadHere 8 = .ok (.if_icmp .ne 10, 3) := by decide +kernel
theorem dX12_isRoadHere_11 : decode cX12_isRoadHere 11 = .ok (.aload_n 0, 1) := by decide +kernel
theorem dX12_isRoadHere_12 : decode cX12_isRoadHere 12 = .ok (.iconst 4, 1) := by decide +kernel
theorem dX12_isRoadHere_13 : decode cX12_isRoadHere 13 = .ok (.iload_n 1, 1) := by decide +kernel
theorem dX12_isRoadHere_14 : decode cX12_isRoadHere 14 = .ok (.invokevirtual 111, 3) := by decide +kernel
theorem dX12_isRoadHere_17 : decode cX12_isRoadHere 17 = .ok (.ireturn, 1) := by decide +kernel
theorem dX12_isRoadHere_18 : decode cX12_isRoadHere 18 = .ok (.aload_n 0, 1) := by decide +kernel
theorem dX12_isRoadHere_19 : decode cX12_isRoadHere 19 = .ok (.invokevirtual 105, 3) := by decide +kernel
theorem dX12_isRoadHere_22 : decode cX12_isRoadHere 22 = .ok (.bipush 57, 2) := by decide +kernel
theorem dX12_isRoadHere_24 : decode cX12_isRoadHere 24 = .ok (.iconst 3, 1) := by decide +kernel
theorem dX12_isRoadHere_25 : decode cX12_isRoadHere 25 = .ok (.aload_n 0, 1) := by decide +kernel
theorem dX12_isRoadHere_26 : decode cX12_isRoadHere 26 = .ok (.getfield 26, 3) := by decide +kernel
theorem dX12_isRoadHere_29 : decode cX12_isRoadHere 29 = .ok (.iconst 3, 1) := by decide +kernel
theorem dX12_isRoadHere_30 : decode cX12_isRoadHere 30 = .ok (.iaload, 1) := by decide +kernel
theorem dX12_isRoadHere_31 : decode cX12_isRoadHere 31 = .ok (.imul, 1) := by decide +kernel
theorem dX12_isRoadHere_32 : decode cX12_isRoadHere 32 = .ok (.iadd, 1) := by decide +kernel
theorem dX12_isRoadHere_33 : decode cX12_isRoadHere 33 = .ok (.istore_n 2, 1) := by decide +kernel
theorem dX12_isRoadHere_34 : decode cX12_isRoadHere 34 = .ok (.aload_n 0, 1) := by decide +kernel
theorem dX12_isRoadHere_35 : decode cX12_isRoadHere 35 = .ok (.iload_n 2, 1) := by decide +kernel
theorem dX12_isRoadHere_36 : decode cX12_isRoadHere 36 = .ok (.iconst 0, 1) := by decide +kernel
theorem dX12_isRoadHere_37 : decode cX12_isRoadHere 37 = .ok (.aload_n 0, 1) := by decide +kernel
theorem dX12_isRoadHere_38 : decode cX12_isRoadHere 38 = .ok (.getfield 26, 3) := by decide +kernel
theorem dX12_isRoadHere_41 : decode cX12_isRoadHere 41 = .ok (.iconst 0, 1) := by decide +kernel
theorem dX12_isRoadHere_42 : decode cX12_isRoadHere 42 = .ok (.iaload, 1) := by decide +kernel
theorem dX12_isRoadHere_43 : decode cX12_isRoadHere 43 = .ok (.iconst 1, 1) := by decide +kernel
theorem dX12_isRoadHere_44 : decode cX12_isRoadHere 44 = .ok (.isub, 1) := by decide +kernel
theorem dX12_isRoadHere_45 : decode cX12_isRoadHere 45 = .ok (.invokevirtual 214, 3) := by decide +kernel
theorem dX12_isRoadHere_48 : decode cX12_isRoadHere 48 = .ok (.ifCond .ne 5, 3) := by decide +kernel
theorem dX12_isRoadHere_51 : decode cX12_isRoadHere 51 = .ok (.iconst 0, 1) := by decide +kernel
theorem dX12_isRoadHere_52 : decode cX12_isRoadHere 52 = .ok (.ireturn, 1) := by decide +kernel
theorem dX12_isRoadHere_53 : decode cX12_isRoadHere 53 = .ok (.aload_n 0, 1) := by decide +kernel
theorem dX12_isRoadHere_54 : decode cX12_isRoadHere 54 = .ok (.invokevirtual 93, 3) := by decide +kernel
theorem dX12_isRoadHere_57 : decode cX12_isRoadHere 57 = .ok (.pop, 1) := by decide +kernel
theorem dX12_isRoadHere_58 : decode cX12_isRoadHere 58 = .ok (.aload_n 0, 1) := by decide +kernel
theorem dX12_isRoadHere_59 : decode cX12_isRoadHere 59 = .ok (.getfield 90, 3) := by decide +kernel
theorem dX12_isRoadHere_62 : decode cX12_isRoadHere 62 = .ok (.istore_n 3, 1) := by decide +kernel
theorem dX12_isRoadHere_63 : decode cX12_isRoadHere 63 = .ok (.aload_n 0, 1) := by decide +kernel
theorem dX12_isRoadHere_64 : decode cX12_isRoadHere 64 = .ok (.iload_n 2, 1) := by decide +kernel
theorem dX12_isRoadHere_65 : decode cX12_isRoadHere 65 = .ok (.iconst 1, 1) := by decide +kernel
theorem dX12_isRoadHere_66 : decode cX12_isRoadHere 66 = .ok (.iadd, 1) := by decide +kernel
theorem dX12_isRoadHere_67 : decode cX12_isRoadHere 67 = .ok (.iconst 0, 1) := by decide +kernel
theorem dX12_isRoadHere_68 : decode cX12_isRoadHere 68 = .ok (.aload_n 0, 1) := by decide +kernel
theorem dX12_isRoadHere_69 : decode cX12_isRoadHere 69 = .ok (.getfield 26, 3) := by decide +kernel
theorem dX12_isRoadHere_72 : decode cX12_isRoadHere 72 = .ok (.iconst 0, 1) := by decide +kernel
theorem dX12_isRoadHere_73 : decode cX12_isRoadHere 73 = .ok (.iaload, 1) := by decide +kernel
theorem dX12_isRoadHere_74 : decode cX12_isRoadHere 74 = .ok (.iconst 1, 1) := by decide +kernel
theorem dX12_isRoadHere_75 : decode cX12_isRoadHere 75 = .ok (.isub, 1) := by decide +kernel
theorem dX12_isRoadHere_76 : decode cX12_isRoadHere 76 = .ok (.invokevirtual 214, 3) := by decide +kernel
theorem dX12_isRoadHere_79 : decode cX12_isRoadHere 79 = .ok (.ifCond .ne 5, 3) := by decide +kernel
theorem dX12_isRoadHere_82 : decode cX12_isRoadHere 82 = .ok (.iconst 0, 1) := by decide +kernel
theorem dX12_isRoadHere_83 : decode cX12_isRoadHere 83 = .ok (.ireturn, 1) := by decide +kernel
theorem dX12_isRoadHere_84 : decode cX12_isRoadHere 84 = .ok (.aload_n 0, 1) := by decide +kernel
theorem dX12_isRoadHere_85 : decode cX12_isRoadHere 85 = .ok (.getfield 26, 3) := by decide +kernel
theorem dX12_isRoadHere_88 : decode cX12_isRoadHere 88 = .ok (.iload_n 2, 1) := by decide +kernel
theorem dX12_isRoadHere_89 : decode cX12_isRoadHere 89 = .ok (.iaload, 1) := by decide +kernel
theorem dX12_isRoadHere_90 : decode cX12_isRoadHere 90 = .ok (.aload_n 0, 1) := by decide +kernel
theorem dX12_isRoadHere_91 : decode cX12_isRoadHere 91 = .ok (.getfield 26, 3) := by decide +kernel
theorem dX12_isRoadHere_94 : decode cX12_isRoadHere 94 = .ok (.iload_n 2, 1) := by decide +kernel
theorem dX12_isRoadHere_95 : decode cX12_isRoadHere 95 = .ok (.iconst 1, 1) := by decide +kernel
theorem dX12_isRoadHere_96 : decode cX12_isRoadHere 96 = .ok (.iadd, 1) := by decide +kernel
theorem dX12_isRoadHere_97 : decode cX12_isRoadHere 97 = .ok (.iaload, 1) := by decide +kernel
theorem dX12_isRoadHere_98 : decode cX12_isRoadHere 98 = .ok (.if_icmp .eq 24, 3) := by decide +kernel
theorem dX12_isRoadHere_101 : decode cX12_isRoadHere 101 = .ok (.aload_n 0, 1) := by decide +kernel
theorem dX12_isRoadHere_102 : decode cX12_isRoadHere 102 = .ok (.aload_n 0, 1) := by decide +kernel
theorem dX12_isRoadHere_103 : decode cX12_isRoadHere 103 = .ok (.getfield 26, 3) := by decide +kernel
theorem dX12_isRoadHere_106 : decode cX12_isRoadHere 106 = .ok (.iload_n 2, 1) := by decide +kernel
theorem dX12_isRoadHere_107 : decode cX12_isRoadHere 107 = .ok (.iaload, 1) := by decide +kernel
theorem dX12_isRoadHere_108 : decode cX12_isRoadHere 108 = .ok (.aload_n 0, 1) := by decide +kernel
theorem dX12_isRoadHere_109 : decode cX12_isRoadHere 109 = .ok (.getfield 26, 3) := by decide +kernel
theorem dX12_isRoadHere_112 : decode cX12_isRoadHere 112 = .ok (.iload_n 2, 1) := by decide +kernel
theorem dX12_isRoadHere_113 : decode cX12_isRoadHere 113 = .ok (.iconst 1, 1) := by decide +kernel
theorem dX12_isRoadHere_114 : decode cX12_isRoadHere 114 = .ok (.iadd, 1) := by decide +kernel
theorem dX12_isRoadHere_115 : decode cX12_isRoadHere 115 = .ok (.iaload, 1) := by decide +kernel
theorem dX12_isRoadHere_116 : decode cX12_isRoadHere 116 = .ok (.invokevirtual 218, 3) := by decide +kernel
theorem dX12_isRoadHere_119 : decode cX12_isRoadHere 119 = .ok (.ifCond .eq 10, 3) := by decide +kernel
theorem dX12_isRoadHere_122 : decode cX12_isRoadHere 122 = .ok (.aload_n 0, 1) := by decide +kernel
theorem dX12_isRoadHere_123 : decode cX12_isRoadHere 123 = .ok (.iconst 1, 1) := by decide +kernel
theorem dX12_isRoadHere_124 : decode cX12_isRoadHere 124 = .ok (.iload_n 3, 1) := by decide +kernel
theorem dX12_isRoadHere_125 : decode cX12_isRoadHere 125 = .ok (.invokevirtual 111, 3) := by decide +kernel
theorem dX12_isRoadHere_128 : decode cX12_isRoadHere 128 = .ok (.ireturn, 1) := by decide +kernel
theorem dX12_isRoadHere_129 : decode cX12_isRoadHere 129 = .ok (.aload_n 0, 1) := by decide +kernel
theorem dX12_isRoadHere_130 : decode cX12_isRoadHere 130 = .ok (.iload_n 2, 1) := by decide +kernel
theorem dX12_isRoadHere_131 : decode cX12_isRoadHere 131 = .ok (.iconst 2, 1) := by decide +kernel
theorem dX12_isRoadHere_132 : decode cX12_isRoadHere 132 = .ok (.iadd, 1) := by decide +kernel
theorem dX12_isRoadHere_133 : decode cX12_isRoadHere 133 = .ok (.iconst 1, 1) := by decide +kernel
theorem dX12_isRoadHere_134 : decode cX12_isRoadHere 134 = .ok (.iconst 5, 1) := by decide +kernel
theorem dX12_isRoadHere_135 : decode cX12_isRoadHere 135 = .ok (.invokevirtual 214, 3) := by decide +kernel
theorem dX12_isRoadHere_138 : decode cX12_isRoadHere 138 = .ok (.ifCond .ne 5, 3) := by decide +kernel
theorem dX12_isRoadHere_141 : decode cX12_isRoadHere 141 = .ok (.iconst 0, 1) := by decide +kernel
theorem dX12_isRoadHere_142 : decode cX12_isRoadHere 142 = .ok (.ireturn, 1) := by decide +kernel
theorem dX12_isRoadHere_143 : decode cX12_isRoadHere 143 = .ok (.aload_n 0, 1) := by decide +kernel
theorem dX12_isRoadHere_144 : decode cX12_isRoadHere 144 = .ok (.getfield 26, 3) := by decide +kernel
theorem dX12_isRoadHere_147 : decode cX12_isRoadHere 147 = .ok (.iconst 3, 1) := by decide +kernel
theorem dX12_isRoadHere_148 : decode cX12_isRoadHere 148 = .ok (.dup2, 1) := by decide +kernel
theorem dX12_isRoadHere_149 : decode cX12_isRoadHere 149 = .ok (.iaload, 1) := by decide +kernel
theorem dX12_isRoadHere_150 : decode cX12_isRoadHere 150 = .ok (.iconst 1, 1) := by decide +kernel
theorem dX12_isRoadHere_151 : decode cX12_isRoadHere 151 = .ok (.iadd, 1) := by decide +kernel
theorem dX12_isRoadHere_152 : decode cX12_isRoadHere 152 = .ok (.iastore, 1) := by decide +kernel
theorem dX12_isRoadHere_153 : decode cX12_isRoadHere 153 = .ok (.iconst 1, 1) := by decide +kernel
theorem dX12_isRoadHere_154 : decode cX12_isRoadHere 154 = .ok (.ireturn, 1) := by decide +kernel
def wp_X12_isRoadHere_122 (S : Sh) (post : Int → Mm → Prop) (u0 : Int) (u3 : Int) (M : Mm) : Prop := wC 1 fun v1 => isK S u0 12 ∧ (wp_X12_fails S M u0 v1 u3 <| fun v4 M3 => (v4 = 0 ∨ v4 = 1) ∧ post v4 M3)
def wp_X12_isRoadHere (S : Sh) (M : Mm) (u0 : Int) (u1 : Int) (post : Int → Mm → Prop) : Prop := wGetR S M u0 12 7 fun v6 => wC 3 fun v8 => wLd S M v6 14 v8 fun v10 => wC 8 fun v12 => wIf (¬ v10 = v12) (isK S u0 12 ∧ (wp_X12_passWord S M u0 <| fun M14 => wC 57 fun v15 => wC 3 fun v17 => wGetR S M14 u0 12 7 fun v19 => wC 3 fun v21 => wLd S M14 v19 14 v21 fun v23 => wM v17 v23 fun v25 => wA v15 v25 fun v27 => wC 0 fun v29 => wGetR S M14 u0 12 7 fun v31 => wC 0 fun v33 => wLd S M14 v31 14 v33 fun v35 => wC 1 fun v37 => wS v35 v37 fun v39 => isK S u0 12 ∧ (wp_X12_cellHere S M14 u0 v27 v29 v39 <| fun v42 M41 => wIf (¬ v42 = 0) (isK S u0 12 ∧ (wp_X12_see S M41 u0 <| fun v45 M44 => wGet S M44 u0 12 8 fun v47 => wC 1 fun v49 => wA v27 v49 fun v51 => wC 0 fun v53 => wGetR S M44 u0 12 7 fun v55 => wC 0 fun v57 => wLd S M44 v55 14 v57 fun v59 => wC 1 fun v61 => wS v59 v61 fun v63 => isK S u0 12 ∧ (wp_X12_cellHere S M44 u0 v51 v53 v63 <| fun v66 M65 => wIf (¬ v66 = 0) (wGetR S M65 u0 12 7 fun v68 => wLd S M65 v68 14 v27 fun v70 => wGetR S M65 u0 12 7 fun v72 => wC 1 fun v74 => wA v27 v74 fun v76 => wLd S M65 v72 14 v76 fun v78 => wIf (v70 = v78) (wp_X12_isRoadHere_122 S post u0 v47 M65) (wGetR S M65 u0 12 7 fun v80 => wLd S M65 v80 14 v27 fun v82 => wGetR S M65 u0 12 7 fun v84 => wC 1 fun v86 => wA v27 v86 fun v88 => wLd S M65 v84 14 v88 fun v90 => isK S u0 12 ∧ (wp_X12_isRoadTold S M65 u0 v82 v90 <| fun v93 M92 => wIf (v93 = 0) (wC 2 fun v95 => wA v27 v95 fun v97 => wC 1 fun v99 => wC 5 fun v101 => isK S u0 12 ∧ (wp_X12_cellHere S M92 u0 v97 v99 v101 <| fun v104 M103 => wIf (¬ v104 = 0) (wGetR S M103 u0 12 7 fun v106 => wC 3 fun v108 => wLd S M103 v106 14 v108 fun v110 => wC 1 fun v112 => wA v110 v112 fun v114 => wSt S M103 v106 14 v108 v114 fun M116 => wC 1 fun v117 => (v117 = 0 ∨ v117 = 1) ∧ post v117 M116) (wC 0 fun v119 => (v119 = 0 ∨ v119 = 1) ∧ post v119 M103))) (wp_X12_isRoadHere_122 S post u0 v47 M92)))) (wC 0 fun v121 => (v121 = 0 ∨ v121 = 1) ∧ post v121 M65)))) (wC 0 fun v123 => (v123 = 0 ∨ v123 = 1) ∧ post v123 M41)))) (wC 4 fun v125 => isK S u0 12 ∧ (wp_X12_fails S M u0 v125 u1 <| fun v128 M127 => (v128 = 0 ∨ v128 = 1) ∧ post v128 M127))
set_option maxHeartbeats 4000000 in
set_option maxRecDepth 100000 in
theorem t_X12_isRoadHere_122 {p : Program} {l : Launch} {e : Env} {s : State} {m : MethodId} {args : Array Value} {below : List Frame} {meth : Method} {c : Code} {D : va_G} {G : Gt} {S : Sh} {post : Int → Mm → Prop} (C : Cx p s m args meth c D G cX12_isRoadHere 4 (some .boolean) (cw_X12_isRoadHere :: gw) RX12) : ∀ (xl0 : Int) (zl3 : Int32) (M : Mm) (H : Heap) (locs : List Loc) (ls : Array Slot), Wd D G S M H → va_S (aG G) s.heap H locs → lv_has ls 4 [(0, .ref (adr G xl0)), (3, .int zl3)] → wp_X12_isRoadHere_122 S post xl0 zl3.toInt  M → W p l e RM_X12_isRoadHere s m args below meth c H locs 0 0 (MQ below (QI D G S post) args s 0 0 (aG G)) (F0 m 122 ls []) := by
  obtain ⟨hx, hb, hr, hlocks, hml, hown, hts, hK⟩ := id C
  intro xl0 zl3 M H locs ls hP hS hl h
  unfold wp_X12_isRoadHere_122 at h
  refine lv_aload_n hx hb dX12_isRoadHere_122 rfl (lv_at hl 0 rfl) ?_
  refine r_iconst hx hb dX12_isRoadHere_123 (by decide) h (fun z2 h => ?_)
  refine lv_iload_n hx hb dX12_isRoadHere_124 rfl (lv_at hl 1 rfl) ?_
  refine q_Vi hx hb hml hown hts hK hP hS (c_X12_fails l D G S _ xl0 z2 zl3 _ h.2) ⟨callB_of 2 hts (gw_good kw_1500) rfl rfl rfl (hts _ (List.mem_cons_of_mem _ kw_14)) (hts _ (List.mem_cons_of_mem _ kw_1497)) hd_X12_fails ⟨Nat.le_of_ble_eq_true rfl, Nat.le_of_ble_eq_true rfl⟩, (hts _ (List.mem_cons_of_mem _ kw_1499)), (hts _ (List.mem_cons_of_mem _ kp_58))⟩ h.1 (ci := 12) rfl (by decide) rfl hl.1 rfl (lv_room (Nat.le_of_ble_eq_true rfl)) dX12_isRoadHere_125 ⟨Nat.zero_le _, Nat.zero_le _⟩ (fun z5 M3 H locs h hP hS => ?_)
  exact r_zret hx hb hr hlocks hP hS dX12_isRoadHere_128 h
set_option maxHeartbeats 4000000 in
set_option maxRecDepth 100000 in
theorem c_X12_isRoadHere (l : Launch) (D : va_G) (G : Gt) (S : Sh) (M : Mm) (xl0 : Int) (zl1 : Int32) (post : Int → Mm → Prop) (h : wp_X12_isRoadHere S M xl0 zl1.toInt post) : Met l yX12_isRoadHere (cw_X12_isRoadHere :: gw) RM_X12_isRoadHere (va_Pc [.ref (adr G xl0), .int zl1] (fun U => KN D G U ∧ Wd D G S M U.heap)) (QI D G S post) 0 0 (aG G) := by
  refine Met.ofW (cc := cX12_isRoadHere) (maxL := 4) (ret := (some .boolean)) (by decide) rfl ?_
  intro p e s m args below meth c s₁ B hml hv
  obtain ⟨rfl, hK, hP⟩ := hv
  have hx := B.exec
  have hb := B.bytes
  have hr := B.returns
  have hts := atoms_spec (ws := cw_X12_isRoadHere :: gw) B.pre
  have hown : s.vm.findClass RX12 = some m.cls := findClass_of_methodNamed B.named
  have hlocks := B.notSynchronized
  have hS : va_S (aG G) s.heap s.heap [] := va_S.rf
  have C : Cx p s m ([.ref (adr G xl0), .int zl1] : List Value).toArray meth c D G cX12_isRoadHere 4 (some .boolean) (cw_X12_isRoadHere :: gw) RX12 := ⟨hx, hb, hr, hlocks, hml, hown, hts, hK⟩
  have hl := lv_entry ([.ref (adr G xl0), .int zl1]) (n := 4) (Nat.le_of_ble_eq_true rfl)
  rw [lg_entry_eq]
  generalize (lg_sl ([.ref (adr G xl0), .int zl1]) ++ List.replicate (4 - (lg_sl ([.ref (adr G xl0), .int zl1])).length) Slot.unset).toArray = ls at hl ⊢
  have hl : lv_has ls 4 [(0, .ref (adr G xl0)), (1, .int zl1)] := hl
  unfold wp_X12_isRoadHere at h
  refine lv_aload_n hx hb dX12_isRoadHere_0 rfl (lv_at hl 0 rfl) ?_
  refine r_getr (C := RX12) (T := TX12) (N := 38) hx hb hts (fun w h => List.mem_cons_of_mem _ (iX12 w h)) hown hK hP rfl (by decide) rfl 7 (by decide) (hts _ (List.mem_cons_of_mem _ kw_1341)) (fun _ h9 => h9) dX12_isRoadHere_1 (by decide) h (fun x7 h => ?_)
  refine r_iconst hx hb dX12_isRoadHere_4 (by decide) h (fun z9 h => ?_)
  refine r_iald hx hb hK hP dX12_isRoadHere_5 h (fun z11 h => ?_)
  refine r_bipush hx hb dX12_isRoadHere_6 (by decide) h (fun z13 h => ?_)
  refine r_icmp_ne (tgt := 18) hx hb dX12_isRoadHere_8 (by decide) h (fun h => ?_) (fun h => ?_)
  · refine lv_aload_n hx hb dX12_isRoadHere_18 rfl (lv_at hl 0 rfl) ?_
    refine q_Vv hx hb hml hown hts hK hP hS (c_X12_passWord l D G S _ xl0 _ h.2) ⟨callB_of 0 hts (gw_good kw_1512) rfl rfl rfl (hts _ (List.mem_cons_of_mem _ kw_14)) (hts _ (List.mem_cons_of_mem _ kw_1509)) hd_X12_passWord ⟨Nat.le_of_ble_eq_true rfl, Nat.le_of_ble_eq_true rfl⟩, (hts _ (List.mem_cons_of_mem _ kw_1511)), (hts _ (List.mem_cons_of_mem _ kp_61))⟩ h.1 (ci := 12) rfl (by decide) rfl hl.1 rfl (lv_room (Nat.le_of_ble_eq_true rfl)) dX12_isRoadHere_19 ⟨Nat.zero_le _, Nat.zero_le _⟩ (fun M14 H locs h hP hS => ?_)
    refine r_bipush hx hb dX12_isRoadHere_22 (by decide) h (fun z16 h => ?_)
    refine r_iconst hx hb dX12_isRoadHere_24 (by decide) h (fun z18 h => ?_)
    refine lv_aload_n hx hb dX12_isRoadHere_25 rfl (lv_at hl 0 rfl) ?_
    refine r_getr (C := RX12) (T := TX12) (N := 38) hx hb hts (fun w h => List.mem_cons_of_mem _ (iX12 w h)) hown hK hP rfl (by decide) rfl 7 (by decide) (hts _ (List.mem_cons_of_mem _ kw_1341)) (fun _ h9 => h9) dX12_isRoadHere_26 (by decide) h (fun x20 h => ?_)
    refine r_iconst hx hb dX12_isRoadHere_29 (by decide) h (fun z22 h => ?_)
    refine r_iald hx hb hK hP dX12_isRoadHere_30 h (fun z24 h => ?_)
    refine r_imul hx hb dX12_isRoadHere_31 h (fun z26 h => ?_)
    refine r_iadd hx hb dX12_isRoadHere_32 h (fun z28 h => ?_)
    refine lv_istore_n (lv' := [(2, .int z28), (0, .ref (adr G xl0)), (1, .int zl1)]) hx hb dX12_isRoadHere_33 rfl hl (by decide) rfl (fun ls hl => ?_)
    refine lv_aload_n hx hb dX12_isRoadHere_34 rfl (lv_at hl 1 rfl) ?_
    refine lv_iload_n hx hb dX12_isRoadHere_35 rfl (lv_at hl 0 rfl) ?_
    refine r_iconst hx hb dX12_isRoadHere_36 (by decide) h (fun z30 h => ?_)
    refine lv_aload_n hx hb dX12_isRoadHere_37 rfl (lv_at hl 1 rfl) ?_
    refine r_getr (C := RX12) (T := TX12) (N := 38) hx hb hts (fun w h => List.mem_cons_of_mem _ (iX12 w h)) hown hK hP rfl (by decide) rfl 7 (by decide) (hts _ (List.mem_cons_of_mem _ kw_1341)) (fun _ h9 => h9) dX12_isRoadHere_38 (by decide) h (fun x32 h => ?_)
    refine r_iconst hx hb dX12_isRoadHere_41 (by decide) h (fun z34 h => ?_)
    refine r_iald hx hb hK hP dX12_isRoadHere_42 h (fun z36 h => ?_)
    refine r_iconst hx hb dX12_isRoadHere_43 (by decide) h (fun z38 h => ?_)
    refine r_isub hx hb dX12_isRoadHere_44 h (fun z40 h => ?_)
    refine q_Vi hx hb hml hown hts hK hP hS (c_X12_cellHere l D G S _ xl0 z28 z30 z40 _ h.2) ⟨callB_of 3 hts (gw_good kw_1527) rfl rfl rfl (hts _ (List.mem_cons_of_mem _ kw_14)) (hts _ (List.mem_cons_of_mem _ kw_1524)) hd_X12_cellHere ⟨Nat.le_of_ble_eq_true rfl, Nat.le_of_ble_eq_true rfl⟩, (hts _ (List.mem_cons_of_mem _ kw_1526)), (hts _ (List.mem_cons_of_mem _ kp_64))⟩ h.1 (ci := 12) rfl (by decide) rfl hl.1 rfl (lv_room (Nat.le_of_ble_eq_true rfl)) dX12_isRoadHere_45 ⟨Nat.zero_le _, Nat.zero_le _⟩ (fun z43 M41 H locs h hP hS => ?_)
    refine r_if_ne (tgt := 53) hx hb dX12_isRoadHere_48 (by decide) h (fun h => ?_) (fun h => ?_)
    · refine lv_aload_n hx hb dX12_isRoadHere_53 rfl (lv_at hl 1 rfl) ?_
      refine q_Vi hx hb hml hown hts hK hP hS (c_X12_see l D G S _ xl0 _ h.2) ⟨callB_of 0 hts (gw_good kw_1477) rfl rfl rfl (hts _ (List.mem_cons_of_mem _ kw_14)) (hts _ (List.mem_cons_of_mem _ kw_1474)) hd_X12_see ⟨Nat.le_of_ble_eq_true rfl, Nat.le_of_ble_eq_true rfl⟩, (hts _ (List.mem_cons_of_mem _ kw_1476)), (hts _ (List.mem_cons_of_mem _ kp_54))⟩ h.1 (ci := 12) rfl (by decide) rfl hl.1 rfl (lv_room (Nat.le_of_ble_eq_true rfl)) dX12_isRoadHere_54 ⟨Nat.zero_le _, Nat.zero_le _⟩ (fun z46 M44 H locs h hP hS => ?_)
      refine lv_pop hx hb dX12_isRoadHere_57 rfl ?_
      refine lv_aload_n hx hb dX12_isRoadHere_58 rfl (lv_at hl 1 rfl) ?_
      refine r_geti (C := RX12) (T := TX12) (N := 38) hx hb hts (fun w h => List.mem_cons_of_mem _ (iX12 w h)) hown hK hP rfl (by decide) rfl 8 (by decide) (hts _ (List.mem_cons_of_mem _ kw_1342)) (fun _ h9 => h9) dX12_isRoadHere_59 (by decide) h (fun z48 h => ?_)
      refine lv_istore_n (lv' := [(3, .int z48), (2, .int z28), (0, .ref (adr G xl0)), (1, .int zl1)]) hx hb dX12_isRoadHere_62 rfl hl (by decide) rfl (fun ls hl => ?_)
      refine lv_aload_n hx hb dX12_isRoadHere_63 rfl (lv_at hl 2 rfl) ?_
      refine lv_iload_n hx hb dX12_isRoadHere_64 rfl (lv_at hl 1 rfl) ?_
      refine r_iconst hx hb dX12_isRoadHere_65 (by decide) h (fun z50 h => ?_)
      refine r_iadd hx hb dX12_isRoadHere_66 h (fun z52 h => ?_)
      refine r_iconst hx hb dX12_isRoadHere_67 (by decide) h (fun z54 h => ?_)
      refine lv_aload_n hx hb dX12_isRoadHere_68 rfl (lv_at hl 2 rfl) ?_
      refine r_getr (C := RX12) (T := TX12) (N := 38) hx hb hts (fun w h => List.mem_cons_of_mem _ (iX12 w h)) hown hK hP rfl (by decide) rfl 7 (by decide) (hts _ (List.mem_cons_of_mem _ kw_1341)) (fun _ h9 => h9) dX12_isRoadHere_69 (by decide) h (fun x56 h => ?_)
      refine r_iconst hx hb dX12_isRoadHere_72 (by decide) h (fun z58 h => ?_)
      refine r_iald hx hb hK hP dX12_isRoadHere_73 h (fun z60 h => ?_)
      refine r_iconst hx hb dX12_isRoadHere_74 (by decide) h (fun z62 h => ?_)
      refine r_isub hx hb dX12_isRoadHere_75 h (fun z64 h => ?_)
      refine q_Vi hx hb hml hown hts hK hP hS (c_X12_cellHere l D G S _ xl0 z52 z54 z64 _ h.2) ⟨callB_of 3 hts (gw_good kw_1527) rfl rfl rfl (hts _ (List.mem_cons_of_mem _ kw_14)) (hts _ (List.mem_cons_of_mem _ kw_1524)) hd_X12_cellHere ⟨Nat.le_of_ble_eq_true rfl, Nat.le_of_ble_eq_true rfl⟩, (hts _ (List.mem_cons_of_mem _ kw_1526)), (hts _ (List.mem_cons_of_mem _ kp_64))⟩ h.1 (ci := 12) rfl (by decide) rfl hl.1 rfl (lv_room (Nat.le_of_ble_eq_true rfl)) dX12_isRoadHere_76 ⟨Nat.zero_le _, Nat.zero_le _⟩ (fun z67 M65 H locs h hP hS => ?_)
      refine r_if_ne (tgt := 84) hx hb dX12_isRoadHere_79 (by decide) h (fun h => ?_) (fun h => ?_)
      · refine lv_aload_n hx hb dX12_isRoadHere_84 rfl (lv_at hl 2 rfl) ?_
        refine r_getr (C := RX12) (T := TX12) (N := 38) hx hb hts (fun w h => List.mem_cons_of_mem _ (iX12 w h)) hown hK hP rfl (by decide) rfl 7 (by decide) (hts _ (List.mem_cons_of_mem _ kw_1341)) (fun _ h9 => h9) dX12_isRoadHere_85 (by decide) h (fun x69 h => ?_)
        refine lv_iload_n hx hb dX12_isRoadHere_88 rfl (lv_at hl 1 rfl) ?_
        refine r_iald hx hb hK hP dX12_isRoadHere_89 h (fun z71 h => ?_)
        refine lv_aload_n hx hb dX12_isRoadHere_90 rfl (lv_at hl 2 rfl) ?_
        refine r_getr (C := RX12) (T := TX12) (N := 38) hx hb hts (fun w h => List.mem_cons_of_mem _ (iX12 w h)) hown hK hP rfl (by decide) rfl 7 (by decide) (hts _ (List.mem_cons_of_mem _ kw_1341)) (fun _ h9 => h9) dX12_isRoadHere_91 (by decide) h (fun x73 h => ?_)
        refine lv_iload_n hx hb dX12_isRoadHere_94 rfl (lv_at hl 1 rfl) ?_
        refine r_iconst hx hb dX12_isRoadHere_95 (by decide) h (fun z75 h => ?_)
        refine r_iadd hx hb dX12_isRoadHere_96 h (fun z77 h => ?_)
        refine r_iald hx hb hK hP dX12_isRoadHere_97 h (fun z79 h => ?_)
        refine r_icmp_eq (tgt := 122) hx hb dX12_isRoadHere_98 (by decide) h (fun h => ?_) (fun h => ?_)
        · exact t_X12_isRoadHere_122 C xl0 z48 _ _ _ _ hP hS (lv_sub hl [2, 0] rfl) h
        · refine lv_aload_n hx hb dX12_isRoadHere_101 rfl (lv_at hl 2 rfl) ?_
          refine lv_aload_n hx hb dX12_isRoadHere_102 rfl (lv_at hl 2 rfl) ?_
          refine r_getr (C := RX12) (T := TX12) (N := 38) hx hb hts (fun w h => List.mem_cons_of_mem _ (iX12 w h)) hown hK hP rfl (by decide) rfl 7 (by decide) (hts _ (List.mem_cons_of_mem _ kw_1341)) (fun _ h9 => h9) dX12_isRoadHere_103 (by decide) h (fun x81 h => ?_)
          refine lv_iload_n hx hb dX12_isRoadHere_106 rfl (lv_at hl 1 rfl) ?_
          refine r_iald hx hb hK hP dX12_isRoadHere_107 h (fun z83 h => ?_)
          refine lv_aload_n hx hb dX12_isRoadHere_108 rfl (lv_at hl 2 rfl) ?_
          refine r_getr (C := RX12) (T := TX12) (N := 38) hx hb hts (fun w h => List.mem_cons_of_mem _ (iX12 w h)) hown hK hP rfl (by decide) rfl 7 (by decide) (hts _ (List.mem_cons_of_mem _ kw_1341)) (fun _ h9 => h9) dX12_isRoadHere_109 (by decide) h (fun x85 h => ?_)
          refine lv_iload_n hx hb dX12_isRoadHere_112 rfl (lv_at hl 1 rfl) ?_
          refine r_iconst hx hb dX12_isRoadHere_113 (by decide) h (fun z87 h => ?_)
          refine r_iadd hx hb dX12_isRoadHere_114 h (fun z89 h => ?_)
          refine r_iald hx hb hK hP dX12_isRoadHere_115 h (fun z91 h => ?_)
          refine q_Vi hx hb hml hown hts hK hP hS (c_X12_isRoadTold l D G S _ xl0 z83 z91 _ h.2) ⟨callB_of 2 hts (gw_good kw_1535) rfl rfl rfl (hts _ (List.mem_cons_of_mem _ kw_14)) (hts _ (List.mem_cons_of_mem _ kw_1532)) hd_X12_isRoadTold ⟨Nat.le_of_ble_eq_true rfl, Nat.le_of_ble_eq_true rfl⟩, (hts _ (List.mem_cons_of_mem _ kw_1534)), (hts _ (List.mem_cons_of_mem _ kp_66))⟩ h.1 (ci := 12) rfl (by decide) rfl hl.1 rfl (lv_room (Nat.le_of_ble_eq_true rfl)) dX12_isRoadHere_116 ⟨Nat.zero_le _, Nat.zero_le _⟩ (fun z94 M92 H locs h hP hS => ?_)
          refine r_if_eq (tgt := 129) hx hb dX12_isRoadHere_119 (by decide) h (fun h => ?_) (fun h => ?_)
          · refine lv_aload_n hx hb dX12_isRoadHere_129 rfl (lv_at hl 2 rfl) ?_
            refine lv_iload_n hx hb dX12_isRoadHere_130 rfl (lv_at hl 1 rfl) ?_
            refine r_iconst hx hb dX12_isRoadHere_131 (by decide) h (fun z96 h => ?_)
            refine r_iadd hx hb dX12_isRoadHere_132 h (fun z98 h => ?_)
            refine r_iconst hx hb dX12_isRoadHere_133 (by decide) h (fun z100 h => ?_)
            refine r_iconst hx hb dX12_isRoadHere_134 (by decide) h (fun z102 h => ?_)
            refine q_Vi hx hb hml hown hts hK hP hS (c_X12_cellHere l D G S _ xl0 z98 z100 z102 _ h.2) ⟨callB_of 3 hts (gw_good kw_1527) rfl rfl rfl (hts _ (List.mem_cons_of_mem _ kw_14)) (hts _ (List.mem_cons_of_mem _ kw_1524)) hd_X12_cellHere ⟨Nat.le_of_ble_eq_true rfl, Nat.le_of_ble_eq_true rfl⟩, (hts _ (List.mem_cons_of_mem _ kw_1526)), (hts _ (List.mem_cons_of_mem _ kp_64))⟩ h.1 (ci := 12) rfl (by decide) rfl hl.1 rfl (lv_room (Nat.le_of_ble_eq_true rfl)) dX12_isRoadHere_135 ⟨Nat.zero_le _, Nat.zero_le _⟩ (fun z105 M103 H locs h hP hS => ?_)
            refine r_if_ne (tgt := 143) hx hb dX12_isRoadHere_138 (by decide) h (fun h => ?_) (fun h => ?_)
            · refine lv_aload_n hx hb dX12_isRoadHere_143 rfl (lv_at hl 2 rfl) ?_
              refine r_getr (C := RX12) (T := TX12) (N := 38) hx hb hts (fun w h => List.mem_cons_of_mem _ (iX12 w h)) hown hK hP rfl (by decide) rfl 7 (by decide) (hts _ (List.mem_cons_of_mem _ kw_1341)) (fun _ h9 => h9) dX12_isRoadHere_144 (by decide) h (fun x107 h => ?_)
              refine r_iconst hx hb dX12_isRoadHere_147 (by decide) h (fun z109 h => ?_)
              refine lv_dup2_11 hx hb dX12_isRoadHere_148 rfl rfl ?_
              refine r_iald hx hb hK hP dX12_isRoadHere_149 h (fun z111 h => ?_)
              refine r_iconst hx hb dX12_isRoadHere_150 (by decide) h (fun z113 h => ?_)
              refine r_iadd hx hb dX12_isRoadHere_151 h (fun z115 h => ?_)
              refine r_iast hx hb hK hP hS dX12_isRoadHere_152 h (fun M116 H locs h hP hS => ?_)
              refine r_iconst hx hb dX12_isRoadHere_153 (by decide) h (fun z118 h => ?_)
              exact r_zret hx hb hr hlocks hP hS dX12_isRoadHere_154 h
            · refine r_iconst hx hb dX12_isRoadHere_141 (by decide) h (fun z120 h => ?_)
              exact r_zret hx hb hr hlocks hP hS dX12_isRoadHere_142 h
          · exact t_X12_isRoadHere_122 C xl0 z48 _ _ _ _ hP hS (lv_sub hl [2, 0] rfl) h
      · refine r_iconst hx hb dX12_isRoadHere_82 (by decide) h (fun z122 h => ?_)
        exact r_zret hx hb hr hlocks hP hS dX12_isRoadHere_83 h
    · refine r_iconst hx hb dX12_isRoadHere_51 (by decide) h (fun z124 h => ?_)
      exact r_zret hx hb hr hlocks hP hS dX12_isRoadHere_52 h
  · refine lv_aload_n hx hb dX12_isRoadHere_11 rfl (lv_at hl 0 rfl) ?_
    refine r_iconst hx hb dX12_isRoadHere_12 (by decide) h (fun z126 h => ?_)
    refine lv_iload_n hx hb dX12_isRoadHere_13 rfl (lv_at hl 1 rfl) ?_
    refine q_Vi hx hb hml hown hts hK hP hS (c_X12_fails l D G S _ xl0 z126 zl1 _ h.2) ⟨callB_of 2 hts (gw_good kw_1500) rfl rfl rfl (hts _ (List.mem_cons_of_mem _ kw_14)) (hts _ (List.mem_cons_of_mem _ kw_1497)) hd_X12_fails ⟨Nat.le_of_ble_eq_true rfl, Nat.le_of_ble_eq_true rfl⟩, (hts _ (List.mem_cons_of_mem _ kw_1499)), (hts _ (List.mem_cons_of_mem _ kp_58))⟩ h.1 (ci := 12) rfl (by decide) rfl hl.1 rfl (lv_room (Nat.le_of_ble_eq_true rfl)) dX12_isRoadHere_14 ⟨Nat.zero_le _, Nat.zero_le _⟩ (fun z129 M127 H locs h hP hS => ?_)
    exact r_zret hx hb hr hlocks hP hS dX12_isRoadHere_17 h
/-! TurningMilkModel.isHandHere(I)Z -/
abbrev RM_X12_isHandHere : Room := { frames := 4, cells := 0, slots := 0, locals := 112 }
def cw_X12_isHandHere : Cond := Cond.code yX12_isHandHere cX12_isHandHere 3 (Option.some FieldType.boolean)
theorem hd_X12_isHandHere : yX12_isHandHere.cls ≠ "java/lang/invoke/MethodHandle" ∧ yX12_isHandHere.cls ≠ "java/lang/invoke/VarHandle" ∧ (parseMethodDescriptor yX12_isHandHere.desc).map (fun d => d.parameters.length) = some 1 := by decide +kernel
theorem dX12_isHandHere_0 : decode cX12_isHandHere 0 = .ok (.aload_n 0, 1) := by decide +kernel
theorem dX12_isHandHere_1 : decode cX12_isHandHere 1 = .ok (.getfield 26, 3) := by decide +kernel
theorem dX12_isHandHere_4 : decode cX12_isHandHere 4 = .ok (.iconst 4, 1) := by decide +kernel
theorem dX12_isHandHere_5 : decode cX12_isHandHere 5 = .ok (.iaload, 1) := by decide +kernel
theorem dX12_isHandHere_6 : decode cX12_isHandHere 6 = .ok (.iconst 5, 1) := by decide +kernel
theorem dX12_isHandHere_7 : decode cX12_isHandHere 7 = .ok (.if_icmp .ne 10, 3) := by decide +kernel
theorem dX12_isHandHere_10 : decode cX12_isHandHere 10 = .ok (.aload_n 0, 1) := by decide +kernel
theorem dX12_isHandHere_11 : decode cX12_isHandHere 11 = .ok (.iconst 4, 1) := by decide +kernel
theorem dX12_isHandHere_12 : decode cX12_isHandHere 12 = .ok (.iload_n 1, 1) := by decide +kernel
theorem dX12_isHandHere_13 : decode cX12_isHandHere 13 = .ok (.invokevirtual 111, 3) := by decide +kernel
theorem dX12_isHandHere_16 : decode cX12_isHandHere 16 = .ok (.ireturn, 1) := by decide +kernel
theorem dX12_isHandHere_17 : decode cX12_isHandHere 17 = .ok (.aload_n 0, 1) := by decide +kernel
theorem dX12_isHandHere_18 : decode cX12_isHandHere 18 = .ok (.invokevirtual 105, 3) := by decide +kernel
theorem dX12_isHandHere_21 : decode cX12_isHandHere 21 = .ok (.bipush 10, 2) := by decide +kernel
theorem dX12_isHandHere_23 : decode cX12_isHandHere 23 = .ok (.iconst 5, 1) := by decide +kernel
theorem dX12_isHandHere_24 : decode cX12_isHandHere 24 = .ok (.aload_n 0, 1) := by decide +kernel
theorem dX12_isHandHere_25 : decode cX12_isHandHere 25 = .ok (.getfield 26, 3) := by decide +kernel
theorem dX12_isHandHere_28 : decode cX12_isHandHere 28 = .ok (.iconst 4, 1) := by decide +kernel
theorem dX12_isHandHere_29 : decode cX12_isHandHere 29 = .ok (.iaload, 1) := by decide +kernel
theorem dX12_isHandHere_30 : decode cX12_isHandHere 30 = .ok (.imul, 1) := by decide +kernel
theorem dX12_isHandHere_31 : decode cX12_isHandHere 31 = .ok (.iadd, 1) := by decide +kernel
theorem dX12_isHandHere_32 : decode cX12_isHandHere 32 = .ok (.istore_n 2, 1) := by decide +kernel
theorem dX12_isHandHere_33 : decode cX12_isHandHere 33 = .ok (.aload_n 0, 1) := by decide +kernel
theorem dX12_isHandHere_34 : decode cX12_isHandHere 34 = .ok (.iload_n 2, 1) := by decide +kernel
theorem dX12_isHandHere_35 : decode cX12_isHandHere 35 = .ok (.iconst 0, 1) := by decide +kernel
theorem dX12_isHandHere_36 : decode cX12_isHandHere 36 = .ok (.aload_n 0, 1) := by decide +kernel
theorem dX12_isHandHere_37 : decode cX12_isHandHere 37 = .ok (.getfield 26, 3) := by decide +kernel
theorem dX12_isHandHere_40 : decode cX12_isHandHere 40 = .ok (.iconst 0, 1) := by decide +kernel
theorem dX12_isHandHere_41 : decode cX12_isHandHere 41 = .ok (.iaload, 1) := by decide +kernel
theorem dX12_isHandHere_42 : decode cX12_isHandHere 42 = .ok (.iconst 1, 1) := by decide +kernel
theorem dX12_isHandHere_43 : decode cX12_isHandHere 43 = .ok (.isub, 1) := by decide +kernel
theorem dX12_isHandHere_44 : decode cX12_isHandHere 44 = .ok (.invokevirtual 214, 3) := by decide +kernel
theorem dX12_isHandHere_47 : decode cX12_isHandHere 47 = .ok (.ifCond .eq 28, 3) := by decide +kernel
theorem dX12_isHandHere_50 : decode cX12_isHandHere 50 = .ok (.aload_n 0, 1) := by decide +kernel
theorem dX12_isHandHere_51 : decode cX12_isHandHere 51 = .ok (.iload_n 2, 1) := by decide +kernel
theorem dX12_isHandHere_52 : decode cX12_isHandHere 52 = .ok (.iconst 3, 1) := by decide +kernel
theorem dX12_isHandHere_53 : decode cX12_isHandHere 53 = .ok (.iadd, 1) := by decide +kernel
theorem dX12_isHandHere_54 : decode cX12_isHandHere 54 = .ok (.iconst 0, 1) := by decide +kernel
theorem dX12_isHandHere_55 : decode cX12_isHandHere 55 = .ok (.bipush 20, 2) := by decide +kernel
theorem dX12_isHandHere_57 : decode cX12_isHandHere 57 = .ok (.invokevirtual 214, 3) := by decide +kernel
theorem dX12_isHandHere_60 : decode cX12_isHandHere 60 = .ok (.ifCond .eq 15, 3) := by decide +kernel
theorem dX12_isHandHere_63 : decode cX12_isHandHere 63 = .ok (.aload_n 0, 1) := by decide +kernel
theorem dX12_isHandHere_64 : decode cX12_isHandHere 64 = .ok (.iload_n 2, 1) := by decide +kernel
theorem dX12_isHandHere_65 : decode cX12_isHandHere 65 = .ok (.iconst 4, 1) := by decide +kernel
theorem dX12_isHandHere_66 : decode cX12_isHandHere 66 = .ok (.iadd, 1) := by decide +kernel
theorem dX12_isHandHere_67 : decode cX12_isHandHere 67 = .ok (.iconst 0, 1) := by decide +kernel
theorem dX12_isHandHere_68 : decode cX12_isHandHere 68 = .ok (.iconst 5, 1) := by decide +kernel
theorem dX12_isHandHere_69 : decode cX12_isHandHere 69 = .ok (.invokevirtual 214, 3) := by decide +kernel
theorem dX12_isHandHere_72 : decode cX12_isHandHere 72 = .ok (.ifCond .ne 5, 3) := by decide +kernel
theorem dX12_isHandHere_75 : decode cX12_isHandHere 75 = .ok (.iconst 0, 1) := by decide +kernel
theorem dX12_isHandHere_76 : decode cX12_isHandHere 76 = .ok (.ireturn, 1) := by decide +kernel
theorem dX12_isHandHere_77 : decode cX12_isHandHere 77 = .ok (.aload_n 0, 1) := by decide +kernel
theorem dX12_isHandHere_78 : decode cX12_isHandHere 78 = .ok (.getfield 26, 3) := by decide +kernel
theorem dX12_isHandHere_81 : decode cX12_isHandHere 81 = .ok (.iload_n 2, 1) := by decide +kernel
theorem dX12_isHandHere_82 : decode cX12_isHandHere 82 = .ok (.iconst 1, 1) := by decide +kernel
theorem dX12_isHandHere_83 : decode cX12_isHandHere 83 = .ok (.iadd, 1) := by decide +kernel
theorem dX12_isHandHere_84 : decode cX12_isHandHere 84 = .ok (.iconst 0, 1) := by decide +kernel
theorem dX12_isHandHere_85 : decode cX12_isHandHere 85 = .ok (.iastore, 1) := by decide +kernel
theorem dX12_isHandHere_86 : decode cX12_isHandHere 86 = .ok (.aload_n 0, 1) := by decide +kernel
theorem dX12_isHandHere_87 : decode cX12_isHandHere 87 = .ok (.getfield 26, 3) := by decide +kernel
theorem dX12_isHandHere_90 : decode cX12_isHandHere 90 = .ok (.iload_n 2, 1) := by decide +kernel
theorem dX12_isHandHere_91 : decode cX12_isHandHere 91 = .ok (.iconst 2, 1) := by decide +kernel
theorem dX12_isHandHere_92 : decode cX12_isHandHere 92 = .ok (.iadd, 1) := by decide +kernel
theorem dX12_isHandHere_93 : decode cX12_isHandHere 93 = .ok (.iconst 0, 1) := by decide +kernel
theorem dX12_isHandHere_94 : decode cX12_isHandHere 94 = .ok (.iastore, 1) := by decide +kernel
theorem dX12_isHandHere_95 : decode cX12_isHandHere 95 = .ok (.aload_n 0, 1) := by decide +kernel
theorem dX12_isHandHere_96 : decode cX12_isHandHere 96 = .ok (.getfield 26, 3) := by decide +kernel
theorem dX12_isHandHere_99 : decode cX12_isHandHere 99 = .ok (.iconst 4, 1) := by decide +kernel
theorem dX12_isHandHere_100 : decode cX12_isHandHere 100 = .ok (.dup2, 1) := by decide +kernel
theorem dX12_isHandHere_101 : decode cX12_isHandHere 101 = .ok (.iaload, 1) := by decide +kernel
theorem dX12_isHandHere_102 : decode cX12_isHandHere 102 = .ok (.iconst 1, 1) := by decide +kernel
theorem dX12_isHandHere_103 : decode cX12_isHandHere 103 = .ok (.iadd, 1) := by decide +kernel
theorem dX12_isHandHere_104 : decode cX12_isHandHere 104 = .ok (.iastore, 1) := by decide +kernel
theorem dX12_isHandHere_105 : decode cX12_isHandHere 105 = .ok (.iconst 1, 1) := by decide +kernel
theorem dX12_isHandHere_106 : decode cX12_isHandHere 106 = .ok (.ireturn, 1) := by decide +kernel
def wp_X12_isHandHere (S : Sh) (M : Mm) (u0 : Int) (u1 : Int) (post : Int → Mm → Prop) : Prop := wGetR S M u0 12 7 fun v1 => wC 4 fun v3 => wLd S M v1 14 v3 fun v5 => wC 5 fun v7 => wIf (¬ v5 = v7) (isK S u0 12 ∧ (wp_X12_passWord S M u0 <| fun M9 => wC 10 fun v10 => wC 5 fun v12 => wGetR S M9 u0 12 7 fun v14 => wC 4 fun v16 => wLd S M9 v14 14 v16 fun v18 => wM v12 v18 fun v20 => wA v10 v20 fun v22 => wC 0 fun v24 => wGetR S M9 u0 12 7 fun v26 => wC 0 fun v28 => wLd S M9 v26 14 v28 fun v30 => wC 1 fun v32 => wS v30 v32 fun v34 => isK S u0 12 ∧ (wp_X12_cellHere S M9 u0 v22 v24 v34 <| fun v37 M36 => wIf (v37 = 0) (wC 0 fun v39 => (v39 = 0 ∨ v39 = 1) ∧ post v39 M36) (wC 3 fun v41 => wA v22 v41 fun v43 => wC 0 fun v45 => wC 20 fun v47 => isK S u0 12 ∧ (wp_X12_cellHere S M36 u0 v43 v45 v47 <| fun v50 M49 => wIf (v50 = 0) (wC 0 fun v52 => (v52 = 0 ∨ v52 = 1) ∧ post v52 M49) (wC 4 fun v54 => wA v22 v54 fun v56 => wC 0 fun v58 => wC 5 fun v60 => isK S u0 12 ∧ (wp_X12_cellHere S M49 u0 v56 v58 v60 <| fun v63 M62 => wIf (¬ v63 = 0) (wGetR S M62 u0 12 7 fun v65 => wC 1 fun v67 => wA v22 v67 fun v69 => wC 0 fun v71 => wSt S M62 v65 14 v69 v71 fun M73 => wGetR S M73 u0 12 7 fun v74 => wC 2 fun v76 => wA v22 v76 fun v78 => wC 0 fun v80 => wSt S M73 v74 14 v78 v80 fun M82 => wGetR S M82 u0 12 7 fun v83 => wC 4 fun v85 => wLd S M82 v83 14 v85 fun v87 => wC 1 fun v89 => wA v87 v89 fun v91 => wSt S M82 v83 14 v85 v91 fun M93 => wC 1 fun v94 => (v94 = 0 ∨ v94 = 1) ∧ post v94 M93) (wC 0 fun v96 => (v96 = 0 ∨ v96 = 1) ∧ post v96 M62)))))))) (wC 4 fun v98 => isK S u0 12 ∧ (wp_X12_fails S M u0 v98 u1 <| fun v101 M100 => (v101 = 0 ∨ v101 = 1) ∧ post v101 M100))
set_option maxHeartbeats 4000000 in
set_option maxRecDepth 100000 in
theorem c_X12_isHandHere (l : Launch) (D : va_G) (G : Gt) (S : Sh) (M : Mm) (xl0 : Int) (zl1 : Int32) (post : Int → Mm → Prop) (h : wp_X12_isHandHere S M xl0 zl1.toInt post) : Met l yX12_isHandHere (cw_X12_isHandHere :: gw) RM_X12_isHandHere (va_Pc [.ref (adr G xl0), .int zl1] (fun U => KN D G U ∧ Wd D G S M U.heap)) (QI D G S post) 0 0 (aG G) := by
  refine Met.ofW (cc := cX12_isHandHere) (maxL := 3) (ret := (some .boolean)) (by decide) rfl ?_
  intro p e s m args below meth c s₁ B hml hv
  obtain ⟨rfl, hK, hP⟩ := hv
  have hx := B.exec
  have hb := B.bytes
  have hr := B.returns
  have hts := atoms_spec (ws := cw_X12_isHandHere :: gw) B.pre
  have hown : s.vm.findClass RX12 = some m.cls := findClass_of_methodNamed B.named
  have hlocks := B.notSynchronized
  have hS : va_S (aG G) s.heap s.heap [] := va_S.rf
  have C : Cx p s m ([.ref (adr G xl0), .int zl1] : List Value).toArray meth c D G cX12_isHandHere 3 (some .boolean) (cw_X12_isHandHere :: gw) RX12 := ⟨hx, hb, hr, hlocks, hml, hown, hts, hK⟩
  have hl := lv_entry ([.ref (adr G xl0), .int zl1]) (n := 3) (Nat.le_of_ble_eq_true rfl)
  rw [lg_entry_eq]
  generalize (lg_sl ([.ref (adr G xl0), .int zl1]) ++ List.replicate (3 - (lg_sl ([.ref (adr G xl0), .int zl1])).length) Slot.unset).toArray = ls at hl ⊢
  have hl : lv_has ls 3 [(0, .ref (adr G xl0)), (1, .int zl1)] := hl
  unfold wp_X12_isHandHere at h
  refine lv_aload_n hx hb dX12_isHandHere_0 rfl (lv_at hl 0 rfl) ?_
  refine r_getr (C := RX12) (T := TX12) (N := 38) hx hb hts (fun w h => List.mem_cons_of_mem _ (iX12 w h)) hown hK hP rfl (by decide) rfl 7 (by decide) (hts _ (List.mem_cons_of_mem _ kw_1341)) (fun _ h9 => h9) dX12_isHandHere_1 (by decide) h (fun x2 h => ?_)
  refine r_iconst hx hb dX12_isHandHere_4 (by decide) h (fun z4 h => ?_)
  refine r_iald hx hb hK hP dX12_isHandHere_5 h (fun z6 h => ?_)
  refine r_iconst hx hb dX12_isHandHere_6 (by decide) h (fun z8 h => ?_)
  refine r_icmp_ne (tgt := 17) hx hb dX12_isHandHere_7 (by decide) h (fun h => ?_) (fun h => ?_)
  · refine lv_aload_n hx hb dX12_isHandHere_17 rfl (lv_at hl 0 rfl) ?_
    refine q_Vv hx hb hml hown hts hK hP hS (c_X12_passWord l D G S _ xl0 _ h.2) ⟨callB_of 0 hts (gw_good kw_1512) rfl rfl rfl (hts _ (List.mem_cons_of_mem _ kw_14)) (hts _ (List.mem_cons_of_mem _ kw_1509)) hd_X12_passWord ⟨Nat.le_of_ble_eq_true rfl, Nat.le_of_ble_eq_true rfl⟩, (hts _ (List.mem_cons_of_mem _ kw_1511)), (hts _ (List.mem_cons_of_mem _ kp_61))⟩ h.1 (ci := 12) rfl (by decide) rfl hl.1 rfl (lv_room (Nat.le_of_ble_eq_true rfl)) dX12_isHandHere_18 ⟨Nat.zero_le _, Nat.zero_le _⟩ (fun M9 H locs h hP hS => ?_)
    refine r_bipush hx hb dX12_isHandHere_21 (by decide) h (fun z11 h => ?_)
    refine r_iconst hx hb dX12_isHandHere_23 (by decide) h (fun z13 h => ?_)
    refine lv_aload_n hx hb dX12_isHandHere_24 rfl (lv_at hl 0 rfl) ?_
    refine r_getr (C := RX12) (T := TX12) (N := 38) hx hb hts (fun w h => List.mem_cons_of_mem _ (iX12 w h)) hown hK hP rfl (by decide) rfl 7 (by decide) (hts _ (List.mem_cons_of_mem _ kw_1341)) (fun _ h9 => h9) dX12_isHandHere_25 (by decide) h (fun x15 h => ?_)
    refine r_iconst hx hb dX12_isHandHere_28 (by decide) h (fun z17 h => ?_)
    refine r_iald hx hb hK hP dX12_isHandHere_29 h (fun z19 h => ?_)
    refine r_imul hx hb dX12_isHandHere_30 h (fun z21 h => ?_)
    refine r_iadd hx hb dX12_isHandHere_31 h (fun z23 h => ?_)
    refine lv_istore_n (lv' := [(2, .int z23), (0, .ref (adr G xl0)), (1, .int zl1)]) hx hb dX12_isHandHere_32 rfl hl (by decide) rfl (fun ls hl => ?_)
    refine lv_aload_n hx hb dX12_isHandHere_33 rfl (lv_at hl 1 rfl) ?_
    refine lv_iload_n hx hb dX12_isHandHere_34 rfl (lv_at hl 0 rfl) ?_
    refine r_iconst hx hb dX12_isHandHere_35 (by decide) h (fun z25 h => ?_)
    refine lv_aload_n hx hb dX12_isHandHere_36 rfl (lv_at hl 1 rfl) ?_
    refine r_getr (C := RX12) (T := TX12) (N := 38) hx hb hts (fun w h => List.mem_cons_of_mem _ (iX12 w h)) hown hK hP rfl (by decide) rfl 7 (by decide) (hts _ (List.mem_cons_of_mem _ kw_1341)) (fun _ h9 => h9) dX12_isHandHere_37 (by decide) h (fun x27 h => ?_)
    refine r_iconst hx hb dX12_isHandHere_40 (by decide) h (fun z29 h => ?_)
    refine r_iald hx hb hK hP dX12_isHandHere_41 h (fun z31 h => ?_)
    refine r_iconst hx hb dX12_isHandHere_42 (by decide) h (fun z33 h => ?_)
    refine r_isub hx hb dX12_isHandHere_43 h (fun z35 h => ?_)
    refine q_Vi hx hb hml hown hts hK hP hS (c_X12_cellHere l D G S _ xl0 z23 z25 z35 _ h.2) ⟨callB_of 3 hts (gw_good kw_1527) rfl rfl rfl (hts _ (List.mem_cons_of_mem _ kw_14)) (hts _ (List.mem_cons_of_mem _ kw_1524)) hd_X12_cellHere ⟨Nat.le_of_ble_eq_true rfl, Nat.le_of_ble_eq_true rfl⟩, (hts _ (List.mem_cons_of_mem _ kw_1526)), (hts _ (List.mem_cons_of_mem _ kp_64))⟩ h.1 (ci := 12) rfl (by decide) rfl hl.1 rfl (lv_room (Nat.le_of_ble_eq_true rfl)) dX12_isHandHere_44 ⟨Nat.zero_le _, Nat.zero_le _⟩ (fun z38 M36 H locs h hP hS => ?_)
    refine r_if_eq (tgt := 75) hx hb dX12_isHandHere_47 (by decide) h (fun h => ?_) (fun h => ?_)
    · refine r_iconst hx hb dX12_isHandHere_75 (by decide) h (fun z40 h => ?_)
      exact r_zret hx hb hr hlocks hP hS dX12_isHandHere_76 h
    · refine lv_aload_n hx hb dX12_isHandHere_50 rfl (lv_at hl 1 rfl) ?_
      refine lv_iload_n hx hb dX12_isHandHere_51 rfl (lv_at hl 0 rfl) ?_
      refine r_iconst hx hb dX12_isHandHere_52 (by decide) h (fun z42 h => ?_)
      refine r_iadd hx hb dX12_isHandHere_53 h (fun z44 h => ?_)
      refine r_iconst hx hb dX12_isHandHere_54 (by decide) h (fun z46 h => ?_)
      refine r_bipush hx hb dX12_isHandHere_55 (by decide) h (fun z48 h => ?_)
      refine q_Vi hx hb hml hown hts hK hP hS (c_X12_cellHere l D G S _ xl0 z44 z46 z48 _ h.2) ⟨callB_of 3 hts (gw_good kw_1527) rfl rfl rfl (hts _ (List.mem_cons_of_mem _ kw_14)) (hts _ (List.mem_cons_of_mem _ kw_1524)) hd_X12_cellHere ⟨Nat.le_of_ble_eq_true rfl, Nat.le_of_ble_eq_true rfl⟩, (hts _ (List.mem_cons_of_mem _ kw_1526)), (hts _ (List.mem_cons_of_mem _ kp_64))⟩ h.1 (ci := 12) rfl (by decide) rfl hl.1 rfl (lv_room (Nat.le_of_ble_eq_true rfl)) dX12_isHandHere_57 ⟨Nat.zero_le _, Nat.zero_le _⟩ (fun z51 M49 H locs h hP hS => ?_)
      refine r_if_eq (tgt := 75) hx hb dX12_isHandHere_60 (by decide) h (fun h => ?_) (fun h => ?_)
      · refine r_iconst hx hb dX12_isHandHere_75 (by decide) h (fun z53 h => ?_)
        exact r_zret hx hb hr hlocks hP hS dX12_isHandHere_76 h
      · refine lv_aload_n hx hb dX12_isHandHere_63 rfl (lv_at hl 1 rfl) ?_
        refine lv_iload_n hx hb dX12_isHandHere_64 rfl (lv_at hl 0 rfl) ?_
        refine r_iconst hx hb dX12_isHandHere_65 (by decide) h (fun z55 h => ?_)
        refine r_iadd hx hb dX12_isHandHere_66 h (fun z57 h => ?_)
        refine r_iconst hx hb dX12_isHandHere_67 (by decide) h (fun z59 h => ?_)
        refine r_iconst hx hb dX12_isHandHere_68 (by decide) h (fun z61 h => ?_)
        refine q_Vi hx hb hml hown hts hK hP hS (c_X12_cellHere l D G S _ xl0 z57 z59 z61 _ h.2) ⟨callB_of 3 hts (gw_good kw_1527) rfl rfl rfl (hts _ (List.mem_cons_of_mem _ kw_14)) (hts _ (List.mem_cons_of_mem _ kw_1524)) hd_X12_cellHere ⟨Nat.le_of_ble_eq_true rfl, Nat.le_of_ble_eq_true rfl⟩, (hts _ (List.mem_cons_of_mem _ kw_1526)), (hts _ (List.mem_cons_of_mem _ kp_64))⟩ h.1 (ci := 12) rfl (by decide) rfl hl.1 rfl (lv_room (Nat.le_of_ble_eq_true rfl)) dX12_isHandHere_69 ⟨Nat.zero_le _, Nat.zero_le _⟩ (fun z64 M62 H locs h hP hS => ?_)
        refine r_if_ne (tgt := 77) hx hb dX12_isHandHere_72 (by decide) h (fun h => ?_) (fun h => ?_)
        · refine lv_aload_n hx hb dX12_isHandHere_77 rfl (lv_at hl 1 rfl) ?_
          refine r_getr (C := RX12) (T := TX12) (N := 38) hx hb hts (fun w h => List.mem_cons_of_mem _ (iX12 w h)) hown hK hP rfl (by decide) rfl 7 (by decide) (hts _ (List.mem_cons_of_mem _ kw_1341)) (fun _ h9 => h9) dX12_isHandHere_78 (by decide) h (fun x66 h => ?_)
          refine lv_iload_n hx hb dX12_isHandHere_81 rfl (lv_at hl 0 rfl) ?_
          refine r_iconst hx hb dX12_isHandHere_82 (by decide) h (fun z68 h => ?_)
          refine r_iadd hx hb dX12_isHandHere_83 h (fun z70 h => ?_)
          refine r_iconst hx hb dX12_isHandHere_84 (by decide) h (fun z72 h => ?_)
          refine r_iast hx hb hK hP hS dX12_isHandHere_85 h (fun M73 H locs h hP hS => ?_)
          refine lv_aload_n hx hb dX12_isHandHere_86 rfl (lv_at hl 1 rfl) ?_
          refine r_getr (C := RX12) (T := TX12) (N := 38) hx hb hts (fun w h => List.mem_cons_of_mem _ (iX12 w h)) hown hK hP rfl (by decide) rfl 7 (by decide) (hts _ (List.mem_cons_of_mem _ kw_1341)) (fun _ h9 => h9) dX12_isHandHere_87 (by decide) h (fun x75 h => ?_)
          refine lv_iload_n hx hb dX12_isHandHere_90 rfl (lv_at hl 0 rfl) ?_
          refine r_iconst hx hb dX12_isHandHere_91 (by decide) h (fun z77 h => ?_)
          refine r_iadd hx hb dX12_isHandHere_92 h (fun z79 h => ?_)
          refine r_iconst hx hb dX12_isHandHere_93 (by decide) h (fun z81 h => ?_)
          refine r_iast hx hb hK hP hS dX12_isHandHere_94 h (fun M82 H locs h hP hS => ?_)
          refine lv_aload_n hx hb dX12_isHandHere_95 rfl (lv_at hl 1 rfl) ?_
          refine r_getr (C := RX12) (T := TX12) (N := 38) hx hb hts (fun w h => List.mem_cons_of_mem _ (iX12 w h)) hown hK hP rfl (by decide) rfl 7 (by decide) (hts _ (List.mem_cons_of_mem _ kw_1341)) (fun _ h9 => h9) dX12_isHandHere_96 (by decide) h (fun x84 h => ?_)
          refine r_iconst hx hb dX12_isHandHere_99 (by decide) h (fun z86 h => ?_)
          refine lv_dup2_11 hx hb dX12_isHandHere_100 rfl rfl ?_
          refine r_iald hx hb hK hP dX12_isHandHere_101 h (fun z88 h => ?_)
          refine r_iconst hx hb dX12_isHandHere_102 (by decide) h (fun z90 h => ?_)
          refine r_iadd hx hb dX12_isHandHere_103 h (fun z92 h => ?_)
          refine r_iast hx hb hK hP hS dX12_isHandHere_104 h (fun M93 H locs h hP hS => ?_)
          refine r_iconst hx hb dX12_isHandHere_105 (by decide) h (fun z95 h => ?_)
          exact r_zret hx hb hr hlocks hP hS dX12_isHandHere_106 h
        · refine r_iconst hx hb dX12_isHandHere_75 (by decide) h (fun z97 h => ?_)
          exact r_zret hx hb hr hlocks hP hS dX12_isHandHere_76 h
  · refine lv_aload_n hx hb dX12_isHandHere_10 rfl (lv_at hl 0 rfl) ?_
    refine r_iconst hx hb dX12_isHandHere_11 (by decide) h (fun z99 h => ?_)
    refine lv_iload_n hx hb dX12_isHandHere_12 rfl (lv_at hl 1 rfl) ?_
    refine q_Vi hx hb hml hown hts hK hP hS (c_X12_fails l D G S _ xl0 z99 zl1 _ h.2) ⟨callB_of 2 hts (gw_good kw_1500) rfl rfl rfl (hts _ (List.mem_cons_of_mem _ kw_14)) (hts _ (List.mem_cons_of_mem _ kw_1497)) hd_X12_fails ⟨Nat.le_of_ble_eq_true rfl, Nat.le_of_ble_eq_true rfl⟩, (hts _ (List.mem_cons_of_mem _ kw_1499)), (hts _ (List.mem_cons_of_mem _ kp_58))⟩ h.1 (ci := 12) rfl (by decide) rfl hl.1 rfl (lv_room (Nat.le_of_ble_eq_true rfl)) dX12_isHandHere_13 ⟨Nat.zero_le _, Nat.zero_le _⟩ (fun z102 M100 H locs h hP hS => ?_)
    exact r_zret hx hb hr hlocks hP hS dX12_isHandHere_16 h
/-! TurningMilkModel.isJugHere(I)Z -/
abbrev RM_X12_isJugHere : Room := { frames := 4, cells := 0, slots := 0, locals := 112 }
def cw_X12_isJugHere : Cond := Cond.code yX12_isJugHere cX12_isJugHere 3 (Option.some FieldType.boolean)
theorem hd_X12_isJugHere : yX12_isJugHere.cls ≠ "java/lang/invoke/MethodHandle" ∧ yX12_isJugHere.cls ≠ "java/lang/invoke/VarHandle" ∧ (parseMethodDescriptor yX12_isJugHere.desc).map (fun d => d.parameters.length) = some 1 := by decide +kernel
theorem dX12_isJugHere_0 : decode cX12_isJugHere 0 = .ok (.aload_n 0, 1) := by decide +kernel
theorem dX12_isJugHere_1 : decode cX12_isJugHere 1 = .ok (.getfield 26, 3) := by decide +kernel
theorem dX12_isJugHere_4 : decode cX12_isJugHere 4 = .ok (.iconst 5, 1) := by decide +kernel
theorem dX12_isJugHere_5 : decode cX12_isJugHere 5 = .ok (.iaload, 1) := by decide +kernel
theorem dX12_isJugHere_6 : decode cX12_isJugHere 6 = .ok (.iconst 4, 1) := by decide +kernel
theorem dX12_isJugHere_7 : decode cX12_isJugHere 7 = .ok (.if_icmp .ne 10, 3) := by decide +kernel
theorem dX12_isJugHere_10 : decode cX12_isJugHere 10 = .ok (.aload_n 0, 1) := by decide +kernel
theorem dX12_isJugHere_11 : decode cX12_isJugHere 11 = .ok (.iconst 4, 1) := by decide +kernel
theorem dX12_isJugHere_12 : decode cX12_isJugHere 12 = .ok (.iload_n 1, 1) := by decide +kernel
theorem dX12_isJugHere_13 : decode cX12_isJugHere 13 = .ok (.invokevirtual 111, 3) := by decide +kernel
theorem dX12_isJugHere_16 : decode cX12_isJugHere 16 = .ok (.ireturn, 1) := by decide +kernel
theorem dX12_isJugHere_17 : decode cX12_isJugHere 17 = .ok (.aload_n 0, 1) := by decide +kernel
theorem dX12_isJugHere_18 : decode cX12_isJugHere 18 = .ok (.invokevirtual 105, 3) := by decide +kernel
theorem dX12_isJugHere_21 : decode cX12_isJugHere 21 = .ok (.bipush 35, 2) := by decide +kernel
theorem dX12_isJugHere_23 : decode cX12_isJugHere 23 = .ok (.iconst 4, 1) := by decide +kernel
theorem dX12_isJugHere_24 : decode cX12_isJugHere 24 = .ok (.aload_n 0, 1) := by decide +kernel
theorem dX12_isJugHere_25 : decode cX12_isJugHere 25 = .ok (.getfield 26, 3) := by decide +kernel
theorem dX12_isJugHere_28 : decode cX12_isJugHere 28 = .ok (.iconst 5, 1) := by decide +kernel
theorem dX12_isJugHere_29 : decode cX12_isJugHere 29 = .ok (.iaload, 1) := by decide +kernel
theorem dX12_isJugHere_30 : decode cX12_isJugHere 30 = .ok (.imul, 1) := by decide +kernel
theorem dX12_isJugHere_31 : decode cX12_isJugHere 31 = .ok (.iadd, 1) := by decide +kernel
theorem dX12_isJugHere_32 : decode cX12_isJugHere 32 = .ok (.istore_n 2, 1) := by decide +kernel
theorem dX12_isJugHere_33 : decode cX12_isJugHere 33 = .ok (.aload_n 0, 1) := by decide +kernel
theorem dX12_isJugHere_34 : decode cX12_isJugHere 34 = .ok (.iload_n 2, 1) := by decide +kernel
theorem dX12_isJugHere_35 : decode cX12_isJugHere 35 = .ok (.iconst 0, 1) := by decide +kernel
theorem dX12_isJugHere_36 : decode cX12_isJugHere 36 = .ok (.aload_n 0, 1) := by decide +kernel
theorem dX12_isJugHere_37 : decode cX12_isJugHere 37 = .ok (.getfield 26, 3) := by decide +kernel
theorem dX12_isJugHere_40 : decode cX12_isJugHere 40 = .ok (.iconst 0, 1) := by decide +kernel
theorem dX12_isJugHere_41 : decode cX12_isJugHere 41 = .ok (.iaload, 1) := by decide +kernel
theorem dX12_isJugHere_42 : decode cX12_isJugHere 42 = .ok (.iconst 1, 1) := by decide +kernel
theorem dX12_isJugHere_43 : decode cX12_isJugHere 43 = .ok (.isub, 1) := by decide +kernel
theorem dX12_isJugHere_44 : decode cX12_isJugHere 44 = .ok (.invokevirtual 214, 3) := by decide +kernel
theorem dX12_isJugHere_47 : decode cX12_isJugHere 47 = .ok (.ifCond .eq 16, 3) := by decide +kernel
theorem dX12_isJugHere_50 : decode cX12_isJugHere 50 = .ok (.aload_n 0, 1) := by decide +kernel
theorem dX12_isJugHere_51 : decode cX12_isJugHere 51 = .ok (.iload_n 2, 1) := by decide +kernel
theorem dX12_isJugHere_52 : decode cX12_isJugHere 52 = .ok (.iconst 2, 1) := by decide +kernel
theorem dX12_isJugHere_53 : decode cX12_isJugHere 53 = .ok (.iadd, 1) := by decide +kernel
theorem dX12_isJugHere_54 : decode cX12_isJugHere 54 = .ok (.iconst 0, 1) := by decide +kernel
theorem dX12_isJugHere_55 : decode cX12_isJugHere 55 = .ok (.bipush 99, 2) := by decide +kernel
theorem dX12_isJugHere_57 : decode cX12_isJugHere 57 = .ok (.invokevirtual 214, 3) := by decide +kernel
theorem dX12_isJugHere_60 : decode cX12_isJugHere 60 = .ok (.ifCond .ne 5, 3) := by decide +kernel
theorem dX12_isJugHere_63 : decode cX12_isJugHere 63 = .ok (.iconst 0, 1) := by decide +kernel
theorem dX12_isJugHere_64 : decode cX12_isJugHere 64 = .ok (.ireturn, 1) := by decide +kernel
theorem dX12_isJugHere_65 : decode cX12_isJugHere 65 = .ok (.aload_n 0, 1) := by decide +kernel
theorem dX12_isJugHere_66 : decode cX12_isJugHere 66 = .ok (.getfield 26, 3) := by decide +kernel
theorem dX12_isJugHere_69 : decode cX12_isJugHere 69 = .ok (.iload_n 2, 1) := by decide +kernel
theorem dX12_isJugHere_70 : decode cX12_isJugHere 70 = .ok (.iconst 1, 1) := by decide +kernel
theorem dX12_isJugHere_71 : decode cX12_isJugHere 71 = .ok (.iadd, 1) := by decide +kernel
theorem dX12_isJugHere_72 : decode cX12_isJugHere 72 = .ok (.iconst (-1), 1) := by decide +kernel
theorem dX12_isJugHere_73 : decode cX12_isJugHere 73 = .ok (.iastore, 1) := by decide +kernel
theorem dX12_isJugHere_74 : decode cX12_isJugHere 74 = .ok (.aload_n 0, 1) := by decide +kernel
theorem dX12_isJugHere_75 : decode cX12_isJugHere 75 = .ok (.getfield 26, 3) := by decide +kernel
theorem dX12_isJugHere_78 : decode cX12_isJugHere 78 = .ok (.iload_n 2, 1) := by decide +kernel
theorem dX12_isJugHere_79 : decode cX12_isJugHere 79 = .ok (.iconst 3, 1) := by decide +kernel
theorem dX12_isJugHere_80 : decode cX12_isJugHere 80 = .ok (.iadd, 1) := by decide +kernel
theorem dX12_isJugHere_81 : decode cX12_isJugHere 81 = .ok (.iconst 0, 1) := by decide +kernel
theorem dX12_isJugHere_82 : decode cX12_isJugHere 82 = .ok (.iastore, 1) := by decide +kernel
theorem dX12_isJugHere_83 : decode cX12_isJugHere 83 = .ok (.aload_n 0, 1) := by decide +kernel
theorem dX12_isJugHere_84 : decode cX12_isJugHere 84 = .ok (.getfield 26, 3) := by decide +kernel
theorem dX12_isJugHere_87 : decode cX12_isJugHere 87 = .ok (.iconst 5, 1) := by decide +kernel
theorem dX12_isJugHere_88 : decode cX12_isJugHere 88 = .ok (.dup2, 1) := by decide +kernel
theorem dX12_isJugHere_89 : decode cX12_isJugHere 89 = .ok (.iaload, 1) := by decide +kernel
theorem dX12_isJugHere_90 : decode cX12_isJugHere 90 = .ok (.iconst 1, 1) := by decide +kernel
theorem dX12_isJugHere_91 : decode cX12_isJugHere 91 = .ok (.iadd, 1) := by decide +kernel
theorem dX12_isJugHere_92 : decode cX12_isJugHere 92 = .ok (.iastore, 1) := by decide +kernel
theorem dX12_isJugHere_93 : decode cX12_isJugHere 93 = .ok (.iconst 1, 1) := by decide +kernel
theorem dX12_isJugHere_94 : decode cX12_isJugHere 94 = .ok (.ireturn, 1) := by decide +kernel
def wp_X12_isJugHere (S : Sh) (M : Mm) (u0 : Int) (u1 : Int) (post : Int → Mm → Prop) : Prop := wGetR S M u0 12 7 fun v1 => wC 5 fun v3 => wLd S M v1 14 v3 fun v5 => wC 4 fun v7 => wIf (¬ v5 = v7) (isK S u0 12 ∧ (wp_X12_passWord S M u0 <| fun M9 => wC 35 fun v10 => wC 4 fun v12 => wGetR S M9 u0 12 7 fun v14 => wC 5 fun v16 => wLd S M9 v14 14 v16 fun v18 => wM v12 v18 fun v20 => wA v10 v20 fun v22 => wC 0 fun v24 => wGetR S M9 u0 12 7 fun v26 => wC 0 fun v28 => wLd S M9 v26 14 v28 fun v30 => wC 1 fun v32 => wS v30 v32 fun v34 => isK S u0 12 ∧ (wp_X12_cellHere S M9 u0 v22 v24 v34 <| fun v37 M36 => wIf (v37 = 0) (wC 0 fun v39 => (v39 = 0 ∨ v39 = 1) ∧ post v39 M36) (wC 2 fun v41 => wA v22 v41 fun v43 => wC 0 fun v45 => wC 99 fun v47 => isK S u0 12 ∧ (wp_X12_cellHere S M36 u0 v43 v45 v47 <| fun v50 M49 => wIf (¬ v50 = 0) (wGetR S M49 u0 12 7 fun v52 => wC 1 fun v54 => wA v22 v54 fun v56 => wC (-1) fun v58 => wSt S M49 v52 14 v56 v58 fun M60 => wGetR S M60 u0 12 7 fun v61 => wC 3 fun v63 => wA v22 v63 fun v65 => wC 0 fun v67 => wSt S M60 v61 14 v65 v67 fun M69 => wGetR S M69 u0 12 7 fun v70 => wC 5 fun v72 => wLd S M69 v70 14 v72 fun v74 => wC 1 fun v76 => wA v74 v76 fun v78 => wSt S M69 v70 14 v72 v78 fun M80 => wC 1 fun v81 => (v81 = 0 ∨ v81 = 1) ∧ post v81 M80) (wC 0 fun v83 => (v83 = 0 ∨ v83 = 1) ∧ post v83 M49)))))) (wC 4 fun v85 => isK S u0 12 ∧ (wp_X12_fails S M u0 v85 u1 <| fun v88 M87 => (v88 = 0 ∨ v88 = 1) ∧ post v88 M87))
set_option maxHeartbeats 4000000 in
set_option maxRecDepth 100000 in
theorem c_X12_isJugHere (l : Launch) (D : va_G) (G : Gt) (S : Sh) (M : Mm) (xl0 : Int) (zl1 : Int32) (post : Int → Mm → Prop) (h : wp_X12_isJugHere S M xl0 zl1.toInt post) : Met l yX12_isJugHere (cw_X12_isJugHere :: gw) RM_X12_isJugHere (va_Pc [.ref (adr G xl0), .int zl1] (fun U => KN D G U ∧ Wd D G S M U.heap)) (QI D G S post) 0 0 (aG G) := by
  refine Met.ofW (cc := cX12_isJugHere) (maxL := 3) (ret := (some .boolean)) (by decide) rfl ?_
  intro p e s m args below meth c s₁ B hml hv
  obtain ⟨rfl, hK, hP⟩ := hv
  have hx := B.exec
  have hb := B.bytes
  have hr := B.returns
  have hts := atoms_spec (ws := cw_X12_isJugHere :: gw) B.pre
  have hown : s.vm.findClass RX12 = some m.cls := findClass_of_methodNamed B.named
  have hlocks := B.notSynchronized
  have hS : va_S (aG G) s.heap s.heap [] := va_S.rf
  have C : Cx p s m ([.ref (adr G xl0), .int zl1] : List Value).toArray meth c D G cX12_isJugHere 3 (some .boolean) (cw_X12_isJugHere :: gw) RX12 := ⟨hx, hb, hr, hlocks, hml, hown, hts, hK⟩
  have hl := lv_entry ([.ref (adr G xl0), .int zl1]) (n := 3) (Nat.le_of_ble_eq_true rfl)
  rw [lg_entry_eq]
  generalize (lg_sl ([.ref (adr G xl0), .int zl1]) ++ List.replicate (3 - (lg_sl ([.ref (adr G xl0), .int zl1])).length) Slot.unset).toArray = ls at hl ⊢
  have hl : lv_has ls 3 [(0, .ref (adr G xl0)), (1, .int zl1)] := hl
  unfold wp_X12_isJugHere at h
  refine lv_aload_n hx hb dX12_isJugHere_0 rfl (lv_at hl 0 rfl) ?_
  refine r_getr (C := RX12) (T := TX12) (N := 38) hx hb hts (fun w h => List.mem_cons_of_mem _ (iX12 w h)) hown hK hP rfl (by decide) rfl 7 (by decide) (hts _ (List.mem_cons_of_mem _ kw_1341)) (fun _ h9 => h9) dX12_isJugHere_1 (by decide) h (fun x2 h => ?_)
  refine r_iconst hx hb dX12_isJugHere_4 (by decide) h (fun z4 h => ?_)
  refine r_iald hx hb hK hP dX12_isJugHere_5 h (fun z6 h => ?_)
  refine r_iconst hx hb dX12_isJugHere_6 (by decide) h (fun z8 h => ?_)
  refine r_icmp_ne (tgt := 17) hx hb dX12_isJugHere_7 (by decide) h (fun h => ?_) (fun h => ?_)
  · refine lv_aload_n hx hb dX12_isJugHere_17 rfl (lv_at hl 0 rfl) ?_
    refine q_Vv hx hb hml hown hts hK hP hS (c_X12_passWord l D G S _ xl0 _ h.2) ⟨callB_of 0 hts (gw_good kw_1512) rfl rfl rfl (hts _ (List.mem_cons_of_mem _ kw_14)) (hts _ (List.mem_cons_of_mem _ kw_1509)) hd_X12_passWord ⟨Nat.le_of_ble_eq_true rfl, Nat.le_of_ble_eq_true rfl⟩, (hts _ (List.mem_cons_of_mem _ kw_1511)), (hts _ (List.mem_cons_of_mem _ kp_61))⟩ h.1 (ci := 12) rfl (by decide) rfl hl.1 rfl (lv_room (Nat.le_of_ble_eq_true rfl)) dX12_isJugHere_18 ⟨Nat.zero_le _, Nat.zero_le _⟩ (fun M9 H locs h hP hS => ?_)
    refine r_bipush hx hb dX12_isJugHere_21 (by decide) h (fun z11 h => ?_)
    refine r_iconst hx hb dX12_isJugHere_23 (by decide) h (fun z13 h => ?_)
    refine lv_aload_n hx hb dX12_isJugHere_24 rfl (lv_at hl 0 rfl) ?_
    refine r_getr (C := RX12) (T := TX12) (N := 38) hx hb hts (fun w h => List.mem_cons_of_mem _ (iX12 w h)) hown hK hP rfl (by decide) rfl 7 (by decide) (hts _ (List.mem_cons_of_mem _ kw_1341)) (fun _ h9 => h9) dX12_isJugHere_25 (by decide) h (fun x15 h => ?_)
    refine r_iconst hx hb dX12_isJugHere_28 (by decide) h (fun z17 h => ?_)
    refine r_iald hx hb hK hP dX12_isJugHere_29 h (fun z19 h => ?_)
    refine r_imul hx hb dX12_isJugHere_30 h (fun z21 h => ?_)
    refine r_iadd hx hb dX12_isJugHere_31 h (fun z23 h => ?_)
    refine lv_istore_n (lv' := [(2, .int z23), (0, .ref (adr G xl0)), (1, .int zl1)]) hx hb dX12_isJugHere_32 rfl hl (by decide) rfl (fun ls hl => ?_)
    refine lv_aload_n hx hb dX12_isJugHere_33 rfl (lv_at hl 1 rfl) ?_
    refine lv_iload_n hx hb dX12_isJugHere_34 rfl (lv_at hl 0 rfl) ?_
    refine r_iconst hx hb dX12_isJugHere_35 (by decide) h (fun z25 h => ?_)
    refine lv_aload_n hx hb dX12_isJugHere_36 rfl (lv_at hl 1 rfl) ?_
    refine r_getr (C := RX12) (T := TX12) (N := 38) hx hb hts (fun w h => List.mem_cons_of_mem _ (iX12 w h)) hown hK hP rfl (by decide) rfl 7 (by decide) (hts _ (List.mem_cons_of_mem _ kw_1341)) (fun _ h9 => h9) dX12_isJugHere_37 (by decide) h (fun x27 h => ?_)
    refine r_iconst hx hb dX12_isJugHere_40 (by decide) h (fun z29 h => ?_)
    refine r_iald hx hb hK hP dX12_isJugHere_41 h (fun z31 h => ?_)
    refine r_iconst hx hb dX12_isJugHere_42 (by decide) h (fun z33 h => ?_)
    refine r_isub hx hb dX12_isJugHere_43 h (fun z35 h => ?_)
    refine q_Vi hx hb hml hown hts hK hP hS (c_X12_cellHere l D G S _ xl0 z23 z25 z35 _ h.2) ⟨callB_of 3 hts (gw_good kw_1527) rfl rfl rfl (hts _ (List.mem_cons_of_mem _ kw_14)) (hts _ (List.mem_cons_of_mem _ kw_1524)) hd_X12_cellHere ⟨Nat.le_of_ble_eq_true rfl, Nat.le_of_ble_eq_true rfl⟩, (hts _ (List.mem_cons_of_mem _ kw_1526)), (hts _ (List.mem_cons_of_mem _ kp_64))⟩ h.1 (ci := 12) rfl (by decide) rfl hl.1 rfl (lv_room (Nat.le_of_ble_eq_true rfl)) dX12_isJugHere_44 ⟨Nat.zero_le _, Nat.zero_le _⟩ (fun z38 M36 H locs h hP hS => ?_)
    refine r_if_eq (tgt := 63) hx hb dX12_isJugHere_47 (by decide) h (fun h => ?_) (fun h => ?_)
    · refine r_iconst hx hb dX12_isJugHere_63 (by decide) h (fun z40 h => ?_)
      exact r_zret hx hb hr hlocks hP hS dX12_isJugHere_64 h
    · refine lv_aload_n hx hb dX12_isJugHere_50 rfl (lv_at hl 1 rfl) ?_
      refine lv_iload_n hx hb dX12_isJugHere_51 rfl (lv_at hl 0 rfl) ?_
      refine r_iconst hx hb dX12_isJugHere_52 (by decide) h (fun z42 h => ?_)
      refine r_iadd hx hb dX12_isJugHere_53 h (fun z44 h => ?_)
      refine r_iconst hx hb dX12_isJugHere_54 (by decide) h (fun z46 h => ?_)
      refine r_bipush hx hb dX12_isJugHere_55 (by decide) h (fun z48 h => ?_)
      refine q_Vi hx hb hml hown hts hK hP hS (c_X12_cellHere l D G S _ xl0 z44 z46 z48 _ h.2) ⟨callB_of 3 hts (gw_good kw_1527) rfl rfl rfl (hts _ (List.mem_cons_of_mem _ kw_14)) (hts _ (List.mem_cons_of_mem _ kw_1524)) hd_X12_cellHere ⟨Nat.le_of_ble_eq_true rfl, Nat.le_of_ble_eq_true rfl⟩, (hts _ (List.mem_cons_of_mem _ kw_1526)), (hts _ (List.mem_cons_of_mem _ kp_64))⟩ h.1 (ci := 12) rfl (by decide) rfl hl.1 rfl (lv_room (Nat.le_of_ble_eq_true rfl)) dX12_isJugHere_57 ⟨Nat.zero_le _, Nat.zero_le _⟩ (fun z51 M49 H locs h hP hS => ?_)
      refine r_if_ne (tgt := 65) hx hb dX12_isJugHere_60 (by decide) h (fun h => ?_) (fun h => ?_)
      · refine lv_aload_n hx hb dX12_isJugHere_65 rfl (lv_at hl 1 rfl) ?_
        refine r_getr (C := RX12) (T := TX12) (N := 38) hx hb hts (fun w h => List.mem_cons_of_mem _ (iX12 w h)) hown hK hP rfl (by decide) rfl 7 (by decide) (hts _ (List.mem_cons_of_mem _ kw_1341)) (fun _ h9 => h9) dX12_isJugHere_66 (by decide) h (fun x53 h => ?_)
        refine lv_iload_n hx hb dX12_isJugHere_69 rfl (lv_at hl 0 rfl) ?_
        refine r_iconst hx hb dX12_isJugHere_70 (by decide) h (fun z55 h => ?_)
        refine r_iadd hx hb dX12_isJugHere_71 h (fun z57 h => ?_)
        refine r_iconst hx hb dX12_isJugHere_72 (by decide) h (fun z59 h => ?_)
        refine r_iast hx hb hK hP hS dX12_isJugHere_73 h (fun M60 H locs h hP hS => ?_)
        refine lv_aload_n hx hb dX12_isJugHere_74 rfl (lv_at hl 1 rfl) ?_
        refine r_getr (C := RX12) (T := TX12) (N := 38) hx hb hts (fun w h => List.mem_cons_of_mem _ (iX12 w h)) hown hK hP rfl (by decide) rfl 7 (by decide) (hts _ (List.mem_cons_of_mem _ kw_1341)) (fun _ h9 => h9) dX12_isJugHere_75 (by decide) h (fun x62 h => ?_)
        refine lv_iload_n hx hb dX12_isJugHere_78 rfl (lv_at hl 0 rfl) ?_
        refine r_iconst hx hb dX12_isJugHere_79 (by decide) h (fun z64 h => ?_)
        refine r_iadd hx hb dX12_isJugHere_80 h (fun z66 h => ?_)
        refine r_iconst hx hb dX12_isJugHere_81 (by decide) h (fun z68 h => ?_)
        refine r_iast hx hb hK hP hS dX12_isJugHere_82 h (fun M69 H locs h hP hS => ?_)
        refine lv_aload_n hx hb dX12_isJugHere_83 rfl (lv_at hl 1 rfl) ?_
        refine r_getr (C := RX12) (T := TX12) (N := 38) hx hb hts (fun w h => List.mem_cons_of_mem _ (iX12 w h)) hown hK hP rfl (by decide) rfl 7 (by decide) (hts _ (List.mem_cons_of_mem _ kw_1341)) (fun _ h9 => h9) dX12_isJugHere_84 (by decide) h (fun x71 h => ?_)
        refine r_iconst hx hb dX12_isJugHere_87 (by decide) h (fun z73 h => ?_)
        refine lv_dup2_11 hx hb dX12_isJugHere_88 rfl rfl ?_
        refine r_iald hx hb hK hP dX12_isJugHere_89 h (fun z75 h => ?_)
        refine r_iconst hx hb dX12_isJugHere_90 (by decide) h (fun z77 h => ?_)
        refine r_iadd hx hb dX12_isJugHere_91 h (fun z79 h => ?_)
        refine r_iast hx hb hK hP hS dX12_isJugHere_92 h (fun M80 H locs h hP hS => ?_)
        refine r_iconst hx hb dX12_isJugHere_93 (by decide) h (fun z82 h => ?_)
        exact r_zret hx hb hr hlocks hP hS dX12_isJugHere_94 h
      · refine r_iconst hx hb dX12_isJugHere_63 (by decide) h (fun z84 h => ?_)
        exact r_zret hx hb hr hlocks hP hS dX12_isJugHere_64 h
  · refine lv_aload_n hx hb dX12_isJugHere_10 rfl (lv_at hl 0 rfl) ?_
    refine r_iconst hx hb dX12_isJugHere_11 (by decide) h (fun z86 h => ?_)
    refine lv_iload_n hx hb dX12_isJugHere_12 rfl (lv_at hl 1 rfl) ?_
    refine q_Vi hx hb hml hown hts hK hP hS (c_X12_fails l D G S _ xl0 z86 zl1 _ h.2) ⟨callB_of 2 hts (gw_good kw_1500) rfl rfl rfl (hts _ (List.mem_cons_of_mem _ kw_14)) (hts _ (List.mem_cons_of_mem _ kw_1497)) hd_X12_fails ⟨Nat.le_of_ble_eq_true rfl, Nat.le_of_ble_eq_true rfl⟩, (hts _ (List.mem_cons_of_mem _ kw_1499)), (hts _ (List.mem_cons_of_mem _ kp_58))⟩ h.1 (ci := 12) rfl (by decide) rfl hl.1 rfl (lv_room (Nat.le_of_ble_eq_true rfl)) dX12_isJugHere_13 ⟨Nat.zero_le _, Nat.zero_le _⟩ (fun z89 M87 H locs h hP hS => ?_)
    exact r_zret hx hb hr hlocks hP hS dX12_isJugHere_16 h
/-! TurningMilkModel.isHeatHere(I)Z -/
abbrev RM_X12_isHeatHere : Room := { frames := 4, cells := 0, slots := 0, locals := 112 }
def cw_X12_isHeatHere : Cond := Cond.code yX12_isHeatHere cX12_isHeatHere 3 (Option.some FieldType.boolean)
theorem hd_X12_isHeatHere : yX12_isHeatHere.cls ≠ "java/lang/invoke/MethodHandle" ∧ yX12_isHeatHere.cls ≠ "java/lang/invoke/VarHandle" ∧ (parseMethodDescriptor yX12_isHeatHere.desc).map (fun d => d.parameters.length) = some 1 := by decide +kernel
theorem dX12_isHeatHere_0 : decode cX12_isHeatHere 0 = .ok (.aload_n 0, 1) := by decide +kernel
theorem dX12_isHeatHere_1 : decode cX12_isHeatHere 1 = .ok (.getfield 26, 3) := by decide +kernel
theorem dX12_isHeatHere_4 : decode cX12_isHeatHere 4 = .ok (.bipush 9, 2) := by decide +kernel
theorem dX12_isHeatHere_6 : decode cX12_isHeatHere 6 = .ok (.iaload, 1) := by decide +kernel
theorem dX12_isHeatHere_7 : decode cX12_isHeatHere 7 = .ok (.iconst 4, 1) := by decide +kernel
theorem dX12_isHeatHere_8 : decode cX12_isHeatHere 8 = .ok (.if_icmp .ne 10, 3) := by decide +kernel
theorem dX12_isHeatHere_11 : decode cX12_isHeatHere 11 = .ok (.aload_n 0, 1) := by decide +kernel
theorem dX12_isHeatHere_12 : decode cX12_isHeatHere 12 = .ok (.iconst 4, 1) := by decide +kernel
theorem dX12_isHeatHere_13 : decode cX12_isHeatHere 13 = .ok (.iload_n 1, 1) := by decide +kernel
theorem dX12_isHeatHere_14 : decode cX12_isHeatHere 14 = .ok (.invokevirtual 111, 3) := by decide +kernel
theorem dX12_isHeatHere_17 : decode cX12_isHeatHere 17 = .ok (.ireturn, 1) := by decide +kernel
theorem dX12_isHeatHere_18 : decode cX12_isHeatHere 18 = .ok (.aload_n 0, 1) := by decide +kernel
theorem dX12_isHeatHere_19 : decode cX12_isHeatHere 19 = .ok (.invokevirtual 105, 3) := by decide +kernel
theorem dX12_isHeatHere_22 : decode cX12_isHeatHere 22 = .ok (.bipush 81, 2) := by decide +kernel
theorem dX12_isHeatHere_24 : decode cX12_isHeatHere 24 = .ok (.iconst 3, 1) := by decide +kernel
theorem dX12_isHeatHere_25 : decode cX12_isHeatHere 25 = .ok (.aload_n 0, 1) := by decide +kernel
theorem dX12_isHeatHere_26 : decode cX12_isHeatHere 26 = .ok (.getfield 26, 3) := by decide +kernel
theorem dX12_isHeatHere_29 : decode cX12_isHeatHere 29 = .ok (.bipush 9, 2) := by decide +kernel
theorem dX12_isHeatHere_31 : decode cX12_isHeatHere 31 = .ok (.iaload, 1) := by decide +kernel
theorem dX12_isHeatHere_32 : decode cX12_isHeatHere 32 = .ok (.imul, 1) := by decide +kernel
theorem dX12_isHeatHere_33 : decode cX12_isHeatHere 33 = .ok (.iadd, 1) := by decide +kernel
theorem dX12_isHeatHere_34 : decode cX12_isHeatHere 34 = .ok (.istore_n 2, 1) := by decide +kernel
theorem dX12_isHeatHere_35 : decode cX12_isHeatHere 35 = .ok (.aload_n 0, 1) := by decide +kernel
theorem dX12_isHeatHere_36 : decode cX12_isHeatHere 36 = .ok (.iload_n 2, 1) := by decide +kernel
theorem dX12_isHeatHere_37 : decode cX12_isHeatHere 37 = .ok (.iconst 0, 1) := by decide +kernel
theorem dX12_isHeatHere_38 : decode cX12_isHeatHere 38 = .ok (.bipush 99, 2) := by decide +kernel
theorem dX12_isHeatHere_40 : decode cX12_isHeatHere 40 = .ok (.invokevirtual 214, 3) := by decide +kernel
theorem dX12_isHeatHere_43 : decode cX12_isHeatHere 43 = .ok (.ifCond .eq 33, 3) := by decide +kernel
theorem dX12_isHeatHere_46 : decode cX12_isHeatHere 46 = .ok (.aload_n 0, 1) := by decide +kernel
theorem dX12_isHeatHere_47 : decode cX12_isHeatHere 47 = .ok (.iload_n 2, 1) := by decide +kernel
theorem dX12_isHeatHere_48 : decode cX12_isHeatHere 48 = .ok (.iconst 1, 1) := by decide +kernel
theorem dX12_isHeatHere_49 : decode cX12_isHeatHere 49 = .ok (.iadd, 1) := by decide +kernel
theorem dX12_isHeatHere_50 : decode cX12_isHeatHere 50 = .ok (.aload_n 0, 1) := by decide +kernel
theorem dX12_isHeatHere_51 : decode cX12_isHeatHere 51 = .ok (.getfield 26, 3) := by decide +kernel
theorem dX12_isHeatHere_54 : decode cX12_isHeatHere 54 = .ok (.iload_n 2, 1) := by decide +kernel
theorem dX12_isHeatHere_55 : decode cX12_isHeatHere 55 = .ok (.iaload, 1) := by decide +kernel
theorem dX12_isHeatHere_56 : decode cX12_isHeatHere 56 = .ok (.bipush 99, 2) := by decide +kernel
theorem dX12_isHeatHere_58 : decode cX12_isHeatHere 58 = .ok (.invokevirtual 214, 3) := by decide +kernel
theorem dX12_isHeatHere_61 : decode cX12_isHeatHere 61 = .ok (.ifCond .eq 15, 3) := by decide +kernel
theorem dX12_isHeatHere_64 : decode cX12_isHeatHere 64 = .ok (.aload_n 0, 1) := by decide +kernel
theorem dX12_isHeatHere_65 : decode cX12_isHeatHere 65 = .ok (.iload_n 2, 1) := by decide +kernel
theorem dX12_isHeatHere_66 : decode cX12_isHeatHere 66 = .ok (.iconst 2, 1) := by decide +kernel
theorem dX12_isHeatHere_67 : decode cX12_isHeatHere 67 = .ok (.iadd, 1) := by decide +kernel
theorem dX12_isHeatHere_68 : decode cX12_isHeatHere 68 = .ok (.iconst 1, 1) := by decide +kernel
theorem dX12_isHeatHere_69 : decode cX12_isHeatHere 69 = .ok (.iconst 5, 1) := by decide +kernel
theorem dX12_isHeatHere_70 : decode cX12_isHeatHere 70 = .ok (.invokevirtual 214, 3) := by decide +kernel
theorem dX12_isHeatHere_73 : decode cX12_isHeatHere 73 = .ok (.ifCond .ne 5, 3) := by decide +kernel
theorem dX12_isHeatHere_76 : decode cX12_isHeatHere 76 = .ok (.iconst 0, 1) := by decide +kernel
theorem dX12_isHeatHere_77 : decode cX12_isHeatHere 77 = .ok (.ireturn, 1) := by decide +kernel
theorem dX12_isHeatHere_78 : decode cX12_isHeatHere 78 = .ok (.aload_n 0, 1) := by decide +kernel
theorem dX12_isHeatHere_79 : decode cX12_isHeatHere 79 = .ok (.getfield 26, 3) := by decide +kernel
theorem dX12_isHeatHere_82 : decode cX12_isHeatHere 82 = .ok (.bipush 9, 2) := by decide +kernel
theorem dX12_isHeatHere_84 : decode cX12_isHeatHere 84 = .ok (.dup2, 1) := by decide +kernel
theorem dX12_isHeatHere_85 : decode cX12_isHeatHere 85 = .ok (.iaload, 1) := by decide +kernel
theorem dX12_isHeatHere_86 : decode cX12_isHeatHere 86 = .ok (.iconst 1, 1) := by decide +kernel
theorem dX12_isHeatHere_87 : decode cX12_isHeatHere 87 = .ok (.iadd, 1) := by decide +kernel
theorem dX12_isHeatHere_88 : decode cX12_isHeatHere 88 = .ok (.iastore, 1) := by decide +kernel
theorem dX12_isHeatHere_89 : decode cX12_isHeatHere 89 = .ok (.iconst 1, 1) := by decide +kernel
theorem dX12_isHeatHere_90 : decode cX12_isHeatHere 90 = .ok (.ireturn, 1) := by decide +kernel
def wp_X12_isHeatHere (S : Sh) (M : Mm) (u0 : Int) (u1 : Int) (post : Int → Mm → Prop) : Prop := wGetR S M u0 12 7 fun v1 => wC 9 fun v3 => wLd S M v1 14 v3 fun v5 => wC 4 fun v7 => wIf (¬ v5 = v7) (isK S u0 12 ∧ (wp_X12_passWord S M u0 <| fun M9 => wC 81 fun v10 => wC 3 fun v12 => wGetR S M9 u0 12 7 fun v14 => wC 9 fun v16 => wLd S M9 v14 14 v16 fun v18 => wM v12 v18 fun v20 => wA v10 v20 fun v22 => wC 0 fun v24 => wC 99 fun v26 => isK S u0 12 ∧ (wp_X12_cellHere S M9 u0 v22 v24 v26 <| fun v29 M28 => wIf (v29 = 0) (wC 0 fun v31 => (v31 = 0 ∨ v31 = 1) ∧ post v31 M28) (wC 1 fun v33 => wA v22 v33 fun v35 => wGetR S M28 u0 12 7 fun v37 => wLd S M28 v37 14 v22 fun v39 => wC 99 fun v41 => isK S u0 12 ∧ (wp_X12_cellHere S M28 u0 v35 v39 v41 <| fun v44 M43 => wIf (v44 = 0) (wC 0 fun v46 => (v46 = 0 ∨ v46 = 1) ∧ post v46 M43) (wC 2 fun v48 => wA v22 v48 fun v50 => wC 1 fun v52 => wC 5 fun v54 => isK S u0 12 ∧ (wp_X12_cellHere S M43 u0 v50 v52 v54 <| fun v57 M56 => wIf (¬ v57 = 0) (wGetR S M56 u0 12 7 fun v59 => wC 9 fun v61 => wLd S M56 v59 14 v61 fun v63 => wC 1 fun v65 => wA v63 v65 fun v67 => wSt S M56 v59 14 v61 v67 fun M69 => wC 1 fun v70 => (v70 = 0 ∨ v70 = 1) ∧ post v70 M69) (wC 0 fun v72 => (v72 = 0 ∨ v72 = 1) ∧ post v72 M56)))))))) (wC 4 fun v74 => isK S u0 12 ∧ (wp_X12_fails S M u0 v74 u1 <| fun v77 M76 => (v77 = 0 ∨ v77 = 1) ∧ post v77 M76))
set_option maxHeartbeats 4000000 in
set_option maxRecDepth 100000 in
theorem c_X12_isHeatHere (l : Launch) (D : va_G) (G : Gt) (S : Sh) (M : Mm) (xl0 : Int) (zl1 : Int32) (post : Int → Mm → Prop) (h : wp_X12_isHeatHere S M xl0 zl1.toInt post) : Met l yX12_isHeatHere (cw_X12_isHeatHere :: gw) RM_X12_isHeatHere (va_Pc [.ref (adr G xl0), .int zl1] (fun U => KN D G U ∧ Wd D G S M U.heap)) (QI D G S post) 0 0 (aG G) := by
  refine Met.ofW (cc := cX12_isHeatHere) (maxL := 3) (ret := (some .boolean)) (by decide) rfl ?_
  intro p e s m args below meth c s₁ B hml hv
  obtain ⟨rfl, hK, hP⟩ := hv
  have hx := B.exec
  have hb := B.bytes
  have hr := B.returns
  have hts := atoms_spec (ws := cw_X12_isHeatHere :: gw) B.pre
  have hown : s.vm.findClass RX12 = some m.cls := findClass_of_methodNamed B.named
  have hlocks := B.notSynchronized
  have hS : va_S (aG G) s.heap s.heap [] := va_S.rf
  have C : Cx p s m ([.ref (adr G xl0), .int zl1] : List Value).toArray meth c D G cX12_isHeatHere 3 (some .boolean) (cw_X12_isHeatHere :: gw) RX12 := ⟨hx, hb, hr, hlocks, hml, hown, hts, hK⟩
  have hl := lv_entry ([.ref (adr G xl0), .int zl1]) (n := 3) (Nat.le_of_ble_eq_true rfl)
  rw [lg_entry_eq]
  generalize (lg_sl ([.ref (adr G xl0), .int zl1]) ++ List.replicate (3 - (lg_sl ([.ref (adr G xl0), .int zl1])).length) Slot.unset).toArray = ls at hl ⊢
  have hl : lv_has ls 3 [(0, .ref (adr G xl0)), (1, .int zl1)] := hl
  unfold wp_X12_isHeatHere at h
  refine lv_aload_n hx hb dX12_isHeatHere_0 rfl (lv_at hl 0 rfl) ?_
  refine r_getr (C := RX12) (T := TX12) (N := 38) hx hb hts (fun w h => List.mem_cons_of_mem _ (iX12 w h)) hown hK hP rfl (by decide) rfl 7 (by decide) (hts _ (List.mem_cons_of_mem _ kw_1341)) (fun _ h9 => h9) dX12_isHeatHere_1 (by decide) h (fun x2 h => ?_)
  refine r_bipush hx hb dX12_isHeatHere_4 (by decide) h (fun z4 h => ?_)
  refine r_iald hx hb hK hP dX12_isHeatHere_6 h (fun z6 h => ?_)
  refine r_iconst hx hb dX12_isHeatHere_7 (by decide) h (fun z8 h => ?_)
  refine r_icmp_ne (tgt := 18) hx hb dX12_isHeatHere_8 (by decide) h (fun h => ?_) (fun h => ?_)
  · refine lv_aload_n hx hb dX12_isHeatHere_18 rfl (lv_at hl 0 rfl) ?_
    refine q_Vv hx hb hml hown hts hK hP hS (c_X12_passWord l D G S _ xl0 _ h.2) ⟨callB_of 0 hts (gw_good kw_1512) rfl rfl rfl (hts _ (List.mem_cons_of_mem _ kw_14)) (hts _ (List.mem_cons_of_mem _ kw_1509)) hd_X12_passWord ⟨Nat.le_of_ble_eq_true rfl, Nat.le_of_ble_eq_true rfl⟩, (hts _ (List.mem_cons_of_mem _ kw_1511)), (hts _ (List.mem_cons_of_mem _ kp_61))⟩ h.1 (ci := 12) rfl (by decide) rfl hl.1 rfl (lv_room (Nat.le_of_ble_eq_true rfl)) dX12_isHeatHere_19 ⟨Nat.zero_le _, Nat.zero_le _⟩ (fun M9 H locs h hP hS => ?_)
    refine r_bipush hx hb dX12_isHeatHere_22 (by decide) h (fun z11 h => ?_)
    refine r_iconst hx hb dX12_isHeatHere_24 (by decide) h (fun z13 h => ?_)
    refine lv_aload_n hx hb dX12_isHeatHere_25 rfl (lv_at hl 0 rfl) ?_
    refine r_getr (C := RX12) (T := TX12) (N := 38) hx hb hts (fun w h => List.mem_cons_of_mem _ (iX12 w h)) hown hK hP rfl (by decide) rfl 7 (by decide) (hts _ (List.mem_cons_of_mem _ kw_1341)) (fun _ h9 => h9) dX12_isHeatHere_26 (by decide) h (fun x15 h => ?_)
    refine r_bipush hx hb dX12_isHeatHere_29 (by decide) h (fun z17 h => ?_)
    refine r_iald hx hb hK hP dX12_isHeatHere_31 h (fun z19 h => ?_)
    refine r_imul hx hb dX12_isHeatHere_32 h (fun z21 h => ?_)
    refine r_iadd hx hb dX12_isHeatHere_33 h (fun z23 h => ?_)
    refine lv_istore_n (lv' := [(2, .int z23), (0, .ref (adr G xl0)), (1, .int zl1)]) hx hb dX12_isHeatHere_34 rfl hl (by decide) rfl (fun ls hl => ?_)
    refine lv_aload_n hx hb dX12_isHeatHere_35 rfl (lv_at hl 1 rfl) ?_
    refine lv_iload_n hx hb dX12_isHeatHere_36 rfl (lv_at hl 0 rfl) ?_
    refine r_iconst hx hb dX12_isHeatHere_37 (by decide) h (fun z25 h => ?_)
    refine r_bipush hx hb dX12_isHeatHere_38 (by decide) h (fun z27 h => ?_)
    refine q_Vi hx hb hml hown hts hK hP hS (c_X12_cellHere l D G S _ xl0 z23 z25 z27 _ h.2) ⟨callB_of 3 hts (gw_good kw_1527) rfl rfl rfl (hts _ (List.mem_cons_of_mem _ kw_14)) (hts _ (List.mem_cons_of_mem _ kw_1524)) hd_X12_cellHere ⟨Nat.le_of_ble_eq_true rfl, Nat.le_of_ble_eq_true rfl⟩, (hts _ (List.mem_cons_of_mem _ kw_1526)), (hts _ (List.mem_cons_of_mem _ kp_64))⟩ h.1 (ci := 12) rfl (by decide) rfl hl.1 rfl (lv_room (Nat.le_of_ble_eq_true rfl)) dX12_isHeatHere_40 ⟨Nat.zero_le _, Nat.zero_le _⟩ (fun z30 M28 H locs h hP hS => ?_)
    refine r_if_eq (tgt := 76) hx hb dX12_isHeatHere_43 (by decide) h (fun h => ?_) (fun h => ?_)
    · refine r_iconst hx hb dX12_isHeatHere_76 (by decide) h (fun z32 h => ?_)
      exact r_zret hx hb hr hlocks hP hS dX12_isHeatHere_77 h
    · refine lv_aload_n hx hb dX12_isHeatHere_46 rfl (lv_at hl 1 rfl) ?_
      refine lv_iload_n hx hb dX12_isHeatHere_47 rfl (lv_at hl 0 rfl) ?_
      refine r_iconst hx hb dX12_isHeatHere_48 (by decide) h (fun z34 h => ?_)
      refine r_iadd hx hb dX12_isHeatHere_49 h (fun z36 h => ?_)
      refine lv_aload_n hx hb dX12_isHeatHere_50 rfl (lv_at hl 1 rfl) ?_
      refine r_getr (C := RX12) (T := TX12) (N := 38) hx hb hts (fun w h => List.mem_cons_of_mem _ (iX12 w h)) hown hK hP rfl (by decide) rfl 7 (by decide) (hts _ (List.mem_cons_of_mem _ kw_1341)) (fun _ h9 => h9) dX12_isHeatHere_51 (by decide) h (fun x38 h => ?_)
      refine lv_iload_n hx hb dX12_isHeatHere_54 rfl (lv_at hl 0 rfl) ?_
      refine r_iald hx hb hK hP dX12_isHeatHere_55 h (fun z40 h => ?_)
      refine r_bipush hx hb dX12_isHeatHere_56 (by decide) h (fun z42 h => ?_)
      refine q_Vi hx hb hml hown hts hK hP hS (c_X12_cellHere l D G S _ xl0 z36 z40 z42 _ h.2) ⟨callB_of 3 hts (gw_good kw_1527) rfl rfl rfl (hts _ (List.mem_cons_of_mem _ kw_14)) (hts _ (List.mem_cons_of_mem _ kw_1524)) hd_X12_cellHere ⟨Nat.le_of_ble_eq_true rfl, Nat.le_of_ble_eq_true rfl⟩, (hts _ (List.mem_cons_of_mem _ kw_1526)), (hts _ (List.mem_cons_of_mem _ kp_64))⟩ h.1 (ci := 12) rfl (by decide) rfl hl.1 rfl (lv_room (Nat.le_of_ble_eq_true rfl)) dX12_isHeatHere_58 ⟨Nat.zero_le _, Nat.zero_le _⟩ (fun z45 M43 H locs h hP hS => ?_)
      refine r_if_eq (tgt := 76) hx hb dX12_isHeatHere_61 (by decide) h (fun h => ?_) (fun h => ?_)
      · refine r_iconst hx hb dX12_isHeatHere_76 (by decide) h (fun z47 h => ?_)
        exact r_zret hx hb hr hlocks hP hS dX12_isHeatHere_77 h
      · refine lv_aload_n hx hb dX12_isHeatHere_64 rfl (lv_at hl 1 rfl) ?_
        refine lv_iload_n hx hb dX12_isHeatHere_65 rfl (lv_at hl 0 rfl) ?_
        refine r_iconst hx hb dX12_isHeatHere_66 (by decide) h (fun z49 h => ?_)
        refine r_iadd hx hb dX12_isHeatHere_67 h (fun z51 h => ?_)
        refine r_iconst hx hb dX12_isHeatHere_68 (by decide) h (fun z53 h => ?_)
        refine r_iconst hx hb dX12_isHeatHere_69 (by decide) h (fun z55 h => ?_)
        refine q_Vi hx hb hml hown hts hK hP hS (c_X12_cellHere l D G S _ xl0 z51 z53 z55 _ h.2) ⟨callB_of 3 hts (gw_good kw_1527) rfl rfl rfl (hts _ (List.mem_cons_of_mem _ kw_14)) (hts _ (List.mem_cons_of_mem _ kw_1524)) hd_X12_cellHere ⟨Nat.le_of_ble_eq_true rfl, Nat.le_of_ble_eq_true rfl⟩, (hts _ (List.mem_cons_of_mem _ kw_1526)), (hts _ (List.mem_cons_of_mem _ kp_64))⟩ h.1 (ci := 12) rfl (by decide) rfl hl.1 rfl (lv_room (Nat.le_of_ble_eq_true rfl)) dX12_isHeatHere_70 ⟨Nat.zero_le _, Nat.zero_le _⟩ (fun z58 M56 H locs h hP hS => ?_)
        refine r_if_ne (tgt := 78) hx hb dX12_isHeatHere_73 (by decide) h (fun h => ?_) (fun h => ?_)
        · refine lv_aload_n hx hb dX12_isHeatHere_78 rfl (lv_at hl 1 rfl) ?_
          refine r_getr (C := RX12) (T := TX12) (N := 38) hx hb hts (fun w h => List.mem_cons_of_mem _ (iX12 w h)) hown hK hP rfl (by decide) rfl 7 (by decide) (hts _ (List.mem_cons_of_mem _ kw_1341)) (fun _ h9 => h9) dX12_isHeatHere_79 (by decide) h (fun x60 h => ?_)
          refine r_bipush hx hb dX12_isHeatHere_82 (by decide) h (fun z62 h => ?_)
          refine lv_dup2_11 hx hb dX12_isHeatHere_84 rfl rfl ?_
          refine r_iald hx hb hK hP dX12_isHeatHere_85 h (fun z64 h => ?_)
          refine r_iconst hx hb dX12_isHeatHere_86 (by decide) h (fun z66 h => ?_)
          refine r_iadd hx hb dX12_isHeatHere_87 h (fun z68 h => ?_)
          refine r_iast hx hb hK hP hS dX12_isHeatHere_88 h (fun M69 H locs h hP hS => ?_)
          refine r_iconst hx hb dX12_isHeatHere_89 (by decide) h (fun z71 h => ?_)
          exact r_zret hx hb hr hlocks hP hS dX12_isHeatHere_90 h
        · refine r_iconst hx hb dX12_isHeatHere_76 (by decide) h (fun z73 h => ?_)
          exact r_zret hx hb hr hlocks hP hS dX12_isHeatHere_77 h
  · refine lv_aload_n hx hb dX12_isHeatHere_11 rfl (lv_at hl 0 rfl) ?_
    refine r_iconst hx hb dX12_isHeatHere_12 (by decide) h (fun z75 h => ?_)
    refine lv_iload_n hx hb dX12_isHeatHere_13 rfl (lv_at hl 1 rfl) ?_
    refine q_Vi hx hb hml hown hts hK hP hS (c_X12_fails l D G S _ xl0 z75 zl1 _ h.2) ⟨callB_of 2 hts (gw_good kw_1500) rfl rfl rfl (hts _ (List.mem_cons_of_mem _ kw_14)) (hts _ (List.mem_cons_of_mem _ kw_1497)) hd_X12_fails ⟨Nat.le_of_ble_eq_true rfl, Nat.le_of_ble_eq_true rfl⟩, (hts _ (List.mem_cons_of_mem _ kw_1499)), (hts _ (List.mem_cons_of_mem _ kp_58))⟩ h.1 (ci := 12) rfl (by decide) rfl hl.1 rfl (lv_room (Nat.le_of_ble_eq_true rfl)) dX12_isHeatHere_14 ⟨Nat.zero_le _, Nat.zero_le _⟩ (fun z78 M76 H locs h hP hS => ?_)
    exact r_zret hx hb hr hlocks hP hS dX12_isHeatHere_17 h
/-! TurningMilkModel.isWantHere(I)Z -/
abbrev RM_X12_isWantHere : Room := { frames := 4, cells := 0, slots := 0, locals := 112 }
def cw_X12_isWantHere : Cond := Cond.code yX12_isWantHere cX12_isWantHere 3 (Option.some FieldType.boolean)
theorem hd_X12_isWantHere : yX12_isWantHere.cls ≠ "java/lang/invoke/MethodHandle" ∧ yX12_isWantHere.cls ≠ "java/lang/invoke/VarHandle" ∧ (parseMethodDescriptor yX12_isWantHere.desc).map (fun d => d.parameters.length) = some 1 := by decide +kernel
theorem dX12_isWantHere_0 : decode cX12_isWantHere 0 = .ok (.aload_n 0, 1) := by decide +kernel
theorem dX12_isWantHere_1 : decode cX12_isWantHere 1 = .ok (.getfield 26, 3) := by decide +kernel
theorem dX12_isWantHere_4 : decode cX12_isWantHere 4 = .ok (.bipush 6, 2) := by decide +kernel
theorem dX12_isWantHere_6 : decode cX12_isWantHere 6 = .ok (.iaload, 1) := by decide +kernel
theorem dX12_isWantHere_7 : decode cX12_isWantHere 7 = .ok (.bipush 6, 2) := by decide +kernel
theorem dX12_isWantHere_9 : decode cX12_isWantHere 9 = .ok (.if_icmp .ne 10, 3) := by decide +kernel
theorem dX12_isWantHere_12 : decode cX12_isWantHere 12 = .ok (.aload_n 0, 1) := by decide +kernel
theorem dX12_isWantHere_13 : decode cX12_isWantHere 13 = .ok (.iconst 4, 1) := by decide +kernel
theorem dX12_isWantHere_14 : decode cX12_isWantHere 14 = .ok (.iload_n 1, 1) := by decide +kernel
theorem dX12_isWantHere_15 : decode cX12_isWantHere 15 = .ok (.invokevirtual 111, 3) := by decide +kernel
theorem dX12_isWantHere_18 : decode cX12_isWantHere 18 = .ok (.ireturn, 1) := by decide +kernel
theorem dX12_isWantHere_19 : decode cX12_isWantHere 19 = .ok (.aload_n 0, 1) := by decide +kernel
theorem dX12_isWantHere_20 : decode cX12_isWantHere 20 = .ok (.invokevirtual 105, 3) := by decide +kernel
theorem dX12_isWantHere_23 : decode cX12_isWantHere 23 = .ok (.bipush 93, 2) := by decide +kernel
theorem dX12_isWantHere_25 : decode cX12_isWantHere 25 = .ok (.iconst 4, 1) := by decide +kernel
theorem dX12_isWantHere_26 : decode cX12_isWantHere 26 = .ok (.aload_n 0, 1) := by decide +kernel
theorem dX12_isWantHere_27 : decode cX12_isWantHere 27 = .ok (.getfield 26, 3) := by decide +kernel
theorem dX12_isWantHere_30 : decode cX12_isWantHere 30 = .ok (.bipush 6, 2) := by decide +kernel
theorem dX12_isWantHere_32 : decode cX12_isWantHere 32 = .ok (.iaload, 1) := by decide +kernel
theorem dX12_isWantHere_33 : decode cX12_isWantHere 33 = .ok (.imul, 1) := by decide +kernel
theorem dX12_isWantHere_34 : decode cX12_isWantHere 34 = .ok (.iadd, 1) := by decide +kernel
theorem dX12_isWantHere_35 : decode cX12_isWantHere 35 = .ok (.istore_n 2, 1) := by decide +kernel
theorem dX12_isWantHere_36 : decode cX12_isWantHere 36 = .ok (.aload_n 0, 1) := by decide +kernel
theorem dX12_isWantHere_37 : decode cX12_isWantHere 37 = .ok (.iload_n 2, 1) := by decide +kernel
theorem dX12_isWantHere_38 : decode cX12_isWantHere 38 = .ok (.iconst 0, 1) := by decide +kernel
theorem dX12_isWantHere_39 : decode cX12_isWantHere 39 = .ok (.aload_n 0, 1) := by decide +kernel
theorem dX12_isWantHere_40 : decode cX12_isWantHere 40 = .ok (.getfield 26, 3) := by decide +kernel
theorem dX12_isWantHere_43 : decode cX12_isWantHere 43 = .ok (.iconst 0, 1) := by decide +kernel
theorem dX12_isWantHere_44 : decode cX12_isWantHere 44 = .ok (.iaload, 1) := by decide +kernel
theorem dX12_isWantHere_45 : decode cX12_isWantHere 45 = .ok (.iconst 1, 1) := by decide +kernel
theorem dX12_isWantHere_46 : decode cX12_isWantHere 46 = .ok (.isub, 1) := by decide +kernel
theorem dX12_isWantHere_47 : decode cX12_isWantHere 47 = .ok (.invokevirtual 214, 3) := by decide +kernel
theorem dX12_isWantHere_50 : decode cX12_isWantHere 50 = .ok (.ifCond .eq 49, 3) := by decide +kernel
theorem dX12_isWantHere_53 : decode cX12_isWantHere 53 = .ok (.aload_n 0, 1) := by decide +kernel
theorem dX12_isWantHere_54 : decode cX12_isWantHere 54 = .ok (.iload_n 2, 1) := by decide +kernel
theorem dX12_isWantHere_55 : decode cX12_isWantHere 55 = .ok (.iconst 1, 1) := by decide +kernel
theorem dX12_isWantHere_56 : decode cX12_isWantHere 56 = .ok (.iadd, 1) := by decide +kernel
theorem dX12_isWantHere_57 : decode cX12_isWantHere 57 = .ok (.iconst 0, 1) := by decide +kernel
theorem dX12_isWantHere_58 : decode cX12_isWantHere 58 = .ok (.bipush 99, 2) := by decide +kernel
theorem dX12_isWantHere_60 : decode cX12_isWantHere 60 = .ok (.invokevirtual 214, 3) := by decide +kernel
theorem dX12_isWantHere_63 : decode cX12_isWantHere 63 = .ok (.ifCond .eq 36, 3) := by decide +kernel
theorem dX12_isWantHere_66 : decode cX12_isWantHere 66 = .ok (.aload_n 0, 1) := by decide +kernel
theorem dX12_isWantHere_67 : decode cX12_isWantHere 67 = .ok (.iload_n 2, 1) := by decide +kernel
theorem dX12_isWantHere_68 : decode cX12_isWantHere 68 = .ok (.iconst 2, 1) := by decide +kernel
theorem dX12_isWantHere_69 : decode cX12_isWantHere 69 = .ok (.iadd, 1) := by decide +kernel
theorem dX12_isWantHere_70 : decode cX12_isWantHere 70 = .ok (.aload_n 0, 1) := by decide +kernel
theorem dX12_isWantHere_71 : decode cX12_isWantHere 71 = .ok (.getfield 26, 3) := by decide +kernel
theorem dX12_isWantHere_74 : decode cX12_isWantHere 74 = .ok (.iload_n 2, 1) := by decide +kernel
theorem dX12_isWantHere_75 : decode cX12_isWantHere 75 = .ok (.iconst 1, 1) := by decide +kernel
theorem dX12_isWantHere_76 : decode cX12_isWantHere 76 = .ok (.iadd, 1) := by decide +kernel
theorem dX12_isWantHere_77 : decode cX12_isWantHere 77 = .ok (.iaload, 1) := by decide +kernel
theorem dX12_isWantHere_78 : decode cX12_isWantHere 78 = .ok (.bipush 99, 2) := by decide +kernel
theorem dX12_isWantHere_80 : decode cX12_isWantHere 80 = .ok (.invokevirtual 214, 3) := by decide +kernel
theorem dX12_isWantHere_83 : decode cX12_isWantHere 83 = .ok (.ifCond .eq 16, 3) := by decide +kernel
theorem dX12_isWantHere_86 : decode cX12_isWantHere 86 = .ok (.aload_n 0, 1) := by decide +kernel
theorem dX12_isWantHere_87 : decode cX12_isWantHere 87 = .ok (.iload_n 2, 1) := by decide +kernel
theorem dX12_isWantHere_88 : decode cX12_isWantHere 88 = .ok (.iconst 3, 1) := by decide +kernel
theorem dX12_isWantHere_89 : decode cX12_isWantHere 89 = .ok (.iadd, 1) := by decide +kernel
theorem dX12_isWantHere_90 : decode cX12_isWantHere 90 = .ok (.iconst 1, 1) := by decide +kernel
theorem dX12_isWantHere_91 : decode cX12_isWantHere 91 = .ok (.bipush 50, 2) := by decide +kernel
theorem dX12_isWantHere_93 : decode cX12_isWantHere 93 = .ok (.invokevirtual 214, 3) := by decide +kernel
theorem dX12_isWantHere_96 : decode cX12_isWantHere 96 = .ok (.ifCond .ne 5, 3) := by decide +kernel
theorem dX12_isWantHere_99 : decode cX12_isWantHere 99 = .ok (.iconst 0, 1) := by decide +kernel
theorem dX12_isWantHere_100 : decode cX12_isWantHere 100 = .ok (.ireturn, 1) := by decide +kernel
theorem dX12_isWantHere_101 : decode cX12_isWantHere 101 = .ok (.aload_n 0, 1) := by decide +kernel
theorem dX12_isWantHere_102 : decode cX12_isWantHere 102 = .ok (.getfield 26, 3) := by decide +kernel
theorem dX12_isWantHere_105 : decode cX12_isWantHere 105 = .ok (.bipush 51, 2) := by decide +kernel
theorem dX12_isWantHere_107 : decode cX12_isWantHere 107 = .ok (.aload_n 0, 1) := by decide +kernel
theorem dX12_isWantHere_108 : decode cX12_isWantHere 108 = .ok (.getfield 26, 3) := by decide +kernel
theorem dX12_isWantHere_111 : decode cX12_isWantHere 111 = .ok (.bipush 6, 2) := by decide +kernel
theorem dX12_isWantHere_113 : decode cX12_isWantHere 113 = .ok (.iaload, 1) := by decide +kernel
theorem dX12_isWantHere_114 : decode cX12_isWantHere 114 = .ok (.iadd, 1) := by decide +kernel
theorem dX12_isWantHere_115 : decode cX12_isWantHere 115 = .ok (.iconst (-1), 1) := by decide +kernel
theorem dX12_isWantHere_116 : decode cX12_isWantHere 116 = .ok (.iastore, 1) := by decide +kernel
theorem dX12_isWantHere_117 : decode cX12_isWantHere 117 = .ok (.aload_n 0, 1) := by decide +kernel
theorem dX12_isWantHere_118 : decode cX12_isWantHere 118 = .ok (.getfield 26, 3) := by decide +kernel
theorem dX12_isWantHere_121 : decode cX12_isWantHere 121 = .ok (.bipush 6, 2) := by decide +kernel
theorem dX12_isWantHere_123 : decode cX12_isWantHere 123 = .ok (.dup2, 1) := by decide +kernel
theorem dX12_isWantHere_124 : decode cX12_isWantHere 124 = .ok (.iaload, 1) := by decide +kernel
theorem dX12_isWantHere_125 : decode cX12_isWantHere 125 = .ok (.iconst 1, 1) := by decide +kernel
theorem dX12_isWantHere_126 : decode cX12_isWantHere 126 = .ok (.iadd, 1) := by decide +kernel
theorem dX12_isWantHere_127 : decode cX12_isWantHere 127 = .ok (.iastore, 1) := by decide +kernel
theorem dX12_isWantHere_128 : decode cX12_isWantHere 128 = .ok (.iconst 1, 1) := by decide +kernel
theorem dX12_isWantHere_129 : decode cX12_isWantHere 129 = .ok (.ireturn, 1) := by decide +kernel
def wp_X12_isWantHere (S : Sh) (M : Mm) (u0 : Int) (u1 : Int) (post : Int → Mm → Prop) : Prop := wGetR S M u0 12 7 fun v1 => wC 6 fun v3 => wLd S M v1 14 v3 fun v5 => wC 6 fun v7 => wIf (¬ v5 = v7) (isK S u0 12 ∧ (wp_X12_passWord S M u0 <| fun M9 => wC 93 fun v10 => wC 4 fun v12 => wGetR S M9 u0 12 7 fun v14 => wC 6 fun v16 => wLd S M9 v14 14 v16 fun v18 => wM v12 v18 fun v20 => wA v10 v20 fun v22 => wC 0 fun v24 => wGetR S M9 u0 12 7 fun v26 => wC 0 fun v28 => wLd S M9 v26 14 v28 fun v30 => wC 1 fun v32 => wS v30 v32 fun v34 => isK S u0 12 ∧ (wp_X12_cellHere S M9 u0 v22 v24 v34 <| fun v37 M36 => wIf (v37 = 0) (wC 0 fun v39 => (v39 = 0 ∨ v39 = 1) ∧ post v39 M36) (wC 1 fun v41 => wA v22 v41 fun v43 => wC 0 fun v45 => wC 99 fun v47 => isK S u0 12 ∧ (wp_X12_cellHere S M36 u0 v43 v45 v47 <| fun v50 M49 => wIf (v50 = 0) (wC 0 fun v52 => (v52 = 0 ∨ v52 = 1) ∧ post v52 M49) (wC 2 fun v54 => wA v22 v54 fun v56 => wGetR S M49 u0 12 7 fun v58 => wC 1 fun v60 => wA v22 v60 fun v62 => wLd S M49 v58 14 v62 fun v64 => wC 99 fun v66 => isK S u0 12 ∧ (wp_X12_cellHere S M49 u0 v56 v64 v66 <| fun v69 M68 => wIf (v69 = 0) (wC 0 fun v71 => (v71 = 0 ∨ v71 = 1) ∧ post v71 M68) (wC 3 fun v73 => wA v22 v73 fun v75 => wC 1 fun v77 => wC 50 fun v79 => isK S u0 12 ∧ (wp_X12_cellHere S M68 u0 v75 v77 v79 <| fun v82 M81 => wIf (¬ v82 = 0) (wGetR S M81 u0 12 7 fun v84 => wC 51 fun v86 => wGetR S M81 u0 12 7 fun v88 => wC 6 fun v90 => wLd S M81 v88 14 v90 fun v92 => wA v86 v92 fun v94 => wC (-1) fun v96 => wSt S M81 v84 14 v94 v96 fun M98 => wGetR S M98 u0 12 7 fun v99 => wC 6 fun v101 => wLd S M98 v99 14 v101 fun v103 => wC 1 fun v105 => wA v103 v105 fun v107 => wSt S M98 v99 14 v101 v107 fun M109 => wC 1 fun v110 => (v110 = 0 ∨ v110 = 1) ∧ post v110 M109) (wC 0 fun v112 => (v112 = 0 ∨ v112 = 1) ∧ post v112 M81)))))))))) (wC 4 fun v114 => isK S u0 12 ∧ (wp_X12_fails S M u0 v114 u1 <| fun v117 M116 => (v117 = 0 ∨ v117 = 1) ∧ post v117 M116))
set_option maxHeartbeats 4000000 in
set_option maxRecDepth 100000 in
theorem c_X12_isWantHere (l : Launch) (D : va_G) (G : Gt) (S : Sh) (M : Mm) (xl0 : Int) (zl1 : Int32) (post : Int → Mm → Prop) (h : wp_X12_isWantHere S M xl0 zl1.toInt post) : Met l yX12_isWantHere (cw_X12_isWantHere :: gw) RM_X12_isWantHere (va_Pc [.ref (adr G xl0), .int zl1] (fun U => KN D G U ∧ Wd D G S M U.heap)) (QI D G S post) 0 0 (aG G) := by
  refine Met.ofW (cc := cX12_isWantHere) (maxL := 3) (ret := (some .boolean)) (by decide) rfl ?_
  intro p e s m args below meth c s₁ B hml hv
  obtain ⟨rfl, hK, hP⟩ := hv
  have hx := B.exec
  have hb := B.bytes
  have hr := B.returns
  have hts := atoms_spec (ws := cw_X12_isWantHere :: gw) B.pre
  have hown : s.vm.findClass RX12 = some m.cls := findClass_of_methodNamed B.named
  have hlocks := B.notSynchronized
  have hS : va_S (aG G) s.heap s.heap [] := va_S.rf
  have C : Cx p s m ([.ref (adr G xl0), .int zl1] : List Value).toArray meth c D G cX12_isWantHere 3 (some .boolean) (cw_X12_isWantHere :: gw) RX12 := ⟨hx, hb, hr, hlocks, hml, hown, hts, hK⟩
  have hl := lv_entry ([.ref (adr G xl0), .int zl1]) (n := 3) (Nat.le_of_ble_eq_true rfl)
  rw [lg_entry_eq]
  generalize (lg_sl ([.ref (adr G xl0), .int zl1]) ++ List.replicate (3 - (lg_sl ([.ref (adr G xl0), .int zl1])).length) Slot.unset).toArray = ls at hl ⊢
  have hl : lv_has ls 3 [(0, .ref (adr G xl0)), (1, .int zl1)] := hl
  unfold wp_X12_isWantHere at h
  refine lv_aload_n hx hb dX12_isWantHere_0 rfl (lv_at hl 0 rfl) ?_
  refine r_getr (C := RX12) (T := TX12) (N := 38) hx hb hts (fun w h => List.mem_cons_of_mem _ (iX12 w h)) hown hK hP rfl (by decide) rfl 7 (by decide) (hts _ (List.mem_cons_of_mem _ kw_1341)) (fun _ h9 => h9) dX12_isWantHere_1 (by decide) h (fun x2 h => ?_)
  refine r_bipush hx hb dX12_isWantHere_4 (by decide) h (fun z4 h => ?_)
  refine r_iald hx hb hK hP dX12_isWantHere_6 h (fun z6 h => ?_)
  refine r_bipush hx hb dX12_isWantHere_7 (by decide) h (fun z8 h => ?_)
  refine r_icmp_ne (tgt := 19) hx hb dX12_isWantHere_9 (by decide) h (fun h => ?_) (fun h => ?_)
  · refine lv_aload_n hx hb dX12_isWantHere_19 rfl (lv_at hl 0 rfl) ?_
    refine q_Vv hx hb hml hown hts hK hP hS (c_X12_passWord l D G S _ xl0 _ h.2) ⟨callB_of 0 hts (gw_good kw_1512) rfl rfl rfl (hts _ (List.mem_cons_of_mem _ kw_14)) (hts _ (List.mem_cons_of_mem _ kw_1509)) hd_X12_passWord ⟨Nat.le_of_ble_eq_true rfl, Nat.le_of_ble_eq_true rfl⟩, (hts _ (List.mem_cons_of_mem _ kw_1511)), (hts _ (List.mem_cons_of_mem _ kp_61))⟩ h.1 (ci := 12) rfl (by decide) rfl hl.1 rfl (lv_room (Nat.le_of_ble_eq_true rfl)) dX12_isWantHere_20 ⟨Nat.zero_le _, Nat.zero_le _⟩ (fun M9 H locs h hP hS => ?_)
    refine r_bipush hx hb dX12_isWantHere_23 (by decide) h (fun z11 h => ?_)
    refine r_iconst hx hb dX12_isWantHere_25 (by decide) h (fun z13 h => ?_)
    refine lv_aload_n hx hb dX12_isWantHere_26 rfl (lv_at hl 0 rfl) ?_
    refine r_getr (C := RX12) (T := TX12) (N := 38) hx hb hts (fun w h => List.mem_cons_of_mem _ (iX12 w h)) hown hK hP rfl (by decide) rfl 7 (by decide) (hts _ (List.mem_cons_of_mem _ kw_1341)) (fun _ h9 => h9) dX12_isWantHere_27 (by decide) h (fun x15 h => ?_)
    refine r_bipush hx hb dX12_isWantHere_30 (by decide) h (fun z17 h => ?_)
    refine r_iald hx hb hK hP dX12_isWantHere_32 h (fun z19 h => ?_)
    refine r_imul hx hb dX12_isWantHere_33 h (fun z21 h => ?_)
    refine r_iadd hx hb dX12_isWantHere_34 h (fun z23 h => ?_)
    refine lv_istore_n (lv' := [(2, .int z23), (0, .ref (adr G xl0)), (1, .int zl1)]) hx hb dX12_isWantHere_35 rfl hl (by decide) rfl (fun ls hl => ?_)
    refine lv_aload_n hx hb dX12_isWantHere_36 rfl (lv_at hl 1 rfl) ?_
    refine lv_iload_n hx hb dX12_isWantHere_37 rfl (lv_at hl 0 rfl) ?_
    refine r_iconst hx hb dX12_isWantHere_38 (by decide) h (fun z25 h => ?_)
    refine lv_aload_n hx hb dX12_isWantHere_39 rfl (lv_at hl 1 rfl) ?_
    refine r_getr (C := RX12) (T := TX12) (N := 38) hx hb hts (fun w h => List.mem_cons_of_mem _ (iX12 w h)) hown hK hP rfl (by decide) rfl 7 (by decide) (hts _ (List.mem_cons_of_mem _ kw_1341)) (fun _ h9 => h9) dX12_isWantHere_40 (by decide) h (fun x27 h => ?_)
    refine r_iconst hx hb dX12_isWantHere_43 (by decide) h (fun z29 h => ?_)
    refine r_iald hx hb hK hP dX12_isWantHere_44 h (fun z31 h => ?_)
    refine r_iconst hx hb dX12_isWantHere_45 (by decide) h (fun z33 h => ?_)
    refine r_isub hx hb dX12_isWantHere_46 h (fun z35 h => ?_)
    refine q_Vi hx hb hml hown hts hK hP hS (c_X12_cellHere l D G S _ xl0 z23 z25 z35 _ h.2) ⟨callB_of 3 hts (gw_good kw_1527) rfl rfl rfl (hts _ (List.mem_cons_of_mem _ kw_14)) (hts _ (List.mem_cons_of_mem _ kw_1524)) hd_X12_cellHere ⟨Nat.le_of_ble_eq_true rfl, Nat.le_of_ble_eq_true rfl⟩, (hts _ (List.mem_cons_of_mem _ kw_1526)), (hts _ (List.mem_cons_of_mem _ kp_64))⟩ h.1 (ci := 12) rfl (by decide) rfl hl.1 rfl (lv_room (Nat.le_of_ble_eq_true rfl)) dX12_isWantHere_47 ⟨Nat.zero_le _, Nat.zero_le _⟩ (fun z38 M36 H locs h hP hS => ?_)
    refine r_if_eq (tgt := 99) hx hb dX12_isWantHere_50 (by decide) h (fun h => ?_) (fun h => ?_)
    · refine r_iconst hx hb dX12_isWantHere_99 (by decide) h (fun z40 h => ?_)
      exact r_zret hx hb hr hlocks hP hS dX12_isWantHere_100 h
    · refine lv_aload_n hx hb dX12_isWantHere_53 rfl (lv_at hl 1 rfl) ?_
      refine lv_iload_n hx hb dX12_isWantHere_54 rfl (lv_at hl 0 rfl) ?_
      refine r_iconst hx hb dX12_isWantHere_55 (by decide) h (fun z42 h => ?_)
      refine r_iadd hx hb dX12_isWantHere_56 h (fun z44 h => ?_)
      refine r_iconst hx hb dX12_isWantHere_57 (by decide) h (fun z46 h => ?_)
      refine r_bipush hx hb dX12_isWantHere_58 (by decide) h (fun z48 h => ?_)
      refine q_Vi hx hb hml hown hts hK hP hS (c_X12_cellHere l D G S _ xl0 z44 z46 z48 _ h.2) ⟨callB_of 3 hts (gw_good kw_1527) rfl rfl rfl (hts _ (List.mem_cons_of_mem _ kw_14)) (hts _ (List.mem_cons_of_mem _ kw_1524)) hd_X12_cellHere ⟨Nat.le_of_ble_eq_true rfl, Nat.le_of_ble_eq_true rfl⟩, (hts _ (List.mem_cons_of_mem _ kw_1526)), (hts _ (List.mem_cons_of_mem _ kp_64))⟩ h.1 (ci := 12) rfl (by decide) rfl hl.1 rfl (lv_room (Nat.le_of_ble_eq_true rfl)) dX12_isWantHere_60 ⟨Nat.zero_le _, Nat.zero_le _⟩ (fun z51 M49 H locs h hP hS => ?_)
      refine r_if_eq (tgt := 99) hx hb dX12_isWantHere_63 (by decide) h (fun h => ?_) (fun h => ?_)
      · refine r_iconst hx hb dX12_isWantHere_99 (by decide) h (fun z53 h => ?_)
        exact r_zret hx hb hr hlocks hP hS dX12_isWantHere_100 h
      · refine lv_aload_n hx hb dX12_isWantHere_66 rfl (lv_at hl 1 rfl) ?_
        refine lv_iload_n hx hb dX12_isWantHere_67 rfl (lv_at hl 0 rfl) ?_
        refine r_iconst hx hb dX12_isWantHere_68 (by decide) h (fun z55 h => ?_)
        refine r_iadd hx hb dX12_isWantHere_69 h (fun z57 h => ?_)
        refine lv_aload_n hx hb dX12_isWantHere_70 rfl (lv_at hl 1 rfl) ?_
        refine r_getr (C := RX12) (T := TX12) (N := 38) hx hb hts (fun w h => List.mem_cons_of_mem _ (iX12 w h)) hown hK hP rfl (by decide) rfl 7 (by decide) (hts _ (List.mem_cons_of_mem _ kw_1341)) (fun _ h9 => h9) dX12_isWantHere_71 (by decide) h (fun x59 h => ?_)
        refine lv_iload_n hx hb dX12_isWantHere_74 rfl (lv_at hl 0 rfl) ?_
        refine r_iconst hx hb dX12_isWantHere_75 (by decide) h (fun z61 h => ?_)
        refine r_iadd hx hb dX12_isWantHere_76 h (fun z63 h => ?_)
        refine r_iald hx hb hK hP dX12_isWantHere_77 h (fun z65 h => ?_)
        refine r_bipush hx hb dX12_isWantHere_78 (by decide) h (fun z67 h => ?_)
        refine q_Vi hx hb hml hown hts hK hP hS (c_X12_cellHere l D G S _ xl0 z57 z65 z67 _ h.2) ⟨callB_of 3 hts (gw_good kw_1527) rfl rfl rfl (hts _ (List.mem_cons_of_mem _ kw_14)) (hts _ (List.mem_cons_of_mem _ kw_1524)) hd_X12_cellHere ⟨Nat.le_of_ble_eq_true rfl, Nat.le_of_ble_eq_true rfl⟩, (hts _ (List.mem_cons_of_mem _ kw_1526)), (hts _ (List.mem_cons_of_mem _ kp_64))⟩ h.1 (ci := 12) rfl (by decide) rfl hl.1 rfl (lv_room (Nat.le_of_ble_eq_true rfl)) dX12_isWantHere_80 ⟨Nat.zero_le _, Nat.zero_le _⟩ (fun z70 M68 H locs h hP hS => ?_)
        refine r_if_eq (tgt := 99) hx hb dX12_isWantHere_83 (by decide) h (fun h => ?_) (fun h => ?_)
        · refine r_iconst hx hb dX12_isWantHere_99 (by decide) h (fun z72 h => ?_)
          exact r_zret hx hb hr hlocks hP hS dX12_isWantHere_100 h
        · refine lv_aload_n hx hb dX12_isWantHere_86 rfl (lv_at hl 1 rfl) ?_
          refine lv_iload_n hx hb dX12_isWantHere_87 rfl (lv_at hl 0 rfl) ?_
          refine r_iconst hx hb dX12_isWantHere_88 (by decide) h (fun z74 h => ?_)
          refine r_iadd hx hb dX12_isWantHere_89 h (fun z76 h => ?_)
          refine r_iconst hx hb dX12_isWantHere_90 (by decide) h (fun z78 h => ?_)
          refine r_bipush hx hb dX12_isWantHere_91 (by decide) h (fun z80 h => ?_)
          refine q_Vi hx hb hml hown hts hK hP hS (c_X12_cellHere l D G S _ xl0 z76 z78 z80 _ h.2) ⟨callB_of 3 hts (gw_good kw_1527) rfl rfl rfl (hts _ (List.mem_cons_of_mem _ kw_14)) (hts _ (List.mem_cons_of_mem _ kw_1524)) hd_X12_cellHere ⟨Nat.le_of_ble_eq_true rfl, Nat.le_of_ble_eq_true rfl⟩, (hts _ (List.mem_cons_of_mem _ kw_1526)), (hts _ (List.mem_cons_of_mem _ kp_64))⟩ h.1 (ci := 12) rfl (by decide) rfl hl.1 rfl (lv_room (Nat.le_of_ble_eq_true rfl)) dX12_isWantHere_93 ⟨Nat.zero_le _, Nat.zero_le _⟩ (fun z83 M81 H locs h hP hS => ?_)
          refine r_if_ne (tgt := 101) hx hb dX12_isWantHere_96 (by decide) h (fun h => ?_) (fun h => ?_)
          · refine lv_aload_n hx hb dX12_isWantHere_101 rfl (lv_at hl 1 rfl) ?_
            refine r_getr (C := RX12) (T := TX12) (N := 38) hx hb hts (fun w h => List.mem_cons_of_mem _ (iX12 w h)) hown hK hP rfl (by decide) rfl 7 (by decide) (hts _ (List.mem_cons_of_mem _ kw_1341)) (fun _ h9 => h9) dX12_isWantHere_102 (by decide) h (fun x85 h => ?_)
            refine r_bipush hx hb dX12_isWantHere_105 (by decide) h (fun z87 h => ?_)
            refine lv_aload_n hx hb dX12_isWantHere_107 rfl (lv_at hl 1 rfl) ?_
            refine r_getr (C := RX12) (T := TX12) (N := 38) hx hb hts (fun w h => List.mem_cons_of_mem _ (iX12 w h)) hown hK hP rfl (by decide) rfl 7 (by decide) (hts _ (List.mem_cons_of_mem _ kw_1341)) (fun _ h9 => h9) dX12_isWantHere_108 (by decide) h (fun x89 h => ?_)
            refine r_bipush hx hb dX12_isWantHere_111 (by decide) h (fun z91 h => ?_)
            refine r_iald hx hb hK hP dX12_isWantHere_113 h (fun z93 h => ?_)
            refine r_iadd hx hb dX12_isWantHere_114 h (fun z95 h => ?_)
            refine r_iconst hx hb dX12_isWantHere_115 (by decide) h (fun z97 h => ?_)
            refine r_iast hx hb hK hP hS dX12_isWantHere_116 h (fun M98 H locs h hP hS => ?_)
            refine lv_aload_n hx hb dX12_isWantHere_117 rfl (lv_at hl 1 rfl) ?_
            refine r_getr (C := RX12) (T := TX12) (N := 38) hx hb hts (fun w h => List.mem_cons_of_mem _ (iX12 w h)) hown hK hP rfl (by decide) rfl 7 (by decide) (hts _ (List.mem_cons_of_mem _ kw_1341)) (fun _ h9 => h9) dX12_isWantHere_118 (by decide) h (fun x100 h => ?_)
            refine r_bipush hx hb dX12_isWantHere_121 (by decide) h (fun z102 h => ?_)
            refine lv_dup2_11 hx hb dX12_isWantHere_123 rfl rfl ?_
            refine r_iald hx hb hK hP dX12_isWantHere_124 h (fun z104 h => ?_)
            refine r_iconst hx hb dX12_isWantHere_125 (by decide) h (fun z106 h => ?_)
            refine r_iadd hx hb dX12_isWantHere_126 h (fun z108 h => ?_)
            refine r_iast hx hb hK hP hS dX12_isWantHere_127 h (fun M109 H locs h hP hS => ?_)
            refine r_iconst hx hb dX12_isWantHere_128 (by decide) h (fun z111 h => ?_)
            exact r_zret hx hb hr hlocks hP hS dX12_isWantHere_129 h
          · refine r_iconst hx hb dX12_isWantHere_99 (by decide) h (fun z113 h => ?_)
            exact r_zret hx hb hr hlocks hP hS dX12_isWantHere_100 h
  · refine lv_aload_n hx hb dX12_isWantHere_12 rfl (lv_at hl 0 rfl) ?_
    refine r_iconst hx hb dX12_isWantHere_13 (by decide) h (fun z115 h => ?_)
    refine lv_iload_n hx hb dX12_isWantHere_14 rfl (lv_at hl 1 rfl) ?_
    refine q_Vi hx hb hml hown hts hK hP hS (c_X12_fails l D G S _ xl0 z115 zl1 _ h.2) ⟨callB_of 2 hts (gw_good kw_1500) rfl rfl rfl (hts _ (List.mem_cons_of_mem _ kw_14)) (hts _ (List.mem_cons_of_mem _ kw_1497)) hd_X12_fails ⟨Nat.le_of_ble_eq_true rfl, Nat.le_of_ble_eq_true rfl⟩, (hts _ (List.mem_cons_of_mem _ kw_1499)), (hts _ (List.mem_cons_of_mem _ kp_58))⟩ h.1 (ci := 12) rfl (by decide) rfl hl.1 rfl (lv_room (Nat.le_of_ble_eq_true rfl)) dX12_isWantHere_15 ⟨Nat.zero_le _, Nat.zero_le _⟩ (fun z118 M116 H locs h hP hS => ?_)
    exact r_zret hx hb hr hlocks hP hS dX12_isWantHere_18 h
