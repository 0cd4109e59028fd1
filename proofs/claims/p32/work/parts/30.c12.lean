/-! TurningMilk.who(I)I -/
abbrev RM_X11_who : Room := { frames := 7, cells := 0, slots := 0, locals := 173 }
def cw_X11_who : Cond := Cond.code yX11_who cX11_who 3 (Option.some FieldType.int)
theorem hd_X11_who : yX11_who.cls ≠ "java/lang/invoke/MethodHandle" ∧ yX11_who.cls ≠ "java/lang/invoke/VarHandle" ∧ (parseMethodDescriptor yX11_who.desc).map (fun d => d.parameters.length) = some 1 := by decide +kernel
theorem dX11_who_0 : decode cX11_who 0 = .ok (.aload_n 0, 1) := by decide +kernel
theorem dX11_who_1 : decode cX11_who 1 = .ok (.getfield 19, 3) := by decide +kernel
theorem dX11_who_4 : decode cX11_who 4 = .ok (.getfield 57, 3) := by decide +kernel
theorem dX11_who_7 : decode cX11_who 7 = .ok (.getfield 166, 3) := by decide +kernel
theorem dX11_who_10 : decode cX11_who 10 = .ok (.ifCond .eq 12, 3) := by decide +kernel
theorem dX11_who_13 : decode cX11_who 13 = .ok (.iload_n 1, 1) := by decide +kernel
theorem dX11_who_14 : decode cX11_who 14 = .ok (.ifCond .lt 8, 3) := by decide +kernel
theorem dX11_who_17 : decode cX11_who 17 = .ok (.iload_n 1, 1) := by decide +kernel
theorem dX11_who_18 : decode cX11_who 18 = .ok (.iconst 2, 1) := by decide +kernel
theorem dX11_who_19 : decode cX11_who 19 = .ok (.if_icmp .le 5, 3) := by decide +kernel
theorem dX11_who_22 : decode cX11_who 22 = .ok (.iconst (-1), 1) := by decide +kernel
theorem dX11_who_23 : decode cX11_who 23 = .ok (.ireturn, 1) := by decide +kernel
theorem dX11_who_24 : decode cX11_who 24 = .ok (.aload_n 0, 1) := by decide +kernel
theorem dX11_who_25 : decode cX11_who 25 = .ok (.getfield 96, 3) := by decide +kernel
theorem dX11_who_28 : decode cX11_who 28 = .ok (.invokevirtual 359, 3) := by decide +kernel
theorem dX11_who_31 : decode cX11_who 31 = .ok (.istore_n 2, 1) := by decide +kernel
theorem dX11_who_32 : decode cX11_who 32 = .ok (.iload_n 1, 1) := by decide +kernel
theorem dX11_who_33 : decode cX11_who 33 = .ok (.lookupswitch 46 #[(0, 27), (1, 32)], 27) := by decide +kernel
theorem dX11_who_60 : decode cX11_who 60 = .ok (.iload_n 2, 1) := by decide +kernel
theorem dX11_who_61 : decode cX11_who 61 = .ok (.invokestatic 347, 3) := by decide +kernel
theorem dX11_who_64 : decode cX11_who 64 = .ok (.ireturn, 1) := by decide +kernel
theorem dX11_who_65 : decode cX11_who 65 = .ok (.iload_n 2, 1) := by decide +kernel
theorem dX11_who_66 : decode cX11_who 66 = .ok (.ifCond .ne 8, 3) := by decide +kernel
theorem dX11_who_69 : decode cX11_who 69 = .ok (.bipush (-2), 2) := by decide +kernel
theorem dX11_who_71 : decode cX11_who 71 = .ok (.goto 7, 3) := by decide +kernel
theorem dX11_who_74 : decode cX11_who 74 = .ok (.iload_n 2, 1) := by decide +kernel
theorem dX11_who_75 : decode cX11_who 75 = .ok (.invokestatic 362, 3) := by decide +kernel
theorem dX11_who_78 : decode cX11_who 78 = .ok (.ireturn, 1) := by decide +kernel
theorem dX11_who_79 : decode cX11_who 79 = .ok (.iload_n 2, 1) := by decide +kernel
theorem dX11_who_80 : decode cX11_who 80 = .ok (.ireturn, 1) := by decide +kernel
def wp_X11_who (S : Sh) (M : Mm) (u0 : Int) (u1 : Int) (post : Int → Mm → Prop) : Prop := wGetR S M u0 11 1 fun v1 => wGetR S M v1 4 0 fun v3 => wGet S M v3 8 0 fun v5 => wIf (v5 = 0) (wC (-1) fun v7 => post v7 M) (wIf (u1 < 0) (wC (-1) fun v9 => post v9 M) (wC 2 fun v11 => wIf (u1 ≤ v11) (wGetR S M u0 11 14 fun v13 => isK S v13 9 ∧ (wp_X9_handsByTests S M v13 <| fun v16 M15 => wIf (u1 = 0) (wp_J6_bitCount_0f7a4 S M15 v16 <| fun v19 M18 => post v19 M18) (wIf (u1 = 1) (wIf (¬ v16 = 0) (wp_J6_numberOfTrailingZeros_0f7a4 S M15 v16 <| fun v22 M21 => post v22 M21) (wC (-2) fun v24 => post v24 M15)) (post v16 M15)))) (wC (-1) fun v26 => post v26 M)))
set_option maxHeartbeats 4000000 in
set_option maxRecDepth 100000 in
theorem c_X11_who (l : Launch) (D : va_G) (G : Gt) (S : Sh) (M : Mm) (xl0 : Int) (zl1 : Int32) (post : Int → Mm → Prop) (h : wp_X11_who S M xl0 zl1.toInt post) : Met l yX11_who (cw_X11_who :: gw) RM_X11_who (va_Pc [.ref (adr G xl0), .int zl1] (fun U => KN D G U ∧ Wd D G S M U.heap)) (QI D G S post) 0 0 (aG G) := by
  refine Met.ofW (cc := cX11_who) (maxL := 3) (ret := (some .int)) (by decide) rfl ?_
  intro p e s m args below meth c s₁ B hml hv
  obtain ⟨rfl, hK, hP⟩ := hv
  have hx := B.exec
  have hb := B.bytes
  have hr := B.returns
  have hts := atoms_spec (ws := cw_X11_who :: gw) B.pre
  have hown : s.vm.findClass RX11 = some m.cls := findClass_of_methodNamed B.named
  have hlocks := B.notSynchronized
  have hS : va_S (aG G) s.heap s.heap [] := va_S.rf
  have C : Cx p s m ([.ref (adr G xl0), .int zl1] : List Value).toArray meth c D G cX11_who 3 (some .int) (cw_X11_who :: gw) RX11 := ⟨hx, hb, hr, hlocks, hml, hown, hts, hK⟩
  have hl := lv_entry ([.ref (adr G xl0), .int zl1]) (n := 3) (Nat.le_of_ble_eq_true rfl)
  rw [lg_entry_eq]
  generalize (lg_sl ([.ref (adr G xl0), .int zl1]) ++ List.replicate (3 - (lg_sl ([.ref (adr G xl0), .int zl1])).length) Slot.unset).toArray = ls at hl ⊢
  have hl : lv_has ls 3 [(0, .ref (adr G xl0)), (1, .int zl1)] := hl
  unfold wp_X11_who at h
  refine lv_aload_n hx hb dX11_who_0 rfl (lv_at hl 0 rfl) ?_
  refine r_getr (C := RX11) (T := TX11) (N := 16) hx hb hts (fun w h => List.mem_cons_of_mem _ (iX11 w h)) hown hK hP rfl (by decide) rfl 1 (by decide) (hts _ (List.mem_cons_of_mem _ kw_492)) (fun _ h9 => h9) dX11_who_1 (by decide) h (fun x2 h => ?_)
  refine r_getrN (C := RX4) (T := TX4) (N := 10) hx hb hts (fun w h => List.mem_cons_of_mem _ (iX4 w h)) hown hK hP rfl (by decide) rfl 0 (by decide) (nw_70 hK) (fun _ h9 => h9) dX11_who_4 (by decide) h (fun x4 h => ?_)
  refine r_getiN (C := RX8) (T := TX8) (N := 19) hx hb hts (fun w h => List.mem_cons_of_mem _ (iX8 w h)) hown hK hP rfl (by decide) rfl 0 (by decide) (nw_4 hK) (fun _ h9 => h9) dX11_who_7 (by decide) h (fun z6 h => ?_)
  refine r_if_eq (tgt := 22) hx hb dX11_who_10 (by decide) h (fun h => ?_) (fun h => ?_)
  · refine r_iconst hx hb dX11_who_22 (by decide) h (fun z8 h => ?_)
    exact r_iret hx hb hr hlocks hP hS dX11_who_23 h
  · refine lv_iload_n hx hb dX11_who_13 rfl (lv_at hl 1 rfl) ?_
    refine r_if_lt (tgt := 22) hx hb dX11_who_14 (by decide) h (fun h => ?_) (fun h => ?_)
    · refine r_iconst hx hb dX11_who_22 (by decide) h (fun z10 h => ?_)
      exact r_iret hx hb hr hlocks hP hS dX11_who_23 h
    · refine lv_iload_n hx hb dX11_who_17 rfl (lv_at hl 1 rfl) ?_
      refine r_iconst hx hb dX11_who_18 (by decide) h (fun z12 h => ?_)
      refine r_icmp_le (tgt := 24) hx hb dX11_who_19 (by decide) h (fun h => ?_) (fun h => ?_)
      · refine lv_aload_n hx hb dX11_who_24 rfl (lv_at hl 0 rfl) ?_
        refine r_getr (C := RX11) (T := TX11) (N := 16) hx hb hts (fun w h => List.mem_cons_of_mem _ (iX11 w h)) hown hK hP rfl (by decide) rfl 14 (by decide) (hts _ (List.mem_cons_of_mem _ kw_505)) (fun _ h9 => h9) dX11_who_25 (by decide) h (fun x14 h => ?_)
        refine q_Vi hx hb hml hown hts hK hP hS (c_X9_handsByTests l D G S _ x14 _ h.2) ⟨callB_of 0 hts (gw_good kw_1209) rfl rfl rfl (hts _ (List.mem_cons_of_mem _ kw_13)) (hts _ (List.mem_cons_of_mem _ kw_1206)) hd_X9_handsByTests ⟨Nat.le_of_ble_eq_true rfl, Nat.le_of_ble_eq_true rfl⟩, (hts _ (List.mem_cons_of_mem _ kw_1207)), (hts _ (List.mem_cons_of_mem _ kw_1208))⟩ h.1 (ci := 9) rfl (by decide) rfl hl.1 rfl (lv_room (Nat.le_of_ble_eq_true rfl)) dX11_who_28 ⟨Nat.zero_le _, Nat.zero_le _⟩ (fun z17 M15 H locs h hP hS => ?_)
        refine lv_istore_n (lv' := [(2, .int z17), (0, .ref (adr G xl0)), (1, .int zl1)]) hx hb dX11_who_31 rfl hl (by decide) rfl (fun ls hl => ?_)
        refine lv_iload_n hx hb dX11_who_32 rfl (lv_at hl 2 rfl) ?_
        refine sw (c := zl1.toInt = 0) h (fun e0 h => ?_) (fun e0 h => ?_)
        · refine lv_lookup (tgt := 60) hx hb dX11_who_33 (by decide) (by first | (rw [e0]; done) | (rw [e0]; rfl)) (by decide) ?_
          refine lv_iload_n hx hb dX11_who_60 rfl (lv_at hl 0 rfl) ?_
          refine q_Si hx hb hml hown hts hK hP hS (c_J6_bitCount_0f7a4 l D G S _ z17 _ h) ⟨callB_of 1 hts (gw_good kw_959) rfl rfl rfl (hts _ (List.mem_cons_of_mem _ kw_21)) (hts _ (List.mem_cons_of_mem _ kw_1182)) hd_J6_bitCount_0f7a4 ⟨Nat.le_of_ble_eq_true rfl, Nat.le_of_ble_eq_true rfl⟩, (hts _ (List.mem_cons_of_mem _ kw_958))⟩ rfl hl.1 rfl (lv_room (Nat.le_of_ble_eq_true rfl)) dX11_who_61 ⟨Nat.zero_le _, Nat.zero_le _⟩ (fun z20 M18 H locs h hP hS => ?_)
          exact r_iret hx hb hr hlocks hP hS dX11_who_64 h
        · refine sw (c := zl1.toInt = 1) h (fun e1 h => ?_) (fun e1 h => ?_)
          · refine lv_lookup (tgt := 65) hx hb dX11_who_33 (by decide) (by first | (rw [e1]; done) | (rw [e1]; rfl)) (by decide) ?_
            refine lv_iload_n hx hb dX11_who_65 rfl (lv_at hl 0 rfl) ?_
            refine r_if_ne (tgt := 74) hx hb dX11_who_66 (by decide) h (fun h => ?_) (fun h => ?_)
            · refine lv_iload_n hx hb dX11_who_74 rfl (lv_at hl 0 rfl) ?_
              refine q_Si hx hb hml hown hts hK hP hS (c_J6_numberOfTrailingZeros_0f7a4 l D G S _ z17 _ h) ⟨callB_of 1 hts (gw_good kw_1216) rfl rfl rfl (hts _ (List.mem_cons_of_mem _ kw_21)) (hts _ (List.mem_cons_of_mem _ kw_1214)) hd_J6_numberOfTrailingZeros_0f7a4 ⟨Nat.le_of_ble_eq_true rfl, Nat.le_of_ble_eq_true rfl⟩, (hts _ (List.mem_cons_of_mem _ kw_1215))⟩ rfl hl.1 rfl (lv_room (Nat.le_of_ble_eq_true rfl)) dX11_who_75 ⟨Nat.zero_le _, Nat.zero_le _⟩ (fun z23 M21 H locs h hP hS => ?_)
              exact r_iret hx hb hr hlocks hP hS dX11_who_78 h
            · refine r_bipush hx hb dX11_who_69 (by decide) h (fun z25 h => ?_)
              refine lv_goto (tgt := 78) hx hb dX11_who_71 (by decide) ?_
              exact r_iret hx hb hr hlocks hP hS dX11_who_78 h
          · refine lv_lookup (tgt := 79) (off := 46) hx hb dX11_who_33 (by decide) (by simp [Op.lookupswitch.offset, Ne.symm, eq_comm, e0, e1]) (by decide) ?_
            refine lv_iload_n hx hb dX11_who_79 rfl (lv_at hl 0 rfl) ?_
            exact r_iret hx hb hr hlocks hP hS dX11_who_80 h
      · refine r_iconst hx hb dX11_who_22 (by decide) h (fun z27 h => ?_)
        exact r_iret hx hb hr hlocks hP hS dX11_who_23 h
/-! TurningMilk$Trials.mostAlike(II)I -/
abbrev RM_X9_mostAlike : Room := { frames := 1, cells := 0, slots := 0, locals := 60 }
def cw_X9_mostAlike : Cond := Cond.code yX9_mostAlike cX9_mostAlike 8 (Option.some FieldType.int)
theorem hd_X9_mostAlike : yX9_mostAlike.cls ≠ "java/lang/invoke/MethodHandle" ∧ yX9_mostAlike.cls ≠ "java/lang/invoke/VarHandle" ∧ (parseMethodDescriptor yX9_mostAlike.desc).map (fun d => d.parameters.length) = some 2 := by decide +kernel
theorem dX9_mostAlike_0 : decode cX9_mostAlike 0 = .ok (.iconst 0, 1) := by decide +kernel
theorem dX9_mostAlike_1 : decode cX9_mostAlike 1 = .ok (.istore_n 3, 1) := by decide +kernel
theorem dX9_mostAlike_2 : decode cX9_mostAlike 2 = .ok (.iconst 0, 1) := by decide +kernel
theorem dX9_mostAlike_3 : decode cX9_mostAlike 3 = .ok (.istore 4, 2) := by decide +kernel
theorem dX9_mostAlike_5 : decode cX9_mostAlike 5 = .ok (.iload 4, 2) := by decide +kernel
theorem dX9_mostAlike_7 : decode cX9_mostAlike 7 = .ok (.aload_n 0, 1) := by decide +kernel
theorem dX9_mostAlike_8 : decode cX9_mostAlike 8 = .ok (.getfield 15, 3) := by decide +kernel
theorem dX9_mostAlike_11 : decode cX9_mostAlike 11 = .ok (.getfield 63, 3) := by decide +kernel
theorem dX9_mostAlike_14 : decode cX9_mostAlike 14 = .ok (.getfield 67, 3) := by decide +kernel
theorem dX9_mostAlike_17 : decode cX9_mostAlike 17 = .ok (.if_icmp .ge 109, 3) := by decide +kernel
theorem dX9_mostAlike_20 : decode cX9_mostAlike 20 = .ok (.iconst 0, 1) := by decide +kernel
theorem dX9_mostAlike_21 : decode cX9_mostAlike 21 = .ok (.istore 5, 2) := by decide +kernel
theorem dX9_mostAlike_23 : decode cX9_mostAlike 23 = .ok (.iconst 0, 1) := by decide +kernel
theorem dX9_mostAlike_24 : decode cX9_mostAlike 24 = .ok (.istore 6, 2) := by decide +kernel
theorem dX9_mostAlike_26 : decode cX9_mostAlike 26 = .ok (.iload 6, 2) := by decide +kernel
theorem dX9_mostAlike_28 : decode cX9_mostAlike 28 = .ok (.aload_n 0, 1) := by decide +kernel
theorem dX9_mostAlike_29 : decode cX9_mostAlike 29 = .ok (.getfield 15, 3) := by decide +kernel
theorem dX9_mostAlike_32 : decode cX9_mostAlike 32 = .ok (.getfield 63, 3) := by decide +kernel
theorem dX9_mostAlike_35 : decode cX9_mostAlike 35 = .ok (.getfield 67, 3) := by decide +kernel
theorem dX9_mostAlike_38 : decode cX9_mostAlike 38 = .ok (.if_icmp .ge 61, 3) := by decide +kernel
theorem dX9_mostAlike_41 : decode cX9_mostAlike 41 = .ok (.aload_n 0, 1) := by decide +kernel
theorem dX9_mostAlike_42 : decode cX9_mostAlike 42 = .ok (.getfield 11, 3) := by decide +kernel
theorem dX9_mostAlike_45 : decode cX9_mostAlike 45 = .ok (.iload 4, 2) := by decide +kernel
theorem dX9_mostAlike_47 : decode cX9_mostAlike 47 = .ok (.bipush 20, 2) := by decide +kernel
theorem dX9_mostAlike_49 : decode cX9_mostAlike 49 = .ok (.imul, 1) := by decide +kernel
theorem dX9_mostAlike_50 : decode cX9_mostAlike 50 = .ok (.iload_n 2, 1) := by decide +kernel
theorem dX9_mostAlike_51 : decode cX9_mostAlike 51 = .ok (.iadd, 1) := by decide +kernel
theorem dX9_mostAlike_52 : decode cX9_mostAlike 52 = .ok (.iaload, 1) := by decide +kernel
theorem dX9_mostAlike_53 : decode cX9_mostAlike 53 = .ok (.aload_n 0, 1) := by decide +kernel
theorem dX9_mostAlike_54 : decode cX9_mostAlike 54 = .ok (.getfield 11, 3) := by decide +kernel
theorem dX9_mostAlike_57 : decode cX9_mostAlike 57 = .ok (.iload 6, 2) := by decide +kernel
theorem dX9_mostAlike_59 : decode cX9_mostAlike 59 = .ok (.bipush 20, 2) := by decide +kernel
theorem dX9_mostAlike_61 : decode cX9_mostAlike 61 = .ok (.imul, 1) := by decide +kernel
theorem dX9_mostAlike_62 : decode cX9_mostAlike 62 = .ok (.iload_n 2, 1) := by decide +kernel
theorem dX9_mostAlike_63 : decode cX9_mostAlike 63 = .ok (.iadd, 1) := by decide +kernel
theorem dX9_mostAlike_64 : decode cX9_mostAlike 64 = .ok (.iaload, 1) := by decide +kernel
theorem dX9_mostAlike_65 : decode cX9_mostAlike 65 = .ok (.isub, 1) := by decide +kernel
theorem dX9_mostAlike_66 : decode cX9_mostAlike 66 = .ok (.istore 7, 2) := by decide +kernel
theorem dX9_mostAlike_68 : decode cX9_mostAlike 68 = .ok (.iload 5, 2) := by decide +kernel
theorem dX9_mostAlike_70 : decode cX9_mostAlike 70 = .ok (.iload 7, 2) := by decide +kernel
theorem dX9_mostAlike_72 : decode cX9_mostAlike 72 = .ok (.ifCond .ne 17, 3) := by decide +kernel
theorem dX9_mostAlike_75 : decode cX9_mostAlike 75 = .ok (.iload_n 1, 1) := by decide +kernel
theorem dX9_mostAlike_76 : decode cX9_mostAlike 76 = .ok (.iload 6, 2) := by decide +kernel
theorem dX9_mostAlike_78 : decode cX9_mostAlike 78 = .ok (.ishr, 1) := by decide +kernel
theorem dX9_mostAlike_79 : decode cX9_mostAlike 79 = .ok (.iconst 1, 1) := by decide +kernel
theorem dX9_mostAlike_80 : decode cX9_mostAlike 80 = .ok (.iand, 1) := by decide +kernel
theorem dX9_mostAlike_81 : decode cX9_mostAlike 81 = .ok (.iconst 1, 1) := by decide +kernel
theorem dX9_mostAlike_82 : decode cX9_mostAlike 82 = .ok (.if_icmp .ne 7, 3) := by decide +kernel
theorem dX9_mostAlike_85 : decode cX9_mostAlike 85 = .ok (.iconst 1, 1) := by decide +kernel
theorem dX9_mostAlike_86 : decode cX9_mostAlike 86 = .ok (.goto 4, 3) := by decide +kernel
theorem dX9_mostAlike_89 : decode cX9_mostAlike 89 = .ok (.iconst 0, 1) := by decide +kernel
theorem dX9_mostAlike_90 : decode cX9_mostAlike 90 = .ok (.iadd, 1) := by decide +kernel
theorem dX9_mostAlike_91 : decode cX9_mostAlike 91 = .ok (.istore 5, 2) := by decide +kernel
theorem dX9_mostAlike_93 : decode cX9_mostAlike 93 = .ok (.iinc 6 1, 3) := by decide +kernel
theorem dX9_mostAlike_96 : decode cX9_mostAlike 96 = .ok (.goto (-70), 3) := by decide +kernel
theorem dX9_mostAlike_99 : decode cX9_mostAlike 99 = .ok (.iload_n 1, 1) := by decide +kernel
theorem dX9_mostAlike_100 : decode cX9_mostAlike 100 = .ok (.iload 4, 2) := by decide +kernel
theorem dX9_mostAlike_102 : decode cX9_mostAlike 102 = .ok (.ishr, 1) := by decide +kernel
theorem dX9_mostAlike_103 : decode cX9_mostAlike 103 = .ok (.iconst 1, 1) := by decide +kernel
theorem dX9_mostAlike_104 : decode cX9_mostAlike 104 = .ok (.iand, 1) := by decide +kernel
theorem dX9_mostAlike_105 : decode cX9_mostAlike 105 = .ok (.iconst 1, 1) := by decide +kernel
theorem dX9_mostAlike_106 : decode cX9_mostAlike 106 = .ok (.if_icmp .ne 12, 3) := by decide +kernel
theorem dX9_mostAlike_109 : decode cX9_mostAlike 109 = .ok (.iload_n 3, 1) := by decide +kernel
theorem dX9_mostAlike_110 : decode cX9_mostAlike 110 = .ok (.iload 5, 2) := by decide +kernel
theorem dX9_mostAlike_112 : decode cX9_mostAlike 112 = .ok (.invokestatic 101, 3) := by decide +kernel
theorem dX9_mostAlike_115 : decode cX9_mostAlike 115 = .ok (.goto 4, 3) := by decide +kernel
theorem dX9_mostAlike_118 : decode cX9_mostAlike 118 = .ok (.iload_n 3, 1) := by decide +kernel
theorem dX9_mostAlike_119 : decode cX9_mostAlike 119 = .ok (.istore_n 3, 1) := by decide +kernel
theorem dX9_mostAlike_120 : decode cX9_mostAlike 120 = .ok (.iinc 4 1, 3) := by decide +kernel
theorem dX9_mostAlike_123 : decode cX9_mostAlike 123 = .ok (.goto (-118), 3) := by decide +kernel
theorem dX9_mostAlike_126 : decode cX9_mostAlike 126 = .ok (.iload_n 3, 1) := by decide +kernel
theorem dX9_mostAlike_127 : decode cX9_mostAlike 127 = .ok (.ireturn, 1) := by decide +kernel
def wp_X9_mostAlike_119 (S : Sh) (k5 : Int → Int → Int → Int → Int → Mm → Prop) (post : Int → Mm → Prop) (u0 : Int) (u1 : Int) (u2 : Int) (u4 : Int) (t0 : Int) (M : Mm) : Prop := wA u4 1 fun v1 => k5 u0 u1 u2 t0 v1 M
def wp_X9_mostAlike_90 (S : Sh) (k5 : Int → Int → Int → Int → Int → Mm → Prop) (k26 : Int → Int → Int → Int → Int → Int → Int → Mm → Prop) (post : Int → Mm → Prop) (u0 : Int) (u1 : Int) (u2 : Int) (u3 : Int) (u4 : Int) (u6 : Int) (t0 : Int) (t1 : Int) (M : Mm) : Prop := wA t0 t1 fun v3 => wA u6 1 fun v5 => k26 u0 u1 u2 u3 u4 v3 v5 M
def wp_X9_mostAlike_89 (S : Sh) (k5 : Int → Int → Int → Int → Int → Mm → Prop) (k26 : Int → Int → Int → Int → Int → Int → Int → Mm → Prop) (post : Int → Mm → Prop) (u0 : Int) (u1 : Int) (u2 : Int) (u3 : Int) (u4 : Int) (u6 : Int) (t0 : Int) (M : Mm) : Prop := wC 0 fun v7 => wp_X9_mostAlike_90 S k5 k26 post u0 u1 u2 u3 u4 u6 t0 v7 M
def wp_X9_mostAlike_26 (S : Sh) (k5 : Int → Int → Int → Int → Int → Mm → Prop) (post : Int → Mm → Prop) : Nat → Int → Int → Int → Int → Int → Int → Int → Mm → Prop
  | 0, _, _, _, _, _, _, _, _ => False
  | n + 1, u0, u1, u2, u3, u4, u5, u6, M => wGetR S M u0 9 0 fun v9 => wGetR S M v9 4 0 fun v11 => wGet S M v11 8 4 fun v13 => wIf (v13 ≤ u6) (wO iShr u1 u4 fun v15 => wC 1 fun v17 => wO iAnd v15 v17 fun v19 => wC 1 fun v21 => wIf (¬ v19 = v21) (wp_X9_mostAlike_119 S k5 post u0 u1 u2 u4 u3 M) (wO max u3 u5 fun v23 => wp_X9_mostAlike_119 S k5 post u0 u1 u2 u4 v23 M)) (wGetR S M u0 9 2 fun v25 => wC 20 fun v27 => wM u4 v27 fun v29 => wA v29 u2 fun v31 => wLd S M v25 14 v31 fun v33 => wGetR S M u0 9 2 fun v35 => wC 20 fun v37 => wM u6 v37 fun v39 => wA v39 u2 fun v41 => wLd S M v35 14 v41 fun v43 => wS v33 v43 fun v45 => wIf (¬ v45 = 0) (wp_X9_mostAlike_89 S k5 (fun a0 a1 a2 a3 a4 a5 a6 M => wp_X9_mostAlike_26 S k5 post n a0 a1 a2 a3 a4 a5 a6 M) post u0 u1 u2 u3 u4 u6 u5 M) (wO iShr u1 u6 fun v47 => wC 1 fun v49 => wO iAnd v47 v49 fun v51 => wC 1 fun v53 => wIf (¬ v51 = v53) (wp_X9_mostAlike_89 S k5 (fun a0 a1 a2 a3 a4 a5 a6 M => wp_X9_mostAlike_26 S k5 post n a0 a1 a2 a3 a4 a5 a6 M) post u0 u1 u2 u3 u4 u6 u5 M) (wC 1 fun v55 => wp_X9_mostAlike_90 S k5 (fun a0 a1 a2 a3 a4 a5 a6 M => wp_X9_mostAlike_26 S k5 post n a0 a1 a2 a3 a4 a5 a6 M) post u0 u1 u2 u3 u4 u6 u5 v55 M)))
def wp_X9_mostAlike_5 (S : Sh) (post : Int → Mm → Prop) : Nat → Int → Int → Int → Int → Int → Mm → Prop
  | 0, _, _, _, _, _, _ => False
  | n + 1, u0, u1, u2, u3, u4, M => wGetR S M u0 9 0 fun v57 => wGetR S M v57 4 0 fun v59 => wGet S M v59 8 4 fun v61 => wIf (v61 ≤ u4) (post u3 M) (wC 0 fun v63 => wC 0 fun v65 => ∃ n9 : Nat, wp_X9_mostAlike_26 S (fun a0 a1 a2 a3 a4 M => wp_X9_mostAlike_5 S post n a0 a1 a2 a3 a4 M) post n9 u0 u1 u2 u3 u4 v63 v65 M)
def wp_X9_mostAlike (S : Sh) (M : Mm) (u0 : Int) (u1 : Int) (u2 : Int) (post : Int → Mm → Prop) : Prop := wC 0 fun v67 => wC 0 fun v69 => ∃ n9 : Nat, wp_X9_mostAlike_5 S post n9 u0 u1 u2 v67 v69 M
set_option maxHeartbeats 4000000 in
set_option maxRecDepth 100000 in
theorem t_X9_mostAlike_119 {p : Program} {l : Launch} {e : Env} {s : State} {m : MethodId} {args : Array Value} {below : List Frame} {meth : Method} {c : Code} {D : va_G} {G : Gt} {S : Sh} {post : Int → Mm → Prop} {k5 : Int → Int → Int → Int → Int → Mm → Prop} (C : Cx p s m args meth c D G cX9_mostAlike 8 (some .int) (cw_X9_mostAlike :: gw) RX9) (hk5 : ∀ (y0 : Int) (y1 : Int32) (y2 : Int32) (y3 : Int32) (y4 : Int32) (M : Mm) (H : Heap) (locs : List Loc) (ls : Array Slot), Wd D G S M H → va_S (aG G) s.heap H locs → lv_has ls 8 [(0, .ref (adr G y0)), (1, .int y1), (2, .int y2), (3, .int y3), (4, .int y4)] → k5 y0 y1.toInt y2.toInt y3.toInt y4.toInt M → W p l e RM_X9_mostAlike s m args below meth c H locs 0 0 (MQ below (QI D G S post) args s 0 0 (aG G)) (F0 m 5 ls [])) : ∀ (xl0 : Int) (zl1 : Int32) (zl2 : Int32) (zl4 : Int32) (zs0 : Int32) (M : Mm) (H : Heap) (locs : List Loc) (ls : Array Slot), Wd D G S M H → va_S (aG G) s.heap H locs → lv_has ls 8 [(0, .ref (adr G xl0)), (1, .int zl1), (2, .int zl2), (4, .int zl4)] → wp_X9_mostAlike_119 S k5 post xl0 zl1.toInt zl2.toInt zl4.toInt zs0.toInt M → W p l e RM_X9_mostAlike s m args below meth c H locs 0 0 (MQ below (QI D G S post) args s 0 0 (aG G)) (F0 m 119 ls [.int zs0]) := by
  obtain ⟨hx, hb, hr, hlocks, hml, hown, hts, hK⟩ := id C
  intro xl0 zl1 zl2 zl4 zs0 M H locs ls hP hS hl h
  unfold wp_X9_mostAlike_119 at h
  refine lv_istore_n (lv' := [(3, .int zs0), (0, .ref (adr G xl0)), (1, .int zl1), (2, .int zl2), (4, .int zl4)]) hx hb dX9_mostAlike_119 rfl hl (by decide) rfl (fun ls hl => ?_)
  refine r_iinc hx hb (fun z2 => [(4, .int z2), (3, .int zs0), (0, .ref (adr G xl0)), (1, .int zl1), (2, .int zl2)]) dX9_mostAlike_120 (by decide) hl (k := 4) rfl (by decide) (fun _ => rfl) h (fun z2 ls hl h => ?_)
  refine lv_goto (tgt := 5) hx hb dX9_mostAlike_123 (by decide) ?_
  exact hk5 xl0 zl1 zl2 zs0 z2 _ _ _ _ hP hS (lv_sub hl [2, 3, 4, 1, 0] rfl) h
set_option maxHeartbeats 4000000 in
set_option maxRecDepth 100000 in
theorem t_X9_mostAlike_90 {p : Program} {l : Launch} {e : Env} {s : State} {m : MethodId} {args : Array Value} {below : List Frame} {meth : Method} {c : Code} {D : va_G} {G : Gt} {S : Sh} {post : Int → Mm → Prop} {k5 : Int → Int → Int → Int → Int → Mm → Prop} {k26 : Int → Int → Int → Int → Int → Int → Int → Mm → Prop} (C : Cx p s m args meth c D G cX9_mostAlike 8 (some .int) (cw_X9_mostAlike :: gw) RX9) (hk5 : ∀ (y0 : Int) (y1 : Int32) (y2 : Int32) (y3 : Int32) (y4 : Int32) (M : Mm) (H : Heap) (locs : List Loc) (ls : Array Slot), Wd D G S M H → va_S (aG G) s.heap H locs → lv_has ls 8 [(0, .ref (adr G y0)), (1, .int y1), (2, .int y2), (3, .int y3), (4, .int y4)] → k5 y0 y1.toInt y2.toInt y3.toInt y4.toInt M → W p l e RM_X9_mostAlike s m args below meth c H locs 0 0 (MQ below (QI D G S post) args s 0 0 (aG G)) (F0 m 5 ls [])) (hk26 : ∀ (y0 : Int) (y1 : Int32) (y2 : Int32) (y3 : Int32) (y4 : Int32) (y5 : Int32) (y6 : Int32) (M : Mm) (H : Heap) (locs : List Loc) (ls : Array Slot), Wd D G S M H → va_S (aG G) s.heap H locs → lv_has ls 8 [(0, .ref (adr G y0)), (1, .int y1), (2, .int y2), (3, .int y3), (4, .int y4), (5, .int y5), (6, .int y6)] → k26 y0 y1.toInt y2.toInt y3.toInt y4.toInt y5.toInt y6.toInt M → W p l e RM_X9_mostAlike s m args below meth c H locs 0 0 (MQ below (QI D G S post) args s 0 0 (aG G)) (F0 m 26 ls [])) : ∀ (xl0 : Int) (zl1 : Int32) (zl2 : Int32) (zl3 : Int32) (zl4 : Int32) (zl6 : Int32) (zs0 : Int32) (zs1 : Int32) (M : Mm) (H : Heap) (locs : List Loc) (ls : Array Slot), Wd D G S M H → va_S (aG G) s.heap H locs → lv_has ls 8 [(0, .ref (adr G xl0)), (1, .int zl1), (2, .int zl2), (3, .int zl3), (4, .int zl4), (6, .int zl6)] → wp_X9_mostAlike_90 S k5 k26 post xl0 zl1.toInt zl2.toInt zl3.toInt zl4.toInt zl6.toInt zs0.toInt zs1.toInt M → W p l e RM_X9_mostAlike s m args below meth c H locs 0 0 (MQ below (QI D G S post) args s 0 0 (aG G)) (F0 m 90 ls [.int zs1, .int zs0]) := by
  obtain ⟨hx, hb, hr, hlocks, hml, hown, hts, hK⟩ := id C
  intro xl0 zl1 zl2 zl3 zl4 zl6 zs0 zs1 M H locs ls hP hS hl h
  unfold wp_X9_mostAlike_90 at h
  refine r_iadd hx hb dX9_mostAlike_90 h (fun z4 h => ?_)
  refine lv_istore (lv' := [(5, .int z4), (0, .ref (adr G xl0)), (1, .int zl1), (2, .int zl2), (3, .int zl3), (4, .int zl4), (6, .int zl6)]) hx hb dX9_mostAlike_91 hl (by decide) rfl (fun ls hl => ?_)
  refine r_iinc hx hb (fun z6 => [(6, .int z6), (5, .int z4), (0, .ref (adr G xl0)), (1, .int zl1), (2, .int zl2), (3, .int zl3), (4, .int zl4)]) dX9_mostAlike_93 (by decide) hl (k := 6) rfl (by decide) (fun _ => rfl) h (fun z6 ls hl h => ?_)
  refine lv_goto (tgt := 26) hx hb dX9_mostAlike_96 (by decide) ?_
  exact hk26 xl0 zl1 zl2 zl3 zl4 z4 z6 _ _ _ _ hP hS (lv_sub hl [2, 3, 4, 5, 6, 1, 0] rfl) h
set_option maxHeartbeats 4000000 in
set_option maxRecDepth 100000 in
theorem t_X9_mostAlike_89 {p : Program} {l : Launch} {e : Env} {s : State} {m : MethodId} {args : Array Value} {below : List Frame} {meth : Method} {c : Code} {D : va_G} {G : Gt} {S : Sh} {post : Int → Mm → Prop} {k5 : Int → Int → Int → Int → Int → Mm → Prop} {k26 : Int → Int → Int → Int → Int → Int → Int → Mm → Prop} (C : Cx p s m args meth c D G cX9_mostAlike 8 (some .int) (cw_X9_mostAlike :: gw) RX9) (hk5 : ∀ (y0 : Int) (y1 : Int32) (y2 : Int32) (y3 : Int32) (y4 : Int32) (M : Mm) (H : Heap) (locs : List Loc) (ls : Array Slot), Wd D G S M H → va_S (aG G) s.heap H locs → lv_has ls 8 [(0, .ref (adr G y0)), (1, .int y1), (2, .int y2), (3, .int y3), (4, .int y4)] → k5 y0 y1.toInt y2.toInt y3.toInt y4.toInt M → W p l e RM_X9_mostAlike s m args below meth c H locs 0 0 (MQ below (QI D G S post) args s 0 0 (aG G)) (F0 m 5 ls [])) (hk26 : ∀ (y0 : Int) (y1 : Int32) (y2 : Int32) (y3 : Int32) (y4 : Int32) (y5 : Int32) (y6 : Int32) (M : Mm) (H : Heap) (locs : List Loc) (ls : Array Slot), Wd D G S M H → va_S (aG G) s.heap H locs → lv_has ls 8 [(0, .ref (adr G y0)), (1, .int y1), (2, .int y2), (3, .int y3), (4, .int y4), (5, .int y5), (6, .int y6)] → k26 y0 y1.toInt y2.toInt y3.toInt y4.toInt y5.toInt y6.toInt M → W p l e RM_X9_mostAlike s m args below meth c H locs 0 0 (MQ below (QI D G S post) args s 0 0 (aG G)) (F0 m 26 ls [])) : ∀ (xl0 : Int) (zl1 : Int32) (zl2 : Int32) (zl3 : Int32) (zl4 : Int32) (zl6 : Int32) (zs0 : Int32) (M : Mm) (H : Heap) (locs : List Loc) (ls : Array Slot), Wd D G S M H → va_S (aG G) s.heap H locs → lv_has ls 8 [(0, .ref (adr G xl0)), (1, .int zl1), (2, .int zl2), (3, .int zl3), (4, .int zl4), (6, .int zl6)] → wp_X9_mostAlike_89 S k5 k26 post xl0 zl1.toInt zl2.toInt zl3.toInt zl4.toInt zl6.toInt zs0.toInt M → W p l e RM_X9_mostAlike s m args below meth c H locs 0 0 (MQ below (QI D G S post) args s 0 0 (aG G)) (F0 m 89 ls [.int zs0]) := by
  obtain ⟨hx, hb, hr, hlocks, hml, hown, hts, hK⟩ := id C
  intro xl0 zl1 zl2 zl3 zl4 zl6 zs0 M H locs ls hP hS hl h
  unfold wp_X9_mostAlike_89 at h
  refine r_iconst hx hb dX9_mostAlike_89 (by decide) h (fun z8 h => ?_)
  exact t_X9_mostAlike_90 C hk5 hk26 xl0 zl1 zl2 zl3 zl4 zl6 zs0 z8 _ _ _ _ hP hS (lv_sub hl [0, 1, 2, 3, 4, 5] rfl) h
set_option maxHeartbeats 4000000 in
set_option maxRecDepth 100000 in
theorem t_X9_mostAlike_26 {p : Program} {l : Launch} {e : Env} {s : State} {m : MethodId} {args : Array Value} {below : List Frame} {meth : Method} {c : Code} {D : va_G} {G : Gt} {S : Sh} {post : Int → Mm → Prop} {k5 : Int → Int → Int → Int → Int → Mm → Prop} (C : Cx p s m args meth c D G cX9_mostAlike 8 (some .int) (cw_X9_mostAlike :: gw) RX9) (hk5 : ∀ (y0 : Int) (y1 : Int32) (y2 : Int32) (y3 : Int32) (y4 : Int32) (M : Mm) (H : Heap) (locs : List Loc) (ls : Array Slot), Wd D G S M H → va_S (aG G) s.heap H locs → lv_has ls 8 [(0, .ref (adr G y0)), (1, .int y1), (2, .int y2), (3, .int y3), (4, .int y4)] → k5 y0 y1.toInt y2.toInt y3.toInt y4.toInt M → W p l e RM_X9_mostAlike s m args below meth c H locs 0 0 (MQ below (QI D G S post) args s 0 0 (aG G)) (F0 m 5 ls [])) : ∀ (n : Nat) (xl0 : Int) (zl1 : Int32) (zl2 : Int32) (zl3 : Int32) (zl4 : Int32) (zl5 : Int32) (zl6 : Int32) (M : Mm) (H : Heap) (locs : List Loc) (ls : Array Slot), Wd D G S M H → va_S (aG G) s.heap H locs → lv_has ls 8 [(0, .ref (adr G xl0)), (1, .int zl1), (2, .int zl2), (3, .int zl3), (4, .int zl4), (5, .int zl5), (6, .int zl6)] → wp_X9_mostAlike_26 S k5 post n xl0 zl1.toInt zl2.toInt zl3.toInt zl4.toInt zl5.toInt zl6.toInt  M → W p l e RM_X9_mostAlike s m args below meth c H locs 0 0 (MQ below (QI D G S post) args s 0 0 (aG G)) (F0 m 26 ls []) := by
  obtain ⟨hx, hb, hr, hlocks, hml, hown, hts, hK⟩ := id C
  intro n
  induction n with
  | zero => intro xl0 zl1 zl2 zl3 zl4 zl5 zl6 M H locs ls hP hS hl h; exact h.elim
  | succ n ih =>
    intro xl0 zl1 zl2 zl3 zl4 zl5 zl6 M H locs ls hP hS hl h
    unfold wp_X9_mostAlike_26 at h
    refine lv_iload hx hb dX9_mostAlike_26 (lv_at hl 6 rfl) ?_
    refine lv_aload_n hx hb dX9_mostAlike_28 rfl (lv_at hl 0 rfl) ?_
    refine r_getr (C := RX9) (T := TX9) (N := 5) hx hb hts (fun w h => List.mem_cons_of_mem _ (iX9 w h)) hown hK hP rfl (by decide) rfl 0 (by decide) (hts _ (List.mem_cons_of_mem _ kw_471)) (fun _ h9 => h9) dX9_mostAlike_29 (by decide) h (fun x10 h => ?_)
    refine r_getrN (C := RX4) (T := TX4) (N := 10) hx hb hts (fun w h => List.mem_cons_of_mem _ (iX4 w h)) hown hK hP rfl (by decide) rfl 0 (by decide) (nw_71 hK) (fun _ h9 => h9) dX9_mostAlike_32 (by decide) h (fun x12 h => ?_)
    refine r_getiN (C := RX8) (T := TX8) (N := 19) hx hb hts (fun w h => List.mem_cons_of_mem _ (iX8 w h)) hown hK hP rfl (by decide) rfl 4 (by decide) (nw_13 hK) (fun _ h9 => h9) dX9_mostAlike_35 (by decide) h (fun z14 h => ?_)
    refine r_icmp_ge (tgt := 99) hx hb dX9_mostAlike_38 (by decide) h (fun h => ?_) (fun h => ?_)
    · refine lv_iload_n hx hb dX9_mostAlike_99 rfl (lv_at hl 1 rfl) ?_
      refine lv_iload hx hb dX9_mostAlike_100 (lv_at hl 4 rfl) ?_
      refine r_ishr hx hb dX9_mostAlike_102 h (fun z16 h => ?_)
      refine r_iconst hx hb dX9_mostAlike_103 (by decide) h (fun z18 h => ?_)
      refine r_iand hx hb dX9_mostAlike_104 h (fun z20 h => ?_)
      refine r_iconst hx hb dX9_mostAlike_105 (by decide) h (fun z22 h => ?_)
      refine r_icmp_ne (tgt := 118) hx hb dX9_mostAlike_106 (by decide) h (fun h => ?_) (fun h => ?_)
      · refine lv_iload_n hx hb dX9_mostAlike_118 rfl (lv_at hl 3 rfl) ?_
        exact t_X9_mostAlike_119 C hk5 xl0 zl1 zl2 zl4 zl3 _ _ _ _ hP hS (lv_sub hl [0, 1, 2, 4] rfl) h
      · refine lv_iload_n hx hb dX9_mostAlike_109 rfl (lv_at hl 3 rfl) ?_
        refine lv_iload hx hb dX9_mostAlike_110 (lv_at hl 5 rfl) ?_
        refine r_mmax hx hb (hml.trans hl.1.symm) hown (hts _ (List.mem_cons_of_mem _ kw_1230)) (hts _ (List.mem_cons_of_mem _ kw_993)) (hts _ (List.mem_cons_of_mem _ kw_19)) (hts _ (List.mem_cons_of_mem _ kw_994)) (Nat.le_of_ble_eq_true rfl) (Nat.le_of_ble_eq_true rfl) (Nat.zero_le _) (Nat.zero_le _) dX9_mostAlike_112 h (fun z24 h => ?_)
        refine lv_goto (tgt := 119) hx hb dX9_mostAlike_115 (by decide) ?_
        exact t_X9_mostAlike_119 C hk5 xl0 zl1 zl2 zl4 z24 _ _ _ _ hP hS (lv_sub hl [0, 1, 2, 4] rfl) h
    · refine lv_aload_n hx hb dX9_mostAlike_41 rfl (lv_at hl 0 rfl) ?_
      refine r_getr (C := RX9) (T := TX9) (N := 5) hx hb hts (fun w h => List.mem_cons_of_mem _ (iX9 w h)) hown hK hP rfl (by decide) rfl 2 (by decide) (hts _ (List.mem_cons_of_mem _ kw_473)) (fun _ h9 => h9) dX9_mostAlike_42 (by decide) h (fun x26 h => ?_)
      refine lv_iload hx hb dX9_mostAlike_45 (lv_at hl 4 rfl) ?_
      refine r_bipush hx hb dX9_mostAlike_47 (by decide) h (fun z28 h => ?_)
      refine r_imul hx hb dX9_mostAlike_49 h (fun z30 h => ?_)
      refine lv_iload_n hx hb dX9_mostAlike_50 rfl (lv_at hl 2 rfl) ?_
      refine r_iadd hx hb dX9_mostAlike_51 h (fun z32 h => ?_)
      refine r_iald hx hb hK hP dX9_mostAlike_52 h (fun z34 h => ?_)
      refine lv_aload_n hx hb dX9_mostAlike_53 rfl (lv_at hl 0 rfl) ?_
      refine r_getr (C := RX9) (T := TX9) (N := 5) hx hb hts (fun w h => List.mem_cons_of_mem _ (iX9 w h)) hown hK hP rfl (by decide) rfl 2 (by decide) (hts _ (List.mem_cons_of_mem _ kw_473)) (fun _ h9 => h9) dX9_mostAlike_54 (by decide) h (fun x36 h => ?_)
      refine lv_iload hx hb dX9_mostAlike_57 (lv_at hl 6 rfl) ?_
      refine r_bipush hx hb dX9_mostAlike_59 (by decide) h (fun z38 h => ?_)
      refine r_imul hx hb dX9_mostAlike_61 h (fun z40 h => ?_)
      refine lv_iload_n hx hb dX9_mostAlike_62 rfl (lv_at hl 2 rfl) ?_
      refine r_iadd hx hb dX9_mostAlike_63 h (fun z42 h => ?_)
      refine r_iald hx hb hK hP dX9_mostAlike_64 h (fun z44 h => ?_)
      refine r_isub hx hb dX9_mostAlike_65 h (fun z46 h => ?_)
      refine lv_istore (lv' := [(7, .int z46), (0, .ref (adr G xl0)), (1, .int zl1), (2, .int zl2), (3, .int zl3), (4, .int zl4), (5, .int zl5), (6, .int zl6)]) hx hb dX9_mostAlike_66 hl (by decide) rfl (fun ls hl => ?_)
      refine lv_iload hx hb dX9_mostAlike_68 (lv_at hl 6 rfl) ?_
      refine lv_iload hx hb dX9_mostAlike_70 (lv_at hl 0 rfl) ?_
      refine r_if_ne (tgt := 89) hx hb dX9_mostAlike_72 (by decide) h (fun h => ?_) (fun h => ?_)
      · exact t_X9_mostAlike_89 C hk5 ih xl0 zl1 zl2 zl3 zl4 zl6 zl5 _ _ _ _ hP hS (lv_sub hl [1, 2, 3, 4, 5, 7] rfl) h
      · refine lv_iload_n hx hb dX9_mostAlike_75 rfl (lv_at hl 2 rfl) ?_
        refine lv_iload hx hb dX9_mostAlike_76 (lv_at hl 7 rfl) ?_
        refine r_ishr hx hb dX9_mostAlike_78 h (fun z48 h => ?_)
        refine r_iconst hx hb dX9_mostAlike_79 (by decide) h (fun z50 h => ?_)
        refine r_iand hx hb dX9_mostAlike_80 h (fun z52 h => ?_)
        refine r_iconst hx hb dX9_mostAlike_81 (by decide) h (fun z54 h => ?_)
        refine r_icmp_ne (tgt := 89) hx hb dX9_mostAlike_82 (by decide) h (fun h => ?_) (fun h => ?_)
        · exact t_X9_mostAlike_89 C hk5 ih xl0 zl1 zl2 zl3 zl4 zl6 zl5 _ _ _ _ hP hS (lv_sub hl [1, 2, 3, 4, 5, 7] rfl) h
        · refine r_iconst hx hb dX9_mostAlike_85 (by decide) h (fun z56 h => ?_)
          refine lv_goto (tgt := 90) hx hb dX9_mostAlike_86 (by decide) ?_
          exact t_X9_mostAlike_90 C hk5 ih xl0 zl1 zl2 zl3 zl4 zl6 zl5 z56 _ _ _ _ hP hS (lv_sub hl [1, 2, 3, 4, 5, 7] rfl) h
set_option maxHeartbeats 4000000 in
set_option maxRecDepth 100000 in
theorem t_X9_mostAlike_5 {p : Program} {l : Launch} {e : Env} {s : State} {m : MethodId} {args : Array Value} {below : List Frame} {meth : Method} {c : Code} {D : va_G} {G : Gt} {S : Sh} {post : Int → Mm → Prop} (C : Cx p s m args meth c D G cX9_mostAlike 8 (some .int) (cw_X9_mostAlike :: gw) RX9) : ∀ (n : Nat) (xl0 : Int) (zl1 : Int32) (zl2 : Int32) (zl3 : Int32) (zl4 : Int32) (M : Mm) (H : Heap) (locs : List Loc) (ls : Array Slot), Wd D G S M H → va_S (aG G) s.heap H locs → lv_has ls 8 [(0, .ref (adr G xl0)), (1, .int zl1), (2, .int zl2), (3, .int zl3), (4, .int zl4)] → wp_X9_mostAlike_5 S post n xl0 zl1.toInt zl2.toInt zl3.toInt zl4.toInt  M → W p l e RM_X9_mostAlike s m args below meth c H locs 0 0 (MQ below (QI D G S post) args s 0 0 (aG G)) (F0 m 5 ls []) := by
  obtain ⟨hx, hb, hr, hlocks, hml, hown, hts, hK⟩ := id C
  intro n
  induction n with
  | zero => intro xl0 zl1 zl2 zl3 zl4 M H locs ls hP hS hl h; exact h.elim
  | succ n ih =>
    intro xl0 zl1 zl2 zl3 zl4 M H locs ls hP hS hl h
    unfold wp_X9_mostAlike_5 at h
    refine lv_iload hx hb dX9_mostAlike_5 (lv_at hl 4 rfl) ?_
    refine lv_aload_n hx hb dX9_mostAlike_7 rfl (lv_at hl 0 rfl) ?_
    refine r_getr (C := RX9) (T := TX9) (N := 5) hx hb hts (fun w h => List.mem_cons_of_mem _ (iX9 w h)) hown hK hP rfl (by decide) rfl 0 (by decide) (hts _ (List.mem_cons_of_mem _ kw_471)) (fun _ h9 => h9) dX9_mostAlike_8 (by decide) h (fun x58 h => ?_)
    refine r_getrN (C := RX4) (T := TX4) (N := 10) hx hb hts (fun w h => List.mem_cons_of_mem _ (iX4 w h)) hown hK hP rfl (by decide) rfl 0 (by decide) (nw_71 hK) (fun _ h9 => h9) dX9_mostAlike_11 (by decide) h (fun x60 h => ?_)
    refine r_getiN (C := RX8) (T := TX8) (N := 19) hx hb hts (fun w h => List.mem_cons_of_mem _ (iX8 w h)) hown hK hP rfl (by decide) rfl 4 (by decide) (nw_13 hK) (fun _ h9 => h9) dX9_mostAlike_14 (by decide) h (fun z62 h => ?_)
    refine r_icmp_ge (tgt := 126) hx hb dX9_mostAlike_17 (by decide) h (fun h => ?_) (fun h => ?_)
    · refine lv_iload_n hx hb dX9_mostAlike_126 rfl (lv_at hl 3 rfl) ?_
      exact r_iret hx hb hr hlocks hP hS dX9_mostAlike_127 h
    · refine r_iconst hx hb dX9_mostAlike_20 (by decide) h (fun z64 h => ?_)
      refine lv_istore (lv' := [(5, .int z64), (0, .ref (adr G xl0)), (1, .int zl1), (2, .int zl2), (3, .int zl3), (4, .int zl4)]) hx hb dX9_mostAlike_21 hl (by decide) rfl (fun ls hl => ?_)
      refine r_iconst hx hb dX9_mostAlike_23 (by decide) h (fun z66 h => ?_)
      refine lv_istore (lv' := [(6, .int z66), (5, .int z64), (0, .ref (adr G xl0)), (1, .int zl1), (2, .int zl2), (3, .int zl3), (4, .int zl4)]) hx hb dX9_mostAlike_24 hl (by decide) rfl (fun ls hl => ?_)
      obtain ⟨n9, h⟩ := h
      exact t_X9_mostAlike_26 C ih n9 xl0 zl1 zl2 zl3 zl4 z64 z66 _ _ _ _ hP hS (lv_sub hl [2, 3, 4, 5, 6, 1, 0] rfl) h
set_option maxHeartbeats 4000000 in
set_option maxRecDepth 100000 in
theorem c_X9_mostAlike (l : Launch) (D : va_G) (G : Gt) (S : Sh) (M : Mm) (xl0 : Int) (zl1 : Int32) (zl2 : Int32) (post : Int → Mm → Prop) (h : wp_X9_mostAlike S M xl0 zl1.toInt zl2.toInt post) : Met l yX9_mostAlike (cw_X9_mostAlike :: gw) RM_X9_mostAlike (va_Pc [.ref (adr G xl0), .int zl1, .int zl2] (fun U => KN D G U ∧ Wd D G S M U.heap)) (QI D G S post) 0 0 (aG G) := by
  refine Met.ofW (cc := cX9_mostAlike) (maxL := 8) (ret := (some .int)) (by decide) rfl ?_
  intro p e s m args below meth c s₁ B hml hv
  obtain ⟨rfl, hK, hP⟩ := hv
  have hx := B.exec
  have hb := B.bytes
  have hr := B.returns
  have hts := atoms_spec (ws := cw_X9_mostAlike :: gw) B.pre
  have hown : s.vm.findClass RX9 = some m.cls := findClass_of_methodNamed B.named
  have hlocks := B.notSynchronized
  have hS : va_S (aG G) s.heap s.heap [] := va_S.rf
  have C : Cx p s m ([.ref (adr G xl0), .int zl1, .int zl2] : List Value).toArray meth c D G cX9_mostAlike 8 (some .int) (cw_X9_mostAlike :: gw) RX9 := ⟨hx, hb, hr, hlocks, hml, hown, hts, hK⟩
  have hl := lv_entry ([.ref (adr G xl0), .int zl1, .int zl2]) (n := 8) (Nat.le_of_ble_eq_true rfl)
  rw [lg_entry_eq]
  generalize (lg_sl ([.ref (adr G xl0), .int zl1, .int zl2]) ++ List.replicate (8 - (lg_sl ([.ref (adr G xl0), .int zl1, .int zl2])).length) Slot.unset).toArray = ls at hl ⊢
  have hl : lv_has ls 8 [(0, .ref (adr G xl0)), (1, .int zl1), (2, .int zl2)] := hl
  unfold wp_X9_mostAlike at h
  refine r_iconst hx hb dX9_mostAlike_0 (by decide) h (fun z68 h => ?_)
  refine lv_istore_n (lv' := [(3, .int z68), (0, .ref (adr G xl0)), (1, .int zl1), (2, .int zl2)]) hx hb dX9_mostAlike_1 rfl hl (by decide) rfl (fun ls hl => ?_)
  refine r_iconst hx hb dX9_mostAlike_2 (by decide) h (fun z70 h => ?_)
  refine lv_istore (lv' := [(4, .int z70), (3, .int z68), (0, .ref (adr G xl0)), (1, .int zl1), (2, .int zl2)]) hx hb dX9_mostAlike_3 hl (by decide) rfl (fun ls hl => ?_)
  obtain ⟨n9, h⟩ := h
  exact t_X9_mostAlike_5 C n9 xl0 zl1 zl2 z68 z70 _ _ _ _ hP hS (lv_sub hl [2, 3, 4, 1, 0] rfl) h
/-! TurningMilk$Trials.findBestProbe(I)V -/
abbrev RM_X9_findBestProbe : Room := { frames := 5, cells := 0, slots := 0, locals := 129 }
def cw_X9_findBestProbe : Cond := Cond.code yX9_findBestProbe cX9_findBestProbe 4 (Option.none : Option FieldType)
theorem hd_X9_findBestProbe : yX9_findBestProbe.cls ≠ "java/lang/invoke/MethodHandle" ∧ yX9_findBestProbe.cls ≠ "java/lang/invoke/VarHandle" ∧ (parseMethodDescriptor yX9_findBestProbe.desc).map (fun d => d.parameters.length) = some 1 := by decide +kernel
theorem dX9_findBestProbe_0 : decode cX9_findBestProbe 0 = .ok (.iconst 0, 1) := by decide +kernel
theorem dX9_findBestProbe_1 : decode cX9_findBestProbe 1 = .ok (.istore_n 2, 1) := by decide +kernel
theorem dX9_findBestProbe_2 : decode cX9_findBestProbe 2 = .ok (.iload_n 2, 1) := by decide +kernel
theorem dX9_findBestProbe_3 : decode cX9_findBestProbe 3 = .ok (.aload_n 0, 1) := by decide +kernel
theorem dX9_findBestProbe_4 : decode cX9_findBestProbe 4 = .ok (.getfield 15, 3) := by decide +kernel
theorem dX9_findBestProbe_7 : decode cX9_findBestProbe 7 = .ok (.getfield 63, 3) := by decide +kernel
theorem dX9_findBestProbe_10 : decode cX9_findBestProbe 10 = .ok (.getfield 67, 3) := by decide +kernel
theorem dX9_findBestProbe_13 : decode cX9_findBestProbe 13 = .ok (.if_icmp .ge 69, 3) := by decide +kernel
theorem dX9_findBestProbe_16 : decode cX9_findBestProbe 16 = .ok (.aload_n 0, 1) := by decide +kernel
theorem dX9_findBestProbe_17 : decode cX9_findBestProbe 17 = .ok (.getfield 19, 3) := by decide +kernel
theorem dX9_findBestProbe_20 : decode cX9_findBestProbe 20 = .ok (.iload_n 2, 1) := by decide +kernel
theorem dX9_findBestProbe_21 : decode cX9_findBestProbe 21 = .ok (.iconst 0, 1) := by decide +kernel
theorem dX9_findBestProbe_22 : decode cX9_findBestProbe 22 = .ok (.iconst 0, 1) := by decide +kernel
theorem dX9_findBestProbe_23 : decode cX9_findBestProbe 23 = .ok (.aload_n 0, 1) := by decide +kernel
theorem dX9_findBestProbe_24 : decode cX9_findBestProbe 24 = .ok (.getfield 15, 3) := by decide +kernel
theorem dX9_findBestProbe_27 : decode cX9_findBestProbe 27 = .ok (.getfield 23, 3) := by decide +kernel
theorem dX9_findBestProbe_30 : decode cX9_findBestProbe 30 = .ok (.getfield 29, 3) := by decide +kernel
theorem dX9_findBestProbe_33 : decode cX9_findBestProbe 33 = .ok (.invokevirtual 35, 3) := by decide +kernel
theorem dX9_findBestProbe_36 : decode cX9_findBestProbe 36 = .ok (.iconst 0, 1) := by decide +kernel
theorem dX9_findBestProbe_37 : decode cX9_findBestProbe 37 = .ok (.istore_n 3, 1) := by decide +kernel
theorem dX9_findBestProbe_38 : decode cX9_findBestProbe 38 = .ok (.iload_n 3, 1) := by decide +kernel
theorem dX9_findBestProbe_39 : decode cX9_findBestProbe 39 = .ok (.bipush 20, 2) := by decide +kernel
theorem dX9_findBestProbe_41 : decode cX9_findBestProbe 41 = .ok (.if_icmp .ge 35, 3) := by decide +kernel
theorem dX9_findBestProbe_44 : decode cX9_findBestProbe 44 = .ok (.aload_n 0, 1) := by decide +kernel
theorem dX9_findBestProbe_45 : decode cX9_findBestProbe 45 = .ok (.getfield 19, 3) := by decide +kernel
theorem dX9_findBestProbe_48 : decode cX9_findBestProbe 48 = .ok (.iconst 1, 1) := by decide +kernel
theorem dX9_findBestProbe_49 : decode cX9_findBestProbe 49 = .ok (.invokevirtual 53, 3) := by decide +kernel
theorem dX9_findBestProbe_52 : decode cX9_findBestProbe 52 = .ok (.aload_n 0, 1) := by decide +kernel
theorem dX9_findBestProbe_53 : decode cX9_findBestProbe 53 = .ok (.getfield 11, 3) := by decide +kernel
theorem dX9_findBestProbe_56 : decode cX9_findBestProbe 56 = .ok (.iload_n 2, 1) := by decide +kernel
theorem dX9_findBestProbe_57 : decode cX9_findBestProbe 57 = .ok (.bipush 20, 2) := by decide +kernel
theorem dX9_findBestProbe_59 : decode cX9_findBestProbe 59 = .ok (.imul, 1) := by decide +kernel
theorem dX9_findBestProbe_60 : decode cX9_findBestProbe 60 = .ok (.iload_n 3, 1) := by decide +kernel
theorem dX9_findBestProbe_61 : decode cX9_findBestProbe 61 = .ok (.iadd, 1) := by decide +kernel
theorem dX9_findBestProbe_62 : decode cX9_findBestProbe 62 = .ok (.aload_n 0, 1) := by decide +kernel
theorem dX9_findBestProbe_63 : decode cX9_findBestProbe 63 = .ok (.getfield 19, 3) := by decide +kernel
theorem dX9_findBestProbe_66 : decode cX9_findBestProbe 66 = .ok (.getfield 60, 3) := by decide +kernel
theorem dX9_findBestProbe_69 : decode cX9_findBestProbe 69 = .ok (.iastore, 1) := by decide +kernel
theorem dX9_findBestProbe_70 : decode cX9_findBestProbe 70 = .ok (.iinc 3 1, 3) := by decide +kernel
theorem dX9_findBestProbe_73 : decode cX9_findBestProbe 73 = .ok (.goto (-35), 3) := by decide +kernel
theorem dX9_findBestProbe_76 : decode cX9_findBestProbe 76 = .ok (.iinc 2 1, 3) := by decide +kernel
theorem dX9_findBestProbe_79 : decode cX9_findBestProbe 79 = .ok (.goto (-77), 3) := by decide +kernel
theorem dX9_findBestProbe_82 : decode cX9_findBestProbe 82 = .ok (.aload_n 0, 1) := by decide +kernel
theorem dX9_findBestProbe_83 : decode cX9_findBestProbe 83 = .ok (.bipush 6, 2) := by decide +kernel
theorem dX9_findBestProbe_85 : decode cX9_findBestProbe 85 = .ok (.putfield 91, 3) := by decide +kernel
theorem dX9_findBestProbe_88 : decode cX9_findBestProbe 88 = .ok (.iconst 0, 1) := by decide +kernel
theorem dX9_findBestProbe_89 : decode cX9_findBestProbe 89 = .ok (.istore_n 2, 1) := by decide +kernel
theorem dX9_findBestProbe_90 : decode cX9_findBestProbe 90 = .ok (.iload_n 2, 1) := by decide +kernel
theorem dX9_findBestProbe_91 : decode cX9_findBestProbe 91 = .ok (.bipush 20, 2) := by decide +kernel
theorem dX9_findBestProbe_93 : decode cX9_findBestProbe 93 = .ok (.if_icmp .ge 36, 3) := by decide +kernel
theorem dX9_findBestProbe_96 : decode cX9_findBestProbe 96 = .ok (.aload_n 0, 1) := by decide +kernel
theorem dX9_findBestProbe_97 : decode cX9_findBestProbe 97 = .ok (.iload_n 1, 1) := by decide +kernel
theorem dX9_findBestProbe_98 : decode cX9_findBestProbe 98 = .ok (.iload_n 2, 1) := by decide +kernel
theorem dX9_findBestProbe_99 : decode cX9_findBestProbe 99 = .ok (.invokevirtual 94, 3) := by decide +kernel
theorem dX9_findBestProbe_102 : decode cX9_findBestProbe 102 = .ok (.istore_n 3, 1) := by decide +kernel
theorem dX9_findBestProbe_103 : decode cX9_findBestProbe 103 = .ok (.iload_n 3, 1) := by decide +kernel
theorem dX9_findBestProbe_104 : decode cX9_findBestProbe 104 = .ok (.aload_n 0, 1) := by decide +kernel
theorem dX9_findBestProbe_105 : decode cX9_findBestProbe 105 = .ok (.getfield 91, 3) := by decide +kernel
theorem dX9_findBestProbe_108 : decode cX9_findBestProbe 108 = .ok (.if_icmp .ge 15, 3) := by decide +kernel
theorem dX9_findBestProbe_111 : decode cX9_findBestProbe 111 = .ok (.aload_n 0, 1) := by decide +kernel
theorem dX9_findBestProbe_112 : decode cX9_findBestProbe 112 = .ok (.iload_n 3, 1) := by decide +kernel
theorem dX9_findBestProbe_113 : decode cX9_findBestProbe 113 = .ok (.putfield 91, 3) := by decide +kernel
theorem dX9_findBestProbe_116 : decode cX9_findBestProbe 116 = .ok (.aload_n 0, 1) := by decide +kernel
theorem dX9_findBestProbe_117 : decode cX9_findBestProbe 117 = .ok (.iload_n 2, 1) := by decide +kernel
theorem dX9_findBestProbe_118 : decode cX9_findBestProbe 118 = .ok (.iconst 1, 1) := by decide +kernel
theorem dX9_findBestProbe_119 : decode cX9_findBestProbe 119 = .ok (.iadd, 1) := by decide +kernel
theorem dX9_findBestProbe_120 : decode cX9_findBestProbe 120 = .ok (.putfield 98, 3) := by decide +kernel
theorem dX9_findBestProbe_123 : decode cX9_findBestProbe 123 = .ok (.iinc 2 1, 3) := by decide +kernel
theorem dX9_findBestProbe_126 : decode cX9_findBestProbe 126 = .ok (.goto (-36), 3) := by decide +kernel
theorem dX9_findBestProbe_129 : decode cX9_findBestProbe 129 = .ok (.return_, 1) := by decide +kernel
def wp_X9_findBestProbe_123 (S : Sh) (k90 : Int → Int → Int → Mm → Prop) (post : Mm → Prop) (u0 : Int) (u1 : Int) (u2 : Int) (M : Mm) : Prop := wA u2 1 fun v1 => k90 u0 u1 v1 M
def wp_X9_findBestProbe_90 (S : Sh) (post : Mm → Prop) : Nat → Int → Int → Int → Mm → Prop
  | 0, _, _, _, _ => False
  | n + 1, u0, u1, u2, M => wC 20 fun v3 => wIf (v3 ≤ u2) (post M) (isK S u0 9 ∧ (wp_X9_mostAlike S M u0 u1 u2 <| fun v6 M5 => wGet S M5 u0 9 4 fun v8 => wIf (v8 ≤ v6) (wp_X9_findBestProbe_123 S (fun a0 a1 a2 M => wp_X9_findBestProbe_90 S post n a0 a1 a2 M) post u0 u1 u2 M5) (wPut S M5 u0 9 4 v6 fun M10 => wC 1 fun v11 => wA u2 v11 fun v13 => wPut S M10 u0 9 3 v13 fun M15 => wp_X9_findBestProbe_123 S (fun a0 a1 a2 M => wp_X9_findBestProbe_90 S post n a0 a1 a2 M) post u0 u1 u2 M15)))
def wp_X9_findBestProbe_38 (S : Sh) (k2 : Int → Int → Int → Mm → Prop) (post : Mm → Prop) : Nat → Int → Int → Int → Int → Mm → Prop
  | 0, _, _, _, _, _ => False
  | n + 1, u0, u1, u2, u3, M => wC 20 fun v16 => wIf (v16 ≤ u3) (wA u2 1 fun v18 => k2 u0 u1 v18 M) (wGetR S M u0 9 1 fun v20 => wC 1 fun v22 => isK S v20 10 ∧ (wp_X10_holdFor S M v20 v22 <| fun M24 => wGetR S M24 u0 9 2 fun v25 => wC 20 fun v27 => wM u2 v27 fun v29 => wA v29 u3 fun v31 => wGetR S M24 u0 9 1 fun v33 => wGet S M24 v33 10 6 fun v35 => wSt S M24 v25 14 v31 v35 fun M37 => wA u3 1 fun v38 => wp_X9_findBestProbe_38 S k2 post n u0 u1 u2 v38 M37))
def wp_X9_findBestProbe_2 (S : Sh) (post : Mm → Prop) : Nat → Int → Int → Int → Mm → Prop
  | 0, _, _, _, _ => False
  | n + 1, u0, u1, u2, M => wGetR S M u0 9 0 fun v40 => wGetR S M v40 4 0 fun v42 => wGet S M v42 8 4 fun v44 => wIf (v44 ≤ u2) (wC 6 fun v46 => wPut S M u0 9 4 v46 fun M48 => wC 0 fun v49 => ∃ n9 : Nat, wp_X9_findBestProbe_90 S post n9 u0 u1 v49 M48) (wGetR S M u0 9 1 fun v51 => wC 0 fun v53 => wC 0 fun v55 => wGetR S M u0 9 0 fun v57 => wGetR S M v57 4 1 fun v59 => wGet S M v59 5 0 fun v61 => isK S v51 10 ∧ (wp_X10_suppose S M v51 u2 v53 v55 v61 <| fun M63 => wC 0 fun v64 => ∃ n9 : Nat, wp_X9_findBestProbe_38 S (fun a0 a1 a2 M => wp_X9_findBestProbe_2 S post n a0 a1 a2 M) post n9 u0 u1 u2 v64 M63))
def wp_X9_findBestProbe (S : Sh) (M : Mm) (u0 : Int) (u1 : Int) (post : Mm → Prop) : Prop := wC 0 fun v66 => ∃ n9 : Nat, wp_X9_findBestProbe_2 S post n9 u0 u1 v66 M
set_option maxHeartbeats 4000000 in
set_option maxRecDepth 100000 in
theorem t_X9_findBestProbe_123 {p : Program} {l : Launch} {e : Env} {s : State} {m : MethodId} {args : Array Value} {below : List Frame} {meth : Method} {c : Code} {D : va_G} {G : Gt} {S : Sh} {post : Mm → Prop} {k90 : Int → Int → Int → Mm → Prop} (C : Cx p s m args meth c D G cX9_findBestProbe 4 none (cw_X9_findBestProbe :: gw) RX9) (hk90 : ∀ (y0 : Int) (y1 : Int32) (y2 : Int32) (M : Mm) (H : Heap) (locs : List Loc) (ls : Array Slot), Wd D G S M H → va_S (aG G) s.heap H locs → lv_has ls 4 [(0, .ref (adr G y0)), (1, .int y1), (2, .int y2)] → k90 y0 y1.toInt y2.toInt M → W p l e RM_X9_findBestProbe s m args below meth c H locs 0 0 (MQ below (QV D G S post) args s 0 0 (aG G)) (F0 m 90 ls [])) : ∀ (xl0 : Int) (zl1 : Int32) (zl2 : Int32) (M : Mm) (H : Heap) (locs : List Loc) (ls : Array Slot), Wd D G S M H → va_S (aG G) s.heap H locs → lv_has ls 4 [(0, .ref (adr G xl0)), (1, .int zl1), (2, .int zl2)] → wp_X9_findBestProbe_123 S k90 post xl0 zl1.toInt zl2.toInt  M → W p l e RM_X9_findBestProbe s m args below meth c H locs 0 0 (MQ below (QV D G S post) args s 0 0 (aG G)) (F0 m 123 ls []) := by
  obtain ⟨hx, hb, hr, hlocks, hml, hown, hts, hK⟩ := id C
  intro xl0 zl1 zl2 M H locs ls hP hS hl h
  unfold wp_X9_findBestProbe_123 at h
  refine r_iinc hx hb (fun z2 => [(2, .int z2), (0, .ref (adr G xl0)), (1, .int zl1)]) dX9_findBestProbe_123 (by decide) hl (k := 2) rfl (by decide) (fun _ => rfl) h (fun z2 ls hl h => ?_)
  refine lv_goto (tgt := 90) hx hb dX9_findBestProbe_126 (by decide) ?_
  exact hk90 xl0 zl1 z2 _ _ _ _ hP hS (lv_sub hl [1, 2, 0] rfl) h
set_option maxHeartbeats 4000000 in
set_option maxRecDepth 100000 in
theorem t_X9_findBestProbe_90 {p : Program} {l : Launch} {e : Env} {s : State} {m : MethodId} {args : Array Value} {below : List Frame} {meth : Method} {c : Code} {D : va_G} {G : Gt} {S : Sh} {post : Mm → Prop} (C : Cx p s m args meth c D G cX9_findBestProbe 4 none (cw_X9_findBestProbe :: gw) RX9) : ∀ (n : Nat) (xl0 : Int) (zl1 : Int32) (zl2 : Int32) (M : Mm) (H : Heap) (locs : List Loc) (ls : Array Slot), Wd D G S M H → va_S (aG G) s.heap H locs → lv_has ls 4 [(0, .ref (adr G xl0)), (1, .int zl1), (2, .int zl2)] → wp_X9_findBestProbe_90 S post n xl0 zl1.toInt zl2.toInt  M → W p l e RM_X9_findBestProbe s m args below meth c H locs 0 0 (MQ below (QV D G S post) args s 0 0 (aG G)) (F0 m 90 ls []) := by
  obtain ⟨hx, hb, hr, hlocks, hml, hown, hts, hK⟩ := id C
  intro n
  induction n with
  | zero => intro xl0 zl1 zl2 M H locs ls hP hS hl h; exact h.elim
  | succ n ih =>
    intro xl0 zl1 zl2 M H locs ls hP hS hl h
    unfold wp_X9_findBestProbe_90 at h
    refine lv_iload_n hx hb dX9_findBestProbe_90 rfl (lv_at hl 2 rfl) ?_
    refine r_bipush hx hb dX9_findBestProbe_91 (by decide) h (fun z4 h => ?_)
    refine r_icmp_ge (tgt := 129) hx hb dX9_findBestProbe_93 (by decide) h (fun h => ?_) (fun h => ?_)
    · exact r_vret hx hb hr hlocks hP hS dX9_findBestProbe_129 h
    · refine lv_aload_n hx hb dX9_findBestProbe_96 rfl (lv_at hl 0 rfl) ?_
      refine lv_iload_n hx hb dX9_findBestProbe_97 rfl (lv_at hl 1 rfl) ?_
      refine lv_iload_n hx hb dX9_findBestProbe_98 rfl (lv_at hl 2 rfl) ?_
      refine q_Vi hx hb hml hown hts hK hP hS (c_X9_mostAlike l D G S _ xl0 zl1 zl2 _ h.2) ⟨callB_of 2 hts (gw_good kw_1229) rfl rfl rfl (hts _ (List.mem_cons_of_mem _ kw_13)) (hts _ (List.mem_cons_of_mem _ kw_1226)) hd_X9_mostAlike ⟨Nat.le_of_ble_eq_true rfl, Nat.le_of_ble_eq_true rfl⟩, (hts _ (List.mem_cons_of_mem _ kw_1228)), (hts _ (List.mem_cons_of_mem _ kp_46))⟩ h.1 (ci := 9) rfl (by decide) rfl hl.1 rfl (lv_room (Nat.le_of_ble_eq_true rfl)) dX9_findBestProbe_99 ⟨Nat.zero_le _, Nat.zero_le _⟩ (fun z7 M5 H locs h hP hS => ?_)
      refine lv_istore_n (lv' := [(3, .int z7), (0, .ref (adr G xl0)), (1, .int zl1), (2, .int zl2)]) hx hb dX9_findBestProbe_102 rfl hl (by decide) rfl (fun ls hl => ?_)
      refine lv_iload_n hx hb dX9_findBestProbe_103 rfl (lv_at hl 0 rfl) ?_
      refine lv_aload_n hx hb dX9_findBestProbe_104 rfl (lv_at hl 1 rfl) ?_
      refine r_geti (C := RX9) (T := TX9) (N := 5) hx hb hts (fun w h => List.mem_cons_of_mem _ (iX9 w h)) hown hK hP rfl (by decide) rfl 4 (by decide) (hts _ (List.mem_cons_of_mem _ kw_476)) (fun _ h9 => h9) dX9_findBestProbe_105 (by decide) h (fun z9 h => ?_)
      refine r_icmp_ge (tgt := 123) hx hb dX9_findBestProbe_108 (by decide) h (fun h => ?_) (fun h => ?_)
      · exact t_X9_findBestProbe_123 C ih xl0 zl1 zl2 _ _ _ _ hP hS (lv_sub hl [1, 2, 3] rfl) h
      · refine lv_aload_n hx hb dX9_findBestProbe_111 rfl (lv_at hl 1 rfl) ?_
        refine lv_iload_n hx hb dX9_findBestProbe_112 rfl (lv_at hl 0 rfl) ?_
        refine r_puti (C := RX9) (T := TX9) (N := 5) hx hb hts (fun w h => List.mem_cons_of_mem _ (iX9 w h)) hown hK hP tyX9 tyX9_ok nmX9 hS rfl (by decide) rfl 4 (by decide) (hts _ (List.mem_cons_of_mem _ kw_476)) (fun _ h9 => h9) rfl (tyX9_ok 4 (by decide)) rfl rfl dX9_findBestProbe_113 (by decide) h (fun M10 H locs h hP hS => ?_)
        refine lv_aload_n hx hb dX9_findBestProbe_116 rfl (lv_at hl 1 rfl) ?_
        refine lv_iload_n hx hb dX9_findBestProbe_117 rfl (lv_at hl 3 rfl) ?_
        refine r_iconst hx hb dX9_findBestProbe_118 (by decide) h (fun z12 h => ?_)
        refine r_iadd hx hb dX9_findBestProbe_119 h (fun z14 h => ?_)
        refine r_puti (C := RX9) (T := TX9) (N := 5) hx hb hts (fun w h => List.mem_cons_of_mem _ (iX9 w h)) hown hK hP tyX9 tyX9_ok nmX9 hS rfl (by decide) rfl 3 (by decide) (hts _ (List.mem_cons_of_mem _ kw_474)) (fun _ h9 => h9) rfl (tyX9_ok 3 (by decide)) rfl rfl dX9_findBestProbe_120 (by decide) h (fun M15 H locs h hP hS => ?_)
        exact t_X9_findBestProbe_123 C ih xl0 zl1 zl2 _ _ _ _ hP hS (lv_sub hl [1, 2, 3] rfl) h
set_option maxHeartbeats 4000000 in
set_option maxRecDepth 100000 in
theorem t_X9_findBestProbe_38 {p : Program} {l : Launch} {e : Env} {s : State} {m : MethodId} {args : Array Value} {below : List Frame} {meth : Method} {c : Code} {D : va_G} {G : Gt} {S : Sh} {post : Mm → Prop} {k2 : Int → Int → Int → Mm → Prop} (C : Cx p s m args meth c D G cX9_findBestProbe 4 none (cw_X9_findBestProbe :: gw) RX9) (hk2 : ∀ (y0 : Int) (y1 : Int32) (y2 : Int32) (M : Mm) (H : Heap) (locs : List Loc) (ls : Array Slot), Wd D G S M H → va_S (aG G) s.heap H locs → lv_has ls 4 [(0, .ref (adr G y0)), (1, .int y1), (2, .int y2)] → k2 y0 y1.toInt y2.toInt M → W p l e RM_X9_findBestProbe s m args below meth c H locs 0 0 (MQ below (QV D G S post) args s 0 0 (aG G)) (F0 m 2 ls [])) : ∀ (n : Nat) (xl0 : Int) (zl1 : Int32) (zl2 : Int32) (zl3 : Int32) (M : Mm) (H : Heap) (locs : List Loc) (ls : Array Slot), Wd D G S M H → va_S (aG G) s.heap H locs → lv_has ls 4 [(0, .ref (adr G xl0)), (1, .int zl1), (2, .int zl2), (3, .int zl3)] → wp_X9_findBestProbe_38 S k2 post n xl0 zl1.toInt zl2.toInt zl3.toInt  M → W p l e RM_X9_findBestProbe s m args below meth c H locs 0 0 (MQ below (QV D G S post) args s 0 0 (aG G)) (F0 m 38 ls []) := by
  obtain ⟨hx, hb, hr, hlocks, hml, hown, hts, hK⟩ := id C
  intro n
  induction n with
  | zero => intro xl0 zl1 zl2 zl3 M H locs ls hP hS hl h; exact h.elim
  | succ n ih =>
    intro xl0 zl1 zl2 zl3 M H locs ls hP hS hl h
    unfold wp_X9_findBestProbe_38 at h
    refine lv_iload_n hx hb dX9_findBestProbe_38 rfl (lv_at hl 3 rfl) ?_
    refine r_bipush hx hb dX9_findBestProbe_39 (by decide) h (fun z17 h => ?_)
    refine r_icmp_ge (tgt := 76) hx hb dX9_findBestProbe_41 (by decide) h (fun h => ?_) (fun h => ?_)
    · refine r_iinc hx hb (fun z19 => [(2, .int z19), (0, .ref (adr G xl0)), (1, .int zl1), (3, .int zl3)]) dX9_findBestProbe_76 (by decide) hl (k := 2) rfl (by decide) (fun _ => rfl) h (fun z19 ls hl h => ?_)
      refine lv_goto (tgt := 2) hx hb dX9_findBestProbe_79 (by decide) ?_
      exact hk2 xl0 zl1 z19 _ _ _ _ hP hS (lv_sub hl [1, 2, 0] rfl) h
    · refine lv_aload_n hx hb dX9_findBestProbe_44 rfl (lv_at hl 0 rfl) ?_
      refine r_getr (C := RX9) (T := TX9) (N := 5) hx hb hts (fun w h => List.mem_cons_of_mem _ (iX9 w h)) hown hK hP rfl (by decide) rfl 1 (by decide) (hts _ (List.mem_cons_of_mem _ kw_472)) (fun _ h9 => h9) dX9_findBestProbe_45 (by decide) h (fun x21 h => ?_)
      refine r_iconst hx hb dX9_findBestProbe_48 (by decide) h (fun z23 h => ?_)
      refine q_Vv hx hb hml hown hts hK hP hS (c_X10_holdFor l D G S _ x21 z23 _ h.2) ⟨callB_of 1 hts (gw_good kw_1095) rfl rfl rfl (hts _ (List.mem_cons_of_mem _ kw_9)) (hts _ (List.mem_cons_of_mem _ kw_1188)) hd_X10_holdFor ⟨Nat.le_of_ble_eq_true rfl, Nat.le_of_ble_eq_true rfl⟩, (hts _ (List.mem_cons_of_mem _ kw_1093)), (hts _ (List.mem_cons_of_mem _ kw_1094))⟩ h.1 (ci := 10) rfl (by decide) rfl hl.1 rfl (lv_room (Nat.le_of_ble_eq_true rfl)) dX9_findBestProbe_49 ⟨Nat.zero_le _, Nat.zero_le _⟩ (fun M24 H locs h hP hS => ?_)
      refine lv_aload_n hx hb dX9_findBestProbe_52 rfl (lv_at hl 0 rfl) ?_
      refine r_getr (C := RX9) (T := TX9) (N := 5) hx hb hts (fun w h => List.mem_cons_of_mem _ (iX9 w h)) hown hK hP rfl (by decide) rfl 2 (by decide) (hts _ (List.mem_cons_of_mem _ kw_473)) (fun _ h9 => h9) dX9_findBestProbe_53 (by decide) h (fun x26 h => ?_)
      refine lv_iload_n hx hb dX9_findBestProbe_56 rfl (lv_at hl 2 rfl) ?_
      refine r_bipush hx hb dX9_findBestProbe_57 (by decide) h (fun z28 h => ?_)
      refine r_imul hx hb dX9_findBestProbe_59 h (fun z30 h => ?_)
      refine lv_iload_n hx hb dX9_findBestProbe_60 rfl (lv_at hl 3 rfl) ?_
      refine r_iadd hx hb dX9_findBestProbe_61 h (fun z32 h => ?_)
      refine lv_aload_n hx hb dX9_findBestProbe_62 rfl (lv_at hl 0 rfl) ?_
      refine r_getr (C := RX9) (T := TX9) (N := 5) hx hb hts (fun w h => List.mem_cons_of_mem _ (iX9 w h)) hown hK hP rfl (by decide) rfl 1 (by decide) (hts _ (List.mem_cons_of_mem _ kw_472)) (fun _ h9 => h9) dX9_findBestProbe_63 (by decide) h (fun x34 h => ?_)
      refine r_getiN (C := RX10) (T := TX10) (N := 12) hx hb hts (fun w h => List.mem_cons_of_mem _ (iX10 w h)) hown hK hP rfl (by decide) rfl 6 (by decide) (nw_90 hK) (fun _ h9 => h9) dX9_findBestProbe_66 (by decide) h (fun z36 h => ?_)
      refine r_iast hx hb hK hP hS dX9_findBestProbe_69 h (fun M37 H locs h hP hS => ?_)
      refine r_iinc hx hb (fun z39 => [(3, .int z39), (0, .ref (adr G xl0)), (1, .int zl1), (2, .int zl2)]) dX9_findBestProbe_70 (by decide) hl (k := 3) rfl (by decide) (fun _ => rfl) h (fun z39 ls hl h => ?_)
      refine lv_goto (tgt := 38) hx hb dX9_findBestProbe_73 (by decide) ?_
      exact ih xl0 zl1 zl2 z39 _ _ _ _ hP hS (lv_sub hl [1, 2, 3, 0] rfl) h
set_option maxHeartbeats 4000000 in
set_option maxRecDepth 100000 in
theorem t_X9_findBestProbe_2 {p : Program} {l : Launch} {e : Env} {s : State} {m : MethodId} {args : Array Value} {below : List Frame} {meth : Method} {c : Code} {D : va_G} {G : Gt} {S : Sh} {post : Mm → Prop} (C : Cx p s m args meth c D G cX9_findBestProbe 4 none (cw_X9_findBestProbe :: gw) RX9) : ∀ (n : Nat) (xl0 : Int) (zl1 : Int32) (zl2 : Int32) (M : Mm) (H : Heap) (locs : List Loc) (ls : Array Slot), Wd D G S M H → va_S (aG G) s.heap H locs → lv_has ls 4 [(0, .ref (adr G xl0)), (1, .int zl1), (2, .int zl2)] → wp_X9_findBestProbe_2 S post n xl0 zl1.toInt zl2.toInt  M → W p l e RM_X9_findBestProbe s m args below meth c H locs 0 0 (MQ below (QV D G S post) args s 0 0 (aG G)) (F0 m 2 ls []) := by
  obtain ⟨hx, hb, hr, hlocks, hml, hown, hts, hK⟩ := id C
  intro n
  induction n with
  | zero => intro xl0 zl1 zl2 M H locs ls hP hS hl h; exact h.elim
  | succ n ih =>
    intro xl0 zl1 zl2 M H locs ls hP hS hl h
    unfold wp_X9_findBestProbe_2 at h
    refine lv_iload_n hx hb dX9_findBestProbe_2 rfl (lv_at hl 2 rfl) ?_
    refine lv_aload_n hx hb dX9_findBestProbe_3 rfl (lv_at hl 0 rfl) ?_
    refine r_getr (C := RX9) (T := TX9) (N := 5) hx hb hts (fun w h => List.mem_cons_of_mem _ (iX9 w h)) hown hK hP rfl (by decide) rfl 0 (by decide) (hts _ (List.mem_cons_of_mem _ kw_471)) (fun _ h9 => h9) dX9_findBestProbe_4 (by decide) h (fun x41 h => ?_)
    refine r_getrN (C := RX4) (T := TX4) (N := 10) hx hb hts (fun w h => List.mem_cons_of_mem _ (iX4 w h)) hown hK hP rfl (by decide) rfl 0 (by decide) (nw_71 hK) (fun _ h9 => h9) dX9_findBestProbe_7 (by decide) h (fun x43 h => ?_)
    refine r_getiN (C := RX8) (T := TX8) (N := 19) hx hb hts (fun w h => List.mem_cons_of_mem _ (iX8 w h)) hown hK hP rfl (by decide) rfl 4 (by decide) (nw_13 hK) (fun _ h9 => h9) dX9_findBestProbe_10 (by decide) h (fun z45 h => ?_)
    refine r_icmp_ge (tgt := 82) hx hb dX9_findBestProbe_13 (by decide) h (fun h => ?_) (fun h => ?_)
    · refine lv_aload_n hx hb dX9_findBestProbe_82 rfl (lv_at hl 0 rfl) ?_
      refine r_bipush hx hb dX9_findBestProbe_83 (by decide) h (fun z47 h => ?_)
      refine r_puti (C := RX9) (T := TX9) (N := 5) hx hb hts (fun w h => List.mem_cons_of_mem _ (iX9 w h)) hown hK hP tyX9 tyX9_ok nmX9 hS rfl (by decide) rfl 4 (by decide) (hts _ (List.mem_cons_of_mem _ kw_476)) (fun _ h9 => h9) rfl (tyX9_ok 4 (by decide)) rfl rfl dX9_findBestProbe_85 (by decide) h (fun M48 H locs h hP hS => ?_)
      refine r_iconst hx hb dX9_findBestProbe_88 (by decide) h (fun z50 h => ?_)
      refine lv_istore_n (lv' := [(2, .int z50), (0, .ref (adr G xl0)), (1, .int zl1)]) hx hb dX9_findBestProbe_89 rfl hl (by decide) rfl (fun ls hl => ?_)
      obtain ⟨n9, h⟩ := h
      exact t_X9_findBestProbe_90 C n9 xl0 zl1 z50 _ _ _ _ hP hS (lv_sub hl [1, 2, 0] rfl) h
    · refine lv_aload_n hx hb dX9_findBestProbe_16 rfl (lv_at hl 0 rfl) ?_
      refine r_getr (C := RX9) (T := TX9) (N := 5) hx hb hts (fun w h => List.mem_cons_of_mem _ (iX9 w h)) hown hK hP rfl (by decide) rfl 1 (by decide) (hts _ (List.mem_cons_of_mem _ kw_472)) (fun _ h9 => h9) dX9_findBestProbe_17 (by decide) h (fun x52 h => ?_)
      refine lv_iload_n hx hb dX9_findBestProbe_20 rfl (lv_at hl 2 rfl) ?_
      refine r_iconst hx hb dX9_findBestProbe_21 (by decide) h (fun z54 h => ?_)
      refine r_iconst hx hb dX9_findBestProbe_22 (by decide) h (fun z56 h => ?_)
      refine lv_aload_n hx hb dX9_findBestProbe_23 rfl (lv_at hl 0 rfl) ?_
      refine r_getr (C := RX9) (T := TX9) (N := 5) hx hb hts (fun w h => List.mem_cons_of_mem _ (iX9 w h)) hown hK hP rfl (by decide) rfl 0 (by decide) (hts _ (List.mem_cons_of_mem _ kw_471)) (fun _ h9 => h9) dX9_findBestProbe_24 (by decide) h (fun x58 h => ?_)
      refine r_getrN (C := RX4) (T := TX4) (N := 10) hx hb hts (fun w h => List.mem_cons_of_mem _ (iX4 w h)) hown hK hP rfl (by decide) rfl 1 (by decide) (nw_72 hK) (fun _ h9 => h9) dX9_findBestProbe_27 (by decide) h (fun x60 h => ?_)
      refine r_getiN (C := RX5) (T := TX5) (N := 9) hx hb hts (fun w h => List.mem_cons_of_mem _ (iX5 w h)) hown hK hP rfl (by decide) rfl 0 (by decide) (nw_46 hK) (fun _ h9 => h9) dX9_findBestProbe_30 (by decide) h (fun z62 h => ?_)
      refine q_Vv hx hb hml hown hts hK hP hS (c_X10_suppose l D G S _ x52 zl2 z54 z56 z62 _ h.2) ⟨callB_of 4 hts (gw_good kw_1091) rfl rfl rfl (hts _ (List.mem_cons_of_mem _ kw_9)) (hts _ (List.mem_cons_of_mem _ kw_1187)) hd_X10_suppose ⟨Nat.le_of_ble_eq_true rfl, Nat.le_of_ble_eq_true rfl⟩, (hts _ (List.mem_cons_of_mem _ kw_1089)), (hts _ (List.mem_cons_of_mem _ kw_1090))⟩ h.1 (ci := 10) rfl (by decide) rfl hl.1 rfl (lv_room (Nat.le_of_ble_eq_true rfl)) dX9_findBestProbe_33 ⟨Nat.zero_le _, Nat.zero_le _⟩ (fun M63 H locs h hP hS => ?_)
      refine r_iconst hx hb dX9_findBestProbe_36 (by decide) h (fun z65 h => ?_)
      refine lv_istore_n (lv' := [(3, .int z65), (0, .ref (adr G xl0)), (1, .int zl1), (2, .int zl2)]) hx hb dX9_findBestProbe_37 rfl hl (by decide) rfl (fun ls hl => ?_)
      obtain ⟨n9, h⟩ := h
      exact t_X9_findBestProbe_38 C ih n9 xl0 zl1 zl2 z65 _ _ _ _ hP hS (lv_sub hl [1, 2, 3, 0] rfl) h
set_option maxHeartbeats 4000000 in
set_option maxRecDepth 100000 in
theorem c_X9_findBestProbe (l : Launch) (D : va_G) (G : Gt) (S : Sh) (M : Mm) (xl0 : Int) (zl1 : Int32) (post : Mm → Prop) (h : wp_X9_findBestProbe S M xl0 zl1.toInt post) : Met l yX9_findBestProbe (cw_X9_findBestProbe :: gw) RM_X9_findBestProbe (va_Pc [.ref (adr G xl0), .int zl1] (fun U => KN D G U ∧ Wd D G S M U.heap)) (QV D G S post) 0 0 (aG G) := by
  refine Met.ofW (cc := cX9_findBestProbe) (maxL := 4) (ret := none) (by decide) rfl ?_
  intro p e s m args below meth c s₁ B hml hv
  obtain ⟨rfl, hK, hP⟩ := hv
  have hx := B.exec
  have hb := B.bytes
  have hr := B.returns
  have hts := atoms_spec (ws := cw_X9_findBestProbe :: gw) B.pre
  have hown : s.vm.findClass RX9 = some m.cls := findClass_of_methodNamed B.named
  have hlocks := B.notSynchronized
  have hS : va_S (aG G) s.heap s.heap [] := va_S.rf
  have C : Cx p s m ([.ref (adr G xl0), .int zl1] : List Value).toArray meth c D G cX9_findBestProbe 4 none (cw_X9_findBestProbe :: gw) RX9 := ⟨hx, hb, hr, hlocks, hml, hown, hts, hK⟩
  have hl := lv_entry ([.ref (adr G xl0), .int zl1]) (n := 4) (Nat.le_of_ble_eq_true rfl)
  rw [lg_entry_eq]
  generalize (lg_sl ([.ref (adr G xl0), .int zl1]) ++ List.replicate (4 - (lg_sl ([.ref (adr G xl0), .int zl1])).length) Slot.unset).toArray = ls at hl ⊢
  have hl : lv_has ls 4 [(0, .ref (adr G xl0)), (1, .int zl1)] := hl
  unfold wp_X9_findBestProbe at h
  refine r_iconst hx hb dX9_findBestProbe_0 (by decide) h (fun z67 h => ?_)
  refine lv_istore_n (lv' := [(2, .int z67), (0, .ref (adr G xl0)), (1, .int zl1)]) hx hb dX9_findBestProbe_1 rfl hl (by decide) rfl (fun ls hl => ?_)
  obtain ⟨n9, h⟩ := h
  exact t_X9_findBestProbe_2 C n9 xl0 zl1 z67 _ _ _ _ hP hS (lv_sub hl [1, 2, 0] rfl) h
/-! TurningMilk.probe(I)I -/
abbrev RM_X11_probe : Room := { frames := 7, cells := 0, slots := 0, locals := 173 }
def cw_X11_probe : Cond := Cond.code yX11_probe cX11_probe 3 (Option.some FieldType.int)
theorem hd_X11_probe : yX11_probe.cls ≠ "java/lang/invoke/MethodHandle" ∧ yX11_probe.cls ≠ "java/lang/invoke/VarHandle" ∧ (parseMethodDescriptor yX11_probe.desc).map (fun d => d.parameters.length) = some 1 := by decide +kernel
theorem dX11_probe_0 : decode cX11_probe 0 = .ok (.aload_n 0, 1) := by decide +kernel
theorem dX11_probe_1 : decode cX11_probe 1 = .ok (.getfield 19, 3) := by decide +kernel
theorem dX11_probe_4 : decode cX11_probe 4 = .ok (.getfield 57, 3) := by decide +kernel
theorem dX11_probe_7 : decode cX11_probe 7 = .ok (.getfield 166, 3) := by decide +kernel
theorem dX11_probe_10 : decode cX11_probe 10 = .ok (.ifCond .eq 12, 3) := by decide +kernel
theorem dX11_probe_13 : decode cX11_probe 13 = .ok (.iload_n 1, 1) := by decide +kernel
theorem dX11_probe_14 : decode cX11_probe 14 = .ok (.ifCond .lt 8, 3) := by decide +kernel
theorem dX11_probe_17 : decode cX11_probe 17 = .ok (.iload_n 1, 1) := by decide +kernel
theorem dX11_probe_18 : decode cX11_probe 18 = .ok (.iconst 1, 1) := by decide +kernel
theorem dX11_probe_19 : decode cX11_probe 19 = .ok (.if_icmp .le 5, 3) := by decide +kernel
theorem dX11_probe_22 : decode cX11_probe 22 = .ok (.iconst (-1), 1) := by decide +kernel
theorem dX11_probe_23 : decode cX11_probe 23 = .ok (.ireturn, 1) := by decide +kernel
theorem dX11_probe_24 : decode cX11_probe 24 = .ok (.aload_n 0, 1) := by decide +kernel
theorem dX11_probe_25 : decode cX11_probe 25 = .ok (.getfield 96, 3) := by decide +kernel
theorem dX11_probe_28 : decode cX11_probe 28 = .ok (.invokevirtual 359, 3) := by decide +kernel
theorem dX11_probe_31 : decode cX11_probe 31 = .ok (.istore_n 2, 1) := by decide +kernel
theorem dX11_probe_32 : decode cX11_probe 32 = .ok (.iload_n 2, 1) := by decide +kernel
theorem dX11_probe_33 : decode cX11_probe 33 = .ok (.ifCond .ne 6, 3) := by decide +kernel
theorem dX11_probe_36 : decode cX11_probe 36 = .ok (.bipush (-2), 2) := by decide +kernel
theorem dX11_probe_38 : decode cX11_probe 38 = .ok (.ireturn, 1) := by decide +kernel
theorem dX11_probe_39 : decode cX11_probe 39 = .ok (.aload_n 0, 1) := by decide +kernel
theorem dX11_probe_40 : decode cX11_probe 40 = .ok (.getfield 96, 3) := by decide +kernel
theorem dX11_probe_43 : decode cX11_probe 43 = .ok (.iload_n 2, 1) := by decide +kernel
theorem dX11_probe_44 : decode cX11_probe 44 = .ok (.invokevirtual 365, 3) := by decide +kernel
theorem dX11_probe_47 : decode cX11_probe 47 = .ok (.iload_n 1, 1) := by decide +kernel
theorem dX11_probe_48 : decode cX11_probe 48 = .ok (.ifCond .ne 13, 3) := by decide +kernel
theorem dX11_probe_51 : decode cX11_probe 51 = .ok (.aload_n 0, 1) := by decide +kernel
theorem dX11_probe_52 : decode cX11_probe 52 = .ok (.getfield 96, 3) := by decide +kernel
theorem dX11_probe_55 : decode cX11_probe 55 = .ok (.getfield 368, 3) := by decide +kernel
theorem dX11_probe_58 : decode cX11_probe 58 = .ok (.goto 10, 3) := by decide +kernel
theorem dX11_probe_61 : decode cX11_probe 61 = .ok (.aload_n 0, 1) := by decide +kernel
theorem dX11_probe_62 : decode cX11_probe 62 = .ok (.getfield 96, 3) := by decide +kernel
theorem dX11_probe_65 : decode cX11_probe 65 = .ok (.getfield 371, 3) := by decide +kernel
theorem dX11_probe_68 : decode cX11_probe 68 = .ok (.ireturn, 1) := by decide +kernel
def wp_X11_probe (S : Sh) (M : Mm) (u0 : Int) (u1 : Int) (post : Int → Mm → Prop) : Prop := wGetR S M u0 11 1 fun v1 => wGetR S M v1 4 0 fun v3 => wGet S M v3 8 0 fun v5 => wIf (v5 = 0) (wC (-1) fun v7 => post v7 M) (wIf (u1 < 0) (wC (-1) fun v9 => post v9 M) (wC 1 fun v11 => wIf (u1 ≤ v11) (wGetR S M u0 11 14 fun v13 => isK S v13 9 ∧ (wp_X9_handsByTests S M v13 <| fun v16 M15 => wIf (¬ v16 = 0) (wGetR S M15 u0 11 14 fun v18 => isK S v18 9 ∧ (wp_X9_findBestProbe S M15 v18 v16 <| fun M20 => wIf (¬ u1 = 0) (wGetR S M20 u0 11 14 fun v21 => wGet S M20 v21 9 4 fun v23 => post v23 M20) (wGetR S M20 u0 11 14 fun v25 => wGet S M20 v25 9 3 fun v27 => post v27 M20))) (wC (-2) fun v29 => post v29 M15))) (wC (-1) fun v31 => post v31 M)))
set_option maxHeartbeats 4000000 in
set_option maxRecDepth 100000 in
theorem c_X11_probe (l : Launch) (D : va_G) (G : Gt) (S : Sh) (M : Mm) (xl0 : Int) (zl1 : Int32) (post : Int → Mm → Prop) (h : wp_X11_probe S M xl0 zl1.toInt post) : Met l yX11_probe (cw_X11_probe :: gw) RM_X11_probe (va_Pc [.ref (adr G xl0), .int zl1] (fun U => KN D G U ∧ Wd D G S M U.heap)) (QI D G S post) 0 0 (aG G) := by
  refine Met.ofW (cc := cX11_probe) (maxL := 3) (ret := (some .int)) (by decide) rfl ?_
  intro p e s m args below meth c s₁ B hml hv
  obtain ⟨rfl, hK, hP⟩ := hv
  have hx := B.exec
  have hb := B.bytes
  have hr := B.returns
  have hts := atoms_spec (ws := cw_X11_probe :: gw) B.pre
  have hown : s.vm.findClass RX11 = some m.cls := findClass_of_methodNamed B.named
  have hlocks := B.notSynchronized
  have hS : va_S (aG G) s.heap s.heap [] := va_S.rf
  have C : Cx p s m ([.ref (adr G xl0), .int zl1] : List Value).toArray meth c D G cX11_probe 3 (some .int) (cw_X11_probe :: gw) RX11 := ⟨hx, hb, hr, hlocks, hml, hown, hts, hK⟩
  have hl := lv_entry ([.ref (adr G xl0), .int zl1]) (n := 3) (Nat.le_of_ble_eq_true rfl)
  rw [lg_entry_eq]
  generalize (lg_sl ([.ref (adr G xl0), .int zl1]) ++ List.replicate (3 - (lg_sl ([.ref (adr G xl0), .int zl1])).length) Slot.unset).toArray = ls at hl ⊢
  have hl : lv_has ls 3 [(0, .ref (adr G xl0)), (1, .int zl1)] := hl
  unfold wp_X11_probe at h
  refine lv_aload_n hx hb dX11_probe_0 rfl (lv_at hl 0 rfl) ?_
  refine r_getr (C := RX11) (T := TX11) (N := 16) hx hb hts (fun w h => List.mem_cons_of_mem _ (iX11 w h)) hown hK hP rfl (by decide) rfl 1 (by decide) (hts _ (List.mem_cons_of_mem _ kw_492)) (fun _ h9 => h9) dX11_probe_1 (by decide) h (fun x2 h => ?_)
  refine r_getrN (C := RX4) (T := TX4) (N := 10) hx hb hts (fun w h => List.mem_cons_of_mem _ (iX4 w h)) hown hK hP rfl (by decide) rfl 0 (by decide) (nw_70 hK) (fun _ h9 => h9) dX11_probe_4 (by decide) h (fun x4 h => ?_)
  refine r_getiN (C := RX8) (T := TX8) (N := 19) hx hb hts (fun w h => List.mem_cons_of_mem _ (iX8 w h)) hown hK hP rfl (by decide) rfl 0 (by decide) (nw_4 hK) (fun _ h9 => h9) dX11_probe_7 (by decide) h (fun z6 h => ?_)
  refine r_if_eq (tgt := 22) hx hb dX11_probe_10 (by decide) h (fun h => ?_) (fun h => ?_)
  · refine r_iconst hx hb dX11_probe_22 (by decide) h (fun z8 h => ?_)
    exact r_iret hx hb hr hlocks hP hS dX11_probe_23 h
  · refine lv_iload_n hx hb dX11_probe_13 rfl (lv_at hl 1 rfl) ?_
    refine r_if_lt (tgt := 22) hx hb dX11_probe_14 (by decide) h (fun h => ?_) (fun h => ?_)
    · refine r_iconst hx hb dX11_probe_22 (by decide) h (fun z10 h => ?_)
      exact r_iret hx hb hr hlocks hP hS dX11_probe_23 h
    · refine lv_iload_n hx hb dX11_probe_17 rfl (lv_at hl 1 rfl) ?_
      refine r_iconst hx hb dX11_probe_18 (by decide) h (fun z12 h => ?_)
      refine r_icmp_le (tgt := 24) hx hb dX11_probe_19 (by decide) h (fun h => ?_) (fun h => ?_)
      · refine lv_aload_n hx hb dX11_probe_24 rfl (lv_at hl 0 rfl) ?_
        refine r_getr (C := RX11) (T := TX11) (N := 16) hx hb hts (fun w h => List.mem_cons_of_mem _ (iX11 w h)) hown hK hP rfl (by decide) rfl 14 (by decide) (hts _ (List.mem_cons_of_mem _ kw_505)) (fun _ h9 => h9) dX11_probe_25 (by decide) h (fun x14 h => ?_)
        refine q_Vi hx hb hml hown hts hK hP hS (c_X9_handsByTests l D G S _ x14 _ h.2) ⟨callB_of 0 hts (gw_good kw_1209) rfl rfl rfl (hts _ (List.mem_cons_of_mem _ kw_13)) (hts _ (List.mem_cons_of_mem _ kw_1206)) hd_X9_handsByTests ⟨Nat.le_of_ble_eq_true rfl, Nat.le_of_ble_eq_true rfl⟩, (hts _ (List.mem_cons_of_mem _ kw_1207)), (hts _ (List.mem_cons_of_mem _ kw_1208))⟩ h.1 (ci := 9) rfl (by decide) rfl hl.1 rfl (lv_room (Nat.le_of_ble_eq_true rfl)) dX11_probe_28 ⟨Nat.zero_le _, Nat.zero_le _⟩ (fun z17 M15 H locs h hP hS => ?_)
        refine lv_istore_n (lv' := [(2, .int z17), (0, .ref (adr G xl0)), (1, .int zl1)]) hx hb dX11_probe_31 rfl hl (by decide) rfl (fun ls hl => ?_)
        refine lv_iload_n hx hb dX11_probe_32 rfl (lv_at hl 0 rfl) ?_
        refine r_if_ne (tgt := 39) hx hb dX11_probe_33 (by decide) h (fun h => ?_) (fun h => ?_)
        · refine lv_aload_n hx hb dX11_probe_39 rfl (lv_at hl 1 rfl) ?_
          refine r_getr (C := RX11) (T := TX11) (N := 16) hx hb hts (fun w h => List.mem_cons_of_mem _ (iX11 w h)) hown hK hP rfl (by decide) rfl 14 (by decide) (hts _ (List.mem_cons_of_mem _ kw_505)) (fun _ h9 => h9) dX11_probe_40 (by decide) h (fun x19 h => ?_)
          refine lv_iload_n hx hb dX11_probe_43 rfl (lv_at hl 0 rfl) ?_
          refine q_Vv hx hb hml hown hts hK hP hS (c_X9_findBestProbe l D G S _ x19 z17 _ h.2) ⟨callB_of 1 hts (gw_good kw_1225) rfl rfl rfl (hts _ (List.mem_cons_of_mem _ kw_13)) (hts _ (List.mem_cons_of_mem _ kw_1222)) hd_X9_findBestProbe ⟨Nat.le_of_ble_eq_true rfl, Nat.le_of_ble_eq_true rfl⟩, (hts _ (List.mem_cons_of_mem _ kw_1223)), (hts _ (List.mem_cons_of_mem _ kw_1224))⟩ h.1 (ci := 9) rfl (by decide) rfl hl.1 rfl (lv_room (Nat.le_of_ble_eq_true rfl)) dX11_probe_44 ⟨Nat.zero_le _, Nat.zero_le _⟩ (fun M20 H locs h hP hS => ?_)
          refine lv_iload_n hx hb dX11_probe_47 rfl (lv_at hl 2 rfl) ?_
          refine r_if_ne (tgt := 61) hx hb dX11_probe_48 (by decide) h (fun h => ?_) (fun h => ?_)
          · refine lv_aload_n hx hb dX11_probe_61 rfl (lv_at hl 1 rfl) ?_
            refine r_getr (C := RX11) (T := TX11) (N := 16) hx hb hts (fun w h => List.mem_cons_of_mem _ (iX11 w h)) hown hK hP rfl (by decide) rfl 14 (by decide) (hts _ (List.mem_cons_of_mem _ kw_505)) (fun _ h9 => h9) dX11_probe_62 (by decide) h (fun x22 h => ?_)
            refine r_getiN (C := RX9) (T := TX9) (N := 5) hx hb hts (fun w h => List.mem_cons_of_mem _ (iX9 w h)) hown hK hP rfl (by decide) rfl 4 (by decide) (nw_99 hK) (fun _ h9 => h9) dX11_probe_65 (by decide) h (fun z24 h => ?_)
            exact r_iret hx hb hr hlocks hP hS dX11_probe_68 h
          · refine lv_aload_n hx hb dX11_probe_51 rfl (lv_at hl 1 rfl) ?_
            refine r_getr (C := RX11) (T := TX11) (N := 16) hx hb hts (fun w h => List.mem_cons_of_mem _ (iX11 w h)) hown hK hP rfl (by decide) rfl 14 (by decide) (hts _ (List.mem_cons_of_mem _ kw_505)) (fun _ h9 => h9) dX11_probe_52 (by decide) h (fun x26 h => ?_)
            refine r_getiN (C := RX9) (T := TX9) (N := 5) hx hb hts (fun w h => List.mem_cons_of_mem _ (iX9 w h)) hown hK hP rfl (by decide) rfl 3 (by decide) (nw_98 hK) (fun _ h9 => h9) dX11_probe_55 (by decide) h (fun z28 h => ?_)
            refine lv_goto (tgt := 68) hx hb dX11_probe_58 (by decide) ?_
            exact r_iret hx hb hr hlocks hP hS dX11_probe_68 h
        · refine r_bipush hx hb dX11_probe_36 (by decide) h (fun z30 h => ?_)
          exact r_iret hx hb hr hlocks hP hS dX11_probe_38 h
      · refine r_iconst hx hb dX11_probe_22 (by decide) h (fun z32 h => ?_)
        exact r_iret hx hb hr hlocks hP hS dX11_probe_23 h
/-! TurningMilk$Tables.rowsOf(II)I -/
abbrev RM_X6_rowsOf : Room := { frames := 1, cells := 0, slots := 0, locals := 40 }
def cw_X6_rowsOf : Cond := Cond.code yX6_rowsOf cX6_rowsOf 3 (Option.some FieldType.int)
theorem hd_X6_rowsOf : yX6_rowsOf.cls ≠ "java/lang/invoke/MethodHandle" ∧ yX6_rowsOf.cls ≠ "java/lang/invoke/VarHandle" ∧ (parseMethodDescriptor yX6_rowsOf.desc).map (fun d => d.parameters.length) = some 2 := by decide +kernel
theorem dX6_rowsOf_0 : decode cX6_rowsOf 0 = .ok (.iload_n 2, 1) := by decide +kernel
theorem dX6_rowsOf_1 : decode cX6_rowsOf 1 = .ok (.ifCond .ge 7, 3) := by decide +kernel
theorem dX6_rowsOf_4 : decode cX6_rowsOf 4 = .ok (.iconst 0, 1) := by decide +kernel
theorem dX6_rowsOf_5 : decode cX6_rowsOf 5 = .ok (.goto 15, 3) := by decide +kernel
theorem dX6_rowsOf_8 : decode cX6_rowsOf 8 = .ok (.aload_n 0, 1) := by decide +kernel
theorem dX6_rowsOf_9 : decode cX6_rowsOf 9 = .ok (.getfield 15, 3) := by decide +kernel
theorem dX6_rowsOf_12 : decode cX6_rowsOf 12 = .ok (.iload_n 1, 1) := by decide +kernel
theorem dX6_rowsOf_13 : decode cX6_rowsOf 13 = .ok (.sipush 301, 3) := by decide +kernel
theorem dX6_rowsOf_16 : decode cX6_rowsOf 16 = .ok (.imul, 1) := by decide +kernel
theorem dX6_rowsOf_17 : decode cX6_rowsOf 17 = .ok (.iload_n 2, 1) := by decide +kernel
theorem dX6_rowsOf_18 : decode cX6_rowsOf 18 = .ok (.iadd, 1) := by decide +kernel
theorem dX6_rowsOf_19 : decode cX6_rowsOf 19 = .ok (.iaload, 1) := by decide +kernel
theorem dX6_rowsOf_20 : decode cX6_rowsOf 20 = .ok (.ireturn, 1) := by decide +kernel
def wp_X6_rowsOf (S : Sh) (M : Mm) (u0 : Int) (u1 : Int) (u2 : Int) (post : Int → Mm → Prop) : Prop := wIf (0 ≤ u2) (wGetR S M u0 6 2 fun v1 => wC 301 fun v3 => wM u1 v3 fun v5 => wA v5 u2 fun v7 => wLd S M v1 14 v7 fun v9 => post v9 M) (wC 0 fun v11 => post v11 M)
set_option maxHeartbeats 4000000 in
set_option maxRecDepth 100000 in
theorem c_X6_rowsOf (l : Launch) (D : va_G) (G : Gt) (S : Sh) (M : Mm) (xl0 : Int) (zl1 : Int32) (zl2 : Int32) (post : Int → Mm → Prop) (h : wp_X6_rowsOf S M xl0 zl1.toInt zl2.toInt post) : Met l yX6_rowsOf (cw_X6_rowsOf :: gw) RM_X6_rowsOf (va_Pc [.ref (adr G xl0), .int zl1, .int zl2] (fun U => KN D G U ∧ Wd D G S M U.heap)) (QI D G S post) 0 0 (aG G) := by
  refine Met.ofW (cc := cX6_rowsOf) (maxL := 3) (ret := (some .int)) (by decide) rfl ?_
  intro p e s m args below meth c s₁ B hml hv
  obtain ⟨rfl, hK, hP⟩ := hv
  have hx := B.exec
  have hb := B.bytes
  have hr := B.returns
  have hts := atoms_spec (ws := cw_X6_rowsOf :: gw) B.pre
  have hown : s.vm.findClass RX6 = some m.cls := findClass_of_methodNamed B.named
  have hlocks := B.notSynchronized
  have hS : va_S (aG G) s.heap s.heap [] := va_S.rf
  have C : Cx p s m ([.ref (adr G xl0), .int zl1, .int zl2] : List Value).toArray meth c D G cX6_rowsOf 3 (some .int) (cw_X6_rowsOf :: gw) RX6 := ⟨hx, hb, hr, hlocks, hml, hown, hts, hK⟩
  have hl := lv_entry ([.ref (adr G xl0), .int zl1, .int zl2]) (n := 3) (Nat.le_of_ble_eq_true rfl)
  rw [lg_entry_eq]
  generalize (lg_sl ([.ref (adr G xl0), .int zl1, .int zl2]) ++ List.replicate (3 - (lg_sl ([.ref (adr G xl0), .int zl1, .int zl2])).length) Slot.unset).toArray = ls at hl ⊢
  have hl : lv_has ls 3 [(0, .ref (adr G xl0)), (1, .int zl1), (2, .int zl2)] := hl
  unfold wp_X6_rowsOf at h
  refine lv_iload_n hx hb dX6_rowsOf_0 rfl (lv_at hl 2 rfl) ?_
  refine r_if_ge (tgt := 8) hx hb dX6_rowsOf_1 (by decide) h (fun h => ?_) (fun h => ?_)
  · refine lv_aload_n hx hb dX6_rowsOf_8 rfl (lv_at hl 0 rfl) ?_
    refine r_getr (C := RX6) (T := TX6) (N := 3) hx hb hts (fun w h => List.mem_cons_of_mem _ (iX6 w h)) hown hK hP rfl (by decide) rfl 2 (by decide) (hts _ (List.mem_cons_of_mem _ kw_457)) (fun _ h9 => h9) dX6_rowsOf_9 (by decide) h (fun x2 h => ?_)
    refine lv_iload_n hx hb dX6_rowsOf_12 rfl (lv_at hl 1 rfl) ?_
    refine r_sipush hx hb dX6_rowsOf_13 (by decide) h (fun z4 h => ?_)
    refine r_imul hx hb dX6_rowsOf_16 h (fun z6 h => ?_)
    refine lv_iload_n hx hb dX6_rowsOf_17 rfl (lv_at hl 2 rfl) ?_
    refine r_iadd hx hb dX6_rowsOf_18 h (fun z8 h => ?_)
    refine r_iald hx hb hK hP dX6_rowsOf_19 h (fun z10 h => ?_)
    exact r_iret hx hb hr hlocks hP hS dX6_rowsOf_20 h
  · refine r_iconst hx hb dX6_rowsOf_4 (by decide) h (fun z12 h => ?_)
    refine lv_goto (tgt := 20) hx hb dX6_rowsOf_5 (by decide) ?_
    exact r_iret hx hb hr hlocks hP hS dX6_rowsOf_20 h
/-! TurningMilk$Tables.countRows(II)V -/
abbrev RM_X6_countRows : Room := { frames := 3, cells := 0, slots := 0, locals := 86 }
def cw_X6_countRows : Cond := Cond.code yX6_countRows cX6_countRows 8 (Option.none : Option FieldType)
theorem hd_X6_countRows : yX6_countRows.cls ≠ "java/lang/invoke/MethodHandle" ∧ yX6_countRows.cls ≠ "java/lang/invoke/VarHandle" ∧ (parseMethodDescriptor yX6_countRows.desc).map (fun d => d.parameters.length) = some 2 := by decide +kernel
theorem dX6_countRows_0 : decode cX6_countRows 0 = .ok (.aload_n 0, 1) := by decide +kernel
theorem dX6_countRows_1 : decode cX6_countRows 1 = .ok (.getfield 15, 3) := by decide +kernel
theorem dX6_countRows_4 : decode cX6_countRows 4 = .ok (.iconst 0, 1) := by decide +kernel
theorem dX6_countRows_5 : decode cX6_countRows 5 = .ok (.sipush 301, 3) := by decide +kernel
theorem dX6_countRows_8 : decode cX6_countRows 8 = .ok (.iconst 0, 1) := by decide +kernel
theorem dX6_countRows_9 : decode cX6_countRows 9 = .ok (.invokestatic 70, 3) := by decide +kernel
theorem dX6_countRows_12 : decode cX6_countRows 12 = .ok (.aload_n 0, 1) := by decide +kernel
theorem dX6_countRows_13 : decode cX6_countRows 13 = .ok (.getfield 15, 3) := by decide +kernel
theorem dX6_countRows_16 : decode cX6_countRows 16 = .ok (.iconst 0, 1) := by decide +kernel
theorem dX6_countRows_17 : decode cX6_countRows 17 = .ok (.iconst 1, 1) := by decide +kernel
theorem dX6_countRows_18 : decode cX6_countRows 18 = .ok (.iastore, 1) := by decide +kernel
theorem dX6_countRows_19 : decode cX6_countRows 19 = .ok (.iconst 1, 1) := by decide +kernel
theorem dX6_countRows_20 : decode cX6_countRows 20 = .ok (.istore_n 3, 1) := by decide +kernel
theorem dX6_countRows_21 : decode cX6_countRows 21 = .ok (.iload_n 3, 1) := by decide +kernel
theorem dX6_countRows_22 : decode cX6_countRows 22 = .ok (.iload_n 1, 1) := by decide +kernel
theorem dX6_countRows_23 : decode cX6_countRows 23 = .ok (.if_icmp .gt 94, 3) := by decide +kernel
theorem dX6_countRows_26 : decode cX6_countRows 26 = .ok (.iconst 0, 1) := by decide +kernel
theorem dX6_countRows_27 : decode cX6_countRows 27 = .ok (.istore 4, 2) := by decide +kernel
theorem dX6_countRows_29 : decode cX6_countRows 29 = .ok (.iload 4, 2) := by decide +kernel
theorem dX6_countRows_31 : decode cX6_countRows 31 = .ok (.iload_n 2, 1) := by decide +kernel
theorem dX6_countRows_32 : decode cX6_countRows 32 = .ok (.if_icmp .gt 79, 3) := by decide +kernel
theorem dX6_countRows_35 : decode cX6_countRows 35 = .ok (.lconst 0, 1) := by decide +kernel
theorem dX6_countRows_36 : decode cX6_countRows 36 = .ok (.lstore 5, 2) := by decide +kernel
theorem dX6_countRows_38 : decode cX6_countRows 38 = .ok (.iconst 0, 1) := by decide +kernel
theorem dX6_countRows_39 : decode cX6_countRows 39 = .ok (.istore 7, 2) := by decide +kernel
theorem dX6_countRows_41 : decode cX6_countRows 41 = .ok (.iload 7, 2) := by decide +kernel
theorem dX6_countRows_43 : decode cX6_countRows 43 = .ok (.aload_n 0, 1) := by decide +kernel
theorem dX6_countRows_44 : decode cX6_countRows 44 = .ok (.getfield 18, 3) := by decide +kernel
theorem dX6_countRows_47 : decode cX6_countRows 47 = .ok (.getfield 73, 3) := by decide +kernel
theorem dX6_countRows_50 : decode cX6_countRows 50 = .ok (.if_icmp .ge 35, 3) := by decide +kernel
theorem dX6_countRows_53 : decode cX6_countRows 53 = .ok (.lload 5, 2) := by decide +kernel
theorem dX6_countRows_55 : decode cX6_countRows 55 = .ok (.aload_n 0, 1) := by decide +kernel
theorem dX6_countRows_56 : decode cX6_countRows 56 = .ok (.iload_n 3, 1) := by decide +kernel
theorem dX6_countRows_57 : decode cX6_countRows 57 = .ok (.iconst 1, 1) := by decide +kernel
theorem dX6_countRows_58 : decode cX6_countRows 58 = .ok (.isub, 1) := by decide +kernel
theorem dX6_countRows_59 : decode cX6_countRows 59 = .ok (.iload 4, 2) := by decide +kernel
theorem dX6_countRows_61 : decode cX6_countRows 61 = .ok (.aload_n 0, 1) := by decide +kernel
theorem dX6_countRows_62 : decode cX6_countRows 62 = .ok (.getfield 18, 3) := by decide +kernel
theorem dX6_countRows_65 : decode cX6_countRows 65 = .ok (.getfield 76, 3) := by decide +kernel
theorem dX6_countRows_68 : decode cX6_countRows 68 = .ok (.iload 7, 2) := by decide +kernel
theorem dX6_countRows_70 : decode cX6_countRows 70 = .ok (.iaload, 1) := by decide +kernel
theorem dX6_countRows_71 : decode cX6_countRows 71 = .ok (.isub, 1) := by decide +kernel
theorem dX6_countRows_72 : decode cX6_countRows 72 = .ok (.invokevirtual 79, 3) := by decide +kernel
theorem dX6_countRows_75 : decode cX6_countRows 75 = .ok (.i2l, 1) := by decide +kernel
theorem dX6_countRows_76 : decode cX6_countRows 76 = .ok (.ladd, 1) := by decide +kernel
theorem dX6_countRows_77 : decode cX6_countRows 77 = .ok (.lstore 5, 2) := by decide +kernel
theorem dX6_countRows_79 : decode cX6_countRows 79 = .ok (.iinc 7 1, 3) := by decide +kernel
theorem dX6_countRows_82 : decode cX6_countRows 82 = .ok (.goto (-41), 3) := by decide +kernel
theorem dX6_countRows_85 : decode cX6_countRows 85 = .ok (.aload_n 0, 1) := by decide +kernel
theorem dX6_countRows_86 : decode cX6_countRows 86 = .ok (.getfield 15, 3) := by decide +kernel
theorem dX6_countRows_89 : decode cX6_countRows 89 = .ok (.iload_n 3, 1) := by decide +kernel
theorem dX6_countRows_90 : decode cX6_countRows 90 = .ok (.sipush 301, 3) := by decide +kernel
theorem dX6_countRows_93 : decode cX6_countRows 93 = .ok (.imul, 1) := by decide +kernel
theorem dX6_countRows_94 : decode cX6_countRows 94 = .ok (.iload 4, 2) := by decide +kernel
theorem dX6_countRows_96 : decode cX6_countRows 96 = .ok (.iadd, 1) := by decide +kernel
theorem dX6_countRows_97 : decode cX6_countRows 97 = .ok (.lload 5, 2) := by decide +kernel
theorem dX6_countRows_99 : decode cX6_countRows 99 = .ok (.ldc2_w 82, 3) := by decide +kernel
theorem dX6_countRows_102 : decode cX6_countRows 102 = .ok (.lrem, 1) := by decide +kernel
theorem dX6_countRows_103 : decode cX6_countRows 103 = .ok (.l2i, 1) := by decide +kernel
theorem dX6_countRows_104 : decode cX6_countRows 104 = .ok (.iastore, 1) := by decide +kernel
theorem dX6_countRows_105 : decode cX6_countRows 105 = .ok (.iinc 4 1, 3) := by decide +kernel
theorem dX6_countRows_108 : decode cX6_countRows 108 = .ok (.goto (-79), 3) := by decide +kernel
theorem dX6_countRows_111 : decode cX6_countRows 111 = .ok (.iinc 3 1, 3) := by decide +kernel
theorem dX6_countRows_114 : decode cX6_countRows 114 = .ok (.goto (-93), 3) := by decide +kernel
theorem dX6_countRows_117 : decode cX6_countRows 117 = .ok (.return_, 1) := by decide +kernel
def wp_X6_countRows_41 (S : Sh) (k21 : Int → Int → Int → Int → Mm → Prop) (k29 : Int → Int → Int → Int → Int → Mm → Prop) (post : Mm → Prop) : Nat → Int → Int → Int → Int → Int → Int → Int → Mm → Prop
  | 0, _, _, _, _, _, _, _, _ => False
  | n + 1, u0, u1, u2, u3, u4, u5, u7, M => wGetR S M u0 6 0 fun v1 => wGet S M v1 8 4 fun v3 => wIf (v3 ≤ u7) (wGetR S M u0 6 2 fun v5 => wC 301 fun v7 => wM u3 v7 fun v9 => wA v9 u4 fun v11 => wC 1000000007 fun v13 => wD lRem u5 v13 fun v15 => wO1 w32 v15 fun v17 => wSt S M v5 14 v11 v17 fun M19 => wA u4 1 fun v20 => k29 u0 u1 u2 u3 v20 M19) (wC 1 fun v22 => wS u3 v22 fun v24 => wGetR S M u0 6 0 fun v26 => wGetR S M v26 8 10 fun v28 => wLd S M v28 14 u7 fun v30 => wS u4 v30 fun v32 => isK S u0 6 ∧ (wp_X6_rowsOf S M u0 v24 v32 <| fun v35 M34 => wC v35 fun v37 => wLA u5 v37 fun v39 => wA u7 1 fun v41 => wp_X6_countRows_41 S k21 k29 post n u0 u1 u2 u3 u4 v39 v41 M34))
def wp_X6_countRows_29 (S : Sh) (k21 : Int → Int → Int → Int → Mm → Prop) (post : Mm → Prop) : Nat → Int → Int → Int → Int → Int → Mm → Prop
  | 0, _, _, _, _, _, _ => False
  | n + 1, u0, u1, u2, u3, u4, M => wIf (u2 < u4) (wA u3 1 fun v43 => k21 u0 u1 u2 v43 M) (wC 0 fun v45 => wC 0 fun v47 => ∃ n9 : Nat, wp_X6_countRows_41 S k21 (fun a0 a1 a2 a3 a4 M => wp_X6_countRows_29 S k21 post n a0 a1 a2 a3 a4 M) post n9 u0 u1 u2 u3 u4 v45 v47 M)
def wp_X6_countRows_21 (S : Sh) (post : Mm → Prop) : Nat → Int → Int → Int → Int → Mm → Prop
  | 0, _, _, _, _, _ => False
  | n + 1, u0, u1, u2, u3, M => wIf (u1 < u3) (post M) (wC 0 fun v49 => ∃ n9 : Nat, wp_X6_countRows_29 S (fun a0 a1 a2 a3 M => wp_X6_countRows_21 S post n a0 a1 a2 a3 M) post n9 u0 u1 u2 u3 v49 M)
def wp_X6_countRows (S : Sh) (M : Mm) (u0 : Int) (u1 : Int) (u2 : Int) (post : Mm → Prop) : Prop := wGetR S M u0 6 2 fun v51 => wC 0 fun v53 => wC 301 fun v55 => wC 0 fun v57 => wp_J7_fill_fda19 S M v51 v53 v55 v57 <| fun M59 => wGetR S M59 u0 6 2 fun v60 => wC 0 fun v62 => wC 1 fun v64 => wSt S M59 v60 14 v62 v64 fun M66 => wC 1 fun v67 => ∃ n9 : Nat, wp_X6_countRows_21 S post n9 u0 u1 u2 v67 M66
set_option maxHeartbeats 4000000 in
set_option maxRecDepth 100000 in
theorem t_X6_countRows_41 {p : Program} {l : Launch} {e : Env} {s : State} {m : MethodId} {args : Array Value} {below : List Frame} {meth : Method} {c : Code} {D : va_G} {G : Gt} {S : Sh} {post : Mm → Prop} {k21 : Int → Int → Int → Int → Mm → Prop} {k29 : Int → Int → Int → Int → Int → Mm → Prop} (C : Cx p s m args meth c D G cX6_countRows 8 none (cw_X6_countRows :: gw) RX6) (hk21 : ∀ (y0 : Int) (y1 : Int32) (y2 : Int32) (y3 : Int32) (M : Mm) (H : Heap) (locs : List Loc) (ls : Array Slot), Wd D G S M H → va_S (aG G) s.heap H locs → lv_has ls 8 [(0, .ref (adr G y0)), (1, .int y1), (2, .int y2), (3, .int y3)] → k21 y0 y1.toInt y2.toInt y3.toInt M → W p l e RM_X6_countRows s m args below meth c H locs 0 0 (MQ below (QV D G S post) args s 0 0 (aG G)) (F0 m 21 ls [])) (hk29 : ∀ (y0 : Int) (y1 : Int32) (y2 : Int32) (y3 : Int32) (y4 : Int32) (M : Mm) (H : Heap) (locs : List Loc) (ls : Array Slot), Wd D G S M H → va_S (aG G) s.heap H locs → lv_has ls 8 [(0, .ref (adr G y0)), (1, .int y1), (2, .int y2), (3, .int y3), (4, .int y4)] → k29 y0 y1.toInt y2.toInt y3.toInt y4.toInt M → W p l e RM_X6_countRows s m args below meth c H locs 0 0 (MQ below (QV D G S post) args s 0 0 (aG G)) (F0 m 29 ls [])) : ∀ (n : Nat) (xl0 : Int) (zl1 : Int32) (zl2 : Int32) (zl3 : Int32) (zl4 : Int32) (zl5 : Int64) (zl7 : Int32) (M : Mm) (H : Heap) (locs : List Loc) (ls : Array Slot), Wd D G S M H → va_S (aG G) s.heap H locs → lv_has ls 8 [(0, .ref (adr G xl0)), (1, .int zl1), (2, .int zl2), (3, .int zl3), (4, .int zl4), (5, .long zl5), (7, .int zl7)] → wp_X6_countRows_41 S k21 k29 post n xl0 zl1.toInt zl2.toInt zl3.toInt zl4.toInt zl5.toInt zl7.toInt  M → W p l e RM_X6_countRows s m args below meth c H locs 0 0 (MQ below (QV D G S post) args s 0 0 (aG G)) (F0 m 41 ls []) := by
  obtain ⟨hx, hb, hr, hlocks, hml, hown, hts, hK⟩ := id C
  intro n
  induction n with
  | zero => intro xl0 zl1 zl2 zl3 zl4 zl5 zl7 M H locs ls hP hS hl h; exact h.elim
  | succ n ih =>
    intro xl0 zl1 zl2 zl3 zl4 zl5 zl7 M H locs ls hP hS hl h
    unfold wp_X6_countRows_41 at h
    refine lv_iload hx hb dX6_countRows_41 (lv_at hl 6 rfl) ?_
    refine lv_aload_n hx hb dX6_countRows_43 rfl (lv_at hl 0 rfl) ?_
    refine r_getr (C := RX6) (T := TX6) (N := 3) hx hb hts (fun w h => List.mem_cons_of_mem _ (iX6 w h)) hown hK hP rfl (by decide) rfl 0 (by decide) (hts _ (List.mem_cons_of_mem _ kw_455)) (fun _ h9 => h9) dX6_countRows_44 (by decide) h (fun x2 h => ?_)
    refine r_getiN (C := RX8) (T := TX8) (N := 19) hx hb hts (fun w h => List.mem_cons_of_mem _ (iX8 w h)) hown hK hP rfl (by decide) rfl 4 (by decide) (nw_16 hK) (fun _ h9 => h9) dX6_countRows_47 (by decide) h (fun z4 h => ?_)
    refine r_icmp_ge (tgt := 85) hx hb dX6_countRows_50 (by decide) h (fun h => ?_) (fun h => ?_)
    · refine lv_aload_n hx hb dX6_countRows_85 rfl (lv_at hl 0 rfl) ?_
      refine r_getr (C := RX6) (T := TX6) (N := 3) hx hb hts (fun w h => List.mem_cons_of_mem _ (iX6 w h)) hown hK hP rfl (by decide) rfl 2 (by decide) (hts _ (List.mem_cons_of_mem _ kw_457)) (fun _ h9 => h9) dX6_countRows_86 (by decide) h (fun x6 h => ?_)
      refine lv_iload_n hx hb dX6_countRows_89 rfl (lv_at hl 3 rfl) ?_
      refine r_sipush hx hb dX6_countRows_90 (by decide) h (fun z8 h => ?_)
      refine r_imul hx hb dX6_countRows_93 h (fun z10 h => ?_)
      refine lv_iload hx hb dX6_countRows_94 (lv_at hl 4 rfl) ?_
      refine r_iadd hx hb dX6_countRows_96 h (fun z12 h => ?_)
      refine lv_lload hx hb dX6_countRows_97 (lv_at hl 5 rfl) ?_
      refine r_ldc2 hx hb hown (hts _ (List.mem_cons_of_mem _ kw_1244)) dX6_countRows_99 (n := 1000000007) (by decide) h (fun z14 h => ?_)
      refine r_lrem hx hb dX6_countRows_102 h (fun z16 h => ?_)
      refine r_l2i hx hb dX6_countRows_103 h (fun z18 h => ?_)
      refine r_iast hx hb hK hP hS dX6_countRows_104 h (fun M19 H locs h hP hS => ?_)
      refine r_iinc hx hb (fun z21 => [(4, .int z21), (0, .ref (adr G xl0)), (1, .int zl1), (2, .int zl2), (3, .int zl3), (5, .long zl5), (7, .int zl7)]) dX6_countRows_105 (by decide) hl (k := 4) rfl (by decide) (fun _ => rfl) h (fun z21 ls hl h => ?_)
      refine lv_goto (tgt := 29) hx hb dX6_countRows_108 (by decide) ?_
      exact hk29 xl0 zl1 zl2 zl3 z21 _ _ _ _ hP hS (lv_sub hl [1, 2, 3, 4, 0] rfl) h
    · refine lv_lload hx hb dX6_countRows_53 (lv_at hl 5 rfl) ?_
      refine lv_aload_n hx hb dX6_countRows_55 rfl (lv_at hl 0 rfl) ?_
      refine lv_iload_n hx hb dX6_countRows_56 rfl (lv_at hl 3 rfl) ?_
      refine r_iconst hx hb dX6_countRows_57 (by decide) h (fun z23 h => ?_)
      refine r_isub hx hb dX6_countRows_58 h (fun z25 h => ?_)
      refine lv_iload hx hb dX6_countRows_59 (lv_at hl 4 rfl) ?_
      refine lv_aload_n hx hb dX6_countRows_61 rfl (lv_at hl 0 rfl) ?_
      refine r_getr (C := RX6) (T := TX6) (N := 3) hx hb hts (fun w h => List.mem_cons_of_mem _ (iX6 w h)) hown hK hP rfl (by decide) rfl 0 (by decide) (hts _ (List.mem_cons_of_mem _ kw_455)) (fun _ h9 => h9) dX6_countRows_62 (by decide) h (fun x27 h => ?_)
      refine r_getrN (C := RX8) (T := TX8) (N := 19) hx hb hts (fun w h => List.mem_cons_of_mem _ (iX8 w h)) hown hK hP rfl (by decide) rfl 10 (by decide) (nw_27 hK) (fun _ h9 => h9) dX6_countRows_65 (by decide) h (fun x29 h => ?_)
      refine lv_iload hx hb dX6_countRows_68 (lv_at hl 6 rfl) ?_
      refine r_iald hx hb hK hP dX6_countRows_70 h (fun z31 h => ?_)
      refine r_isub hx hb dX6_countRows_71 h (fun z33 h => ?_)
      refine q_Vi hx hb hml hown hts hK hP hS (c_X6_rowsOf l D G S _ xl0 z25 z33 _ h.2) ⟨callB_of 2 hts (gw_good kw_1243) rfl rfl rfl (hts _ (List.mem_cons_of_mem _ kw_12)) (hts _ (List.mem_cons_of_mem _ kw_1240)) hd_X6_rowsOf ⟨Nat.le_of_ble_eq_true rfl, Nat.le_of_ble_eq_true rfl⟩, (hts _ (List.mem_cons_of_mem _ kw_1241)), (hts _ (List.mem_cons_of_mem _ kw_1242))⟩ h.1 (ci := 6) rfl (by decide) rfl hl.1 rfl (lv_room (Nat.le_of_ble_eq_true rfl)) dX6_countRows_72 ⟨Nat.zero_le _, Nat.zero_le _⟩ (fun z36 M34 H locs h hP hS => ?_)
      refine r_i2l hx hb dX6_countRows_75 h (fun z38 h => ?_)
      refine r_ladd hx hb dX6_countRows_76 h (fun z40 h => ?_)
      refine lv_lstore (lv' := [(5, .long z40), (0, .ref (adr G xl0)), (1, .int zl1), (2, .int zl2), (3, .int zl3), (4, .int zl4), (7, .int zl7)]) hx hb dX6_countRows_77 hl (by decide) rfl (fun ls hl => ?_)
      refine r_iinc hx hb (fun z42 => [(7, .int z42), (5, .long z40), (0, .ref (adr G xl0)), (1, .int zl1), (2, .int zl2), (3, .int zl3), (4, .int zl4)]) dX6_countRows_79 (by decide) hl (k := 6) rfl (by decide) (fun _ => rfl) h (fun z42 ls hl h => ?_)
      refine lv_goto (tgt := 41) hx hb dX6_countRows_82 (by decide) ?_
      exact ih xl0 zl1 zl2 zl3 zl4 z40 z42 _ _ _ _ hP hS (lv_sub hl [2, 3, 4, 5, 6, 1, 0] rfl) h
set_option maxHeartbeats 4000000 in
set_option maxRecDepth 100000 in
theorem t_X6_countRows_29 {p : Program} {l : Launch} {e : Env} {s : State} {m : MethodId} {args : Array Value} {below : List Frame} {meth : Method} {c : Code} {D : va_G} {G : Gt} {S : Sh} {post : Mm → Prop} {k21 : Int → Int → Int → Int → Mm → Prop} (C : Cx p s m args meth c D G cX6_countRows 8 none (cw_X6_countRows :: gw) RX6) (hk21 : ∀ (y0 : Int) (y1 : Int32) (y2 : Int32) (y3 : Int32) (M : Mm) (H : Heap) (locs : List Loc) (ls : Array Slot), Wd D G S M H → va_S (aG G) s.heap H locs → lv_has ls 8 [(0, .ref (adr G y0)), (1, .int y1), (2, .int y2), (3, .int y3)] → k21 y0 y1.toInt y2.toInt y3.toInt M → W p l e RM_X6_countRows s m args below meth c H locs 0 0 (MQ below (QV D G S post) args s 0 0 (aG G)) (F0 m 21 ls [])) : ∀ (n : Nat) (xl0 : Int) (zl1 : Int32) (zl2 : Int32) (zl3 : Int32) (zl4 : Int32) (M : Mm) (H : Heap) (locs : List Loc) (ls : Array Slot), Wd D G S M H → va_S (aG G) s.heap H locs → lv_has ls 8 [(0, .ref (adr G xl0)), (1, .int zl1), (2, .int zl2), (3, .int zl3), (4, .int zl4)] → wp_X6_countRows_29 S k21 post n xl0 zl1.toInt zl2.toInt zl3.toInt zl4.toInt  M → W p l e RM_X6_countRows s m args below meth c H locs 0 0 (MQ below (QV D G S post) args s 0 0 (aG G)) (F0 m 29 ls []) := by
  obtain ⟨hx, hb, hr, hlocks, hml, hown, hts, hK⟩ := id C
  intro n
  induction n with
  | zero => intro xl0 zl1 zl2 zl3 zl4 M H locs ls hP hS hl h; exact h.elim
  | succ n ih =>
    intro xl0 zl1 zl2 zl3 zl4 M H locs ls hP hS hl h
    unfold wp_X6_countRows_29 at h
    refine lv_iload hx hb dX6_countRows_29 (lv_at hl 4 rfl) ?_
    refine lv_iload_n hx hb dX6_countRows_31 rfl (lv_at hl 2 rfl) ?_
    refine r_icmp_gt (tgt := 111) hx hb dX6_countRows_32 (by decide) h (fun h => ?_) (fun h => ?_)
    · refine r_iinc hx hb (fun z44 => [(3, .int z44), (0, .ref (adr G xl0)), (1, .int zl1), (2, .int zl2), (4, .int zl4)]) dX6_countRows_111 (by decide) hl (k := 3) rfl (by decide) (fun _ => rfl) h (fun z44 ls hl h => ?_)
      refine lv_goto (tgt := 21) hx hb dX6_countRows_114 (by decide) ?_
      exact hk21 xl0 zl1 zl2 z44 _ _ _ _ hP hS (lv_sub hl [1, 2, 3, 0] rfl) h
    · refine r_lconst hx hb dX6_countRows_35 (v := 0) (by decide) h (fun z46 h => ?_)
      refine lv_lstore (lv' := [(5, .long z46), (0, .ref (adr G xl0)), (1, .int zl1), (2, .int zl2), (3, .int zl3), (4, .int zl4)]) hx hb dX6_countRows_36 hl (by decide) rfl (fun ls hl => ?_)
      refine r_iconst hx hb dX6_countRows_38 (by decide) h (fun z48 h => ?_)
      refine lv_istore (lv' := [(7, .int z48), (5, .long z46), (0, .ref (adr G xl0)), (1, .int zl1), (2, .int zl2), (3, .int zl3), (4, .int zl4)]) hx hb dX6_countRows_39 hl (by decide) rfl (fun ls hl => ?_)
      obtain ⟨n9, h⟩ := h
      exact t_X6_countRows_41 C hk21 ih n9 xl0 zl1 zl2 zl3 zl4 z46 z48 _ _ _ _ hP hS (lv_sub hl [2, 3, 4, 5, 6, 1, 0] rfl) h
set_option maxHeartbeats 4000000 in
set_option maxRecDepth 100000 in
theorem t_X6_countRows_21 {p : Program} {l : Launch} {e : Env} {s : State} {m : MethodId} {args : Array Value} {below : List Frame} {meth : Method} {c : Code} {D : va_G} {G : Gt} {S : Sh} {post : Mm → Prop} (C : Cx p s m args meth c D G cX6_countRows 8 none (cw_X6_countRows :: gw) RX6) : ∀ (n : Nat) (xl0 : Int) (zl1 : Int32) (zl2 : Int32) (zl3 : Int32) (M : Mm) (H : Heap) (locs : List Loc) (ls : Array Slot), Wd D G S M H → va_S (aG G) s.heap H locs → lv_has ls 8 [(0, .ref (adr G xl0)), (1, .int zl1), (2, .int zl2), (3, .int zl3)] → wp_X6_countRows_21 S post n xl0 zl1.toInt zl2.toInt zl3.toInt  M → W p l e RM_X6_countRows s m args below meth c H locs 0 0 (MQ below (QV D G S post) args s 0 0 (aG G)) (F0 m 21 ls []) := by
  obtain ⟨hx, hb, hr, hlocks, hml, hown, hts, hK⟩ := id C
  intro n
  induction n with
  | zero => intro xl0 zl1 zl2 zl3 M H locs ls hP hS hl h; exact h.elim
  | succ n ih =>
    intro xl0 zl1 zl2 zl3 M H locs ls hP hS hl h
    unfold wp_X6_countRows_21 at h
    refine lv_iload_n hx hb dX6_countRows_21 rfl (lv_at hl 3 rfl) ?_
    refine lv_iload_n hx hb dX6_countRows_22 rfl (lv_at hl 1 rfl) ?_
    refine r_icmp_gt (tgt := 117) hx hb dX6_countRows_23 (by decide) h (fun h => ?_) (fun h => ?_)
    · exact r_vret hx hb hr hlocks hP hS dX6_countRows_117 h
    · refine r_iconst hx hb dX6_countRows_26 (by decide) h (fun z50 h => ?_)
      refine lv_istore (lv' := [(4, .int z50), (0, .ref (adr G xl0)), (1, .int zl1), (2, .int zl2), (3, .int zl3)]) hx hb dX6_countRows_27 hl (by decide) rfl (fun ls hl => ?_)
      obtain ⟨n9, h⟩ := h
      exact t_X6_countRows_29 C ih n9 xl0 zl1 zl2 zl3 z50 _ _ _ _ hP hS (lv_sub hl [1, 2, 3, 4, 0] rfl) h
set_option maxHeartbeats 4000000 in
set_option maxRecDepth 100000 in
theorem c_X6_countRows (l : Launch) (D : va_G) (G : Gt) (S : Sh) (M : Mm) (xl0 : Int) (zl1 : Int32) (zl2 : Int32) (post : Mm → Prop) (h : wp_X6_countRows S M xl0 zl1.toInt zl2.toInt post) : Met l yX6_countRows (cw_X6_countRows :: gw) RM_X6_countRows (va_Pc [.ref (adr G xl0), .int zl1, .int zl2] (fun U => KN D G U ∧ Wd D G S M U.heap)) (QV D G S post) 0 0 (aG G) := by
  refine Met.ofW (cc := cX6_countRows) (maxL := 8) (ret := none) (by decide) rfl ?_
  intro p e s m args below meth c s₁ B hml hv
  obtain ⟨rfl, hK, hP⟩ := hv
  have hx := B.exec
  have hb := B.bytes
  have hr := B.returns
  have hts := atoms_spec (ws := cw_X6_countRows :: gw) B.pre
  have hown : s.vm.findClass RX6 = some m.cls := findClass_of_methodNamed B.named
  have hlocks := B.notSynchronized
  have hS : va_S (aG G) s.heap s.heap [] := va_S.rf
  have C : Cx p s m ([.ref (adr G xl0), .int zl1, .int zl2] : List Value).toArray meth c D G cX6_countRows 8 none (cw_X6_countRows :: gw) RX6 := ⟨hx, hb, hr, hlocks, hml, hown, hts, hK⟩
  have hl := lv_entry ([.ref (adr G xl0), .int zl1, .int zl2]) (n := 8) (Nat.le_of_ble_eq_true rfl)
  rw [lg_entry_eq]
  generalize (lg_sl ([.ref (adr G xl0), .int zl1, .int zl2]) ++ List.replicate (8 - (lg_sl ([.ref (adr G xl0), .int zl1, .int zl2])).length) Slot.unset).toArray = ls at hl ⊢
  have hl : lv_has ls 8 [(0, .ref (adr G xl0)), (1, .int zl1), (2, .int zl2)] := hl
  unfold wp_X6_countRows at h
  refine lv_aload_n hx hb dX6_countRows_0 rfl (lv_at hl 0 rfl) ?_
  refine r_getr (C := RX6) (T := TX6) (N := 3) hx hb hts (fun w h => List.mem_cons_of_mem _ (iX6 w h)) hown hK hP rfl (by decide) rfl 2 (by decide) (hts _ (List.mem_cons_of_mem _ kw_457)) (fun _ h9 => h9) dX6_countRows_1 (by decide) h (fun x52 h => ?_)
  refine r_iconst hx hb dX6_countRows_4 (by decide) h (fun z54 h => ?_)
  refine r_sipush hx hb dX6_countRows_5 (by decide) h (fun z56 h => ?_)
  refine r_iconst hx hb dX6_countRows_8 (by decide) h (fun z58 h => ?_)
  refine q_Sv hx hb hml hown hts hK hP hS (c_J7_fill_fda19 l D G S _ x52 z54 z56 z58 _ h) ⟨callB_of 4 hts (gw_good kw_1118) rfl rfl rfl (hts _ (List.mem_cons_of_mem _ kw_6)) (hts _ (List.mem_cons_of_mem _ kw_1239)) hd_J7_fill_fda19 ⟨Nat.le_of_ble_eq_true rfl, Nat.le_of_ble_eq_true rfl⟩, (hts _ (List.mem_cons_of_mem _ kw_1117))⟩ rfl hl.1 rfl (lv_room (Nat.le_of_ble_eq_true rfl)) dX6_countRows_9 ⟨Nat.zero_le _, Nat.zero_le _⟩ (fun M59 H locs h hP hS => ?_)
  refine lv_aload_n hx hb dX6_countRows_12 rfl (lv_at hl 0 rfl) ?_
  refine r_getr (C := RX6) (T := TX6) (N := 3) hx hb hts (fun w h => List.mem_cons_of_mem _ (iX6 w h)) hown hK hP rfl (by decide) rfl 2 (by decide) (hts _ (List.mem_cons_of_mem _ kw_457)) (fun _ h9 => h9) dX6_countRows_13 (by decide) h (fun x61 h => ?_)
  refine r_iconst hx hb dX6_countRows_16 (by decide) h (fun z63 h => ?_)
  refine r_iconst hx hb dX6_countRows_17 (by decide) h (fun z65 h => ?_)
  refine r_iast hx hb hK hP hS dX6_countRows_18 h (fun M66 H locs h hP hS => ?_)
  refine r_iconst hx hb dX6_countRows_19 (by decide) h (fun z68 h => ?_)
  refine lv_istore_n (lv' := [(3, .int z68), (0, .ref (adr G xl0)), (1, .int zl1), (2, .int zl2)]) hx hb dX6_countRows_20 rfl hl (by decide) rfl (fun ls hl => ?_)
  obtain ⟨n9, h⟩ := h
  exact t_X6_countRows_21 C n9 xl0 zl1 zl2 z68 _ _ _ _ hP hS (lv_sub hl [1, 2, 3, 0] rfl) h
/-! TurningMilk$Tables.firstThatLeaves(II)I -/
abbrev RM_X6_firstThatLeaves : Room := { frames := 2, cells := 0, slots := 0, locals := 62 }
def cw_X6_firstThatLeaves : Cond := Cond.code yX6_firstThatLeaves cX6_firstThatLeaves 4 (Option.some FieldType.int)
theorem hd_X6_firstThatLeaves : yX6_firstThatLeaves.cls ≠ "java/lang/invoke/MethodHandle" ∧ yX6_firstThatLeaves.cls ≠ "java/lang/invoke/VarHandle" ∧ (parseMethodDescriptor yX6_firstThatLeaves.desc).map (fun d => d.parameters.length) = some 2 := by decide +kernel
theorem dX6_firstThatLeaves_0 : decode cX6_firstThatLeaves 0 = .ok (.iconst 0, 1) := by decide +kernel
theorem dX6_firstThatLeaves_1 : decode cX6_firstThatLeaves 1 = .ok (.istore_n 3, 1) := by decide +kernel
theorem dX6_firstThatLeaves_2 : decode cX6_firstThatLeaves 2 = .ok (.iload_n 3, 1) := by decide +kernel
theorem dX6_firstThatLeaves_3 : decode cX6_firstThatLeaves 3 = .ok (.aload_n 0, 1) := by decide +kernel
theorem dX6_firstThatLeaves_4 : decode cX6_firstThatLeaves 4 = .ok (.getfield 18, 3) := by decide +kernel
theorem dX6_firstThatLeaves_7 : decode cX6_firstThatLeaves 7 = .ok (.getfield 73, 3) := by decide +kernel
theorem dX6_firstThatLeaves_10 : decode cX6_firstThatLeaves 10 = .ok (.if_icmp .ge 30, 3) := by decide +kernel
theorem dX6_firstThatLeaves_13 : decode cX6_firstThatLeaves 13 = .ok (.aload_n 0, 1) := by decide +kernel
theorem dX6_firstThatLeaves_14 : decode cX6_firstThatLeaves 14 = .ok (.iload_n 1, 1) := by decide +kernel
theorem dX6_firstThatLeaves_15 : decode cX6_firstThatLeaves 15 = .ok (.iload_n 2, 1) := by decide +kernel
theorem dX6_firstThatLeaves_16 : decode cX6_firstThatLeaves 16 = .ok (.aload_n 0, 1) := by decide +kernel
theorem dX6_firstThatLeaves_17 : decode cX6_firstThatLeaves 17 = .ok (.getfield 18, 3) := by decide +kernel
theorem dX6_firstThatLeaves_20 : decode cX6_firstThatLeaves 20 = .ok (.getfield 76, 3) := by decide +kernel
theorem dX6_firstThatLeaves_23 : decode cX6_firstThatLeaves 23 = .ok (.iload_n 3, 1) := by decide +kernel
theorem dX6_firstThatLeaves_24 : decode cX6_firstThatLeaves 24 = .ok (.iaload, 1) := by decide +kernel
theorem dX6_firstThatLeaves_25 : decode cX6_firstThatLeaves 25 = .ok (.isub, 1) := by decide +kernel
theorem dX6_firstThatLeaves_26 : decode cX6_firstThatLeaves 26 = .ok (.invokevirtual 79, 3) := by decide +kernel
theorem dX6_firstThatLeaves_29 : decode cX6_firstThatLeaves 29 = .ok (.ifCond .le 5, 3) := by decide +kernel
theorem dX6_firstThatLeaves_32 : decode cX6_firstThatLeaves 32 = .ok (.iload_n 3, 1) := by decide +kernel
theorem dX6_firstThatLeaves_33 : decode cX6_firstThatLeaves 33 = .ok (.ireturn, 1) := by decide +kernel
theorem dX6_firstThatLeaves_34 : decode cX6_firstThatLeaves 34 = .ok (.iinc 3 1, 3) := by decide +kernel
theorem dX6_firstThatLeaves_37 : decode cX6_firstThatLeaves 37 = .ok (.goto (-35), 3) := by decide +kernel
theorem dX6_firstThatLeaves_40 : decode cX6_firstThatLeaves 40 = .ok (.iconst 0, 1) := by decide +kernel
theorem dX6_firstThatLeaves_41 : decode cX6_firstThatLeaves 41 = .ok (.ireturn, 1) := by decide +kernel
def wp_X6_firstThatLeaves_2 (S : Sh) (post : Int → Mm → Prop) : Nat → Int → Int → Int → Int → Mm → Prop
  | 0, _, _, _, _, _ => False
  | n + 1, u0, u1, u2, u3, M => wGetR S M u0 6 0 fun v1 => wGet S M v1 8 4 fun v3 => wIf (v3 ≤ u3) (wC 0 fun v5 => post v5 M) (wGetR S M u0 6 0 fun v7 => wGetR S M v7 8 10 fun v9 => wLd S M v9 14 u3 fun v11 => wS u2 v11 fun v13 => isK S u0 6 ∧ (wp_X6_rowsOf S M u0 u1 v13 <| fun v16 M15 => wIf (v16 ≤ 0) (wA u3 1 fun v18 => wp_X6_firstThatLeaves_2 S post n u0 u1 u2 v18 M15) (post u3 M15)))
def wp_X6_firstThatLeaves (S : Sh) (M : Mm) (u0 : Int) (u1 : Int) (u2 : Int) (post : Int → Mm → Prop) : Prop := wC 0 fun v20 => ∃ n9 : Nat, wp_X6_firstThatLeaves_2 S post n9 u0 u1 u2 v20 M
set_option maxHeartbeats 4000000 in
set_option maxRecDepth 100000 in
theorem t_X6_firstThatLeaves_2 {p : Program} {l : Launch} {e : Env} {s : State} {m : MethodId} {args : Array Value} {below : List Frame} {meth : Method} {c : Code} {D : va_G} {G : Gt} {S : Sh} {post : Int → Mm → Prop} (C : Cx p s m args meth c D G cX6_firstThatLeaves 4 (some .int) (cw_X6_firstThatLeaves :: gw) RX6) : ∀ (n : Nat) (xl0 : Int) (zl1 : Int32) (zl2 : Int32) (zl3 : Int32) (M : Mm) (H : Heap) (locs : List Loc) (ls : Array Slot), Wd D G S M H → va_S (aG G) s.heap H locs → lv_has ls 4 [(0, .ref (adr G xl0)), (1, .int zl1), (2, .int zl2), (3, .int zl3)] → wp_X6_firstThatLeaves_2 S post n xl0 zl1.toInt zl2.toInt zl3.toInt  M → W p l e RM_X6_firstThatLeaves s m args below meth c H locs 0 0 (MQ below (QI D G S post) args s 0 0 (aG G)) (F0 m 2 ls []) := by
  obtain ⟨hx, hb, hr, hlocks, hml, hown, hts, hK⟩ := id C
  intro n
  induction n with
  | zero => intro xl0 zl1 zl2 zl3 M H locs ls hP hS hl h; exact h.elim
  | succ n ih =>
    intro xl0 zl1 zl2 zl3 M H locs ls hP hS hl h
    unfold wp_X6_firstThatLeaves_2 at h
    refine lv_iload_n hx hb dX6_firstThatLeaves_2 rfl (lv_at hl 3 rfl) ?_
    refine lv_aload_n hx hb dX6_firstThatLeaves_3 rfl (lv_at hl 0 rfl) ?_
    refine r_getr (C := RX6) (T := TX6) (N := 3) hx hb hts (fun w h => List.mem_cons_of_mem _ (iX6 w h)) hown hK hP rfl (by decide) rfl 0 (by decide) (hts _ (List.mem_cons_of_mem _ kw_455)) (fun _ h9 => h9) dX6_firstThatLeaves_4 (by decide) h (fun x2 h => ?_)
    refine r_getiN (C := RX8) (T := TX8) (N := 19) hx hb hts (fun w h => List.mem_cons_of_mem _ (iX8 w h)) hown hK hP rfl (by decide) rfl 4 (by decide) (nw_16 hK) (fun _ h9 => h9) dX6_firstThatLeaves_7 (by decide) h (fun z4 h => ?_)
    refine r_icmp_ge (tgt := 40) hx hb dX6_firstThatLeaves_10 (by decide) h (fun h => ?_) (fun h => ?_)
    · refine r_iconst hx hb dX6_firstThatLeaves_40 (by decide) h (fun z6 h => ?_)
      exact r_iret hx hb hr hlocks hP hS dX6_firstThatLeaves_41 h
    · refine lv_aload_n hx hb dX6_firstThatLeaves_13 rfl (lv_at hl 0 rfl) ?_
      refine lv_iload_n hx hb dX6_firstThatLeaves_14 rfl (lv_at hl 1 rfl) ?_
      refine lv_iload_n hx hb dX6_firstThatLeaves_15 rfl (lv_at hl 2 rfl) ?_
      refine lv_aload_n hx hb dX6_firstThatLeaves_16 rfl (lv_at hl 0 rfl) ?_
      refine r_getr (C := RX6) (T := TX6) (N := 3) hx hb hts (fun w h => List.mem_cons_of_mem _ (iX6 w h)) hown hK hP rfl (by decide) rfl 0 (by decide) (hts _ (List.mem_cons_of_mem _ kw_455)) (fun _ h9 => h9) dX6_firstThatLeaves_17 (by decide) h (fun x8 h => ?_)
      refine r_getrN (C := RX8) (T := TX8) (N := 19) hx hb hts (fun w h => List.mem_cons_of_mem _ (iX8 w h)) hown hK hP rfl (by decide) rfl 10 (by decide) (nw_27 hK) (fun _ h9 => h9) dX6_firstThatLeaves_20 (by decide) h (fun x10 h => ?_)
      refine lv_iload_n hx hb dX6_firstThatLeaves_23 rfl (lv_at hl 3 rfl) ?_
      refine r_iald hx hb hK hP dX6_firstThatLeaves_24 h (fun z12 h => ?_)
      refine r_isub hx hb dX6_firstThatLeaves_25 h (fun z14 h => ?_)
      refine q_Vi hx hb hml hown hts hK hP hS (c_X6_rowsOf l D G S _ xl0 zl1 z14 _ h.2) ⟨callB_of 2 hts (gw_good kw_1243) rfl rfl rfl (hts _ (List.mem_cons_of_mem _ kw_12)) (hts _ (List.mem_cons_of_mem _ kw_1240)) hd_X6_rowsOf ⟨Nat.le_of_ble_eq_true rfl, Nat.le_of_ble_eq_true rfl⟩, (hts _ (List.mem_cons_of_mem _ kw_1241)), (hts _ (List.mem_cons_of_mem _ kw_1242))⟩ h.1 (ci := 6) rfl (by decide) rfl hl.1 rfl (lv_room (Nat.le_of_ble_eq_true rfl)) dX6_firstThatLeaves_26 ⟨Nat.zero_le _, Nat.zero_le _⟩ (fun z17 M15 H locs h hP hS => ?_)
      refine r_if_le (tgt := 34) hx hb dX6_firstThatLeaves_29 (by decide) h (fun h => ?_) (fun h => ?_)
      · refine r_iinc hx hb (fun z19 => [(3, .int z19), (0, .ref (adr G xl0)), (1, .int zl1), (2, .int zl2)]) dX6_firstThatLeaves_34 (by decide) hl (k := 3) rfl (by decide) (fun _ => rfl) h (fun z19 ls hl h => ?_)
        refine lv_goto (tgt := 2) hx hb dX6_firstThatLeaves_37 (by decide) ?_
        exact ih xl0 zl1 zl2 z19 _ _ _ _ hP hS (lv_sub hl [1, 2, 3, 0] rfl) h
      · refine lv_iload_n hx hb dX6_firstThatLeaves_32 rfl (lv_at hl 3 rfl) ?_
        exact r_iret hx hb hr hlocks hP hS dX6_firstThatLeaves_33 h
set_option maxHeartbeats 4000000 in
set_option maxRecDepth 100000 in
theorem c_X6_firstThatLeaves (l : Launch) (D : va_G) (G : Gt) (S : Sh) (M : Mm) (xl0 : Int) (zl1 : Int32) (zl2 : Int32) (post : Int → Mm → Prop) (h : wp_X6_firstThatLeaves S M xl0 zl1.toInt zl2.toInt post) : Met l yX6_firstThatLeaves (cw_X6_firstThatLeaves :: gw) RM_X6_firstThatLeaves (va_Pc [.ref (adr G xl0), .int zl1, .int zl2] (fun U => KN D G U ∧ Wd D G S M U.heap)) (QI D G S post) 0 0 (aG G) := by
  refine Met.ofW (cc := cX6_firstThatLeaves) (maxL := 4) (ret := (some .int)) (by decide) rfl ?_
  intro p e s m args below meth c s₁ B hml hv
  obtain ⟨rfl, hK, hP⟩ := hv
  have hx := B.exec
  have hb := B.bytes
  have hr := B.returns
  have hts := atoms_spec (ws := cw_X6_firstThatLeaves :: gw) B.pre
  have hown : s.vm.findClass RX6 = some m.cls := findClass_of_methodNamed B.named
  have hlocks := B.notSynchronized
  have hS : va_S (aG G) s.heap s.heap [] := va_S.rf
  have C : Cx p s m ([.ref (adr G xl0), .int zl1, .int zl2] : List Value).toArray meth c D G cX6_firstThatLeaves 4 (some .int) (cw_X6_firstThatLeaves :: gw) RX6 := ⟨hx, hb, hr, hlocks, hml, hown, hts, hK⟩
  have hl := lv_entry ([.ref (adr G xl0), .int zl1, .int zl2]) (n := 4) (Nat.le_of_ble_eq_true rfl)
  rw [lg_entry_eq]
  generalize (lg_sl ([.ref (adr G xl0), .int zl1, .int zl2]) ++ List.replicate (4 - (lg_sl ([.ref (adr G xl0), .int zl1, .int zl2])).length) Slot.unset).toArray = ls at hl ⊢
  have hl : lv_has ls 4 [(0, .ref (adr G xl0)), (1, .int zl1), (2, .int zl2)] := hl
  unfold wp_X6_firstThatLeaves at h
  refine r_iconst hx hb dX6_firstThatLeaves_0 (by decide) h (fun z21 h => ?_)
  refine lv_istore_n (lv' := [(3, .int z21), (0, .ref (adr G xl0)), (1, .int zl1), (2, .int zl2)]) hx hb dX6_firstThatLeaves_1 rfl hl (by decide) rfl (fun ls hl => ?_)
  obtain ⟨n9, h⟩ := h
  exact t_X6_firstThatLeaves_2 C n9 xl0 zl1 zl2 z21 _ _ _ _ hP hS (lv_sub hl [1, 2, 3, 0] rfl) h
/-! TurningMilk$Tables.handInFirstRow(III)I -/
abbrev RM_X6_handInFirstRow : Room := { frames := 3, cells := 0, slots := 0, locals := 85 }
def cw_X6_handInFirstRow : Cond := Cond.code yX6_handInFirstRow cX6_handInFirstRow 7 (Option.some FieldType.int)
theorem hd_X6_handInFirstRow : yX6_handInFirstRow.cls ≠ "java/lang/invoke/MethodHandle" ∧ yX6_handInFirstRow.cls ≠ "java/lang/invoke/VarHandle" ∧ (parseMethodDescriptor yX6_handInFirstRow.desc).map (fun d => d.parameters.length) = some 3 := by decide +kernel
theorem dX6_handInFirstRow_0 : decode cX6_handInFirstRow 0 = .ok (.iload_n 2, 1) := by decide +kernel
theorem dX6_handInFirstRow_1 : decode cX6_handInFirstRow 1 = .ok (.istore 4, 2) := by decide +kernel
theorem dX6_handInFirstRow_3 : decode cX6_handInFirstRow 3 = .ok (.iconst 0, 1) := by decide +kernel
theorem dX6_handInFirstRow_4 : decode cX6_handInFirstRow 4 = .ok (.istore 5, 2) := by decide +kernel
theorem dX6_handInFirstRow_6 : decode cX6_handInFirstRow 6 = .ok (.iload 5, 2) := by decide +kernel
theorem dX6_handInFirstRow_8 : decode cX6_handInFirstRow 8 = .ok (.iload_n 3, 1) := by decide +kernel
theorem dX6_handInFirstRow_9 : decode cX6_handInFirstRow 9 = .ok (.if_icmp .gt 47, 3) := by decide +kernel
theorem dX6_handInFirstRow_12 : decode cX6_handInFirstRow 12 = .ok (.aload_n 0, 1) := by decide +kernel
theorem dX6_handInFirstRow_13 : decode cX6_handInFirstRow 13 = .ok (.iload_n 1, 1) := by decide +kernel
theorem dX6_handInFirstRow_14 : decode cX6_handInFirstRow 14 = .ok (.iload 5, 2) := by decide +kernel
theorem dX6_handInFirstRow_16 : decode cX6_handInFirstRow 16 = .ok (.isub, 1) := by decide +kernel
theorem dX6_handInFirstRow_17 : decode cX6_handInFirstRow 17 = .ok (.iconst 1, 1) := by decide +kernel
theorem dX6_handInFirstRow_18 : decode cX6_handInFirstRow 18 = .ok (.isub, 1) := by decide +kernel
theorem dX6_handInFirstRow_19 : decode cX6_handInFirstRow 19 = .ok (.iload 4, 2) := by decide +kernel
theorem dX6_handInFirstRow_21 : decode cX6_handInFirstRow 21 = .ok (.invokevirtual 84, 3) := by decide +kernel
theorem dX6_handInFirstRow_24 : decode cX6_handInFirstRow 24 = .ok (.istore 6, 2) := by decide +kernel
theorem dX6_handInFirstRow_26 : decode cX6_handInFirstRow 26 = .ok (.iload 5, 2) := by decide +kernel
theorem dX6_handInFirstRow_28 : decode cX6_handInFirstRow 28 = .ok (.iload_n 3, 1) := by decide +kernel
theorem dX6_handInFirstRow_29 : decode cX6_handInFirstRow 29 = .ok (.if_icmp .ne 6, 3) := by decide +kernel
theorem dX6_handInFirstRow_32 : decode cX6_handInFirstRow 32 = .ok (.iload 6, 2) := by decide +kernel
theorem dX6_handInFirstRow_34 : decode cX6_handInFirstRow 34 = .ok (.ireturn, 1) := by decide +kernel
theorem dX6_handInFirstRow_35 : decode cX6_handInFirstRow 35 = .ok (.iload 4, 2) := by decide +kernel
theorem dX6_handInFirstRow_37 : decode cX6_handInFirstRow 37 = .ok (.aload_n 0, 1) := by decide +kernel
theorem dX6_handInFirstRow_38 : decode cX6_handInFirstRow 38 = .ok (.getfield 18, 3) := by decide +kernel
theorem dX6_handInFirstRow_41 : decode cX6_handInFirstRow 41 = .ok (.getfield 76, 3) := by decide +kernel
theorem dX6_handInFirstRow_44 : decode cX6_handInFirstRow 44 = .ok (.iload 6, 2) := by decide +kernel
theorem dX6_handInFirstRow_46 : decode cX6_handInFirstRow 46 = .ok (.iaload, 1) := by decide +kernel
theorem dX6_handInFirstRow_47 : decode cX6_handInFirstRow 47 = .ok (.isub, 1) := by decide +kernel
theorem dX6_handInFirstRow_48 : decode cX6_handInFirstRow 48 = .ok (.istore 4, 2) := by decide +kernel
theorem dX6_handInFirstRow_50 : decode cX6_handInFirstRow 50 = .ok (.iinc 5 1, 3) := by decide +kernel
theorem dX6_handInFirstRow_53 : decode cX6_handInFirstRow 53 = .ok (.goto (-47), 3) := by decide +kernel
theorem dX6_handInFirstRow_56 : decode cX6_handInFirstRow 56 = .ok (.iconst 0, 1) := by decide +kernel
theorem dX6_handInFirstRow_57 : decode cX6_handInFirstRow 57 = .ok (.ireturn, 1) := by decide +kernel
def wp_X6_handInFirstRow_6 (S : Sh) (post : Int → Mm → Prop) : Nat → Int → Int → Int → Int → Int → Mm → Prop
  | 0, _, _, _, _, _, _ => False
  | n + 1, u0, u1, u3, u4, u5, M => wIf (u3 < u5) (wC 0 fun v1 => post v1 M) (wS u1 u5 fun v3 => wC 1 fun v5 => wS v3 v5 fun v7 => isK S u0 6 ∧ (wp_X6_firstThatLeaves S M u0 v7 u4 <| fun v10 M9 => wIf (¬ u5 = u3) (wGetR S M9 u0 6 0 fun v12 => wGetR S M9 v12 8 10 fun v14 => wLd S M9 v14 14 v10 fun v16 => wS u4 v16 fun v18 => wA u5 1 fun v20 => wp_X6_handInFirstRow_6 S post n u0 u1 u3 v18 v20 M9) (post v10 M9)))
def wp_X6_handInFirstRow (S : Sh) (M : Mm) (u0 : Int) (u1 : Int) (u2 : Int) (u3 : Int) (post : Int → Mm → Prop) : Prop := wC 0 fun v22 => ∃ n9 : Nat, wp_X6_handInFirstRow_6 S post n9 u0 u1 u3 u2 v22 M
set_option maxHeartbeats 4000000 in
set_option maxRecDepth 100000 in
theorem t_X6_handInFirstRow_6 {p : Program} {l : Launch} {e : Env} {s : State} {m : MethodId} {args : Array Value} {below : List Frame} {meth : Method} {c : Code} {D : va_G} {G : Gt} {S : Sh} {post : Int → Mm → Prop} (C : Cx p s m args meth c D G cX6_handInFirstRow 7 (some .int) (cw_X6_handInFirstRow :: gw) RX6) : ∀ (n : Nat) (xl0 : Int) (zl1 : Int32) (zl3 : Int32) (zl4 : Int32) (zl5 : Int32) (M : Mm) (H : Heap) (locs : List Loc) (ls : Array Slot), Wd D G S M H → va_S (aG G) s.heap H locs → lv_has ls 7 [(0, .ref (adr G xl0)), (1, .int zl1), (3, .int zl3), (4, .int zl4), (5, .int zl5)] → wp_X6_handInFirstRow_6 S post n xl0 zl1.toInt zl3.toInt zl4.toInt zl5.toInt  M → W p l e RM_X6_handInFirstRow s m args below meth c H locs 0 0 (MQ below (QI D G S post) args s 0 0 (aG G)) (F0 m 6 ls []) := by
  obtain ⟨hx, hb, hr, hlocks, hml, hown, hts, hK⟩ := id C
  intro n
  induction n with
  | zero => intro xl0 zl1 zl3 zl4 zl5 M H locs ls hP hS hl h; exact h.elim
  | succ n ih =>
    intro xl0 zl1 zl3 zl4 zl5 M H locs ls hP hS hl h
    unfold wp_X6_handInFirstRow_6 at h
    refine lv_iload hx hb dX6_handInFirstRow_6 (lv_at hl 4 rfl) ?_
    refine lv_iload_n hx hb dX6_handInFirstRow_8 rfl (lv_at hl 2 rfl) ?_
    refine r_icmp_gt (tgt := 56) hx hb dX6_handInFirstRow_9 (by decide) h (fun h => ?_) (fun h => ?_)
    · refine r_iconst hx hb dX6_handInFirstRow_56 (by decide) h (fun z2 h => ?_)
      exact r_iret hx hb hr hlocks hP hS dX6_handInFirstRow_57 h
    · refine lv_aload_n hx hb dX6_handInFirstRow_12 rfl (lv_at hl 0 rfl) ?_
      refine lv_iload_n hx hb dX6_handInFirstRow_13 rfl (lv_at hl 1 rfl) ?_
      refine lv_iload hx hb dX6_handInFirstRow_14 (lv_at hl 4 rfl) ?_
      refine r_isub hx hb dX6_handInFirstRow_16 h (fun z4 h => ?_)
      refine r_iconst hx hb dX6_handInFirstRow_17 (by decide) h (fun z6 h => ?_)
      refine r_isub hx hb dX6_handInFirstRow_18 h (fun z8 h => ?_)
      refine lv_iload hx hb dX6_handInFirstRow_19 (lv_at hl 3 rfl) ?_
      refine q_Vi hx hb hml hown hts hK hP hS (c_X6_firstThatLeaves l D G S _ xl0 z8 zl4 _ h.2) ⟨callB_of 2 hts (gw_good kw_1253) rfl rfl rfl (hts _ (List.mem_cons_of_mem _ kw_12)) (hts _ (List.mem_cons_of_mem _ kw_1250)) hd_X6_firstThatLeaves ⟨Nat.le_of_ble_eq_true rfl, Nat.le_of_ble_eq_true rfl⟩, (hts _ (List.mem_cons_of_mem _ kw_1252)), (hts _ (List.mem_cons_of_mem _ kp_47))⟩ h.1 (ci := 6) rfl (by decide) rfl hl.1 rfl (lv_room (Nat.le_of_ble_eq_true rfl)) dX6_handInFirstRow_21 ⟨Nat.zero_le _, Nat.zero_le _⟩ (fun z11 M9 H locs h hP hS => ?_)
      refine lv_istore (lv' := [(6, .int z11), (0, .ref (adr G xl0)), (1, .int zl1), (3, .int zl3), (4, .int zl4), (5, .int zl5)]) hx hb dX6_handInFirstRow_24 hl (by decide) rfl (fun ls hl => ?_)
      refine lv_iload hx hb dX6_handInFirstRow_26 (lv_at hl 5 rfl) ?_
      refine lv_iload_n hx hb dX6_handInFirstRow_28 rfl (lv_at hl 3 rfl) ?_
      refine r_icmp_ne (tgt := 35) hx hb dX6_handInFirstRow_29 (by decide) h (fun h => ?_) (fun h => ?_)
      · refine lv_iload hx hb dX6_handInFirstRow_35 (lv_at hl 4 rfl) ?_
        refine lv_aload_n hx hb dX6_handInFirstRow_37 rfl (lv_at hl 1 rfl) ?_
        refine r_getr (C := RX6) (T := TX6) (N := 3) hx hb hts (fun w h => List.mem_cons_of_mem _ (iX6 w h)) hown hK hP rfl (by decide) rfl 0 (by decide) (hts _ (List.mem_cons_of_mem _ kw_455)) (fun _ h9 => h9) dX6_handInFirstRow_38 (by decide) h (fun x13 h => ?_)
        refine r_getrN (C := RX8) (T := TX8) (N := 19) hx hb hts (fun w h => List.mem_cons_of_mem _ (iX8 w h)) hown hK hP rfl (by decide) rfl 10 (by decide) (nw_27 hK) (fun _ h9 => h9) dX6_handInFirstRow_41 (by decide) h (fun x15 h => ?_)
        refine lv_iload hx hb dX6_handInFirstRow_44 (lv_at hl 0 rfl) ?_
        refine r_iald hx hb hK hP dX6_handInFirstRow_46 h (fun z17 h => ?_)
        refine r_isub hx hb dX6_handInFirstRow_47 h (fun z19 h => ?_)
        refine lv_istore (lv' := [(4, .int z19), (6, .int z11), (0, .ref (adr G xl0)), (1, .int zl1), (3, .int zl3), (5, .int zl5)]) hx hb dX6_handInFirstRow_48 hl (by decide) rfl (fun ls hl => ?_)
        refine r_iinc hx hb (fun z21 => [(5, .int z21), (4, .int z19), (6, .int z11), (0, .ref (adr G xl0)), (1, .int zl1), (3, .int zl3)]) dX6_handInFirstRow_50 (by decide) hl (k := 5) rfl (by decide) (fun _ => rfl) h (fun z21 ls hl h => ?_)
        refine lv_goto (tgt := 6) hx hb dX6_handInFirstRow_53 (by decide) ?_
        exact ih xl0 zl1 zl3 z19 z21 _ _ _ _ hP hS (lv_sub hl [3, 4, 5, 1, 0] rfl) h
      · refine lv_iload hx hb dX6_handInFirstRow_32 (lv_at hl 0 rfl) ?_
        exact r_iret hx hb hr hlocks hP hS dX6_handInFirstRow_34 h
set_option maxHeartbeats 4000000 in
set_option maxRecDepth 100000 in
theorem c_X6_handInFirstRow (l : Launch) (D : va_G) (G : Gt) (S : Sh) (M : Mm) (xl0 : Int) (zl1 : Int32) (zl2 : Int32) (zl3 : Int32) (post : Int → Mm → Prop) (h : wp_X6_handInFirstRow S M xl0 zl1.toInt zl2.toInt zl3.toInt post) : Met l yX6_handInFirstRow (cw_X6_handInFirstRow :: gw) RM_X6_handInFirstRow (va_Pc [.ref (adr G xl0), .int zl1, .int zl2, .int zl3] (fun U => KN D G U ∧ Wd D G S M U.heap)) (QI D G S post) 0 0 (aG G) := by
  refine Met.ofW (cc := cX6_handInFirstRow) (maxL := 7) (ret := (some .int)) (by decide) rfl ?_
  intro p e s m args below meth c s₁ B hml hv
  obtain ⟨rfl, hK, hP⟩ := hv
  have hx := B.exec
  have hb := B.bytes
  have hr := B.returns
  have hts := atoms_spec (ws := cw_X6_handInFirstRow :: gw) B.pre
  have hown : s.vm.findClass RX6 = some m.cls := findClass_of_methodNamed B.named
  have hlocks := B.notSynchronized
  have hS : va_S (aG G) s.heap s.heap [] := va_S.rf
  have C : Cx p s m ([.ref (adr G xl0), .int zl1, .int zl2, .int zl3] : List Value).toArray meth c D G cX6_handInFirstRow 7 (some .int) (cw_X6_handInFirstRow :: gw) RX6 := ⟨hx, hb, hr, hlocks, hml, hown, hts, hK⟩
  have hl := lv_entry ([.ref (adr G xl0), .int zl1, .int zl2, .int zl3]) (n := 7) (Nat.le_of_ble_eq_true rfl)
  rw [lg_entry_eq]
  generalize (lg_sl ([.ref (adr G xl0), .int zl1, .int zl2, .int zl3]) ++ List.replicate (7 - (lg_sl ([.ref (adr G xl0), .int zl1, .int zl2, .int zl3])).length) Slot.unset).toArray = ls at hl ⊢
  have hl : lv_has ls 7 [(0, .ref (adr G xl0)), (1, .int zl1), (2, .int zl2), (3, .int zl3)] := hl
  unfold wp_X6_handInFirstRow at h
  refine lv_iload_n hx hb dX6_handInFirstRow_0 rfl (lv_at hl 2 rfl) ?_
  refine lv_istore (lv' := [(4, .int zl2), (0, .ref (adr G xl0)), (1, .int zl1), (2, .int zl2), (3, .int zl3)]) hx hb dX6_handInFirstRow_1 hl (by decide) rfl (fun ls hl => ?_)
  refine r_iconst hx hb dX6_handInFirstRow_3 (by decide) h (fun z23 h => ?_)
  refine lv_istore (lv' := [(5, .int z23), (4, .int zl2), (0, .ref (adr G xl0)), (1, .int zl1), (2, .int zl2), (3, .int zl3)]) hx hb dX6_handInFirstRow_4 hl (by decide) rfl (fun ls hl => ?_)
  obtain ⟨n9, h⟩ := h
  exact t_X6_handInFirstRow_6 C n9 xl0 zl1 zl3 zl2 z23 _ _ _ _ hP hS (lv_sub hl [2, 3, 5, 1, 0] rfl) h
