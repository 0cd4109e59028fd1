theorem dX11_jug_129 : decode cX11_jug 129 = .ok (.ifCond .eq 7, 3) := by decide +kernel
theorem dX11_jug_132 : decode cX11_jug 132 = .ok (.iconst 1, 1) := by decide +kernel
theorem dX11_jug_133 : decode cX11_jug 133 = .ok (.goto 4, 3) := by decide +kernel
theorem dX11_jug_136 : decode cX11_jug 136 = .ok (.iconst 0, 1) := by decide +kernel
theorem dX11_jug_137 : decode cX11_jug 137 = .ok (.ireturn, 1) := by decide +kernel
theorem dX11_jug_138 : decode cX11_jug 138 = .ok (.bipush (-2), 2) := by decide +kernel
theorem dX11_jug_140 : decode cX11_jug 140 = .ok (.ireturn, 1) := by decide +kernel
def wp_X11_jug (S : Sh) (M : Mm) (u0 : Int) (u1 : Int) (u2 : Int) (post : Int → Mm → Prop) : Prop := isK S u0 11 ∧ (wp_X11_isJug S M u0 u1 <| fun v2 M1 => wIf (¬ v2 = 0) (wIf (u2 = 0) (wGetR S M1 u0 11 1 fun v4 => wGetR S M1 v4 4 1 fun v6 => wGetR S M1 v6 5 5 fun v8 => wLd S M1 v8 14 u1 fun v10 => post v10 M1) (wIf (u2 = 1) (wGetR S M1 u0 11 1 fun v12 => wGetR S M1 v12 4 1 fun v14 => wGetR S M1 v14 5 6 fun v16 => wLd S M1 v16 14 u1 fun v18 => post v18 M1) (wIf (u2 = 2) (wGetR S M1 u0 11 1 fun v20 => wGetR S M1 v20 4 1 fun v22 => wGetR S M1 v22 5 7 fun v24 => wLd S M1 v24 14 u1 fun v26 => post v26 M1) (wIf (u2 = 3) (wGetR S M1 u0 11 1 fun v28 => wGetR S M1 v28 4 1 fun v30 => wGetR S M1 v30 5 7 fun v32 => wLd S M1 v32 14 u1 fun v34 => wGetR S M1 u0 11 1 fun v36 => wGetR S M1 v36 4 0 fun v38 => wGet S M1 v38 8 2 fun v40 => wIf (v34 < v40) (wC 0 fun v42 => post v42 M1) (wC 1 fun v44 => post v44 M1)) (wIf (u2 = 4) (wGetR S M1 u0 11 1 fun v46 => wGetR S M1 v46 4 1 fun v48 => isK S v48 5 ∧ (wp_X5_isGone S M1 v48 u1 <| fun v51 M50 => wIf (v51 = 0) (wC 0 fun v53 => post v53 M50) (wC 1 fun v55 => post v55 M50))) (wC (-2) fun v57 => post v57 M1)))))) (wC (-2) fun v59 => post v59 M1))
set_option maxHeartbeats 4000000 in
set_option maxRecDepth 100000 in
theorem c_X11_jug (l : Launch) (D : va_G) (G : Gt) (S : Sh) (M : Mm) (xl0 : Int) (zl1 : Int32) (zl2 : Int32) (post : Int → Mm → Prop) (h : wp_X11_jug S M xl0 zl1.toInt zl2.toInt post) : Met l yX11_jug (cw_X11_jug :: gw) RM_X11_jug (va_Pc [.ref (adr G xl0), .int zl1, .int zl2] (fun U => KN D G U ∧ Wd D G S M U.heap)) (QI D G S post) 0 0 (aG G) := by
  refine Met.ofW (cc := cX11_jug) (maxL := 3) (ret := (some .int)) (by decide) rfl ?_
  intro p e s m args below meth c s₁ B hml hv
  obtain ⟨rfl, hK, hP⟩ := hv
  have hx := B.exec
  have hb := B.bytes
  have hr := B.returns
  have hts := atoms_spec (ws := cw_X11_jug :: gw) B.pre
  have hown : s.vm.findClass RX11 = some m.cls := findClass_of_methodNamed B.named
  have hlocks := B.notSynchronized
  have hS : va_S (aG G) s.heap s.heap [] := va_S.rf
  have C : Cx p s m ([.ref (adr G xl0), .int zl1, .int zl2] : List Value).toArray meth c D G cX11_jug 3 (some .int) (cw_X11_jug :: gw) RX11 := ⟨hx, hb, hr, hlocks, hml, hown, hts, hK⟩
  have hl := lv_entry ([.ref (adr G xl0), .int zl1, .int zl2]) (n := 3) (Nat.le_of_ble_eq_true rfl)
  rw [lg_entry_eq]
  generalize (lg_sl ([.ref (adr G xl0), .int zl1, .int zl2]) ++ List.replicate (3 - (lg_sl ([.ref (adr G xl0), .int zl1, .int zl2])).length) Slot.unset).toArray = ls at hl ⊢
  have hl : lv_has ls 3 [(0, .ref (adr G xl0)), (1, .int zl1), (2, .int zl2)] := hl
  unfold wp_X11_jug at h
  refine lv_aload_n hx hb dX11_jug_0 rfl (lv_at hl 0 rfl) ?_
  refine lv_iload_n hx hb dX11_jug_1 rfl (lv_at hl 1 rfl) ?_
  refine q_Vi hx hb hml hown hts hK hP hS (c_X11_isJug l D G S _ xl0 zl1 _ h.2) ⟨callB_of 1 hts (gw_good kw_893) rfl rfl rfl (hts _ (List.mem_cons_of_mem _ kw_1)) (hts _ (List.mem_cons_of_mem _ kw_890)) hd_X11_isJug ⟨Nat.le_of_ble_eq_true rfl, Nat.le_of_ble_eq_true rfl⟩, (hts _ (List.mem_cons_of_mem _ kw_892)), (hts _ (List.mem_cons_of_mem _ kp_30))⟩ h.1 (ci := 11) rfl (by decide) rfl hl.1 rfl (lv_room (Nat.le_of_ble_eq_true rfl)) dX11_jug_2 ⟨Nat.zero_le _, Nat.zero_le _⟩ (fun z3 M1 H locs h hP hS => ?_)
  refine r_if_ne (tgt := 11) hx hb dX11_jug_5 (by decide) h (fun h => ?_) (fun h => ?_)
  · refine lv_iload_n hx hb dX11_jug_11 rfl (lv_at hl 2 rfl) ?_
    refine sw (c := zl2.toInt = 0) h (fun e0 h => ?_) (fun e0 h => ?_)
    · refine lv_tableIn (tgt := 48) hx hb dX11_jug_12 (by omega) (by omega) (by rw [e0]; rfl) (by decide) ?_
      refine lv_aload_n hx hb dX11_jug_48 rfl (lv_at hl 0 rfl) ?_
      refine r_getr (C := RX11) (T := TX11) (N := 16) hx hb hts (fun w h => List.mem_cons_of_mem _ (iX11 w h)) hown hK hP rfl (by decide) rfl 1 (by decide) (hts _ (List.mem_cons_of_mem _ kw_492)) (fun _ h9 => h9) dX11_jug_49 (by decide) h (fun x5 h => ?_)
      refine r_getrN (C := RX4) (T := TX4) (N := 10) hx hb hts (fun w h => List.mem_cons_of_mem _ (iX4 w h)) hown hK hP rfl (by decide) rfl 1 (by decide) (nw_73 hK) (fun _ h9 => h9) dX11_jug_52 (by decide) h (fun x7 h => ?_)
      refine r_getrN (C := RX5) (T := TX5) (N := 9) hx hb hts (fun w h => List.mem_cons_of_mem _ (iX5 w h)) hown hK hP rfl (by decide) rfl 5 (by decide) (nw_60 hK) (fun _ h9 => h9) dX11_jug_55 (by decide) h (fun x9 h => ?_)
      refine lv_iload_n hx hb dX11_jug_58 rfl (lv_at hl 1 rfl) ?_
      refine r_iald hx hb hK hP dX11_jug_59 h (fun z11 h => ?_)
      exact r_iret hx hb hr hlocks hP hS dX11_jug_60 h
    · refine sw (c := zl2.toInt = 1) h (fun e1 h => ?_) (fun e1 h => ?_)
      · refine lv_tableIn (tgt := 61) hx hb dX11_jug_12 (by omega) (by omega) (by rw [e1]; rfl) (by decide) ?_
        refine lv_aload_n hx hb dX11_jug_61 rfl (lv_at hl 0 rfl) ?_
        refine r_getr (C := RX11) (T := TX11) (N := 16) hx hb hts (fun w h => List.mem_cons_of_mem _ (iX11 w h)) hown hK hP rfl (by decide) rfl 1 (by decide) (hts _ (List.mem_cons_of_mem _ kw_492)) (fun _ h9 => h9) dX11_jug_62 (by decide) h (fun x13 h => ?_)
        refine r_getrN (C := RX4) (T := TX4) (N := 10) hx hb hts (fun w h => List.mem_cons_of_mem _ (iX4 w h)) hown hK hP rfl (by decide) rfl 1 (by decide) (nw_73 hK) (fun _ h9 => h9) dX11_jug_65 (by decide) h (fun x15 h => ?_)
        refine r_getrN (C := RX5) (T := TX5) (N := 9) hx hb hts (fun w h => List.mem_cons_of_mem _ (iX5 w h)) hown hK hP rfl (by decide) rfl 6 (by decide) (nw_62 hK) (fun _ h9 => h9) dX11_jug_68 (by decide) h (fun x17 h => ?_)
        refine lv_iload_n hx hb dX11_jug_71 rfl (lv_at hl 1 rfl) ?_
        refine r_iald hx hb hK hP dX11_jug_72 h (fun z19 h => ?_)
        exact r_iret hx hb hr hlocks hP hS dX11_jug_73 h
      · refine sw (c := zl2.toInt = 2) h (fun e2 h => ?_) (fun e2 h => ?_)
        · refine lv_tableIn (tgt := 74) hx hb dX11_jug_12 (by omega) (by omega) (by rw [e2]; rfl) (by decide) ?_
          refine lv_aload_n hx hb dX11_jug_74 rfl (lv_at hl 0 rfl) ?_
          refine r_getr (C := RX11) (T := TX11) (N := 16) hx hb hts (fun w h => List.mem_cons_of_mem _ (iX11 w h)) hown hK hP rfl (by decide) rfl 1 (by decide) (hts _ (List.mem_cons_of_mem _ kw_492)) (fun _ h9 => h9) dX11_jug_75 (by decide) h (fun x21 h => ?_)
          refine r_getrN (C := RX4) (T := TX4) (N := 10) hx hb hts (fun w h => List.mem_cons_of_mem _ (iX4 w h)) hown hK hP rfl (by decide) rfl 1 (by decide) (nw_73 hK) (fun _ h9 => h9) dX11_jug_78 (by decide) h (fun x23 h => ?_)
          refine r_getrN (C := RX5) (T := TX5) (N := 9) hx hb hts (fun w h => List.mem_cons_of_mem _ (iX5 w h)) hown hK hP rfl (by decide) rfl 7 (by decide) (nw_67 hK) (fun _ h9 => h9) dX11_jug_81 (by decide) h (fun x25 h => ?_)
          refine lv_iload_n hx hb dX11_jug_84 rfl (lv_at hl 1 rfl) ?_
          refine r_iald hx hb hK hP dX11_jug_85 h (fun z27 h => ?_)
          exact r_iret hx hb hr hlocks hP hS dX11_jug_86 h
        · refine sw (c := zl2.toInt = 3) h (fun e3 h => ?_) (fun e3 h => ?_)
          · refine lv_tableIn (tgt := 87) hx hb dX11_jug_12 (by omega) (by omega) (by rw [e3]; rfl) (by decide) ?_
            refine lv_aload_n hx hb dX11_jug_87 rfl (lv_at hl 0 rfl) ?_
            refine r_getr (C := RX11) (T := TX11) (N := 16) hx hb hts (fun w h => List.mem_cons_of_mem _ (iX11 w h)) hown hK hP rfl (by decide) rfl 1 (by decide) (hts _ (List.mem_cons_of_mem _ kw_492)) (fun _ h9 => h9) dX11_jug_88 (by decide) h (fun x29 h => ?_)
            refine r_getrN (C := RX4) (T := TX4) (N := 10) hx hb hts (fun w h => List.mem_cons_of_mem _ (iX4 w h)) hown hK hP rfl (by decide) rfl 1 (by decide) (nw_73 hK) (fun _ h9 => h9) dX11_jug_91 (by decide) h (fun x31 h => ?_)
            refine r_getrN (C := RX5) (T := TX5) (N := 9) hx hb hts (fun w h => List.mem_cons_of_mem _ (iX5 w h)) hown hK hP rfl (by decide) rfl 7 (by decide) (nw_67 hK) (fun _ h9 => h9) dX11_jug_94 (by decide) h (fun x33 h => ?_)
            refine lv_iload_n hx hb dX11_jug_97 rfl (lv_at hl 1 rfl) ?_
            refine r_iald hx hb hK hP dX11_jug_98 h (fun z35 h => ?_)
            refine lv_aload_n hx hb dX11_jug_99 rfl (lv_at hl 0 rfl) ?_
            refine r_getr (C := RX11) (T := TX11) (N := 16) hx hb hts (fun w h => List.mem_cons_of_mem _ (iX11 w h)) hown hK hP rfl (by decide) rfl 1 (by decide) (hts _ (List.mem_cons_of_mem _ kw_492)) (fun _ h9 => h9) dX11_jug_100 (by decide) h (fun x37 h => ?_)
            refine r_getrN (C := RX4) (T := TX4) (N := 10) hx hb hts (fun w h => List.mem_cons_of_mem _ (iX4 w h)) hown hK hP rfl (by decide) rfl 0 (by decide) (nw_70 hK) (fun _ h9 => h9) dX11_jug_103 (by decide) h (fun x39 h => ?_)
            refine r_getiN (C := RX8) (T := TX8) (N := 19) hx hb hts (fun w h => List.mem_cons_of_mem _ (iX8 w h)) hown hK hP rfl (by decide) rfl 2 (by decide) (nw_10 hK) (fun _ h9 => h9) dX11_jug_106 (by decide) h (fun z41 h => ?_)
            refine r_icmp_lt (tgt := 116) hx hb dX11_jug_109 (by decide) h (fun h => ?_) (fun h => ?_)
            · refine r_iconst hx hb dX11_jug_116 (by decide) h (fun z43 h => ?_)
              exact r_iret hx hb hr hlocks hP hS dX11_jug_117 h
            · refine r_iconst hx hb dX11_jug_112 (by decide) h (fun z45 h => ?_)
              refine lv_goto (tgt := 117) hx hb dX11_jug_113 (by decide) ?_
              exact r_iret hx hb hr hlocks hP hS dX11_jug_117 h
          · refine sw (c := zl2.toInt = 4) h (fun e4 h => ?_) (fun e4 h => ?_)
            · refine lv_tableIn (tgt := 118) hx hb dX11_jug_12 (by omega) (by omega) (by rw [e4]; rfl) (by decide) ?_
              refine lv_aload_n hx hb dX11_jug_118 rfl (lv_at hl 0 rfl) ?_
              refine r_getr (C := RX11) (T := TX11) (N := 16) hx hb hts (fun w h => List.mem_cons_of_mem _ (iX11 w h)) hown hK hP rfl (by decide) rfl 1 (by decide) (hts _ (List.mem_cons_of_mem _ kw_492)) (fun _ h9 => h9) dX11_jug_119 (by decide) h (fun x47 h => ?_)
              refine r_getrN (C := RX4) (T := TX4) (N := 10) hx hb hts (fun w h => List.mem_cons_of_mem _ (iX4 w h)) hown hK hP rfl (by decide) rfl 1 (by decide) (nw_73 hK) (fun _ h9 => h9) dX11_jug_122 (by decide) h (fun x49 h => ?_)
              refine lv_iload_n hx hb dX11_jug_125 rfl (lv_at hl 1 rfl) ?_
              refine q_Vi hx hb hml hown hts hK hP hS (c_X5_isGone l D G S _ x49 zl1 _ h.2) ⟨callB_of 1 hts (gw_good kw_897) rfl rfl rfl (hts _ (List.mem_cons_of_mem _ kw_5)) (hts _ (List.mem_cons_of_mem _ kw_894)) hd_X5_isGone ⟨Nat.le_of_ble_eq_true rfl, Nat.le_of_ble_eq_true rfl⟩, (hts _ (List.mem_cons_of_mem _ kw_895)), (hts _ (List.mem_cons_of_mem _ kw_896))⟩ h.1 (ci := 5) rfl (by decide) rfl hl.1 rfl (lv_room (Nat.le_of_ble_eq_true rfl)) dX11_jug_126 ⟨Nat.zero_le _, Nat.zero_le _⟩ (fun z52 M50 H locs h hP hS => ?_)
              refine r_if_eq (tgt := 136) hx hb dX11_jug_129 (by decide) h (fun h => ?_) (fun h => ?_)
              · refine r_iconst hx hb dX11_jug_136 (by decide) h (fun z54 h => ?_)
                exact r_iret hx hb hr hlocks hP hS dX11_jug_137 h
              · refine r_iconst hx hb dX11_jug_132 (by decide) h (fun z56 h => ?_)
                refine lv_goto (tgt := 137) hx hb dX11_jug_133 (by decide) ?_
                exact r_iret hx hb hr hlocks hP hS dX11_jug_137 h
            · refine lv_tableOut (tgt := 138) hx hb dX11_jug_12 (by omega) (by decide) ?_
              refine r_bipush hx hb dX11_jug_138 (by decide) h (fun z58 h => ?_)
              exact r_iret hx hb hr hlocks hP hS dX11_jug_140 h
  · refine r_bipush hx hb dX11_jug_8 (by decide) h (fun z60 h => ?_)
    exact r_iret hx hb hr hlocks hP hS dX11_jug_10 h
/-! TurningMilk.isWant(I)Z -/
abbrev RM_X11_isWant : Room := { frames := 1, cells := 0, slots := 0, locals := 40 }
def cw_X11_isWant : Cond := Cond.code yX11_isWant cX11_isWant 2 (Option.some FieldType.boolean)
theorem hd_X11_isWant : yX11_isWant.cls ≠ "java/lang/invoke/MethodHandle" ∧ yX11_isWant.cls ≠ "java/lang/invoke/VarHandle" ∧ (parseMethodDescriptor yX11_isWant.desc).map (fun d => d.parameters.length) = some 1 := by decide +kernel
theorem dX11_isWant_0 : decode cX11_isWant 0 = .ok (.iload_n 1, 1) := by decide +kernel
theorem dX11_isWant_1 : decode cX11_isWant 1 = .ok (.ifCond .lt 21, 3) := by decide +kernel
theorem dX11_isWant_4 : decode cX11_isWant 4 = .ok (.iload_n 1, 1) := by decide +kernel
theorem dX11_isWant_5 : decode cX11_isWant 5 = .ok (.aload_n 0, 1) := by decide +kernel
theorem dX11_isWant_6 : decode cX11_isWant 6 = .ok (.getfield 19, 3) := by decide +kernel
theorem dX11_isWant_9 : decode cX11_isWant 9 = .ok (.getfield 57, 3) := by decide +kernel
theorem dX11_isWant_12 : decode cX11_isWant 12 = .ok (.getfield 172, 3) := by decide +kernel
theorem dX11_isWant_15 : decode cX11_isWant 15 = .ok (.if_icmp .ge 7, 3) := by decide +kernel
