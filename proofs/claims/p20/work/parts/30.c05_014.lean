theorem dX11_hand_113 : decode cX11_hand 113 = .ok (.getfield 19, 3) := by decide +kernel
theorem dX11_hand_116 : decode cX11_hand 116 = .ok (.getfield 57, 3) := by decide +kernel
theorem dX11_hand_119 : decode cX11_hand 119 = .ok (.getfield 200, 3) := by decide +kernel
theorem dX11_hand_122 : decode cX11_hand 122 = .ok (.iload_n 1, 1) := by decide +kernel
theorem dX11_hand_123 : decode cX11_hand 123 = .ok (.iaload, 1) := by decide +kernel
theorem dX11_hand_124 : decode cX11_hand 124 = .ok (.ireturn, 1) := by decide +kernel
theorem dX11_hand_125 : decode cX11_hand 125 = .ok (.iconst (-1), 1) := by decide +kernel
theorem dX11_hand_126 : decode cX11_hand 126 = .ok (.ireturn, 1) := by decide +kernel
def wp_X11_hand (S : Sh) (M : Mm) (u0 : Int) (u1 : Int) (u2 : Int) (post : Int → Mm → Prop) : Prop := isK S u0 11 ∧ (wp_X11_isHand S M u0 u1 <| fun v2 M1 => wIf (¬ v2 = 0) (wIf (u2 = 0) (wGetR S M1 u0 11 1 fun v4 => wGetR S M1 v4 4 1 fun v6 => wGetR S M1 v6 5 2 fun v8 => wLd S M1 v8 14 u1 fun v10 => post v10 M1) (wIf (u2 = 1) (wGetR S M1 u0 11 1 fun v12 => wGetR S M1 v12 4 1 fun v14 => wGetR S M1 v14 5 3 fun v16 => wLd S M1 v16 14 u1 fun v18 => post v18 M1) (wIf (u2 = 2) (wGetR S M1 u0 11 1 fun v20 => wGetR S M1 v20 4 1 fun v22 => wGetR S M1 v22 5 4 fun v24 => wLd S M1 v24 14 u1 fun v26 => post v26 M1) (wIf (u2 = 3) (wGetR S M1 u0 11 1 fun v28 => wGetR S M1 v28 4 1 fun v30 => isK S v30 5 ∧ (wp_X5_heldBits S M1 v30 u1 <| fun v33 M32 => post v33 M32)) (wIf (u2 = 4) (wGetR S M1 u0 11 1 fun v35 => wGetR S M1 v35 4 0 fun v37 => wGetR S M1 v37 8 10 fun v39 => wLd S M1 v39 14 u1 fun v41 => post v41 M1) (wIf (u2 = 5) (wGetR S M1 u0 11 1 fun v43 => wGetR S M1 v43 4 0 fun v45 => wGetR S M1 v45 8 11 fun v47 => wLd S M1 v47 14 u1 fun v49 => post v49 M1) (wC (-1) fun v51 => post v51 M1))))))) (wC (-1) fun v53 => post v53 M1))
set_option maxHeartbeats 4000000 in
set_option maxRecDepth 100000 in
theorem c_X11_hand (l : Launch) (D : va_G) (G : Gt) (S : Sh) (M : Mm) (xl0 : Int) (zl1 : Int32) (zl2 : Int32) (post : Int → Mm → Prop) (h : wp_X11_hand S M xl0 zl1.toInt zl2.toInt post) : Met l yX11_hand (cw_X11_hand :: gw) RM_X11_hand (va_Pc [.ref (adr G xl0), .int zl1, .int zl2] (fun U => KN D G U ∧ Wd D G S M U.heap)) (QI D G S post) 0 0 (aG G) := by
  refine Met.ofW (cc := cX11_hand) (maxL := 3) (ret := (some .int)) (by decide) rfl ?_
  intro p e s m args below meth c s₁ B hml hv
  obtain ⟨rfl, hK, hP⟩ := hv
  have hx := B.exec
  have hb := B.bytes
  have hr := B.returns
  have hts := atoms_spec (ws := cw_X11_hand :: gw) B.pre
  have hown : s.vm.findClass RX11 = some m.cls := findClass_of_methodNamed B.named
  have hlocks := B.notSynchronized
  have hS : va_S (aG G) s.heap s.heap [] := va_S.rf
  have C : Cx p s m ([.ref (adr G xl0), .int zl1, .int zl2] : List Value).toArray meth c D G cX11_hand 3 (some .int) (cw_X11_hand :: gw) RX11 := ⟨hx, hb, hr, hlocks, hml, hown, hts, hK⟩
  have hl := lv_entry ([.ref (adr G xl0), .int zl1, .int zl2]) (n := 3) (Nat.le_of_ble_eq_true rfl)
  rw [lg_entry_eq]
  generalize (lg_sl ([.ref (adr G xl0), .int zl1, .int zl2]) ++ List.replicate (3 - (lg_sl ([.ref (adr G xl0), .int zl1, .int zl2])).length) Slot.unset).toArray = ls at hl ⊢
  have hl : lv_has ls 3 [(0, .ref (adr G xl0)), (1, .int zl1), (2, .int zl2)] := hl
  unfold wp_X11_hand at h
  refine lv_aload_n hx hb dX11_hand_0 rfl (lv_at hl 0 rfl) ?_
  refine lv_iload_n hx hb dX11_hand_1 rfl (lv_at hl 1 rfl) ?_
  refine q_Vi hx hb hml hown hts hK hP hS (c_X11_isHand l D G S _ xl0 zl1 _ h.2) ⟨callB_of 1 hts (gw_good kw_881) rfl rfl rfl (hts _ (List.mem_cons_of_mem _ kw_1)) (hts _ (List.mem_cons_of_mem _ kw_878)) hd_X11_isHand ⟨Nat.le_of_ble_eq_true rfl, Nat.le_of_ble_eq_true rfl⟩, (hts _ (List.mem_cons_of_mem _ kw_880)), (hts _ (List.mem_cons_of_mem _ kp_29))⟩ h.1 (ci := 11) rfl (by decide) rfl hl.1 rfl (lv_room (Nat.le_of_ble_eq_true rfl)) dX11_hand_2 ⟨Nat.zero_le _, Nat.zero_le _⟩ (fun z3 M1 H locs h hP hS => ?_)
  refine r_if_ne (tgt := 10) hx hb dX11_hand_5 (by decide) h (fun h => ?_) (fun h => ?_)
  · refine lv_iload_n hx hb dX11_hand_10 rfl (lv_at hl 2 rfl) ?_
    refine sw (c := zl2.toInt = 0) h (fun e0 h => ?_) (fun e0 h => ?_)
    · refine lv_tableIn (tgt := 48) hx hb dX11_hand_11 (by omega) (by omega) (by rw [e0]; rfl) (by decide) ?_
      refine lv_aload_n hx hb dX11_hand_48 rfl (lv_at hl 0 rfl) ?_
      refine r_getr (C := RX11) (T := TX11) (N := 16) hx hb hts (fun w h => List.mem_cons_of_mem _ (iX11 w h)) hown hK hP rfl (by decide) rfl 1 (by decide) (hts _ (List.mem_cons_of_mem _ kw_492)) (fun _ h9 => h9) dX11_hand_49 (by decide) h (fun x5 h => ?_)
      refine r_getrN (C := RX4) (T := TX4) (N := 10) hx hb hts (fun w h => List.mem_cons_of_mem _ (iX4 w h)) hown hK hP rfl (by decide) rfl 1 (by decide) (nw_73 hK) (fun _ h9 => h9) dX11_hand_52 (by decide) h (fun x7 h => ?_)
      refine r_getrN (C := RX5) (T := TX5) (N := 9) hx hb hts (fun w h => List.mem_cons_of_mem _ (iX5 w h)) hown hK hP rfl (by decide) rfl 2 (by decide) (nw_52 hK) (fun _ h9 => h9) dX11_hand_55 (by decide) h (fun x9 h => ?_)
      refine lv_iload_n hx hb dX11_hand_58 rfl (lv_at hl 1 rfl) ?_
      refine r_iald hx hb hK hP dX11_hand_59 h (fun z11 h => ?_)
      exact r_iret hx hb hr hlocks hP hS dX11_hand_60 h
    · refine sw (c := zl2.toInt = 1) h (fun e1 h => ?_) (fun e1 h => ?_)
      · refine lv_tableIn (tgt := 61) hx hb dX11_hand_11 (by omega) (by omega) (by rw [e1]; rfl) (by decide) ?_
        refine lv_aload_n hx hb dX11_hand_61 rfl (lv_at hl 0 rfl) ?_
        refine r_getr (C := RX11) (T := TX11) (N := 16) hx hb hts (fun w h => List.mem_cons_of_mem _ (iX11 w h)) hown hK hP rfl (by decide) rfl 1 (by decide) (hts _ (List.mem_cons_of_mem _ kw_492)) (fun _ h9 => h9) dX11_hand_62 (by decide) h (fun x13 h => ?_)
        refine r_getrN (C := RX4) (T := TX4) (N := 10) hx hb hts (fun w h => List.mem_cons_of_mem _ (iX4 w h)) hown hK hP rfl (by decide) rfl 1 (by decide) (nw_73 hK) (fun _ h9 => h9) dX11_hand_65 (by decide) h (fun x15 h => ?_)
        refine r_getrN (C := RX5) (T := TX5) (N := 9) hx hb hts (fun w h => List.mem_cons_of_mem _ (iX5 w h)) hown hK hP rfl (by decide) rfl 3 (by decide) (nw_55 hK) (fun _ h9 => h9) dX11_hand_68 (by decide) h (fun x17 h => ?_)
        refine lv_iload_n hx hb dX11_hand_71 rfl (lv_at hl 1 rfl) ?_
        refine r_iald hx hb hK hP dX11_hand_72 h (fun z19 h => ?_)
        exact r_iret hx hb hr hlocks hP hS dX11_hand_73 h
      · refine sw (c := zl2.toInt = 2) h (fun e2 h => ?_) (fun e2 h => ?_)
        · refine lv_tableIn (tgt := 74) hx hb dX11_hand_11 (by omega) (by omega) (by rw [e2]; rfl) (by decide) ?_
          refine lv_aload_n hx hb dX11_hand_74 rfl (lv_at hl 0 rfl) ?_
          refine r_getr (C := RX11) (T := TX11) (N := 16) hx hb hts (fun w h => List.mem_cons_of_mem _ (iX11 w h)) hown hK hP rfl (by decide) rfl 1 (by decide) (hts _ (List.mem_cons_of_mem _ kw_492)) (fun _ h9 => h9) dX11_hand_75 (by decide) h (fun x21 h => ?_)
          refine r_getrN (C := RX4) (T := TX4) (N := 10) hx hb hts (fun w h => List.mem_cons_of_mem _ (iX4 w h)) hown hK hP rfl (by decide) rfl 1 (by decide) (nw_73 hK) (fun _ h9 => h9) dX11_hand_78 (by decide) h (fun x23 h => ?_)
          refine r_getrN (C := RX5) (T := TX5) (N := 9) hx hb hts (fun w h => List.mem_cons_of_mem _ (iX5 w h)) hown hK hP rfl (by decide) rfl 4 (by decide) (nw_58 hK) (fun _ h9 => h9) dX11_hand_81 (by decide) h (fun x25 h => ?_)
          refine lv_iload_n hx hb dX11_hand_84 rfl (lv_at hl 1 rfl) ?_
          refine r_iald hx hb hK hP dX11_hand_85 h (fun z27 h => ?_)
          exact r_iret hx hb hr hlocks hP hS dX11_hand_86 h
        · refine sw (c := zl2.toInt = 3) h (fun e3 h => ?_) (fun e3 h => ?_)
          · refine lv_tableIn (tgt := 87) hx hb dX11_hand_11 (by omega) (by omega) (by rw [e3]; rfl) (by decide) ?_
            refine lv_aload_n hx hb dX11_hand_87 rfl (lv_at hl 0 rfl) ?_
            refine r_getr (C := RX11) (T := TX11) (N := 16) hx hb hts (fun w h => List.mem_cons_of_mem _ (iX11 w h)) hown hK hP rfl (by decide) rfl 1 (by decide) (hts _ (List.mem_cons_of_mem _ kw_492)) (fun _ h9 => h9) dX11_hand_88 (by decide) h (fun x29 h => ?_)
            refine r_getrN (C := RX4) (T := TX4) (N := 10) hx hb hts (fun w h => List.mem_cons_of_mem _ (iX4 w h)) hown hK hP rfl (by decide) rfl 1 (by decide) (nw_73 hK) (fun _ h9 => h9) dX11_hand_91 (by decide) h (fun x31 h => ?_)
            refine lv_iload_n hx hb dX11_hand_94 rfl (lv_at hl 1 rfl) ?_
            refine q_Vi hx hb hml hown hts hK hP hS (c_X5_heldBits l D G S _ x31 zl1 _ h.2) ⟨callB_of 1 hts (gw_good kw_885) rfl rfl rfl (hts _ (List.mem_cons_of_mem _ kw_5)) (hts _ (List.mem_cons_of_mem _ kw_882)) hd_X5_heldBits ⟨Nat.le_of_ble_eq_true rfl, Nat.le_of_ble_eq_true rfl⟩, (hts _ (List.mem_cons_of_mem _ kw_883)), (hts _ (List.mem_cons_of_mem _ kw_884))⟩ h.1 (ci := 5) rfl (by decide) rfl hl.1 rfl (lv_room (Nat.le_of_ble_eq_true rfl)) dX11_hand_95 ⟨Nat.zero_le _, Nat.zero_le _⟩ (fun z34 M32 H locs h hP hS => ?_)
            exact r_iret hx hb hr hlocks hP hS dX11_hand_98 h
          · refine sw (c := zl2.toInt = 4) h (fun e4 h => ?_) (fun e4 h => ?_)
            · refine lv_tableIn (tgt := 99) hx hb dX11_hand_11 (by omega) (by omega) (by rw [e4]; rfl) (by decide) ?_
              refine lv_aload_n hx hb dX11_hand_99 rfl (lv_at hl 0 rfl) ?_
              refine r_getr (C := RX11) (T := TX11) (N := 16) hx hb hts (fun w h => List.mem_cons_of_mem _ (iX11 w h)) hown hK hP rfl (by decide) rfl 1 (by decide) (hts _ (List.mem_cons_of_mem _ kw_492)) (fun _ h9 => h9) dX11_hand_100 (by decide) h (fun x36 h => ?_)
              refine r_getrN (C := RX4) (T := TX4) (N := 10) hx hb hts (fun w h => List.mem_cons_of_mem _ (iX4 w h)) hown hK hP rfl (by decide) rfl 0 (by decide) (nw_70 hK) (fun _ h9 => h9) dX11_hand_103 (by decide) h (fun x38 h => ?_)
              refine r_getrN (C := RX8) (T := TX8) (N := 19) hx hb hts (fun w h => List.mem_cons_of_mem _ (iX8 w h)) hown hK hP rfl (by decide) rfl 10 (by decide) (nw_29 hK) (fun _ h9 => h9) dX11_hand_106 (by decide) h (fun x40 h => ?_)
              refine lv_iload_n hx hb dX11_hand_109 rfl (lv_at hl 1 rfl) ?_
              refine r_iald hx hb hK hP dX11_hand_110 h (fun z42 h => ?_)
              exact r_iret hx hb hr hlocks hP hS dX11_hand_111 h
            · refine sw (c := zl2.toInt = 5) h (fun e5 h => ?_) (fun e5 h => ?_)
              · refine lv_tableIn (tgt := 112) hx hb dX11_hand_11 (by omega) (by omega) (by rw [e5]; rfl) (by decide) ?_
                refine lv_aload_n hx hb dX11_hand_112 rfl (lv_at hl 0 rfl) ?_
                refine r_getr (C := RX11) (T := TX11) (N := 16) hx hb hts (fun w h => List.mem_cons_of_mem _ (iX11 w h)) hown hK hP rfl (by decide) rfl 1 (by decide) (hts _ (List.mem_cons_of_mem _ kw_492)) (fun _ h9 => h9) dX11_hand_113 (by decide) h (fun x44 h => ?_)
                refine r_getrN (C := RX4) (T := TX4) (N := 10) hx hb hts (fun w h => List.mem_cons_of_mem _ (iX4 w h)) hown hK hP rfl (by decide) rfl 0 (by decide) (nw_70 hK) (fun _ h9 => h9) dX11_hand_116 (by decide) h (fun x46 h => ?_)
                refine r_getrN (C := RX8) (T := TX8) (N := 19) hx hb hts (fun w h => List.mem_cons_of_mem _ (iX8 w h)) hown hK hP rfl (by decide) rfl 11 (by decide) (nw_33 hK) (fun _ h9 => h9) dX11_hand_119 (by decide) h (fun x48 h => ?_)
                refine lv_iload_n hx hb dX11_hand_122 rfl (lv_at hl 1 rfl) ?_
                refine r_iald hx hb hK hP dX11_hand_123 h (fun z50 h => ?_)
                exact r_iret hx hb hr hlocks hP hS dX11_hand_124 h
              · refine lv_tableOut (tgt := 125) hx hb dX11_hand_11 (by omega) (by decide) ?_
                refine r_iconst hx hb dX11_hand_125 (by decide) h (fun z52 h => ?_)
                exact r_iret hx hb hr hlocks hP hS dX11_hand_126 h
  · refine r_iconst hx hb dX11_hand_8 (by decide) h (fun z54 h => ?_)
    exact r_iret hx hb hr hlocks hP hS dX11_hand_9 h
/-! TurningMilk.isJug(I)Z -/
abbrev RM_X11_isJug : Room := { frames := 1, cells := 0, slots := 0, locals := 40 }
def cw_X11_isJug : Cond := Cond.code yX11_isJug cX11_isJug 2 (Option.some FieldType.boolean)
theorem hd_X11_isJug : yX11_isJug.cls ≠ "java/lang/invoke/MethodHandle" ∧ yX11_isJug.cls ≠ "java/lang/invoke/VarHandle" ∧ (parseMethodDescriptor yX11_isJug.desc).map (fun d => d.parameters.length) = some 1 := by decide +kernel
theorem dX11_isJug_0 : decode cX11_isJug 0 = .ok (.iload_n 1, 1) := by decide +kernel
theorem dX11_isJug_1 : decode cX11_isJug 1 = .ok (.ifCond .lt 21, 3) := by decide +kernel
theorem dX11_isJug_4 : decode cX11_isJug 4 = .ok (.iload_n 1, 1) := by decide +kernel
theorem dX11_isJug_5 : decode cX11_isJug 5 = .ok (.aload_n 0, 1) := by decide +kernel
theorem dX11_isJug_6 : decode cX11_isJug 6 = .ok (.getfield 19, 3) := by decide +kernel
theorem dX11_isJug_9 : decode cX11_isJug 9 = .ok (.getfield 57, 3) := by decide +kernel
theorem dX11_isJug_12 : decode cX11_isJug 12 = .ok (.getfield 146, 3) := by decide +kernel
