/-! TurningMilk.put(II)I -/
abbrev RM_X11_put : Room := { frames := 3, cells := 0, slots := 0, locals := 101 }
def cw_X11_put : Cond := Cond.code yX11_put cX11_put 3 (Option.some FieldType.int)
theorem hd_X11_put : yX11_put.cls ≠ "java/lang/invoke/MethodHandle" ∧ yX11_put.cls ≠ "java/lang/invoke/VarHandle" ∧ (parseMethodDescriptor yX11_put.desc).map (fun d => d.parameters.length) = some 2 := by decide +kernel
theorem dX11_put_0 : decode cX11_put 0 = .ok (.aload_n 0, 1) := by decide +kernel
theorem dX11_put_1 : decode cX11_put 1 = .ok (.iload_n 1, 1) := by decide +kernel
theorem dX11_put_2 : decode cX11_put 2 = .ok (.invokevirtual 181, 3) := by decide +kernel
theorem dX11_put_5 : decode cX11_put 5 = .ok (.ifCond .eq 25, 3) := by decide +kernel
theorem dX11_put_8 : decode cX11_put 8 = .ok (.aload_n 0, 1) := by decide +kernel
theorem dX11_put_9 : decode cX11_put 9 = .ok (.iload_n 2, 1) := by decide +kernel
theorem dX11_put_10 : decode cX11_put 10 = .ok (.invokevirtual 175, 3) := by decide +kernel
theorem dX11_put_13 : decode cX11_put 13 = .ok (.ifCond .eq 17, 3) := by decide +kernel
theorem dX11_put_16 : decode cX11_put 16 = .ok (.aload_n 0, 1) := by decide +kernel
theorem dX11_put_17 : decode cX11_put 17 = .ok (.getfield 19, 3) := by decide +kernel
theorem dX11_put_20 : decode cX11_put 20 = .ok (.getfield 133, 3) := by decide +kernel
theorem dX11_put_23 : decode cX11_put 23 = .ok (.iload_n 1, 1) := by decide +kernel
theorem dX11_put_24 : decode cX11_put 24 = .ok (.invokevirtual 269, 3) := by decide +kernel
theorem dX11_put_27 : decode cX11_put 27 = .ok (.ifCond .ne 5, 3) := by decide +kernel
theorem dX11_put_30 : decode cX11_put 30 = .ok (.iconst (-1), 1) := by decide +kernel
theorem dX11_put_31 : decode cX11_put 31 = .ok (.ireturn, 1) := by decide +kernel
theorem dX11_put_32 : decode cX11_put 32 = .ok (.aload_n 0, 1) := by decide +kernel
theorem dX11_put_33 : decode cX11_put 33 = .ok (.getfield 19, 3) := by decide +kernel
theorem dX11_put_36 : decode cX11_put 36 = .ok (.getfield 133, 3) := by decide +kernel
theorem dX11_put_39 : decode cX11_put 39 = .ok (.getfield 206, 3) := by decide +kernel
theorem dX11_put_42 : decode cX11_put 42 = .ok (.iload_n 2, 1) := by decide +kernel
theorem dX11_put_43 : decode cX11_put 43 = .ok (.iaload, 1) := by decide +kernel
theorem dX11_put_44 : decode cX11_put 44 = .ok (.iload_n 1, 1) := by decide +kernel
theorem dX11_put_45 : decode cX11_put 45 = .ok (.if_icmp .eq 5, 3) := by decide +kernel
theorem dX11_put_48 : decode cX11_put 48 = .ok (.iconst (-1), 1) := by decide +kernel
theorem dX11_put_49 : decode cX11_put 49 = .ok (.ireturn, 1) := by decide +kernel
theorem dX11_put_50 : decode cX11_put 50 = .ok (.aload_n 0, 1) := by decide +kernel
theorem dX11_put_51 : decode cX11_put 51 = .ok (.invokevirtual 255, 3) := by decide +kernel
theorem dX11_put_54 : decode cX11_put 54 = .ok (.aload_n 0, 1) := by decide +kernel
theorem dX11_put_55 : decode cX11_put 55 = .ok (.getfield 19, 3) := by decide +kernel
theorem dX11_put_58 : decode cX11_put 58 = .ok (.getfield 133, 3) := by decide +kernel
theorem dX11_put_61 : decode cX11_put 61 = .ok (.getfield 206, 3) := by decide +kernel
theorem dX11_put_64 : decode cX11_put 64 = .ok (.iload_n 2, 1) := by decide +kernel
theorem dX11_put_65 : decode cX11_put 65 = .ok (.iconst (-1), 1) := by decide +kernel
theorem dX11_put_66 : decode cX11_put 66 = .ok (.iastore, 1) := by decide +kernel
theorem dX11_put_67 : decode cX11_put 67 = .ok (.aload_n 0, 1) := by decide +kernel
theorem dX11_put_68 : decode cX11_put 68 = .ok (.getfield 19, 3) := by decide +kernel
theorem dX11_put_71 : decode cX11_put 71 = .ok (.getfield 133, 3) := by decide +kernel
theorem dX11_put_74 : decode cX11_put 74 = .ok (.getfield 203, 3) := by decide +kernel
theorem dX11_put_77 : decode cX11_put 77 = .ok (.iload_n 2, 1) := by decide +kernel
theorem dX11_put_78 : decode cX11_put 78 = .ok (.aload_n 0, 1) := by decide +kernel
theorem dX11_put_79 : decode cX11_put 79 = .ok (.getfield 19, 3) := by decide +kernel
theorem dX11_put_82 : decode cX11_put 82 = .ok (.getfield 133, 3) := by decide +kernel
theorem dX11_put_85 : decode cX11_put 85 = .ok (.getfield 184, 3) := by decide +kernel
theorem dX11_put_88 : decode cX11_put 88 = .ok (.iload_n 1, 1) := by decide +kernel
theorem dX11_put_89 : decode cX11_put 89 = .ok (.iaload, 1) := by decide +kernel
theorem dX11_put_90 : decode cX11_put 90 = .ok (.iastore, 1) := by decide +kernel
theorem dX11_put_91 : decode cX11_put 91 = .ok (.aload_n 0, 1) := by decide +kernel
theorem dX11_put_92 : decode cX11_put 92 = .ok (.getfield 19, 3) := by decide +kernel
theorem dX11_put_95 : decode cX11_put 95 = .ok (.getfield 133, 3) := by decide +kernel
theorem dX11_put_98 : decode cX11_put 98 = .ok (.getfield 184, 3) := by decide +kernel
theorem dX11_put_101 : decode cX11_put 101 = .ok (.iload_n 1, 1) := by decide +kernel
theorem dX11_put_102 : decode cX11_put 102 = .ok (.iaload, 1) := by decide +kernel
theorem dX11_put_103 : decode cX11_put 103 = .ok (.ireturn, 1) := by decide +kernel
def wp_X11_put (S : Sh) (M : Mm) (u0 : Int) (u1 : Int) (u2 : Int) (post : Int → Mm → Prop) : Prop := isK S u0 11 ∧ (wp_X11_isHand S M u0 u1 <| fun v2 M1 => wIf (v2 = 0) (wC (-1) fun v4 => post v4 M1) (isK S u0 11 ∧ (wp_X11_isJug S M1 u0 u2 <| fun v7 M6 => wIf (v7 = 0) (wC (-1) fun v9 => post v9 M6) (wGetR S M6 u0 11 1 fun v11 => wGetR S M6 v11 4 1 fun v13 => isK S v13 5 ∧ (wp_X5_isAtPlace S M6 v13 u1 <| fun v16 M15 => wIf (¬ v16 = 0) (wGetR S M15 u0 11 1 fun v18 => wGetR S M15 v18 4 1 fun v20 => wGetR S M15 v20 5 6 fun v22 => wLd S M15 v22 14 u2 fun v24 => wIf (v24 = u1) (isK S u0 11 ∧ (wp_X11_keepPast S M15 u0 <| fun M26 => wGetR S M26 u0 11 1 fun v27 => wGetR S M26 v27 4 1 fun v29 => wGetR S M26 v29 5 6 fun v31 => wC (-1) fun v33 => wSt S M26 v31 14 u2 v33 fun M35 => wGetR S M35 u0 11 1 fun v36 => wGetR S M35 v36 4 1 fun v38 => wGetR S M35 v38 5 5 fun v40 => wGetR S M35 u0 11 1 fun v42 => wGetR S M35 v42 4 1 fun v44 => wGetR S M35 v44 5 2 fun v46 => wLd S M35 v46 14 u1 fun v48 => wSt S M35 v40 14 u2 v48 fun M50 => wGetR S M50 u0 11 1 fun v51 => wGetR S M50 v51 4 1 fun v53 => wGetR S M50 v53 5 2 fun v55 => wLd S M50 v55 14 u1 fun v57 => post v57 M50)) (wC (-1) fun v59 => post v59 M15)) (wC (-1) fun v61 => post v61 M15))))))
set_option maxHeartbeats 4000000 in
set_option maxRecDepth 100000 in
theorem c_X11_put (l : Launch) (D : va_G) (G : Gt) (S : Sh) (M : Mm) (xl0 : Int) (zl1 : Int32) (zl2 : Int32) (post : Int → Mm → Prop) (h : wp_X11_put S M xl0 zl1.toInt zl2.toInt post) : Met l yX11_put (cw_X11_put :: gw) RM_X11_put (va_Pc [.ref (adr G xl0), .int zl1, .int zl2] (fun U => KN D G U ∧ Wd D G S M U.heap)) (QI D G S post) 0 0 (aG G) := by
  refine Met.ofW (cc := cX11_put) (maxL := 3) (ret := (some .int)) (by decide) rfl ?_
  intro p e s m args below meth c s₁ B hml hv
  obtain ⟨rfl, hK, hP⟩ := hv
  have hx := B.exec
  have hb := B.bytes
  have hr := B.returns
  have hts := atoms_spec (ws := cw_X11_put :: gw) B.pre
  have hown : s.vm.findClass RX11 = some m.cls := findClass_of_methodNamed B.named
  have hlocks := B.notSynchronized
  have hS : va_S (aG G) s.heap s.heap [] := va_S.rf
  have C : Cx p s m ([.ref (adr G xl0), .int zl1, .int zl2] : List Value).toArray meth c D G cX11_put 3 (some .int) (cw_X11_put :: gw) RX11 := ⟨hx, hb, hr, hlocks, hml, hown, hts, hK⟩
  have hl := lv_entry ([.ref (adr G xl0), .int zl1, .int zl2]) (n := 3) (Nat.le_of_ble_eq_true rfl)
  rw [lg_entry_eq]
  generalize (lg_sl ([.ref (adr G xl0), .int zl1, .int zl2]) ++ List.replicate (3 - (lg_sl ([.ref (adr G xl0), .int zl1, .int zl2])).length) Slot.unset).toArray = ls at hl ⊢
  have hl : lv_has ls 3 [(0, .ref (adr G xl0)), (1, .int zl1), (2, .int zl2)] := hl
  unfold wp_X11_put at h
  refine lv_aload_n hx hb dX11_put_0 rfl (lv_at hl 0 rfl) ?_
  refine lv_iload_n hx hb dX11_put_1 rfl (lv_at hl 1 rfl) ?_
  refine q_Vi hx hb hml hown hts hK hP hS (c_X11_isHand l D G S _ xl0 zl1 _ h.2) ⟨callB_of 1 hts (gw_good kw_881) rfl rfl rfl (hts _ (List.mem_cons_of_mem _ kw_1)) (hts _ (List.mem_cons_of_mem _ kw_878)) hd_X11_isHand ⟨Nat.le_of_ble_eq_true rfl, Nat.le_of_ble_eq_true rfl⟩, (hts _ (List.mem_cons_of_mem _ kw_880)), (hts _ (List.mem_cons_of_mem _ kp_29))⟩ h.1 (ci := 11) rfl (by decide) rfl hl.1 rfl (lv_room (Nat.le_of_ble_eq_true rfl)) dX11_put_2 ⟨Nat.zero_le _, Nat.zero_le _⟩ (fun z3 M1 H locs h hP hS => ?_)
  refine r_if_eq (tgt := 30) hx hb dX11_put_5 (by decide) h (fun h => ?_) (fun h => ?_)
  · refine r_iconst hx hb dX11_put_30 (by decide) h (fun z5 h => ?_)
    exact r_iret hx hb hr hlocks hP hS dX11_put_31 h
  · refine lv_aload_n hx hb dX11_put_8 rfl (lv_at hl 0 rfl) ?_
    refine lv_iload_n hx hb dX11_put_9 rfl (lv_at hl 2 rfl) ?_
    refine q_Vi hx hb hml hown hts hK hP hS (c_X11_isJug l D G S _ xl0 zl2 _ h.2) ⟨callB_of 1 hts (gw_good kw_893) rfl rfl rfl (hts _ (List.mem_cons_of_mem _ kw_1)) (hts _ (List.mem_cons_of_mem _ kw_890)) hd_X11_isJug ⟨Nat.le_of_ble_eq_true rfl, Nat.le_of_ble_eq_true rfl⟩, (hts _ (List.mem_cons_of_mem _ kw_892)), (hts _ (List.mem_cons_of_mem _ kp_30))⟩ h.1 (ci := 11) rfl (by decide) rfl hl.1 rfl (lv_room (Nat.le_of_ble_eq_true rfl)) dX11_put_10 ⟨Nat.zero_le _, Nat.zero_le _⟩ (fun z8 M6 H locs h hP hS => ?_)
    refine r_if_eq (tgt := 30) hx hb dX11_put_13 (by decide) h (fun h => ?_) (fun h => ?_)
    · refine r_iconst hx hb dX11_put_30 (by decide) h (fun z10 h => ?_)
      exact r_iret hx hb hr hlocks hP hS dX11_put_31 h
    · refine lv_aload_n hx hb dX11_put_16 rfl (lv_at hl 0 rfl) ?_
      refine r_getr (C := RX11) (T := TX11) (N := 16) hx hb hts (fun w h => List.mem_cons_of_mem _ (iX11 w h)) hown hK hP rfl (by decide) rfl 1 (by decide) (hts _ (List.mem_cons_of_mem _ kw_492)) (fun _ h9 => h9) dX11_put_17 (by decide) h (fun x12 h => ?_)
      refine r_getrN (C := RX4) (T := TX4) (N := 10) hx hb hts (fun w h => List.mem_cons_of_mem _ (iX4 w h)) hown hK hP rfl (by decide) rfl 1 (by decide) (nw_73 hK) (fun _ h9 => h9) dX11_put_20 (by decide) h (fun x14 h => ?_)
      refine lv_iload_n hx hb dX11_put_23 rfl (lv_at hl 1 rfl) ?_
      refine q_Vi hx hb hml hown hts hK hP hS (c_X5_isAtPlace l D G S _ x14 zl1 _ h.2) ⟨callB_of 1 hts (gw_good kw_951) rfl rfl rfl (hts _ (List.mem_cons_of_mem _ kw_5)) (hts _ (List.mem_cons_of_mem _ kw_1019)) hd_X5_isAtPlace ⟨Nat.le_of_ble_eq_true rfl, Nat.le_of_ble_eq_true rfl⟩, (hts _ (List.mem_cons_of_mem _ kw_949)), (hts _ (List.mem_cons_of_mem _ kw_950))⟩ h.1 (ci := 5) rfl (by decide) rfl hl.1 rfl (lv_room (Nat.le_of_ble_eq_true rfl)) dX11_put_24 ⟨Nat.zero_le _, Nat.zero_le _⟩ (fun z17 M15 H locs h hP hS => ?_)
      refine r_if_ne (tgt := 32) hx hb dX11_put_27 (by decide) h (fun h => ?_) (fun h => ?_)
      · refine lv_aload_n hx hb dX11_put_32 rfl (lv_at hl 0 rfl) ?_
        refine r_getr (C := RX11) (T := TX11) (N := 16) hx hb hts (fun w h => List.mem_cons_of_mem _ (iX11 w h)) hown hK hP rfl (by decide) rfl 1 (by decide) (hts _ (List.mem_cons_of_mem _ kw_492)) (fun _ h9 => h9) dX11_put_33 (by decide) h (fun x19 h => ?_)
        refine r_getrN (C := RX4) (T := TX4) (N := 10) hx hb hts (fun w h => List.mem_cons_of_mem _ (iX4 w h)) hown hK hP rfl (by decide) rfl 1 (by decide) (nw_73 hK) (fun _ h9 => h9) dX11_put_36 (by decide) h (fun x21 h => ?_)
        refine r_getrN (C := RX5) (T := TX5) (N := 9) hx hb hts (fun w h => List.mem_cons_of_mem _ (iX5 w h)) hown hK hP rfl (by decide) rfl 6 (by decide) (nw_62 hK) (fun _ h9 => h9) dX11_put_39 (by decide) h (fun x23 h => ?_)
        refine lv_iload_n hx hb dX11_put_42 rfl (lv_at hl 2 rfl) ?_
        refine r_iald hx hb hK hP dX11_put_43 h (fun z25 h => ?_)
        refine lv_iload_n hx hb dX11_put_44 rfl (lv_at hl 1 rfl) ?_
        refine r_icmp_eq (tgt := 50) hx hb dX11_put_45 (by decide) h (fun h => ?_) (fun h => ?_)
        · refine lv_aload_n hx hb dX11_put_50 rfl (lv_at hl 0 rfl) ?_
          refine q_Vv hx hb hml hown hts hK hP hS (c_X11_keepPast l D G S _ xl0 _ h.2) ⟨callB_of 0 hts (gw_good kw_921) rfl rfl rfl (hts _ (List.mem_cons_of_mem _ kw_1)) (hts _ (List.mem_cons_of_mem _ kw_918)) hd_X11_keepPast ⟨Nat.le_of_ble_eq_true rfl, Nat.le_of_ble_eq_true rfl⟩, (hts _ (List.mem_cons_of_mem _ kw_920)), (hts _ (List.mem_cons_of_mem _ kp_33))⟩ h.1 (ci := 11) rfl (by decide) rfl hl.1 rfl (lv_room (Nat.le_of_ble_eq_true rfl)) dX11_put_51 ⟨Nat.zero_le _, Nat.zero_le _⟩ (fun M26 H locs h hP hS => ?_)
          refine lv_aload_n hx hb dX11_put_54 rfl (lv_at hl 0 rfl) ?_
          refine r_getr (C := RX11) (T := TX11) (N := 16) hx hb hts (fun w h => List.mem_cons_of_mem _ (iX11 w h)) hown hK hP rfl (by decide) rfl 1 (by decide) (hts _ (List.mem_cons_of_mem _ kw_492)) (fun _ h9 => h9) dX11_put_55 (by decide) h (fun x28 h => ?_)
          refine r_getrN (C := RX4) (T := TX4) (N := 10) hx hb hts (fun w h => List.mem_cons_of_mem _ (iX4 w h)) hown hK hP rfl (by decide) rfl 1 (by decide) (nw_73 hK) (fun _ h9 => h9) dX11_put_58 (by decide) h (fun x30 h => ?_)
          refine r_getrN (C := RX5) (T := TX5) (N := 9) hx hb hts (fun w h => List.mem_cons_of_mem _ (iX5 w h)) hown hK hP rfl (by decide) rfl 6 (by decide) (nw_62 hK) (fun _ h9 => h9) dX11_put_61 (by decide) h (fun x32 h => ?_)
          refine lv_iload_n hx hb dX11_put_64 rfl (lv_at hl 2 rfl) ?_
          refine r_iconst hx hb dX11_put_65 (by decide) h (fun z34 h => ?_)
          refine r_iast hx hb hK hP hS dX11_put_66 h (fun M35 H locs h hP hS => ?_)
          refine lv_aload_n hx hb dX11_put_67 rfl (lv_at hl 0 rfl) ?_
          refine r_getr (C := RX11) (T := TX11) (N := 16) hx hb hts (fun w h => List.mem_cons_of_mem _ (iX11 w h)) hown hK hP rfl (by decide) rfl 1 (by decide) (hts _ (List.mem_cons_of_mem _ kw_492)) (fun _ h9 => h9) dX11_put_68 (by decide) h (fun x37 h => ?_)
          refine r_getrN (C := RX4) (T := TX4) (N := 10) hx hb hts (fun w h => List.mem_cons_of_mem _ (iX4 w h)) hown hK hP rfl (by decide) rfl 1 (by decide) (nw_73 hK) (fun _ h9 => h9) dX11_put_71 (by decide) h (fun x39 h => ?_)
          refine r_getrN (C := RX5) (T := TX5) (N := 9) hx hb hts (fun w h => List.mem_cons_of_mem _ (iX5 w h)) hown hK hP rfl (by decide) rfl 5 (by decide) (nw_60 hK) (fun _ h9 => h9) dX11_put_74 (by decide) h (fun x41 h => ?_)
          refine lv_iload_n hx hb dX11_put_77 rfl (lv_at hl 2 rfl) ?_
          refine lv_aload_n hx hb dX11_put_78 rfl (lv_at hl 0 rfl) ?_
          refine r_getr (C := RX11) (T := TX11) (N := 16) hx hb hts (fun w h => List.mem_cons_of_mem _ (iX11 w h)) hown hK hP rfl (by decide) rfl 1 (by decide) (hts _ (List.mem_cons_of_mem _ kw_492)) (fun _ h9 => h9) dX11_put_79 (by decide) h (fun x43 h => ?_)
          refine r_getrN (C := RX4) (T := TX4) (N := 10) hx hb hts (fun w h => List.mem_cons_of_mem _ (iX4 w h)) hown hK hP rfl (by decide) rfl 1 (by decide) (nw_73 hK) (fun _ h9 => h9) dX11_put_82 (by decide) h (fun x45 h => ?_)
          refine r_getrN (C := RX5) (T := TX5) (N := 9) hx hb hts (fun w h => List.mem_cons_of_mem _ (iX5 w h)) hown hK hP rfl (by decide) rfl 2 (by decide) (nw_52 hK) (fun _ h9 => h9) dX11_put_85 (by decide) h (fun x47 h => ?_)
          refine lv_iload_n hx hb dX11_put_88 rfl (lv_at hl 1 rfl) ?_
          refine r_iald hx hb hK hP dX11_put_89 h (fun z49 h => ?_)
          refine r_iast hx hb hK hP hS dX11_put_90 h (fun M50 H locs h hP hS => ?_)
          refine lv_aload_n hx hb dX11_put_91 rfl (lv_at hl 0 rfl) ?_
          refine r_getr (C := RX11) (T := TX11) (N := 16) hx hb hts (fun w h => List.mem_cons_of_mem _ (iX11 w h)) hown hK hP rfl (by decide) rfl 1 (by decide) (hts _ (List.mem_cons_of_mem _ kw_492)) (fun _ h9 => h9) dX11_put_92 (by decide) h (fun x52 h => ?_)
          refine r_getrN (C := RX4) (T := TX4) (N := 10) hx hb hts (fun w h => List.mem_cons_of_mem _ (iX4 w h)) hown hK hP rfl (by decide) rfl 1 (by decide) (nw_73 hK) (fun _ h9 => h9) dX11_put_95 (by decide) h (fun x54 h => ?_)
          refine r_getrN (C := RX5) (T := TX5) (N := 9) hx hb hts (fun w h => List.mem_cons_of_mem _ (iX5 w h)) hown hK hP rfl (by decide) rfl 2 (by decide) (nw_52 hK) (fun _ h9 => h9) dX11_put_98 (by decide) h (fun x56 h => ?_)
          refine lv_iload_n hx hb dX11_put_101 rfl (lv_at hl 1 rfl) ?_
          refine r_iald hx hb hK hP dX11_put_102 h (fun z58 h => ?_)
          exact r_iret hx hb hr hlocks hP hS dX11_put_103 h
        · refine r_iconst hx hb dX11_put_48 (by decide) h (fun z60 h => ?_)
          exact r_iret hx hb hr hlocks hP hS dX11_put_49 h
      · refine r_iconst hx hb dX11_put_30 (by decide) h (fun z62 h => ?_)
        exact r_iret hx hb hr hlocks hP hS dX11_put_31 h
/-! TurningMilk$State.canGive(II)Z -/
abbrev RM_X5_canGive : Room := { frames := 4, cells := 0, slots := 0, locals := 105 }
def cw_X5_canGive : Cond := Cond.code yX5_canGive cX5_canGive 3 (Option.some FieldType.boolean)
theorem hd_X5_canGive : yX5_canGive.cls ≠ "java/lang/invoke/MethodHandle" ∧ yX5_canGive.cls ≠ "java/lang/invoke/VarHandle" ∧ (parseMethodDescriptor yX5_canGive.desc).map (fun d => d.parameters.length) = some 2 := by decide +kernel
theorem dX5_canGive_0 : decode cX5_canGive 0 = .ok (.aload_n 0, 1) := by decide +kernel
theorem dX5_canGive_1 : decode cX5_canGive 1 = .ok (.iload_n 1, 1) := by decide +kernel
theorem dX5_canGive_2 : decode cX5_canGive 2 = .ok (.invokevirtual 61, 3) := by decide +kernel
theorem dX5_canGive_5 : decode cX5_canGive 5 = .ok (.ifCond .eq 30, 3) := by decide +kernel
theorem dX5_canGive_8 : decode cX5_canGive 8 = .ok (.aload_n 0, 1) := by decide +kernel
theorem dX5_canGive_9 : decode cX5_canGive 9 = .ok (.getfield 9, 3) := by decide +kernel
theorem dX5_canGive_12 : decode cX5_canGive 12 = .ok (.iload_n 1, 1) := by decide +kernel
theorem dX5_canGive_13 : decode cX5_canGive 13 = .ok (.iaload, 1) := by decide +kernel
theorem dX5_canGive_14 : decode cX5_canGive 14 = .ok (.aload_n 0, 1) := by decide +kernel
theorem dX5_canGive_15 : decode cX5_canGive 15 = .ok (.getfield 9, 3) := by decide +kernel
theorem dX5_canGive_18 : decode cX5_canGive 18 = .ok (.iload_n 2, 1) := by decide +kernel
theorem dX5_canGive_19 : decode cX5_canGive 19 = .ok (.iaload, 1) := by decide +kernel
theorem dX5_canGive_20 : decode cX5_canGive 20 = .ok (.if_icmp .ne 15, 3) := by decide +kernel
theorem dX5_canGive_23 : decode cX5_canGive 23 = .ok (.aload_n 0, 1) := by decide +kernel
theorem dX5_canGive_24 : decode cX5_canGive 24 = .ok (.iload_n 2, 1) := by decide +kernel
theorem dX5_canGive_25 : decode cX5_canGive 25 = .ok (.invokevirtual 71, 3) := by decide +kernel
theorem dX5_canGive_28 : decode cX5_canGive 28 = .ok (.ifCond .eq 7, 3) := by decide +kernel
theorem dX5_canGive_31 : decode cX5_canGive 31 = .ok (.iconst 1, 1) := by decide +kernel
theorem dX5_canGive_32 : decode cX5_canGive 32 = .ok (.goto 4, 3) := by decide +kernel
theorem dX5_canGive_35 : decode cX5_canGive 35 = .ok (.iconst 0, 1) := by decide +kernel
theorem dX5_canGive_36 : decode cX5_canGive 36 = .ok (.ireturn, 1) := by decide +kernel
def wp_X5_canGive (S : Sh) (M : Mm) (u0 : Int) (u1 : Int) (u2 : Int) (post : Int → Mm → Prop) : Prop := isK S u0 5 ∧ (wp_X5_isAtPlace S M u0 u1 <| fun v2 M1 => wIf (v2 = 0) (wC 0 fun v4 => (v4 = 0 ∨ v4 = 1) ∧ post v4 M1) (wGetR S M1 u0 5 2 fun v6 => wLd S M1 v6 14 u1 fun v8 => wGetR S M1 u0 5 2 fun v10 => wLd S M1 v10 14 u2 fun v12 => wIf (¬ v8 = v12) (wC 0 fun v14 => (v14 = 0 ∨ v14 = 1) ∧ post v14 M1) (isK S u0 5 ∧ (wp_X5_canHoldMore S M1 u0 u2 <| fun v17 M16 => wIf (v17 = 0) (wC 0 fun v19 => (v19 = 0 ∨ v19 = 1) ∧ post v19 M16) (wC 1 fun v21 => (v21 = 0 ∨ v21 = 1) ∧ post v21 M16)))))
set_option maxHeartbeats 4000000 in
set_option maxRecDepth 100000 in
theorem c_X5_canGive (l : Launch) (D : va_G) (G : Gt) (S : Sh) (M : Mm) (xl0 : Int) (zl1 : Int32) (zl2 : Int32) (post : Int → Mm → Prop) (h : wp_X5_canGive S M xl0 zl1.toInt zl2.toInt post) : Met l yX5_canGive (cw_X5_canGive :: gw) RM_X5_canGive (va_Pc [.ref (adr G xl0), .int zl1, .int zl2] (fun U => KN D G U ∧ Wd D G S M U.heap)) (QI D G S post) 0 0 (aG G) := by
  refine Met.ofW (cc := cX5_canGive) (maxL := 3) (ret := (some .boolean)) (by decide) rfl ?_
  intro p e s m args below meth c s₁ B hml hv
  obtain ⟨rfl, hK, hP⟩ := hv
  have hx := B.exec
  have hb := B.bytes
  have hr := B.returns
  have hts := atoms_spec (ws := cw_X5_canGive :: gw) B.pre
  have hown : s.vm.findClass RX5 = some m.cls := findClass_of_methodNamed B.named
  have hlocks := B.notSynchronized
  have hS : va_S (aG G) s.heap s.heap [] := va_S.rf
  have C : Cx p s m ([.ref (adr G xl0), .int zl1, .int zl2] : List Value).toArray meth c D G cX5_canGive 3 (some .boolean) (cw_X5_canGive :: gw) RX5 := ⟨hx, hb, hr, hlocks, hml, hown, hts, hK⟩
  have hl := lv_entry ([.ref (adr G xl0), .int zl1, .int zl2]) (n := 3) (Nat.le_of_ble_eq_true rfl)
  rw [lg_entry_eq]
  generalize (lg_sl ([.ref (adr G xl0), .int zl1, .int zl2]) ++ List.replicate (3 - (lg_sl ([.ref (adr G xl0), .int zl1, .int zl2])).length) Slot.unset).toArray = ls at hl ⊢
  have hl : lv_has ls 3 [(0, .ref (adr G xl0)), (1, .int zl1), (2, .int zl2)] := hl
  unfold wp_X5_canGive at h
  refine lv_aload_n hx hb dX5_canGive_0 rfl (lv_at hl 0 rfl) ?_
  refine lv_iload_n hx hb dX5_canGive_1 rfl (lv_at hl 1 rfl) ?_
  refine q_Vi hx hb hml hown hts hK hP hS (c_X5_isAtPlace l D G S _ xl0 zl1 _ h.2) ⟨callB_of 1 hts (gw_good kw_951) rfl rfl rfl (hts _ (List.mem_cons_of_mem _ kw_5)) (hts _ (List.mem_cons_of_mem _ kw_1009)) hd_X5_isAtPlace ⟨Nat.le_of_ble_eq_true rfl, Nat.le_of_ble_eq_true rfl⟩, (hts _ (List.mem_cons_of_mem _ kw_949)), (hts _ (List.mem_cons_of_mem _ kw_950))⟩ h.1 (ci := 5) rfl (by decide) rfl hl.1 rfl (lv_room (Nat.le_of_ble_eq_true rfl)) dX5_canGive_2 ⟨Nat.zero_le _, Nat.zero_le _⟩ (fun z3 M1 H locs h hP hS => ?_)
  refine r_if_eq (tgt := 35) hx hb dX5_canGive_5 (by decide) h (fun h => ?_) (fun h => ?_)
  · refine r_iconst hx hb dX5_canGive_35 (by decide) h (fun z5 h => ?_)
    exact r_zret hx hb hr hlocks hP hS dX5_canGive_36 h
  · refine lv_aload_n hx hb dX5_canGive_8 rfl (lv_at hl 0 rfl) ?_
    refine r_getr (C := RX5) (T := TX5) (N := 9) hx hb hts (fun w h => List.mem_cons_of_mem _ (iX5 w h)) hown hK hP rfl (by decide) rfl 2 (by decide) (hts _ (List.mem_cons_of_mem _ kw_186)) (fun _ h9 => h9) dX5_canGive_9 (by decide) h (fun x7 h => ?_)
    refine lv_iload_n hx hb dX5_canGive_12 rfl (lv_at hl 1 rfl) ?_
    refine r_iald hx hb hK hP dX5_canGive_13 h (fun z9 h => ?_)
    refine lv_aload_n hx hb dX5_canGive_14 rfl (lv_at hl 0 rfl) ?_
    refine r_getr (C := RX5) (T := TX5) (N := 9) hx hb hts (fun w h => List.mem_cons_of_mem _ (iX5 w h)) hown hK hP rfl (by decide) rfl 2 (by decide) (hts _ (List.mem_cons_of_mem _ kw_186)) (fun _ h9 => h9) dX5_canGive_15 (by decide) h (fun x11 h => ?_)
    refine lv_iload_n hx hb dX5_canGive_18 rfl (lv_at hl 2 rfl) ?_
    refine r_iald hx hb hK hP dX5_canGive_19 h (fun z13 h => ?_)
    refine r_icmp_ne (tgt := 35) hx hb dX5_canGive_20 (by decide) h (fun h => ?_) (fun h => ?_)
    · refine r_iconst hx hb dX5_canGive_35 (by decide) h (fun z15 h => ?_)
      exact r_zret hx hb hr hlocks hP hS dX5_canGive_36 h
    · refine lv_aload_n hx hb dX5_canGive_23 rfl (lv_at hl 0 rfl) ?_
      refine lv_iload_n hx hb dX5_canGive_24 rfl (lv_at hl 2 rfl) ?_
      refine q_Vi hx hb hml hown hts hK hP hS (c_X5_canHoldMore l D G S _ xl0 zl2 _ h.2) ⟨callB_of 1 hts (gw_good kw_1008) rfl rfl rfl (hts _ (List.mem_cons_of_mem _ kw_5)) (hts _ (List.mem_cons_of_mem _ kw_1005)) hd_X5_canHoldMore ⟨Nat.le_of_ble_eq_true rfl, Nat.le_of_ble_eq_true rfl⟩, (hts _ (List.mem_cons_of_mem _ kw_1007)), (hts _ (List.mem_cons_of_mem _ kp_37))⟩ h.1 (ci := 5) rfl (by decide) rfl hl.1 rfl (lv_room (Nat.le_of_ble_eq_true rfl)) dX5_canGive_25 ⟨Nat.zero_le _, Nat.zero_le _⟩ (fun z18 M16 H locs h hP hS => ?_)
      refine r_if_eq (tgt := 35) hx hb dX5_canGive_28 (by decide) h (fun h => ?_) (fun h => ?_)
      · refine r_iconst hx hb dX5_canGive_35 (by decide) h (fun z20 h => ?_)
        exact r_zret hx hb hr hlocks hP hS dX5_canGive_36 h
      · refine r_iconst hx hb dX5_canGive_31 (by decide) h (fun z22 h => ?_)
        refine lv_goto (tgt := 36) hx hb dX5_canGive_32 (by decide) ?_
        exact r_zret hx hb hr hlocks hP hS dX5_canGive_36 h
/-! TurningMilk.handOn(II)I -/
abbrev RM_X11_handOn : Room := { frames := 5, cells := 0, slots := 0, locals := 127 }
def cw_X11_handOn : Cond := Cond.code yX11_handOn cX11_handOn 4 (Option.some FieldType.int)
theorem hd_X11_handOn : yX11_handOn.cls ≠ "java/lang/invoke/MethodHandle" ∧ yX11_handOn.cls ≠ "java/lang/invoke/VarHandle" ∧ (parseMethodDescriptor yX11_handOn.desc).map (fun d => d.parameters.length) = some 2 := by decide +kernel
theorem dX11_handOn_0 : decode cX11_handOn 0 = .ok (.aload_n 0, 1) := by decide +kernel
theorem dX11_handOn_1 : decode cX11_handOn 1 = .ok (.iload_n 2, 1) := by decide +kernel
theorem dX11_handOn_2 : decode cX11_handOn 2 = .ok (.invokevirtual 181, 3) := by decide +kernel
theorem dX11_handOn_5 : decode cX11_handOn 5 = .ok (.ifCond .eq 11, 3) := by decide +kernel
theorem dX11_handOn_8 : decode cX11_handOn 8 = .ok (.aload_n 0, 1) := by decide +kernel
theorem dX11_handOn_9 : decode cX11_handOn 9 = .ok (.iload_n 1, 1) := by decide +kernel
theorem dX11_handOn_10 : decode cX11_handOn 10 = .ok (.invokevirtual 175, 3) := by decide +kernel
theorem dX11_handOn_13 : decode cX11_handOn 13 = .ok (.ifCond .ne 5, 3) := by decide +kernel
theorem dX11_handOn_16 : decode cX11_handOn 16 = .ok (.iconst (-1), 1) := by decide +kernel
theorem dX11_handOn_17 : decode cX11_handOn 17 = .ok (.ireturn, 1) := by decide +kernel
theorem dX11_handOn_18 : decode cX11_handOn 18 = .ok (.aload_n 0, 1) := by decide +kernel
theorem dX11_handOn_19 : decode cX11_handOn 19 = .ok (.getfield 19, 3) := by decide +kernel
theorem dX11_handOn_22 : decode cX11_handOn 22 = .ok (.getfield 133, 3) := by decide +kernel
theorem dX11_handOn_25 : decode cX11_handOn 25 = .ok (.getfield 206, 3) := by decide +kernel
theorem dX11_handOn_28 : decode cX11_handOn 28 = .ok (.iload_n 1, 1) := by decide +kernel
theorem dX11_handOn_29 : decode cX11_handOn 29 = .ok (.iaload, 1) := by decide +kernel
theorem dX11_handOn_30 : decode cX11_handOn 30 = .ok (.istore_n 3, 1) := by decide +kernel
theorem dX11_handOn_31 : decode cX11_handOn 31 = .ok (.aload_n 0, 1) := by decide +kernel
theorem dX11_handOn_32 : decode cX11_handOn 32 = .ok (.iload_n 3, 1) := by decide +kernel
theorem dX11_handOn_33 : decode cX11_handOn 33 = .ok (.invokevirtual 181, 3) := by decide +kernel
theorem dX11_handOn_36 : decode cX11_handOn 36 = .ok (.ifCond .eq 23, 3) := by decide +kernel
theorem dX11_handOn_39 : decode cX11_handOn 39 = .ok (.iload_n 3, 1) := by decide +kernel
theorem dX11_handOn_40 : decode cX11_handOn 40 = .ok (.iload_n 2, 1) := by decide +kernel
theorem dX11_handOn_41 : decode cX11_handOn 41 = .ok (.if_icmp .eq 18, 3) := by decide +kernel
theorem dX11_handOn_44 : decode cX11_handOn 44 = .ok (.aload_n 0, 1) := by decide +kernel
theorem dX11_handOn_45 : decode cX11_handOn 45 = .ok (.getfield 19, 3) := by decide +kernel
theorem dX11_handOn_48 : decode cX11_handOn 48 = .ok (.getfield 133, 3) := by decide +kernel
theorem dX11_handOn_51 : decode cX11_handOn 51 = .ok (.iload_n 3, 1) := by decide +kernel
theorem dX11_handOn_52 : decode cX11_handOn 52 = .ok (.iload_n 2, 1) := by decide +kernel
theorem dX11_handOn_53 : decode cX11_handOn 53 = .ok (.invokevirtual 272, 3) := by decide +kernel
theorem dX11_handOn_56 : decode cX11_handOn 56 = .ok (.ifCond .ne 5, 3) := by decide +kernel
theorem dX11_handOn_59 : decode cX11_handOn 59 = .ok (.iconst (-1), 1) := by decide +kernel
theorem dX11_handOn_60 : decode cX11_handOn 60 = .ok (.ireturn, 1) := by decide +kernel
theorem dX11_handOn_61 : decode cX11_handOn 61 = .ok (.aload_n 0, 1) := by decide +kernel
theorem dX11_handOn_62 : decode cX11_handOn 62 = .ok (.invokevirtual 255, 3) := by decide +kernel
theorem dX11_handOn_65 : decode cX11_handOn 65 = .ok (.aload_n 0, 1) := by decide +kernel
theorem dX11_handOn_66 : decode cX11_handOn 66 = .ok (.getfield 19, 3) := by decide +kernel
theorem dX11_handOn_69 : decode cX11_handOn 69 = .ok (.getfield 133, 3) := by decide +kernel
theorem dX11_handOn_72 : decode cX11_handOn 72 = .ok (.iload_n 2, 1) := by decide +kernel
theorem dX11_handOn_73 : decode cX11_handOn 73 = .ok (.iload_n 1, 1) := by decide +kernel
theorem dX11_handOn_74 : decode cX11_handOn 74 = .ok (.invokevirtual 265, 3) := by decide +kernel
theorem dX11_handOn_77 : decode cX11_handOn 77 = .ok (.iload_n 3, 1) := by decide +kernel
theorem dX11_handOn_78 : decode cX11_handOn 78 = .ok (.ireturn, 1) := by decide +kernel
def wp_X11_handOn (S : Sh) (M : Mm) (u0 : Int) (u1 : Int) (u2 : Int) (post : Int → Mm → Prop) : Prop := isK S u0 11 ∧ (wp_X11_isHand S M u0 u2 <| fun v2 M1 => wIf (v2 = 0) (wC (-1) fun v4 => post v4 M1) (isK S u0 11 ∧ (wp_X11_isJug S M1 u0 u1 <| fun v7 M6 => wIf (¬ v7 = 0) (wGetR S M6 u0 11 1 fun v9 => wGetR S M6 v9 4 1 fun v11 => wGetR S M6 v11 5 6 fun v13 => wLd S M6 v13 14 u1 fun v15 => isK S u0 11 ∧ (wp_X11_isHand S M6 u0 v15 <| fun v18 M17 => wIf (v18 = 0) (wC (-1) fun v20 => post v20 M17) (wIf (v15 = u2) (wC (-1) fun v22 => post v22 M17) (wGetR S M17 u0 11 1 fun v24 => wGetR S M17 v24 4 1 fun v26 => isK S v26 5 ∧ (wp_X5_canGive S M17 v26 v15 u2 <| fun v29 M28 => wIf (¬ v29 = 0) (isK S u0 11 ∧ (wp_X11_keepPast S M28 u0 <| fun M31 => wGetR S M31 u0 11 1 fun v32 => wGetR S M31 v32 4 1 fun v34 => isK S v34 5 ∧ (wp_X5_giveTo S M31 v34 u2 u1 <| fun M36 => post v15 M36))) (wC (-1) fun v37 => post v37 M28)))))) (wC (-1) fun v39 => post v39 M6))))
set_option maxHeartbeats 4000000 in
set_option maxRecDepth 100000 in
theorem c_X11_handOn (l : Launch) (D : va_G) (G : Gt) (S : Sh) (M : Mm) (xl0 : Int) (zl1 : Int32) (zl2 : Int32) (post : Int → Mm → Prop) (h : wp_X11_handOn S M xl0 zl1.toInt zl2.toInt post) : Met l yX11_handOn (cw_X11_handOn :: gw) RM_X11_handOn (va_Pc [.ref (adr G xl0), .int zl1, .int zl2] (fun U => KN D G U ∧ Wd D G S M U.heap)) (QI D G S post) 0 0 (aG G) := by
  refine Met.ofW (cc := cX11_handOn) (maxL := 4) (ret := (some .int)) (by decide) rfl ?_
  intro p e s m args below meth c s₁ B hml hv
  obtain ⟨rfl, hK, hP⟩ := hv
  have hx := B.exec
  have hb := B.bytes
  have hr := B.returns
  have hts := atoms_spec (ws := cw_X11_handOn :: gw) B.pre
  have hown : s.vm.findClass RX11 = some m.cls := findClass_of_methodNamed B.named
  have hlocks := B.notSynchronized
  have hS : va_S (aG G) s.heap s.heap [] := va_S.rf
  have C : Cx p s m ([.ref (adr G xl0), .int zl1, .int zl2] : List Value).toArray meth c D G cX11_handOn 4 (some .int) (cw_X11_handOn :: gw) RX11 := ⟨hx, hb, hr, hlocks, hml, hown, hts, hK⟩
  have hl := lv_entry ([.ref (adr G xl0), .int zl1, .int zl2]) (n := 4) (Nat.le_of_ble_eq_true rfl)
  rw [lg_entry_eq]
  generalize (lg_sl ([.ref (adr G xl0), .int zl1, .int zl2]) ++ List.replicate (4 - (lg_sl ([.ref (adr G xl0), .int zl1, .int zl2])).length) Slot.unset).toArray = ls at hl ⊢
  have hl : lv_has ls 4 [(0, .ref (adr G xl0)), (1, .int zl1), (2, .int zl2)] := hl
  unfold wp_X11_handOn at h
  refine lv_aload_n hx hb dX11_handOn_0 rfl (lv_at hl 0 rfl) ?_
  refine lv_iload_n hx hb dX11_handOn_1 rfl (lv_at hl 2 rfl) ?_
  refine q_Vi hx hb hml hown hts hK hP hS (c_X11_isHand l D G S _ xl0 zl2 _ h.2) ⟨callB_of 1 hts (gw_good kw_881) rfl rfl rfl (hts _ (List.mem_cons_of_mem _ kw_1)) (hts _ (List.mem_cons_of_mem _ kw_878)) hd_X11_isHand ⟨Nat.le_of_ble_eq_true rfl, Nat.le_of_ble_eq_true rfl⟩, (hts _ (List.mem_cons_of_mem _ kw_880)), (hts _ (List.mem_cons_of_mem _ kp_29))⟩ h.1 (ci := 11) rfl (by decide) rfl hl.1 rfl (lv_room (Nat.le_of_ble_eq_true rfl)) dX11_handOn_2 ⟨Nat.zero_le _, Nat.zero_le _⟩ (fun z3 M1 H locs h hP hS => ?_)
  refine r_if_eq (tgt := 16) hx hb dX11_handOn_5 (by decide) h (fun h => ?_) (fun h => ?_)
  · refine r_iconst hx hb dX11_handOn_16 (by decide) h (fun z5 h => ?_)
    exact r_iret hx hb hr hlocks hP hS dX11_handOn_17 h
  · refine lv_aload_n hx hb dX11_handOn_8 rfl (lv_at hl 0 rfl) ?_
    refine lv_iload_n hx hb dX11_handOn_9 rfl (lv_at hl 1 rfl) ?_
    refine q_Vi hx hb hml hown hts hK hP hS (c_X11_isJug l D G S _ xl0 zl1 _ h.2) ⟨callB_of 1 hts (gw_good kw_893) rfl rfl rfl (hts _ (List.mem_cons_of_mem _ kw_1)) (hts _ (List.mem_cons_of_mem _ kw_890)) hd_X11_isJug ⟨Nat.le_of_ble_eq_true rfl, Nat.le_of_ble_eq_true rfl⟩, (hts _ (List.mem_cons_of_mem _ kw_892)), (hts _ (List.mem_cons_of_mem _ kp_30))⟩ h.1 (ci := 11) rfl (by decide) rfl hl.1 rfl (lv_room (Nat.le_of_ble_eq_true rfl)) dX11_handOn_10 ⟨Nat.zero_le _, Nat.zero_le _⟩ (fun z8 M6 H locs h hP hS => ?_)
    refine r_if_ne (tgt := 18) hx hb dX11_handOn_13 (by decide) h (fun h => ?_) (fun h => ?_)
    · refine lv_aload_n hx hb dX11_handOn_18 rfl (lv_at hl 0 rfl) ?_
      refine r_getr (C := RX11) (T := TX11) (N := 16) hx hb hts (fun w h => List.mem_cons_of_mem _ (iX11 w h)) hown hK hP rfl (by decide) rfl 1 (by decide) (hts _ (List.mem_cons_of_mem _ kw_492)) (fun _ h9 => h9) dX11_handOn_19 (by decide) h (fun x10 h => ?_)
      refine r_getrN (C := RX4) (T := TX4) (N := 10) hx hb hts (fun w h => List.mem_cons_of_mem _ (iX4 w h)) hown hK hP rfl (by decide) rfl 1 (by decide) (nw_73 hK) (fun _ h9 => h9) dX11_handOn_22 (by decide) h (fun x12 h => ?_)
      refine r_getrN (C := RX5) (T := TX5) (N := 9) hx hb hts (fun w h => List.mem_cons_of_mem _ (iX5 w h)) hown hK hP rfl (by decide) rfl 6 (by decide) (nw_62 hK) (fun _ h9 => h9) dX11_handOn_25 (by decide) h (fun x14 h => ?_)
      refine lv_iload_n hx hb dX11_handOn_28 rfl (lv_at hl 1 rfl) ?_
      refine r_iald hx hb hK hP dX11_handOn_29 h (fun z16 h => ?_)
      refine lv_istore_n (lv' := [(3, .int z16), (0, .ref (adr G xl0)), (1, .int zl1), (2, .int zl2)]) hx hb dX11_handOn_30 rfl hl (by decide) rfl (fun ls hl => ?_)
      refine lv_aload_n hx hb dX11_handOn_31 rfl (lv_at hl 1 rfl) ?_
      refine lv_iload_n hx hb dX11_handOn_32 rfl (lv_at hl 0 rfl) ?_
      refine q_Vi hx hb hml hown hts hK hP hS (c_X11_isHand l D G S _ xl0 z16 _ h.2) ⟨callB_of 1 hts (gw_good kw_881) rfl rfl rfl (hts _ (List.mem_cons_of_mem _ kw_1)) (hts _ (List.mem_cons_of_mem _ kw_878)) hd_X11_isHand ⟨Nat.le_of_ble_eq_true rfl, Nat.le_of_ble_eq_true rfl⟩, (hts _ (List.mem_cons_of_mem _ kw_880)), (hts _ (List.mem_cons_of_mem _ kp_29))⟩ h.1 (ci := 11) rfl (by decide) rfl hl.1 rfl (lv_room (Nat.le_of_ble_eq_true rfl)) dX11_handOn_33 ⟨Nat.zero_le _, Nat.zero_le _⟩ (fun z19 M17 H locs h hP hS => ?_)
      refine r_if_eq (tgt := 59) hx hb dX11_handOn_36 (by decide) h (fun h => ?_) (fun h => ?_)
      · refine r_iconst hx hb dX11_handOn_59 (by decide) h (fun z21 h => ?_)
        exact r_iret hx hb hr hlocks hP hS dX11_handOn_60 h
      · refine lv_iload_n hx hb dX11_handOn_39 rfl (lv_at hl 0 rfl) ?_
        refine lv_iload_n hx hb dX11_handOn_40 rfl (lv_at hl 3 rfl) ?_
        refine r_icmp_eq (tgt := 59) hx hb dX11_handOn_41 (by decide) h (fun h => ?_) (fun h => ?_)
        · refine r_iconst hx hb dX11_handOn_59 (by decide) h (fun z23 h => ?_)
          exact r_iret hx hb hr hlocks hP hS dX11_handOn_60 h
        · refine lv_aload_n hx hb dX11_handOn_44 rfl (lv_at hl 1 rfl) ?_
          refine r_getr (C := RX11) (T := TX11) (N := 16) hx hb hts (fun w h => List.mem_cons_of_mem _ (iX11 w h)) hown hK hP rfl (by decide) rfl 1 (by decide) (hts _ (List.mem_cons_of_mem _ kw_492)) (fun _ h9 => h9) dX11_handOn_45 (by decide) h (fun x25 h => ?_)
          refine r_getrN (C := RX4) (T := TX4) (N := 10) hx hb hts (fun w h => List.mem_cons_of_mem _ (iX4 w h)) hown hK hP rfl (by decide) rfl 1 (by decide) (nw_73 hK) (fun _ h9 => h9) dX11_handOn_48 (by decide) h (fun x27 h => ?_)
          refine lv_iload_n hx hb dX11_handOn_51 rfl (lv_at hl 0 rfl) ?_
          refine lv_iload_n hx hb dX11_handOn_52 rfl (lv_at hl 3 rfl) ?_
          refine q_Vi hx hb hml hown hts hK hP hS (c_X5_canGive l D G S _ x27 z16 zl2 _ h.2) ⟨callB_of 2 hts (gw_good kw_1027) rfl rfl rfl (hts _ (List.mem_cons_of_mem _ kw_5)) (hts _ (List.mem_cons_of_mem _ kw_1024)) hd_X5_canGive ⟨Nat.le_of_ble_eq_true rfl, Nat.le_of_ble_eq_true rfl⟩, (hts _ (List.mem_cons_of_mem _ kw_1025)), (hts _ (List.mem_cons_of_mem _ kw_1026))⟩ h.1 (ci := 5) rfl (by decide) rfl hl.1 rfl (lv_room (Nat.le_of_ble_eq_true rfl)) dX11_handOn_53 ⟨Nat.zero_le _, Nat.zero_le _⟩ (fun z30 M28 H locs h hP hS => ?_)
          refine r_if_ne (tgt := 61) hx hb dX11_handOn_56 (by decide) h (fun h => ?_) (fun h => ?_)
          · refine lv_aload_n hx hb dX11_handOn_61 rfl (lv_at hl 1 rfl) ?_
            refine q_Vv hx hb hml hown hts hK hP hS (c_X11_keepPast l D G S _ xl0 _ h.2) ⟨callB_of 0 hts (gw_good kw_921) rfl rfl rfl (hts _ (List.mem_cons_of_mem _ kw_1)) (hts _ (List.mem_cons_of_mem _ kw_918)) hd_X11_keepPast ⟨Nat.le_of_ble_eq_true rfl, Nat.le_of_ble_eq_true rfl⟩, (hts _ (List.mem_cons_of_mem _ kw_920)), (hts _ (List.mem_cons_of_mem _ kp_33))⟩ h.1 (ci := 11) rfl (by decide) rfl hl.1 rfl (lv_room (Nat.le_of_ble_eq_true rfl)) dX11_handOn_62 ⟨Nat.zero_le _, Nat.zero_le _⟩ (fun M31 H locs h hP hS => ?_)
            refine lv_aload_n hx hb dX11_handOn_65 rfl (lv_at hl 1 rfl) ?_
            refine r_getr (C := RX11) (T := TX11) (N := 16) hx hb hts (fun w h => List.mem_cons_of_mem _ (iX11 w h)) hown hK hP rfl (by decide) rfl 1 (by decide) (hts _ (List.mem_cons_of_mem _ kw_492)) (fun _ h9 => h9) dX11_handOn_66 (by decide) h (fun x33 h => ?_)
            refine r_getrN (C := RX4) (T := TX4) (N := 10) hx hb hts (fun w h => List.mem_cons_of_mem _ (iX4 w h)) hown hK hP rfl (by decide) rfl 1 (by decide) (nw_73 hK) (fun _ h9 => h9) dX11_handOn_69 (by decide) h (fun x35 h => ?_)
            refine lv_iload_n hx hb dX11_handOn_72 rfl (lv_at hl 3 rfl) ?_
            refine lv_iload_n hx hb dX11_handOn_73 rfl (lv_at hl 2 rfl) ?_
            refine q_Vv hx hb hml hown hts hK hP hS (c_X5_giveTo l D G S _ x35 zl2 zl1 _ h.2) ⟨callB_of 2 hts (gw_good kw_1014) rfl rfl rfl (hts _ (List.mem_cons_of_mem _ kw_5)) (hts _ (List.mem_cons_of_mem _ kw_1011)) hd_X5_giveTo ⟨Nat.le_of_ble_eq_true rfl, Nat.le_of_ble_eq_true rfl⟩, (hts _ (List.mem_cons_of_mem _ kw_1012)), (hts _ (List.mem_cons_of_mem _ kw_1013))⟩ h.1 (ci := 5) rfl (by decide) rfl hl.1 rfl (lv_room (Nat.le_of_ble_eq_true rfl)) dX11_handOn_74 ⟨Nat.zero_le _, Nat.zero_le _⟩ (fun M36 H locs h hP hS => ?_)
            refine lv_iload_n hx hb dX11_handOn_77 rfl (lv_at hl 0 rfl) ?_
            exact r_iret hx hb hr hlocks hP hS dX11_handOn_78 h
          · refine r_iconst hx hb dX11_handOn_59 (by decide) h (fun z38 h => ?_)
            exact r_iret hx hb hr hlocks hP hS dX11_handOn_60 h
    · refine r_iconst hx hb dX11_handOn_16 (by decide) h (fun z40 h => ?_)
      exact r_iret hx hb hr hlocks hP hS dX11_handOn_17 h
/-! TurningMilk.isPlace(I)Z -/
abbrev RM_X11_isPlace : Room := { frames := 1, cells := 0, slots := 0, locals := 40 }
def cw_X11_isPlace : Cond := Cond.code yX11_isPlace cX11_isPlace 2 (Option.some FieldType.boolean)
theorem hd_X11_isPlace : yX11_isPlace.cls ≠ "java/lang/invoke/MethodHandle" ∧ yX11_isPlace.cls ≠ "java/lang/invoke/VarHandle" ∧ (parseMethodDescriptor yX11_isPlace.desc).map (fun d => d.parameters.length) = some 1 := by decide +kernel
theorem dX11_isPlace_0 : decode cX11_isPlace 0 = .ok (.iload_n 1, 1) := by decide +kernel
theorem dX11_isPlace_1 : decode cX11_isPlace 1 = .ok (.ifCond .lt 21, 3) := by decide +kernel
theorem dX11_isPlace_4 : decode cX11_isPlace 4 = .ok (.iload_n 1, 1) := by decide +kernel
theorem dX11_isPlace_5 : decode cX11_isPlace 5 = .ok (.aload_n 0, 1) := by decide +kernel
theorem dX11_isPlace_6 : decode cX11_isPlace 6 = .ok (.getfield 19, 3) := by decide +kernel
theorem dX11_isPlace_9 : decode cX11_isPlace 9 = .ok (.getfield 57, 3) := by decide +kernel
theorem dX11_isPlace_12 : decode cX11_isPlace 12 = .ok (.getfield 166, 3) := by decide +kernel
theorem dX11_isPlace_15 : decode cX11_isPlace 15 = .ok (.if_icmp .ge 7, 3) := by decide +kernel
theorem dX11_isPlace_18 : decode cX11_isPlace 18 = .ok (.iconst 1, 1) := by decide +kernel
theorem dX11_isPlace_19 : decode cX11_isPlace 19 = .ok (.goto 4, 3) := by decide +kernel
theorem dX11_isPlace_22 : decode cX11_isPlace 22 = .ok (.iconst 0, 1) := by decide +kernel
theorem dX11_isPlace_23 : decode cX11_isPlace 23 = .ok (.ireturn, 1) := by decide +kernel
def wp_X11_isPlace (S : Sh) (M : Mm) (u0 : Int) (u1 : Int) (post : Int → Mm → Prop) : Prop := wIf (u1 < 0) (wC 0 fun v1 => (v1 = 0 ∨ v1 = 1) ∧ post v1 M) (wGetR S M u0 11 1 fun v3 => wGetR S M v3 4 0 fun v5 => wGet S M v5 8 0 fun v7 => wIf (v7 ≤ u1) (wC 0 fun v9 => (v9 = 0 ∨ v9 = 1) ∧ post v9 M) (wC 1 fun v11 => (v11 = 0 ∨ v11 = 1) ∧ post v11 M))
set_option maxHeartbeats 4000000 in
set_option maxRecDepth 100000 in
theorem c_X11_isPlace (l : Launch) (D : va_G) (G : Gt) (S : Sh) (M : Mm) (xl0 : Int) (zl1 : Int32) (post : Int → Mm → Prop) (h : wp_X11_isPlace S M xl0 zl1.toInt post) : Met l yX11_isPlace (cw_X11_isPlace :: gw) RM_X11_isPlace (va_Pc [.ref (adr G xl0), .int zl1] (fun U => KN D G U ∧ Wd D G S M U.heap)) (QI D G S post) 0 0 (aG G) := by
  refine Met.ofW (cc := cX11_isPlace) (maxL := 2) (ret := (some .boolean)) (by decide) rfl ?_
  intro p e s m args below meth c s₁ B hml hv
  obtain ⟨rfl, hK, hP⟩ := hv
  have hx := B.exec
  have hb := B.bytes
  have hr := B.returns
  have hts := atoms_spec (ws := cw_X11_isPlace :: gw) B.pre
  have hown : s.vm.findClass RX11 = some m.cls := findClass_of_methodNamed B.named
  have hlocks := B.notSynchronized
  have hS : va_S (aG G) s.heap s.heap [] := va_S.rf
  have C : Cx p s m ([.ref (adr G xl0), .int zl1] : List Value).toArray meth c D G cX11_isPlace 2 (some .boolean) (cw_X11_isPlace :: gw) RX11 := ⟨hx, hb, hr, hlocks, hml, hown, hts, hK⟩
  have hl := lv_entry ([.ref (adr G xl0), .int zl1]) (n := 2) (Nat.le_of_ble_eq_true rfl)
  rw [lg_entry_eq]
  generalize (lg_sl ([.ref (adr G xl0), .int zl1]) ++ List.replicate (2 - (lg_sl ([.ref (adr G xl0), .int zl1])).length) Slot.unset).toArray = ls at hl ⊢
  have hl : lv_has ls 2 [(0, .ref (adr G xl0)), (1, .int zl1)] := hl
  unfold wp_X11_isPlace at h
  refine lv_iload_n hx hb dX11_isPlace_0 rfl (lv_at hl 1 rfl) ?_
  refine r_if_lt (tgt := 22) hx hb dX11_isPlace_1 (by decide) h (fun h => ?_) (fun h => ?_)
  · refine r_iconst hx hb dX11_isPlace_22 (by decide) h (fun z2 h => ?_)
    exact r_zret hx hb hr hlocks hP hS dX11_isPlace_23 h
  · refine lv_iload_n hx hb dX11_isPlace_4 rfl (lv_at hl 1 rfl) ?_
    refine lv_aload_n hx hb dX11_isPlace_5 rfl (lv_at hl 0 rfl) ?_
    refine r_getr (C := RX11) (T := TX11) (N := 16) hx hb hts (fun w h => List.mem_cons_of_mem _ (iX11 w h)) hown hK hP rfl (by decide) rfl 1 (by decide) (hts _ (List.mem_cons_of_mem _ kw_492)) (fun _ h9 => h9) dX11_isPlace_6 (by decide) h (fun x4 h => ?_)
    refine r_getrN (C := RX4) (T := TX4) (N := 10) hx hb hts (fun w h => List.mem_cons_of_mem _ (iX4 w h)) hown hK hP rfl (by decide) rfl 0 (by decide) (nw_70 hK) (fun _ h9 => h9) dX11_isPlace_9 (by decide) h (fun x6 h => ?_)
    refine r_getiN (C := RX8) (T := TX8) (N := 19) hx hb hts (fun w h => List.mem_cons_of_mem _ (iX8 w h)) hown hK hP rfl (by decide) rfl 0 (by decide) (nw_4 hK) (fun _ h9 => h9) dX11_isPlace_12 (by decide) h (fun z8 h => ?_)
    refine r_icmp_ge (tgt := 22) hx hb dX11_isPlace_15 (by decide) h (fun h => ?_) (fun h => ?_)
    · refine r_iconst hx hb dX11_isPlace_22 (by decide) h (fun z10 h => ?_)
      exact r_zret hx hb hr hlocks hP hS dX11_isPlace_23 h
    · refine r_iconst hx hb dX11_isPlace_18 (by decide) h (fun z12 h => ?_)
      refine lv_goto (tgt := 23) hx hb dX11_isPlace_19 (by decide) ?_
      exact r_zret hx hb hr hlocks hP hS dX11_isPlace_23 h
/-! TurningMilk$State.roadFor(LTurningMilk$Told;II)I -/
abbrev RM_X5_roadFor : Room := { frames := 3, cells := 0, slots := 0, locals := 83 }
def cw_X5_roadFor : Cond := Cond.code yX5_roadFor cX5_roadFor 4 (Option.some FieldType.int)
theorem hd_X5_roadFor : yX5_roadFor.cls ≠ "java/lang/invoke/MethodHandle" ∧ yX5_roadFor.cls ≠ "java/lang/invoke/VarHandle" ∧ (parseMethodDescriptor yX5_roadFor.desc).map (fun d => d.parameters.length) = some 3 := by decide +kernel
theorem dX5_roadFor_0 : decode cX5_roadFor 0 = .ok (.aload_n 0, 1) := by decide +kernel
theorem dX5_roadFor_1 : decode cX5_roadFor 1 = .ok (.iload_n 2, 1) := by decide +kernel
theorem dX5_roadFor_2 : decode cX5_roadFor 2 = .ok (.invokevirtual 61, 3) := by decide +kernel
theorem dX5_roadFor_5 : decode cX5_roadFor 5 = .ok (.ifCond .eq 17, 3) := by decide +kernel
theorem dX5_roadFor_8 : decode cX5_roadFor 8 = .ok (.aload_n 1, 1) := by decide +kernel
theorem dX5_roadFor_9 : decode cX5_roadFor 9 = .ok (.aload_n 0, 1) := by decide +kernel
theorem dX5_roadFor_10 : decode cX5_roadFor 10 = .ok (.getfield 9, 3) := by decide +kernel
theorem dX5_roadFor_13 : decode cX5_roadFor 13 = .ok (.iload_n 2, 1) := by decide +kernel
theorem dX5_roadFor_14 : decode cX5_roadFor 14 = .ok (.iaload, 1) := by decide +kernel
theorem dX5_roadFor_15 : decode cX5_roadFor 15 = .ok (.iload_n 3, 1) := by decide +kernel
theorem dX5_roadFor_16 : decode cX5_roadFor 16 = .ok (.invokevirtual 74, 3) := by decide +kernel
theorem dX5_roadFor_19 : decode cX5_roadFor 19 = .ok (.goto 4, 3) := by decide +kernel
theorem dX5_roadFor_22 : decode cX5_roadFor 22 = .ok (.iconst 0, 1) := by decide +kernel
theorem dX5_roadFor_23 : decode cX5_roadFor 23 = .ok (.ireturn, 1) := by decide +kernel
def wp_X5_roadFor (S : Sh) (M : Mm) (u0 : Int) (u1 : Int) (u2 : Int) (u3 : Int) (post : Int → Mm → Prop) : Prop := isK S u0 5 ∧ (wp_X5_isAtPlace S M u0 u2 <| fun v2 M1 => wIf (v2 = 0) (wC 0 fun v4 => post v4 M1) (wGetR S M1 u0 5 2 fun v6 => wLd S M1 v6 14 u2 fun v8 => isK S u1 8 ∧ (wp_X8_roadHours S M1 u1 v8 u3 <| fun v11 M10 => post v11 M10)))
set_option maxHeartbeats 4000000 in
set_option maxRecDepth 100000 in
theorem c_X5_roadFor (l : Launch) (D : va_G) (G : Gt) (S : Sh) (M : Mm) (xl0 : Int) (xl1 : Int) (zl2 : Int32) (zl3 : Int32) (post : Int → Mm → Prop) (h : wp_X5_roadFor S M xl0 xl1 zl2.toInt zl3.toInt post) : Met l yX5_roadFor (cw_X5_roadFor :: gw) RM_X5_roadFor (va_Pc [.ref (adr G xl0), .ref (adr G xl1), .int zl2, .int zl3] (fun U => KN D G U ∧ Wd D G S M U.heap)) (QI D G S post) 0 0 (aG G) := by
  refine Met.ofW (cc := cX5_roadFor) (maxL := 4) (ret := (some .int)) (by decide) rfl ?_
  intro p e s m args below meth c s₁ B hml hv
  obtain ⟨rfl, hK, hP⟩ := hv
  have hx := B.exec
  have hb := B.bytes
  have hr := B.returns
  have hts := atoms_spec (ws := cw_X5_roadFor :: gw) B.pre
  have hown : s.vm.findClass RX5 = some m.cls := findClass_of_methodNamed B.named
  have hlocks := B.notSynchronized
  have hS : va_S (aG G) s.heap s.heap [] := va_S.rf
  have C : Cx p s m ([.ref (adr G xl0), .ref (adr G xl1), .int zl2, .int zl3] : List Value).toArray meth c D G cX5_roadFor 4 (some .int) (cw_X5_roadFor :: gw) RX5 := ⟨hx, hb, hr, hlocks, hml, hown, hts, hK⟩
  have hl := lv_entry ([.ref (adr G xl0), .ref (adr G xl1), .int zl2, .int zl3]) (n := 4) (Nat.le_of_ble_eq_true rfl)
  rw [lg_entry_eq]
  generalize (lg_sl ([.ref (adr G xl0), .ref (adr G xl1), .int zl2, .int zl3]) ++ List.replicate (4 - (lg_sl ([.ref (adr G xl0), .ref (adr G xl1), .int zl2, .int zl3])).length) Slot.unset).toArray = ls at hl ⊢
  have hl : lv_has ls 4 [(0, .ref (adr G xl0)), (1, .ref (adr G xl1)), (2, .int zl2), (3, .int zl3)] := hl
  unfold wp_X5_roadFor at h
  refine lv_aload_n hx hb dX5_roadFor_0 rfl (lv_at hl 0 rfl) ?_
  refine lv_iload_n hx hb dX5_roadFor_1 rfl (lv_at hl 2 rfl) ?_
  refine q_Vi hx hb hml hown hts hK hP hS (c_X5_isAtPlace l D G S _ xl0 zl2 _ h.2) ⟨callB_of 1 hts (gw_good kw_951) rfl rfl rfl (hts _ (List.mem_cons_of_mem _ kw_5)) (hts _ (List.mem_cons_of_mem _ kw_1009)) hd_X5_isAtPlace ⟨Nat.le_of_ble_eq_true rfl, Nat.le_of_ble_eq_true rfl⟩, (hts _ (List.mem_cons_of_mem _ kw_949)), (hts _ (List.mem_cons_of_mem _ kw_950))⟩ h.1 (ci := 5) rfl (by decide) rfl hl.1 rfl (lv_room (Nat.le_of_ble_eq_true rfl)) dX5_roadFor_2 ⟨Nat.zero_le _, Nat.zero_le _⟩ (fun z3 M1 H locs h hP hS => ?_)
  refine r_if_eq (tgt := 22) hx hb dX5_roadFor_5 (by decide) h (fun h => ?_) (fun h => ?_)
  · refine r_iconst hx hb dX5_roadFor_22 (by decide) h (fun z5 h => ?_)
    exact r_iret hx hb hr hlocks hP hS dX5_roadFor_23 h
  · refine lv_aload_n hx hb dX5_roadFor_8 rfl (lv_at hl 1 rfl) ?_
    refine lv_aload_n hx hb dX5_roadFor_9 rfl (lv_at hl 0 rfl) ?_
    refine r_getr (C := RX5) (T := TX5) (N := 9) hx hb hts (fun w h => List.mem_cons_of_mem _ (iX5 w h)) hown hK hP rfl (by decide) rfl 2 (by decide) (hts _ (List.mem_cons_of_mem _ kw_186)) (fun _ h9 => h9) dX5_roadFor_10 (by decide) h (fun x7 h => ?_)
    refine lv_iload_n hx hb dX5_roadFor_13 rfl (lv_at hl 2 rfl) ?_
    refine r_iald hx hb hK hP dX5_roadFor_14 h (fun z9 h => ?_)
    refine lv_iload_n hx hb dX5_roadFor_15 rfl (lv_at hl 3 rfl) ?_
    refine q_Vi hx hb hml hown hts hK hP hS (c_X8_roadHours l D G S _ xl1 z9 zl3 _ h.2) ⟨callB_of 2 hts (gw_good kw_685) rfl rfl rfl (hts _ (List.mem_cons_of_mem _ kw_4)) (hts _ (List.mem_cons_of_mem _ kw_1040)) hd_X8_roadHours ⟨Nat.le_of_ble_eq_true rfl, Nat.le_of_ble_eq_true rfl⟩, (hts _ (List.mem_cons_of_mem _ kw_683)), (hts _ (List.mem_cons_of_mem _ kw_684))⟩ h.1 (ci := 8) rfl (by decide) rfl hl.1 rfl (lv_room (Nat.le_of_ble_eq_true rfl)) dX5_roadFor_16 ⟨Nat.zero_le _, Nat.zero_le _⟩ (fun z12 M10 H locs h hP hS => ?_)
    refine lv_goto (tgt := 23) hx hb dX5_roadFor_19 (by decide) ?_
    exact r_iret hx hb hr hlocks hP hS dX5_roadFor_23 h
/-! TurningMilk$State.setOut(III)V -/
abbrev RM_X5_setOut : Room := { frames := 1, cells := 0, slots := 0, locals := 40 }
def cw_X5_setOut : Cond := Cond.code yX5_setOut cX5_setOut 4 (Option.none : Option FieldType)
theorem hd_X5_setOut : yX5_setOut.cls ≠ "java/lang/invoke/MethodHandle" ∧ yX5_setOut.cls ≠ "java/lang/invoke/VarHandle" ∧ (parseMethodDescriptor yX5_setOut.desc).map (fun d => d.parameters.length) = some 3 := by decide +kernel
theorem dX5_setOut_0 : decode cX5_setOut 0 = .ok (.aload_n 0, 1) := by decide +kernel
theorem dX5_setOut_1 : decode cX5_setOut 1 = .ok (.getfield 9, 3) := by decide +kernel
theorem dX5_setOut_4 : decode cX5_setOut 4 = .ok (.iload_n 1, 1) := by decide +kernel
theorem dX5_setOut_5 : decode cX5_setOut 5 = .ok (.iload_n 2, 1) := by decide +kernel
theorem dX5_setOut_6 : decode cX5_setOut 6 = .ok (.iastore, 1) := by decide +kernel
theorem dX5_setOut_7 : decode cX5_setOut 7 = .ok (.aload_n 0, 1) := by decide +kernel
theorem dX5_setOut_8 : decode cX5_setOut 8 = .ok (.getfield 15, 3) := by decide +kernel
theorem dX5_setOut_11 : decode cX5_setOut 11 = .ok (.iload_n 1, 1) := by decide +kernel
theorem dX5_setOut_12 : decode cX5_setOut 12 = .ok (.iload_n 3, 1) := by decide +kernel
theorem dX5_setOut_13 : decode cX5_setOut 13 = .ok (.iastore, 1) := by decide +kernel
theorem dX5_setOut_14 : decode cX5_setOut 14 = .ok (.return_, 1) := by decide +kernel
def wp_X5_setOut (S : Sh) (M : Mm) (u0 : Int) (u1 : Int) (u2 : Int) (u3 : Int) (post : Mm → Prop) : Prop := wGetR S M u0 5 2 fun v1 => wSt S M v1 14 u1 u2 fun M3 => wGetR S M3 u0 5 3 fun v4 => wSt S M3 v4 14 u1 u3 fun M6 => post M6
set_option maxHeartbeats 4000000 in
set_option maxRecDepth 100000 in
theorem c_X5_setOut (l : Launch) (D : va_G) (G : Gt) (S : Sh) (M : Mm) (xl0 : Int) (zl1 : Int32) (zl2 : Int32) (zl3 : Int32) (post : Mm → Prop) (h : wp_X5_setOut S M xl0 zl1.toInt zl2.toInt zl3.toInt post) : Met l yX5_setOut (cw_X5_setOut :: gw) RM_X5_setOut (va_Pc [.ref (adr G xl0), .int zl1, .int zl2, .int zl3] (fun U => KN D G U ∧ Wd D G S M U.heap)) (QV D G S post) 0 0 (aG G) := by
  refine Met.ofW (cc := cX5_setOut) (maxL := 4) (ret := none) (by decide) rfl ?_
  intro p e s m args below meth c s₁ B hml hv
  obtain ⟨rfl, hK, hP⟩ := hv
  have hx := B.exec
  have hb := B.bytes
  have hr := B.returns
  have hts := atoms_spec (ws := cw_X5_setOut :: gw) B.pre
  have hown : s.vm.findClass RX5 = some m.cls := findClass_of_methodNamed B.named
  have hlocks := B.notSynchronized
  have hS : va_S (aG G) s.heap s.heap [] := va_S.rf
  have C : Cx p s m ([.ref (adr G xl0), .int zl1, .int zl2, .int zl3] : List Value).toArray meth c D G cX5_setOut 4 none (cw_X5_setOut :: gw) RX5 := ⟨hx, hb, hr, hlocks, hml, hown, hts, hK⟩
  have hl := lv_entry ([.ref (adr G xl0), .int zl1, .int zl2, .int zl3]) (n := 4) (Nat.le_of_ble_eq_true rfl)
  rw [lg_entry_eq]
  generalize (lg_sl ([.ref (adr G xl0), .int zl1, .int zl2, .int zl3]) ++ List.replicate (4 - (lg_sl ([.ref (adr G xl0), .int zl1, .int zl2, .int zl3])).length) Slot.unset).toArray = ls at hl ⊢
  have hl : lv_has ls 4 [(0, .ref (adr G xl0)), (1, .int zl1), (2, .int zl2), (3, .int zl3)] := hl
  unfold wp_X5_setOut at h
  refine lv_aload_n hx hb dX5_setOut_0 rfl (lv_at hl 0 rfl) ?_
  refine r_getr (C := RX5) (T := TX5) (N := 9) hx hb hts (fun w h => List.mem_cons_of_mem _ (iX5 w h)) hown hK hP rfl (by decide) rfl 2 (by decide) (hts _ (List.mem_cons_of_mem _ kw_186)) (fun _ h9 => h9) dX5_setOut_1 (by decide) h (fun x2 h => ?_)
  refine lv_iload_n hx hb dX5_setOut_4 rfl (lv_at hl 1 rfl) ?_
  refine lv_iload_n hx hb dX5_setOut_5 rfl (lv_at hl 2 rfl) ?_
  refine r_iast hx hb hK hP hS dX5_setOut_6 h (fun M3 H locs h hP hS => ?_)
  refine lv_aload_n hx hb dX5_setOut_7 rfl (lv_at hl 0 rfl) ?_
  refine r_getr (C := RX5) (T := TX5) (N := 9) hx hb hts (fun w h => List.mem_cons_of_mem _ (iX5 w h)) hown hK hP rfl (by decide) rfl 3 (by decide) (hts _ (List.mem_cons_of_mem _ kw_189)) (fun _ h9 => h9) dX5_setOut_8 (by decide) h (fun x5 h => ?_)
  refine lv_iload_n hx hb dX5_setOut_11 rfl (lv_at hl 1 rfl) ?_
  refine lv_iload_n hx hb dX5_setOut_12 rfl (lv_at hl 3 rfl) ?_
  refine r_iast hx hb hK hP hS dX5_setOut_13 h (fun M6 H locs h hP hS => ?_)
  exact r_vret hx hb hr hlocks hP hS dX5_setOut_14 h
/-! TurningMilk.go(II)I -/
abbrev RM_X11_go : Room := { frames := 4, cells := 0, slots := 0, locals := 106 }
def cw_X11_go : Cond := Cond.code yX11_go cX11_go 4 (Option.some FieldType.int)
theorem hd_X11_go : yX11_go.cls ≠ "java/lang/invoke/MethodHandle" ∧ yX11_go.cls ≠ "java/lang/invoke/VarHandle" ∧ (parseMethodDescriptor yX11_go.desc).map (fun d => d.parameters.length) = some 2 := by decide +kernel
theorem dX11_go_0 : decode cX11_go 0 = .ok (.aload_n 0, 1) := by decide +kernel
theorem dX11_go_1 : decode cX11_go 1 = .ok (.iload_n 1, 1) := by decide +kernel
theorem dX11_go_2 : decode cX11_go 2 = .ok (.invokevirtual 181, 3) := by decide +kernel
theorem dX11_go_5 : decode cX11_go 5 = .ok (.ifCond .eq 11, 3) := by decide +kernel
theorem dX11_go_8 : decode cX11_go 8 = .ok (.aload_n 0, 1) := by decide +kernel
theorem dX11_go_9 : decode cX11_go 9 = .ok (.iload_n 2, 1) := by decide +kernel
theorem dX11_go_10 : decode cX11_go 10 = .ok (.invokevirtual 275, 3) := by decide +kernel
theorem dX11_go_13 : decode cX11_go 13 = .ok (.ifCond .ne 5, 3) := by decide +kernel
theorem dX11_go_16 : decode cX11_go 16 = .ok (.iconst (-1), 1) := by decide +kernel
theorem dX11_go_17 : decode cX11_go 17 = .ok (.ireturn, 1) := by decide +kernel
theorem dX11_go_18 : decode cX11_go 18 = .ok (.aload_n 0, 1) := by decide +kernel
theorem dX11_go_19 : decode cX11_go 19 = .ok (.getfield 19, 3) := by decide +kernel
theorem dX11_go_22 : decode cX11_go 22 = .ok (.getfield 133, 3) := by decide +kernel
theorem dX11_go_25 : decode cX11_go 25 = .ok (.aload_n 0, 1) := by decide +kernel
theorem dX11_go_26 : decode cX11_go 26 = .ok (.getfield 19, 3) := by decide +kernel
theorem dX11_go_29 : decode cX11_go 29 = .ok (.getfield 57, 3) := by decide +kernel
theorem dX11_go_32 : decode cX11_go 32 = .ok (.iload_n 1, 1) := by decide +kernel
theorem dX11_go_33 : decode cX11_go 33 = .ok (.iload_n 2, 1) := by decide +kernel
theorem dX11_go_34 : decode cX11_go 34 = .ok (.invokevirtual 278, 3) := by decide +kernel
theorem dX11_go_37 : decode cX11_go 37 = .ok (.istore_n 3, 1) := by decide +kernel
theorem dX11_go_38 : decode cX11_go 38 = .ok (.iload_n 3, 1) := by decide +kernel
theorem dX11_go_39 : decode cX11_go 39 = .ok (.ifCond .ne 5, 3) := by decide +kernel
theorem dX11_go_42 : decode cX11_go 42 = .ok (.iconst (-1), 1) := by decide +kernel
theorem dX11_go_43 : decode cX11_go 43 = .ok (.ireturn, 1) := by decide +kernel
theorem dX11_go_44 : decode cX11_go 44 = .ok (.aload_n 0, 1) := by decide +kernel
theorem dX11_go_45 : decode cX11_go 45 = .ok (.invokevirtual 255, 3) := by decide +kernel
theorem dX11_go_48 : decode cX11_go 48 = .ok (.aload_n 0, 1) := by decide +kernel
theorem dX11_go_49 : decode cX11_go 49 = .ok (.getfield 19, 3) := by decide +kernel
theorem dX11_go_52 : decode cX11_go 52 = .ok (.getfield 133, 3) := by decide +kernel
theorem dX11_go_55 : decode cX11_go 55 = .ok (.iload_n 1, 1) := by decide +kernel
theorem dX11_go_56 : decode cX11_go 56 = .ok (.iload_n 2, 1) := by decide +kernel
theorem dX11_go_57 : decode cX11_go 57 = .ok (.iload_n 3, 1) := by decide +kernel
theorem dX11_go_58 : decode cX11_go 58 = .ok (.invokevirtual 282, 3) := by decide +kernel
theorem dX11_go_61 : decode cX11_go 61 = .ok (.iload_n 3, 1) := by decide +kernel
theorem dX11_go_62 : decode cX11_go 62 = .ok (.ireturn, 1) := by decide +kernel
def wp_X11_go (S : Sh) (M : Mm) (u0 : Int) (u1 : Int) (u2 : Int) (post : Int → Mm → Prop) : Prop := isK S u0 11 ∧ (wp_X11_isHand S M u0 u1 <| fun v2 M1 => wIf (v2 = 0) (wC (-1) fun v4 => post v4 M1) (isK S u0 11 ∧ (wp_X11_isPlace S M1 u0 u2 <| fun v7 M6 => wIf (¬ v7 = 0) (wGetR S M6 u0 11 1 fun v9 => wGetR S M6 v9 4 1 fun v11 => wGetR S M6 u0 11 1 fun v13 => wGetR S M6 v13 4 0 fun v15 => isK S v11 5 ∧ (wp_X5_roadFor S M6 v11 v15 u1 u2 <| fun v18 M17 => wIf (¬ v18 = 0) (isK S u0 11 ∧ (wp_X11_keepPast S M17 u0 <| fun M20 => wGetR S M20 u0 11 1 fun v21 => wGetR S M20 v21 4 1 fun v23 => isK S v23 5 ∧ (wp_X5_setOut S M20 v23 u1 u2 v18 <| fun M25 => post v18 M25))) (wC (-1) fun v26 => post v26 M17))) (wC (-1) fun v28 => post v28 M6))))
set_option maxHeartbeats 4000000 in
set_option maxRecDepth 100000 in
theorem c_X11_go (l : Launch) (D : va_G) (G : Gt) (S : Sh) (M : Mm) (xl0 : Int) (zl1 : Int32) (zl2 : Int32) (post : Int → Mm → Prop) (h : wp_X11_go S M xl0 zl1.toInt zl2.toInt post) : Met l yX11_go (cw_X11_go :: gw) RM_X11_go (va_Pc [.ref (adr G xl0), .int zl1, .int zl2] (fun U => KN D G U ∧ Wd D G S M U.heap)) (QI D G S post) 0 0 (aG G) := by
  refine Met.ofW (cc := cX11_go) (maxL := 4) (ret := (some .int)) (by decide) rfl ?_
  intro p e s m args below meth c s₁ B hml hv
  obtain ⟨rfl, hK, hP⟩ := hv
  have hx := B.exec
  have hb := B.bytes
  have hr := B.returns
  have hts := atoms_spec (ws := cw_X11_go :: gw) B.pre
  have hown : s.vm.findClass RX11 = some m.cls := findClass_of_methodNamed B.named
  have hlocks := B.notSynchronized
  have hS : va_S (aG G) s.heap s.heap [] := va_S.rf
  have C : Cx p s m ([.ref (adr G xl0), .int zl1, .int zl2] : List Value).toArray meth c D G cX11_go 4 (some .int) (cw_X11_go :: gw) RX11 := ⟨hx, hb, hr, hlocks, hml, hown, hts, hK⟩
  have hl := lv_entry ([.ref (adr G xl0), .int zl1, .int zl2]) (n := 4) (Nat.le_of_ble_eq_true rfl)
  rw [lg_entry_eq]
  generalize (lg_sl ([.ref (adr G xl0), .int zl1, .int zl2]) ++ List.replicate (4 - (lg_sl ([.ref (adr G xl0), .int zl1, .int zl2])).length) Slot.unset).toArray = ls at hl ⊢
  have hl : lv_has ls 4 [(0, .ref (adr G xl0)), (1, .int zl1), (2, .int zl2)] := hl
  unfold wp_X11_go at h
  refine lv_aload_n hx hb dX11_go_0 rfl (lv_at hl 0 rfl) ?_
  refine lv_iload_n hx hb dX11_go_1 rfl (lv_at hl 1 rfl) ?_
  refine q_Vi hx hb hml hown hts hK hP hS (c_X11_isHand l D G S _ xl0 zl1 _ h.2) ⟨callB_of 1 hts (gw_good kw_881) rfl rfl rfl (hts _ (List.mem_cons_of_mem _ kw_1)) (hts _ (List.mem_cons_of_mem _ kw_878)) hd_X11_isHand ⟨Nat.le_of_ble_eq_true rfl, Nat.le_of_ble_eq_true rfl⟩, (hts _ (List.mem_cons_of_mem _ kw_880)), (hts _ (List.mem_cons_of_mem _ kp_29))⟩ h.1 (ci := 11) rfl (by decide) rfl hl.1 rfl (lv_room (Nat.le_of_ble_eq_true rfl)) dX11_go_2 ⟨Nat.zero_le _, Nat.zero_le _⟩ (fun z3 M1 H locs h hP hS => ?_)
  refine r_if_eq (tgt := 16) hx hb dX11_go_5 (by decide) h (fun h => ?_) (fun h => ?_)
  · refine r_iconst hx hb dX11_go_16 (by decide) h (fun z5 h => ?_)
    exact r_iret hx hb hr hlocks hP hS dX11_go_17 h
  · refine lv_aload_n hx hb dX11_go_8 rfl (lv_at hl 0 rfl) ?_
    refine lv_iload_n hx hb dX11_go_9 rfl (lv_at hl 2 rfl) ?_
    refine q_Vi hx hb hml hown hts hK hP hS (c_X11_isPlace l D G S _ xl0 zl2 _ h.2) ⟨callB_of 1 hts (gw_good kw_1035) rfl rfl rfl (hts _ (List.mem_cons_of_mem _ kw_1)) (hts _ (List.mem_cons_of_mem _ kw_1032)) hd_X11_isPlace ⟨Nat.le_of_ble_eq_true rfl, Nat.le_of_ble_eq_true rfl⟩, (hts _ (List.mem_cons_of_mem _ kw_1034)), (hts _ (List.mem_cons_of_mem _ kp_38))⟩ h.1 (ci := 11) rfl (by decide) rfl hl.1 rfl (lv_room (Nat.le_of_ble_eq_true rfl)) dX11_go_10 ⟨Nat.zero_le _, Nat.zero_le _⟩ (fun z8 M6 H locs h hP hS => ?_)
    refine r_if_ne (tgt := 18) hx hb dX11_go_13 (by decide) h (fun h => ?_) (fun h => ?_)
    · refine lv_aload_n hx hb dX11_go_18 rfl (lv_at hl 0 rfl) ?_
      refine r_getr (C := RX11) (T := TX11) (N := 16) hx hb hts (fun w h => List.mem_cons_of_mem _ (iX11 w h)) hown hK hP rfl (by decide) rfl 1 (by decide) (hts _ (List.mem_cons_of_mem _ kw_492)) (fun _ h9 => h9) dX11_go_19 (by decide) h (fun x10 h => ?_)
      refine r_getrN (C := RX4) (T := TX4) (N := 10) hx hb hts (fun w h => List.mem_cons_of_mem _ (iX4 w h)) hown hK hP rfl (by decide) rfl 1 (by decide) (nw_73 hK) (fun _ h9 => h9) dX11_go_22 (by decide) h (fun x12 h => ?_)
      refine lv_aload_n hx hb dX11_go_25 rfl (lv_at hl 0 rfl) ?_
      refine r_getr (C := RX11) (T := TX11) (N := 16) hx hb hts (fun w h => List.mem_cons_of_mem _ (iX11 w h)) hown hK hP rfl (by decide) rfl 1 (by decide) (hts _ (List.mem_cons_of_mem _ kw_492)) (fun _ h9 => h9) dX11_go_26 (by decide) h (fun x14 h => ?_)
      refine r_getrN (C := RX4) (T := TX4) (N := 10) hx hb hts (fun w h => List.mem_cons_of_mem _ (iX4 w h)) hown hK hP rfl (by decide) rfl 0 (by decide) (nw_70 hK) (fun _ h9 => h9) dX11_go_29 (by decide) h (fun x16 h => ?_)
      refine lv_iload_n hx hb dX11_go_32 rfl (lv_at hl 1 rfl) ?_
      refine lv_iload_n hx hb dX11_go_33 rfl (lv_at hl 2 rfl) ?_
      refine q_Vi hx hb hml hown hts hK hP hS (c_X5_roadFor l D G S _ x12 x16 zl1 zl2 _ h.2) ⟨callB_of 3 hts (gw_good kw_1039) rfl rfl rfl (hts _ (List.mem_cons_of_mem _ kw_5)) (hts _ (List.mem_cons_of_mem _ kw_1036)) hd_X5_roadFor ⟨Nat.le_of_ble_eq_true rfl, Nat.le_of_ble_eq_true rfl⟩, (hts _ (List.mem_cons_of_mem _ kw_1037)), (hts _ (List.mem_cons_of_mem _ kw_1038))⟩ h.1 (ci := 5) rfl (by decide) rfl hl.1 rfl (lv_room (Nat.le_of_ble_eq_true rfl)) dX11_go_34 ⟨Nat.zero_le _, Nat.zero_le _⟩ (fun z19 M17 H locs h hP hS => ?_)
      refine lv_istore_n (lv' := [(3, .int z19), (0, .ref (adr G xl0)), (1, .int zl1), (2, .int zl2)]) hx hb dX11_go_37 rfl hl (by decide) rfl (fun ls hl => ?_)
      refine lv_iload_n hx hb dX11_go_38 rfl (lv_at hl 0 rfl) ?_
      refine r_if_ne (tgt := 44) hx hb dX11_go_39 (by decide) h (fun h => ?_) (fun h => ?_)
      · refine lv_aload_n hx hb dX11_go_44 rfl (lv_at hl 1 rfl) ?_
        refine q_Vv hx hb hml hown hts hK hP hS (c_X11_keepPast l D G S _ xl0 _ h.2) ⟨callB_of 0 hts (gw_good kw_921) rfl rfl rfl (hts _ (List.mem_cons_of_mem _ kw_1)) (hts _ (List.mem_cons_of_mem _ kw_918)) hd_X11_keepPast ⟨Nat.le_of_ble_eq_true rfl, Nat.le_of_ble_eq_true rfl⟩, (hts _ (List.mem_cons_of_mem _ kw_920)), (hts _ (List.mem_cons_of_mem _ kp_33))⟩ h.1 (ci := 11) rfl (by decide) rfl hl.1 rfl (lv_room (Nat.le_of_ble_eq_true rfl)) dX11_go_45 ⟨Nat.zero_le _, Nat.zero_le _⟩ (fun M20 H locs h hP hS => ?_)
        refine lv_aload_n hx hb dX11_go_48 rfl (lv_at hl 1 rfl) ?_
        refine r_getr (C := RX11) (T := TX11) (N := 16) hx hb hts (fun w h => List.mem_cons_of_mem _ (iX11 w h)) hown hK hP rfl (by decide) rfl 1 (by decide) (hts _ (List.mem_cons_of_mem _ kw_492)) (fun _ h9 => h9) dX11_go_49 (by decide) h (fun x22 h => ?_)
        refine r_getrN (C := RX4) (T := TX4) (N := 10) hx hb hts (fun w h => List.mem_cons_of_mem _ (iX4 w h)) hown hK hP rfl (by decide) rfl 1 (by decide) (nw_73 hK) (fun _ h9 => h9) dX11_go_52 (by decide) h (fun x24 h => ?_)
        refine lv_iload_n hx hb dX11_go_55 rfl (lv_at hl 2 rfl) ?_
        refine lv_iload_n hx hb dX11_go_56 rfl (lv_at hl 3 rfl) ?_
        refine lv_iload_n hx hb dX11_go_57 rfl (lv_at hl 0 rfl) ?_
        refine q_Vv hx hb hml hown hts hK hP hS (c_X5_setOut l D G S _ x24 zl1 zl2 z19 _ h.2) ⟨callB_of 3 hts (gw_good kw_1044) rfl rfl rfl (hts _ (List.mem_cons_of_mem _ kw_5)) (hts _ (List.mem_cons_of_mem _ kw_1041)) hd_X5_setOut ⟨Nat.le_of_ble_eq_true rfl, Nat.le_of_ble_eq_true rfl⟩, (hts _ (List.mem_cons_of_mem _ kw_1042)), (hts _ (List.mem_cons_of_mem _ kw_1043))⟩ h.1 (ci := 5) rfl (by decide) rfl hl.1 rfl (lv_room (Nat.le_of_ble_eq_true rfl)) dX11_go_58 ⟨Nat.zero_le _, Nat.zero_le _⟩ (fun M25 H locs h hP hS => ?_)
        refine lv_iload_n hx hb dX11_go_61 rfl (lv_at hl 0 rfl) ?_
        exact r_iret hx hb hr hlocks hP hS dX11_go_62 h
      · refine r_iconst hx hb dX11_go_42 (by decide) h (fun z27 h => ?_)
        exact r_iret hx hb hr hlocks hP hS dX11_go_43 h
    · refine r_iconst hx hb dX11_go_16 (by decide) h (fun z29 h => ?_)
      exact r_iret hx hb hr hlocks hP hS dX11_go_17 h
/-! TurningMilk.meet(I)I -/
abbrev RM_X11_meet : Room := { frames := 3, cells := 0, slots := 0, locals := 101 }
def cw_X11_meet : Cond := Cond.code yX11_meet cX11_meet 3 (Option.some FieldType.int)
theorem hd_X11_meet : yX11_meet.cls ≠ "java/lang/invoke/MethodHandle" ∧ yX11_meet.cls ≠ "java/lang/invoke/VarHandle" ∧ (parseMethodDescriptor yX11_meet.desc).map (fun d => d.parameters.length) = some 1 := by decide +kernel
theorem dX11_meet_0 : decode cX11_meet 0 = .ok (.aload_n 0, 1) := by decide +kernel
theorem dX11_meet_1 : decode cX11_meet 1 = .ok (.iload_n 1, 1) := by decide +kernel
theorem dX11_meet_2 : decode cX11_meet 2 = .ok (.invokevirtual 218, 3) := by decide +kernel
theorem dX11_meet_5 : decode cX11_meet 5 = .ok (.ifCond .eq 11, 3) := by decide +kernel
theorem dX11_meet_8 : decode cX11_meet 8 = .ok (.aload_n 0, 1) := by decide +kernel
theorem dX11_meet_9 : decode cX11_meet 9 = .ok (.iload_n 1, 1) := by decide +kernel
theorem dX11_meet_10 : decode cX11_meet 10 = .ok (.invokevirtual 236, 3) := by decide +kernel
theorem dX11_meet_13 : decode cX11_meet 13 = .ok (.goto 4, 3) := by decide +kernel
theorem dX11_meet_16 : decode cX11_meet 16 = .ok (.iconst (-1), 1) := by decide +kernel
theorem dX11_meet_17 : decode cX11_meet 17 = .ok (.istore_n 2, 1) := by decide +kernel
theorem dX11_meet_18 : decode cX11_meet 18 = .ok (.iload_n 2, 1) := by decide +kernel
theorem dX11_meet_19 : decode cX11_meet 19 = .ok (.iconst (-1), 1) := by decide +kernel
theorem dX11_meet_20 : decode cX11_meet 20 = .ok (.if_icmp .ne 5, 3) := by decide +kernel
theorem dX11_meet_23 : decode cX11_meet 23 = .ok (.iconst (-1), 1) := by decide +kernel
theorem dX11_meet_24 : decode cX11_meet 24 = .ok (.ireturn, 1) := by decide +kernel
theorem dX11_meet_25 : decode cX11_meet 25 = .ok (.aload_n 0, 1) := by decide +kernel
theorem dX11_meet_26 : decode cX11_meet 26 = .ok (.invokevirtual 255, 3) := by decide +kernel
theorem dX11_meet_29 : decode cX11_meet 29 = .ok (.aload_n 0, 1) := by decide +kernel
theorem dX11_meet_30 : decode cX11_meet 30 = .ok (.getfield 19, 3) := by decide +kernel
theorem dX11_meet_33 : decode cX11_meet 33 = .ok (.getfield 133, 3) := by decide +kernel
theorem dX11_meet_36 : decode cX11_meet 36 = .ok (.getfield 233, 3) := by decide +kernel
theorem dX11_meet_39 : decode cX11_meet 39 = .ok (.iload_n 1, 1) := by decide +kernel
theorem dX11_meet_40 : decode cX11_meet 40 = .ok (.aload_n 0, 1) := by decide +kernel
theorem dX11_meet_41 : decode cX11_meet 41 = .ok (.getfield 19, 3) := by decide +kernel
theorem dX11_meet_44 : decode cX11_meet 44 = .ok (.getfield 133, 3) := by decide +kernel
theorem dX11_meet_47 : decode cX11_meet 47 = .ok (.getfield 252, 3) := by decide +kernel
theorem dX11_meet_50 : decode cX11_meet 50 = .ok (.iastore, 1) := by decide +kernel
theorem dX11_meet_51 : decode cX11_meet 51 = .ok (.aload_n 0, 1) := by decide +kernel
theorem dX11_meet_52 : decode cX11_meet 52 = .ok (.getfield 19, 3) := by decide +kernel
theorem dX11_meet_55 : decode cX11_meet 55 = .ok (.getfield 133, 3) := by decide +kernel
theorem dX11_meet_58 : decode cX11_meet 58 = .ok (.dup, 1) := by decide +kernel
theorem dX11_meet_59 : decode cX11_meet 59 = .ok (.getfield 286, 3) := by decide +kernel
theorem dX11_meet_62 : decode cX11_meet 62 = .ok (.aload_n 0, 1) := by decide +kernel
theorem dX11_meet_63 : decode cX11_meet 63 = .ok (.getfield 19, 3) := by decide +kernel
theorem dX11_meet_66 : decode cX11_meet 66 = .ok (.getfield 57, 3) := by decide +kernel
theorem dX11_meet_69 : decode cX11_meet 69 = .ok (.getfield 230, 3) := by decide +kernel
theorem dX11_meet_72 : decode cX11_meet 72 = .ok (.iload_n 1, 1) := by decide +kernel
theorem dX11_meet_73 : decode cX11_meet 73 = .ok (.iaload, 1) := by decide +kernel
theorem dX11_meet_74 : decode cX11_meet 74 = .ok (.iadd, 1) := by decide +kernel
theorem dX11_meet_75 : decode cX11_meet 75 = .ok (.putfield 286, 3) := by decide +kernel
theorem dX11_meet_78 : decode cX11_meet 78 = .ok (.aload_n 0, 1) := by decide +kernel
theorem dX11_meet_79 : decode cX11_meet 79 = .ok (.getfield 19, 3) := by decide +kernel
theorem dX11_meet_82 : decode cX11_meet 82 = .ok (.getfield 133, 3) := by decide +kernel
theorem dX11_meet_85 : decode cX11_meet 85 = .ok (.getfield 203, 3) := by decide +kernel
theorem dX11_meet_88 : decode cX11_meet 88 = .ok (.iload_n 2, 1) := by decide +kernel
theorem dX11_meet_89 : decode cX11_meet 89 = .ok (.iconst (-1), 1) := by decide +kernel
theorem dX11_meet_90 : decode cX11_meet 90 = .ok (.iastore, 1) := by decide +kernel
theorem dX11_meet_91 : decode cX11_meet 91 = .ok (.iload_n 2, 1) := by decide +kernel
theorem dX11_meet_92 : decode cX11_meet 92 = .ok (.ireturn, 1) := by decide +kernel
def wp_X11_meet_17 (S : Sh) (post : Int → Mm → Prop) (u0 : Int) (u1 : Int) (t0 : Int) (M : Mm) : Prop := wC (-1) fun v1 => wIf (¬ t0 = v1) (isK S u0 11 ∧ (wp_X11_keepPast S M u0 <| fun M3 => wGetR S M3 u0 11 1 fun v4 => wGetR S M3 v4 4 1 fun v6 => wGetR S M3 v6 5 8 fun v8 => wGetR S M3 u0 11 1 fun v10 => wGetR S M3 v10 4 1 fun v12 => wGet S M3 v12 5 0 fun v14 => wSt S M3 v8 14 u1 v14 fun M16 => wGetR S M16 u0 11 1 fun v17 => wGetR S M16 v17 4 1 fun v19 => wGet S M16 v19 5 1 fun v21 => wGetR S M16 u0 11 1 fun v23 => wGetR S M16 v23 4 0 fun v25 => wGetR S M16 v25 8 18 fun v27 => wLd S M16 v27 14 u1 fun v29 => wA v21 v29 fun v31 => wPut S M16 v19 5 1 v31 fun M33 => wGetR S M33 u0 11 1 fun v34 => wGetR S M33 v34 4 1 fun v36 => wGetR S M33 v36 5 5 fun v38 => wC (-1) fun v40 => wSt S M33 v38 14 t0 v40 fun M42 => post t0 M42)) (wC (-1) fun v43 => post v43 M)
def wp_X11_meet (S : Sh) (M : Mm) (u0 : Int) (u1 : Int) (post : Int → Mm → Prop) : Prop := isK S u0 11 ∧ (wp_X11_isWant S M u0 u1 <| fun v46 M45 => wIf (v46 = 0) (wC (-1) fun v48 => wp_X11_meet_17 S post u0 u1 v48 M45) (isK S u0 11 ∧ (wp_X11_jugFor S M45 u0 u1 <| fun v51 M50 => wp_X11_meet_17 S post u0 u1 v51 M50)))
set_option maxHeartbeats 4000000 in
set_option maxRecDepth 100000 in
theorem t_X11_meet_17 {p : Program} {l : Launch} {e : Env} {s : State} {m : MethodId} {args : Array Value} {below : List Frame} {meth : Method} {c : Code} {D : va_G} {G : Gt} {S : Sh} {post : Int → Mm → Prop} (C : Cx p s m args meth c D G cX11_meet 3 (some .int) (cw_X11_meet :: gw) RX11) : ∀ (xl0 : Int) (zl1 : Int32) (zs0 : Int32) (M : Mm) (H : Heap) (locs : List Loc) (ls : Array Slot), Wd D G S M H → va_S (aG G) s.heap H locs → lv_has ls 3 [(0, .ref (adr G xl0)), (1, .int zl1)] → wp_X11_meet_17 S post xl0 zl1.toInt zs0.toInt M → W p l e RM_X11_meet s m args below meth c H locs 0 0 (MQ below (QI D G S post) args s 0 0 (aG G)) (F0 m 17 ls [.int zs0]) := by
  obtain ⟨hx, hb, hr, hlocks, hml, hown, hts, hK⟩ := id C
  intro xl0 zl1 zs0 M H locs ls hP hS hl h
  unfold wp_X11_meet_17 at h
  refine lv_istore_n (lv' := [(2, .int zs0), (0, .ref (adr G xl0)), (1, .int zl1)]) hx hb dX11_meet_17 rfl hl (by decide) rfl (fun ls hl => ?_)
  refine lv_iload_n hx hb dX11_meet_18 rfl (lv_at hl 0 rfl) ?_
  refine r_iconst hx hb dX11_meet_19 (by decide) h (fun z2 h => ?_)
  refine r_icmp_ne (tgt := 25) hx hb dX11_meet_20 (by decide) h (fun h => ?_) (fun h => ?_)
  · refine lv_aload_n hx hb dX11_meet_25 rfl (lv_at hl 1 rfl) ?_
    refine q_Vv hx hb hml hown hts hK hP hS (c_X11_keepPast l D G S _ xl0 _ h.2) ⟨callB_of 0 hts (gw_good kw_921) rfl rfl rfl (hts _ (List.mem_cons_of_mem _ kw_1)) (hts _ (List.mem_cons_of_mem _ kw_918)) hd_X11_keepPast ⟨Nat.le_of_ble_eq_true rfl, Nat.le_of_ble_eq_true rfl⟩, (hts _ (List.mem_cons_of_mem _ kw_920)), (hts _ (List.mem_cons_of_mem _ kp_33))⟩ h.1 (ci := 11) rfl (by decide) rfl hl.1 rfl (lv_room (Nat.le_of_ble_eq_true rfl)) dX11_meet_26 ⟨Nat.zero_le _, Nat.zero_le _⟩ (fun M3 H locs h hP hS => ?_)
    refine lv_aload_n hx hb dX11_meet_29 rfl (lv_at hl 1 rfl) ?_
    refine r_getr (C := RX11) (T := TX11) (N := 16) hx hb hts (fun w h => List.mem_cons_of_mem _ (iX11 w h)) hown hK hP rfl (by decide) rfl 1 (by decide) (hts _ (List.mem_cons_of_mem _ kw_492)) (fun _ h9 => h9) dX11_meet_30 (by decide) h (fun x5 h => ?_)
    refine r_getrN (C := RX4) (T := TX4) (N := 10) hx hb hts (fun w h => List.mem_cons_of_mem _ (iX4 w h)) hown hK hP rfl (by decide) rfl 1 (by decide) (nw_73 hK) (fun _ h9 => h9) dX11_meet_33 (by decide) h (fun x7 h => ?_)
    refine r_getrN (C := RX5) (T := TX5) (N := 9) hx hb hts (fun w h => List.mem_cons_of_mem _ (iX5 w h)) hown hK hP rfl (by decide) rfl 8 (by decide) (nw_69 hK) (fun _ h9 => h9) dX11_meet_36 (by decide) h (fun x9 h => ?_)
    refine lv_iload_n hx hb dX11_meet_39 rfl (lv_at hl 2 rfl) ?_
    refine lv_aload_n hx hb dX11_meet_40 rfl (lv_at hl 1 rfl) ?_
    refine r_getr (C := RX11) (T := TX11) (N := 16) hx hb hts (fun w h => List.mem_cons_of_mem _ (iX11 w h)) hown hK hP rfl (by decide) rfl 1 (by decide) (hts _ (List.mem_cons_of_mem _ kw_492)) (fun _ h9 => h9) dX11_meet_41 (by decide) h (fun x11 h => ?_)
    refine r_getrN (C := RX4) (T := TX4) (N := 10) hx hb hts (fun w h => List.mem_cons_of_mem _ (iX4 w h)) hown hK hP rfl (by decide) rfl 1 (by decide) (nw_73 hK) (fun _ h9 => h9) dX11_meet_44 (by decide) h (fun x13 h => ?_)
    refine r_getiN (C := RX5) (T := TX5) (N := 9) hx hb hts (fun w h => List.mem_cons_of_mem _ (iX5 w h)) hown hK hP rfl (by decide) rfl 0 (by decide) (nw_49 hK) (fun _ h9 => h9) dX11_meet_47 (by decide) h (fun z15 h => ?_)
    refine r_iast hx hb hK hP hS dX11_meet_50 h (fun M16 H locs h hP hS => ?_)
    refine lv_aload_n hx hb dX11_meet_51 rfl (lv_at hl 1 rfl) ?_
    refine r_getr (C := RX11) (T := TX11) (N := 16) hx hb hts (fun w h => List.mem_cons_of_mem _ (iX11 w h)) hown hK hP rfl (by decide) rfl 1 (by decide) (hts _ (List.mem_cons_of_mem _ kw_492)) (fun _ h9 => h9) dX11_meet_52 (by decide) h (fun x18 h => ?_)
    refine r_getrN (C := RX4) (T := TX4) (N := 10) hx hb hts (fun w h => List.mem_cons_of_mem _ (iX4 w h)) hown hK hP rfl (by decide) rfl 1 (by decide) (nw_73 hK) (fun _ h9 => h9) dX11_meet_55 (by decide) h (fun x20 h => ?_)
    refine lv_dup hx hb dX11_meet_58 rfl ?_
    refine r_getiN (C := RX5) (T := TX5) (N := 9) hx hb hts (fun w h => List.mem_cons_of_mem _ (iX5 w h)) hown hK hP rfl (by decide) rfl 1 (by decide) (nw_50 hK) (fun _ h9 => h9) dX11_meet_59 (by decide) h (fun z22 h => ?_)
    refine lv_aload_n hx hb dX11_meet_62 rfl (lv_at hl 1 rfl) ?_
    refine r_getr (C := RX11) (T := TX11) (N := 16) hx hb hts (fun w h => List.mem_cons_of_mem _ (iX11 w h)) hown hK hP rfl (by decide) rfl 1 (by decide) (hts _ (List.mem_cons_of_mem _ kw_492)) (fun _ h9 => h9) dX11_meet_63 (by decide) h (fun x24 h => ?_)
    refine r_getrN (C := RX4) (T := TX4) (N := 10) hx hb hts (fun w h => List.mem_cons_of_mem _ (iX4 w h)) hown hK hP rfl (by decide) rfl 0 (by decide) (nw_70 hK) (fun _ h9 => h9) dX11_meet_66 (by decide) h (fun x26 h => ?_)
    refine r_getrN (C := RX8) (T := TX8) (N := 19) hx hb hts (fun w h => List.mem_cons_of_mem _ (iX8 w h)) hown hK hP rfl (by decide) rfl 18 (by decide) (nw_45 hK) (fun _ h9 => h9) dX11_meet_69 (by decide) h (fun x28 h => ?_)
    refine lv_iload_n hx hb dX11_meet_72 rfl (lv_at hl 2 rfl) ?_
    refine r_iald hx hb hK hP dX11_meet_73 h (fun z30 h => ?_)
    refine r_iadd hx hb dX11_meet_74 h (fun z32 h => ?_)
    refine r_putiN (C := RX5) (T := TX5) (N := 9) hx hb hts (fun w h => List.mem_cons_of_mem _ (iX5 w h)) hown hK hP tyX5 tyX5_ok nmX5 hS rfl (by decide) rfl 1 (by decide) (nw_50 hK) (fun _ h9 => h9) rfl (tyX5_ok 1 (by decide)) rfl rfl dX11_meet_75 (by decide) h (fun M33 H locs h hP hS => ?_)
    refine lv_aload_n hx hb dX11_meet_78 rfl (lv_at hl 1 rfl) ?_
    refine r_getr (C := RX11) (T := TX11) (N := 16) hx hb hts (fun w h => List.mem_cons_of_mem _ (iX11 w h)) hown hK hP rfl (by decide) rfl 1 (by decide) (hts _ (List.mem_cons_of_mem _ kw_492)) (fun _ h9 => h9) dX11_meet_79 (by decide) h (fun x35 h => ?_)
    refine r_getrN (C := RX4) (T := TX4) (N := 10) hx hb hts (fun w h => List.mem_cons_of_mem _ (iX4 w h)) hown hK hP rfl (by decide) rfl 1 (by decide) (nw_73 hK) (fun _ h9 => h9) dX11_meet_82 (by decide) h (fun x37 h => ?_)
    refine r_getrN (C := RX5) (T := TX5) (N := 9) hx hb hts (fun w h => List.mem_cons_of_mem _ (iX5 w h)) hown hK hP rfl (by decide) rfl 5 (by decide) (nw_60 hK) (fun _ h9 => h9) dX11_meet_85 (by decide) h (fun x39 h => ?_)
    refine lv_iload_n hx hb dX11_meet_88 rfl (lv_at hl 0 rfl) ?_
    refine r_iconst hx hb dX11_meet_89 (by decide) h (fun z41 h => ?_)
    refine r_iast hx hb hK hP hS dX11_meet_90 h (fun M42 H locs h hP hS => ?_)
    refine lv_iload_n hx hb dX11_meet_91 rfl (lv_at hl 0 rfl) ?_
    exact r_iret hx hb hr hlocks hP hS dX11_meet_92 h
  · refine r_iconst hx hb dX11_meet_23 (by decide) h (fun z44 h => ?_)
    exact r_iret hx hb hr hlocks hP hS dX11_meet_24 h
set_option maxHeartbeats 4000000 in
set_option maxRecDepth 100000 in
theorem c_X11_meet (l : Launch) (D : va_G) (G : Gt) (S : Sh) (M : Mm) (xl0 : Int) (zl1 : Int32) (post : Int → Mm → Prop) (h : wp_X11_meet S M xl0 zl1.toInt post) : Met l yX11_meet (cw_X11_meet :: gw) RM_X11_meet (va_Pc [.ref (adr G xl0), .int zl1] (fun U => KN D G U ∧ Wd D G S M U.heap)) (QI D G S post) 0 0 (aG G) := by
  refine Met.ofW (cc := cX11_meet) (maxL := 3) (ret := (some .int)) (by decide) rfl ?_
  intro p e s m args below meth c s₁ B hml hv
  obtain ⟨rfl, hK, hP⟩ := hv
  have hx := B.exec
  have hb := B.bytes
  have hr := B.returns
  have hts := atoms_spec (ws := cw_X11_meet :: gw) B.pre
  have hown : s.vm.findClass RX11 = some m.cls := findClass_of_methodNamed B.named
  have hlocks := B.notSynchronized
  have hS : va_S (aG G) s.heap s.heap [] := va_S.rf
  have C : Cx p s m ([.ref (adr G xl0), .int zl1] : List Value).toArray meth c D G cX11_meet 3 (some .int) (cw_X11_meet :: gw) RX11 := ⟨hx, hb, hr, hlocks, hml, hown, hts, hK⟩
  have hl := lv_entry ([.ref (adr G xl0), .int zl1]) (n := 3) (Nat.le_of_ble_eq_true rfl)
  rw [lg_entry_eq]
  generalize (lg_sl ([.ref (adr G xl0), .int zl1]) ++ List.replicate (3 - (lg_sl ([.ref (adr G xl0), .int zl1])).length) Slot.unset).toArray = ls at hl ⊢
  have hl : lv_has ls 3 [(0, .ref (adr G xl0)), (1, .int zl1)] := hl
  unfold wp_X11_meet at h
  refine lv_aload_n hx hb dX11_meet_0 rfl (lv_at hl 0 rfl) ?_
  refine lv_iload_n hx hb dX11_meet_1 rfl (lv_at hl 1 rfl) ?_
  refine q_Vi hx hb hml hown hts hK hP hS (c_X11_isWant l D G S _ xl0 zl1 _ h.2) ⟨callB_of 1 hts (gw_good kw_905) rfl rfl rfl (hts _ (List.mem_cons_of_mem _ kw_1)) (hts _ (List.mem_cons_of_mem _ kw_902)) hd_X11_isWant ⟨Nat.le_of_ble_eq_true rfl, Nat.le_of_ble_eq_true rfl⟩, (hts _ (List.mem_cons_of_mem _ kw_904)), (hts _ (List.mem_cons_of_mem _ kp_31))⟩ h.1 (ci := 11) rfl (by decide) rfl hl.1 rfl (lv_room (Nat.le_of_ble_eq_true rfl)) dX11_meet_2 ⟨Nat.zero_le _, Nat.zero_le _⟩ (fun z47 M45 H locs h hP hS => ?_)
  refine r_if_eq (tgt := 16) hx hb dX11_meet_5 (by decide) h (fun h => ?_) (fun h => ?_)
  · refine r_iconst hx hb dX11_meet_16 (by decide) h (fun z49 h => ?_)
    exact t_X11_meet_17 C xl0 zl1 z49 _ _ _ _ hP hS (lv_sub hl [0, 1] rfl) h
  · refine lv_aload_n hx hb dX11_meet_8 rfl (lv_at hl 0 rfl) ?_
    refine lv_iload_n hx hb dX11_meet_9 rfl (lv_at hl 1 rfl) ?_
    refine q_Vi hx hb hml hown hts hK hP hS (c_X11_jugFor l D G S _ xl0 zl1 _ h.2) ⟨callB_of 1 hts (gw_good kw_909) rfl rfl rfl (hts _ (List.mem_cons_of_mem _ kw_1)) (hts _ (List.mem_cons_of_mem _ kw_906)) hd_X11_jugFor ⟨Nat.le_of_ble_eq_true rfl, Nat.le_of_ble_eq_true rfl⟩, (hts _ (List.mem_cons_of_mem _ kw_908)), (hts _ (List.mem_cons_of_mem _ kp_32))⟩ h.1 (ci := 11) rfl (by decide) rfl hl.1 rfl (lv_room (Nat.le_of_ble_eq_true rfl)) dX11_meet_10 ⟨Nat.zero_le _, Nat.zero_le _⟩ (fun z52 M50 H locs h hP hS => ?_)
    refine lv_goto (tgt := 17) hx hb dX11_meet_13 (by decide) ?_
    exact t_X11_meet_17 C xl0 zl1 z52 _ _ _ _ hP hS (lv_sub hl [0, 1] rfl) h
/-! TurningMilk.undo()I -/
abbrev RM_X11_undo : Room := { frames := 2, cells := 0, slots := 0, locals := 81 }
def cw_X11_undo : Cond := Cond.code yX11_undo cX11_undo 1 (Option.some FieldType.int)
theorem hd_X11_undo : yX11_undo.cls ≠ "java/lang/invoke/MethodHandle" ∧ yX11_undo.cls ≠ "java/lang/invoke/VarHandle" ∧ (parseMethodDescriptor yX11_undo.desc).map (fun d => d.parameters.length) = some 0 := by decide +kernel
theorem dX11_undo_0 : decode cX11_undo 0 = .ok (.aload_n 0, 1) := by decide +kernel
theorem dX11_undo_1 : decode cX11_undo 1 = .ok (.getfield 143, 3) := by decide +kernel
theorem dX11_undo_4 : decode cX11_undo 4 = .ok (.ifCond .ne 5, 3) := by decide +kernel
theorem dX11_undo_7 : decode cX11_undo 7 = .ok (.iconst (-1), 1) := by decide +kernel
theorem dX11_undo_8 : decode cX11_undo 8 = .ok (.ireturn, 1) := by decide +kernel
theorem dX11_undo_9 : decode cX11_undo 9 = .ok (.aload_n 0, 1) := by decide +kernel
theorem dX11_undo_10 : decode cX11_undo 10 = .ok (.aload_n 0, 1) := by decide +kernel
theorem dX11_undo_11 : decode cX11_undo 11 = .ok (.getfield 243, 3) := by decide +kernel
theorem dX11_undo_14 : decode cX11_undo 14 = .ok (.bipush 20, 2) := by decide +kernel
theorem dX11_undo_16 : decode cX11_undo 16 = .ok (.iadd, 1) := by decide +kernel
theorem dX11_undo_17 : decode cX11_undo 17 = .ok (.iconst 1, 1) := by decide +kernel
theorem dX11_undo_18 : decode cX11_undo 18 = .ok (.isub, 1) := by decide +kernel
theorem dX11_undo_19 : decode cX11_undo 19 = .ok (.bipush 20, 2) := by decide +kernel
theorem dX11_undo_21 : decode cX11_undo 21 = .ok (.irem, 1) := by decide +kernel
theorem dX11_undo_22 : decode cX11_undo 22 = .ok (.putfield 243, 3) := by decide +kernel
theorem dX11_undo_25 : decode cX11_undo 25 = .ok (.aload_n 0, 1) := by decide +kernel
theorem dX11_undo_26 : decode cX11_undo 26 = .ok (.dup, 1) := by decide +kernel
theorem dX11_undo_27 : decode cX11_undo 27 = .ok (.getfield 143, 3) := by decide +kernel
theorem dX11_undo_30 : decode cX11_undo 30 = .ok (.iconst 1, 1) := by decide +kernel
theorem dX11_undo_31 : decode cX11_undo 31 = .ok (.isub, 1) := by decide +kernel
theorem dX11_undo_32 : decode cX11_undo 32 = .ok (.putfield 143, 3) := by decide +kernel
theorem dX11_undo_35 : decode cX11_undo 35 = .ok (.aload_n 0, 1) := by decide +kernel
theorem dX11_undo_36 : decode cX11_undo 36 = .ok (.getfield 19, 3) := by decide +kernel
theorem dX11_undo_39 : decode cX11_undo 39 = .ok (.getfield 133, 3) := by decide +kernel
theorem dX11_undo_42 : decode cX11_undo 42 = .ok (.aload_n 0, 1) := by decide +kernel
theorem dX11_undo_43 : decode cX11_undo 43 = .ok (.getfield 29, 3) := by decide +kernel
theorem dX11_undo_46 : decode cX11_undo 46 = .ok (.aload_n 0, 1) := by decide +kernel
theorem dX11_undo_47 : decode cX11_undo 47 = .ok (.getfield 243, 3) := by decide +kernel
theorem dX11_undo_50 : decode cX11_undo 50 = .ok (.aaload, 1) := by decide +kernel
theorem dX11_undo_51 : decode cX11_undo 51 = .ok (.invokevirtual 137, 3) := by decide +kernel
theorem dX11_undo_54 : decode cX11_undo 54 = .ok (.aload_n 0, 1) := by decide +kernel
theorem dX11_undo_55 : decode cX11_undo 55 = .ok (.getfield 143, 3) := by decide +kernel
theorem dX11_undo_58 : decode cX11_undo 58 = .ok (.ireturn, 1) := by decide +kernel
def wp_X11_undo (S : Sh) (M : Mm) (u0 : Int) (post : Int → Mm → Prop) : Prop := wGet S M u0 11 5 fun v1 => wIf (¬ v1 = 0) (wGet S M u0 11 4 fun v3 => wC 20 fun v5 => wA v3 v5 fun v7 => wC 1 fun v9 => wS v7 v9 fun v11 => wC 20 fun v13 => wD iRem v11 v13 fun v15 => wPut S M u0 11 4 v15 fun M17 => wGet S M17 u0 11 5 fun v18 => wC 1 fun v20 => wS v18 v20 fun v22 => wPut S M17 u0 11 5 v22 fun M24 => wGetR S M24 u0 11 1 fun v25 => wGetR S M24 v25 4 1 fun v27 => wGetR S M24 u0 11 3 fun v29 => wGet S M24 u0 11 4 fun v31 => wLdR S M24 v29 18 v31 fun v33 => isK S v27 5 ∧ (wp_X5_become S M24 v27 v33 <| fun M35 => wGet S M35 u0 11 5 fun v36 => post v36 M35)) (wC (-1) fun v38 => post v38 M)
set_option maxHeartbeats 4000000 in
set_option maxRecDepth 100000 in
theorem c_X11_undo (l : Launch) (D : va_G) (G : Gt) (S : Sh) (M : Mm) (xl0 : Int) (post : Int → Mm → Prop) (h : wp_X11_undo S M xl0 post) : Met l yX11_undo (cw_X11_undo :: gw) RM_X11_undo (va_Pc [.ref (adr G xl0)] (fun U => KN D G U ∧ Wd D G S M U.heap)) (QI D G S post) 0 0 (aG G) := by
  refine Met.ofW (cc := cX11_undo) (maxL := 1) (ret := (some .int)) (by decide) rfl ?_
  intro p e s m args below meth c s₁ B hml hv
  obtain ⟨rfl, hK, hP⟩ := hv
  have hx := B.exec
  have hb := B.bytes
  have hr := B.returns
  have hts := atoms_spec (ws := cw_X11_undo :: gw) B.pre
  have hown : s.vm.findClass RX11 = some m.cls := findClass_of_methodNamed B.named
  have hlocks := B.notSynchronized
  have hS : va_S (aG G) s.heap s.heap [] := va_S.rf
  have C : Cx p s m ([.ref (adr G xl0)] : List Value).toArray meth c D G cX11_undo 1 (some .int) (cw_X11_undo :: gw) RX11 := ⟨hx, hb, hr, hlocks, hml, hown, hts, hK⟩
  have hl := lv_entry ([.ref (adr G xl0)]) (n := 1) (Nat.le_of_ble_eq_true rfl)
  rw [lg_entry_eq]
  generalize (lg_sl ([.ref (adr G xl0)]) ++ List.replicate (1 - (lg_sl ([.ref (adr G xl0)])).length) Slot.unset).toArray = ls at hl ⊢
  have hl : lv_has ls 1 [(0, .ref (adr G xl0))] := hl
  unfold wp_X11_undo at h
  refine lv_aload_n hx hb dX11_undo_0 rfl (lv_at hl 0 rfl) ?_
  refine r_geti (C := RX11) (T := TX11) (N := 16) hx hb hts (fun w h => List.mem_cons_of_mem _ (iX11 w h)) hown hK hP rfl (by decide) rfl 5 (by decide) (hts _ (List.mem_cons_of_mem _ kw_496)) (fun _ h9 => h9) dX11_undo_1 (by decide) h (fun z2 h => ?_)
  refine r_if_ne (tgt := 9) hx hb dX11_undo_4 (by decide) h (fun h => ?_) (fun h => ?_)
  · refine lv_aload_n hx hb dX11_undo_9 rfl (lv_at hl 0 rfl) ?_
    refine lv_aload_n hx hb dX11_undo_10 rfl (lv_at hl 0 rfl) ?_
    refine r_geti (C := RX11) (T := TX11) (N := 16) hx hb hts (fun w h => List.mem_cons_of_mem _ (iX11 w h)) hown hK hP rfl (by decide) rfl 4 (by decide) (hts _ (List.mem_cons_of_mem _ kw_495)) (fun _ h9 => h9) dX11_undo_11 (by decide) h (fun z4 h => ?_)
    refine r_bipush hx hb dX11_undo_14 (by decide) h (fun z6 h => ?_)
    refine r_iadd hx hb dX11_undo_16 h (fun z8 h => ?_)
    refine r_iconst hx hb dX11_undo_17 (by decide) h (fun z10 h => ?_)
    refine r_isub hx hb dX11_undo_18 h (fun z12 h => ?_)
    refine r_bipush hx hb dX11_undo_19 (by decide) h (fun z14 h => ?_)
    refine r_irem hx hb dX11_undo_21 h (fun z16 h => ?_)
    refine r_puti (C := RX11) (T := TX11) (N := 16) hx hb hts (fun w h => List.mem_cons_of_mem _ (iX11 w h)) hown hK hP tyX11 tyX11_ok nmX11 hS rfl (by decide) rfl 4 (by decide) (hts _ (List.mem_cons_of_mem _ kw_495)) (fun _ h9 => h9) rfl (tyX11_ok 4 (by decide)) rfl rfl dX11_undo_22 (by decide) h (fun M17 H locs h hP hS => ?_)
    refine lv_aload_n hx hb dX11_undo_25 rfl (lv_at hl 0 rfl) ?_
    refine lv_dup hx hb dX11_undo_26 rfl ?_
    refine r_geti (C := RX11) (T := TX11) (N := 16) hx hb hts (fun w h => List.mem_cons_of_mem _ (iX11 w h)) hown hK hP rfl (by decide) rfl 5 (by decide) (hts _ (List.mem_cons_of_mem _ kw_496)) (fun _ h9 => h9) dX11_undo_27 (by decide) h (fun z19 h => ?_)
    refine r_iconst hx hb dX11_undo_30 (by decide) h (fun z21 h => ?_)
    refine r_isub hx hb dX11_undo_31 h (fun z23 h => ?_)
    refine r_puti (C := RX11) (T := TX11) (N := 16) hx hb hts (fun w h => List.mem_cons_of_mem _ (iX11 w h)) hown hK hP tyX11 tyX11_ok nmX11 hS rfl (by decide) rfl 5 (by decide) (hts _ (List.mem_cons_of_mem _ kw_496)) (fun _ h9 => h9) rfl (tyX11_ok 5 (by decide)) rfl rfl dX11_undo_32 (by decide) h (fun M24 H locs h hP hS => ?_)
    refine lv_aload_n hx hb dX11_undo_35 rfl (lv_at hl 0 rfl) ?_
    refine r_getr (C := RX11) (T := TX11) (N := 16) hx hb hts (fun w h => List.mem_cons_of_mem _ (iX11 w h)) hown hK hP rfl (by decide) rfl 1 (by decide) (hts _ (List.mem_cons_of_mem _ kw_492)) (fun _ h9 => h9) dX11_undo_36 (by decide) h (fun x26 h => ?_)
    refine r_getrN (C := RX4) (T := TX4) (N := 10) hx hb hts (fun w h => List.mem_cons_of_mem _ (iX4 w h)) hown hK hP rfl (by decide) rfl 1 (by decide) (nw_73 hK) (fun _ h9 => h9) dX11_undo_39 (by decide) h (fun x28 h => ?_)
    refine lv_aload_n hx hb dX11_undo_42 rfl (lv_at hl 0 rfl) ?_
    refine r_getr (C := RX11) (T := TX11) (N := 16) hx hb hts (fun w h => List.mem_cons_of_mem _ (iX11 w h)) hown hK hP rfl (by decide) rfl 3 (by decide) (hts _ (List.mem_cons_of_mem _ kw_494)) (fun _ h9 => h9) dX11_undo_43 (by decide) h (fun x30 h => ?_)
    refine lv_aload_n hx hb dX11_undo_46 rfl (lv_at hl 0 rfl) ?_
    refine r_geti (C := RX11) (T := TX11) (N := 16) hx hb hts (fun w h => List.mem_cons_of_mem _ (iX11 w h)) hown hK hP rfl (by decide) rfl 4 (by decide) (hts _ (List.mem_cons_of_mem _ kw_495)) (fun _ h9 => h9) dX11_undo_47 (by decide) h (fun z32 h => ?_)
    refine r_aald18 hx hb hK hP dX11_undo_50 h (fun x34 h => ?_)
    refine q_Vv hx hb hml hown hts hK hP hS (c_X5_become l D G S _ x28 x34 _ h.2) ⟨callB_of 1 hts (gw_good kw_735) rfl rfl rfl (hts _ (List.mem_cons_of_mem _ kw_5)) (hts _ (List.mem_cons_of_mem _ kw_732)) hd_X5_become ⟨Nat.le_of_ble_eq_true rfl, Nat.le_of_ble_eq_true rfl⟩, (hts _ (List.mem_cons_of_mem _ kw_733)), (hts _ (List.mem_cons_of_mem _ kw_734))⟩ h.1 (ci := 5) rfl (by decide) rfl hl.1 rfl (lv_room (Nat.le_of_ble_eq_true rfl)) dX11_undo_51 ⟨Nat.zero_le _, Nat.zero_le _⟩ (fun M35 H locs h hP hS => ?_)
    refine lv_aload_n hx hb dX11_undo_54 rfl (lv_at hl 0 rfl) ?_
    refine r_geti (C := RX11) (T := TX11) (N := 16) hx hb hts (fun w h => List.mem_cons_of_mem _ (iX11 w h)) hown hK hP rfl (by decide) rfl 5 (by decide) (hts _ (List.mem_cons_of_mem _ kw_496)) (fun _ h9 => h9) dX11_undo_55 (by decide) h (fun z37 h => ?_)
    exact r_iret hx hb hr hlocks hP hS dX11_undo_58 h
  · refine r_iconst hx hb dX11_undo_7 (by decide) h (fun z39 h => ?_)
    exact r_iret hx hb hr hlocks hP hS dX11_undo_8 h
/-! TurningMilk$Hours.passSeveral(LTurningMilk$State;I)V -/
abbrev RM_X1_passSeveral : Room := { frames := 6, cells := 0, slots := 0, locals := 153 }
def cw_X1_passSeveral : Cond := Cond.code yX1_passSeveral cX1_passSeveral 4 (Option.none : Option FieldType)
theorem hd_X1_passSeveral : yX1_passSeveral.cls ≠ "java/lang/invoke/MethodHandle" ∧ yX1_passSeveral.cls ≠ "java/lang/invoke/VarHandle" ∧ (parseMethodDescriptor yX1_passSeveral.desc).map (fun d => d.parameters.length) = some 2 := by decide +kernel
theorem dX1_passSeveral_0 : decode cX1_passSeveral 0 = .ok (.iconst 0, 1) := by decide +kernel
theorem dX1_passSeveral_1 : decode cX1_passSeveral 1 = .ok (.istore_n 3, 1) := by decide +kernel
theorem dX1_passSeveral_2 : decode cX1_passSeveral 2 = .ok (.iload_n 3, 1) := by decide +kernel
theorem dX1_passSeveral_3 : decode cX1_passSeveral 3 = .ok (.iload_n 2, 1) := by decide +kernel
theorem dX1_passSeveral_4 : decode cX1_passSeveral 4 = .ok (.if_icmp .ge 15, 3) := by decide +kernel
theorem dX1_passSeveral_7 : decode cX1_passSeveral 7 = .ok (.aload_n 0, 1) := by decide +kernel
theorem dX1_passSeveral_8 : decode cX1_passSeveral 8 = .ok (.aload_n 1, 1) := by decide +kernel
theorem dX1_passSeveral_9 : decode cX1_passSeveral 9 = .ok (.invokevirtual 91, 3) := by decide +kernel
theorem dX1_passSeveral_12 : decode cX1_passSeveral 12 = .ok (.pop, 1) := by decide +kernel
theorem dX1_passSeveral_13 : decode cX1_passSeveral 13 = .ok (.iinc 3 1, 3) := by decide +kernel
theorem dX1_passSeveral_16 : decode cX1_passSeveral 16 = .ok (.goto (-14), 3) := by decide +kernel
theorem dX1_passSeveral_19 : decode cX1_passSeveral 19 = .ok (.return_, 1) := by decide +kernel
def wp_X1_passSeveral_2 (S : Sh) (post : Mm → Prop) : Nat → Int → Int → Int → Int → Mm → Prop
  | 0, _, _, _, _, _ => False
  | n + 1, u0, u1, u2, u3, M => wIf (u2 ≤ u3) (post M) (isK S u0 1 ∧ (wp_X1_pass S M u0 u1 <| fun v2 M1 => wA u3 1 fun v4 => wp_X1_passSeveral_2 S post n u0 u1 u2 v4 M1))
def wp_X1_passSeveral (S : Sh) (M : Mm) (u0 : Int) (u1 : Int) (u2 : Int) (post : Mm → Prop) : Prop := wC 0 fun v6 => ∃ n9 : Nat, wp_X1_passSeveral_2 S post n9 u0 u1 u2 v6 M
set_option maxHeartbeats 4000000 in
set_option maxRecDepth 100000 in
theorem t_X1_passSeveral_2 {p : Program} {l : Launch} {e : Env} {s : State} {m : MethodId} {args : Array Value} {below : List Frame} {meth : Method} {c : Code} {D : va_G} {G : Gt} {S : Sh} {post : Mm → Prop} (C : Cx p s m args meth c D G cX1_passSeveral 4 none (cw_X1_passSeveral :: gw) RX1) : ∀ (n : Nat) (xl0 : Int) (xl1 : Int) (zl2 : Int32) (zl3 : Int32) (M : Mm) (H : Heap) (locs : List Loc) (ls : Array Slot), Wd D G S M H → va_S (aG G) s.heap H locs → lv_has ls 4 [(0, .ref (adr G xl0)), (1, .ref (adr G xl1)), (2, .int zl2), (3, .int zl3)] → wp_X1_passSeveral_2 S post n xl0 xl1 zl2.toInt zl3.toInt  M → W p l e RM_X1_passSeveral s m args below meth c H locs 0 0 (MQ below (QV D G S post) args s 0 0 (aG G)) (F0 m 2 ls []) := by
  obtain ⟨hx, hb, hr, hlocks, hml, hown, hts, hK⟩ := id C
  intro n
  induction n with
  | zero => intro xl0 xl1 zl2 zl3 M H locs ls hP hS hl h; exact h.elim
  | succ n ih =>
    intro xl0 xl1 zl2 zl3 M H locs ls hP hS hl h
    unfold wp_X1_passSeveral_2 at h
    refine lv_iload_n hx hb dX1_passSeveral_2 rfl (lv_at hl 3 rfl) ?_
    refine lv_iload_n hx hb dX1_passSeveral_3 rfl (lv_at hl 2 rfl) ?_
    refine r_icmp_ge (tgt := 19) hx hb dX1_passSeveral_4 (by decide) h (fun h => ?_) (fun h => ?_)
    · exact r_vret hx hb hr hlocks hP hS dX1_passSeveral_19 h
    · refine lv_aload_n hx hb dX1_passSeveral_7 rfl (lv_at hl 0 rfl) ?_
      refine lv_aload_n hx hb dX1_passSeveral_8 rfl (lv_at hl 1 rfl) ?_
      refine q_Vi hx hb hml hown hts hK hP hS (c_X1_pass l D G S _ xl0 xl1 _ h.2) ⟨callB_of 1 hts (gw_good kw_926) rfl rfl rfl (hts _ (List.mem_cons_of_mem _ kw_10)) (hts _ (List.mem_cons_of_mem _ kw_1061)) hd_X1_pass ⟨Nat.le_of_ble_eq_true rfl, Nat.le_of_ble_eq_true rfl⟩, (hts _ (List.mem_cons_of_mem _ kw_924)), (hts _ (List.mem_cons_of_mem _ kw_925))⟩ h.1 (ci := 1) rfl (by decide) rfl hl.1 rfl (lv_room (Nat.le_of_ble_eq_true rfl)) dX1_passSeveral_9 ⟨Nat.zero_le _, Nat.zero_le _⟩ (fun z3 M1 H locs h hP hS => ?_)
      refine lv_pop hx hb dX1_passSeveral_12 rfl ?_
      refine r_iinc hx hb (fun z5 => [(3, .int z5), (0, .ref (adr G xl0)), (1, .ref (adr G xl1)), (2, .int zl2)]) dX1_passSeveral_13 (by decide) hl (k := 3) rfl (by decide) (fun _ => rfl) h (fun z5 ls hl h => ?_)
      refine lv_goto (tgt := 2) hx hb dX1_passSeveral_16 (by decide) ?_
      exact ih xl0 xl1 zl2 z5 _ _ _ _ hP hS (lv_sub hl [1, 2, 3, 0] rfl) h
set_option maxHeartbeats 4000000 in
set_option maxRecDepth 100000 in
theorem c_X1_passSeveral (l : Launch) (D : va_G) (G : Gt) (S : Sh) (M : Mm) (xl0 : Int) (xl1 : Int) (zl2 : Int32) (post : Mm → Prop) (h : wp_X1_passSeveral S M xl0 xl1 zl2.toInt post) : Met l yX1_passSeveral (cw_X1_passSeveral :: gw) RM_X1_passSeveral (va_Pc [.ref (adr G xl0), .ref (adr G xl1), .int zl2] (fun U => KN D G U ∧ Wd D G S M U.heap)) (QV D G S post) 0 0 (aG G) := by
  refine Met.ofW (cc := cX1_passSeveral) (maxL := 4) (ret := none) (by decide) rfl ?_
  intro p e s m args below meth c s₁ B hml hv
  obtain ⟨rfl, hK, hP⟩ := hv
  have hx := B.exec
  have hb := B.bytes
  have hr := B.returns
  have hts := atoms_spec (ws := cw_X1_passSeveral :: gw) B.pre
  have hown : s.vm.findClass RX1 = some m.cls := findClass_of_methodNamed B.named
  have hlocks := B.notSynchronized
  have hS : va_S (aG G) s.heap s.heap [] := va_S.rf
  have C : Cx p s m ([.ref (adr G xl0), .ref (adr G xl1), .int zl2] : List Value).toArray meth c D G cX1_passSeveral 4 none (cw_X1_passSeveral :: gw) RX1 := ⟨hx, hb, hr, hlocks, hml, hown, hts, hK⟩
  have hl := lv_entry ([.ref (adr G xl0), .ref (adr G xl1), .int zl2]) (n := 4) (Nat.le_of_ble_eq_true rfl)
  rw [lg_entry_eq]
  generalize (lg_sl ([.ref (adr G xl0), .ref (adr G xl1), .int zl2]) ++ List.replicate (4 - (lg_sl ([.ref (adr G xl0), .ref (adr G xl1), .int zl2])).length) Slot.unset).toArray = ls at hl ⊢
  have hl : lv_has ls 4 [(0, .ref (adr G xl0)), (1, .ref (adr G xl1)), (2, .int zl2)] := hl
  unfold wp_X1_passSeveral at h
  refine r_iconst hx hb dX1_passSeveral_0 (by decide) h (fun z7 h => ?_)
  refine lv_istore_n (lv' := [(3, .int z7), (0, .ref (adr G xl0)), (1, .ref (adr G xl1)), (2, .int zl2)]) hx hb dX1_passSeveral_1 rfl hl (by decide) rfl (fun ls hl => ?_)
  obtain ⟨n9, h⟩ := h
  exact t_X1_passSeveral_2 C n9 xl0 xl1 zl2 z7 _ _ _ _ hP hS (lv_sub hl [1, 2, 3, 0] rfl) h
/-! TurningMilk.ahead(III)I -/
abbrev RM_X11_ahead : Room := { frames := 7, cells := 0, slots := 0, locals := 176 }
def cw_X11_ahead : Cond := Cond.code yX11_ahead cX11_ahead 5 (Option.some FieldType.int)
theorem hd_X11_ahead : yX11_ahead.cls ≠ "java/lang/invoke/MethodHandle" ∧ yX11_ahead.cls ≠ "java/lang/invoke/VarHandle" ∧ (parseMethodDescriptor yX11_ahead.desc).map (fun d => d.parameters.length) = some 3 := by decide +kernel
theorem dX11_ahead_0 : decode cX11_ahead 0 = .ok (.iload_n 3, 1) := by decide +kernel
theorem dX11_ahead_1 : decode cX11_ahead 1 = .ok (.ifCond .ne 11, 3) := by decide +kernel
theorem dX11_ahead_4 : decode cX11_ahead 4 = .ok (.aload_n 0, 1) := by decide +kernel
theorem dX11_ahead_5 : decode cX11_ahead 5 = .ok (.iload_n 1, 1) := by decide +kernel
theorem dX11_ahead_6 : decode cX11_ahead 6 = .ok (.invokevirtual 175, 3) := by decide +kernel
theorem dX11_ahead_9 : decode cX11_ahead 9 = .ok (.goto 21, 3) := by decide +kernel
theorem dX11_ahead_12 : decode cX11_ahead 12 = .ok (.iload_n 3, 1) := by decide +kernel
theorem dX11_ahead_13 : decode cX11_ahead 13 = .ok (.iconst 1, 1) := by decide +kernel
theorem dX11_ahead_14 : decode cX11_ahead 14 = .ok (.if_icmp .ne 15, 3) := by decide +kernel
theorem dX11_ahead_17 : decode cX11_ahead 17 = .ok (.aload_n 0, 1) := by decide +kernel
theorem dX11_ahead_18 : decode cX11_ahead 18 = .ok (.iload_n 1, 1) := by decide +kernel
theorem dX11_ahead_19 : decode cX11_ahead 19 = .ok (.invokevirtual 181, 3) := by decide +kernel
theorem dX11_ahead_22 : decode cX11_ahead 22 = .ok (.ifCond .eq 7, 3) := by decide +kernel
theorem dX11_ahead_25 : decode cX11_ahead 25 = .ok (.iconst 1, 1) := by decide +kernel
theorem dX11_ahead_26 : decode cX11_ahead 26 = .ok (.goto 4, 3) := by decide +kernel
theorem dX11_ahead_29 : decode cX11_ahead 29 = .ok (.iconst 0, 1) := by decide +kernel
theorem dX11_ahead_30 : decode cX11_ahead 30 = .ok (.istore 4, 2) := by decide +kernel
theorem dX11_ahead_32 : decode cX11_ahead 32 = .ok (.iload 4, 2) := by decide +kernel
theorem dX11_ahead_34 : decode cX11_ahead 34 = .ok (.ifCond .eq 13, 3) := by decide +kernel
theorem dX11_ahead_37 : decode cX11_ahead 37 = .ok (.iload_n 2, 1) := by decide +kernel
theorem dX11_ahead_38 : decode cX11_ahead 38 = .ok (.ifCond .lt 9, 3) := by decide +kernel
theorem dX11_ahead_41 : decode cX11_ahead 41 = .ok (.iload_n 2, 1) := by decide +kernel
theorem dX11_ahead_42 : decode cX11_ahead 42 = .ok (.bipush 100, 2) := by decide +kernel
theorem dX11_ahead_44 : decode cX11_ahead 44 = .ok (.if_icmp .le 6, 3) := by decide +kernel
theorem dX11_ahead_47 : decode cX11_ahead 47 = .ok (.bipush (-2), 2) := by decide +kernel
theorem dX11_ahead_49 : decode cX11_ahead 49 = .ok (.ireturn, 1) := by decide +kernel
theorem dX11_ahead_50 : decode cX11_ahead 50 = .ok (.iload_n 3, 1) := by decide +kernel
theorem dX11_ahead_51 : decode cX11_ahead 51 = .ok (.ifCond .ne 19, 3) := by decide +kernel
theorem dX11_ahead_54 : decode cX11_ahead 54 = .ok (.aload_n 0, 1) := by decide +kernel
theorem dX11_ahead_55 : decode cX11_ahead 55 = .ok (.getfield 19, 3) := by decide +kernel
theorem dX11_ahead_58 : decode cX11_ahead 58 = .ok (.getfield 133, 3) := by decide +kernel
theorem dX11_ahead_61 : decode cX11_ahead 61 = .ok (.iload_n 1, 1) := by decide +kernel
theorem dX11_ahead_62 : decode cX11_ahead 62 = .ok (.invokevirtual 215, 3) := by decide +kernel
theorem dX11_ahead_65 : decode cX11_ahead 65 = .ok (.ifCond .eq 5, 3) := by decide +kernel
theorem dX11_ahead_68 : decode cX11_ahead 68 = .ok (.iconst (-1), 1) := by decide +kernel
theorem dX11_ahead_69 : decode cX11_ahead 69 = .ok (.ireturn, 1) := by decide +kernel
theorem dX11_ahead_70 : decode cX11_ahead 70 = .ok (.aload_n 0, 1) := by decide +kernel
theorem dX11_ahead_71 : decode cX11_ahead 71 = .ok (.getfield 101, 3) := by decide +kernel
theorem dX11_ahead_74 : decode cX11_ahead 74 = .ok (.aload_n 0, 1) := by decide +kernel
theorem dX11_ahead_75 : decode cX11_ahead 75 = .ok (.getfield 19, 3) := by decide +kernel
theorem dX11_ahead_78 : decode cX11_ahead 78 = .ok (.getfield 133, 3) := by decide +kernel
theorem dX11_ahead_81 : decode cX11_ahead 81 = .ok (.invokevirtual 137, 3) := by decide +kernel
theorem dX11_ahead_84 : decode cX11_ahead 84 = .ok (.aload_n 0, 1) := by decide +kernel
theorem dX11_ahead_85 : decode cX11_ahead 85 = .ok (.getfield 73, 3) := by decide +kernel
theorem dX11_ahead_88 : decode cX11_ahead 88 = .ok (.aload_n 0, 1) := by decide +kernel
theorem dX11_ahead_89 : decode cX11_ahead 89 = .ok (.getfield 101, 3) := by decide +kernel
theorem dX11_ahead_92 : decode cX11_ahead 92 = .ok (.iload_n 2, 1) := by decide +kernel
theorem dX11_ahead_93 : decode cX11_ahead 93 = .ok (.invokevirtual 289, 3) := by decide +kernel
theorem dX11_ahead_96 : decode cX11_ahead 96 = .ok (.iload_n 3, 1) := by decide +kernel
theorem dX11_ahead_97 : decode cX11_ahead 97 = .ok (.ifCond .ne 15, 3) := by decide +kernel
theorem dX11_ahead_100 : decode cX11_ahead 100 = .ok (.aload_n 0, 1) := by decide +kernel
theorem dX11_ahead_101 : decode cX11_ahead 101 = .ok (.getfield 101, 3) := by decide +kernel
theorem dX11_ahead_104 : decode cX11_ahead 104 = .ok (.getfield 209, 3) := by decide +kernel
theorem dX11_ahead_107 : decode cX11_ahead 107 = .ok (.iload_n 1, 1) := by decide +kernel
theorem dX11_ahead_108 : decode cX11_ahead 108 = .ok (.iaload, 1) := by decide +kernel
theorem dX11_ahead_109 : decode cX11_ahead 109 = .ok (.goto 12, 3) := by decide +kernel
theorem dX11_ahead_112 : decode cX11_ahead 112 = .ok (.aload_n 0, 1) := by decide +kernel
theorem dX11_ahead_113 : decode cX11_ahead 113 = .ok (.getfield 101, 3) := by decide +kernel
theorem dX11_ahead_116 : decode cX11_ahead 116 = .ok (.getfield 190, 3) := by decide +kernel
theorem dX11_ahead_119 : decode cX11_ahead 119 = .ok (.iload_n 1, 1) := by decide +kernel
theorem dX11_ahead_120 : decode cX11_ahead 120 = .ok (.iaload, 1) := by decide +kernel
theorem dX11_ahead_121 : decode cX11_ahead 121 = .ok (.ireturn, 1) := by decide +kernel
def wp_X11_ahead_70 (S : Sh) (post : Int → Mm → Prop) (u0 : Int) (u1 : Int) (u2 : Int) (u3 : Int) (M : Mm) : Prop := wGetR S M u0 11 15 fun v1 => wGetR S M u0 11 1 fun v3 => wGetR S M v3 4 1 fun v5 => isK S v1 5 ∧ (wp_X5_become S M v1 v5 <| fun M7 => wGetR S M7 u0 11 11 fun v8 => wGetR S M7 u0 11 15 fun v10 => isK S v8 1 ∧ (wp_X1_passSeveral S M7 v8 v10 u2 <| fun M12 => wIf (¬ u3 = 0) (wGetR S M12 u0 11 15 fun v13 => wGetR S M12 v13 5 4 fun v15 => wLd S M12 v15 14 u1 fun v17 => post v17 M12) (wGetR S M12 u0 11 15 fun v19 => wGetR S M12 v19 5 7 fun v21 => wLd S M12 v21 14 u1 fun v23 => post v23 M12)))
def wp_X11_ahead_30 (S : Sh) (post : Int → Mm → Prop) (u0 : Int) (u1 : Int) (u2 : Int) (u3 : Int) (t0 : Int) (M : Mm) : Prop := wIf (t0 = 0) (wC (-2) fun v25 => post v25 M) (wIf (u2 < 0) (wC (-2) fun v27 => post v27 M) (wC 100 fun v29 => wIf (u2 ≤ v29) (wIf (¬ u3 = 0) (wp_X11_ahead_70 S post u0 u1 u2 u3 M) (wGetR S M u0 11 1 fun v31 => wGetR S M v31 4 1 fun v33 => isK S v33 5 ∧ (wp_X5_isGone S M v33 u1 <| fun v36 M35 => wIf (v36 = 0) (wp_X11_ahead_70 S post u0 u1 u2 u3 M35) (wC (-1) fun v38 => post v38 M35)))) (wC (-2) fun v40 => post v40 M)))
def wp_X11_ahead_29 (S : Sh) (post : Int → Mm → Prop) (u0 : Int) (u1 : Int) (u2 : Int) (u3 : Int) (M : Mm) : Prop := wC 0 fun v42 => wp_X11_ahead_30 S post u0 u1 u2 u3 v42 M
def wp_X11_ahead (S : Sh) (M : Mm) (u0 : Int) (u1 : Int) (u2 : Int) (u3 : Int) (post : Int → Mm → Prop) : Prop := wIf (¬ u3 = 0) (wC 1 fun v44 => wIf (¬ u3 = v44) (wp_X11_ahead_29 S post u0 u1 u2 u3 M) (isK S u0 11 ∧ (wp_X11_isHand S M u0 u1 <| fun v47 M46 => wIf (v47 = 0) (wp_X11_ahead_29 S post u0 u1 u2 u3 M46) (wC 1 fun v49 => wp_X11_ahead_30 S post u0 u1 u2 u3 v49 M46)))) (isK S u0 11 ∧ (wp_X11_isJug S M u0 u1 <| fun v52 M51 => wp_X11_ahead_30 S post u0 u1 u2 u3 v52 M51))
set_option maxHeartbeats 4000000 in
set_option maxRecDepth 100000 in
theorem t_X11_ahead_70 {p : Program} {l : Launch} {e : Env} {s : State} {m : MethodId} {args : Array Value} {below : List Frame} {meth : Method} {c : Code} {D : va_G} {G : Gt} {S : Sh} {post : Int → Mm → Prop} (C : Cx p s m args meth c D G cX11_ahead 5 (some .int) (cw_X11_ahead :: gw) RX11) : ∀ (xl0 : Int) (zl1 : Int32) (zl2 : Int32) (zl3 : Int32) (M : Mm) (H : Heap) (locs : List Loc) (ls : Array Slot), Wd D G S M H → va_S (aG G) s.heap H locs → lv_has ls 5 [(0, .ref (adr G xl0)), (1, .int zl1), (2, .int zl2), (3, .int zl3)] → wp_X11_ahead_70 S post xl0 zl1.toInt zl2.toInt zl3.toInt  M → W p l e RM_X11_ahead s m args below meth c H locs 0 0 (MQ below (QI D G S post) args s 0 0 (aG G)) (F0 m 70 ls []) := by
  obtain ⟨hx, hb, hr, hlocks, hml, hown, hts, hK⟩ := id C
  intro xl0 zl1 zl2 zl3 M H locs ls hP hS hl h
  unfold wp_X11_ahead_70 at h
  refine lv_aload_n hx hb dX11_ahead_70 rfl (lv_at hl 0 rfl) ?_
  refine r_getr (C := RX11) (T := TX11) (N := 16) hx hb hts (fun w h => List.mem_cons_of_mem _ (iX11 w h)) hown hK hP rfl (by decide) rfl 15 (by decide) (hts _ (List.mem_cons_of_mem _ kw_506)) (fun _ h9 => h9) dX11_ahead_71 (by decide) h (fun x2 h => ?_)
  refine lv_aload_n hx hb dX11_ahead_74 rfl (lv_at hl 0 rfl) ?_
  refine r_getr (C := RX11) (T := TX11) (N := 16) hx hb hts (fun w h => List.mem_cons_of_mem _ (iX11 w h)) hown hK hP rfl (by decide) rfl 1 (by decide) (hts _ (List.mem_cons_of_mem _ kw_492)) (fun _ h9 => h9) dX11_ahead_75 (by decide) h (fun x4 h => ?_)
  refine r_getrN (C := RX4) (T := TX4) (N := 10) hx hb hts (fun w h => List.mem_cons_of_mem _ (iX4 w h)) hown hK hP rfl (by decide) rfl 1 (by decide) (nw_73 hK) (fun _ h9 => h9) dX11_ahead_78 (by decide) h (fun x6 h => ?_)
  refine q_Vv hx hb hml hown hts hK hP hS (c_X5_become l D G S _ x2 x6 _ h.2) ⟨callB_of 1 hts (gw_good kw_735) rfl rfl rfl (hts _ (List.mem_cons_of_mem _ kw_5)) (hts _ (List.mem_cons_of_mem _ kw_732)) hd_X5_become ⟨Nat.le_of_ble_eq_true rfl, Nat.le_of_ble_eq_true rfl⟩, (hts _ (List.mem_cons_of_mem _ kw_733)), (hts _ (List.mem_cons_of_mem _ kw_734))⟩ h.1 (ci := 5) rfl (by decide) rfl hl.1 rfl (lv_room (Nat.le_of_ble_eq_true rfl)) dX11_ahead_81 ⟨Nat.zero_le _, Nat.zero_le _⟩ (fun M7 H locs h hP hS => ?_)
  refine lv_aload_n hx hb dX11_ahead_84 rfl (lv_at hl 0 rfl) ?_
  refine r_getr (C := RX11) (T := TX11) (N := 16) hx hb hts (fun w h => List.mem_cons_of_mem _ (iX11 w h)) hown hK hP rfl (by decide) rfl 11 (by decide) (hts _ (List.mem_cons_of_mem _ kw_502)) (fun _ h9 => h9) dX11_ahead_85 (by decide) h (fun x9 h => ?_)
  refine lv_aload_n hx hb dX11_ahead_88 rfl (lv_at hl 0 rfl) ?_
  refine r_getr (C := RX11) (T := TX11) (N := 16) hx hb hts (fun w h => List.mem_cons_of_mem _ (iX11 w h)) hown hK hP rfl (by decide) rfl 15 (by decide) (hts _ (List.mem_cons_of_mem _ kw_506)) (fun _ h9 => h9) dX11_ahead_89 (by decide) h (fun x11 h => ?_)
  refine lv_iload_n hx hb dX11_ahead_92 rfl (lv_at hl 2 rfl) ?_
  refine q_Vv hx hb hml hown hts hK hP hS (c_X1_passSeveral l D G S _ x9 x11 zl2 _ h.2) ⟨callB_of 2 hts (gw_good kw_1060) rfl rfl rfl (hts _ (List.mem_cons_of_mem _ kw_10)) (hts _ (List.mem_cons_of_mem _ kw_1057)) hd_X1_passSeveral ⟨Nat.le_of_ble_eq_true rfl, Nat.le_of_ble_eq_true rfl⟩, (hts _ (List.mem_cons_of_mem _ kw_1058)), (hts _ (List.mem_cons_of_mem _ kw_1059))⟩ h.1 (ci := 1) rfl (by decide) rfl hl.1 rfl (lv_room (Nat.le_of_ble_eq_true rfl)) dX11_ahead_93 ⟨Nat.zero_le _, Nat.zero_le _⟩ (fun M12 H locs h hP hS => ?_)
  refine lv_iload_n hx hb dX11_ahead_96 rfl (lv_at hl 3 rfl) ?_
  refine r_if_ne (tgt := 112) hx hb dX11_ahead_97 (by decide) h (fun h => ?_) (fun h => ?_)
  · refine lv_aload_n hx hb dX11_ahead_112 rfl (lv_at hl 0 rfl) ?_
    refine r_getr (C := RX11) (T := TX11) (N := 16) hx hb hts (fun w h => List.mem_cons_of_mem _ (iX11 w h)) hown hK hP rfl (by decide) rfl 15 (by decide) (hts _ (List.mem_cons_of_mem _ kw_506)) (fun _ h9 => h9) dX11_ahead_113 (by decide) h (fun x14 h => ?_)
    refine r_getrN (C := RX5) (T := TX5) (N := 9) hx hb hts (fun w h => List.mem_cons_of_mem _ (iX5 w h)) hown hK hP rfl (by decide) rfl 4 (by decide) (nw_58 hK) (fun _ h9 => h9) dX11_ahead_116 (by decide) h (fun x16 h => ?_)
    refine lv_iload_n hx hb dX11_ahead_119 rfl (lv_at hl 1 rfl) ?_
    refine r_iald hx hb hK hP dX11_ahead_120 h (fun z18 h => ?_)
    exact r_iret hx hb hr hlocks hP hS dX11_ahead_121 h
  · refine lv_aload_n hx hb dX11_ahead_100 rfl (lv_at hl 0 rfl) ?_
    refine r_getr (C := RX11) (T := TX11) (N := 16) hx hb hts (fun w h => List.mem_cons_of_mem _ (iX11 w h)) hown hK hP rfl (by decide) rfl 15 (by decide) (hts _ (List.mem_cons_of_mem _ kw_506)) (fun _ h9 => h9) dX11_ahead_101 (by decide) h (fun x20 h => ?_)
    refine r_getrN (C := RX5) (T := TX5) (N := 9) hx hb hts (fun w h => List.mem_cons_of_mem _ (iX5 w h)) hown hK hP rfl (by decide) rfl 7 (by decide) (nw_67 hK) (fun _ h9 => h9) dX11_ahead_104 (by decide) h (fun x22 h => ?_)
    refine lv_iload_n hx hb dX11_ahead_107 rfl (lv_at hl 1 rfl) ?_
    refine r_iald hx hb hK hP dX11_ahead_108 h (fun z24 h => ?_)
    refine lv_goto (tgt := 121) hx hb dX11_ahead_109 (by decide) ?_
    exact r_iret hx hb hr hlocks hP hS dX11_ahead_121 h
set_option maxHeartbeats 4000000 in
set_option maxRecDepth 100000 in
theorem t_X11_ahead_30 {p : Program} {l : Launch} {e : Env} {s : State} {m : MethodId} {args : Array Value} {below : List Frame} {meth : Method} {c : Code} {D : va_G} {G : Gt} {S : Sh} {post : Int → Mm → Prop} (C : Cx p s m args meth c D G cX11_ahead 5 (some .int) (cw_X11_ahead :: gw) RX11) : ∀ (xl0 : Int) (zl1 : Int32) (zl2 : Int32) (zl3 : Int32) (zs0 : Int32) (M : Mm) (H : Heap) (locs : List Loc) (ls : Array Slot), Wd D G S M H → va_S (aG G) s.heap H locs → lv_has ls 5 [(0, .ref (adr G xl0)), (1, .int zl1), (2, .int zl2), (3, .int zl3)] → wp_X11_ahead_30 S post xl0 zl1.toInt zl2.toInt zl3.toInt zs0.toInt M → W p l e RM_X11_ahead s m args below meth c H locs 0 0 (MQ below (QI D G S post) args s 0 0 (aG G)) (F0 m 30 ls [.int zs0]) := by
  obtain ⟨hx, hb, hr, hlocks, hml, hown, hts, hK⟩ := id C
  intro xl0 zl1 zl2 zl3 zs0 M H locs ls hP hS hl h
  unfold wp_X11_ahead_30 at h
  refine lv_istore (lv' := [(4, .int zs0), (0, .ref (adr G xl0)), (1, .int zl1), (2, .int zl2), (3, .int zl3)]) hx hb dX11_ahead_30 hl (by decide) rfl (fun ls hl => ?_)
  refine lv_iload hx hb dX11_ahead_32 (lv_at hl 0 rfl) ?_
  refine r_if_eq (tgt := 47) hx hb dX11_ahead_34 (by decide) h (fun h => ?_) (fun h => ?_)
  · refine r_bipush hx hb dX11_ahead_47 (by decide) h (fun z26 h => ?_)
    exact r_iret hx hb hr hlocks hP hS dX11_ahead_49 h
  · refine lv_iload_n hx hb dX11_ahead_37 rfl (lv_at hl 3 rfl) ?_
    refine r_if_lt (tgt := 47) hx hb dX11_ahead_38 (by decide) h (fun h => ?_) (fun h => ?_)
    · refine r_bipush hx hb dX11_ahead_47 (by decide) h (fun z28 h => ?_)
      exact r_iret hx hb hr hlocks hP hS dX11_ahead_49 h
    · refine lv_iload_n hx hb dX11_ahead_41 rfl (lv_at hl 3 rfl) ?_
      refine r_bipush hx hb dX11_ahead_42 (by decide) h (fun z30 h => ?_)
      refine r_icmp_le (tgt := 50) hx hb dX11_ahead_44 (by decide) h (fun h => ?_) (fun h => ?_)
      · refine lv_iload_n hx hb dX11_ahead_50 rfl (lv_at hl 4 rfl) ?_
        refine r_if_ne (tgt := 70) hx hb dX11_ahead_51 (by decide) h (fun h => ?_) (fun h => ?_)
        · exact t_X11_ahead_70 C xl0 zl1 zl2 zl3 _ _ _ _ hP hS (lv_sub hl [1, 2, 3, 4] rfl) h
        · refine lv_aload_n hx hb dX11_ahead_54 rfl (lv_at hl 1 rfl) ?_
          refine r_getr (C := RX11) (T := TX11) (N := 16) hx hb hts (fun w h => List.mem_cons_of_mem _ (iX11 w h)) hown hK hP rfl (by decide) rfl 1 (by decide) (hts _ (List.mem_cons_of_mem _ kw_492)) (fun _ h9 => h9) dX11_ahead_55 (by decide) h (fun x32 h => ?_)
          refine r_getrN (C := RX4) (T := TX4) (N := 10) hx hb hts (fun w h => List.mem_cons_of_mem _ (iX4 w h)) hown hK hP rfl (by decide) rfl 1 (by decide) (nw_73 hK) (fun _ h9 => h9) dX11_ahead_58 (by decide) h (fun x34 h => ?_)
          refine lv_iload_n hx hb dX11_ahead_61 rfl (lv_at hl 2 rfl) ?_
          refine q_Vi hx hb hml hown hts hK hP hS (c_X5_isGone l D G S _ x34 zl1 _ h.2) ⟨callB_of 1 hts (gw_good kw_897) rfl rfl rfl (hts _ (List.mem_cons_of_mem _ kw_5)) (hts _ (List.mem_cons_of_mem _ kw_894)) hd_X5_isGone ⟨Nat.le_of_ble_eq_true rfl, Nat.le_of_ble_eq_true rfl⟩, (hts _ (List.mem_cons_of_mem _ kw_895)), (hts _ (List.mem_cons_of_mem _ kw_896))⟩ h.1 (ci := 5) rfl (by decide) rfl hl.1 rfl (lv_room (Nat.le_of_ble_eq_true rfl)) dX11_ahead_62 ⟨Nat.zero_le _, Nat.zero_le _⟩ (fun z37 M35 H locs h hP hS => ?_)
          refine r_if_eq (tgt := 70) hx hb dX11_ahead_65 (by decide) h (fun h => ?_) (fun h => ?_)
          · exact t_X11_ahead_70 C xl0 zl1 zl2 zl3 _ _ _ _ hP hS (lv_sub hl [1, 2, 3, 4] rfl) h
          · refine r_iconst hx hb dX11_ahead_68 (by decide) h (fun z39 h => ?_)
            exact r_iret hx hb hr hlocks hP hS dX11_ahead_69 h
      · refine r_bipush hx hb dX11_ahead_47 (by decide) h (fun z41 h => ?_)
        exact r_iret hx hb hr hlocks hP hS dX11_ahead_49 h
set_option maxHeartbeats 4000000 in
set_option maxRecDepth 100000 in
theorem t_X11_ahead_29 {p : Program} {l : Launch} {e : Env} {s : State} {m : MethodId} {args : Array Value} {below : List Frame} {meth : Method} {c : Code} {D : va_G} {G : Gt} {S : Sh} {post : Int → Mm → Prop} (C : Cx p s m args meth c D G cX11_ahead 5 (some .int) (cw_X11_ahead :: gw) RX11) : ∀ (xl0 : Int) (zl1 : Int32) (zl2 : Int32) (zl3 : Int32) (M : Mm) (H : Heap) (locs : List Loc) (ls : Array Slot), Wd D G S M H → va_S (aG G) s.heap H locs → lv_has ls 5 [(0, .ref (adr G xl0)), (1, .int zl1), (2, .int zl2), (3, .int zl3)] → wp_X11_ahead_29 S post xl0 zl1.toInt zl2.toInt zl3.toInt  M → W p l e RM_X11_ahead s m args below meth c H locs 0 0 (MQ below (QI D G S post) args s 0 0 (aG G)) (F0 m 29 ls []) := by
  obtain ⟨hx, hb, hr, hlocks, hml, hown, hts, hK⟩ := id C
  intro xl0 zl1 zl2 zl3 M H locs ls hP hS hl h
  unfold wp_X11_ahead_29 at h
  refine r_iconst hx hb dX11_ahead_29 (by decide) h (fun z43 h => ?_)
  exact t_X11_ahead_30 C xl0 zl1 zl2 zl3 z43 _ _ _ _ hP hS (lv_sub hl [0, 1, 2, 3] rfl) h
set_option maxHeartbeats 4000000 in
set_option maxRecDepth 100000 in
theorem c_X11_ahead (l : Launch) (D : va_G) (G : Gt) (S : Sh) (M : Mm) (xl0 : Int) (zl1 : Int32) (zl2 : Int32) (zl3 : Int32) (post : Int → Mm → Prop) (h : wp_X11_ahead S M xl0 zl1.toInt zl2.toInt zl3.toInt post) : Met l yX11_ahead (cw_X11_ahead :: gw) RM_X11_ahead (va_Pc [.ref (adr G xl0), .int zl1, .int zl2, .int zl3] (fun U => KN D G U ∧ Wd D G S M U.heap)) (QI D G S post) 0 0 (aG G) := by
  refine Met.ofW (cc := cX11_ahead) (maxL := 5) (ret := (some .int)) (by decide) rfl ?_
  intro p e s m args below meth c s₁ B hml hv
  obtain ⟨rfl, hK, hP⟩ := hv
  have hx := B.exec
  have hb := B.bytes
  have hr := B.returns
  have hts := atoms_spec (ws := cw_X11_ahead :: gw) B.pre
  have hown : s.vm.findClass RX11 = some m.cls := findClass_of_methodNamed B.named
  have hlocks := B.notSynchronized
  have hS : va_S (aG G) s.heap s.heap [] := va_S.rf
  have C : Cx p s m ([.ref (adr G xl0), .int zl1, .int zl2, .int zl3] : List Value).toArray meth c D G cX11_ahead 5 (some .int) (cw_X11_ahead :: gw) RX11 := ⟨hx, hb, hr, hlocks, hml, hown, hts, hK⟩
  have hl := lv_entry ([.ref (adr G xl0), .int zl1, .int zl2, .int zl3]) (n := 5) (Nat.le_of_ble_eq_true rfl)
  rw [lg_entry_eq]
  generalize (lg_sl ([.ref (adr G xl0), .int zl1, .int zl2, .int zl3]) ++ List.replicate (5 - (lg_sl ([.ref (adr G xl0), .int zl1, .int zl2, .int zl3])).length) Slot.unset).toArray = ls at hl ⊢
  have hl : lv_has ls 5 [(0, .ref (adr G xl0)), (1, .int zl1), (2, .int zl2), (3, .int zl3)] := hl
  unfold wp_X11_ahead at h
  refine lv_iload_n hx hb dX11_ahead_0 rfl (lv_at hl 3 rfl) ?_
  refine r_if_ne (tgt := 12) hx hb dX11_ahead_1 (by decide) h (fun h => ?_) (fun h => ?_)
  · refine lv_iload_n hx hb dX11_ahead_12 rfl (lv_at hl 3 rfl) ?_
    refine r_iconst hx hb dX11_ahead_13 (by decide) h (fun z45 h => ?_)
    refine r_icmp_ne (tgt := 29) hx hb dX11_ahead_14 (by decide) h (fun h => ?_) (fun h => ?_)
    · exact t_X11_ahead_29 C xl0 zl1 zl2 zl3 _ _ _ _ hP hS (lv_sub hl [0, 1, 2, 3] rfl) h
    · refine lv_aload_n hx hb dX11_ahead_17 rfl (lv_at hl 0 rfl) ?_
      refine lv_iload_n hx hb dX11_ahead_18 rfl (lv_at hl 1 rfl) ?_
      refine q_Vi hx hb hml hown hts hK hP hS (c_X11_isHand l D G S _ xl0 zl1 _ h.2) ⟨callB_of 1 hts (gw_good kw_881) rfl rfl rfl (hts _ (List.mem_cons_of_mem _ kw_1)) (hts _ (List.mem_cons_of_mem _ kw_878)) hd_X11_isHand ⟨Nat.le_of_ble_eq_true rfl, Nat.le_of_ble_eq_true rfl⟩, (hts _ (List.mem_cons_of_mem _ kw_880)), (hts _ (List.mem_cons_of_mem _ kp_29))⟩ h.1 (ci := 11) rfl (by decide) rfl hl.1 rfl (lv_room (Nat.le_of_ble_eq_true rfl)) dX11_ahead_19 ⟨Nat.zero_le _, Nat.zero_le _⟩ (fun z48 M46 H locs h hP hS => ?_)
      refine r_if_eq (tgt := 29) hx hb dX11_ahead_22 (by decide) h (fun h => ?_) (fun h => ?_)
      · exact t_X11_ahead_29 C xl0 zl1 zl2 zl3 _ _ _ _ hP hS (lv_sub hl [0, 1, 2, 3] rfl) h
      · refine r_iconst hx hb dX11_ahead_25 (by decide) h (fun z50 h => ?_)
        refine lv_goto (tgt := 30) hx hb dX11_ahead_26 (by decide) ?_
        exact t_X11_ahead_30 C xl0 zl1 zl2 zl3 z50 _ _ _ _ hP hS (lv_sub hl [0, 1, 2, 3] rfl) h
  · refine lv_aload_n hx hb dX11_ahead_4 rfl (lv_at hl 0 rfl) ?_
    refine lv_iload_n hx hb dX11_ahead_5 rfl (lv_at hl 1 rfl) ?_
    refine q_Vi hx hb hml hown hts hK hP hS (c_X11_isJug l D G S _ xl0 zl1 _ h.2) ⟨callB_of 1 hts (gw_good kw_893) rfl rfl rfl (hts _ (List.mem_cons_of_mem _ kw_1)) (hts _ (List.mem_cons_of_mem _ kw_890)) hd_X11_isJug ⟨Nat.le_of_ble_eq_true rfl, Nat.le_of_ble_eq_true rfl⟩, (hts _ (List.mem_cons_of_mem _ kw_892)), (hts _ (List.mem_cons_of_mem _ kp_30))⟩ h.1 (ci := 11) rfl (by decide) rfl hl.1 rfl (lv_room (Nat.le_of_ble_eq_true rfl)) dX11_ahead_6 ⟨Nat.zero_le _, Nat.zero_le _⟩ (fun z53 M51 H locs h hP hS => ?_)
    refine lv_goto (tgt := 30) hx hb dX11_ahead_9 (by decide) ?_
    exact t_X11_ahead_30 C xl0 zl1 zl2 zl3 z53 _ _ _ _ hP hS (lv_sub hl [0, 1, 2, 3] rfl) h
/-! TurningMilk$Told.hasWay(II)Z -/
abbrev RM_X8_hasWay : Room := { frames := 2, cells := 0, slots := 0, locals := 61 }
def cw_X8_hasWay : Cond := Cond.code yX8_hasWay cX8_hasWay 3 (Option.some FieldType.boolean)
theorem hd_X8_hasWay : yX8_hasWay.cls ≠ "java/lang/invoke/MethodHandle" ∧ yX8_hasWay.cls ≠ "java/lang/invoke/VarHandle" ∧ (parseMethodDescriptor yX8_hasWay.desc).map (fun d => d.parameters.length) = some 2 := by decide +kernel
theorem dX8_hasWay_0 : decode cX8_hasWay 0 = .ok (.aload_n 0, 1) := by decide +kernel
theorem dX8_hasWay_1 : decode cX8_hasWay 1 = .ok (.getfield 15, 3) := by decide +kernel
theorem dX8_hasWay_4 : decode cX8_hasWay 4 = .ok (.iload_n 1, 1) := by decide +kernel
theorem dX8_hasWay_5 : decode cX8_hasWay 5 = .ok (.iload_n 2, 1) := by decide +kernel
theorem dX8_hasWay_6 : decode cX8_hasWay 6 = .ok (.invokestatic 82, 3) := by decide +kernel
theorem dX8_hasWay_9 : decode cX8_hasWay 9 = .ok (.iaload, 1) := by decide +kernel
theorem dX8_hasWay_10 : decode cX8_hasWay 10 = .ok (.sipush 1000, 3) := by decide +kernel
theorem dX8_hasWay_13 : decode cX8_hasWay 13 = .ok (.if_icmp .ge 7, 3) := by decide +kernel
theorem dX8_hasWay_16 : decode cX8_hasWay 16 = .ok (.iconst 1, 1) := by decide +kernel
theorem dX8_hasWay_17 : decode cX8_hasWay 17 = .ok (.goto 4, 3) := by decide +kernel
theorem dX8_hasWay_20 : decode cX8_hasWay 20 = .ok (.iconst 0, 1) := by decide +kernel
theorem dX8_hasWay_21 : decode cX8_hasWay 21 = .ok (.ireturn, 1) := by decide +kernel
def wp_X8_hasWay (S : Sh) (M : Mm) (u0 : Int) (u1 : Int) (u2 : Int) (post : Int → Mm → Prop) : Prop := wGetR S M u0 8 9 fun v1 => wp_X8_pair S M u1 u2 <| fun v4 M3 => wLd S M3 v1 14 v4 fun v6 => wC 1000 fun v8 => wIf (v8 ≤ v6) (wC 0 fun v10 => (v10 = 0 ∨ v10 = 1) ∧ post v10 M3) (wC 1 fun v12 => (v12 = 0 ∨ v12 = 1) ∧ post v12 M3)
set_option maxHeartbeats 4000000 in
set_option maxRecDepth 100000 in
theorem c_X8_hasWay (l : Launch) (D : va_G) (G : Gt) (S : Sh) (M : Mm) (xl0 : Int) (zl1 : Int32) (zl2 : Int32) (post : Int → Mm → Prop) (h : wp_X8_hasWay S M xl0 zl1.toInt zl2.toInt post) : Met l yX8_hasWay (cw_X8_hasWay :: gw) RM_X8_hasWay (va_Pc [.ref (adr G xl0), .int zl1, .int zl2] (fun U => KN D G U ∧ Wd D G S M U.heap)) (QI D G S post) 0 0 (aG G) := by
  refine Met.ofW (cc := cX8_hasWay) (maxL := 3) (ret := (some .boolean)) (by decide) rfl ?_
  intro p e s m args below meth c s₁ B hml hv
  obtain ⟨rfl, hK, hP⟩ := hv
  have hx := B.exec
  have hb := B.bytes
  have hr := B.returns
  have hts := atoms_spec (ws := cw_X8_hasWay :: gw) B.pre
  have hown : s.vm.findClass RX8 = some m.cls := findClass_of_methodNamed B.named
  have hlocks := B.notSynchronized
  have hS : va_S (aG G) s.heap s.heap [] := va_S.rf
  have C : Cx p s m ([.ref (adr G xl0), .int zl1, .int zl2] : List Value).toArray meth c D G cX8_hasWay 3 (some .boolean) (cw_X8_hasWay :: gw) RX8 := ⟨hx, hb, hr, hlocks, hml, hown, hts, hK⟩
  have hl := lv_entry ([.ref (adr G xl0), .int zl1, .int zl2]) (n := 3) (Nat.le_of_ble_eq_true rfl)
  rw [lg_entry_eq]
  generalize (lg_sl ([.ref (adr G xl0), .int zl1, .int zl2]) ++ List.replicate (3 - (lg_sl ([.ref (adr G xl0), .int zl1, .int zl2])).length) Slot.unset).toArray = ls at hl ⊢
  have hl : lv_has ls 3 [(0, .ref (adr G xl0)), (1, .int zl1), (2, .int zl2)] := hl
  unfold wp_X8_hasWay at h
  refine lv_aload_n hx hb dX8_hasWay_0 rfl (lv_at hl 0 rfl) ?_
  refine r_getr (C := RX8) (T := TX8) (N := 19) hx hb hts (fun w h => List.mem_cons_of_mem _ (iX8 w h)) hown hK hP rfl (by decide) rfl 9 (by decide) (hts _ (List.mem_cons_of_mem _ kw_100)) (fun _ h9 => h9) dX8_hasWay_1 (by decide) h (fun x2 h => ?_)
  refine lv_iload_n hx hb dX8_hasWay_4 rfl (lv_at hl 1 rfl) ?_
  refine lv_iload_n hx hb dX8_hasWay_5 rfl (lv_at hl 2 rfl) ?_
  refine q_Si hx hb hml hown hts hK hP hS (c_X8_pair l D G S _ zl1 zl2 _ h) ⟨callB_of 2 hts (gw_good kw_688) rfl rfl rfl (hts _ (List.mem_cons_of_mem _ kw_4)) (hts _ (List.mem_cons_of_mem _ kw_686)) hd_X8_pair ⟨Nat.le_of_ble_eq_true rfl, Nat.le_of_ble_eq_true rfl⟩, (hts _ (List.mem_cons_of_mem _ kw_687))⟩ rfl hl.1 rfl (lv_room (Nat.le_of_ble_eq_true rfl)) dX8_hasWay_6 ⟨Nat.zero_le _, Nat.zero_le _⟩ (fun z5 M3 H locs h hP hS => ?_)
  refine r_iald hx hb hK hP dX8_hasWay_9 h (fun z7 h => ?_)
  refine r_sipush hx hb dX8_hasWay_10 (by decide) h (fun z9 h => ?_)
  refine r_icmp_ge (tgt := 20) hx hb dX8_hasWay_13 (by decide) h (fun h => ?_) (fun h => ?_)
  · refine r_iconst hx hb dX8_hasWay_20 (by decide) h (fun z11 h => ?_)
    exact r_zret hx hb hr hlocks hP hS dX8_hasWay_21 h
  · refine r_iconst hx hb dX8_hasWay_16 (by decide) h (fun z13 h => ?_)
    refine lv_goto (tgt := 21) hx hb dX8_hasWay_17 (by decide) ?_
    exact r_zret hx hb hr hlocks hP hS dX8_hasWay_21 h
