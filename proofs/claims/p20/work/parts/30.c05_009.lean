theorem dX11_force_33 : decode cX11_force 33 = .ok (.invokevirtual 160, 3) := by decide +kernel
theorem dX11_force_36 : decode cX11_force 36 = .ok (.iload_n 2, 1) := by decide +kernel
theorem dX11_force_37 : decode cX11_force 37 = .ok (.ireturn, 1) := by decide +kernel
def wp_X11_force (S : Sh) (M : Mm) (u0 : Int) (u1 : Int) (post : Int → Mm → Prop) : Prop := wC (-1) fun v1 => wIf (u1 < v1) (wC (-2) fun v3 => post v3 M) (wGet S M u0 11 7 fun v5 => wIf (u1 < v5) (wGetR S M u0 11 1 fun v7 => wGet S M v7 4 2 fun v9 => wGetR S M u0 11 1 fun v11 => wPut S M v11 4 2 u1 fun M13 => isK S u0 11 ∧ (wp_X11_enforce S M13 u0 <| fun M14 => post v9 M14)) (wC (-2) fun v15 => post v15 M))
set_option maxHeartbeats 4000000 in
set_option maxRecDepth 100000 in
theorem c_X11_force (l : Launch) (D : va_G) (G : Gt) (S : Sh) (M : Mm) (xl0 : Int) (zl1 : Int32) (post : Int → Mm → Prop) (h : wp_X11_force S M xl0 zl1.toInt post) : Met l yX11_force (cw_X11_force :: gw) RM_X11_force (va_Pc [.ref (adr G xl0), .int zl1] (fun U => KN D G U ∧ Wd D G S M U.heap)) (QI D G S post) 0 0 (aG G) := by
  refine Met.ofW (cc := cX11_force) (maxL := 3) (ret := (some .int)) (by decide) rfl ?_
  intro p e s m args below meth c s₁ B hml hv
  obtain ⟨rfl, hK, hP⟩ := hv
  have hx := B.exec
  have hb := B.bytes
  have hr := B.returns
  have hts := atoms_spec (ws := cw_X11_force :: gw) B.pre
  have hown : s.vm.findClass RX11 = some m.cls := findClass_of_methodNamed B.named
  have hlocks := B.notSynchronized
  have hS : va_S (aG G) s.heap s.heap [] := va_S.rf
  have C : Cx p s m ([.ref (adr G xl0), .int zl1] : List Value).toArray meth c D G cX11_force 3 (some .int) (cw_X11_force :: gw) RX11 := ⟨hx, hb, hr, hlocks, hml, hown, hts, hK⟩
  have hl := lv_entry ([.ref (adr G xl0), .int zl1]) (n := 3) (Nat.le_of_ble_eq_true rfl)
  rw [lg_entry_eq]
  generalize (lg_sl ([.ref (adr G xl0), .int zl1]) ++ List.replicate (3 - (lg_sl ([.ref (adr G xl0), .int zl1])).length) Slot.unset).toArray = ls at hl ⊢
  have hl : lv_has ls 3 [(0, .ref (adr G xl0)), (1, .int zl1)] := hl
  unfold wp_X11_force at h
  refine lv_iload_n hx hb dX11_force_0 rfl (lv_at hl 1 rfl) ?_
  refine r_iconst hx hb dX11_force_1 (by decide) h (fun z2 h => ?_)
  refine r_icmp_lt (tgt := 13) hx hb dX11_force_2 (by decide) h (fun h => ?_) (fun h => ?_)
  · refine r_bipush hx hb dX11_force_13 (by decide) h (fun z4 h => ?_)
    exact r_iret hx hb hr hlocks hP hS dX11_force_15 h
  · refine lv_iload_n hx hb dX11_force_5 rfl (lv_at hl 1 rfl) ?_
    refine lv_aload_n hx hb dX11_force_6 rfl (lv_at hl 0 rfl) ?_
    refine r_geti (C := RX11) (T := TX11) (N := 16) hx hb hts (fun w h => List.mem_cons_of_mem _ (iX11 w h)) hown hK hP rfl (by decide) rfl 7 (by decide) (hts _ (List.mem_cons_of_mem _ kw_498)) (fun _ h9 => h9) dX11_force_7 (by decide) h (fun z6 h => ?_)
    refine r_icmp_lt (tgt := 16) hx hb dX11_force_10 (by decide) h (fun h => ?_) (fun h => ?_)
    · refine lv_aload_n hx hb dX11_force_16 rfl (lv_at hl 0 rfl) ?_
      refine r_getr (C := RX11) (T := TX11) (N := 16) hx hb hts (fun w h => List.mem_cons_of_mem _ (iX11 w h)) hown hK hP rfl (by decide) rfl 1 (by decide) (hts _ (List.mem_cons_of_mem _ kw_492)) (fun _ h9 => h9) dX11_force_17 (by decide) h (fun x8 h => ?_)
      refine r_getiN (C := RX4) (T := TX4) (N := 10) hx hb hts (fun w h => List.mem_cons_of_mem _ (iX4 w h)) hown hK hP rfl (by decide) rfl 2 (by decide) (nw_74 hK) (fun _ h9 => h9) dX11_force_20 (by decide) h (fun z10 h => ?_)
      refine lv_istore_n (lv' := [(2, .int z10), (0, .ref (adr G xl0)), (1, .int zl1)]) hx hb dX11_force_23 rfl hl (by decide) rfl (fun ls hl => ?_)
      refine lv_aload_n hx hb dX11_force_24 rfl (lv_at hl 1 rfl) ?_
      refine r_getr (C := RX11) (T := TX11) (N := 16) hx hb hts (fun w h => List.mem_cons_of_mem _ (iX11 w h)) hown hK hP rfl (by decide) rfl 1 (by decide) (hts _ (List.mem_cons_of_mem _ kw_492)) (fun _ h9 => h9) dX11_force_25 (by decide) h (fun x12 h => ?_)
      refine lv_iload_n hx hb dX11_force_28 rfl (lv_at hl 2 rfl) ?_
      refine r_putiN (C := RX4) (T := TX4) (N := 10) hx hb hts (fun w h => List.mem_cons_of_mem _ (iX4 w h)) hown hK hP tyX4 tyX4_ok nmX4 hS rfl (by decide) rfl 2 (by decide) (nw_74 hK) (fun _ h9 => h9) rfl (tyX4_ok 2 (by decide)) rfl rfl dX11_force_29 (by decide) h (fun M13 H locs h hP hS => ?_)
      refine lv_aload_n hx hb dX11_force_32 rfl (lv_at hl 1 rfl) ?_
      refine q_Vv hx hb hml hown hts hK hP hS (c_X11_enforce l D G S _ xl0 _ h.2) ⟨callB_of 0 hts (gw_good kw_873) rfl rfl rfl (hts _ (List.mem_cons_of_mem _ kw_1)) (hts _ (List.mem_cons_of_mem _ kw_870)) hd_X11_enforce ⟨Nat.le_of_ble_eq_true rfl, Nat.le_of_ble_eq_true rfl⟩, (hts _ (List.mem_cons_of_mem _ kw_872)), (hts _ (List.mem_cons_of_mem _ kp_28))⟩ h.1 (ci := 11) rfl (by decide) rfl hl.1 rfl (lv_room (Nat.le_of_ble_eq_true rfl)) dX11_force_33 ⟨Nat.zero_le _, Nat.zero_le _⟩ (fun M14 H locs h hP hS => ?_)
      refine lv_iload_n hx hb dX11_force_36 rfl (lv_at hl 0 rfl) ?_
      exact r_iret hx hb hr hlocks hP hS dX11_force_37 h
    · refine r_bipush hx hb dX11_force_13 (by decide) h (fun z16 h => ?_)
      exact r_iret hx hb hr hlocks hP hS dX11_force_15 h
/-! TurningMilk.isHand(I)Z -/
abbrev RM_X11_isHand : Room := { frames := 1, cells := 0, slots := 0, locals := 40 }
def cw_X11_isHand : Cond := Cond.code yX11_isHand cX11_isHand 2 (Option.some FieldType.boolean)
theorem hd_X11_isHand : yX11_isHand.cls ≠ "java/lang/invoke/MethodHandle" ∧ yX11_isHand.cls ≠ "java/lang/invoke/VarHandle" ∧ (parseMethodDescriptor yX11_isHand.desc).map (fun d => d.parameters.length) = some 1 := by decide +kernel
theorem dX11_isHand_0 : decode cX11_isHand 0 = .ok (.iload_n 1, 1) := by decide +kernel
theorem dX11_isHand_1 : decode cX11_isHand 1 = .ok (.ifCond .lt 21, 3) := by decide +kernel
theorem dX11_isHand_4 : decode cX11_isHand 4 = .ok (.iload_n 1, 1) := by decide +kernel
theorem dX11_isHand_5 : decode cX11_isHand 5 = .ok (.aload_n 0, 1) := by decide +kernel
theorem dX11_isHand_6 : decode cX11_isHand 6 = .ok (.getfield 19, 3) := by decide +kernel
theorem dX11_isHand_9 : decode cX11_isHand 9 = .ok (.getfield 57, 3) := by decide +kernel
theorem dX11_isHand_12 : decode cX11_isHand 12 = .ok (.getfield 169, 3) := by decide +kernel
theorem dX11_isHand_15 : decode cX11_isHand 15 = .ok (.if_icmp .ge 7, 3) := by decide +kernel
theorem dX11_isHand_18 : decode cX11_isHand 18 = .ok (.iconst 1, 1) := by decide +kernel
theorem dX11_isHand_19 : decode cX11_isHand 19 = .ok (.goto 4, 3) := by decide +kernel
theorem dX11_isHand_22 : decode cX11_isHand 22 = .ok (.iconst 0, 1) := by decide +kernel
theorem dX11_isHand_23 : decode cX11_isHand 23 = .ok (.ireturn, 1) := by decide +kernel
