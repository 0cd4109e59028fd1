/-! TurningMilk$Relay.solve(III)V -/
abbrev RM_X2_solve : Room := { frames := 12, cells := 0, slots := 0, locals := 314 }
def cw_X2_solve : Cond := Cond.code yX2_solve cX2_solve 4 (Option.none : Option FieldType)
theorem hd_X2_solve : yX2_solve.cls ≠ "java/lang/invoke/MethodHandle" ∧ yX2_solve.cls ≠ "java/lang/invoke/VarHandle" ∧ (parseMethodDescriptor yX2_solve.desc).map (fun d => d.parameters.length) = some 3 := by decide +kernel
theorem dX2_solve_0 : decode cX2_solve 0 = .ok (.aload_n 0, 1) := by decide +kernel
theorem dX2_solve_1 : decode cX2_solve 1 = .ok (.iload_n 1, 1) := by decide +kernel
theorem dX2_solve_2 : decode cX2_solve 2 = .ok (.putfield 56, 3) := by decide +kernel
theorem dX2_solve_5 : decode cX2_solve 5 = .ok (.aload_n 0, 1) := by decide +kernel
theorem dX2_solve_6 : decode cX2_solve 6 = .ok (.iload_n 2, 1) := by decide +kernel
theorem dX2_solve_7 : decode cX2_solve 7 = .ok (.putfield 59, 3) := by decide +kernel
theorem dX2_solve_10 : decode cX2_solve 10 = .ok (.aload_n 0, 1) := by decide +kernel
theorem dX2_solve_11 : decode cX2_solve 11 = .ok (.iload_n 3, 1) := by decide +kernel
theorem dX2_solve_12 : decode cX2_solve 12 = .ok (.putfield 62, 3) := by decide +kernel
theorem dX2_solve_15 : decode cX2_solve 15 = .ok (.aload_n 0, 1) := by decide +kernel
theorem dX2_solve_16 : decode cX2_solve 16 = .ok (.getfield 18, 3) := by decide +kernel
theorem dX2_solve_19 : decode cX2_solve 19 = .ok (.iconst 0, 1) := by decide +kernel
theorem dX2_solve_20 : decode cX2_solve 20 = .ok (.aload_n 0, 1) := by decide +kernel
theorem dX2_solve_21 : decode cX2_solve 21 = .ok (.getfield 39, 3) := by decide +kernel
theorem dX2_solve_24 : decode cX2_solve 24 = .ok (.iconst 1, 1) := by decide +kernel
theorem dX2_solve_25 : decode cX2_solve 25 = .ok (.iadd, 1) := by decide +kernel
theorem dX2_solve_26 : decode cX2_solve 26 = .ok (.sipush 1000, 3) := by decide +kernel
theorem dX2_solve_29 : decode cX2_solve 29 = .ok (.imul, 1) := by decide +kernel
theorem dX2_solve_30 : decode cX2_solve 30 = .ok (.iconst (-1), 1) := by decide +kernel
theorem dX2_solve_31 : decode cX2_solve 31 = .ok (.invokestatic 65, 3) := by decide +kernel
theorem dX2_solve_34 : decode cX2_solve 34 = .ok (.aload_n 0, 1) := by decide +kernel
theorem dX2_solve_35 : decode cX2_solve 35 = .ok (.iconst 0, 1) := by decide +kernel
theorem dX2_solve_36 : decode cX2_solve 36 = .ok (.iload_n 1, 1) := by decide +kernel
theorem dX2_solve_37 : decode cX2_solve 37 = .ok (.invokevirtual 71, 3) := by decide +kernel
theorem dX2_solve_40 : decode cX2_solve 40 = .ok (.return_, 1) := by decide +kernel
def wp_X2_solve (S : Sh) (M : Mm) (u0 : Int) (u1 : Int) (u2 : Int) (u3 : Int) (post : Mm → Prop) : Prop := wPut S M u0 2 8 u1 fun M1 => wPut S M1 u0 2 9 u2 fun M2 => wPut S M2 u0 2 10 u3 fun M3 => wGetR S M3 u0 2 4 fun v4 => wC 0 fun v6 => wGet S M3 u0 2 6 fun v8 => wC 1 fun v10 => wA v8 v10 fun v12 => wC 1000 fun v14 => wM v12 v14 fun v16 => wC (-1) fun v18 => wp_J7_fill_fda19 S M3 v4 v6 v16 v18 <| fun M20 => wC 0 fun v21 => isK S u0 2 ∧ (wp_X2_visit_d5 S M20 u0 v21 u1 <| fun M23 => post M23)
set_option maxHeartbeats 4000000 in
set_option maxRecDepth 100000 in
theorem c_X2_solve (l : Launch) (D : va_G) (G : Gt) (S : Sh) (M : Mm) (xl0 : Int) (zl1 : Int32) (zl2 : Int32) (zl3 : Int32) (post : Mm → Prop) (h : wp_X2_solve S M xl0 zl1.toInt zl2.toInt zl3.toInt post) : Met l yX2_solve (cw_X2_solve :: gw) RM_X2_solve (va_Pc [.ref (adr G xl0), .int zl1, .int zl2, .int zl3] (fun U => KN D G U ∧ Wd D G S M U.heap)) (QV D G S post) 0 0 (aG G) := by
  refine Met.ofW (cc := cX2_solve) (maxL := 4) (ret := none) (by decide) rfl ?_
  intro p e s m args below meth c s₁ B hml hv
  obtain ⟨rfl, hK, hP⟩ := hv
  have hx := B.exec
  have hb := B.bytes
  have hr := B.returns
  have hts := atoms_spec (ws := cw_X2_solve :: gw) B.pre
  have hown : s.vm.findClass RX2 = some m.cls := findClass_of_methodNamed B.named
  have hlocks := B.notSynchronized
  have hS : va_S (aG G) s.heap s.heap [] := va_S.rf
  have C : Cx p s m ([.ref (adr G xl0), .int zl1, .int zl2, .int zl3] : List Value).toArray meth c D G cX2_solve 4 none (cw_X2_solve :: gw) RX2 := ⟨hx, hb, hr, hlocks, hml, hown, hts, hK⟩
  have hl := lv_entry ([.ref (adr G xl0), .int zl1, .int zl2, .int zl3]) (n := 4) (Nat.le_of_ble_eq_true rfl)
  rw [lg_entry_eq]
  generalize (lg_sl ([.ref (adr G xl0), .int zl1, .int zl2, .int zl3]) ++ List.replicate (4 - (lg_sl ([.ref (adr G xl0), .int zl1, .int zl2, .int zl3])).length) Slot.unset).toArray = ls at hl ⊢
  have hl : lv_has ls 4 [(0, .ref (adr G xl0)), (1, .int zl1), (2, .int zl2), (3, .int zl3)] := hl
  unfold wp_X2_solve at h
  refine lv_aload_n hx hb dX2_solve_0 rfl (lv_at hl 0 rfl) ?_
  refine lv_iload_n hx hb dX2_solve_1 rfl (lv_at hl 1 rfl) ?_
  refine r_puti (C := RX2) (T := TX2) (N := 11) hx hb hts (fun w h => List.mem_cons_of_mem _ (iX2 w h)) hown hK hP tyX2 tyX2_ok nmX2 hS rfl (by decide) rfl 8 (by decide) (hts _ (List.mem_cons_of_mem _ kw_423)) (fun _ h9 => h9) rfl (tyX2_ok 8 (by decide)) rfl rfl dX2_solve_2 (by decide) h (fun M1 H locs h hP hS => ?_)
  refine lv_aload_n hx hb dX2_solve_5 rfl (lv_at hl 0 rfl) ?_
  refine lv_iload_n hx hb dX2_solve_6 rfl (lv_at hl 2 rfl) ?_
  refine r_puti (C := RX2) (T := TX2) (N := 11) hx hb hts (fun w h => List.mem_cons_of_mem _ (iX2 w h)) hown hK hP tyX2 tyX2_ok nmX2 hS rfl (by decide) rfl 9 (by decide) (hts _ (List.mem_cons_of_mem _ kw_424)) (fun _ h9 => h9) rfl (tyX2_ok 9 (by decide)) rfl rfl dX2_solve_7 (by decide) h (fun M2 H locs h hP hS => ?_)
  refine lv_aload_n hx hb dX2_solve_10 rfl (lv_at hl 0 rfl) ?_
  refine lv_iload_n hx hb dX2_solve_11 rfl (lv_at hl 3 rfl) ?_
  refine r_puti (C := RX2) (T := TX2) (N := 11) hx hb hts (fun w h => List.mem_cons_of_mem _ (iX2 w h)) hown hK hP tyX2 tyX2_ok nmX2 hS rfl (by decide) rfl 10 (by decide) (hts _ (List.mem_cons_of_mem _ kw_425)) (fun _ h9 => h9) rfl (tyX2_ok 10 (by decide)) rfl rfl dX2_solve_12 (by decide) h (fun M3 H locs h hP hS => ?_)
  refine lv_aload_n hx hb dX2_solve_15 rfl (lv_at hl 0 rfl) ?_
  refine r_getr (C := RX2) (T := TX2) (N := 11) hx hb hts (fun w h => List.mem_cons_of_mem _ (iX2 w h)) hown hK hP rfl (by decide) rfl 4 (by decide) (hts _ (List.mem_cons_of_mem _ kw_419)) (fun _ h9 => h9) dX2_solve_16 (by decide) h (fun x5 h => ?_)
  refine r_iconst hx hb dX2_solve_19 (by decide) h (fun z7 h => ?_)
  refine lv_aload_n hx hb dX2_solve_20 rfl (lv_at hl 0 rfl) ?_
  refine r_geti (C := RX2) (T := TX2) (N := 11) hx hb hts (fun w h => List.mem_cons_of_mem _ (iX2 w h)) hown hK hP rfl (by decide) rfl 6 (by decide) (hts _ (List.mem_cons_of_mem _ kw_421)) (fun _ h9 => h9) dX2_solve_21 (by decide) h (fun z9 h => ?_)
  refine r_iconst hx hb dX2_solve_24 (by decide) h (fun z11 h => ?_)
  refine r_iadd hx hb dX2_solve_25 h (fun z13 h => ?_)
  refine r_sipush hx hb dX2_solve_26 (by decide) h (fun z15 h => ?_)
  refine r_imul hx hb dX2_solve_29 h (fun z17 h => ?_)
  refine r_iconst hx hb dX2_solve_30 (by decide) h (fun z19 h => ?_)
  refine q_Sv hx hb hml hown hts hK hP hS (c_J7_fill_fda19 l D G S _ x5 z7 z17 z19 _ h) ⟨callB_of 4 hts (gw_good kw_1118) rfl rfl rfl (hts _ (List.mem_cons_of_mem _ kw_6)) (hts _ (List.mem_cons_of_mem _ kw_1116)) hd_J7_fill_fda19 ⟨Nat.le_of_ble_eq_true rfl, Nat.le_of_ble_eq_true rfl⟩, (hts _ (List.mem_cons_of_mem _ kw_1117))⟩ rfl hl.1 rfl (lv_room (Nat.le_of_ble_eq_true rfl)) dX2_solve_31 ⟨Nat.zero_le _, Nat.zero_le _⟩ (fun M20 H locs h hP hS => ?_)
  refine lv_aload_n hx hb dX2_solve_34 rfl (lv_at hl 0 rfl) ?_
  refine r_iconst hx hb dX2_solve_35 (by decide) h (fun z22 h => ?_)
  refine lv_iload_n hx hb dX2_solve_36 rfl (lv_at hl 1 rfl) ?_
  refine q_Vv hx hb hml hown hts hK hP hS (c_X2_visit_d5 l D G S _ xl0 z22 zl1 _ h.2) ⟨callB_of 2 hts (gw_good kw_1125) rfl rfl rfl (hts _ (List.mem_cons_of_mem _ kw_11)) (hts _ (List.mem_cons_of_mem _ kw_1122)) hd_X2_visit_d5 ⟨Nat.le_of_ble_eq_true rfl, Nat.le_of_ble_eq_true rfl⟩, (hts _ (List.mem_cons_of_mem _ kw_1124)), (hts _ (List.mem_cons_of_mem _ kp_40))⟩ h.1 (ci := 2) rfl (by decide) rfl hl.1 rfl (lv_room (Nat.le_of_ble_eq_true rfl)) dX2_solve_37 ⟨Nat.zero_le _, Nat.zero_le _⟩ (fun M23 H locs h hP hS => ?_)
  exact r_vret hx hb hr hlocks hP hS dX2_solve_40 h
/-! TurningMilk$Relay.howMany()I -/
abbrev RM_X2_howMany : Room := { frames := 1, cells := 0, slots := 0, locals := 40 }
def cw_X2_howMany : Cond := Cond.code yX2_howMany cX2_howMany 1 (Option.some FieldType.int)
theorem hd_X2_howMany : yX2_howMany.cls ≠ "java/lang/invoke/MethodHandle" ∧ yX2_howMany.cls ≠ "java/lang/invoke/VarHandle" ∧ (parseMethodDescriptor yX2_howMany.desc).map (fun d => d.parameters.length) = some 0 := by decide +kernel
theorem dX2_howMany_0 : decode cX2_howMany 0 = .ok (.aload_n 0, 1) := by decide +kernel
theorem dX2_howMany_1 : decode cX2_howMany 1 = .ok (.getfield 18, 3) := by decide +kernel
theorem dX2_howMany_4 : decode cX2_howMany 4 = .ok (.aload_n 0, 1) := by decide +kernel
theorem dX2_howMany_5 : decode cX2_howMany 5 = .ok (.getfield 56, 3) := by decide +kernel
theorem dX2_howMany_8 : decode cX2_howMany 8 = .ok (.iaload, 1) := by decide +kernel
theorem dX2_howMany_9 : decode cX2_howMany 9 = .ok (.ireturn, 1) := by decide +kernel
def wp_X2_howMany (S : Sh) (M : Mm) (u0 : Int) (post : Int → Mm → Prop) : Prop := wGetR S M u0 2 4 fun v1 => wGet S M u0 2 8 fun v3 => wLd S M v1 14 v3 fun v5 => post v5 M
set_option maxHeartbeats 4000000 in
set_option maxRecDepth 100000 in
theorem c_X2_howMany (l : Launch) (D : va_G) (G : Gt) (S : Sh) (M : Mm) (xl0 : Int) (post : Int → Mm → Prop) (h : wp_X2_howMany S M xl0 post) : Met l yX2_howMany (cw_X2_howMany :: gw) RM_X2_howMany (va_Pc [.ref (adr G xl0)] (fun U => KN D G U ∧ Wd D G S M U.heap)) (QI D G S post) 0 0 (aG G) := by
  refine Met.ofW (cc := cX2_howMany) (maxL := 1) (ret := (some .int)) (by decide) rfl ?_
  intro p e s m args below meth c s₁ B hml hv
  obtain ⟨rfl, hK, hP⟩ := hv
  have hx := B.exec
  have hb := B.bytes
  have hr := B.returns
  have hts := atoms_spec (ws := cw_X2_howMany :: gw) B.pre
  have hown : s.vm.findClass RX2 = some m.cls := findClass_of_methodNamed B.named
  have hlocks := B.notSynchronized
  have hS : va_S (aG G) s.heap s.heap [] := va_S.rf
  have C : Cx p s m ([.ref (adr G xl0)] : List Value).toArray meth c D G cX2_howMany 1 (some .int) (cw_X2_howMany :: gw) RX2 := ⟨hx, hb, hr, hlocks, hml, hown, hts, hK⟩
  have hl := lv_entry ([.ref (adr G xl0)]) (n := 1) (Nat.le_of_ble_eq_true rfl)
  rw [lg_entry_eq]
  generalize (lg_sl ([.ref (adr G xl0)]) ++ List.replicate (1 - (lg_sl ([.ref (adr G xl0)])).length) Slot.unset).toArray = ls at hl ⊢
  have hl : lv_has ls 1 [(0, .ref (adr G xl0))] := hl
  unfold wp_X2_howMany at h
  refine lv_aload_n hx hb dX2_howMany_0 rfl (lv_at hl 0 rfl) ?_
  refine r_getr (C := RX2) (T := TX2) (N := 11) hx hb hts (fun w h => List.mem_cons_of_mem _ (iX2 w h)) hown hK hP rfl (by decide) rfl 4 (by decide) (hts _ (List.mem_cons_of_mem _ kw_419)) (fun _ h9 => h9) dX2_howMany_1 (by decide) h (fun x2 h => ?_)
  refine lv_aload_n hx hb dX2_howMany_4 rfl (lv_at hl 0 rfl) ?_
  refine r_geti (C := RX2) (T := TX2) (N := 11) hx hb hts (fun w h => List.mem_cons_of_mem _ (iX2 w h)) hown hK hP rfl (by decide) rfl 8 (by decide) (hts _ (List.mem_cons_of_mem _ kw_423)) (fun _ h9 => h9) dX2_howMany_5 (by decide) h (fun z4 h => ?_)
  refine r_iald hx hb hK hP dX2_howMany_8 h (fun z6 h => ?_)
  exact r_iret hx hb hr hlocks hP hS dX2_howMany_9 h
/-! TurningMilk$Relay.leastTurned()I -/
abbrev RM_X2_leastTurned : Room := { frames := 1, cells := 0, slots := 0, locals := 40 }
def cw_X2_leastTurned : Cond := Cond.code yX2_leastTurned cX2_leastTurned 1 (Option.some FieldType.int)
theorem hd_X2_leastTurned : yX2_leastTurned.cls ≠ "java/lang/invoke/MethodHandle" ∧ yX2_leastTurned.cls ≠ "java/lang/invoke/VarHandle" ∧ (parseMethodDescriptor yX2_leastTurned.desc).map (fun d => d.parameters.length) = some 0 := by decide +kernel
theorem dX2_leastTurned_0 : decode cX2_leastTurned 0 = .ok (.aload_n 0, 1) := by decide +kernel
theorem dX2_leastTurned_1 : decode cX2_leastTurned 1 = .ok (.getfield 21, 3) := by decide +kernel
theorem dX2_leastTurned_4 : decode cX2_leastTurned 4 = .ok (.aload_n 0, 1) := by decide +kernel
theorem dX2_leastTurned_5 : decode cX2_leastTurned 5 = .ok (.getfield 56, 3) := by decide +kernel
theorem dX2_leastTurned_8 : decode cX2_leastTurned 8 = .ok (.iaload, 1) := by decide +kernel
theorem dX2_leastTurned_9 : decode cX2_leastTurned 9 = .ok (.ireturn, 1) := by decide +kernel
def wp_X2_leastTurned (S : Sh) (M : Mm) (u0 : Int) (post : Int → Mm → Prop) : Prop := wGetR S M u0 2 5 fun v1 => wGet S M u0 2 8 fun v3 => wLd S M v1 14 v3 fun v5 => post v5 M
set_option maxHeartbeats 4000000 in
set_option maxRecDepth 100000 in
theorem c_X2_leastTurned (l : Launch) (D : va_G) (G : Gt) (S : Sh) (M : Mm) (xl0 : Int) (post : Int → Mm → Prop) (h : wp_X2_leastTurned S M xl0 post) : Met l yX2_leastTurned (cw_X2_leastTurned :: gw) RM_X2_leastTurned (va_Pc [.ref (adr G xl0)] (fun U => KN D G U ∧ Wd D G S M U.heap)) (QI D G S post) 0 0 (aG G) := by
  refine Met.ofW (cc := cX2_leastTurned) (maxL := 1) (ret := (some .int)) (by decide) rfl ?_
  intro p e s m args below meth c s₁ B hml hv
  obtain ⟨rfl, hK, hP⟩ := hv
  have hx := B.exec
  have hb := B.bytes
  have hr := B.returns
  have hts := atoms_spec (ws := cw_X2_leastTurned :: gw) B.pre
  have hown : s.vm.findClass RX2 = some m.cls := findClass_of_methodNamed B.named
  have hlocks := B.notSynchronized
  have hS : va_S (aG G) s.heap s.heap [] := va_S.rf
  have C : Cx p s m ([.ref (adr G xl0)] : List Value).toArray meth c D G cX2_leastTurned 1 (some .int) (cw_X2_leastTurned :: gw) RX2 := ⟨hx, hb, hr, hlocks, hml, hown, hts, hK⟩
  have hl := lv_entry ([.ref (adr G xl0)]) (n := 1) (Nat.le_of_ble_eq_true rfl)
  rw [lg_entry_eq]
  generalize (lg_sl ([.ref (adr G xl0)]) ++ List.replicate (1 - (lg_sl ([.ref (adr G xl0)])).length) Slot.unset).toArray = ls at hl ⊢
  have hl : lv_has ls 1 [(0, .ref (adr G xl0))] := hl
  unfold wp_X2_leastTurned at h
  refine lv_aload_n hx hb dX2_leastTurned_0 rfl (lv_at hl 0 rfl) ?_
  refine r_getr (C := RX2) (T := TX2) (N := 11) hx hb hts (fun w h => List.mem_cons_of_mem _ (iX2 w h)) hown hK hP rfl (by decide) rfl 5 (by decide) (hts _ (List.mem_cons_of_mem _ kw_420)) (fun _ h9 => h9) dX2_leastTurned_1 (by decide) h (fun x2 h => ?_)
  refine lv_aload_n hx hb dX2_leastTurned_4 rfl (lv_at hl 0 rfl) ?_
  refine r_geti (C := RX2) (T := TX2) (N := 11) hx hb hts (fun w h => List.mem_cons_of_mem _ (iX2 w h)) hown hK hP rfl (by decide) rfl 8 (by decide) (hts _ (List.mem_cons_of_mem _ kw_423)) (fun _ h9 => h9) dX2_leastTurned_5 (by decide) h (fun z4 h => ?_)
  refine r_iald hx hb hK hP dX2_leastTurned_8 h (fun z6 h => ?_)
  exact r_iret hx hb hr hlocks hP hS dX2_leastTurned_9 h
/-! TurningMilk$Relay.firstHand(II)I -/
abbrev RM_X2_firstHand : Room := { frames := 6, cells := 0, slots := 0, locals := 152 }
def cw_X2_firstHand : Cond := Cond.code yX2_firstHand cX2_firstHand 4 (Option.some FieldType.int)
theorem hd_X2_firstHand : yX2_firstHand.cls ≠ "java/lang/invoke/MethodHandle" ∧ yX2_firstHand.cls ≠ "java/lang/invoke/VarHandle" ∧ (parseMethodDescriptor yX2_firstHand.desc).map (fun d => d.parameters.length) = some 2 := by decide +kernel
theorem dX2_firstHand_0 : decode cX2_firstHand 0 = .ok (.iconst 0, 1) := by decide +kernel
theorem dX2_firstHand_1 : decode cX2_firstHand 1 = .ok (.istore_n 3, 1) := by decide +kernel
theorem dX2_firstHand_2 : decode cX2_firstHand 2 = .ok (.iload_n 3, 1) := by decide +kernel
theorem dX2_firstHand_3 : decode cX2_firstHand 3 = .ok (.aload_n 0, 1) := by decide +kernel
theorem dX2_firstHand_4 : decode cX2_firstHand 4 = .ok (.getfield 34, 3) := by decide +kernel
theorem dX2_firstHand_7 : decode cX2_firstHand 7 = .ok (.getfield 89, 3) := by decide +kernel
theorem dX2_firstHand_10 : decode cX2_firstHand 10 = .ok (.if_icmp .ge 34, 3) := by decide +kernel
theorem dX2_firstHand_13 : decode cX2_firstHand 13 = .ok (.aload_n 0, 1) := by decide +kernel
theorem dX2_firstHand_14 : decode cX2_firstHand 14 = .ok (.getfield 18, 3) := by decide +kernel
theorem dX2_firstHand_17 : decode cX2_firstHand 17 = .ok (.iload_n 1, 1) := by decide +kernel
theorem dX2_firstHand_18 : decode cX2_firstHand 18 = .ok (.iconst 1, 1) := by decide +kernel
theorem dX2_firstHand_19 : decode cX2_firstHand 19 = .ok (.iadd, 1) := by decide +kernel
theorem dX2_firstHand_20 : decode cX2_firstHand 20 = .ok (.sipush 1000, 3) := by decide +kernel
theorem dX2_firstHand_23 : decode cX2_firstHand 23 = .ok (.imul, 1) := by decide +kernel
theorem dX2_firstHand_24 : decode cX2_firstHand 24 = .ok (.aload_n 0, 1) := by decide +kernel
theorem dX2_firstHand_25 : decode cX2_firstHand 25 = .ok (.iload_n 1, 1) := by decide +kernel
theorem dX2_firstHand_26 : decode cX2_firstHand 26 = .ok (.iload_n 3, 1) := by decide +kernel
theorem dX2_firstHand_27 : decode cX2_firstHand 27 = .ok (.iload_n 2, 1) := by decide +kernel
theorem dX2_firstHand_28 : decode cX2_firstHand 28 = .ok (.invokevirtual 92, 3) := by decide +kernel
theorem dX2_firstHand_31 : decode cX2_firstHand 31 = .ok (.iadd, 1) := by decide +kernel
theorem dX2_firstHand_32 : decode cX2_firstHand 32 = .ok (.iaload, 1) := by decide +kernel
theorem dX2_firstHand_33 : decode cX2_firstHand 33 = .ok (.ifCond .le 5, 3) := by decide +kernel
theorem dX2_firstHand_36 : decode cX2_firstHand 36 = .ok (.iload_n 3, 1) := by decide +kernel
theorem dX2_firstHand_37 : decode cX2_firstHand 37 = .ok (.ireturn, 1) := by decide +kernel
theorem dX2_firstHand_38 : decode cX2_firstHand 38 = .ok (.iinc 3 1, 3) := by decide +kernel
theorem dX2_firstHand_41 : decode cX2_firstHand 41 = .ok (.goto (-39), 3) := by decide +kernel
theorem dX2_firstHand_44 : decode cX2_firstHand 44 = .ok (.iconst 0, 1) := by decide +kernel
theorem dX2_firstHand_45 : decode cX2_firstHand 45 = .ok (.ireturn, 1) := by decide +kernel
def wp_X2_firstHand_2 (S : Sh) (post : Int → Mm → Prop) : Nat → Int → Int → Int → Int → Mm → Prop
  | 0, _, _, _, _, _ => False
  | n + 1, u0, u1, u2, u3, M => wGetR S M u0 2 1 fun v1 => wGet S M v1 8 4 fun v3 => wIf (v3 ≤ u3) (wC 0 fun v5 => post v5 M) (wGetR S M u0 2 4 fun v7 => wC 1 fun v9 => wA u1 v9 fun v11 => wC 1000 fun v13 => wM v11 v13 fun v15 => isK S u0 2 ∧ (wp_X2_carried S M u0 u1 u3 u2 <| fun v18 M17 => wA v15 v18 fun v20 => wLd S M17 v7 14 v20 fun v22 => wIf (v22 ≤ 0) (wA u3 1 fun v24 => wp_X2_firstHand_2 S post n u0 u1 u2 v24 M17) (post u3 M17)))
def wp_X2_firstHand (S : Sh) (M : Mm) (u0 : Int) (u1 : Int) (u2 : Int) (post : Int → Mm → Prop) : Prop := wC 0 fun v26 => ∃ n9 : Nat, wp_X2_firstHand_2 S post n9 u0 u1 u2 v26 M
set_option maxHeartbeats 4000000 in
set_option maxRecDepth 100000 in
theorem t_X2_firstHand_2 {p : Program} {l : Launch} {e : Env} {s : State} {m : MethodId} {args : Array Value} {below : List Frame} {meth : Method} {c : Code} {D : va_G} {G : Gt} {S : Sh} {post : Int → Mm → Prop} (C : Cx p s m args meth c D G cX2_firstHand 4 (some .int) (cw_X2_firstHand :: gw) RX2) : ∀ (n : Nat) (xl0 : Int) (zl1 : Int32) (zl2 : Int32) (zl3 : Int32) (M : Mm) (H : Heap) (locs : List Loc) (ls : Array Slot), Wd D G S M H → va_S (aG G) s.heap H locs → lv_has ls 4 [(0, .ref (adr G xl0)), (1, .int zl1), (2, .int zl2), (3, .int zl3)] → wp_X2_firstHand_2 S post n xl0 zl1.toInt zl2.toInt zl3.toInt  M → W p l e RM_X2_firstHand s m args below meth c H locs 0 0 (MQ below (QI D G S post) args s 0 0 (aG G)) (F0 m 2 ls []) := by
  obtain ⟨hx, hb, hr, hlocks, hml, hown, hts, hK⟩ := id C
  intro n
  induction n with
  | zero => intro xl0 zl1 zl2 zl3 M H locs ls hP hS hl h; exact h.elim
  | succ n ih =>
    intro xl0 zl1 zl2 zl3 M H locs ls hP hS hl h
    unfold wp_X2_firstHand_2 at h
    refine lv_iload_n hx hb dX2_firstHand_2 rfl (lv_at hl 3 rfl) ?_
    refine lv_aload_n hx hb dX2_firstHand_3 rfl (lv_at hl 0 rfl) ?_
    refine r_getr (C := RX2) (T := TX2) (N := 11) hx hb hts (fun w h => List.mem_cons_of_mem _ (iX2 w h)) hown hK hP rfl (by decide) rfl 1 (by decide) (hts _ (List.mem_cons_of_mem _ kw_416)) (fun _ h9 => h9) dX2_firstHand_4 (by decide) h (fun x2 h => ?_)
    refine r_getiN (C := RX8) (T := TX8) (N := 19) hx hb hts (fun w h => List.mem_cons_of_mem _ (iX8 w h)) hown hK hP rfl (by decide) rfl 4 (by decide) (nw_15 hK) (fun _ h9 => h9) dX2_firstHand_7 (by decide) h (fun z4 h => ?_)
    refine r_icmp_ge (tgt := 44) hx hb dX2_firstHand_10 (by decide) h (fun h => ?_) (fun h => ?_)
    · refine r_iconst hx hb dX2_firstHand_44 (by decide) h (fun z6 h => ?_)
      exact r_iret hx hb hr hlocks hP hS dX2_firstHand_45 h
    · refine lv_aload_n hx hb dX2_firstHand_13 rfl (lv_at hl 0 rfl) ?_
      refine r_getr (C := RX2) (T := TX2) (N := 11) hx hb hts (fun w h => List.mem_cons_of_mem _ (iX2 w h)) hown hK hP rfl (by decide) rfl 4 (by decide) (hts _ (List.mem_cons_of_mem _ kw_419)) (fun _ h9 => h9) dX2_firstHand_14 (by decide) h (fun x8 h => ?_)
      refine lv_iload_n hx hb dX2_firstHand_17 rfl (lv_at hl 1 rfl) ?_
      refine r_iconst hx hb dX2_firstHand_18 (by decide) h (fun z10 h => ?_)
      refine r_iadd hx hb dX2_firstHand_19 h (fun z12 h => ?_)
      refine r_sipush hx hb dX2_firstHand_20 (by decide) h (fun z14 h => ?_)
      refine r_imul hx hb dX2_firstHand_23 h (fun z16 h => ?_)
      refine lv_aload_n hx hb dX2_firstHand_24 rfl (lv_at hl 0 rfl) ?_
      refine lv_iload_n hx hb dX2_firstHand_25 rfl (lv_at hl 1 rfl) ?_
      refine lv_iload_n hx hb dX2_firstHand_26 rfl (lv_at hl 3 rfl) ?_
      refine lv_iload_n hx hb dX2_firstHand_27 rfl (lv_at hl 2 rfl) ?_
      refine q_Vi hx hb hml hown hts hK hP hS (c_X2_carried l D G S _ xl0 zl1 zl3 zl2 _ h.2) ⟨callB_of 3 hts (gw_good kw_1129) rfl rfl rfl (hts _ (List.mem_cons_of_mem _ kw_11)) (hts _ (List.mem_cons_of_mem _ kw_1126)) hd_X2_carried ⟨Nat.le_of_ble_eq_true rfl, Nat.le_of_ble_eq_true rfl⟩, (hts _ (List.mem_cons_of_mem _ kw_1128)), (hts _ (List.mem_cons_of_mem _ kp_41))⟩ h.1 (ci := 2) rfl (by decide) rfl hl.1 rfl (lv_room (Nat.le_of_ble_eq_true rfl)) dX2_firstHand_28 ⟨Nat.zero_le _, Nat.zero_le _⟩ (fun z19 M17 H locs h hP hS => ?_)
      refine r_iadd hx hb dX2_firstHand_31 h (fun z21 h => ?_)
      refine r_iald hx hb hK hP dX2_firstHand_32 h (fun z23 h => ?_)
      refine r_if_le (tgt := 38) hx hb dX2_firstHand_33 (by decide) h (fun h => ?_) (fun h => ?_)
      · refine r_iinc hx hb (fun z25 => [(3, .int z25), (0, .ref (adr G xl0)), (1, .int zl1), (2, .int zl2)]) dX2_firstHand_38 (by decide) hl (k := 3) rfl (by decide) (fun _ => rfl) h (fun z25 ls hl h => ?_)
        refine lv_goto (tgt := 2) hx hb dX2_firstHand_41 (by decide) ?_
        exact ih xl0 zl1 zl2 z25 _ _ _ _ hP hS (lv_sub hl [1, 2, 3, 0] rfl) h
      · refine lv_iload_n hx hb dX2_firstHand_36 rfl (lv_at hl 3 rfl) ?_
        exact r_iret hx hb hr hlocks hP hS dX2_firstHand_37 h
set_option maxHeartbeats 4000000 in
set_option maxRecDepth 100000 in
theorem c_X2_firstHand (l : Launch) (D : va_G) (G : Gt) (S : Sh) (M : Mm) (xl0 : Int) (zl1 : Int32) (zl2 : Int32) (post : Int → Mm → Prop) (h : wp_X2_firstHand S M xl0 zl1.toInt zl2.toInt post) : Met l yX2_firstHand (cw_X2_firstHand :: gw) RM_X2_firstHand (va_Pc [.ref (adr G xl0), .int zl1, .int zl2] (fun U => KN D G U ∧ Wd D G S M U.heap)) (QI D G S post) 0 0 (aG G) := by
  refine Met.ofW (cc := cX2_firstHand) (maxL := 4) (ret := (some .int)) (by decide) rfl ?_
  intro p e s m args below meth c s₁ B hml hv
  obtain ⟨rfl, hK, hP⟩ := hv
  have hx := B.exec
  have hb := B.bytes
  have hr := B.returns
  have hts := atoms_spec (ws := cw_X2_firstHand :: gw) B.pre
  have hown : s.vm.findClass RX2 = some m.cls := findClass_of_methodNamed B.named
  have hlocks := B.notSynchronized
  have hS : va_S (aG G) s.heap s.heap [] := va_S.rf
  have C : Cx p s m ([.ref (adr G xl0), .int zl1, .int zl2] : List Value).toArray meth c D G cX2_firstHand 4 (some .int) (cw_X2_firstHand :: gw) RX2 := ⟨hx, hb, hr, hlocks, hml, hown, hts, hK⟩
  have hl := lv_entry ([.ref (adr G xl0), .int zl1, .int zl2]) (n := 4) (Nat.le_of_ble_eq_true rfl)
  rw [lg_entry_eq]
  generalize (lg_sl ([.ref (adr G xl0), .int zl1, .int zl2]) ++ List.replicate (4 - (lg_sl ([.ref (adr G xl0), .int zl1, .int zl2])).length) Slot.unset).toArray = ls at hl ⊢
  have hl : lv_has ls 4 [(0, .ref (adr G xl0)), (1, .int zl1), (2, .int zl2)] := hl
  unfold wp_X2_firstHand at h
  refine r_iconst hx hb dX2_firstHand_0 (by decide) h (fun z27 h => ?_)
  refine lv_istore_n (lv' := [(3, .int z27), (0, .ref (adr G xl0)), (1, .int zl1), (2, .int zl2)]) hx hb dX2_firstHand_1 rfl hl (by decide) rfl (fun ls hl => ?_)
  obtain ⟨n9, h⟩ := h
  exact t_X2_firstHand_2 C n9 xl0 zl1 zl2 z27 _ _ _ _ hP hS (lv_sub hl [1, 2, 3, 0] rfl) h
/-! TurningMilk$Relay.handOfFirst(I)I -/
abbrev RM_X2_handOfFirst : Room := { frames := 7, cells := 0, slots := 0, locals := 175 }
def cw_X2_handOfFirst : Cond := Cond.code yX2_handOfFirst cX2_handOfFirst 4 (Option.some FieldType.int)
theorem hd_X2_handOfFirst : yX2_handOfFirst.cls ≠ "java/lang/invoke/MethodHandle" ∧ yX2_handOfFirst.cls ≠ "java/lang/invoke/VarHandle" ∧ (parseMethodDescriptor yX2_handOfFirst.desc).map (fun d => d.parameters.length) = some 1 := by decide +kernel
theorem dX2_handOfFirst_0 : decode cX2_handOfFirst 0 = .ok (.iload_n 1, 1) := by decide +kernel
theorem dX2_handOfFirst_1 : decode cX2_handOfFirst 1 = .ok (.aload_n 0, 1) := by decide +kernel
theorem dX2_handOfFirst_2 : decode cX2_handOfFirst 2 = .ok (.getfield 39, 3) := by decide +kernel
theorem dX2_handOfFirst_5 : decode cX2_handOfFirst 5 = .ok (.if_icmp .ge 10, 3) := by decide +kernel
theorem dX2_handOfFirst_8 : decode cX2_handOfFirst 8 = .ok (.aload_n 0, 1) := by decide +kernel
theorem dX2_handOfFirst_9 : decode cX2_handOfFirst 9 = .ok (.invokevirtual 96, 3) := by decide +kernel
theorem dX2_handOfFirst_12 : decode cX2_handOfFirst 12 = .ok (.ifCond .ne 6, 3) := by decide +kernel
theorem dX2_handOfFirst_15 : decode cX2_handOfFirst 15 = .ok (.bipush (-2), 2) := by decide +kernel
theorem dX2_handOfFirst_17 : decode cX2_handOfFirst 17 = .ok (.ireturn, 1) := by decide +kernel
theorem dX2_handOfFirst_18 : decode cX2_handOfFirst 18 = .ok (.aload_n 0, 1) := by decide +kernel
theorem dX2_handOfFirst_19 : decode cX2_handOfFirst 19 = .ok (.getfield 56, 3) := by decide +kernel
theorem dX2_handOfFirst_22 : decode cX2_handOfFirst 22 = .ok (.istore_n 2, 1) := by decide +kernel
theorem dX2_handOfFirst_23 : decode cX2_handOfFirst 23 = .ok (.iconst 0, 1) := by decide +kernel
theorem dX2_handOfFirst_24 : decode cX2_handOfFirst 24 = .ok (.istore_n 3, 1) := by decide +kernel
theorem dX2_handOfFirst_25 : decode cX2_handOfFirst 25 = .ok (.iload_n 3, 1) := by decide +kernel
theorem dX2_handOfFirst_26 : decode cX2_handOfFirst 26 = .ok (.iload_n 1, 1) := by decide +kernel
theorem dX2_handOfFirst_27 : decode cX2_handOfFirst 27 = .ok (.if_icmp .ge 22, 3) := by decide +kernel
theorem dX2_handOfFirst_30 : decode cX2_handOfFirst 30 = .ok (.aload_n 0, 1) := by decide +kernel
theorem dX2_handOfFirst_31 : decode cX2_handOfFirst 31 = .ok (.iload_n 3, 1) := by decide +kernel
theorem dX2_handOfFirst_32 : decode cX2_handOfFirst 32 = .ok (.aload_n 0, 1) := by decide +kernel
theorem dX2_handOfFirst_33 : decode cX2_handOfFirst 33 = .ok (.iload_n 3, 1) := by decide +kernel
theorem dX2_handOfFirst_34 : decode cX2_handOfFirst 34 = .ok (.iload_n 2, 1) := by decide +kernel
theorem dX2_handOfFirst_35 : decode cX2_handOfFirst 35 = .ok (.invokevirtual 100, 3) := by decide +kernel
theorem dX2_handOfFirst_38 : decode cX2_handOfFirst 38 = .ok (.iload_n 2, 1) := by decide +kernel
theorem dX2_handOfFirst_39 : decode cX2_handOfFirst 39 = .ok (.invokevirtual 92, 3) := by decide +kernel
theorem dX2_handOfFirst_42 : decode cX2_handOfFirst 42 = .ok (.istore_n 2, 1) := by decide +kernel
theorem dX2_handOfFirst_43 : decode cX2_handOfFirst 43 = .ok (.iinc 3 1, 3) := by decide +kernel
theorem dX2_handOfFirst_46 : decode cX2_handOfFirst 46 = .ok (.goto (-21), 3) := by decide +kernel
theorem dX2_handOfFirst_49 : decode cX2_handOfFirst 49 = .ok (.aload_n 0, 1) := by decide +kernel
theorem dX2_handOfFirst_50 : decode cX2_handOfFirst 50 = .ok (.iload_n 1, 1) := by decide +kernel
theorem dX2_handOfFirst_51 : decode cX2_handOfFirst 51 = .ok (.iload_n 2, 1) := by decide +kernel
theorem dX2_handOfFirst_52 : decode cX2_handOfFirst 52 = .ok (.invokevirtual 100, 3) := by decide +kernel
theorem dX2_handOfFirst_55 : decode cX2_handOfFirst 55 = .ok (.ireturn, 1) := by decide +kernel
def wp_X2_handOfFirst_25 (S : Sh) (post : Int → Mm → Prop) : Nat → Int → Int → Int → Int → Mm → Prop
  | 0, _, _, _, _, _ => False
  | n + 1, u0, u1, u2, u3, M => wIf (u1 ≤ u3) (isK S u0 2 ∧ (wp_X2_firstHand S M u0 u1 u2 <| fun v2 M1 => post v2 M1)) (isK S u0 2 ∧ (wp_X2_firstHand S M u0 u3 u2 <| fun v5 M4 => isK S u0 2 ∧ (wp_X2_carried S M4 u0 u3 v5 u2 <| fun v8 M7 => wA u3 1 fun v10 => wp_X2_handOfFirst_25 S post n u0 u1 v8 v10 M7)))
def wp_X2_handOfFirst (S : Sh) (M : Mm) (u0 : Int) (u1 : Int) (post : Int → Mm → Prop) : Prop := wGet S M u0 2 6 fun v12 => wIf (v12 ≤ u1) (wC (-2) fun v14 => post v14 M) (isK S u0 2 ∧ (wp_X2_howMany S M u0 <| fun v17 M16 => wIf (¬ v17 = 0) (wGet S M16 u0 2 8 fun v19 => wC 0 fun v21 => ∃ n9 : Nat, wp_X2_handOfFirst_25 S post n9 u0 u1 v19 v21 M16) (wC (-2) fun v23 => post v23 M16)))
set_option maxHeartbeats 4000000 in
set_option maxRecDepth 100000 in
theorem t_X2_handOfFirst_25 {p : Program} {l : Launch} {e : Env} {s : State} {m : MethodId} {args : Array Value} {below : List Frame} {meth : Method} {c : Code} {D : va_G} {G : Gt} {S : Sh} {post : Int → Mm → Prop} (C : Cx p s m args meth c D G cX2_handOfFirst 4 (some .int) (cw_X2_handOfFirst :: gw) RX2) : ∀ (n : Nat) (xl0 : Int) (zl1 : Int32) (zl2 : Int32) (zl3 : Int32) (M : Mm) (H : Heap) (locs : List Loc) (ls : Array Slot), Wd D G S M H → va_S (aG G) s.heap H locs → lv_has ls 4 [(0, .ref (adr G xl0)), (1, .int zl1), (2, .int zl2), (3, .int zl3)] → wp_X2_handOfFirst_25 S post n xl0 zl1.toInt zl2.toInt zl3.toInt  M → W p l e RM_X2_handOfFirst s m args below meth c H locs 0 0 (MQ below (QI D G S post) args s 0 0 (aG G)) (F0 m 25 ls []) := by
  obtain ⟨hx, hb, hr, hlocks, hml, hown, hts, hK⟩ := id C
  intro n
  induction n with
  | zero => intro xl0 zl1 zl2 zl3 M H locs ls hP hS hl h; exact h.elim
  | succ n ih =>
    intro xl0 zl1 zl2 zl3 M H locs ls hP hS hl h
    unfold wp_X2_handOfFirst_25 at h
    refine lv_iload_n hx hb dX2_handOfFirst_25 rfl (lv_at hl 3 rfl) ?_
    refine lv_iload_n hx hb dX2_handOfFirst_26 rfl (lv_at hl 1 rfl) ?_
    refine r_icmp_ge (tgt := 49) hx hb dX2_handOfFirst_27 (by decide) h (fun h => ?_) (fun h => ?_)
    · refine lv_aload_n hx hb dX2_handOfFirst_49 rfl (lv_at hl 0 rfl) ?_
      refine lv_iload_n hx hb dX2_handOfFirst_50 rfl (lv_at hl 1 rfl) ?_
      refine lv_iload_n hx hb dX2_handOfFirst_51 rfl (lv_at hl 2 rfl) ?_
      refine q_Vi hx hb hml hown hts hK hP hS (c_X2_firstHand l D G S _ xl0 zl1 zl2 _ h.2) ⟨callB_of 2 hts (gw_good kw_1148) rfl rfl rfl (hts _ (List.mem_cons_of_mem _ kw_11)) (hts _ (List.mem_cons_of_mem _ kw_1145)) hd_X2_firstHand ⟨Nat.le_of_ble_eq_true rfl, Nat.le_of_ble_eq_true rfl⟩, (hts _ (List.mem_cons_of_mem _ kw_1147)), (hts _ (List.mem_cons_of_mem _ kp_42))⟩ h.1 (ci := 2) rfl (by decide) rfl hl.1 rfl (lv_room (Nat.le_of_ble_eq_true rfl)) dX2_handOfFirst_52 ⟨Nat.zero_le _, Nat.zero_le _⟩ (fun z3 M1 H locs h hP hS => ?_)
      exact r_iret hx hb hr hlocks hP hS dX2_handOfFirst_55 h
    · refine lv_aload_n hx hb dX2_handOfFirst_30 rfl (lv_at hl 0 rfl) ?_
      refine lv_iload_n hx hb dX2_handOfFirst_31 rfl (lv_at hl 3 rfl) ?_
      refine lv_aload_n hx hb dX2_handOfFirst_32 rfl (lv_at hl 0 rfl) ?_
      refine lv_iload_n hx hb dX2_handOfFirst_33 rfl (lv_at hl 3 rfl) ?_
      refine lv_iload_n hx hb dX2_handOfFirst_34 rfl (lv_at hl 2 rfl) ?_
      refine q_Vi hx hb hml hown hts hK hP hS (c_X2_firstHand l D G S _ xl0 zl3 zl2 _ h.2) ⟨callB_of 2 hts (gw_good kw_1148) rfl rfl rfl (hts _ (List.mem_cons_of_mem _ kw_11)) (hts _ (List.mem_cons_of_mem _ kw_1145)) hd_X2_firstHand ⟨Nat.le_of_ble_eq_true rfl, Nat.le_of_ble_eq_true rfl⟩, (hts _ (List.mem_cons_of_mem _ kw_1147)), (hts _ (List.mem_cons_of_mem _ kp_42))⟩ h.1 (ci := 2) rfl (by decide) rfl hl.1 rfl (lv_room (Nat.le_of_ble_eq_true rfl)) dX2_handOfFirst_35 ⟨Nat.zero_le _, Nat.zero_le _⟩ (fun z6 M4 H locs h hP hS => ?_)
      refine lv_iload_n hx hb dX2_handOfFirst_38 rfl (lv_at hl 2 rfl) ?_
      refine q_Vi hx hb hml hown hts hK hP hS (c_X2_carried l D G S _ xl0 zl3 z6 zl2 _ h.2) ⟨callB_of 3 hts (gw_good kw_1129) rfl rfl rfl (hts _ (List.mem_cons_of_mem _ kw_11)) (hts _ (List.mem_cons_of_mem _ kw_1126)) hd_X2_carried ⟨Nat.le_of_ble_eq_true rfl, Nat.le_of_ble_eq_true rfl⟩, (hts _ (List.mem_cons_of_mem _ kw_1128)), (hts _ (List.mem_cons_of_mem _ kp_41))⟩ h.1 (ci := 2) rfl (by decide) rfl hl.1 rfl (lv_room (Nat.le_of_ble_eq_true rfl)) dX2_handOfFirst_39 ⟨Nat.zero_le _, Nat.zero_le _⟩ (fun z9 M7 H locs h hP hS => ?_)
      refine lv_istore_n (lv' := [(2, .int z9), (0, .ref (adr G xl0)), (1, .int zl1), (3, .int zl3)]) hx hb dX2_handOfFirst_42 rfl hl (by decide) rfl (fun ls hl => ?_)
      refine r_iinc hx hb (fun z11 => [(3, .int z11), (2, .int z9), (0, .ref (adr G xl0)), (1, .int zl1)]) dX2_handOfFirst_43 (by decide) hl (k := 3) rfl (by decide) (fun _ => rfl) h (fun z11 ls hl h => ?_)
      refine lv_goto (tgt := 25) hx hb dX2_handOfFirst_46 (by decide) ?_
      exact ih xl0 zl1 z9 z11 _ _ _ _ hP hS (lv_sub hl [2, 3, 1, 0] rfl) h
set_option maxHeartbeats 4000000 in
set_option maxRecDepth 100000 in
theorem c_X2_handOfFirst (l : Launch) (D : va_G) (G : Gt) (S : Sh) (M : Mm) (xl0 : Int) (zl1 : Int32) (post : Int → Mm → Prop) (h : wp_X2_handOfFirst S M xl0 zl1.toInt post) : Met l yX2_handOfFirst (cw_X2_handOfFirst :: gw) RM_X2_handOfFirst (va_Pc [.ref (adr G xl0), .int zl1] (fun U => KN D G U ∧ Wd D G S M U.heap)) (QI D G S post) 0 0 (aG G) := by
  refine Met.ofW (cc := cX2_handOfFirst) (maxL := 4) (ret := (some .int)) (by decide) rfl ?_
  intro p e s m args below meth c s₁ B hml hv
  obtain ⟨rfl, hK, hP⟩ := hv
  have hx := B.exec
  have hb := B.bytes
  have hr := B.returns
  have hts := atoms_spec (ws := cw_X2_handOfFirst :: gw) B.pre
  have hown : s.vm.findClass RX2 = some m.cls := findClass_of_methodNamed B.named
  have hlocks := B.notSynchronized
  have hS : va_S (aG G) s.heap s.heap [] := va_S.rf
  have C : Cx p s m ([.ref (adr G xl0), .int zl1] : List Value).toArray meth c D G cX2_handOfFirst 4 (some .int) (cw_X2_handOfFirst :: gw) RX2 := ⟨hx, hb, hr, hlocks, hml, hown, hts, hK⟩
  have hl := lv_entry ([.ref (adr G xl0), .int zl1]) (n := 4) (Nat.le_of_ble_eq_true rfl)
  rw [lg_entry_eq]
  generalize (lg_sl ([.ref (adr G xl0), .int zl1]) ++ List.replicate (4 - (lg_sl ([.ref (adr G xl0), .int zl1])).length) Slot.unset).toArray = ls at hl ⊢
  have hl : lv_has ls 4 [(0, .ref (adr G xl0)), (1, .int zl1)] := hl
  unfold wp_X2_handOfFirst at h
  refine lv_iload_n hx hb dX2_handOfFirst_0 rfl (lv_at hl 1 rfl) ?_
  refine lv_aload_n hx hb dX2_handOfFirst_1 rfl (lv_at hl 0 rfl) ?_
  refine r_geti (C := RX2) (T := TX2) (N := 11) hx hb hts (fun w h => List.mem_cons_of_mem _ (iX2 w h)) hown hK hP rfl (by decide) rfl 6 (by decide) (hts _ (List.mem_cons_of_mem _ kw_421)) (fun _ h9 => h9) dX2_handOfFirst_2 (by decide) h (fun z13 h => ?_)
  refine r_icmp_ge (tgt := 15) hx hb dX2_handOfFirst_5 (by decide) h (fun h => ?_) (fun h => ?_)
  · refine r_bipush hx hb dX2_handOfFirst_15 (by decide) h (fun z15 h => ?_)
    exact r_iret hx hb hr hlocks hP hS dX2_handOfFirst_17 h
  · refine lv_aload_n hx hb dX2_handOfFirst_8 rfl (lv_at hl 0 rfl) ?_
    refine q_Vi hx hb hml hown hts hK hP hS (c_X2_howMany l D G S _ xl0 _ h.2) ⟨callB_of 0 hts (gw_good kw_1135) rfl rfl rfl (hts _ (List.mem_cons_of_mem _ kw_11)) (hts _ (List.mem_cons_of_mem _ kw_1144)) hd_X2_howMany ⟨Nat.le_of_ble_eq_true rfl, Nat.le_of_ble_eq_true rfl⟩, (hts _ (List.mem_cons_of_mem _ kw_1133)), (hts _ (List.mem_cons_of_mem _ kw_1134))⟩ h.1 (ci := 2) rfl (by decide) rfl hl.1 rfl (lv_room (Nat.le_of_ble_eq_true rfl)) dX2_handOfFirst_9 ⟨Nat.zero_le _, Nat.zero_le _⟩ (fun z18 M16 H locs h hP hS => ?_)
    refine r_if_ne (tgt := 18) hx hb dX2_handOfFirst_12 (by decide) h (fun h => ?_) (fun h => ?_)
    · refine lv_aload_n hx hb dX2_handOfFirst_18 rfl (lv_at hl 0 rfl) ?_
      refine r_geti (C := RX2) (T := TX2) (N := 11) hx hb hts (fun w h => List.mem_cons_of_mem _ (iX2 w h)) hown hK hP rfl (by decide) rfl 8 (by decide) (hts _ (List.mem_cons_of_mem _ kw_423)) (fun _ h9 => h9) dX2_handOfFirst_19 (by decide) h (fun z20 h => ?_)
      refine lv_istore_n (lv' := [(2, .int z20), (0, .ref (adr G xl0)), (1, .int zl1)]) hx hb dX2_handOfFirst_22 rfl hl (by decide) rfl (fun ls hl => ?_)
      refine r_iconst hx hb dX2_handOfFirst_23 (by decide) h (fun z22 h => ?_)
      refine lv_istore_n (lv' := [(3, .int z22), (2, .int z20), (0, .ref (adr G xl0)), (1, .int zl1)]) hx hb dX2_handOfFirst_24 rfl hl (by decide) rfl (fun ls hl => ?_)
      obtain ⟨n9, h⟩ := h
      exact t_X2_handOfFirst_25 C n9 xl0 zl1 z20 z22 _ _ _ _ hP hS (lv_sub hl [2, 3, 1, 0] rfl) h
    · refine r_bipush hx hb dX2_handOfFirst_15 (by decide) h (fun z24 h => ?_)
      exact r_iret hx hb hr hlocks hP hS dX2_handOfFirst_17 h
/-! TurningMilk.relay(IIIII)I -/
abbrev RM_X11_relay : Room := { frames := 13, cells := 0, slots := 0, locals := 337 }
def cw_X11_relay : Cond := Cond.code yX11_relay cX11_relay 7 (Option.some FieldType.int)
theorem hd_X11_relay : yX11_relay.cls ≠ "java/lang/invoke/MethodHandle" ∧ yX11_relay.cls ≠ "java/lang/invoke/VarHandle" ∧ (parseMethodDescriptor yX11_relay.desc).map (fun d => d.parameters.length) = some 5 := by decide +kernel
theorem dX11_relay_0 : decode cX11_relay 0 = .ok (.aload_n 0, 1) := by decide +kernel
theorem dX11_relay_1 : decode cX11_relay 1 = .ok (.iload_n 1, 1) := by decide +kernel
theorem dX11_relay_2 : decode cX11_relay 2 = .ok (.invokevirtual 302, 3) := by decide +kernel
theorem dX11_relay_5 : decode cX11_relay 5 = .ok (.ifCond .eq 23, 3) := by decide +kernel
theorem dX11_relay_8 : decode cX11_relay 8 = .ok (.aload_n 0, 1) := by decide +kernel
theorem dX11_relay_9 : decode cX11_relay 9 = .ok (.iload_n 2, 1) := by decide +kernel
theorem dX11_relay_10 : decode cX11_relay 10 = .ok (.invokevirtual 275, 3) := by decide +kernel
theorem dX11_relay_13 : decode cX11_relay 13 = .ok (.ifCond .eq 15, 3) := by decide +kernel
theorem dX11_relay_16 : decode cX11_relay 16 = .ok (.iload 5, 2) := by decide +kernel
theorem dX11_relay_18 : decode cX11_relay 18 = .ok (.ifCond .lt 10, 3) := by decide +kernel
theorem dX11_relay_21 : decode cX11_relay 21 = .ok (.iload 5, 2) := by decide +kernel
theorem dX11_relay_23 : decode cX11_relay 23 = .ok (.bipush 6, 2) := by decide +kernel
theorem dX11_relay_25 : decode cX11_relay 25 = .ok (.if_icmp .le 6, 3) := by decide +kernel
theorem dX11_relay_28 : decode cX11_relay 28 = .ok (.bipush (-3), 2) := by decide +kernel
theorem dX11_relay_30 : decode cX11_relay 30 = .ok (.ireturn, 1) := by decide +kernel
theorem dX11_relay_31 : decode cX11_relay 31 = .ok (.iload_n 3, 1) := by decide +kernel
theorem dX11_relay_32 : decode cX11_relay 32 = .ok (.invokestatic 318, 3) := by decide +kernel
theorem dX11_relay_35 : decode cX11_relay 35 = .ok (.ifCond .eq 17, 3) := by decide +kernel
theorem dX11_relay_38 : decode cX11_relay 38 = .ok (.iload 4, 2) := by decide +kernel
theorem dX11_relay_40 : decode cX11_relay 40 = .ok (.invokestatic 318, 3) := by decide +kernel
theorem dX11_relay_43 : decode cX11_relay 43 = .ok (.ifCond .eq 9, 3) := by decide +kernel
theorem dX11_relay_46 : decode cX11_relay 46 = .ok (.iload 4, 2) := by decide +kernel
theorem dX11_relay_48 : decode cX11_relay 48 = .ok (.iload_n 3, 1) := by decide +kernel
theorem dX11_relay_49 : decode cX11_relay 49 = .ok (.if_icmp .ge 6, 3) := by decide +kernel
theorem dX11_relay_52 : decode cX11_relay 52 = .ok (.bipush (-3), 2) := by decide +kernel
theorem dX11_relay_54 : decode cX11_relay 54 = .ok (.ireturn, 1) := by decide +kernel
theorem dX11_relay_55 : decode cX11_relay 55 = .ok (.aload_n 0, 1) := by decide +kernel
theorem dX11_relay_56 : decode cX11_relay 56 = .ok (.getfield 19, 3) := by decide +kernel
theorem dX11_relay_59 : decode cX11_relay 59 = .ok (.getfield 133, 3) := by decide +kernel
theorem dX11_relay_62 : decode cX11_relay 62 = .ok (.getfield 203, 3) := by decide +kernel
theorem dX11_relay_65 : decode cX11_relay 65 = .ok (.iload_n 1, 1) := by decide +kernel
theorem dX11_relay_66 : decode cX11_relay 66 = .ok (.iaload, 1) := by decide +kernel
theorem dX11_relay_67 : decode cX11_relay 67 = .ok (.istore 6, 2) := by decide +kernel
theorem dX11_relay_69 : decode cX11_relay 69 = .ok (.aload_n 0, 1) := by decide +kernel
theorem dX11_relay_70 : decode cX11_relay 70 = .ok (.getfield 19, 3) := by decide +kernel
theorem dX11_relay_73 : decode cX11_relay 73 = .ok (.getfield 57, 3) := by decide +kernel
theorem dX11_relay_76 : decode cX11_relay 76 = .ok (.iload 6, 2) := by decide +kernel
theorem dX11_relay_78 : decode cX11_relay 78 = .ok (.iload_n 2, 1) := by decide +kernel
theorem dX11_relay_79 : decode cX11_relay 79 = .ok (.invokevirtual 293, 3) := by decide +kernel
theorem dX11_relay_82 : decode cX11_relay 82 = .ok (.ifCond .eq 22, 3) := by decide +kernel
theorem dX11_relay_85 : decode cX11_relay 85 = .ok (.iload 6, 2) := by decide +kernel
theorem dX11_relay_87 : decode cX11_relay 87 = .ok (.iload_n 2, 1) := by decide +kernel
theorem dX11_relay_88 : decode cX11_relay 88 = .ok (.if_icmp .eq 19, 3) := by decide +kernel
theorem dX11_relay_91 : decode cX11_relay 91 = .ok (.aload_n 0, 1) := by decide +kernel
theorem dX11_relay_92 : decode cX11_relay 92 = .ok (.getfield 19, 3) := by decide +kernel
theorem dX11_relay_95 : decode cX11_relay 95 = .ok (.getfield 57, 3) := by decide +kernel
theorem dX11_relay_98 : decode cX11_relay 98 = .ok (.getfield 169, 3) := by decide +kernel
theorem dX11_relay_101 : decode cX11_relay 101 = .ok (.ifCond .ne 6, 3) := by decide +kernel
theorem dX11_relay_104 : decode cX11_relay 104 = .ok (.bipush (-2), 2) := by decide +kernel
theorem dX11_relay_106 : decode cX11_relay 106 = .ok (.ireturn, 1) := by decide +kernel
theorem dX11_relay_107 : decode cX11_relay 107 = .ok (.aload_n 0, 1) := by decide +kernel
theorem dX11_relay_108 : decode cX11_relay 108 = .ok (.getfield 80, 3) := by decide +kernel
theorem dX11_relay_111 : decode cX11_relay 111 = .ok (.iload_n 1, 1) := by decide +kernel
theorem dX11_relay_112 : decode cX11_relay 112 = .ok (.iload 6, 2) := by decide +kernel
theorem dX11_relay_114 : decode cX11_relay 114 = .ok (.iload_n 2, 1) := by decide +kernel
theorem dX11_relay_115 : decode cX11_relay 115 = .ok (.aload_n 0, 1) := by decide +kernel
theorem dX11_relay_116 : decode cX11_relay 116 = .ok (.getfield 19, 3) := by decide +kernel
theorem dX11_relay_119 : decode cX11_relay 119 = .ok (.getfield 133, 3) := by decide +kernel
theorem dX11_relay_122 : decode cX11_relay 122 = .ok (.getfield 252, 3) := by decide +kernel
theorem dX11_relay_125 : decode cX11_relay 125 = .ok (.invokevirtual 321, 3) := by decide +kernel
theorem dX11_relay_128 : decode cX11_relay 128 = .ok (.aload_n 0, 1) := by decide +kernel
theorem dX11_relay_129 : decode cX11_relay 129 = .ok (.getfield 80, 3) := by decide +kernel
theorem dX11_relay_132 : decode cX11_relay 132 = .ok (.aload_n 0, 1) := by decide +kernel
theorem dX11_relay_133 : decode cX11_relay 133 = .ok (.getfield 19, 3) := by decide +kernel
theorem dX11_relay_136 : decode cX11_relay 136 = .ok (.getfield 133, 3) := by decide +kernel
theorem dX11_relay_139 : decode cX11_relay 139 = .ok (.getfield 209, 3) := by decide +kernel
theorem dX11_relay_142 : decode cX11_relay 142 = .ok (.iload_n 1, 1) := by decide +kernel
theorem dX11_relay_143 : decode cX11_relay 143 = .ok (.iaload, 1) := by decide +kernel
theorem dX11_relay_144 : decode cX11_relay 144 = .ok (.iload_n 3, 1) := by decide +kernel
theorem dX11_relay_145 : decode cX11_relay 145 = .ok (.iload 4, 2) := by decide +kernel
theorem dX11_relay_147 : decode cX11_relay 147 = .ok (.invokevirtual 323, 3) := by decide +kernel
theorem dX11_relay_150 : decode cX11_relay 150 = .ok (.iload 5, 2) := by decide +kernel
theorem dX11_relay_152 : decode cX11_relay 152 = .ok (.lookupswitch 44 #[(0, 28), (1, 36)], 28) := by decide +kernel
theorem dX11_relay_180 : decode cX11_relay 180 = .ok (.aload_n 0, 1) := by decide +kernel
theorem dX11_relay_181 : decode cX11_relay 181 = .ok (.getfield 80, 3) := by decide +kernel
theorem dX11_relay_184 : decode cX11_relay 184 = .ok (.invokevirtual 326, 3) := by decide +kernel
theorem dX11_relay_187 : decode cX11_relay 187 = .ok (.ireturn, 1) := by decide +kernel
theorem dX11_relay_188 : decode cX11_relay 188 = .ok (.aload_n 0, 1) := by decide +kernel
theorem dX11_relay_189 : decode cX11_relay 189 = .ok (.getfield 80, 3) := by decide +kernel
theorem dX11_relay_192 : decode cX11_relay 192 = .ok (.invokevirtual 330, 3) := by decide +kernel
theorem dX11_relay_195 : decode cX11_relay 195 = .ok (.ireturn, 1) := by decide +kernel
theorem dX11_relay_196 : decode cX11_relay 196 = .ok (.aload_n 0, 1) := by decide +kernel
theorem dX11_relay_197 : decode cX11_relay 197 = .ok (.getfield 80, 3) := by decide +kernel
theorem dX11_relay_200 : decode cX11_relay 200 = .ok (.iload 5, 2) := by decide +kernel
theorem dX11_relay_202 : decode cX11_relay 202 = .ok (.iconst 2, 1) := by decide +kernel
theorem dX11_relay_203 : decode cX11_relay 203 = .ok (.isub, 1) := by decide +kernel
theorem dX11_relay_204 : decode cX11_relay 204 = .ok (.invokevirtual 333, 3) := by decide +kernel
theorem dX11_relay_207 : decode cX11_relay 207 = .ok (.ireturn, 1) := by decide +kernel
def wp_X11_relay_107 (S : Sh) (post : Int → Mm → Prop) (u0 : Int) (u1 : Int) (u2 : Int) (u3 : Int) (u4 : Int) (u5 : Int) (u6 : Int) (M : Mm) : Prop := wGetR S M u0 11 12 fun v1 => wGetR S M u0 11 1 fun v3 => wGetR S M v3 4 1 fun v5 => wGet S M v5 5 0 fun v7 => isK S v1 2 ∧ (wp_X2_setOut S M v1 u1 u6 u2 v7 <| fun M9 => wGetR S M9 u0 11 12 fun v10 => wGetR S M9 u0 11 1 fun v12 => wGetR S M9 v12 4 1 fun v14 => wGetR S M9 v14 5 7 fun v16 => wLd S M9 v16 14 u1 fun v18 => isK S v10 2 ∧ (wp_X2_solve S M9 v10 v18 u3 u4 <| fun M20 => wIf (u5 = 0) (wGetR S M20 u0 11 12 fun v21 => isK S v21 2 ∧ (wp_X2_howMany S M20 v21 <| fun v24 M23 => post v24 M23)) (wIf (u5 = 1) (wGetR S M20 u0 11 12 fun v26 => isK S v26 2 ∧ (wp_X2_leastTurned S M20 v26 <| fun v29 M28 => post v29 M28)) (wGetR S M20 u0 11 12 fun v31 => wC 2 fun v33 => wS u5 v33 fun v35 => isK S v31 2 ∧ (wp_X2_handOfFirst S M20 v31 v35 <| fun v38 M37 => post v38 M37)))))
def wp_X11_relay (S : Sh) (M : Mm) (u0 : Int) (u1 : Int) (u2 : Int) (u3 : Int) (u4 : Int) (u5 : Int) (post : Int → Mm → Prop) : Prop := isK S u0 11 ∧ (wp_X11_isStandingJug S M u0 u1 <| fun v41 M40 => wIf (v41 = 0) (wC (-3) fun v43 => post v43 M40) (isK S u0 11 ∧ (wp_X11_isPlace S M40 u0 u2 <| fun v46 M45 => wIf (v46 = 0) (wC (-3) fun v48 => post v48 M45) (wIf (u5 < 0) (wC (-3) fun v50 => post v50 M45) (wC 6 fun v52 => wIf (u5 ≤ v52) (wp_X11_isTurned S M45 u3 <| fun v55 M54 => wIf (v55 = 0) (wC (-3) fun v57 => post v57 M54) (wp_X11_isTurned S M54 u4 <| fun v60 M59 => wIf (v60 = 0) (wC (-3) fun v62 => post v62 M59) (wIf (u3 ≤ u4) (wGetR S M59 u0 11 1 fun v64 => wGetR S M59 v64 4 1 fun v66 => wGetR S M59 v66 5 5 fun v68 => wLd S M59 v68 14 u1 fun v70 => wGetR S M59 u0 11 1 fun v72 => wGetR S M59 v72 4 0 fun v74 => isK S v74 8 ∧ (wp_X8_hasWay S M59 v74 v70 u2 <| fun v77 M76 => wIf (v77 = 0) (wC (-2) fun v79 => post v79 M76) (wIf (v70 = u2) (wp_X11_relay_107 S post u0 u1 u2 u3 u4 u5 v70 M76) (wGetR S M76 u0 11 1 fun v81 => wGetR S M76 v81 4 0 fun v83 => wGet S M76 v83 8 4 fun v85 => wIf (¬ v85 = 0) (wp_X11_relay_107 S post u0 u1 u2 u3 u4 u5 v70 M76) (wC (-2) fun v87 => post v87 M76))))) (wC (-3) fun v89 => post v89 M59)))) (wC (-3) fun v91 => post v91 M45))))))
set_option maxHeartbeats 4000000 in
set_option maxRecDepth 100000 in
theorem t_X11_relay_107 {p : Program} {l : Launch} {e : Env} {s : State} {m : MethodId} {args : Array Value} {below : List Frame} {meth : Method} {c : Code} {D : va_G} {G : Gt} {S : Sh} {post : Int → Mm → Prop} (C : Cx p s m args meth c D G cX11_relay 7 (some .int) (cw_X11_relay :: gw) RX11) : ∀ (xl0 : Int) (zl1 : Int32) (zl2 : Int32) (zl3 : Int32) (zl4 : Int32) (zl5 : Int32) (zl6 : Int32) (M : Mm) (H : Heap) (locs : List Loc) (ls : Array Slot), Wd D G S M H → va_S (aG G) s.heap H locs → lv_has ls 7 [(0, .ref (adr G xl0)), (1, .int zl1), (2, .int zl2), (3, .int zl3), (4, .int zl4), (5, .int zl5), (6, .int zl6)] → wp_X11_relay_107 S post xl0 zl1.toInt zl2.toInt zl3.toInt zl4.toInt zl5.toInt zl6.toInt  M → W p l e RM_X11_relay s m args below meth c H locs 0 0 (MQ below (QI D G S post) args s 0 0 (aG G)) (F0 m 107 ls []) := by
  obtain ⟨hx, hb, hr, hlocks, hml, hown, hts, hK⟩ := id C
  intro xl0 zl1 zl2 zl3 zl4 zl5 zl6 M H locs ls hP hS hl h
  unfold wp_X11_relay_107 at h
  refine lv_aload_n hx hb dX11_relay_107 rfl (lv_at hl 0 rfl) ?_
  refine r_getr (C := RX11) (T := TX11) (N := 16) hx hb hts (fun w h => List.mem_cons_of_mem _ (iX11 w h)) hown hK hP rfl (by decide) rfl 12 (by decide) (hts _ (List.mem_cons_of_mem _ kw_503)) (fun _ h9 => h9) dX11_relay_108 (by decide) h (fun x2 h => ?_)
  refine lv_iload_n hx hb dX11_relay_111 rfl (lv_at hl 1 rfl) ?_
  refine lv_iload hx hb dX11_relay_112 (lv_at hl 6 rfl) ?_
  refine lv_iload_n hx hb dX11_relay_114 rfl (lv_at hl 2 rfl) ?_
  refine lv_aload_n hx hb dX11_relay_115 rfl (lv_at hl 0 rfl) ?_
  refine r_getr (C := RX11) (T := TX11) (N := 16) hx hb hts (fun w h => List.mem_cons_of_mem _ (iX11 w h)) hown hK hP rfl (by decide) rfl 1 (by decide) (hts _ (List.mem_cons_of_mem _ kw_492)) (fun _ h9 => h9) dX11_relay_116 (by decide) h (fun x4 h => ?_)
  refine r_getrN (C := RX4) (T := TX4) (N := 10) hx hb hts (fun w h => List.mem_cons_of_mem _ (iX4 w h)) hown hK hP rfl (by decide) rfl 1 (by decide) (nw_73 hK) (fun _ h9 => h9) dX11_relay_119 (by decide) h (fun x6 h => ?_)
  refine r_getiN (C := RX5) (T := TX5) (N := 9) hx hb hts (fun w h => List.mem_cons_of_mem _ (iX5 w h)) hown hK hP rfl (by decide) rfl 0 (by decide) (nw_49 hK) (fun _ h9 => h9) dX11_relay_122 (by decide) h (fun z8 h => ?_)
  refine q_Vv hx hb hml hown hts hK hP hS (c_X2_setOut l D G S _ x2 zl1 zl6 zl2 z8 _ h.2) ⟨callB_of 4 hts (gw_good kw_1108) rfl rfl rfl (hts _ (List.mem_cons_of_mem _ kw_11)) (hts _ (List.mem_cons_of_mem _ kw_1105)) hd_X2_setOut ⟨Nat.le_of_ble_eq_true rfl, Nat.le_of_ble_eq_true rfl⟩, (hts _ (List.mem_cons_of_mem _ kw_1106)), (hts _ (List.mem_cons_of_mem _ kw_1107))⟩ h.1 (ci := 2) rfl (by decide) rfl hl.1 rfl (lv_room (Nat.le_of_ble_eq_true rfl)) dX11_relay_125 ⟨Nat.zero_le _, Nat.zero_le _⟩ (fun M9 H locs h hP hS => ?_)
  refine lv_aload_n hx hb dX11_relay_128 rfl (lv_at hl 0 rfl) ?_
  refine r_getr (C := RX11) (T := TX11) (N := 16) hx hb hts (fun w h => List.mem_cons_of_mem _ (iX11 w h)) hown hK hP rfl (by decide) rfl 12 (by decide) (hts _ (List.mem_cons_of_mem _ kw_503)) (fun _ h9 => h9) dX11_relay_129 (by decide) h (fun x11 h => ?_)
  refine lv_aload_n hx hb dX11_relay_132 rfl (lv_at hl 0 rfl) ?_
  refine r_getr (C := RX11) (T := TX11) (N := 16) hx hb hts (fun w h => List.mem_cons_of_mem _ (iX11 w h)) hown hK hP rfl (by decide) rfl 1 (by decide) (hts _ (List.mem_cons_of_mem _ kw_492)) (fun _ h9 => h9) dX11_relay_133 (by decide) h (fun x13 h => ?_)
  refine r_getrN (C := RX4) (T := TX4) (N := 10) hx hb hts (fun w h => List.mem_cons_of_mem _ (iX4 w h)) hown hK hP rfl (by decide) rfl 1 (by decide) (nw_73 hK) (fun _ h9 => h9) dX11_relay_136 (by decide) h (fun x15 h => ?_)
  refine r_getrN (C := RX5) (T := TX5) (N := 9) hx hb hts (fun w h => List.mem_cons_of_mem _ (iX5 w h)) hown hK hP rfl (by decide) rfl 7 (by decide) (nw_67 hK) (fun _ h9 => h9) dX11_relay_139 (by decide) h (fun x17 h => ?_)
  refine lv_iload_n hx hb dX11_relay_142 rfl (lv_at hl 1 rfl) ?_
  refine r_iald hx hb hK hP dX11_relay_143 h (fun z19 h => ?_)
  refine lv_iload_n hx hb dX11_relay_144 rfl (lv_at hl 3 rfl) ?_
  refine lv_iload hx hb dX11_relay_145 (lv_at hl 4 rfl) ?_
  refine q_Vv hx hb hml hown hts hK hP hS (c_X2_solve l D G S _ x11 z19 zl3 zl4 _ h.2) ⟨callB_of 3 hts (gw_good kw_1115) rfl rfl rfl (hts _ (List.mem_cons_of_mem _ kw_11)) (hts _ (List.mem_cons_of_mem _ kw_1112)) hd_X2_solve ⟨Nat.le_of_ble_eq_true rfl, Nat.le_of_ble_eq_true rfl⟩, (hts _ (List.mem_cons_of_mem _ kw_1113)), (hts _ (List.mem_cons_of_mem _ kw_1114))⟩ h.1 (ci := 2) rfl (by decide) rfl hl.1 rfl (lv_room (Nat.le_of_ble_eq_true rfl)) dX11_relay_147 ⟨Nat.zero_le _, Nat.zero_le _⟩ (fun M20 H locs h hP hS => ?_)
  refine lv_iload hx hb dX11_relay_150 (lv_at hl 5 rfl) ?_
  refine sw (c := zl5.toInt = 0) h (fun e0 h => ?_) (fun e0 h => ?_)
  · refine lv_lookup (tgt := 180) hx hb dX11_relay_152 (by decide) (by first | (rw [e0]; done) | (rw [e0]; rfl)) (by decide) ?_
    refine lv_aload_n hx hb dX11_relay_180 rfl (lv_at hl 0 rfl) ?_
    refine r_getr (C := RX11) (T := TX11) (N := 16) hx hb hts (fun w h => List.mem_cons_of_mem _ (iX11 w h)) hown hK hP rfl (by decide) rfl 12 (by decide) (hts _ (List.mem_cons_of_mem _ kw_503)) (fun _ h9 => h9) dX11_relay_181 (by decide) h (fun x22 h => ?_)
    refine q_Vi hx hb hml hown hts hK hP hS (c_X2_howMany l D G S _ x22 _ h.2) ⟨callB_of 0 hts (gw_good kw_1135) rfl rfl rfl (hts _ (List.mem_cons_of_mem _ kw_11)) (hts _ (List.mem_cons_of_mem _ kw_1132)) hd_X2_howMany ⟨Nat.le_of_ble_eq_true rfl, Nat.le_of_ble_eq_true rfl⟩, (hts _ (List.mem_cons_of_mem _ kw_1133)), (hts _ (List.mem_cons_of_mem _ kw_1134))⟩ h.1 (ci := 2) rfl (by decide) rfl hl.1 rfl (lv_room (Nat.le_of_ble_eq_true rfl)) dX11_relay_184 ⟨Nat.zero_le _, Nat.zero_le _⟩ (fun z25 M23 H locs h hP hS => ?_)
    exact r_iret hx hb hr hlocks hP hS dX11_relay_187 h
  · refine sw (c := zl5.toInt = 1) h (fun e1 h => ?_) (fun e1 h => ?_)
    · refine lv_lookup (tgt := 188) hx hb dX11_relay_152 (by decide) (by first | (rw [e1]; done) | (rw [e1]; rfl)) (by decide) ?_
      refine lv_aload_n hx hb dX11_relay_188 rfl (lv_at hl 0 rfl) ?_
      refine r_getr (C := RX11) (T := TX11) (N := 16) hx hb hts (fun w h => List.mem_cons_of_mem _ (iX11 w h)) hown hK hP rfl (by decide) rfl 12 (by decide) (hts _ (List.mem_cons_of_mem _ kw_503)) (fun _ h9 => h9) dX11_relay_189 (by decide) h (fun x27 h => ?_)
      refine q_Vi hx hb hml hown hts hK hP hS (c_X2_leastTurned l D G S _ x27 _ h.2) ⟨callB_of 0 hts (gw_good kw_1139) rfl rfl rfl (hts _ (List.mem_cons_of_mem _ kw_11)) (hts _ (List.mem_cons_of_mem _ kw_1136)) hd_X2_leastTurned ⟨Nat.le_of_ble_eq_true rfl, Nat.le_of_ble_eq_true rfl⟩, (hts _ (List.mem_cons_of_mem _ kw_1137)), (hts _ (List.mem_cons_of_mem _ kw_1138))⟩ h.1 (ci := 2) rfl (by decide) rfl hl.1 rfl (lv_room (Nat.le_of_ble_eq_true rfl)) dX11_relay_192 ⟨Nat.zero_le _, Nat.zero_le _⟩ (fun z30 M28 H locs h hP hS => ?_)
      exact r_iret hx hb hr hlocks hP hS dX11_relay_195 h
    · refine lv_lookup (tgt := 196) (off := 44) hx hb dX11_relay_152 (by decide) (by simp [Op.lookupswitch.offset, Ne.symm, eq_comm, e0, e1]) (by decide) ?_
      refine lv_aload_n hx hb dX11_relay_196 rfl (lv_at hl 0 rfl) ?_
      refine r_getr (C := RX11) (T := TX11) (N := 16) hx hb hts (fun w h => List.mem_cons_of_mem _ (iX11 w h)) hown hK hP rfl (by decide) rfl 12 (by decide) (hts _ (List.mem_cons_of_mem _ kw_503)) (fun _ h9 => h9) dX11_relay_197 (by decide) h (fun x32 h => ?_)
      refine lv_iload hx hb dX11_relay_200 (lv_at hl 5 rfl) ?_
      refine r_iconst hx hb dX11_relay_202 (by decide) h (fun z34 h => ?_)
      refine r_isub hx hb dX11_relay_203 h (fun z36 h => ?_)
      refine q_Vi hx hb hml hown hts hK hP hS (c_X2_handOfFirst l D G S _ x32 z36 _ h.2) ⟨callB_of 1 hts (gw_good kw_1143) rfl rfl rfl (hts _ (List.mem_cons_of_mem _ kw_11)) (hts _ (List.mem_cons_of_mem _ kw_1140)) hd_X2_handOfFirst ⟨Nat.le_of_ble_eq_true rfl, Nat.le_of_ble_eq_true rfl⟩, (hts _ (List.mem_cons_of_mem _ kw_1141)), (hts _ (List.mem_cons_of_mem _ kw_1142))⟩ h.1 (ci := 2) rfl (by decide) rfl hl.1 rfl (lv_room (Nat.le_of_ble_eq_true rfl)) dX11_relay_204 ⟨Nat.zero_le _, Nat.zero_le _⟩ (fun z39 M37 H locs h hP hS => ?_)
      exact r_iret hx hb hr hlocks hP hS dX11_relay_207 h
set_option maxHeartbeats 4000000 in
set_option maxRecDepth 100000 in
theorem c_X11_relay (l : Launch) (D : va_G) (G : Gt) (S : Sh) (M : Mm) (xl0 : Int) (zl1 : Int32) (zl2 : Int32) (zl3 : Int32) (zl4 : Int32) (zl5 : Int32) (post : Int → Mm → Prop) (h : wp_X11_relay S M xl0 zl1.toInt zl2.toInt zl3.toInt zl4.toInt zl5.toInt post) : Met l yX11_relay (cw_X11_relay :: gw) RM_X11_relay (va_Pc [.ref (adr G xl0), .int zl1, .int zl2, .int zl3, .int zl4, .int zl5] (fun U => KN D G U ∧ Wd D G S M U.heap)) (QI D G S post) 0 0 (aG G) := by
  refine Met.ofW (cc := cX11_relay) (maxL := 7) (ret := (some .int)) (by decide) rfl ?_
  intro p e s m args below meth c s₁ B hml hv
  obtain ⟨rfl, hK, hP⟩ := hv
  have hx := B.exec
  have hb := B.bytes
  have hr := B.returns
  have hts := atoms_spec (ws := cw_X11_relay :: gw) B.pre
  have hown : s.vm.findClass RX11 = some m.cls := findClass_of_methodNamed B.named
  have hlocks := B.notSynchronized
  have hS : va_S (aG G) s.heap s.heap [] := va_S.rf
  have C : Cx p s m ([.ref (adr G xl0), .int zl1, .int zl2, .int zl3, .int zl4, .int zl5] : List Value).toArray meth c D G cX11_relay 7 (some .int) (cw_X11_relay :: gw) RX11 := ⟨hx, hb, hr, hlocks, hml, hown, hts, hK⟩
  have hl := lv_entry ([.ref (adr G xl0), .int zl1, .int zl2, .int zl3, .int zl4, .int zl5]) (n := 7) (Nat.le_of_ble_eq_true rfl)
  rw [lg_entry_eq]
  generalize (lg_sl ([.ref (adr G xl0), .int zl1, .int zl2, .int zl3, .int zl4, .int zl5]) ++ List.replicate (7 - (lg_sl ([.ref (adr G xl0), .int zl1, .int zl2, .int zl3, .int zl4, .int zl5])).length) Slot.unset).toArray = ls at hl ⊢
  have hl : lv_has ls 7 [(0, .ref (adr G xl0)), (1, .int zl1), (2, .int zl2), (3, .int zl3), (4, .int zl4), (5, .int zl5)] := hl
  unfold wp_X11_relay at h
  refine lv_aload_n hx hb dX11_relay_0 rfl (lv_at hl 0 rfl) ?_
  refine lv_iload_n hx hb dX11_relay_1 rfl (lv_at hl 1 rfl) ?_
  refine q_Vi hx hb hml hown hts hK hP hS (c_X11_isStandingJug l D G S _ xl0 zl1 _ h.2) ⟨callB_of 1 hts (gw_good kw_1086) rfl rfl rfl (hts _ (List.mem_cons_of_mem _ kw_1)) (hts _ (List.mem_cons_of_mem _ kw_1083)) hd_X11_isStandingJug ⟨Nat.le_of_ble_eq_true rfl, Nat.le_of_ble_eq_true rfl⟩, (hts _ (List.mem_cons_of_mem _ kw_1085)), (hts _ (List.mem_cons_of_mem _ kp_39))⟩ h.1 (ci := 11) rfl (by decide) rfl hl.1 rfl (lv_room (Nat.le_of_ble_eq_true rfl)) dX11_relay_2 ⟨Nat.zero_le _, Nat.zero_le _⟩ (fun z42 M40 H locs h hP hS => ?_)
  refine r_if_eq (tgt := 28) hx hb dX11_relay_5 (by decide) h (fun h => ?_) (fun h => ?_)
  · refine r_bipush hx hb dX11_relay_28 (by decide) h (fun z44 h => ?_)
    exact r_iret hx hb hr hlocks hP hS dX11_relay_30 h
  · refine lv_aload_n hx hb dX11_relay_8 rfl (lv_at hl 0 rfl) ?_
    refine lv_iload_n hx hb dX11_relay_9 rfl (lv_at hl 2 rfl) ?_
    refine q_Vi hx hb hml hown hts hK hP hS (c_X11_isPlace l D G S _ xl0 zl2 _ h.2) ⟨callB_of 1 hts (gw_good kw_1035) rfl rfl rfl (hts _ (List.mem_cons_of_mem _ kw_1)) (hts _ (List.mem_cons_of_mem _ kw_1032)) hd_X11_isPlace ⟨Nat.le_of_ble_eq_true rfl, Nat.le_of_ble_eq_true rfl⟩, (hts _ (List.mem_cons_of_mem _ kw_1034)), (hts _ (List.mem_cons_of_mem _ kp_38))⟩ h.1 (ci := 11) rfl (by decide) rfl hl.1 rfl (lv_room (Nat.le_of_ble_eq_true rfl)) dX11_relay_10 ⟨Nat.zero_le _, Nat.zero_le _⟩ (fun z47 M45 H locs h hP hS => ?_)
    refine r_if_eq (tgt := 28) hx hb dX11_relay_13 (by decide) h (fun h => ?_) (fun h => ?_)
    · refine r_bipush hx hb dX11_relay_28 (by decide) h (fun z49 h => ?_)
      exact r_iret hx hb hr hlocks hP hS dX11_relay_30 h
    · refine lv_iload hx hb dX11_relay_16 (lv_at hl 5 rfl) ?_
      refine r_if_lt (tgt := 28) hx hb dX11_relay_18 (by decide) h (fun h => ?_) (fun h => ?_)
      · refine r_bipush hx hb dX11_relay_28 (by decide) h (fun z51 h => ?_)
        exact r_iret hx hb hr hlocks hP hS dX11_relay_30 h
      · refine lv_iload hx hb dX11_relay_21 (lv_at hl 5 rfl) ?_
        refine r_bipush hx hb dX11_relay_23 (by decide) h (fun z53 h => ?_)
        refine r_icmp_le (tgt := 31) hx hb dX11_relay_25 (by decide) h (fun h => ?_) (fun h => ?_)
        · refine lv_iload_n hx hb dX11_relay_31 rfl (lv_at hl 3 rfl) ?_
          refine q_Si hx hb hml hown hts hK hP hS (c_X11_isTurned l D G S _ zl3 _ h) ⟨callB_of 1 hts (gw_good kw_1104) rfl rfl rfl (hts _ (List.mem_cons_of_mem _ kw_1)) (hts _ (List.mem_cons_of_mem _ kw_1102)) hd_X11_isTurned ⟨Nat.le_of_ble_eq_true rfl, Nat.le_of_ble_eq_true rfl⟩, (hts _ (List.mem_cons_of_mem _ kw_1103))⟩ rfl hl.1 rfl (lv_room (Nat.le_of_ble_eq_true rfl)) dX11_relay_32 ⟨Nat.zero_le _, Nat.zero_le _⟩ (fun z56 M54 H locs h hP hS => ?_)
          refine r_if_eq (tgt := 52) hx hb dX11_relay_35 (by decide) h (fun h => ?_) (fun h => ?_)
          · refine r_bipush hx hb dX11_relay_52 (by decide) h (fun z58 h => ?_)
            exact r_iret hx hb hr hlocks hP hS dX11_relay_54 h
          · refine lv_iload hx hb dX11_relay_38 (lv_at hl 4 rfl) ?_
            refine q_Si hx hb hml hown hts hK hP hS (c_X11_isTurned l D G S _ zl4 _ h) ⟨callB_of 1 hts (gw_good kw_1104) rfl rfl rfl (hts _ (List.mem_cons_of_mem _ kw_1)) (hts _ (List.mem_cons_of_mem _ kw_1102)) hd_X11_isTurned ⟨Nat.le_of_ble_eq_true rfl, Nat.le_of_ble_eq_true rfl⟩, (hts _ (List.mem_cons_of_mem _ kw_1103))⟩ rfl hl.1 rfl (lv_room (Nat.le_of_ble_eq_true rfl)) dX11_relay_40 ⟨Nat.zero_le _, Nat.zero_le _⟩ (fun z61 M59 H locs h hP hS => ?_)
            refine r_if_eq (tgt := 52) hx hb dX11_relay_43 (by decide) h (fun h => ?_) (fun h => ?_)
            · refine r_bipush hx hb dX11_relay_52 (by decide) h (fun z63 h => ?_)
              exact r_iret hx hb hr hlocks hP hS dX11_relay_54 h
            · refine lv_iload hx hb dX11_relay_46 (lv_at hl 4 rfl) ?_
              refine lv_iload_n hx hb dX11_relay_48 rfl (lv_at hl 3 rfl) ?_
              refine r_icmp_ge (tgt := 55) hx hb dX11_relay_49 (by decide) h (fun h => ?_) (fun h => ?_)
              · refine lv_aload_n hx hb dX11_relay_55 rfl (lv_at hl 0 rfl) ?_
                refine r_getr (C := RX11) (T := TX11) (N := 16) hx hb hts (fun w h => List.mem_cons_of_mem _ (iX11 w h)) hown hK hP rfl (by decide) rfl 1 (by decide) (hts _ (List.mem_cons_of_mem _ kw_492)) (fun _ h9 => h9) dX11_relay_56 (by decide) h (fun x65 h => ?_)
                refine r_getrN (C := RX4) (T := TX4) (N := 10) hx hb hts (fun w h => List.mem_cons_of_mem _ (iX4 w h)) hown hK hP rfl (by decide) rfl 1 (by decide) (nw_73 hK) (fun _ h9 => h9) dX11_relay_59 (by decide) h (fun x67 h => ?_)
                refine r_getrN (C := RX5) (T := TX5) (N := 9) hx hb hts (fun w h => List.mem_cons_of_mem _ (iX5 w h)) hown hK hP rfl (by decide) rfl 5 (by decide) (nw_60 hK) (fun _ h9 => h9) dX11_relay_62 (by decide) h (fun x69 h => ?_)
                refine lv_iload_n hx hb dX11_relay_65 rfl (lv_at hl 1 rfl) ?_
                refine r_iald hx hb hK hP dX11_relay_66 h (fun z71 h => ?_)
                refine lv_istore (lv' := [(6, .int z71), (0, .ref (adr G xl0)), (1, .int zl1), (2, .int zl2), (3, .int zl3), (4, .int zl4), (5, .int zl5)]) hx hb dX11_relay_67 hl (by decide) rfl (fun ls hl => ?_)
                refine lv_aload_n hx hb dX11_relay_69 rfl (lv_at hl 1 rfl) ?_
                refine r_getr (C := RX11) (T := TX11) (N := 16) hx hb hts (fun w h => List.mem_cons_of_mem _ (iX11 w h)) hown hK hP rfl (by decide) rfl 1 (by decide) (hts _ (List.mem_cons_of_mem _ kw_492)) (fun _ h9 => h9) dX11_relay_70 (by decide) h (fun x73 h => ?_)
                refine r_getrN (C := RX4) (T := TX4) (N := 10) hx hb hts (fun w h => List.mem_cons_of_mem _ (iX4 w h)) hown hK hP rfl (by decide) rfl 0 (by decide) (nw_70 hK) (fun _ h9 => h9) dX11_relay_73 (by decide) h (fun x75 h => ?_)
                refine lv_iload hx hb dX11_relay_76 (lv_at hl 0 rfl) ?_
                refine lv_iload_n hx hb dX11_relay_78 rfl (lv_at hl 3 rfl) ?_
                refine q_Vi hx hb hml hown hts hK hP hS (c_X8_hasWay l D G S _ x75 z71 zl2 _ h.2) ⟨callB_of 2 hts (gw_good kw_1069) rfl rfl rfl (hts _ (List.mem_cons_of_mem _ kw_4)) (hts _ (List.mem_cons_of_mem _ kw_1066)) hd_X8_hasWay ⟨Nat.le_of_ble_eq_true rfl, Nat.le_of_ble_eq_true rfl⟩, (hts _ (List.mem_cons_of_mem _ kw_1067)), (hts _ (List.mem_cons_of_mem _ kw_1068))⟩ h.1 (ci := 8) rfl (by decide) rfl hl.1 rfl (lv_room (Nat.le_of_ble_eq_true rfl)) dX11_relay_79 ⟨Nat.zero_le _, Nat.zero_le _⟩ (fun z78 M76 H locs h hP hS => ?_)
                refine r_if_eq (tgt := 104) hx hb dX11_relay_82 (by decide) h (fun h => ?_) (fun h => ?_)
                · refine r_bipush hx hb dX11_relay_104 (by decide) h (fun z80 h => ?_)
                  exact r_iret hx hb hr hlocks hP hS dX11_relay_106 h
                · refine lv_iload hx hb dX11_relay_85 (lv_at hl 0 rfl) ?_
                  refine lv_iload_n hx hb dX11_relay_87 rfl (lv_at hl 3 rfl) ?_
                  refine r_icmp_eq (tgt := 107) hx hb dX11_relay_88 (by decide) h (fun h => ?_) (fun h => ?_)
                  · exact t_X11_relay_107 C xl0 zl1 zl2 zl3 zl4 zl5 z71 _ _ _ _ hP hS (lv_sub hl [1, 2, 3, 4, 5, 6, 0] rfl) h
                  · refine lv_aload_n hx hb dX11_relay_91 rfl (lv_at hl 1 rfl) ?_
                    refine r_getr (C := RX11) (T := TX11) (N := 16) hx hb hts (fun w h => List.mem_cons_of_mem _ (iX11 w h)) hown hK hP rfl (by decide) rfl 1 (by decide) (hts _ (List.mem_cons_of_mem _ kw_492)) (fun _ h9 => h9) dX11_relay_92 (by decide) h (fun x82 h => ?_)
                    refine r_getrN (C := RX4) (T := TX4) (N := 10) hx hb hts (fun w h => List.mem_cons_of_mem _ (iX4 w h)) hown hK hP rfl (by decide) rfl 0 (by decide) (nw_70 hK) (fun _ h9 => h9) dX11_relay_95 (by decide) h (fun x84 h => ?_)
                    refine r_getiN (C := RX8) (T := TX8) (N := 19) hx hb hts (fun w h => List.mem_cons_of_mem _ (iX8 w h)) hown hK hP rfl (by decide) rfl 4 (by decide) (nw_17 hK) (fun _ h9 => h9) dX11_relay_98 (by decide) h (fun z86 h => ?_)
                    refine r_if_ne (tgt := 107) hx hb dX11_relay_101 (by decide) h (fun h => ?_) (fun h => ?_)
                    · exact t_X11_relay_107 C xl0 zl1 zl2 zl3 zl4 zl5 z71 _ _ _ _ hP hS (lv_sub hl [1, 2, 3, 4, 5, 6, 0] rfl) h
                    · refine r_bipush hx hb dX11_relay_104 (by decide) h (fun z88 h => ?_)
                      exact r_iret hx hb hr hlocks hP hS dX11_relay_106 h
              · refine r_bipush hx hb dX11_relay_52 (by decide) h (fun z90 h => ?_)
                exact r_iret hx hb hr hlocks hP hS dX11_relay_54 h
        · refine r_bipush hx hb dX11_relay_28 (by decide) h (fun z92 h => ?_)
          exact r_iret hx hb hr hlocks hP hS dX11_relay_30 h
/-! TurningMilk$Tables.payWith(LTurningMilk$State;III)I -/
abbrev RM_X6_payWith : Room := { frames := 2, cells := 0, slots := 0, locals := 62 }
def cw_X6_payWith : Cond := Cond.code yX6_payWith cX6_payWith 7 (Option.some FieldType.int)
theorem hd_X6_payWith : yX6_payWith.cls ≠ "java/lang/invoke/MethodHandle" ∧ yX6_payWith.cls ≠ "java/lang/invoke/VarHandle" ∧ (parseMethodDescriptor yX6_payWith.desc).map (fun d => d.parameters.length) = some 4 := by decide +kernel
theorem dX6_payWith_0 : decode cX6_payWith 0 = .ok (.iload_n 2, 1) := by decide +kernel
theorem dX6_payWith_1 : decode cX6_payWith 1 = .ok (.iconst 1, 1) := by decide +kernel
theorem dX6_payWith_2 : decode cX6_payWith 2 = .ok (.iadd, 1) := by decide +kernel
theorem dX6_payWith_3 : decode cX6_payWith 3 = .ok (.bipush 16, 2) := by decide +kernel
theorem dX6_payWith_5 : decode cX6_payWith 5 = .ok (.imul, 1) := by decide +kernel
theorem dX6_payWith_6 : decode cX6_payWith 6 = .ok (.istore 5, 2) := by decide +kernel
theorem dX6_payWith_8 : decode cX6_payWith 8 = .ok (.iload 4, 2) := by decide +kernel
theorem dX6_payWith_10 : decode cX6_payWith 10 = .ok (.iconst (-1), 1) := by decide +kernel
theorem dX6_payWith_11 : decode cX6_payWith 11 = .ok (.if_icmp .ne 13, 3) := by decide +kernel
theorem dX6_payWith_14 : decode cX6_payWith 14 = .ok (.aload_n 0, 1) := by decide +kernel
theorem dX6_payWith_15 : decode cX6_payWith 15 = .ok (.getfield 11, 3) := by decide +kernel
theorem dX6_payWith_18 : decode cX6_payWith 18 = .ok (.iload 5, 2) := by decide +kernel
theorem dX6_payWith_20 : decode cX6_payWith 20 = .ok (.iload_n 3, 1) := by decide +kernel
theorem dX6_payWith_21 : decode cX6_payWith 21 = .ok (.iadd, 1) := by decide +kernel
theorem dX6_payWith_22 : decode cX6_payWith 22 = .ok (.iaload, 1) := by decide +kernel
theorem dX6_payWith_23 : decode cX6_payWith 23 = .ok (.ireturn, 1) := by decide +kernel
theorem dX6_payWith_24 : decode cX6_payWith 24 = .ok (.iload_n 3, 1) := by decide +kernel
theorem dX6_payWith_25 : decode cX6_payWith 25 = .ok (.iload 4, 2) := by decide +kernel
theorem dX6_payWith_27 : decode cX6_payWith 27 = .ok (.ishr, 1) := by decide +kernel
theorem dX6_payWith_28 : decode cX6_payWith 28 = .ok (.iconst 1, 1) := by decide +kernel
theorem dX6_payWith_29 : decode cX6_payWith 29 = .ok (.iand, 1) := by decide +kernel
theorem dX6_payWith_30 : decode cX6_payWith 30 = .ok (.ifCond .ne 16, 3) := by decide +kernel
theorem dX6_payWith_33 : decode cX6_payWith 33 = .ok (.aload_n 1, 1) := by decide +kernel
theorem dX6_payWith_34 : decode cX6_payWith 34 = .ok (.iload 4, 2) := by decide +kernel
theorem dX6_payWith_36 : decode cX6_payWith 36 = .ok (.invokevirtual 47, 3) := by decide +kernel
theorem dX6_payWith_39 : decode cX6_payWith 39 = .ok (.ifCond .ne 7, 3) := by decide +kernel
theorem dX6_payWith_42 : decode cX6_payWith 42 = .ok (.iconst 1, 1) := by decide +kernel
theorem dX6_payWith_43 : decode cX6_payWith 43 = .ok (.goto 4, 3) := by decide +kernel
theorem dX6_payWith_46 : decode cX6_payWith 46 = .ok (.iconst 0, 1) := by decide +kernel
theorem dX6_payWith_47 : decode cX6_payWith 47 = .ok (.istore 6, 2) := by decide +kernel
theorem dX6_payWith_49 : decode cX6_payWith 49 = .ok (.iload 6, 2) := by decide +kernel
theorem dX6_payWith_51 : decode cX6_payWith 51 = .ok (.ifCond .eq 31, 3) := by decide +kernel
theorem dX6_payWith_54 : decode cX6_payWith 54 = .ok (.aload_n 1, 1) := by decide +kernel
theorem dX6_payWith_55 : decode cX6_payWith 55 = .ok (.getfield 53, 3) := by decide +kernel
theorem dX6_payWith_58 : decode cX6_payWith 58 = .ok (.iload_n 2, 1) := by decide +kernel
theorem dX6_payWith_59 : decode cX6_payWith 59 = .ok (.iaload, 1) := by decide +kernel
theorem dX6_payWith_60 : decode cX6_payWith 60 = .ok (.iconst (-1), 1) := by decide +kernel
theorem dX6_payWith_61 : decode cX6_payWith 61 = .ok (.if_icmp .ne 21, 3) := by decide +kernel
theorem dX6_payWith_64 : decode cX6_payWith 64 = .ok (.aload_n 0, 1) := by decide +kernel
theorem dX6_payWith_65 : decode cX6_payWith 65 = .ok (.getfield 18, 3) := by decide +kernel
theorem dX6_payWith_68 : decode cX6_payWith 68 = .ok (.iload_n 2, 1) := by decide +kernel
theorem dX6_payWith_69 : decode cX6_payWith 69 = .ok (.aload_n 1, 1) := by decide +kernel
theorem dX6_payWith_70 : decode cX6_payWith 70 = .ok (.getfield 56, 3) := by decide +kernel
theorem dX6_payWith_73 : decode cX6_payWith 73 = .ok (.iload 4, 2) := by decide +kernel
theorem dX6_payWith_75 : decode cX6_payWith 75 = .ok (.iaload, 1) := by decide +kernel
theorem dX6_payWith_76 : decode cX6_payWith 76 = .ok (.invokevirtual 59, 3) := by decide +kernel
theorem dX6_payWith_79 : decode cX6_payWith 79 = .ok (.ifCond .ne 5, 3) := by decide +kernel
theorem dX6_payWith_82 : decode cX6_payWith 82 = .ok (.iconst (-1), 1) := by decide +kernel
theorem dX6_payWith_83 : decode cX6_payWith 83 = .ok (.ireturn, 1) := by decide +kernel
theorem dX6_payWith_84 : decode cX6_payWith 84 = .ok (.aload_n 0, 1) := by decide +kernel
theorem dX6_payWith_85 : decode cX6_payWith 85 = .ok (.getfield 18, 3) := by decide +kernel
theorem dX6_payWith_88 : decode cX6_payWith 88 = .ok (.getfield 63, 3) := by decide +kernel
theorem dX6_payWith_91 : decode cX6_payWith 91 = .ok (.iload_n 2, 1) := by decide +kernel
theorem dX6_payWith_92 : decode cX6_payWith 92 = .ok (.iaload, 1) := by decide +kernel
theorem dX6_payWith_93 : decode cX6_payWith 93 = .ok (.aload_n 0, 1) := by decide +kernel
theorem dX6_payWith_94 : decode cX6_payWith 94 = .ok (.getfield 11, 3) := by decide +kernel
theorem dX6_payWith_97 : decode cX6_payWith 97 = .ok (.iload 5, 2) := by decide +kernel
theorem dX6_payWith_99 : decode cX6_payWith 99 = .ok (.iload_n 3, 1) := by decide +kernel
theorem dX6_payWith_100 : decode cX6_payWith 100 = .ok (.iconst 1, 1) := by decide +kernel
theorem dX6_payWith_101 : decode cX6_payWith 101 = .ok (.iload 4, 2) := by decide +kernel
theorem dX6_payWith_103 : decode cX6_payWith 103 = .ok (.ishl, 1) := by decide +kernel
theorem dX6_payWith_104 : decode cX6_payWith 104 = .ok (.ior, 1) := by decide +kernel
theorem dX6_payWith_105 : decode cX6_payWith 105 = .ok (.iadd, 1) := by decide +kernel
theorem dX6_payWith_106 : decode cX6_payWith 106 = .ok (.iaload, 1) := by decide +kernel
theorem dX6_payWith_107 : decode cX6_payWith 107 = .ok (.iadd, 1) := by decide +kernel
theorem dX6_payWith_108 : decode cX6_payWith 108 = .ok (.ireturn, 1) := by decide +kernel
def wp_X6_payWith_47 (S : Sh) (post : Int → Mm → Prop) (u0 : Int) (u1 : Int) (u2 : Int) (u3 : Int) (u4 : Int) (u5 : Int) (t0 : Int) (M : Mm) : Prop := wIf (t0 = 0) (wC (-1) fun v1 => post v1 M) (wGetR S M u1 5 8 fun v3 => wLd S M v3 14 u2 fun v5 => wC (-1) fun v7 => wIf (¬ v5 = v7) (wC (-1) fun v9 => post v9 M) (wGetR S M u0 6 0 fun v11 => wGetR S M u1 5 7 fun v13 => wLd S M v13 14 u4 fun v15 => isK S v11 8 ∧ (wp_X8_suits S M v11 u2 v15 <| fun v18 M17 => wIf (¬ v18 = 0) (wGetR S M17 u0 6 0 fun v20 => wGetR S M17 v20 8 18 fun v22 => wLd S M17 v22 14 u2 fun v24 => wGetR S M17 u0 6 1 fun v26 => wC 1 fun v28 => wO iShl v28 u4 fun v30 => wO iOr u3 v30 fun v32 => wA u5 v32 fun v34 => wLd S M17 v26 14 v34 fun v36 => wA v24 v36 fun v38 => post v38 M17) (wC (-1) fun v40 => post v40 M17))))
def wp_X6_payWith_46 (S : Sh) (post : Int → Mm → Prop) (u0 : Int) (u1 : Int) (u2 : Int) (u3 : Int) (u4 : Int) (u5 : Int) (M : Mm) : Prop := wC 0 fun v42 => wp_X6_payWith_47 S post u0 u1 u2 u3 u4 u5 v42 M
def wp_X6_payWith (S : Sh) (M : Mm) (u0 : Int) (u1 : Int) (u2 : Int) (u3 : Int) (u4 : Int) (post : Int → Mm → Prop) : Prop := wC 1 fun v44 => wA u2 v44 fun v46 => wC 16 fun v48 => wM v46 v48 fun v50 => wC (-1) fun v52 => wIf (¬ u4 = v52) (wO iShr u3 u4 fun v54 => wC 1 fun v56 => wO iAnd v54 v56 fun v58 => wIf (¬ v58 = 0) (wp_X6_payWith_46 S post u0 u1 u2 u3 u4 v50 M) (isK S u1 5 ∧ (wp_X5_isGone S M u1 u4 <| fun v61 M60 => wIf (¬ v61 = 0) (wp_X6_payWith_46 S post u0 u1 u2 u3 u4 v50 M60) (wC 1 fun v63 => wp_X6_payWith_47 S post u0 u1 u2 u3 u4 v50 v63 M60)))) (wGetR S M u0 6 1 fun v65 => wA v50 u3 fun v67 => wLd S M v65 14 v67 fun v69 => post v69 M)
set_option maxHeartbeats 4000000 in
set_option maxRecDepth 100000 in
theorem t_X6_payWith_47 {p : Program} {l : Launch} {e : Env} {s : State} {m : MethodId} {args : Array Value} {below : List Frame} {meth : Method} {c : Code} {D : va_G} {G : Gt} {S : Sh} {post : Int → Mm → Prop} (C : Cx p s m args meth c D G cX6_payWith 7 (some .int) (cw_X6_payWith :: gw) RX6) : ∀ (xl0 : Int) (xl1 : Int) (zl2 : Int32) (zl3 : Int32) (zl4 : Int32) (zl5 : Int32) (zs0 : Int32) (M : Mm) (H : Heap) (locs : List Loc) (ls : Array Slot), Wd D G S M H → va_S (aG G) s.heap H locs → lv_has ls 7 [(0, .ref (adr G xl0)), (1, .ref (adr G xl1)), (2, .int zl2), (3, .int zl3), (4, .int zl4), (5, .int zl5)] → wp_X6_payWith_47 S post xl0 xl1 zl2.toInt zl3.toInt zl4.toInt zl5.toInt zs0.toInt M → W p l e RM_X6_payWith s m args below meth c H locs 0 0 (MQ below (QI D G S post) args s 0 0 (aG G)) (F0 m 47 ls [.int zs0]) := by
  obtain ⟨hx, hb, hr, hlocks, hml, hown, hts, hK⟩ := id C
  intro xl0 xl1 zl2 zl3 zl4 zl5 zs0 M H locs ls hP hS hl h
  unfold wp_X6_payWith_47 at h
  refine lv_istore (lv' := [(6, .int zs0), (0, .ref (adr G xl0)), (1, .ref (adr G xl1)), (2, .int zl2), (3, .int zl3), (4, .int zl4), (5, .int zl5)]) hx hb dX6_payWith_47 hl (by decide) rfl (fun ls hl => ?_)
  refine lv_iload hx hb dX6_payWith_49 (lv_at hl 0 rfl) ?_
  refine r_if_eq (tgt := 82) hx hb dX6_payWith_51 (by decide) h (fun h => ?_) (fun h => ?_)
  · refine r_iconst hx hb dX6_payWith_82 (by decide) h (fun z2 h => ?_)
    exact r_iret hx hb hr hlocks hP hS dX6_payWith_83 h
  · refine lv_aload_n hx hb dX6_payWith_54 rfl (lv_at hl 2 rfl) ?_
    refine r_getrN (C := RX5) (T := TX5) (N := 9) hx hb hts (fun w h => List.mem_cons_of_mem _ (iX5 w h)) hown hK hP rfl (by decide) rfl 8 (by decide) (nw_68 hK) (fun _ h9 => h9) dX6_payWith_55 (by decide) h (fun x4 h => ?_)
    refine lv_iload_n hx hb dX6_payWith_58 rfl (lv_at hl 3 rfl) ?_
    refine r_iald hx hb hK hP dX6_payWith_59 h (fun z6 h => ?_)
    refine r_iconst hx hb dX6_payWith_60 (by decide) h (fun z8 h => ?_)
    refine r_icmp_ne (tgt := 82) hx hb dX6_payWith_61 (by decide) h (fun h => ?_) (fun h => ?_)
    · refine r_iconst hx hb dX6_payWith_82 (by decide) h (fun z10 h => ?_)
      exact r_iret hx hb hr hlocks hP hS dX6_payWith_83 h
    · refine lv_aload_n hx hb dX6_payWith_64 rfl (lv_at hl 1 rfl) ?_
      refine r_getr (C := RX6) (T := TX6) (N := 3) hx hb hts (fun w h => List.mem_cons_of_mem _ (iX6 w h)) hown hK hP rfl (by decide) rfl 0 (by decide) (hts _ (List.mem_cons_of_mem _ kw_455)) (fun _ h9 => h9) dX6_payWith_65 (by decide) h (fun x12 h => ?_)
      refine lv_iload_n hx hb dX6_payWith_68 rfl (lv_at hl 3 rfl) ?_
      refine lv_aload_n hx hb dX6_payWith_69 rfl (lv_at hl 2 rfl) ?_
      refine r_getrN (C := RX5) (T := TX5) (N := 9) hx hb hts (fun w h => List.mem_cons_of_mem _ (iX5 w h)) hown hK hP rfl (by decide) rfl 7 (by decide) (nw_64 hK) (fun _ h9 => h9) dX6_payWith_70 (by decide) h (fun x14 h => ?_)
      refine lv_iload hx hb dX6_payWith_73 (lv_at hl 5 rfl) ?_
      refine r_iald hx hb hK hP dX6_payWith_75 h (fun z16 h => ?_)
      refine q_Vi hx hb hml hown hts hK hP hS (c_X8_suits l D G S _ x12 zl2 z16 _ h.2) ⟨callB_of 2 hts (gw_good kw_913) rfl rfl rfl (hts _ (List.mem_cons_of_mem _ kw_4)) (hts _ (List.mem_cons_of_mem _ kw_1163)) hd_X8_suits ⟨Nat.le_of_ble_eq_true rfl, Nat.le_of_ble_eq_true rfl⟩, (hts _ (List.mem_cons_of_mem _ kw_911)), (hts _ (List.mem_cons_of_mem _ kw_912))⟩ h.1 (ci := 8) rfl (by decide) rfl hl.1 rfl (lv_room (Nat.le_of_ble_eq_true rfl)) dX6_payWith_76 ⟨Nat.zero_le _, Nat.zero_le _⟩ (fun z19 M17 H locs h hP hS => ?_)
      refine r_if_ne (tgt := 84) hx hb dX6_payWith_79 (by decide) h (fun h => ?_) (fun h => ?_)
      · refine lv_aload_n hx hb dX6_payWith_84 rfl (lv_at hl 1 rfl) ?_
        refine r_getr (C := RX6) (T := TX6) (N := 3) hx hb hts (fun w h => List.mem_cons_of_mem _ (iX6 w h)) hown hK hP rfl (by decide) rfl 0 (by decide) (hts _ (List.mem_cons_of_mem _ kw_455)) (fun _ h9 => h9) dX6_payWith_85 (by decide) h (fun x21 h => ?_)
        refine r_getrN (C := RX8) (T := TX8) (N := 19) hx hb hts (fun w h => List.mem_cons_of_mem _ (iX8 w h)) hown hK hP rfl (by decide) rfl 18 (by decide) (nw_43 hK) (fun _ h9 => h9) dX6_payWith_88 (by decide) h (fun x23 h => ?_)
        refine lv_iload_n hx hb dX6_payWith_91 rfl (lv_at hl 3 rfl) ?_
        refine r_iald hx hb hK hP dX6_payWith_92 h (fun z25 h => ?_)
        refine lv_aload_n hx hb dX6_payWith_93 rfl (lv_at hl 1 rfl) ?_
        refine r_getr (C := RX6) (T := TX6) (N := 3) hx hb hts (fun w h => List.mem_cons_of_mem _ (iX6 w h)) hown hK hP rfl (by decide) rfl 1 (by decide) (hts _ (List.mem_cons_of_mem _ kw_456)) (fun _ h9 => h9) dX6_payWith_94 (by decide) h (fun x27 h => ?_)
        refine lv_iload hx hb dX6_payWith_97 (lv_at hl 6 rfl) ?_
        refine lv_iload_n hx hb dX6_payWith_99 rfl (lv_at hl 4 rfl) ?_
        refine r_iconst hx hb dX6_payWith_100 (by decide) h (fun z29 h => ?_)
        refine lv_iload hx hb dX6_payWith_101 (lv_at hl 5 rfl) ?_
        refine r_ishl hx hb dX6_payWith_103 h (fun z31 h => ?_)
        refine r_ior hx hb dX6_payWith_104 h (fun z33 h => ?_)
        refine r_iadd hx hb dX6_payWith_105 h (fun z35 h => ?_)
        refine r_iald hx hb hK hP dX6_payWith_106 h (fun z37 h => ?_)
        refine r_iadd hx hb dX6_payWith_107 h (fun z39 h => ?_)
        exact r_iret hx hb hr hlocks hP hS dX6_payWith_108 h
      · refine r_iconst hx hb dX6_payWith_82 (by decide) h (fun z41 h => ?_)
        exact r_iret hx hb hr hlocks hP hS dX6_payWith_83 h
set_option maxHeartbeats 4000000 in
set_option maxRecDepth 100000 in
theorem t_X6_payWith_46 {p : Program} {l : Launch} {e : Env} {s : State} {m : MethodId} {args : Array Value} {below : List Frame} {meth : Method} {c : Code} {D : va_G} {G : Gt} {S : Sh} {post : Int → Mm → Prop} (C : Cx p s m args meth c D G cX6_payWith 7 (some .int) (cw_X6_payWith :: gw) RX6) : ∀ (xl0 : Int) (xl1 : Int) (zl2 : Int32) (zl3 : Int32) (zl4 : Int32) (zl5 : Int32) (M : Mm) (H : Heap) (locs : List Loc) (ls : Array Slot), Wd D G S M H → va_S (aG G) s.heap H locs → lv_has ls 7 [(0, .ref (adr G xl0)), (1, .ref (adr G xl1)), (2, .int zl2), (3, .int zl3), (4, .int zl4), (5, .int zl5)] → wp_X6_payWith_46 S post xl0 xl1 zl2.toInt zl3.toInt zl4.toInt zl5.toInt  M → W p l e RM_X6_payWith s m args below meth c H locs 0 0 (MQ below (QI D G S post) args s 0 0 (aG G)) (F0 m 46 ls []) := by
  obtain ⟨hx, hb, hr, hlocks, hml, hown, hts, hK⟩ := id C
  intro xl0 xl1 zl2 zl3 zl4 zl5 M H locs ls hP hS hl h
  unfold wp_X6_payWith_46 at h
  refine r_iconst hx hb dX6_payWith_46 (by decide) h (fun z43 h => ?_)
  exact t_X6_payWith_47 C xl0 xl1 zl2 zl3 zl4 zl5 z43 _ _ _ _ hP hS (lv_sub hl [0, 1, 2, 3, 4, 5] rfl) h
set_option maxHeartbeats 4000000 in
set_option maxRecDepth 100000 in
theorem c_X6_payWith (l : Launch) (D : va_G) (G : Gt) (S : Sh) (M : Mm) (xl0 : Int) (xl1 : Int) (zl2 : Int32) (zl3 : Int32) (zl4 : Int32) (post : Int → Mm → Prop) (h : wp_X6_payWith S M xl0 xl1 zl2.toInt zl3.toInt zl4.toInt post) : Met l yX6_payWith (cw_X6_payWith :: gw) RM_X6_payWith (va_Pc [.ref (adr G xl0), .ref (adr G xl1), .int zl2, .int zl3, .int zl4] (fun U => KN D G U ∧ Wd D G S M U.heap)) (QI D G S post) 0 0 (aG G) := by
  refine Met.ofW (cc := cX6_payWith) (maxL := 7) (ret := (some .int)) (by decide) rfl ?_
  intro p e s m args below meth c s₁ B hml hv
  obtain ⟨rfl, hK, hP⟩ := hv
  have hx := B.exec
  have hb := B.bytes
  have hr := B.returns
  have hts := atoms_spec (ws := cw_X6_payWith :: gw) B.pre
  have hown : s.vm.findClass RX6 = some m.cls := findClass_of_methodNamed B.named
  have hlocks := B.notSynchronized
  have hS : va_S (aG G) s.heap s.heap [] := va_S.rf
  have C : Cx p s m ([.ref (adr G xl0), .ref (adr G xl1), .int zl2, .int zl3, .int zl4] : List Value).toArray meth c D G cX6_payWith 7 (some .int) (cw_X6_payWith :: gw) RX6 := ⟨hx, hb, hr, hlocks, hml, hown, hts, hK⟩
  have hl := lv_entry ([.ref (adr G xl0), .ref (adr G xl1), .int zl2, .int zl3, .int zl4]) (n := 7) (Nat.le_of_ble_eq_true rfl)
  rw [lg_entry_eq]
  generalize (lg_sl ([.ref (adr G xl0), .ref (adr G xl1), .int zl2, .int zl3, .int zl4]) ++ List.replicate (7 - (lg_sl ([.ref (adr G xl0), .ref (adr G xl1), .int zl2, .int zl3, .int zl4])).length) Slot.unset).toArray = ls at hl ⊢
  have hl : lv_has ls 7 [(0, .ref (adr G xl0)), (1, .ref (adr G xl1)), (2, .int zl2), (3, .int zl3), (4, .int zl4)] := hl
  unfold wp_X6_payWith at h
  refine lv_iload_n hx hb dX6_payWith_0 rfl (lv_at hl 2 rfl) ?_
  refine r_iconst hx hb dX6_payWith_1 (by decide) h (fun z45 h => ?_)
  refine r_iadd hx hb dX6_payWith_2 h (fun z47 h => ?_)
  refine r_bipush hx hb dX6_payWith_3 (by decide) h (fun z49 h => ?_)
  refine r_imul hx hb dX6_payWith_5 h (fun z51 h => ?_)
  refine lv_istore (lv' := [(5, .int z51), (0, .ref (adr G xl0)), (1, .ref (adr G xl1)), (2, .int zl2), (3, .int zl3), (4, .int zl4)]) hx hb dX6_payWith_6 hl (by decide) rfl (fun ls hl => ?_)
  refine lv_iload hx hb dX6_payWith_8 (lv_at hl 5 rfl) ?_
  refine r_iconst hx hb dX6_payWith_10 (by decide) h (fun z53 h => ?_)
  refine r_icmp_ne (tgt := 24) hx hb dX6_payWith_11 (by decide) h (fun h => ?_) (fun h => ?_)
  · refine lv_iload_n hx hb dX6_payWith_24 rfl (lv_at hl 4 rfl) ?_
    refine lv_iload hx hb dX6_payWith_25 (lv_at hl 5 rfl) ?_
    refine r_ishr hx hb dX6_payWith_27 h (fun z55 h => ?_)
    refine r_iconst hx hb dX6_payWith_28 (by decide) h (fun z57 h => ?_)
    refine r_iand hx hb dX6_payWith_29 h (fun z59 h => ?_)
    refine r_if_ne (tgt := 46) hx hb dX6_payWith_30 (by decide) h (fun h => ?_) (fun h => ?_)
    · exact t_X6_payWith_46 C xl0 xl1 zl2 zl3 zl4 z51 _ _ _ _ hP hS (lv_sub hl [1, 2, 3, 4, 5, 0] rfl) h
    · refine lv_aload_n hx hb dX6_payWith_33 rfl (lv_at hl 2 rfl) ?_
      refine lv_iload hx hb dX6_payWith_34 (lv_at hl 5 rfl) ?_
      refine q_Vi hx hb hml hown hts hK hP hS (c_X5_isGone l D G S _ xl1 zl4 _ h.2) ⟨callB_of 1 hts (gw_good kw_897) rfl rfl rfl (hts _ (List.mem_cons_of_mem _ kw_5)) (hts _ (List.mem_cons_of_mem _ kw_1162)) hd_X5_isGone ⟨Nat.le_of_ble_eq_true rfl, Nat.le_of_ble_eq_true rfl⟩, (hts _ (List.mem_cons_of_mem _ kw_895)), (hts _ (List.mem_cons_of_mem _ kw_896))⟩ h.1 (ci := 5) rfl (by decide) rfl hl.1 rfl (lv_room (Nat.le_of_ble_eq_true rfl)) dX6_payWith_36 ⟨Nat.zero_le _, Nat.zero_le _⟩ (fun z62 M60 H locs h hP hS => ?_)
      refine r_if_ne (tgt := 46) hx hb dX6_payWith_39 (by decide) h (fun h => ?_) (fun h => ?_)
      · exact t_X6_payWith_46 C xl0 xl1 zl2 zl3 zl4 z51 _ _ _ _ hP hS (lv_sub hl [1, 2, 3, 4, 5, 0] rfl) h
      · refine r_iconst hx hb dX6_payWith_42 (by decide) h (fun z64 h => ?_)
        refine lv_goto (tgt := 47) hx hb dX6_payWith_43 (by decide) ?_
        exact t_X6_payWith_47 C xl0 xl1 zl2 zl3 zl4 z51 z64 _ _ _ _ hP hS (lv_sub hl [1, 2, 3, 4, 5, 0] rfl) h
  · refine lv_aload_n hx hb dX6_payWith_14 rfl (lv_at hl 1 rfl) ?_
    refine r_getr (C := RX6) (T := TX6) (N := 3) hx hb hts (fun w h => List.mem_cons_of_mem _ (iX6 w h)) hown hK hP rfl (by decide) rfl 1 (by decide) (hts _ (List.mem_cons_of_mem _ kw_456)) (fun _ h9 => h9) dX6_payWith_15 (by decide) h (fun x66 h => ?_)
    refine lv_iload hx hb dX6_payWith_18 (lv_at hl 0 rfl) ?_
    refine lv_iload_n hx hb dX6_payWith_20 rfl (lv_at hl 4 rfl) ?_
    refine r_iadd hx hb dX6_payWith_21 h (fun z68 h => ?_)
    refine r_iald hx hb hK hP dX6_payWith_22 h (fun z70 h => ?_)
    exact r_iret hx hb hr hlocks hP hS dX6_payWith_23 h
/-! TurningMilk$Tables.matchWants(LTurningMilk$State;)V -/
abbrev RM_X6_matchWants : Room := { frames := 3, cells := 0, slots := 0, locals := 88 }
def cw_X6_matchWants : Cond := Cond.code yX6_matchWants cX6_matchWants 6 (Option.none : Option FieldType)
theorem hd_X6_matchWants : yX6_matchWants.cls ≠ "java/lang/invoke/MethodHandle" ∧ yX6_matchWants.cls ≠ "java/lang/invoke/VarHandle" ∧ (parseMethodDescriptor yX6_matchWants.desc).map (fun d => d.parameters.length) = some 1 := by decide +kernel
theorem dX6_matchWants_0 : decode cX6_matchWants 0 = .ok (.aload_n 0, 1) := by decide +kernel
theorem dX6_matchWants_1 : decode cX6_matchWants 1 = .ok (.getfield 11, 3) := by decide +kernel
theorem dX6_matchWants_4 : decode cX6_matchWants 4 = .ok (.iconst 0, 1) := by decide +kernel
theorem dX6_matchWants_5 : decode cX6_matchWants 5 = .ok (.invokestatic 22, 3) := by decide +kernel
theorem dX6_matchWants_8 : decode cX6_matchWants 8 = .ok (.aload_n 0, 1) := by decide +kernel
theorem dX6_matchWants_9 : decode cX6_matchWants 9 = .ok (.getfield 18, 3) := by decide +kernel
theorem dX6_matchWants_12 : decode cX6_matchWants 12 = .ok (.getfield 28, 3) := by decide +kernel
theorem dX6_matchWants_15 : decode cX6_matchWants 15 = .ok (.iconst 1, 1) := by decide +kernel
theorem dX6_matchWants_16 : decode cX6_matchWants 16 = .ok (.isub, 1) := by decide +kernel
theorem dX6_matchWants_17 : decode cX6_matchWants 17 = .ok (.istore_n 2, 1) := by decide +kernel
theorem dX6_matchWants_18 : decode cX6_matchWants 18 = .ok (.iload_n 2, 1) := by decide +kernel
theorem dX6_matchWants_19 : decode cX6_matchWants 19 = .ok (.ifCond .lt 83, 3) := by decide +kernel
theorem dX6_matchWants_22 : decode cX6_matchWants 22 = .ok (.iconst 0, 1) := by decide +kernel
theorem dX6_matchWants_23 : decode cX6_matchWants 23 = .ok (.istore_n 3, 1) := by decide +kernel
theorem dX6_matchWants_24 : decode cX6_matchWants 24 = .ok (.iload_n 3, 1) := by decide +kernel
theorem dX6_matchWants_25 : decode cX6_matchWants 25 = .ok (.bipush 16, 2) := by decide +kernel
theorem dX6_matchWants_27 : decode cX6_matchWants 27 = .ok (.if_icmp .ge 69, 3) := by decide +kernel
theorem dX6_matchWants_30 : decode cX6_matchWants 30 = .ok (.aload_n 0, 1) := by decide +kernel
theorem dX6_matchWants_31 : decode cX6_matchWants 31 = .ok (.aload_n 1, 1) := by decide +kernel
theorem dX6_matchWants_32 : decode cX6_matchWants 32 = .ok (.iload_n 2, 1) := by decide +kernel
theorem dX6_matchWants_33 : decode cX6_matchWants 33 = .ok (.iload_n 3, 1) := by decide +kernel
theorem dX6_matchWants_34 : decode cX6_matchWants 34 = .ok (.iconst (-1), 1) := by decide +kernel
theorem dX6_matchWants_35 : decode cX6_matchWants 35 = .ok (.invokevirtual 34, 3) := by decide +kernel
theorem dX6_matchWants_38 : decode cX6_matchWants 38 = .ok (.istore 4, 2) := by decide +kernel
theorem dX6_matchWants_40 : decode cX6_matchWants 40 = .ok (.iconst 0, 1) := by decide +kernel
theorem dX6_matchWants_41 : decode cX6_matchWants 41 = .ok (.istore 5, 2) := by decide +kernel
theorem dX6_matchWants_43 : decode cX6_matchWants 43 = .ok (.iload 5, 2) := by decide +kernel
theorem dX6_matchWants_45 : decode cX6_matchWants 45 = .ok (.aload_n 0, 1) := by decide +kernel
theorem dX6_matchWants_46 : decode cX6_matchWants 46 = .ok (.getfield 18, 3) := by decide +kernel
theorem dX6_matchWants_49 : decode cX6_matchWants 49 = .ok (.getfield 38, 3) := by decide +kernel
theorem dX6_matchWants_52 : decode cX6_matchWants 52 = .ok (.if_icmp .ge 25, 3) := by decide +kernel
theorem dX6_matchWants_55 : decode cX6_matchWants 55 = .ok (.iload 4, 2) := by decide +kernel
theorem dX6_matchWants_57 : decode cX6_matchWants 57 = .ok (.aload_n 0, 1) := by decide +kernel
theorem dX6_matchWants_58 : decode cX6_matchWants 58 = .ok (.aload_n 1, 1) := by decide +kernel
theorem dX6_matchWants_59 : decode cX6_matchWants 59 = .ok (.iload_n 2, 1) := by decide +kernel
theorem dX6_matchWants_60 : decode cX6_matchWants 60 = .ok (.iload_n 3, 1) := by decide +kernel
theorem dX6_matchWants_61 : decode cX6_matchWants 61 = .ok (.iload 5, 2) := by decide +kernel
theorem dX6_matchWants_63 : decode cX6_matchWants 63 = .ok (.invokevirtual 34, 3) := by decide +kernel
theorem dX6_matchWants_66 : decode cX6_matchWants 66 = .ok (.invokestatic 41, 3) := by decide +kernel
theorem dX6_matchWants_69 : decode cX6_matchWants 69 = .ok (.istore 4, 2) := by decide +kernel
theorem dX6_matchWants_71 : decode cX6_matchWants 71 = .ok (.iinc 5 1, 3) := by decide +kernel
theorem dX6_matchWants_74 : decode cX6_matchWants 74 = .ok (.goto (-31), 3) := by decide +kernel
theorem dX6_matchWants_77 : decode cX6_matchWants 77 = .ok (.aload_n 0, 1) := by decide +kernel
theorem dX6_matchWants_78 : decode cX6_matchWants 78 = .ok (.getfield 11, 3) := by decide +kernel
theorem dX6_matchWants_81 : decode cX6_matchWants 81 = .ok (.iload_n 2, 1) := by decide +kernel
theorem dX6_matchWants_82 : decode cX6_matchWants 82 = .ok (.bipush 16, 2) := by decide +kernel
theorem dX6_matchWants_84 : decode cX6_matchWants 84 = .ok (.imul, 1) := by decide +kernel
theorem dX6_matchWants_85 : decode cX6_matchWants 85 = .ok (.iload_n 3, 1) := by decide +kernel
theorem dX6_matchWants_86 : decode cX6_matchWants 86 = .ok (.iadd, 1) := by decide +kernel
theorem dX6_matchWants_87 : decode cX6_matchWants 87 = .ok (.iload 4, 2) := by decide +kernel
theorem dX6_matchWants_89 : decode cX6_matchWants 89 = .ok (.iastore, 1) := by decide +kernel
theorem dX6_matchWants_90 : decode cX6_matchWants 90 = .ok (.iinc 3 1, 3) := by decide +kernel
theorem dX6_matchWants_93 : decode cX6_matchWants 93 = .ok (.goto (-69), 3) := by decide +kernel
theorem dX6_matchWants_96 : decode cX6_matchWants 96 = .ok (.iinc 2 (-1), 3) := by decide +kernel
theorem dX6_matchWants_99 : decode cX6_matchWants 99 = .ok (.goto (-81), 3) := by decide +kernel
theorem dX6_matchWants_102 : decode cX6_matchWants 102 = .ok (.return_, 1) := by decide +kernel
def wp_X6_matchWants_43 (S : Sh) (k18 : Int → Int → Int → Mm → Prop) (k24 : Int → Int → Int → Int → Mm → Prop) (post : Mm → Prop) : Nat → Int → Int → Int → Int → Int → Int → Mm → Prop
  | 0, _, _, _, _, _, _, _ => False
  | n + 1, u0, u1, u2, u3, u4, u5, M => wGetR S M u0 6 0 fun v1 => wGet S M v1 8 5 fun v3 => wIf (v3 ≤ u5) (wGetR S M u0 6 1 fun v5 => wC 16 fun v7 => wM u2 v7 fun v9 => wA v9 u3 fun v11 => wSt S M v5 14 v11 u4 fun M13 => wA u3 1 fun v14 => k24 u0 u1 u2 v14 M13) (isK S u0 6 ∧ (wp_X6_payWith S M u0 u1 u2 u3 u5 <| fun v17 M16 => wO max u4 v17 fun v19 => wA u5 1 fun v21 => wp_X6_matchWants_43 S k18 k24 post n u0 u1 u2 u3 v19 v21 M16))
def wp_X6_matchWants_24 (S : Sh) (k18 : Int → Int → Int → Mm → Prop) (post : Mm → Prop) : Nat → Int → Int → Int → Int → Mm → Prop
  | 0, _, _, _, _, _ => False
  | n + 1, u0, u1, u2, u3, M => wC 16 fun v23 => wIf (v23 ≤ u3) (wA u2 (-1) fun v25 => k18 u0 u1 v25 M) (wC (-1) fun v27 => isK S u0 6 ∧ (wp_X6_payWith S M u0 u1 u2 u3 v27 <| fun v30 M29 => wC 0 fun v32 => ∃ n9 : Nat, wp_X6_matchWants_43 S k18 (fun a0 a1 a2 a3 M => wp_X6_matchWants_24 S k18 post n a0 a1 a2 a3 M) post n9 u0 u1 u2 u3 v30 v32 M29))
def wp_X6_matchWants_18 (S : Sh) (post : Mm → Prop) : Nat → Int → Int → Int → Mm → Prop
  | 0, _, _, _, _ => False
  | n + 1, u0, u1, u2, M => wIf (u2 < 0) (post M) (wC 0 fun v34 => ∃ n9 : Nat, wp_X6_matchWants_24 S (fun a0 a1 a2 M => wp_X6_matchWants_18 S post n a0 a1 a2 M) post n9 u0 u1 u2 v34 M)
def wp_X6_matchWants (S : Sh) (M : Mm) (u0 : Int) (u1 : Int) (post : Mm → Prop) : Prop := wGetR S M u0 6 1 fun v36 => wC 0 fun v38 => wp_J7_fill_53178 S M v36 v38 <| fun M40 => wGetR S M40 u0 6 0 fun v41 => wGet S M40 v41 8 7 fun v43 => wC 1 fun v45 => wS v43 v45 fun v47 => ∃ n9 : Nat, wp_X6_matchWants_18 S post n9 u0 u1 v47 M40
set_option maxHeartbeats 4000000 in
set_option maxRecDepth 100000 in
theorem t_X6_matchWants_43 {p : Program} {l : Launch} {e : Env} {s : State} {m : MethodId} {args : Array Value} {below : List Frame} {meth : Method} {c : Code} {D : va_G} {G : Gt} {S : Sh} {post : Mm → Prop} {k18 : Int → Int → Int → Mm → Prop} {k24 : Int → Int → Int → Int → Mm → Prop} (C : Cx p s m args meth c D G cX6_matchWants 6 none (cw_X6_matchWants :: gw) RX6) (hk18 : ∀ (y0 : Int) (y1 : Int) (y2 : Int32) (M : Mm) (H : Heap) (locs : List Loc) (ls : Array Slot), Wd D G S M H → va_S (aG G) s.heap H locs → lv_has ls 6 [(0, .ref (adr G y0)), (1, .ref (adr G y1)), (2, .int y2)] → k18 y0 y1 y2.toInt M → W p l e RM_X6_matchWants s m args below meth c H locs 0 0 (MQ below (QV D G S post) args s 0 0 (aG G)) (F0 m 18 ls [])) (hk24 : ∀ (y0 : Int) (y1 : Int) (y2 : Int32) (y3 : Int32) (M : Mm) (H : Heap) (locs : List Loc) (ls : Array Slot), Wd D G S M H → va_S (aG G) s.heap H locs → lv_has ls 6 [(0, .ref (adr G y0)), (1, .ref (adr G y1)), (2, .int y2), (3, .int y3)] → k24 y0 y1 y2.toInt y3.toInt M → W p l e RM_X6_matchWants s m args below meth c H locs 0 0 (MQ below (QV D G S post) args s 0 0 (aG G)) (F0 m 24 ls [])) : ∀ (n : Nat) (xl0 : Int) (xl1 : Int) (zl2 : Int32) (zl3 : Int32) (zl4 : Int32) (zl5 : Int32) (M : Mm) (H : Heap) (locs : List Loc) (ls : Array Slot), Wd D G S M H → va_S (aG G) s.heap H locs → lv_has ls 6 [(0, .ref (adr G xl0)), (1, .ref (adr G xl1)), (2, .int zl2), (3, .int zl3), (4, .int zl4), (5, .int zl5)] → wp_X6_matchWants_43 S k18 k24 post n xl0 xl1 zl2.toInt zl3.toInt zl4.toInt zl5.toInt  M → W p l e RM_X6_matchWants s m args below meth c H locs 0 0 (MQ below (QV D G S post) args s 0 0 (aG G)) (F0 m 43 ls []) := by
  obtain ⟨hx, hb, hr, hlocks, hml, hown, hts, hK⟩ := id C
  intro n
  induction n with
  | zero => intro xl0 xl1 zl2 zl3 zl4 zl5 M H locs ls hP hS hl h; exact h.elim
  | succ n ih =>
    intro xl0 xl1 zl2 zl3 zl4 zl5 M H locs ls hP hS hl h
    unfold wp_X6_matchWants_43 at h
    refine lv_iload hx hb dX6_matchWants_43 (lv_at hl 5 rfl) ?_
    refine lv_aload_n hx hb dX6_matchWants_45 rfl (lv_at hl 0 rfl) ?_
    refine r_getr (C := RX6) (T := TX6) (N := 3) hx hb hts (fun w h => List.mem_cons_of_mem _ (iX6 w h)) hown hK hP rfl (by decide) rfl 0 (by decide) (hts _ (List.mem_cons_of_mem _ kw_455)) (fun _ h9 => h9) dX6_matchWants_46 (by decide) h (fun x2 h => ?_)
    refine r_getiN (C := RX8) (T := TX8) (N := 19) hx hb hts (fun w h => List.mem_cons_of_mem _ (iX8 w h)) hown hK hP rfl (by decide) rfl 5 (by decide) (nw_19 hK) (fun _ h9 => h9) dX6_matchWants_49 (by decide) h (fun z4 h => ?_)
    refine r_icmp_ge (tgt := 77) hx hb dX6_matchWants_52 (by decide) h (fun h => ?_) (fun h => ?_)
    · refine lv_aload_n hx hb dX6_matchWants_77 rfl (lv_at hl 0 rfl) ?_
      refine r_getr (C := RX6) (T := TX6) (N := 3) hx hb hts (fun w h => List.mem_cons_of_mem _ (iX6 w h)) hown hK hP rfl (by decide) rfl 1 (by decide) (hts _ (List.mem_cons_of_mem _ kw_456)) (fun _ h9 => h9) dX6_matchWants_78 (by decide) h (fun x6 h => ?_)
      refine lv_iload_n hx hb dX6_matchWants_81 rfl (lv_at hl 2 rfl) ?_
      refine r_bipush hx hb dX6_matchWants_82 (by decide) h (fun z8 h => ?_)
      refine r_imul hx hb dX6_matchWants_84 h (fun z10 h => ?_)
      refine lv_iload_n hx hb dX6_matchWants_85 rfl (lv_at hl 3 rfl) ?_
      refine r_iadd hx hb dX6_matchWants_86 h (fun z12 h => ?_)
      refine lv_iload hx hb dX6_matchWants_87 (lv_at hl 4 rfl) ?_
      refine r_iast hx hb hK hP hS dX6_matchWants_89 h (fun M13 H locs h hP hS => ?_)
      refine r_iinc hx hb (fun z15 => [(3, .int z15), (0, .ref (adr G xl0)), (1, .ref (adr G xl1)), (2, .int zl2), (4, .int zl4), (5, .int zl5)]) dX6_matchWants_90 (by decide) hl (k := 3) rfl (by decide) (fun _ => rfl) h (fun z15 ls hl h => ?_)
      refine lv_goto (tgt := 24) hx hb dX6_matchWants_93 (by decide) ?_
      exact hk24 xl0 xl1 zl2 z15 _ _ _ _ hP hS (lv_sub hl [1, 2, 3, 0] rfl) h
    · refine lv_iload hx hb dX6_matchWants_55 (lv_at hl 4 rfl) ?_
      refine lv_aload_n hx hb dX6_matchWants_57 rfl (lv_at hl 0 rfl) ?_
      refine lv_aload_n hx hb dX6_matchWants_58 rfl (lv_at hl 1 rfl) ?_
      refine lv_iload_n hx hb dX6_matchWants_59 rfl (lv_at hl 2 rfl) ?_
      refine lv_iload_n hx hb dX6_matchWants_60 rfl (lv_at hl 3 rfl) ?_
      refine lv_iload hx hb dX6_matchWants_61 (lv_at hl 5 rfl) ?_
      refine q_Vi hx hb hml hown hts hK hP hS (c_X6_payWith l D G S _ xl0 xl1 zl2 zl3 zl5 _ h.2) ⟨callB_of 4 hts (gw_good kw_1161) rfl rfl rfl (hts _ (List.mem_cons_of_mem _ kw_12)) (hts _ (List.mem_cons_of_mem _ kw_1158)) hd_X6_payWith ⟨Nat.le_of_ble_eq_true rfl, Nat.le_of_ble_eq_true rfl⟩, (hts _ (List.mem_cons_of_mem _ kw_1160)), (hts _ (List.mem_cons_of_mem _ kp_43))⟩ h.1 (ci := 6) rfl (by decide) rfl hl.1 rfl (lv_room (Nat.le_of_ble_eq_true rfl)) dX6_matchWants_63 ⟨Nat.zero_le _, Nat.zero_le _⟩ (fun z18 M16 H locs h hP hS => ?_)
      refine r_mmax hx hb (hml.trans hl.1.symm) hown (hts _ (List.mem_cons_of_mem _ kw_1164)) (hts _ (List.mem_cons_of_mem _ kw_993)) (hts _ (List.mem_cons_of_mem _ kw_19)) (hts _ (List.mem_cons_of_mem _ kw_994)) (Nat.le_of_ble_eq_true rfl) (Nat.le_of_ble_eq_true rfl) (Nat.zero_le _) (Nat.zero_le _) dX6_matchWants_66 h (fun z20 h => ?_)
      refine lv_istore (lv' := [(4, .int z20), (0, .ref (adr G xl0)), (1, .ref (adr G xl1)), (2, .int zl2), (3, .int zl3), (5, .int zl5)]) hx hb dX6_matchWants_69 hl (by decide) rfl (fun ls hl => ?_)
      refine r_iinc hx hb (fun z22 => [(5, .int z22), (4, .int z20), (0, .ref (adr G xl0)), (1, .ref (adr G xl1)), (2, .int zl2), (3, .int zl3)]) dX6_matchWants_71 (by decide) hl (k := 5) rfl (by decide) (fun _ => rfl) h (fun z22 ls hl h => ?_)
      refine lv_goto (tgt := 43) hx hb dX6_matchWants_74 (by decide) ?_
      exact ih xl0 xl1 zl2 zl3 z20 z22 _ _ _ _ hP hS (lv_sub hl [2, 3, 4, 5, 1, 0] rfl) h
set_option maxHeartbeats 4000000 in
set_option maxRecDepth 100000 in
theorem t_X6_matchWants_24 {p : Program} {l : Launch} {e : Env} {s : State} {m : MethodId} {args : Array Value} {below : List Frame} {meth : Method} {c : Code} {D : va_G} {G : Gt} {S : Sh} {post : Mm → Prop} {k18 : Int → Int → Int → Mm → Prop} (C : Cx p s m args meth c D G cX6_matchWants 6 none (cw_X6_matchWants :: gw) RX6) (hk18 : ∀ (y0 : Int) (y1 : Int) (y2 : Int32) (M : Mm) (H : Heap) (locs : List Loc) (ls : Array Slot), Wd D G S M H → va_S (aG G) s.heap H locs → lv_has ls 6 [(0, .ref (adr G y0)), (1, .ref (adr G y1)), (2, .int y2)] → k18 y0 y1 y2.toInt M → W p l e RM_X6_matchWants s m args below meth c H locs 0 0 (MQ below (QV D G S post) args s 0 0 (aG G)) (F0 m 18 ls [])) : ∀ (n : Nat) (xl0 : Int) (xl1 : Int) (zl2 : Int32) (zl3 : Int32) (M : Mm) (H : Heap) (locs : List Loc) (ls : Array Slot), Wd D G S M H → va_S (aG G) s.heap H locs → lv_has ls 6 [(0, .ref (adr G xl0)), (1, .ref (adr G xl1)), (2, .int zl2), (3, .int zl3)] → wp_X6_matchWants_24 S k18 post n xl0 xl1 zl2.toInt zl3.toInt  M → W p l e RM_X6_matchWants s m args below meth c H locs 0 0 (MQ below (QV D G S post) args s 0 0 (aG G)) (F0 m 24 ls []) := by
  obtain ⟨hx, hb, hr, hlocks, hml, hown, hts, hK⟩ := id C
  intro n
  induction n with
  | zero => intro xl0 xl1 zl2 zl3 M H locs ls hP hS hl h; exact h.elim
  | succ n ih =>
    intro xl0 xl1 zl2 zl3 M H locs ls hP hS hl h
    unfold wp_X6_matchWants_24 at h
    refine lv_iload_n hx hb dX6_matchWants_24 rfl (lv_at hl 3 rfl) ?_
    refine r_bipush hx hb dX6_matchWants_25 (by decide) h (fun z24 h => ?_)
    refine r_icmp_ge (tgt := 96) hx hb dX6_matchWants_27 (by decide) h (fun h => ?_) (fun h => ?_)
    · refine r_iinc hx hb (fun z26 => [(2, .int z26), (0, .ref (adr G xl0)), (1, .ref (adr G xl1)), (3, .int zl3)]) dX6_matchWants_96 (by decide) hl (k := 2) rfl (by decide) (fun _ => rfl) h (fun z26 ls hl h => ?_)
      refine lv_goto (tgt := 18) hx hb dX6_matchWants_99 (by decide) ?_
      exact hk18 xl0 xl1 z26 _ _ _ _ hP hS (lv_sub hl [1, 2, 0] rfl) h
    · refine lv_aload_n hx hb dX6_matchWants_30 rfl (lv_at hl 0 rfl) ?_
      refine lv_aload_n hx hb dX6_matchWants_31 rfl (lv_at hl 1 rfl) ?_
      refine lv_iload_n hx hb dX6_matchWants_32 rfl (lv_at hl 2 rfl) ?_
      refine lv_iload_n hx hb dX6_matchWants_33 rfl (lv_at hl 3 rfl) ?_
      refine r_iconst hx hb dX6_matchWants_34 (by decide) h (fun z28 h => ?_)
      refine q_Vi hx hb hml hown hts hK hP hS (c_X6_payWith l D G S _ xl0 xl1 zl2 zl3 z28 _ h.2) ⟨callB_of 4 hts (gw_good kw_1161) rfl rfl rfl (hts _ (List.mem_cons_of_mem _ kw_12)) (hts _ (List.mem_cons_of_mem _ kw_1158)) hd_X6_payWith ⟨Nat.le_of_ble_eq_true rfl, Nat.le_of_ble_eq_true rfl⟩, (hts _ (List.mem_cons_of_mem _ kw_1160)), (hts _ (List.mem_cons_of_mem _ kp_43))⟩ h.1 (ci := 6) rfl (by decide) rfl hl.1 rfl (lv_room (Nat.le_of_ble_eq_true rfl)) dX6_matchWants_35 ⟨Nat.zero_le _, Nat.zero_le _⟩ (fun z31 M29 H locs h hP hS => ?_)
      refine lv_istore (lv' := [(4, .int z31), (0, .ref (adr G xl0)), (1, .ref (adr G xl1)), (2, .int zl2), (3, .int zl3)]) hx hb dX6_matchWants_38 hl (by decide) rfl (fun ls hl => ?_)
      refine r_iconst hx hb dX6_matchWants_40 (by decide) h (fun z33 h => ?_)
      refine lv_istore (lv' := [(5, .int z33), (4, .int z31), (0, .ref (adr G xl0)), (1, .ref (adr G xl1)), (2, .int zl2), (3, .int zl3)]) hx hb dX6_matchWants_41 hl (by decide) rfl (fun ls hl => ?_)
      obtain ⟨n9, h⟩ := h
      exact t_X6_matchWants_43 C hk18 ih n9 xl0 xl1 zl2 zl3 z31 z33 _ _ _ _ hP hS (lv_sub hl [2, 3, 4, 5, 1, 0] rfl) h
set_option maxHeartbeats 4000000 in
set_option maxRecDepth 100000 in
theorem t_X6_matchWants_18 {p : Program} {l : Launch} {e : Env} {s : State} {m : MethodId} {args : Array Value} {below : List Frame} {meth : Method} {c : Code} {D : va_G} {G : Gt} {S : Sh} {post : Mm → Prop} (C : Cx p s m args meth c D G cX6_matchWants 6 none (cw_X6_matchWants :: gw) RX6) : ∀ (n : Nat) (xl0 : Int) (xl1 : Int) (zl2 : Int32) (M : Mm) (H : Heap) (locs : List Loc) (ls : Array Slot), Wd D G S M H → va_S (aG G) s.heap H locs → lv_has ls 6 [(0, .ref (adr G xl0)), (1, .ref (adr G xl1)), (2, .int zl2)] → wp_X6_matchWants_18 S post n xl0 xl1 zl2.toInt  M → W p l e RM_X6_matchWants s m args below meth c H locs 0 0 (MQ below (QV D G S post) args s 0 0 (aG G)) (F0 m 18 ls []) := by
  obtain ⟨hx, hb, hr, hlocks, hml, hown, hts, hK⟩ := id C
  intro n
  induction n with
  | zero => intro xl0 xl1 zl2 M H locs ls hP hS hl h; exact h.elim
  | succ n ih =>
    intro xl0 xl1 zl2 M H locs ls hP hS hl h
    unfold wp_X6_matchWants_18 at h
    refine lv_iload_n hx hb dX6_matchWants_18 rfl (lv_at hl 2 rfl) ?_
    refine r_if_lt (tgt := 102) hx hb dX6_matchWants_19 (by decide) h (fun h => ?_) (fun h => ?_)
    · exact r_vret hx hb hr hlocks hP hS dX6_matchWants_102 h
    · refine r_iconst hx hb dX6_matchWants_22 (by decide) h (fun z35 h => ?_)
      refine lv_istore_n (lv' := [(3, .int z35), (0, .ref (adr G xl0)), (1, .ref (adr G xl1)), (2, .int zl2)]) hx hb dX6_matchWants_23 rfl hl (by decide) rfl (fun ls hl => ?_)
      obtain ⟨n9, h⟩ := h
      exact t_X6_matchWants_24 C ih n9 xl0 xl1 zl2 z35 _ _ _ _ hP hS (lv_sub hl [1, 2, 3, 0] rfl) h
set_option maxHeartbeats 4000000 in
set_option maxRecDepth 100000 in
theorem c_X6_matchWants (l : Launch) (D : va_G) (G : Gt) (S : Sh) (M : Mm) (xl0 : Int) (xl1 : Int) (post : Mm → Prop) (h : wp_X6_matchWants S M xl0 xl1 post) : Met l yX6_matchWants (cw_X6_matchWants :: gw) RM_X6_matchWants (va_Pc [.ref (adr G xl0), .ref (adr G xl1)] (fun U => KN D G U ∧ Wd D G S M U.heap)) (QV D G S post) 0 0 (aG G) := by
  refine Met.ofW (cc := cX6_matchWants) (maxL := 6) (ret := none) (by decide) rfl ?_
  intro p e s m args below meth c s₁ B hml hv
  obtain ⟨rfl, hK, hP⟩ := hv
  have hx := B.exec
  have hb := B.bytes
  have hr := B.returns
  have hts := atoms_spec (ws := cw_X6_matchWants :: gw) B.pre
  have hown : s.vm.findClass RX6 = some m.cls := findClass_of_methodNamed B.named
  have hlocks := B.notSynchronized
  have hS : va_S (aG G) s.heap s.heap [] := va_S.rf
  have C : Cx p s m ([.ref (adr G xl0), .ref (adr G xl1)] : List Value).toArray meth c D G cX6_matchWants 6 none (cw_X6_matchWants :: gw) RX6 := ⟨hx, hb, hr, hlocks, hml, hown, hts, hK⟩
  have hl := lv_entry ([.ref (adr G xl0), .ref (adr G xl1)]) (n := 6) (Nat.le_of_ble_eq_true rfl)
  rw [lg_entry_eq]
  generalize (lg_sl ([.ref (adr G xl0), .ref (adr G xl1)]) ++ List.replicate (6 - (lg_sl ([.ref (adr G xl0), .ref (adr G xl1)])).length) Slot.unset).toArray = ls at hl ⊢
  have hl : lv_has ls 6 [(0, .ref (adr G xl0)), (1, .ref (adr G xl1))] := hl
  unfold wp_X6_matchWants at h
  refine lv_aload_n hx hb dX6_matchWants_0 rfl (lv_at hl 0 rfl) ?_
  refine r_getr (C := RX6) (T := TX6) (N := 3) hx hb hts (fun w h => List.mem_cons_of_mem _ (iX6 w h)) hown hK hP rfl (by decide) rfl 1 (by decide) (hts _ (List.mem_cons_of_mem _ kw_456)) (fun _ h9 => h9) dX6_matchWants_1 (by decide) h (fun x37 h => ?_)
  refine r_iconst hx hb dX6_matchWants_4 (by decide) h (fun z39 h => ?_)
  refine q_Sv hx hb hml hown hts hK hP hS (c_J7_fill_53178 l D G S _ x37 z39 _ h) ⟨callB_of 2 hts (gw_good kw_178) rfl rfl rfl (hts _ (List.mem_cons_of_mem _ kw_6)) (hts _ (List.mem_cons_of_mem _ kw_1157)) hd_J7_fill_53178 ⟨Nat.le_of_ble_eq_true rfl, Nat.le_of_ble_eq_true rfl⟩, (hts _ (List.mem_cons_of_mem _ kw_177))⟩ rfl hl.1 rfl (lv_room (Nat.le_of_ble_eq_true rfl)) dX6_matchWants_5 ⟨Nat.zero_le _, Nat.zero_le _⟩ (fun M40 H locs h hP hS => ?_)
  refine lv_aload_n hx hb dX6_matchWants_8 rfl (lv_at hl 0 rfl) ?_
  refine r_getr (C := RX6) (T := TX6) (N := 3) hx hb hts (fun w h => List.mem_cons_of_mem _ (iX6 w h)) hown hK hP rfl (by decide) rfl 0 (by decide) (hts _ (List.mem_cons_of_mem _ kw_455)) (fun _ h9 => h9) dX6_matchWants_9 (by decide) h (fun x42 h => ?_)
  refine r_getiN (C := RX8) (T := TX8) (N := 19) hx hb hts (fun w h => List.mem_cons_of_mem _ (iX8 w h)) hown hK hP rfl (by decide) rfl 7 (by decide) (nw_23 hK) (fun _ h9 => h9) dX6_matchWants_12 (by decide) h (fun z44 h => ?_)
  refine r_iconst hx hb dX6_matchWants_15 (by decide) h (fun z46 h => ?_)
  refine r_isub hx hb dX6_matchWants_16 h (fun z48 h => ?_)
  refine lv_istore_n (lv' := [(2, .int z48), (0, .ref (adr G xl0)), (1, .ref (adr G xl1))]) hx hb dX6_matchWants_17 rfl hl (by decide) rfl (fun ls hl => ?_)
  obtain ⟨n9, h⟩ := h
  exact t_X6_matchWants_18 C n9 xl0 xl1 z48 _ _ _ _ hP hS (lv_sub hl [1, 2, 0] rfl) h
/-! TurningMilk$Tables.mostPay()I -/
abbrev RM_X6_mostPay : Room := { frames := 1, cells := 0, slots := 0, locals := 40 }
def cw_X6_mostPay : Cond := Cond.code yX6_mostPay cX6_mostPay 1 (Option.some FieldType.int)
theorem hd_X6_mostPay : yX6_mostPay.cls ≠ "java/lang/invoke/MethodHandle" ∧ yX6_mostPay.cls ≠ "java/lang/invoke/VarHandle" ∧ (parseMethodDescriptor yX6_mostPay.desc).map (fun d => d.parameters.length) = some 0 := by decide +kernel
theorem dX6_mostPay_0 : decode cX6_mostPay 0 = .ok (.aload_n 0, 1) := by decide +kernel
theorem dX6_mostPay_1 : decode cX6_mostPay 1 = .ok (.getfield 11, 3) := by decide +kernel
theorem dX6_mostPay_4 : decode cX6_mostPay 4 = .ok (.iconst 0, 1) := by decide +kernel
theorem dX6_mostPay_5 : decode cX6_mostPay 5 = .ok (.iaload, 1) := by decide +kernel
theorem dX6_mostPay_6 : decode cX6_mostPay 6 = .ok (.ireturn, 1) := by decide +kernel
def wp_X6_mostPay (S : Sh) (M : Mm) (u0 : Int) (post : Int → Mm → Prop) : Prop := wGetR S M u0 6 1 fun v1 => wC 0 fun v3 => wLd S M v1 14 v3 fun v5 => post v5 M
set_option maxHeartbeats 4000000 in
set_option maxRecDepth 100000 in
theorem c_X6_mostPay (l : Launch) (D : va_G) (G : Gt) (S : Sh) (M : Mm) (xl0 : Int) (post : Int → Mm → Prop) (h : wp_X6_mostPay S M xl0 post) : Met l yX6_mostPay (cw_X6_mostPay :: gw) RM_X6_mostPay (va_Pc [.ref (adr G xl0)] (fun U => KN D G U ∧ Wd D G S M U.heap)) (QI D G S post) 0 0 (aG G) := by
  refine Met.ofW (cc := cX6_mostPay) (maxL := 1) (ret := (some .int)) (by decide) rfl ?_
  intro p e s m args below meth c s₁ B hml hv
  obtain ⟨rfl, hK, hP⟩ := hv
  have hx := B.exec
  have hb := B.bytes
  have hr := B.returns
  have hts := atoms_spec (ws := cw_X6_mostPay :: gw) B.pre
  have hown : s.vm.findClass RX6 = some m.cls := findClass_of_methodNamed B.named
  have hlocks := B.notSynchronized
  have hS : va_S (aG G) s.heap s.heap [] := va_S.rf
  have C : Cx p s m ([.ref (adr G xl0)] : List Value).toArray meth c D G cX6_mostPay 1 (some .int) (cw_X6_mostPay :: gw) RX6 := ⟨hx, hb, hr, hlocks, hml, hown, hts, hK⟩
  have hl := lv_entry ([.ref (adr G xl0)]) (n := 1) (Nat.le_of_ble_eq_true rfl)
  rw [lg_entry_eq]
  generalize (lg_sl ([.ref (adr G xl0)]) ++ List.replicate (1 - (lg_sl ([.ref (adr G xl0)])).length) Slot.unset).toArray = ls at hl ⊢
  have hl : lv_has ls 1 [(0, .ref (adr G xl0))] := hl
  unfold wp_X6_mostPay at h
  refine lv_aload_n hx hb dX6_mostPay_0 rfl (lv_at hl 0 rfl) ?_
  refine r_getr (C := RX6) (T := TX6) (N := 3) hx hb hts (fun w h => List.mem_cons_of_mem _ (iX6 w h)) hown hK hP rfl (by decide) rfl 1 (by decide) (hts _ (List.mem_cons_of_mem _ kw_456)) (fun _ h9 => h9) dX6_mostPay_1 (by decide) h (fun x2 h => ?_)
  refine r_iconst hx hb dX6_mostPay_4 (by decide) h (fun z4 h => ?_)
  refine r_iald hx hb hK hP dX6_mostPay_5 h (fun z6 h => ?_)
  exact r_iret hx hb hr hlocks hP hS dX6_mostPay_6 h
/-! TurningMilk$Tables.firstBest(LTurningMilk$State;II)I -/
abbrev RM_X6_firstBest : Room := { frames := 3, cells := 0, slots := 0, locals := 88 }
def cw_X6_firstBest : Cond := Cond.code yX6_firstBest cX6_firstBest 5 (Option.some FieldType.int)
theorem hd_X6_firstBest : yX6_firstBest.cls ≠ "java/lang/invoke/MethodHandle" ∧ yX6_firstBest.cls ≠ "java/lang/invoke/VarHandle" ∧ (parseMethodDescriptor yX6_firstBest.desc).map (fun d => d.parameters.length) = some 3 := by decide +kernel
theorem dX6_firstBest_0 : decode cX6_firstBest 0 = .ok (.iconst (-1), 1) := by decide +kernel
theorem dX6_firstBest_1 : decode cX6_firstBest 1 = .ok (.istore 4, 2) := by decide +kernel
theorem dX6_firstBest_3 : decode cX6_firstBest 3 = .ok (.iload 4, 2) := by decide +kernel
theorem dX6_firstBest_5 : decode cX6_firstBest 5 = .ok (.aload_n 0, 1) := by decide +kernel
theorem dX6_firstBest_6 : decode cX6_firstBest 6 = .ok (.getfield 18, 3) := by decide +kernel
theorem dX6_firstBest_9 : decode cX6_firstBest 9 = .ok (.getfield 38, 3) := by decide +kernel
theorem dX6_firstBest_12 : decode cX6_firstBest 12 = .ok (.if_icmp .ge 35, 3) := by decide +kernel
theorem dX6_firstBest_15 : decode cX6_firstBest 15 = .ok (.aload_n 0, 1) := by decide +kernel
theorem dX6_firstBest_16 : decode cX6_firstBest 16 = .ok (.aload_n 1, 1) := by decide +kernel
theorem dX6_firstBest_17 : decode cX6_firstBest 17 = .ok (.iload_n 2, 1) := by decide +kernel
theorem dX6_firstBest_18 : decode cX6_firstBest 18 = .ok (.iload_n 3, 1) := by decide +kernel
theorem dX6_firstBest_19 : decode cX6_firstBest 19 = .ok (.iload 4, 2) := by decide +kernel
theorem dX6_firstBest_21 : decode cX6_firstBest 21 = .ok (.invokevirtual 34, 3) := by decide +kernel
theorem dX6_firstBest_24 : decode cX6_firstBest 24 = .ok (.aload_n 0, 1) := by decide +kernel
theorem dX6_firstBest_25 : decode cX6_firstBest 25 = .ok (.getfield 11, 3) := by decide +kernel
theorem dX6_firstBest_28 : decode cX6_firstBest 28 = .ok (.iload_n 2, 1) := by decide +kernel
theorem dX6_firstBest_29 : decode cX6_firstBest 29 = .ok (.bipush 16, 2) := by decide +kernel
theorem dX6_firstBest_31 : decode cX6_firstBest 31 = .ok (.imul, 1) := by decide +kernel
theorem dX6_firstBest_32 : decode cX6_firstBest 32 = .ok (.iload_n 3, 1) := by decide +kernel
theorem dX6_firstBest_33 : decode cX6_firstBest 33 = .ok (.iadd, 1) := by decide +kernel
theorem dX6_firstBest_34 : decode cX6_firstBest 34 = .ok (.iaload, 1) := by decide +kernel
theorem dX6_firstBest_35 : decode cX6_firstBest 35 = .ok (.if_icmp .ne 6, 3) := by decide +kernel
theorem dX6_firstBest_38 : decode cX6_firstBest 38 = .ok (.iload 4, 2) := by decide +kernel
theorem dX6_firstBest_40 : decode cX6_firstBest 40 = .ok (.ireturn, 1) := by decide +kernel
theorem dX6_firstBest_41 : decode cX6_firstBest 41 = .ok (.iinc 4 1, 3) := by decide +kernel
theorem dX6_firstBest_44 : decode cX6_firstBest 44 = .ok (.goto (-41), 3) := by decide +kernel
theorem dX6_firstBest_47 : decode cX6_firstBest 47 = .ok (.iconst (-1), 1) := by decide +kernel
theorem dX6_firstBest_48 : decode cX6_firstBest 48 = .ok (.ireturn, 1) := by decide +kernel
def wp_X6_firstBest_3 (S : Sh) (post : Int → Mm → Prop) : Nat → Int → Int → Int → Int → Int → Mm → Prop
  | 0, _, _, _, _, _, _ => False
  | n + 1, u0, u1, u2, u3, u4, M => wGetR S M u0 6 0 fun v1 => wGet S M v1 8 5 fun v3 => wIf (v3 ≤ u4) (wC (-1) fun v5 => post v5 M) (isK S u0 6 ∧ (wp_X6_payWith S M u0 u1 u2 u3 u4 <| fun v8 M7 => wGetR S M7 u0 6 1 fun v10 => wC 16 fun v12 => wM u2 v12 fun v14 => wA v14 u3 fun v16 => wLd S M7 v10 14 v16 fun v18 => wIf (¬ v8 = v18) (wA u4 1 fun v20 => wp_X6_firstBest_3 S post n u0 u1 u2 u3 v20 M7) (post u4 M7)))
def wp_X6_firstBest (S : Sh) (M : Mm) (u0 : Int) (u1 : Int) (u2 : Int) (u3 : Int) (post : Int → Mm → Prop) : Prop := wC (-1) fun v22 => ∃ n9 : Nat, wp_X6_firstBest_3 S post n9 u0 u1 u2 u3 v22 M
set_option maxHeartbeats 4000000 in
set_option maxRecDepth 100000 in
theorem t_X6_firstBest_3 {p : Program} {l : Launch} {e : Env} {s : State} {m : MethodId} {args : Array Value} {below : List Frame} {meth : Method} {c : Code} {D : va_G} {G : Gt} {S : Sh} {post : Int → Mm → Prop} (C : Cx p s m args meth c D G cX6_firstBest 5 (some .int) (cw_X6_firstBest :: gw) RX6) : ∀ (n : Nat) (xl0 : Int) (xl1 : Int) (zl2 : Int32) (zl3 : Int32) (zl4 : Int32) (M : Mm) (H : Heap) (locs : List Loc) (ls : Array Slot), Wd D G S M H → va_S (aG G) s.heap H locs → lv_has ls 5 [(0, .ref (adr G xl0)), (1, .ref (adr G xl1)), (2, .int zl2), (3, .int zl3), (4, .int zl4)] → wp_X6_firstBest_3 S post n xl0 xl1 zl2.toInt zl3.toInt zl4.toInt  M → W p l e RM_X6_firstBest s m args below meth c H locs 0 0 (MQ below (QI D G S post) args s 0 0 (aG G)) (F0 m 3 ls []) := by
  obtain ⟨hx, hb, hr, hlocks, hml, hown, hts, hK⟩ := id C
  intro n
  induction n with
  | zero => intro xl0 xl1 zl2 zl3 zl4 M H locs ls hP hS hl h; exact h.elim
  | succ n ih =>
    intro xl0 xl1 zl2 zl3 zl4 M H locs ls hP hS hl h
    unfold wp_X6_firstBest_3 at h
    refine lv_iload hx hb dX6_firstBest_3 (lv_at hl 4 rfl) ?_
    refine lv_aload_n hx hb dX6_firstBest_5 rfl (lv_at hl 0 rfl) ?_
    refine r_getr (C := RX6) (T := TX6) (N := 3) hx hb hts (fun w h => List.mem_cons_of_mem _ (iX6 w h)) hown hK hP rfl (by decide) rfl 0 (by decide) (hts _ (List.mem_cons_of_mem _ kw_455)) (fun _ h9 => h9) dX6_firstBest_6 (by decide) h (fun x2 h => ?_)
    refine r_getiN (C := RX8) (T := TX8) (N := 19) hx hb hts (fun w h => List.mem_cons_of_mem _ (iX8 w h)) hown hK hP rfl (by decide) rfl 5 (by decide) (nw_19 hK) (fun _ h9 => h9) dX6_firstBest_9 (by decide) h (fun z4 h => ?_)
    refine r_icmp_ge (tgt := 47) hx hb dX6_firstBest_12 (by decide) h (fun h => ?_) (fun h => ?_)
    · refine r_iconst hx hb dX6_firstBest_47 (by decide) h (fun z6 h => ?_)
      exact r_iret hx hb hr hlocks hP hS dX6_firstBest_48 h
    · refine lv_aload_n hx hb dX6_firstBest_15 rfl (lv_at hl 0 rfl) ?_
      refine lv_aload_n hx hb dX6_firstBest_16 rfl (lv_at hl 1 rfl) ?_
      refine lv_iload_n hx hb dX6_firstBest_17 rfl (lv_at hl 2 rfl) ?_
      refine lv_iload_n hx hb dX6_firstBest_18 rfl (lv_at hl 3 rfl) ?_
      refine lv_iload hx hb dX6_firstBest_19 (lv_at hl 4 rfl) ?_
      refine q_Vi hx hb hml hown hts hK hP hS (c_X6_payWith l D G S _ xl0 xl1 zl2 zl3 zl4 _ h.2) ⟨callB_of 4 hts (gw_good kw_1161) rfl rfl rfl (hts _ (List.mem_cons_of_mem _ kw_12)) (hts _ (List.mem_cons_of_mem _ kw_1158)) hd_X6_payWith ⟨Nat.le_of_ble_eq_true rfl, Nat.le_of_ble_eq_true rfl⟩, (hts _ (List.mem_cons_of_mem _ kw_1160)), (hts _ (List.mem_cons_of_mem _ kp_43))⟩ h.1 (ci := 6) rfl (by decide) rfl hl.1 rfl (lv_room (Nat.le_of_ble_eq_true rfl)) dX6_firstBest_21 ⟨Nat.zero_le _, Nat.zero_le _⟩ (fun z9 M7 H locs h hP hS => ?_)
      refine lv_aload_n hx hb dX6_firstBest_24 rfl (lv_at hl 0 rfl) ?_
      refine r_getr (C := RX6) (T := TX6) (N := 3) hx hb hts (fun w h => List.mem_cons_of_mem _ (iX6 w h)) hown hK hP rfl (by decide) rfl 1 (by decide) (hts _ (List.mem_cons_of_mem _ kw_456)) (fun _ h9 => h9) dX6_firstBest_25 (by decide) h (fun x11 h => ?_)
      refine lv_iload_n hx hb dX6_firstBest_28 rfl (lv_at hl 2 rfl) ?_
      refine r_bipush hx hb dX6_firstBest_29 (by decide) h (fun z13 h => ?_)
      refine r_imul hx hb dX6_firstBest_31 h (fun z15 h => ?_)
      refine lv_iload_n hx hb dX6_firstBest_32 rfl (lv_at hl 3 rfl) ?_
      refine r_iadd hx hb dX6_firstBest_33 h (fun z17 h => ?_)
      refine r_iald hx hb hK hP dX6_firstBest_34 h (fun z19 h => ?_)
      refine r_icmp_ne (tgt := 41) hx hb dX6_firstBest_35 (by decide) h (fun h => ?_) (fun h => ?_)
      · refine r_iinc hx hb (fun z21 => [(4, .int z21), (0, .ref (adr G xl0)), (1, .ref (adr G xl1)), (2, .int zl2), (3, .int zl3)]) dX6_firstBest_41 (by decide) hl (k := 4) rfl (by decide) (fun _ => rfl) h (fun z21 ls hl h => ?_)
        refine lv_goto (tgt := 3) hx hb dX6_firstBest_44 (by decide) ?_
        exact ih xl0 xl1 zl2 zl3 z21 _ _ _ _ hP hS (lv_sub hl [1, 2, 3, 4, 0] rfl) h
      · refine lv_iload hx hb dX6_firstBest_38 (lv_at hl 4 rfl) ?_
        exact r_iret hx hb hr hlocks hP hS dX6_firstBest_40 h
set_option maxHeartbeats 4000000 in
set_option maxRecDepth 100000 in
theorem c_X6_firstBest (l : Launch) (D : va_G) (G : Gt) (S : Sh) (M : Mm) (xl0 : Int) (xl1 : Int) (zl2 : Int32) (zl3 : Int32) (post : Int → Mm → Prop) (h : wp_X6_firstBest S M xl0 xl1 zl2.toInt zl3.toInt post) : Met l yX6_firstBest (cw_X6_firstBest :: gw) RM_X6_firstBest (va_Pc [.ref (adr G xl0), .ref (adr G xl1), .int zl2, .int zl3] (fun U => KN D G U ∧ Wd D G S M U.heap)) (QI D G S post) 0 0 (aG G) := by
  refine Met.ofW (cc := cX6_firstBest) (maxL := 5) (ret := (some .int)) (by decide) rfl ?_
  intro p e s m args below meth c s₁ B hml hv
  obtain ⟨rfl, hK, hP⟩ := hv
  have hx := B.exec
  have hb := B.bytes
  have hr := B.returns
  have hts := atoms_spec (ws := cw_X6_firstBest :: gw) B.pre
  have hown : s.vm.findClass RX6 = some m.cls := findClass_of_methodNamed B.named
  have hlocks := B.notSynchronized
  have hS : va_S (aG G) s.heap s.heap [] := va_S.rf
  have C : Cx p s m ([.ref (adr G xl0), .ref (adr G xl1), .int zl2, .int zl3] : List Value).toArray meth c D G cX6_firstBest 5 (some .int) (cw_X6_firstBest :: gw) RX6 := ⟨hx, hb, hr, hlocks, hml, hown, hts, hK⟩
  have hl := lv_entry ([.ref (adr G xl0), .ref (adr G xl1), .int zl2, .int zl3]) (n := 5) (Nat.le_of_ble_eq_true rfl)
  rw [lg_entry_eq]
  generalize (lg_sl ([.ref (adr G xl0), .ref (adr G xl1), .int zl2, .int zl3]) ++ List.replicate (5 - (lg_sl ([.ref (adr G xl0), .ref (adr G xl1), .int zl2, .int zl3])).length) Slot.unset).toArray = ls at hl ⊢
  have hl : lv_has ls 5 [(0, .ref (adr G xl0)), (1, .ref (adr G xl1)), (2, .int zl2), (3, .int zl3)] := hl
  unfold wp_X6_firstBest at h
  refine r_iconst hx hb dX6_firstBest_0 (by decide) h (fun z23 h => ?_)
  refine lv_istore (lv' := [(4, .int z23), (0, .ref (adr G xl0)), (1, .ref (adr G xl1)), (2, .int zl2), (3, .int zl3)]) hx hb dX6_firstBest_1 hl (by decide) rfl (fun ls hl => ?_)
  obtain ⟨n9, h⟩ := h
  exact t_X6_firstBest_3 C n9 xl0 xl1 zl2 zl3 z23 _ _ _ _ hP hS (lv_sub hl [1, 2, 3, 4, 0] rfl) h
