theorem df_0 : ∀ j, j < 3 → defaultValue (tyX0 j) = dvt (fT 0 j) := by decide +kernel
theorem df_1 : ∀ j, j < 3 → defaultValue (tyX1 j) = dvt (fT 1 j) := by decide +kernel
theorem df_2 : ∀ j, j < 11 → defaultValue (tyX2 j) = dvt (fT 2 j) := by decide +kernel
theorem df_3 : ∀ j, j < 9 → defaultValue (tyX3 j) = dvt (fT 3 j) := by decide +kernel
theorem df_4 : ∀ j, j < 10 → defaultValue (tyX4 j) = dvt (fT 4 j) := by decide +kernel
theorem df_5 : ∀ j, j < 9 → defaultValue (tyX5 j) = dvt (fT 5 j) := by decide +kernel
theorem df_6 : ∀ j, j < 3 → defaultValue (tyX6 j) = dvt (fT 6 j) := by decide +kernel
theorem df_7 : ∀ j, j < 5 → defaultValue (tyX7 j) = dvt (fT 7 j) := by decide +kernel
theorem df_8 : ∀ j, j < 19 → defaultValue (tyX8 j) = dvt (fT 8 j) := by decide +kernel
theorem df_9 : ∀ j, j < 5 → defaultValue (tyX9 j) = dvt (fT 9 j) := by decide +kernel
theorem df_10 : ∀ j, j < 12 → defaultValue (tyX10 j) = dvt (fT 10 j) := by decide +kernel
theorem df_11 : ∀ j, j < 16 → defaultValue (tyX11 j) = dvt (fT 11 j) := by decide +kernel
theorem df_12 : ∀ j, j < 38 → defaultValue (tyX12 j) = dvt (fT 12 j) := by decide +kernel
theorem dX7_init_0 : decode cX7_init 0 = .ok (.aload_n 0, 1) := by decide +kernel
theorem dX7_init_1 : decode cX7_init 1 = .ok (.invokespecial 3, 3) := by decide +kernel
theorem dX7_init_4 : decode cX7_init 4 = .ok (.aload_n 0, 1) := by decide +kernel
theorem dX7_init_5 : decode cX7_init 5 = .ok (.sipush 400, 3) := by decide +kernel
theorem dX7_init_8 : decode cX7_init 8 = .ok (.newarray .byte, 2) := by decide +kernel
theorem dX7_init_10 : decode cX7_init 10 = .ok (.putfield 9, 3) := by decide +kernel
theorem dX7_init_13 : decode cX7_init 13 = .ok (.return_, 1) := by decide +kernel
abbrev RM_X7_init : Room := { frames := 1, cells := 1, slots := 400, locals := 60 }
def cw_X7_init : Cond := Cond.code yX7_init cX7_init 1 (Option.none : Option FieldType)
theorem hd_X7_init : yX7_init.cls ≠ "java/lang/invoke/MethodHandle" ∧ yX7_init.cls ≠ "java/lang/invoke/VarHandle" ∧ (parseMethodDescriptor yX7_init.desc).map (fun d => d.parameters.length) = some 0 := by decide +kernel
def wp_X7_init (S : Sh) (M : Mm) (u0 : Int) (post : Sh → Mm → Prop) : Prop := wNewA S M 13 400 fun S1 M2 x3 => wPutR S1 M2 u0 7 0 x3 fun M4 => post S1 M4
set_option maxHeartbeats 8000000 in
set_option maxRecDepth 100000 in
theorem c_X7_init (l : Launch) (D : va_G) (G : Gt) (S : Sh) (M : Mm) (hG : ∀ a : Nat, G.1 a = gB G + a) (xl0 : Int) (post : Sh → Mm → Prop) (h : wp_X7_init S M xl0 post) : Met l yX7_init (cw_X7_init :: gw) RM_X7_init (PA D G S M [.ref (adr G xl0)]) (QA D G S 1 post) 1 400 (aG G) := by
  refine Met.ofW (cc := cX7_init) (maxL := 1) (ret := none) (by decide) rfl ?_
  intro p e s m args below meth c s₁ B hml hv
  obtain ⟨rfl, hK, hP, hsz0⟩ := hv
  have hx := B.exec
  have hb := B.bytes
  have hr := B.returns
  have hts := atoms_spec (ws := cw_X7_init :: gw) B.pre
  have hown : s.vm.findClass RX7 = some m.cls := findClass_of_methodNamed B.named
  have hlocks := B.notSynchronized
  have hin : meth.name = "<init>" := (name_of_methodNamed B.named B.method).1
  have hb0 : gB G ≤ s.heap.size := by omega
  have hsz : s.heap.size + 0 = gB G + S.1 := by omega
  have hS : va_S (aG G) s.heap s.heap [] := va_S.rf
  have hl := lv_entry ([.ref (adr G xl0)]) (n := 1) (Nat.le_of_ble_eq_true rfl)
  rw [lg_entry_eq]
  generalize (lg_sl ([.ref (adr G xl0)]) ++ List.replicate (1 - (lg_sl ([.ref (adr G xl0)])).length) Slot.unset).toArray = ls at hl ⊢
  have hl : lv_has ls 1 [(0, .ref (adr G xl0))] := hl
  unfold wp_X7_init at h
  refine lv_aload_n hx hb dX7_init_0 rfl (lv_at hl 0 rfl) ?_
  refine W.objInit hx hb hown (hts _ (List.mem_cons_of_mem _ kw_35)) (hts _ (List.mem_cons_of_mem _ kw_28)) (hts _ (List.mem_cons_of_mem _ kw_29)) rfl (by rw [hml]; exact hl.1) rfl dX7_init_1 (Nat.le_of_ble_eq_true rfl) (Nat.le_of_ble_eq_true rfl) ?_
  refine W.eq (g2 := F0 m 4 ls []) rfl ?_
  refine lv_aload_n hx hb dX7_init_4 rfl (lv_at hl 0 rfl) ?_
  refine lv_sipush (v := 400) hx hb dX7_init_5 (by decide) ?_
  refine r_newaB hx hb (hts _ (List.mem_cons_of_mem _ kw_54)) hK hP hS hG hb0 hsz (N := 400) (by decide) (by decide) (Nat.le_of_ble_eq_true rfl) (Nat.le_of_ble_eq_true rfl) dX7_init_8 h (fun S1 M2 x3 H h e1 hP hS => ?_)
  replace hsz : s.heap.size + 1 = gB G + S1.1 := by omega
  clear e1
  refine r_pRF (C := RX7) (T := TX7) (N := 5) hx hb hts (fun w h => List.mem_cons_of_mem _ (iX7 w h)) hown hK hP tyX7 tyX7_ok nmX7 hS rfl (by decide) rfl 0 (by decide) (hts _ (List.mem_cons_of_mem _ kw_36)) (fun _ h9 => h9) rfl hin rfl (tyX7_ok 0 (by decide)) rfl rfl dX7_init_10 (by decide) h (fun M4 H locs h hP hS => ?_)
  exact r_vretA (S0 := S) hx hb hr hlocks hP hS dX7_init_13 h (by omega)

theorem dX8_init_0 : decode cX8_init 0 = .ok (.aload_n 0, 1) := by decide +kernel
theorem dX8_init_1 : decode cX8_init 1 = .ok (.invokespecial 3, 3) := by decide +kernel
theorem dX8_init_4 : decode cX8_init 4 = .ok (.aload_n 0, 1) := by decide +kernel
theorem dX8_init_5 : decode cX8_init 5 = .ok (.bipush 36, 2) := by decide +kernel
theorem dX8_init_7 : decode cX8_init 7 = .ok (.newarray .int, 2) := by decide +kernel
theorem dX8_init_9 : decode cX8_init 9 = .ok (.putfield 9, 3) := by decide +kernel
theorem dX8_init_12 : decode cX8_init 12 = .ok (.aload_n 0, 1) := by decide +kernel
theorem dX8_init_13 : decode cX8_init 13 = .ok (.bipush 36, 2) := by decide +kernel
theorem dX8_init_15 : decode cX8_init 15 = .ok (.newarray .int, 2) := by decide +kernel
theorem dX8_init_17 : decode cX8_init 17 = .ok (.putfield 15, 3) := by decide +kernel
theorem dX8_init_20 : decode cX8_init 20 = .ok (.aload_n 0, 1) := by decide +kernel
theorem dX8_init_21 : decode cX8_init 21 = .ok (.iconst 5, 1) := by decide +kernel
theorem dX8_init_22 : decode cX8_init 22 = .ok (.newarray .int, 2) := by decide +kernel
theorem dX8_init_24 : decode cX8_init 24 = .ok (.putfield 18, 3) := by decide +kernel
theorem dX8_init_27 : decode cX8_init 27 = .ok (.aload_n 0, 1) := by decide +kernel
theorem dX8_init_28 : decode cX8_init 28 = .ok (.iconst 5, 1) := by decide +kernel
theorem dX8_init_29 : decode cX8_init 29 = .ok (.newarray .int, 2) := by decide +kernel
theorem dX8_init_31 : decode cX8_init 31 = .ok (.putfield 21, 3) := by decide +kernel
theorem dX8_init_34 : decode cX8_init 34 = .ok (.aload_n 0, 1) := by decide +kernel
theorem dX8_init_35 : decode cX8_init 35 = .ok (.iconst 4, 1) := by decide +kernel
theorem dX8_init_36 : decode cX8_init 36 = .ok (.newarray .int, 2) := by decide +kernel
theorem dX8_init_38 : decode cX8_init 38 = .ok (.putfield 24, 3) := by decide +kernel
theorem dX8_init_41 : decode cX8_init 41 = .ok (.aload_n 0, 1) := by decide +kernel
theorem dX8_init_42 : decode cX8_init 42 = .ok (.iconst 4, 1) := by decide +kernel
theorem dX8_init_43 : decode cX8_init 43 = .ok (.newarray .int, 2) := by decide +kernel
theorem dX8_init_45 : decode cX8_init 45 = .ok (.putfield 27, 3) := by decide +kernel
theorem dX8_init_48 : decode cX8_init 48 = .ok (.aload_n 0, 1) := by decide +kernel
theorem dX8_init_49 : decode cX8_init 49 = .ok (.iconst 4, 1) := by decide +kernel
theorem dX8_init_50 : decode cX8_init 50 = .ok (.newarray .int, 2) := by decide +kernel
theorem dX8_init_52 : decode cX8_init 52 = .ok (.putfield 30, 3) := by decide +kernel
theorem dX8_init_55 : decode cX8_init 55 = .ok (.aload_n 0, 1) := by decide +kernel
theorem dX8_init_56 : decode cX8_init 56 = .ok (.bipush 6, 2) := by decide +kernel
theorem dX8_init_58 : decode cX8_init 58 = .ok (.newarray .int, 2) := by decide +kernel
theorem dX8_init_60 : decode cX8_init 60 = .ok (.putfield 33, 3) := by decide +kernel
theorem dX8_init_63 : decode cX8_init 63 = .ok (.aload_n 0, 1) := by decide +kernel
theorem dX8_init_64 : decode cX8_init 64 = .ok (.bipush 6, 2) := by decide +kernel
theorem dX8_init_66 : decode cX8_init 66 = .ok (.newarray .int, 2) := by decide +kernel
theorem dX8_init_68 : decode cX8_init 68 = .ok (.putfield 36, 3) := by decide +kernel
theorem dX8_init_71 : decode cX8_init 71 = .ok (.aload_n 0, 1) := by decide +kernel
theorem dX8_init_72 : decode cX8_init 72 = .ok (.bipush 6, 2) := by decide +kernel
theorem dX8_init_74 : decode cX8_init 74 = .ok (.newarray .int, 2) := by decide +kernel
theorem dX8_init_76 : decode cX8_init 76 = .ok (.putfield 39, 3) := by decide +kernel
theorem dX8_init_79 : decode cX8_init 79 = .ok (.aload_n 0, 1) := by decide +kernel
theorem dX8_init_80 : decode cX8_init 80 = .ok (.bipush 6, 2) := by decide +kernel
theorem dX8_init_82 : decode cX8_init 82 = .ok (.newarray .int, 2) := by decide +kernel
theorem dX8_init_84 : decode cX8_init 84 = .ok (.putfield 42, 3) := by decide +kernel
theorem dX8_init_87 : decode cX8_init 87 = .ok (.return_, 1) := by decide +kernel
abbrev RM_X8_init : Room := { frames := 1, cells := 11, slots := 118, locals := 60 }
def cw_X8_init : Cond := Cond.code yX8_init cX8_init 1 (Option.none : Option FieldType)
theorem hd_X8_init : yX8_init.cls ≠ "java/lang/invoke/MethodHandle" ∧ yX8_init.cls ≠ "java/lang/invoke/VarHandle" ∧ (parseMethodDescriptor yX8_init.desc).map (fun d => d.parameters.length) = some 0 := by decide +kernel
def wp_X8_init (S : Sh) (M : Mm) (u0 : Int) (post : Sh → Mm → Prop) : Prop := wNewA S M 14 36 fun S1 M2 x3 => wPutR S1 M2 u0 8 8 x3 fun M4 => wNewA S1 M4 14 36 fun S5 M6 x7 => wPutR S5 M6 u0 8 9 x7 fun M8 => wNewA S5 M8 14 5 fun S9 M10 x11 => wPutR S9 M10 u0 8 10 x11 fun M12 => wNewA S9 M12 14 5 fun S13 M14 x15 => wPutR S13 M14 u0 8 11 x15 fun M16 => wNewA S13 M16 14 4 fun S17 M18 x19 => wPutR S17 M18 u0 8 12 x19 fun M20 => wNewA S17 M20 14 4 fun S21 M22 x23 => wPutR S21 M22 u0 8 13 x23 fun M24 => wNewA S21 M24 14 4 fun S25 M26 x27 => wPutR S25 M26 u0 8 14 x27 fun M28 => wNewA S25 M28 14 6 fun S29 M30 x31 => wPutR S29 M30 u0 8 15 x31 fun M32 => wNewA S29 M32 14 6 fun S33 M34 x35 => wPutR S33 M34 u0 8 16 x35 fun M36 => wNewA S33 M36 14 6 fun S37 M38 x39 => wPutR S37 M38 u0 8 17 x39 fun M40 => wNewA S37 M40 14 6 fun S41 M42 x43 => wPutR S41 M42 u0 8 18 x43 fun M44 => post S41 M44
set_option maxHeartbeats 8000000 in
set_option maxRecDepth 100000 in
theorem c_X8_init (l : Launch) (D : va_G) (G : Gt) (S : Sh) (M : Mm) (hG : ∀ a : Nat, G.1 a = gB G + a) (xl0 : Int) (post : Sh → Mm → Prop) (h : wp_X8_init S M xl0 post) : Met l yX8_init (cw_X8_init :: gw) RM_X8_init (PA D G S M [.ref (adr G xl0)]) (QA D G S 11 post) 11 118 (aG G) := by
  refine Met.ofW (cc := cX8_init) (maxL := 1) (ret := none) (by decide) rfl ?_
  intro p e s m args below meth c s₁ B hml hv
  obtain ⟨rfl, hK, hP, hsz0⟩ := hv
  have hx := B.exec
  have hb := B.bytes
  have hr := B.returns
  have hts := atoms_spec (ws := cw_X8_init :: gw) B.pre
  have hown : s.vm.findClass RX8 = some m.cls := findClass_of_methodNamed B.named
  have hlocks := B.notSynchronized
  have hin : meth.name = "<init>" := (name_of_methodNamed B.named B.method).1
  have hb0 : gB G ≤ s.heap.size := by omega
  have hsz : s.heap.size + 0 = gB G + S.1 := by omega
  have hS : va_S (aG G) s.heap s.heap [] := va_S.rf
  have hl := lv_entry ([.ref (adr G xl0)]) (n := 1) (Nat.le_of_ble_eq_true rfl)
  rw [lg_entry_eq]
  generalize (lg_sl ([.ref (adr G xl0)]) ++ List.replicate (1 - (lg_sl ([.ref (adr G xl0)])).length) Slot.unset).toArray = ls at hl ⊢
  have hl : lv_has ls 1 [(0, .ref (adr G xl0))] := hl
  unfold wp_X8_init at h
  refine lv_aload_n hx hb dX8_init_0 rfl (lv_at hl 0 rfl) ?_
  refine W.objInit hx hb hown (hts _ (List.mem_cons_of_mem _ kw_66)) (hts _ (List.mem_cons_of_mem _ kw_28)) (hts _ (List.mem_cons_of_mem _ kw_29)) rfl (by rw [hml]; exact hl.1) rfl dX8_init_1 (Nat.le_of_ble_eq_true rfl) (Nat.le_of_ble_eq_true rfl) ?_
  refine W.eq (g2 := F0 m 4 ls []) rfl ?_
  refine lv_aload_n hx hb dX8_init_4 rfl (lv_at hl 0 rfl) ?_
  refine lv_bipush (v := 36) hx hb dX8_init_5 (by decide) ?_
  refine r_newaI hx hb (hts _ (List.mem_cons_of_mem _ kw_169)) hK hP hS hG hb0 hsz (N := 36) (by decide) (by decide) (Nat.le_of_ble_eq_true rfl) (Nat.le_of_ble_eq_true rfl) dX8_init_7 h (fun S1 M2 x3 H h e1 hP hS => ?_)
  replace hsz : s.heap.size + 1 = gB G + S1.1 := by omega
  clear e1
  refine r_pRF (C := RX8) (T := TX8) (N := 19) hx hb hts (fun w h => List.mem_cons_of_mem _ (iX8 w h)) hown hK hP tyX8 tyX8_ok nmX8 hS rfl (by decide) rfl 8 (by decide) (hts _ (List.mem_cons_of_mem _ kw_99)) (fun _ h9 => h9) rfl hin rfl (tyX8_ok 8 (by decide)) rfl rfl dX8_init_9 (by decide) h (fun M4 H locs h hP hS => ?_)
  refine lv_aload_n hx hb dX8_init_12 rfl (lv_at hl 0 rfl) ?_
  refine lv_bipush (v := 36) hx hb dX8_init_13 (by decide) ?_
  refine r_newaI hx hb (hts _ (List.mem_cons_of_mem _ kw_169)) hK hP hS hG hb0 hsz (N := 36) (by decide) (by decide) (Nat.le_of_ble_eq_true rfl) (Nat.le_of_ble_eq_true rfl) dX8_init_15 h (fun S5 M6 x7 H h e1 hP hS => ?_)
  replace hsz : s.heap.size + 2 = gB G + S5.1 := by omega
  clear e1
  refine r_pRF (C := RX8) (T := TX8) (N := 19) hx hb hts (fun w h => List.mem_cons_of_mem _ (iX8 w h)) hown hK hP tyX8 tyX8_ok nmX8 hS rfl (by decide) rfl 9 (by decide) (hts _ (List.mem_cons_of_mem _ kw_100)) (fun _ h9 => h9) rfl hin rfl (tyX8_ok 9 (by decide)) rfl rfl dX8_init_17 (by decide) h (fun M8 H locs h hP hS => ?_)
  refine lv_aload_n hx hb dX8_init_20 rfl (lv_at hl 0 rfl) ?_
  refine lv_iconst (v := 5) hx hb dX8_init_21 (by decide) ?_
  refine r_newaI hx hb (hts _ (List.mem_cons_of_mem _ kw_169)) hK hP hS hG hb0 hsz (N := 5) (by decide) (by decide) (Nat.le_of_ble_eq_true rfl) (Nat.le_of_ble_eq_true rfl) dX8_init_22 h (fun S9 M10 x11 H h e1 hP hS => ?_)
  replace hsz : s.heap.size + 3 = gB G + S9.1 := by omega
  clear e1
  refine r_pRF (C := RX8) (T := TX8) (N := 19) hx hb hts (fun w h => List.mem_cons_of_mem _ (iX8 w h)) hown hK hP tyX8 tyX8_ok nmX8 hS rfl (by decide) rfl 10 (by decide) (hts _ (List.mem_cons_of_mem _ kw_101)) (fun _ h9 => h9) rfl hin rfl (tyX8_ok 10 (by decide)) rfl rfl dX8_init_24 (by decide) h (fun M12 H locs h hP hS => ?_)
  refine lv_aload_n hx hb dX8_init_27 rfl (lv_at hl 0 rfl) ?_
  refine lv_iconst (v := 5) hx hb dX8_init_28 (by decide) ?_
  refine r_newaI hx hb (hts _ (List.mem_cons_of_mem _ kw_169)) hK hP hS hG hb0 hsz (N := 5) (by decide) (by decide) (Nat.le_of_ble_eq_true rfl) (Nat.le_of_ble_eq_true rfl) dX8_init_29 h (fun S13 M14 x15 H h e1 hP hS => ?_)
  replace hsz : s.heap.size + 4 = gB G + S13.1 := by omega
  clear e1
  refine r_pRF (C := RX8) (T := TX8) (N := 19) hx hb hts (fun w h => List.mem_cons_of_mem _ (iX8 w h)) hown hK hP tyX8 tyX8_ok nmX8 hS rfl (by decide) rfl 11 (by decide) (hts _ (List.mem_cons_of_mem _ kw_106)) (fun _ h9 => h9) rfl hin rfl (tyX8_ok 11 (by decide)) rfl rfl dX8_init_31 (by decide) h (fun M16 H locs h hP hS => ?_)
  refine lv_aload_n hx hb dX8_init_34 rfl (lv_at hl 0 rfl) ?_
  refine lv_iconst (v := 4) hx hb dX8_init_35 (by decide) ?_
  refine r_newaI hx hb (hts _ (List.mem_cons_of_mem _ kw_169)) hK hP hS hG hb0 hsz (N := 4) (by decide) (by decide) (Nat.le_of_ble_eq_true rfl) (Nat.le_of_ble_eq_true rfl) dX8_init_36 h (fun S17 M18 x19 H h e1 hP hS => ?_)
  replace hsz : s.heap.size + 5 = gB G + S17.1 := by omega
  clear e1
  refine r_pRF (C := RX8) (T := TX8) (N := 19) hx hb hts (fun w h => List.mem_cons_of_mem _ (iX8 w h)) hown hK hP tyX8 tyX8_ok nmX8 hS rfl (by decide) rfl 12 (by decide) (hts _ (List.mem_cons_of_mem _ kw_111)) (fun _ h9 => h9) rfl hin rfl (tyX8_ok 12 (by decide)) rfl rfl dX8_init_38 (by decide) h (fun M20 H locs h hP hS => ?_)
  refine lv_aload_n hx hb dX8_init_41 rfl (lv_at hl 0 rfl) ?_
  refine lv_iconst (v := 4) hx hb dX8_init_42 (by decide) ?_
  refine r_newaI hx hb (hts _ (List.mem_cons_of_mem _ kw_169)) hK hP hS hG hb0 hsz (N := 4) (by decide) (by decide) (Nat.le_of_ble_eq_true rfl) (Nat.le_of_ble_eq_true rfl) dX8_init_43 h (fun S21 M22 x23 H h e1 hP hS => ?_)
  replace hsz : s.heap.size + 6 = gB G + S21.1 := by omega
  clear e1
  refine r_pRF (C := RX8) (T := TX8) (N := 19) hx hb hts (fun w h => List.mem_cons_of_mem _ (iX8 w h)) hown hK hP tyX8 tyX8_ok nmX8 hS rfl (by decide) rfl 13 (by decide) (hts _ (List.mem_cons_of_mem _ kw_113)) (fun _ h9 => h9) rfl hin rfl (tyX8_ok 13 (by decide)) rfl rfl dX8_init_45 (by decide) h (fun M24 H locs h hP hS => ?_)
  refine lv_aload_n hx hb dX8_init_48 rfl (lv_at hl 0 rfl) ?_
  refine lv_iconst (v := 4) hx hb dX8_init_49 (by decide) ?_
  refine r_newaI hx hb (hts _ (List.mem_cons_of_mem _ kw_169)) hK hP hS hG hb0 hsz (N := 4) (by decide) (by decide) (Nat.le_of_ble_eq_true rfl) (Nat.le_of_ble_eq_true rfl) dX8_init_50 h (fun S25 M26 x27 H h e1 hP hS => ?_)
  replace hsz : s.heap.size + 7 = gB G + S25.1 := by omega
  clear e1
  refine r_pRF (C := RX8) (T := TX8) (N := 19) hx hb hts (fun w h => List.mem_cons_of_mem _ (iX8 w h)) hown hK hP tyX8 tyX8_ok nmX8 hS rfl (by decide) rfl 14 (by decide) (hts _ (List.mem_cons_of_mem _ kw_115)) (fun _ h9 => h9) rfl hin rfl (tyX8_ok 14 (by decide)) rfl rfl dX8_init_52 (by decide) h (fun M28 H locs h hP hS => ?_)
  refine lv_aload_n hx hb dX8_init_55 rfl (lv_at hl 0 rfl) ?_
  refine lv_bipush (v := 6) hx hb dX8_init_56 (by decide) ?_
  refine r_newaI hx hb (hts _ (List.mem_cons_of_mem _ kw_169)) hK hP hS hG hb0 hsz (N := 6) (by decide) (by decide) (Nat.le_of_ble_eq_true rfl) (Nat.le_of_ble_eq_true rfl) dX8_init_58 h (fun S29 M30 x31 H h e1 hP hS => ?_)
  replace hsz : s.heap.size + 8 = gB G + S29.1 := by omega
  clear e1
  refine r_pRF (C := RX8) (T := TX8) (N := 19) hx hb hts (fun w h => List.mem_cons_of_mem _ (iX8 w h)) hown hK hP tyX8 tyX8_ok nmX8 hS rfl (by decide) rfl 15 (by decide) (hts _ (List.mem_cons_of_mem _ kw_117)) (fun _ h9 => h9) rfl hin rfl (tyX8_ok 15 (by decide)) rfl rfl dX8_init_60 (by decide) h (fun M32 H locs h hP hS => ?_)
  refine lv_aload_n hx hb dX8_init_63 rfl (lv_at hl 0 rfl) ?_
  refine lv_bipush (v := 6) hx hb dX8_init_64 (by decide) ?_
  refine r_newaI hx hb (hts _ (List.mem_cons_of_mem _ kw_169)) hK hP hS hG hb0 hsz (N := 6) (by decide) (by decide) (Nat.le_of_ble_eq_true rfl) (Nat.le_of_ble_eq_true rfl) dX8_init_66 h (fun S33 M34 x35 H h e1 hP hS => ?_)
  replace hsz : s.heap.size + 9 = gB G + S33.1 := by omega
  clear e1
  refine r_pRF (C := RX8) (T := TX8) (N := 19) hx hb hts (fun w h => List.mem_cons_of_mem _ (iX8 w h)) hown hK hP tyX8 tyX8_ok nmX8 hS rfl (by decide) rfl 16 (by decide) (hts _ (List.mem_cons_of_mem _ kw_120)) (fun _ h9 => h9) rfl hin rfl (tyX8_ok 16 (by decide)) rfl rfl dX8_init_68 (by decide) h (fun M36 H locs h hP hS => ?_)
  refine lv_aload_n hx hb dX8_init_71 rfl (lv_at hl 0 rfl) ?_
  refine lv_bipush (v := 6) hx hb dX8_init_72 (by decide) ?_
  refine r_newaI hx hb (hts _ (List.mem_cons_of_mem _ kw_169)) hK hP hS hG hb0 hsz (N := 6) (by decide) (by decide) (Nat.le_of_ble_eq_true rfl) (Nat.le_of_ble_eq_true rfl) dX8_init_74 h (fun S37 M38 x39 H h e1 hP hS => ?_)
  replace hsz : s.heap.size + 10 = gB G + S37.1 := by omega
  clear e1
  refine r_pRF (C := RX8) (T := TX8) (N := 19) hx hb hts (fun w h => List.mem_cons_of_mem _ (iX8 w h)) hown hK hP tyX8 tyX8_ok nmX8 hS rfl (by decide) rfl 17 (by decide) (hts _ (List.mem_cons_of_mem _ kw_123)) (fun _ h9 => h9) rfl hin rfl (tyX8_ok 17 (by decide)) rfl rfl dX8_init_76 (by decide) h (fun M40 H locs h hP hS => ?_)
  refine lv_aload_n hx hb dX8_init_79 rfl (lv_at hl 0 rfl) ?_
  refine lv_bipush (v := 6) hx hb dX8_init_80 (by decide) ?_
  refine r_newaI hx hb (hts _ (List.mem_cons_of_mem _ kw_169)) hK hP hS hG hb0 hsz (N := 6) (by decide) (by decide) (Nat.le_of_ble_eq_true rfl) (Nat.le_of_ble_eq_true rfl) dX8_init_82 h (fun S41 M42 x43 H h e1 hP hS => ?_)
  replace hsz : s.heap.size + 11 = gB G + S41.1 := by omega
  clear e1
  refine r_pRF (C := RX8) (T := TX8) (N := 19) hx hb hts (fun w h => List.mem_cons_of_mem _ (iX8 w h)) hown hK hP tyX8 tyX8_ok nmX8 hS rfl (by decide) rfl 18 (by decide) (hts _ (List.mem_cons_of_mem _ kw_126)) (fun _ h9 => h9) rfl hin rfl (tyX8_ok 18 (by decide)) rfl rfl dX8_init_84 (by decide) h (fun M44 H locs h hP hS => ?_)
  exact r_vretA (S0 := S) hx hb hr hlocks hP hS dX8_init_87 h (by omega)

theorem dX5_init_0 : decode cX5_init 0 = .ok (.aload_n 0, 1) := by decide +kernel
theorem dX5_init_1 : decode cX5_init 1 = .ok (.invokespecial 3, 3) := by decide +kernel
theorem dX5_init_4 : decode cX5_init 4 = .ok (.aload_n 0, 1) := by decide +kernel
theorem dX5_init_5 : decode cX5_init 5 = .ok (.iconst 5, 1) := by decide +kernel
theorem dX5_init_6 : decode cX5_init 6 = .ok (.newarray .int, 2) := by decide +kernel
theorem dX5_init_8 : decode cX5_init 8 = .ok (.putfield 9, 3) := by decide +kernel
theorem dX5_init_11 : decode cX5_init 11 = .ok (.aload_n 0, 1) := by decide +kernel
theorem dX5_init_12 : decode cX5_init 12 = .ok (.iconst 5, 1) := by decide +kernel
theorem dX5_init_13 : decode cX5_init 13 = .ok (.newarray .int, 2) := by decide +kernel
theorem dX5_init_15 : decode cX5_init 15 = .ok (.putfield 15, 3) := by decide +kernel
theorem dX5_init_18 : decode cX5_init 18 = .ok (.aload_n 0, 1) := by decide +kernel
theorem dX5_init_19 : decode cX5_init 19 = .ok (.iconst 5, 1) := by decide +kernel
theorem dX5_init_20 : decode cX5_init 20 = .ok (.newarray .int, 2) := by decide +kernel
theorem dX5_init_22 : decode cX5_init 22 = .ok (.putfield 18, 3) := by decide +kernel
theorem dX5_init_25 : decode cX5_init 25 = .ok (.aload_n 0, 1) := by decide +kernel
theorem dX5_init_26 : decode cX5_init 26 = .ok (.iconst 4, 1) := by decide +kernel
theorem dX5_init_27 : decode cX5_init 27 = .ok (.newarray .int, 2) := by decide +kernel
theorem dX5_init_29 : decode cX5_init 29 = .ok (.putfield 21, 3) := by decide +kernel
theorem dX5_init_32 : decode cX5_init 32 = .ok (.aload_n 0, 1) := by decide +kernel
theorem dX5_init_33 : decode cX5_init 33 = .ok (.iconst 4, 1) := by decide +kernel
theorem dX5_init_34 : decode cX5_init 34 = .ok (.newarray .int, 2) := by decide +kernel
theorem dX5_init_36 : decode cX5_init 36 = .ok (.putfield 24, 3) := by decide +kernel
theorem dX5_init_39 : decode cX5_init 39 = .ok (.aload_n 0, 1) := by decide +kernel
theorem dX5_init_40 : decode cX5_init 40 = .ok (.iconst 4, 1) := by decide +kernel
theorem dX5_init_41 : decode cX5_init 41 = .ok (.newarray .int, 2) := by decide +kernel
theorem dX5_init_43 : decode cX5_init 43 = .ok (.putfield 27, 3) := by decide +kernel
theorem dX5_init_46 : decode cX5_init 46 = .ok (.aload_n 0, 1) := by decide +kernel
theorem dX5_init_47 : decode cX5_init 47 = .ok (.bipush 6, 2) := by decide +kernel
theorem dX5_init_49 : decode cX5_init 49 = .ok (.newarray .int, 2) := by decide +kernel
theorem dX5_init_51 : decode cX5_init 51 = .ok (.putfield 30, 3) := by decide +kernel
theorem dX5_init_54 : decode cX5_init 54 = .ok (.aload_n 0, 1) := by decide +kernel
theorem dX5_init_55 : decode cX5_init 55 = .ok (.getfield 21, 3) := by decide +kernel
theorem dX5_init_58 : decode cX5_init 58 = .ok (.iconst (-1), 1) := by decide +kernel
theorem dX5_init_59 : decode cX5_init 59 = .ok (.invokestatic 33, 3) := by decide +kernel
theorem dX5_init_62 : decode cX5_init 62 = .ok (.aload_n 0, 1) := by decide +kernel
theorem dX5_init_63 : decode cX5_init 63 = .ok (.getfield 24, 3) := by decide +kernel
theorem dX5_init_66 : decode cX5_init 66 = .ok (.iconst (-1), 1) := by decide +kernel
theorem dX5_init_67 : decode cX5_init 67 = .ok (.invokestatic 33, 3) := by decide +kernel
theorem dX5_init_70 : decode cX5_init 70 = .ok (.aload_n 0, 1) := by decide +kernel
theorem dX5_init_71 : decode cX5_init 71 = .ok (.getfield 30, 3) := by decide +kernel
theorem dX5_init_74 : decode cX5_init 74 = .ok (.iconst (-1), 1) := by decide +kernel
theorem dX5_init_75 : decode cX5_init 75 = .ok (.invokestatic 33, 3) := by decide +kernel
theorem dX5_init_78 : decode cX5_init 78 = .ok (.return_, 1) := by decide +kernel
abbrev RM_X5_init : Room := { frames := 2, cells := 7, slots := 33, locals := 63 }
def cw_X5_init : Cond := Cond.code yX5_init cX5_init 1 (Option.none : Option FieldType)
theorem hd_X5_init : yX5_init.cls ≠ "java/lang/invoke/MethodHandle" ∧ yX5_init.cls ≠ "java/lang/invoke/VarHandle" ∧ (parseMethodDescriptor yX5_init.desc).map (fun d => d.parameters.length) = some 0 := by decide +kernel
def wp_X5_init (S : Sh) (M : Mm) (u0 : Int) (post : Sh → Mm → Prop) : Prop := wNewA S M 14 5 fun S1 M2 x3 => wPutR S1 M2 u0 5 2 x3 fun M4 => wNewA S1 M4 14 5 fun S5 M6 x7 => wPutR S5 M6 u0 5 3 x7 fun M8 => wNewA S5 M8 14 5 fun S9 M10 x11 => wPutR S9 M10 u0 5 4 x11 fun M12 => wNewA S9 M12 14 4 fun S13 M14 x15 => wPutR S13 M14 u0 5 5 x15 fun M16 => wNewA S13 M16 14 4 fun S17 M18 x19 => wPutR S17 M18 u0 5 6 x19 fun M20 => wNewA S17 M20 14 4 fun S21 M22 x23 => wPutR S21 M22 u0 5 7 x23 fun M24 => wNewA S21 M24 14 6 fun S25 M26 x27 => wPutR S25 M26 u0 5 8 x27 fun M28 => wGetR S25 M28 u0 5 5 fun v29 => wC (-1) fun v31 => wp_J7_fill_53178 S25 M28 v29 v31 <| fun M33 => wGetR S25 M33 u0 5 6 fun v34 => wC (-1) fun v36 => wp_J7_fill_53178 S25 M33 v34 v36 <| fun M38 => wGetR S25 M38 u0 5 8 fun v39 => wC (-1) fun v41 => wp_J7_fill_53178 S25 M38 v39 v41 <| fun M43 => post S25 M43
set_option maxHeartbeats 8000000 in
set_option maxRecDepth 100000 in
theorem c_X5_init (l : Launch) (D : va_G) (G : Gt) (S : Sh) (M : Mm) (hG : ∀ a : Nat, G.1 a = gB G + a) (xl0 : Int) (post : Sh → Mm → Prop) (h : wp_X5_init S M xl0 post) : Met l yX5_init (cw_X5_init :: gw) RM_X5_init (PA D G S M [.ref (adr G xl0)]) (QA D G S 7 post) 7 33 (aG G) := by
  refine Met.ofW (cc := cX5_init) (maxL := 1) (ret := none) (by decide) rfl ?_
  intro p e s m args below meth c s₁ B hml hv
  obtain ⟨rfl, hK, hP, hsz0⟩ := hv
  have hx := B.exec
  have hb := B.bytes
  have hr := B.returns
  have hts := atoms_spec (ws := cw_X5_init :: gw) B.pre
  have hown : s.vm.findClass RX5 = some m.cls := findClass_of_methodNamed B.named
  have hlocks := B.notSynchronized
  have hin : meth.name = "<init>" := (name_of_methodNamed B.named B.method).1
  have hb0 : gB G ≤ s.heap.size := by omega
  have hsz : s.heap.size + 0 = gB G + S.1 := by omega
  have hS : va_S (aG G) s.heap s.heap [] := va_S.rf
  have hl := lv_entry ([.ref (adr G xl0)]) (n := 1) (Nat.le_of_ble_eq_true rfl)
  rw [lg_entry_eq]
  generalize (lg_sl ([.ref (adr G xl0)]) ++ List.replicate (1 - (lg_sl ([.ref (adr G xl0)])).length) Slot.unset).toArray = ls at hl ⊢
  have hl : lv_has ls 1 [(0, .ref (adr G xl0))] := hl
  unfold wp_X5_init at h
  refine lv_aload_n hx hb dX5_init_0 rfl (lv_at hl 0 rfl) ?_
  refine W.objInit hx hb hown (hts _ (List.mem_cons_of_mem _ kw_175)) (hts _ (List.mem_cons_of_mem _ kw_28)) (hts _ (List.mem_cons_of_mem _ kw_29)) rfl (by rw [hml]; exact hl.1) rfl dX5_init_1 (Nat.le_of_ble_eq_true rfl) (Nat.le_of_ble_eq_true rfl) ?_
  refine W.eq (g2 := F0 m 4 ls []) rfl ?_
  refine lv_aload_n hx hb dX5_init_4 rfl (lv_at hl 0 rfl) ?_
  refine lv_iconst (v := 5) hx hb dX5_init_5 (by decide) ?_
  refine r_newaI hx hb (hts _ (List.mem_cons_of_mem _ kw_169)) hK hP hS hG hb0 hsz (N := 5) (by decide) (by decide) (Nat.le_of_ble_eq_true rfl) (Nat.le_of_ble_eq_true rfl) dX5_init_6 h (fun S1 M2 x3 H h e1 hP hS => ?_)
  replace hsz : s.heap.size + 1 = gB G + S1.1 := by omega
  clear e1
  refine r_pRF (C := RX5) (T := TX5) (N := 9) hx hb hts (fun w h => List.mem_cons_of_mem _ (iX5 w h)) hown hK hP tyX5 tyX5_ok nmX5 hS rfl (by decide) rfl 2 (by decide) (hts _ (List.mem_cons_of_mem _ kw_186)) (fun _ h9 => h9) rfl hin rfl (tyX5_ok 2 (by decide)) rfl rfl dX5_init_8 (by decide) h (fun M4 H locs h hP hS => ?_)
  refine lv_aload_n hx hb dX5_init_11 rfl (lv_at hl 0 rfl) ?_
  refine lv_iconst (v := 5) hx hb dX5_init_12 (by decide) ?_
  refine r_newaI hx hb (hts _ (List.mem_cons_of_mem _ kw_169)) hK hP hS hG hb0 hsz (N := 5) (by decide) (by decide) (Nat.le_of_ble_eq_true rfl) (Nat.le_of_ble_eq_true rfl) dX5_init_13 h (fun S5 M6 x7 H h e1 hP hS => ?_)
  replace hsz : s.heap.size + 2 = gB G + S5.1 := by omega
  clear e1
  refine r_pRF (C := RX5) (T := TX5) (N := 9) hx hb hts (fun w h => List.mem_cons_of_mem _ (iX5 w h)) hown hK hP tyX5 tyX5_ok nmX5 hS rfl (by decide) rfl 3 (by decide) (hts _ (List.mem_cons_of_mem _ kw_189)) (fun _ h9 => h9) rfl hin rfl (tyX5_ok 3 (by decide)) rfl rfl dX5_init_15 (by decide) h (fun M8 H locs h hP hS => ?_)
  refine lv_aload_n hx hb dX5_init_18 rfl (lv_at hl 0 rfl) ?_
  refine lv_iconst (v := 5) hx hb dX5_init_19 (by decide) ?_
  refine r_newaI hx hb (hts _ (List.mem_cons_of_mem _ kw_169)) hK hP hS hG hb0 hsz (N := 5) (by decide) (by decide) (Nat.le_of_ble_eq_true rfl) (Nat.le_of_ble_eq_true rfl) dX5_init_20 h (fun S9 M10 x11 H h e1 hP hS => ?_)
  replace hsz : s.heap.size + 3 = gB G + S9.1 := by omega
  clear e1
  refine r_pRF (C := RX5) (T := TX5) (N := 9) hx hb hts (fun w h => List.mem_cons_of_mem _ (iX5 w h)) hown hK hP tyX5 tyX5_ok nmX5 hS rfl (by decide) rfl 4 (by decide) (hts _ (List.mem_cons_of_mem _ kw_193)) (fun _ h9 => h9) rfl hin rfl (tyX5_ok 4 (by decide)) rfl rfl dX5_init_22 (by decide) h (fun M12 H locs h hP hS => ?_)
  refine lv_aload_n hx hb dX5_init_25 rfl (lv_at hl 0 rfl) ?_
  refine lv_iconst (v := 4) hx hb dX5_init_26 (by decide) ?_
  refine r_newaI hx hb (hts _ (List.mem_cons_of_mem _ kw_169)) hK hP hS hG hb0 hsz (N := 4) (by decide) (by decide) (Nat.le_of_ble_eq_true rfl) (Nat.le_of_ble_eq_true rfl) dX5_init_27 h (fun S13 M14 x15 H h e1 hP hS => ?_)
  replace hsz : s.heap.size + 4 = gB G + S13.1 := by omega
  clear e1
  refine r_pRF (C := RX5) (T := TX5) (N := 9) hx hb hts (fun w h => List.mem_cons_of_mem _ (iX5 w h)) hown hK hP tyX5 tyX5_ok nmX5 hS rfl (by decide) rfl 5 (by decide) (hts _ (List.mem_cons_of_mem _ kw_197)) (fun _ h9 => h9) rfl hin rfl (tyX5_ok 5 (by decide)) rfl rfl dX5_init_29 (by decide) h (fun M16 H locs h hP hS => ?_)
  refine lv_aload_n hx hb dX5_init_32 rfl (lv_at hl 0 rfl) ?_
  refine lv_iconst (v := 4) hx hb dX5_init_33 (by decide) ?_
  refine r_newaI hx hb (hts _ (List.mem_cons_of_mem _ kw_169)) hK hP hS hG hb0 hsz (N := 4) (by decide) (by decide) (Nat.le_of_ble_eq_true rfl) (Nat.le_of_ble_eq_true rfl) dX5_init_34 h (fun S17 M18 x19 H h e1 hP hS => ?_)
  replace hsz : s.heap.size + 5 = gB G + S17.1 := by omega
  clear e1
  refine r_pRF (C := RX5) (T := TX5) (N := 9) hx hb hts (fun w h => List.mem_cons_of_mem _ (iX5 w h)) hown hK hP tyX5 tyX5_ok nmX5 hS rfl (by decide) rfl 6 (by decide) (hts _ (List.mem_cons_of_mem _ kw_200)) (fun _ h9 => h9) rfl hin rfl (tyX5_ok 6 (by decide)) rfl rfl dX5_init_36 (by decide) h (fun M20 H locs h hP hS => ?_)
  refine lv_aload_n hx hb dX5_init_39 rfl (lv_at hl 0 rfl) ?_
  refine lv_iconst (v := 4) hx hb dX5_init_40 (by decide) ?_
  refine r_newaI hx hb (hts _ (List.mem_cons_of_mem _ kw_169)) hK hP hS hG hb0 hsz (N := 4) (by decide) (by decide) (Nat.le_of_ble_eq_true rfl) (Nat.le_of_ble_eq_true rfl) dX5_init_41 h (fun S21 M22 x23 H h e1 hP hS => ?_)
  replace hsz : s.heap.size + 6 = gB G + S21.1 := by omega
  clear e1
  refine r_pRF (C := RX5) (T := TX5) (N := 9) hx hb hts (fun w h => List.mem_cons_of_mem _ (iX5 w h)) hown hK hP tyX5 tyX5_ok nmX5 hS rfl (by decide) rfl 7 (by decide) (hts _ (List.mem_cons_of_mem _ kw_203)) (fun _ h9 => h9) rfl hin rfl (tyX5_ok 7 (by decide)) rfl rfl dX5_init_43 (by decide) h (fun M24 H locs h hP hS => ?_)
  refine lv_aload_n hx hb dX5_init_46 rfl (lv_at hl 0 rfl) ?_
  refine lv_bipush (v := 6) hx hb dX5_init_47 (by decide) ?_
  refine r_newaI hx hb (hts _ (List.mem_cons_of_mem _ kw_169)) hK hP hS hG hb0 hsz (N := 6) (by decide) (by decide) (Nat.le_of_ble_eq_true rfl) (Nat.le_of_ble_eq_true rfl) dX5_init_49 h (fun S25 M26 x27 H h e1 hP hS => ?_)
  replace hsz : s.heap.size + 7 = gB G + S25.1 := by omega
  clear e1
  refine r_pRF (C := RX5) (T := TX5) (N := 9) hx hb hts (fun w h => List.mem_cons_of_mem _ (iX5 w h)) hown hK hP tyX5 tyX5_ok nmX5 hS rfl (by decide) rfl 8 (by decide) (hts _ (List.mem_cons_of_mem _ kw_209)) (fun _ h9 => h9) rfl hin rfl (tyX5_ok 8 (by decide)) rfl rfl dX5_init_51 (by decide) h (fun M28 H locs h hP hS => ?_)
  refine lv_aload_n hx hb dX5_init_54 rfl (lv_at hl 0 rfl) ?_
  refine r_getr (C := RX5) (T := TX5) (N := 9) hx hb hts (fun w h => List.mem_cons_of_mem _ (iX5 w h)) hown hK hP rfl (by decide) rfl 5 (by decide) (hts _ (List.mem_cons_of_mem _ kw_197)) (fun _ h9 => h9) dX5_init_55 (by decide) h (fun x30 h => ?_)
  refine r_iconst hx hb dX5_init_58 (by decide) h (fun z32 h => ?_)
  refine q_Sv hx hb hml hown hts hK hP hS (c_J7_fill_53178 l D G _ _ x30 z32 _ h) ⟨callB_of 2 hts (gw_good kw_178) rfl rfl rfl (hts _ (List.mem_cons_of_mem _ kw_6)) (hts _ (List.mem_cons_of_mem _ kw_176)) hd_J7_fill_53178 ⟨Nat.le_of_ble_eq_true rfl, Nat.le_of_ble_eq_true rfl⟩, (hts _ (List.mem_cons_of_mem _ kw_177))⟩ rfl hl.1 rfl (lv_room (Nat.le_of_ble_eq_true rfl)) dX5_init_59 ⟨Nat.le_of_ble_eq_true rfl, Nat.le_of_ble_eq_true rfl⟩ (fun M33 H locs h hP hS => ?_)
  refine lv_aload_n hx hb dX5_init_62 rfl (lv_at hl 0 rfl) ?_
  refine r_getr (C := RX5) (T := TX5) (N := 9) hx hb hts (fun w h => List.mem_cons_of_mem _ (iX5 w h)) hown hK hP rfl (by decide) rfl 6 (by decide) (hts _ (List.mem_cons_of_mem _ kw_200)) (fun _ h9 => h9) dX5_init_63 (by decide) h (fun x35 h => ?_)
  refine r_iconst hx hb dX5_init_66 (by decide) h (fun z37 h => ?_)
  refine q_Sv hx hb hml hown hts hK hP hS (c_J7_fill_53178 l D G _ _ x35 z37 _ h) ⟨callB_of 2 hts (gw_good kw_178) rfl rfl rfl (hts _ (List.mem_cons_of_mem _ kw_6)) (hts _ (List.mem_cons_of_mem _ kw_176)) hd_J7_fill_53178 ⟨Nat.le_of_ble_eq_true rfl, Nat.le_of_ble_eq_true rfl⟩, (hts _ (List.mem_cons_of_mem _ kw_177))⟩ rfl hl.1 rfl (lv_room (Nat.le_of_ble_eq_true rfl)) dX5_init_67 ⟨Nat.le_of_ble_eq_true rfl, Nat.le_of_ble_eq_true rfl⟩ (fun M38 H locs h hP hS => ?_)
  refine lv_aload_n hx hb dX5_init_70 rfl (lv_at hl 0 rfl) ?_
  refine r_getr (C := RX5) (T := TX5) (N := 9) hx hb hts (fun w h => List.mem_cons_of_mem _ (iX5 w h)) hown hK hP rfl (by decide) rfl 8 (by decide) (hts _ (List.mem_cons_of_mem _ kw_209)) (fun _ h9 => h9) dX5_init_71 (by decide) h (fun x40 h => ?_)
  refine r_iconst hx hb dX5_init_74 (by decide) h (fun z42 h => ?_)
  refine q_Sv hx hb hml hown hts hK hP hS (c_J7_fill_53178 l D G _ _ x40 z42 _ h) ⟨callB_of 2 hts (gw_good kw_178) rfl rfl rfl (hts _ (List.mem_cons_of_mem _ kw_6)) (hts _ (List.mem_cons_of_mem _ kw_176)) hd_J7_fill_53178 ⟨Nat.le_of_ble_eq_true rfl, Nat.le_of_ble_eq_true rfl⟩, (hts _ (List.mem_cons_of_mem _ kw_177))⟩ rfl hl.1 rfl (lv_room (Nat.le_of_ble_eq_true rfl)) dX5_init_75 ⟨Nat.le_of_ble_eq_true rfl, Nat.le_of_ble_eq_true rfl⟩ (fun M43 H locs h hP hS => ?_)
  exact r_vretA (S0 := S) hx hb hr hlocks hP hS dX5_init_78 h (by omega)

theorem dX4_init_0 : decode cX4_init 0 = .ok (.aload_n 0, 1) := by decide +kernel
theorem dX4_init_1 : decode cX4_init 1 = .ok (.invokespecial 3, 3) := by decide +kernel
theorem dX4_init_4 : decode cX4_init 4 = .ok (.aload_n 0, 1) := by decide +kernel
theorem dX4_init_5 : decode cX4_init 5 = .ok (.new 9, 3) := by decide +kernel
theorem dX4_init_8 : decode cX4_init 8 = .ok (.dup, 1) := by decide +kernel
theorem dX4_init_9 : decode cX4_init 9 = .ok (.invokespecial 11, 3) := by decide +kernel
theorem dX4_init_12 : decode cX4_init 12 = .ok (.putfield 12, 3) := by decide +kernel
theorem dX4_init_15 : decode cX4_init 15 = .ok (.aload_n 0, 1) := by decide +kernel
theorem dX4_init_16 : decode cX4_init 16 = .ok (.new 18, 3) := by decide +kernel
theorem dX4_init_19 : decode cX4_init 19 = .ok (.dup, 1) := by decide +kernel
theorem dX4_init_20 : decode cX4_init 20 = .ok (.invokespecial 20, 3) := by decide +kernel
theorem dX4_init_23 : decode cX4_init 23 = .ok (.putfield 21, 3) := by decide +kernel
theorem dX4_init_26 : decode cX4_init 26 = .ok (.aload_n 0, 1) := by decide +kernel
theorem dX4_init_27 : decode cX4_init 27 = .ok (.iconst (-1), 1) := by decide +kernel
theorem dX4_init_28 : decode cX4_init 28 = .ok (.putfield 25, 3) := by decide +kernel
theorem dX4_init_31 : decode cX4_init 31 = .ok (.aload_n 0, 1) := by decide +kernel
theorem dX4_init_32 : decode cX4_init 32 = .ok (.bipush 10, 2) := by decide +kernel
theorem dX4_init_34 : decode cX4_init 34 = .ok (.newarray .int, 2) := by decide +kernel
theorem dX4_init_36 : decode cX4_init 36 = .ok (.putfield 29, 3) := by decide +kernel
theorem dX4_init_39 : decode cX4_init 39 = .ok (.aload_n 0, 1) := by decide +kernel
theorem dX4_init_40 : decode cX4_init 40 = .ok (.bipush 10, 2) := by decide +kernel
theorem dX4_init_42 : decode cX4_init 42 = .ok (.newarray .int, 2) := by decide +kernel
theorem dX4_init_44 : decode cX4_init 44 = .ok (.putfield 33, 3) := by decide +kernel
theorem dX4_init_47 : decode cX4_init 47 = .ok (.aload_n 0, 1) := by decide +kernel
theorem dX4_init_48 : decode cX4_init 48 = .ok (.bipush 10, 2) := by decide +kernel
theorem dX4_init_50 : decode cX4_init 50 = .ok (.newarray .int, 2) := by decide +kernel
theorem dX4_init_52 : decode cX4_init 52 = .ok (.putfield 36, 3) := by decide +kernel
theorem dX4_init_55 : decode cX4_init 55 = .ok (.aload_n 0, 1) := by decide +kernel
theorem dX4_init_56 : decode cX4_init 56 = .ok (.bipush 10, 2) := by decide +kernel
theorem dX4_init_58 : decode cX4_init 58 = .ok (.newarray .int, 2) := by decide +kernel
theorem dX4_init_60 : decode cX4_init 60 = .ok (.putfield 39, 3) := by decide +kernel
theorem dX4_init_63 : decode cX4_init 63 = .ok (.return_, 1) := by decide +kernel
abbrev RM_X4_init : Room := { frames := 3, cells := 24, slots := 219, locals := 83 }
def cw_X4_init : Cond := Cond.code yX4_init cX4_init 1 (Option.none : Option FieldType)
theorem hd_X4_init : yX4_init.cls ≠ "java/lang/invoke/MethodHandle" ∧ yX4_init.cls ≠ "java/lang/invoke/VarHandle" ∧ (parseMethodDescriptor yX4_init.desc).map (fun d => d.parameters.length) = some 0 := by decide +kernel
def wp_X4_init (S : Sh) (M : Mm) (u0 : Int) (post : Sh → Mm → Prop) : Prop := wNew S M 8 fun S1 M2 x3 => isK S1 x3 8 ∧ (wp_X8_init S1 M2 x3 <| fun S4 M5 => wPutR S4 M5 u0 4 0 x3 fun M6 => wNew S4 M6 5 fun S7 M8 x9 => isK S7 x9 5 ∧ (wp_X5_init S7 M8 x9 <| fun S10 M11 => wPutR S10 M11 u0 4 1 x9 fun M12 => wC (-1) fun v13 => wPut S10 M12 u0 4 2 v13 fun M15 => wNewA S10 M15 14 10 fun S16 M17 x18 => wPutR S16 M17 u0 4 5 x18 fun M19 => wNewA S16 M19 14 10 fun S20 M21 x22 => wPutR S20 M21 u0 4 6 x22 fun M23 => wNewA S20 M23 14 10 fun S24 M25 x26 => wPutR S24 M25 u0 4 7 x26 fun M27 => wNewA S24 M27 14 10 fun S28 M29 x30 => wPutR S28 M29 u0 4 8 x30 fun M31 => post S28 M31))
set_option maxHeartbeats 8000000 in
set_option maxRecDepth 100000 in
theorem c_X4_init (l : Launch) (D : va_G) (G : Gt) (S : Sh) (M : Mm) (hG : ∀ a : Nat, G.1 a = gB G + a) (xl0 : Int) (post : Sh → Mm → Prop) (h : wp_X4_init S M xl0 post) : Met l yX4_init (cw_X4_init :: gw) RM_X4_init (PA D G S M [.ref (adr G xl0)]) (QA D G S 24 post) 24 219 (aG G) := by
  refine Met.ofW (cc := cX4_init) (maxL := 1) (ret := none) (by decide) rfl ?_
  intro p e s m args below meth c s₁ B hml hv
  obtain ⟨rfl, hK, hP, hsz0⟩ := hv
  have hx := B.exec
  have hb := B.bytes
  have hr := B.returns
  have hts := atoms_spec (ws := cw_X4_init :: gw) B.pre
  have hown : s.vm.findClass RX4 = some m.cls := findClass_of_methodNamed B.named
  have hlocks := B.notSynchronized
  have hin : meth.name = "<init>" := (name_of_methodNamed B.named B.method).1
  have hb0 : gB G ≤ s.heap.size := by omega
  have hsz : s.heap.size + 0 = gB G + S.1 := by omega
  have hS : va_S (aG G) s.heap s.heap [] := va_S.rf
  have hl := lv_entry ([.ref (adr G xl0)]) (n := 1) (Nat.le_of_ble_eq_true rfl)
  rw [lg_entry_eq]
  generalize (lg_sl ([.ref (adr G xl0)]) ++ List.replicate (1 - (lg_sl ([.ref (adr G xl0)])).length) Slot.unset).toArray = ls at hl ⊢
  have hl : lv_has ls 1 [(0, .ref (adr G xl0))] := hl
  unfold wp_X4_init at h
  refine lv_aload_n hx hb dX4_init_0 rfl (lv_at hl 0 rfl) ?_
  refine W.objInit hx hb hown (hts _ (List.mem_cons_of_mem _ kw_60)) (hts _ (List.mem_cons_of_mem _ kw_28)) (hts _ (List.mem_cons_of_mem _ kw_29)) rfl (by rw [hml]; exact hl.1) rfl dX4_init_1 (Nat.le_of_ble_eq_true rfl) (Nat.le_of_ble_eq_true rfl) ?_
  refine W.eq (g2 := F0 m 4 ls []) rfl ?_
  refine lv_aload_n hx hb dX4_init_4 rfl (lv_at hl 0 rfl) ?_
  refine r_new (C := RX8) (T := TX8) (N := 19) hx hb hts (fun w h => List.mem_cons_of_mem _ (iX8 w h)) tyX8 tyX8_ok hown (hts _ (List.mem_cons_of_mem _ kw_61)) (hts _ (List.mem_cons_of_mem _ kw_62)) (hts _ (List.mem_cons_of_mem _ kw_4)) hK hP hS hG hb0 hsz rfl (by decide) rfl df_8 (Nat.le_of_ble_eq_true rfl) (Nat.le_of_ble_eq_true rfl) dX4_init_5 h (fun S1 M2 x3 H h e1 hP hS => ?_)
  replace hsz : s.heap.size + 1 = gB G + S1.1 := by omega
  clear e1
  refine lv_dup hx hb dX4_init_8 rfl ?_
  refine q_I hx hb hml hown hts hK hP hS hG hb0 hsz h.1 (c_X8_init l D G _ _ hG x3 _ h.2) ⟨callB_of 0 hts (gw_good kw_65) rfl rfl rfl (hts _ (List.mem_cons_of_mem _ kw_4)) (hts _ (List.mem_cons_of_mem _ kw_63)) hd_X8_init ⟨Nat.le_of_ble_eq_true rfl, Nat.le_of_ble_eq_true rfl⟩, rfl, (hts _ (List.mem_cons_of_mem _ kw_64))⟩ rfl hl.1 rfl (lv_room (Nat.le_of_ble_eq_true rfl)) dX4_init_9 ⟨Nat.le_of_ble_eq_true rfl, Nat.le_of_ble_eq_true rfl⟩ (fun S4 M5 H locs h e1 hP hS => ?_)
  replace hsz : s.heap.size + 12 = gB G + S4.1 := by omega
  clear e1
  refine r_pRF (C := RX4) (T := TX4) (N := 10) hx hb hts (fun w h => List.mem_cons_of_mem _ (iX4 w h)) hown hK hP tyX4 tyX4_ok nmX4 hS rfl (by decide) rfl 0 (by decide) (hts _ (List.mem_cons_of_mem _ kw_231)) (fun _ h9 => h9) rfl hin rfl (tyX4_ok 0 (by decide)) rfl rfl dX4_init_12 (by decide) h (fun M6 H locs h hP hS => ?_)
  refine lv_aload_n hx hb dX4_init_15 rfl (lv_at hl 0 rfl) ?_
  refine r_new (C := RX5) (T := TX5) (N := 9) hx hb hts (fun w h => List.mem_cons_of_mem _ (iX5 w h)) tyX5 tyX5_ok hown (hts _ (List.mem_cons_of_mem _ kw_170)) (hts _ (List.mem_cons_of_mem _ kw_171)) (hts _ (List.mem_cons_of_mem _ kw_5)) hK hP hS hG hb0 hsz rfl (by decide) rfl df_5 (Nat.le_of_ble_eq_true rfl) (Nat.le_of_ble_eq_true rfl) dX4_init_16 h (fun S7 M8 x9 H h e1 hP hS => ?_)
  replace hsz : s.heap.size + 13 = gB G + S7.1 := by omega
  clear e1
  refine lv_dup hx hb dX4_init_19 rfl ?_
  refine q_I hx hb hml hown hts hK hP hS hG hb0 hsz h.1 (c_X5_init l D G _ _ hG x9 _ h.2) ⟨callB_of 0 hts (gw_good kw_174) rfl rfl rfl (hts _ (List.mem_cons_of_mem _ kw_5)) (hts _ (List.mem_cons_of_mem _ kw_172)) hd_X5_init ⟨Nat.le_of_ble_eq_true rfl, Nat.le_of_ble_eq_true rfl⟩, rfl, (hts _ (List.mem_cons_of_mem _ kw_173))⟩ rfl hl.1 rfl (lv_room (Nat.le_of_ble_eq_true rfl)) dX4_init_20 ⟨Nat.le_of_ble_eq_true rfl, Nat.le_of_ble_eq_true rfl⟩ (fun S10 M11 H locs h e1 hP hS => ?_)
  replace hsz : s.heap.size + 20 = gB G + S10.1 := by omega
  clear e1
  refine r_pRF (C := RX4) (T := TX4) (N := 10) hx hb hts (fun w h => List.mem_cons_of_mem _ (iX4 w h)) hown hK hP tyX4 tyX4_ok nmX4 hS rfl (by decide) rfl 1 (by decide) (hts _ (List.mem_cons_of_mem _ kw_234)) (fun _ h9 => h9) rfl hin rfl (tyX4_ok 1 (by decide)) rfl rfl dX4_init_23 (by decide) h (fun M12 H locs h hP hS => ?_)
  refine lv_aload_n hx hb dX4_init_26 rfl (lv_at hl 0 rfl) ?_
  refine r_iconst hx hb dX4_init_27 (by decide) h (fun z14 h => ?_)
  refine r_puti (C := RX4) (T := TX4) (N := 10) hx hb hts (fun w h => List.mem_cons_of_mem _ (iX4 w h)) hown hK hP tyX4 tyX4_ok nmX4 hS rfl (by decide) rfl 2 (by decide) (hts _ (List.mem_cons_of_mem _ kw_237)) (fun _ h9 => h9) rfl (tyX4_ok 2 (by decide)) rfl rfl dX4_init_28 (by decide) h (fun M15 H locs h hP hS => ?_)
  refine lv_aload_n hx hb dX4_init_31 rfl (lv_at hl 0 rfl) ?_
  refine lv_bipush (v := 10) hx hb dX4_init_32 (by decide) ?_
  refine r_newaI hx hb (hts _ (List.mem_cons_of_mem _ kw_169)) hK hP hS hG hb0 hsz (N := 10) (by decide) (by decide) (Nat.le_of_ble_eq_true rfl) (Nat.le_of_ble_eq_true rfl) dX4_init_34 h (fun S16 M17 x18 H h e1 hP hS => ?_)
  replace hsz : s.heap.size + 21 = gB G + S16.1 := by omega
  clear e1
  refine r_pRF (C := RX4) (T := TX4) (N := 10) hx hb hts (fun w h => List.mem_cons_of_mem _ (iX4 w h)) hown hK hP tyX4 tyX4_ok nmX4 hS rfl (by decide) rfl 5 (by decide) (hts _ (List.mem_cons_of_mem _ kw_244)) (fun _ h9 => h9) rfl hin rfl (tyX4_ok 5 (by decide)) rfl rfl dX4_init_36 (by decide) h (fun M19 H locs h hP hS => ?_)
  refine lv_aload_n hx hb dX4_init_39 rfl (lv_at hl 0 rfl) ?_
  refine lv_bipush (v := 10) hx hb dX4_init_40 (by decide) ?_
  refine r_newaI hx hb (hts _ (List.mem_cons_of_mem _ kw_169)) hK hP hS hG hb0 hsz (N := 10) (by decide) (by decide) (Nat.le_of_ble_eq_true rfl) (Nat.le_of_ble_eq_true rfl) dX4_init_42 h (fun S20 M21 x22 H h e1 hP hS => ?_)
  replace hsz : s.heap.size + 22 = gB G + S20.1 := by omega
  clear e1
  refine r_pRF (C := RX4) (T := TX4) (N := 10) hx hb hts (fun w h => List.mem_cons_of_mem _ (iX4 w h)) hown hK hP tyX4 tyX4_ok nmX4 hS rfl (by decide) rfl 6 (by decide) (hts _ (List.mem_cons_of_mem _ kw_246)) (fun _ h9 => h9) rfl hin rfl (tyX4_ok 6 (by decide)) rfl rfl dX4_init_44 (by decide) h (fun M23 H locs h hP hS => ?_)
  refine lv_aload_n hx hb dX4_init_47 rfl (lv_at hl 0 rfl) ?_
  refine lv_bipush (v := 10) hx hb dX4_init_48 (by decide) ?_
  refine r_newaI hx hb (hts _ (List.mem_cons_of_mem _ kw_169)) hK hP hS hG hb0 hsz (N := 10) (by decide) (by decide) (Nat.le_of_ble_eq_true rfl) (Nat.le_of_ble_eq_true rfl) dX4_init_50 h (fun S24 M25 x26 H h e1 hP hS => ?_)
  replace hsz : s.heap.size + 23 = gB G + S24.1 := by omega
  clear e1
  refine r_pRF (C := RX4) (T := TX4) (N := 10) hx hb hts (fun w h => List.mem_cons_of_mem _ (iX4 w h)) hown hK hP tyX4 tyX4_ok nmX4 hS rfl (by decide) rfl 7 (by decide) (hts _ (List.mem_cons_of_mem _ kw_248)) (fun _ h9 => h9) rfl hin rfl (tyX4_ok 7 (by decide)) rfl rfl dX4_init_52 (by decide) h (fun M27 H locs h hP hS => ?_)
  refine lv_aload_n hx hb dX4_init_55 rfl (lv_at hl 0 rfl) ?_
  refine lv_bipush (v := 10) hx hb dX4_init_56 (by decide) ?_
  refine r_newaI hx hb (hts _ (List.mem_cons_of_mem _ kw_169)) hK hP hS hG hb0 hsz (N := 10) (by decide) (by decide) (Nat.le_of_ble_eq_true rfl) (Nat.le_of_ble_eq_true rfl) dX4_init_58 h (fun S28 M29 x30 H h e1 hP hS => ?_)
  replace hsz : s.heap.size + 24 = gB G + S28.1 := by omega
  clear e1
  refine r_pRF (C := RX4) (T := TX4) (N := 10) hx hb hts (fun w h => List.mem_cons_of_mem _ (iX4 w h)) hown hK hP tyX4 tyX4_ok nmX4 hS rfl (by decide) rfl 8 (by decide) (hts _ (List.mem_cons_of_mem _ kw_250)) (fun _ h9 => h9) rfl hin rfl (tyX4_ok 8 (by decide)) rfl rfl dX4_init_60 (by decide) h (fun M31 H locs h hP hS => ?_)
  exact r_vretA (S0 := S) hx hb hr hlocks hP hS dX4_init_63 h (by omega)

theorem dX0_init_0 : decode cX0_init 0 = .ok (.aload_n 0, 1) := by decide +kernel
theorem dX0_init_1 : decode cX0_init 1 = .ok (.invokespecial 3, 3) := by decide +kernel
theorem dX0_init_4 : decode cX0_init 4 = .ok (.aload_n 0, 1) := by decide +kernel
theorem dX0_init_5 : decode cX0_init 5 = .ok (.new 9, 3) := by decide +kernel
theorem dX0_init_8 : decode cX0_init 8 = .ok (.dup, 1) := by decide +kernel
theorem dX0_init_9 : decode cX0_init 9 = .ok (.invokespecial 11, 3) := by decide +kernel
theorem dX0_init_12 : decode cX0_init 12 = .ok (.putfield 12, 3) := by decide +kernel
theorem dX0_init_15 : decode cX0_init 15 = .ok (.aload_n 0, 1) := by decide +kernel
theorem dX0_init_16 : decode cX0_init 16 = .ok (.new 18, 3) := by decide +kernel
theorem dX0_init_19 : decode cX0_init 19 = .ok (.dup, 1) := by decide +kernel
theorem dX0_init_20 : decode cX0_init 20 = .ok (.invokespecial 20, 3) := by decide +kernel
theorem dX0_init_23 : decode cX0_init 23 = .ok (.putfield 21, 3) := by decide +kernel
theorem dX0_init_26 : decode cX0_init 26 = .ok (.aload_n 0, 1) := by decide +kernel
theorem dX0_init_27 : decode cX0_init 27 = .ok (.aload_n 1, 1) := by decide +kernel
theorem dX0_init_28 : decode cX0_init 28 = .ok (.putfield 25, 3) := by decide +kernel
theorem dX0_init_31 : decode cX0_init 31 = .ok (.return_, 1) := by decide +kernel
abbrev RM_X0_init : Room := { frames := 3, cells := 20, slots := 179, locals := 83 }
def cw_X0_init : Cond := Cond.code yX0_init cX0_init 2 (Option.none : Option FieldType)
theorem hd_X0_init : yX0_init.cls ≠ "java/lang/invoke/MethodHandle" ∧ yX0_init.cls ≠ "java/lang/invoke/VarHandle" ∧ (parseMethodDescriptor yX0_init.desc).map (fun d => d.parameters.length) = some 1 := by decide +kernel
def wp_X0_init (S : Sh) (M : Mm) (u0 : Int) (u1 : Int) (post : Sh → Mm → Prop) : Prop := wNew S M 8 fun S1 M2 x3 => isK S1 x3 8 ∧ (wp_X8_init S1 M2 x3 <| fun S4 M5 => wPutR S4 M5 u0 0 1 x3 fun M6 => wNew S4 M6 5 fun S7 M8 x9 => isK S7 x9 5 ∧ (wp_X5_init S7 M8 x9 <| fun S10 M11 => wPutR S10 M11 u0 0 2 x9 fun M12 => wPutR S10 M12 u0 0 0 u1 fun M13 => post S10 M13))
set_option maxHeartbeats 8000000 in
set_option maxRecDepth 100000 in
theorem c_X0_init (l : Launch) (D : va_G) (G : Gt) (S : Sh) (M : Mm) (hG : ∀ a : Nat, G.1 a = gB G + a) (xl0 : Int) (xl1 : Int) (post : Sh → Mm → Prop) (h : wp_X0_init S M xl0 xl1 post) : Met l yX0_init (cw_X0_init :: gw) RM_X0_init (PA D G S M [.ref (adr G xl0), .ref (adr G xl1)]) (QA D G S 20 post) 20 179 (aG G) := by
  refine Met.ofW (cc := cX0_init) (maxL := 2) (ret := none) (by decide) rfl ?_
  intro p e s m args below meth c s₁ B hml hv
  obtain ⟨rfl, hK, hP, hsz0⟩ := hv
  have hx := B.exec
  have hb := B.bytes
  have hr := B.returns
  have hts := atoms_spec (ws := cw_X0_init :: gw) B.pre
  have hown : s.vm.findClass RX0 = some m.cls := findClass_of_methodNamed B.named
  have hlocks := B.notSynchronized
  have hin : meth.name = "<init>" := (name_of_methodNamed B.named B.method).1
  have hb0 : gB G ≤ s.heap.size := by omega
  have hsz : s.heap.size + 0 = gB G + S.1 := by omega
  have hS : va_S (aG G) s.heap s.heap [] := va_S.rf
  have hl := lv_entry ([.ref (adr G xl0), .ref (adr G xl1)]) (n := 2) (Nat.le_of_ble_eq_true rfl)
  rw [lg_entry_eq]
  generalize (lg_sl ([.ref (adr G xl0), .ref (adr G xl1)]) ++ List.replicate (2 - (lg_sl ([.ref (adr G xl0), .ref (adr G xl1)])).length) Slot.unset).toArray = ls at hl ⊢
  have hl : lv_has ls 2 [(0, .ref (adr G xl0)), (1, .ref (adr G xl1))] := hl
  unfold wp_X0_init at h
  refine lv_aload_n hx hb dX0_init_0 rfl (lv_at hl 0 rfl) ?_
  refine W.objInit hx hb hown (hts _ (List.mem_cons_of_mem _ kw_284)) (hts _ (List.mem_cons_of_mem _ kw_28)) (hts _ (List.mem_cons_of_mem _ kw_29)) rfl (by rw [hml]; exact hl.1) rfl dX0_init_1 (Nat.le_of_ble_eq_true rfl) (Nat.le_of_ble_eq_true rfl) ?_
  refine W.eq (g2 := F0 m 4 ls []) rfl ?_
  refine lv_aload_n hx hb dX0_init_4 rfl (lv_at hl 0 rfl) ?_
  refine r_new (C := RX8) (T := TX8) (N := 19) hx hb hts (fun w h => List.mem_cons_of_mem _ (iX8 w h)) tyX8 tyX8_ok hown (hts _ (List.mem_cons_of_mem _ kw_285)) (hts _ (List.mem_cons_of_mem _ kw_62)) (hts _ (List.mem_cons_of_mem _ kw_4)) hK hP hS hG hb0 hsz rfl (by decide) rfl df_8 (Nat.le_of_ble_eq_true rfl) (Nat.le_of_ble_eq_true rfl) dX0_init_5 h (fun S1 M2 x3 H h e1 hP hS => ?_)
  replace hsz : s.heap.size + 1 = gB G + S1.1 := by omega
  clear e1
  refine lv_dup hx hb dX0_init_8 rfl ?_
  refine q_I hx hb hml hown hts hK hP hS hG hb0 hsz h.1 (c_X8_init l D G _ _ hG x3 _ h.2) ⟨callB_of 0 hts (gw_good kw_65) rfl rfl rfl (hts _ (List.mem_cons_of_mem _ kw_4)) (hts _ (List.mem_cons_of_mem _ kw_286)) hd_X8_init ⟨Nat.le_of_ble_eq_true rfl, Nat.le_of_ble_eq_true rfl⟩, rfl, (hts _ (List.mem_cons_of_mem _ kw_64))⟩ rfl hl.1 rfl (lv_room (Nat.le_of_ble_eq_true rfl)) dX0_init_9 ⟨Nat.le_of_ble_eq_true rfl, Nat.le_of_ble_eq_true rfl⟩ (fun S4 M5 H locs h e1 hP hS => ?_)
  replace hsz : s.heap.size + 12 = gB G + S4.1 := by omega
  clear e1
  refine r_pRF (C := RX0) (T := TX0) (N := 3) hx hb hts (fun w h => List.mem_cons_of_mem _ (iX0 w h)) hown hK hP tyX0 tyX0_ok nmX0 hS rfl (by decide) rfl 1 (by decide) (hts _ (List.mem_cons_of_mem _ kw_290)) (fun _ h9 => h9) rfl hin rfl (tyX0_ok 1 (by decide)) rfl rfl dX0_init_12 (by decide) h (fun M6 H locs h hP hS => ?_)
  refine lv_aload_n hx hb dX0_init_15 rfl (lv_at hl 0 rfl) ?_
  refine r_new (C := RX5) (T := TX5) (N := 9) hx hb hts (fun w h => List.mem_cons_of_mem _ (iX5 w h)) tyX5 tyX5_ok hown (hts _ (List.mem_cons_of_mem _ kw_287)) (hts _ (List.mem_cons_of_mem _ kw_171)) (hts _ (List.mem_cons_of_mem _ kw_5)) hK hP hS hG hb0 hsz rfl (by decide) rfl df_5 (Nat.le_of_ble_eq_true rfl) (Nat.le_of_ble_eq_true rfl) dX0_init_16 h (fun S7 M8 x9 H h e1 hP hS => ?_)
  replace hsz : s.heap.size + 13 = gB G + S7.1 := by omega
  clear e1
  refine lv_dup hx hb dX0_init_19 rfl ?_
  refine q_I hx hb hml hown hts hK hP hS hG hb0 hsz h.1 (c_X5_init l D G _ _ hG x9 _ h.2) ⟨callB_of 0 hts (gw_good kw_174) rfl rfl rfl (hts _ (List.mem_cons_of_mem _ kw_5)) (hts _ (List.mem_cons_of_mem _ kw_288)) hd_X5_init ⟨Nat.le_of_ble_eq_true rfl, Nat.le_of_ble_eq_true rfl⟩, rfl, (hts _ (List.mem_cons_of_mem _ kw_173))⟩ rfl hl.1 rfl (lv_room (Nat.le_of_ble_eq_true rfl)) dX0_init_20 ⟨Nat.le_of_ble_eq_true rfl, Nat.le_of_ble_eq_true rfl⟩ (fun S10 M11 H locs h e1 hP hS => ?_)
  replace hsz : s.heap.size + 20 = gB G + S10.1 := by omega
  clear e1
  refine r_pRF (C := RX0) (T := TX0) (N := 3) hx hb hts (fun w h => List.mem_cons_of_mem _ (iX0 w h)) hown hK hP tyX0 tyX0_ok nmX0 hS rfl (by decide) rfl 2 (by decide) (hts _ (List.mem_cons_of_mem _ kw_292)) (fun _ h9 => h9) rfl hin rfl (tyX0_ok 2 (by decide)) rfl rfl dX0_init_23 (by decide) h (fun M12 H locs h hP hS => ?_)
  refine lv_aload_n hx hb dX0_init_26 rfl (lv_at hl 0 rfl) ?_
  refine lv_aload_n hx hb dX0_init_27 rfl (lv_at hl 1 rfl) ?_
  refine r_pRF (C := RX0) (T := TX0) (N := 3) hx hb hts (fun w h => List.mem_cons_of_mem _ (iX0 w h)) hown hK hP tyX0 tyX0_ok nmX0 hS rfl (by decide) rfl 0 (by decide) (hts _ (List.mem_cons_of_mem _ kw_289)) (fun _ h9 => h9) rfl hin rfl (tyX0_ok 0 (by decide)) rfl rfl dX0_init_28 (by decide) h (fun M13 H locs h hP hS => ?_)
  exact r_vretA (S0 := S) hx hb hr hlocks hP hS dX0_init_31 h (by omega)

theorem dX3_init_0 : decode cX3_init 0 = .ok (.aload_n 0, 1) := by decide +kernel
theorem dX3_init_1 : decode cX3_init 1 = .ok (.invokespecial 3, 3) := by decide +kernel
theorem dX3_init_4 : decode cX3_init 4 = .ok (.aload_n 0, 1) := by decide +kernel
theorem dX3_init_5 : decode cX3_init 5 = .ok (.sipush 400, 3) := by decide +kernel
theorem dX3_init_8 : decode cX3_init 8 = .ok (.newarray .int, 2) := by decide +kernel
theorem dX3_init_10 : decode cX3_init 10 = .ok (.putfield 9, 3) := by decide +kernel
theorem dX3_init_13 : decode cX3_init 13 = .ok (.aload_n 0, 1) := by decide +kernel
theorem dX3_init_14 : decode cX3_init 14 = .ok (.sipush 400, 3) := by decide +kernel
theorem dX3_init_17 : decode cX3_init 17 = .ok (.newarray .int, 2) := by decide +kernel
theorem dX3_init_19 : decode cX3_init 19 = .ok (.putfield 15, 3) := by decide +kernel
theorem dX3_init_22 : decode cX3_init 22 = .ok (.aload_n 0, 1) := by decide +kernel
theorem dX3_init_23 : decode cX3_init 23 = .ok (.aload_n 1, 1) := by decide +kernel
theorem dX3_init_24 : decode cX3_init 24 = .ok (.putfield 18, 3) := by decide +kernel
theorem dX3_init_27 : decode cX3_init 27 = .ok (.return_, 1) := by decide +kernel
abbrev RM_X3_init : Room := { frames := 1, cells := 2, slots := 800, locals := 60 }
def cw_X3_init : Cond := Cond.code yX3_init cX3_init 2 (Option.none : Option FieldType)
theorem hd_X3_init : yX3_init.cls ≠ "java/lang/invoke/MethodHandle" ∧ yX3_init.cls ≠ "java/lang/invoke/VarHandle" ∧ (parseMethodDescriptor yX3_init.desc).map (fun d => d.parameters.length) = some 1 := by decide +kernel
def wp_X3_init (S : Sh) (M : Mm) (u0 : Int) (u1 : Int) (post : Sh → Mm → Prop) : Prop := wNewA S M 14 400 fun S1 M2 x3 => wPutR S1 M2 u0 3 1 x3 fun M4 => wNewA S1 M4 14 400 fun S5 M6 x7 => wPutR S5 M6 u0 3 4 x7 fun M8 => wPutR S5 M8 u0 3 0 u1 fun M9 => post S5 M9
set_option maxHeartbeats 8000000 in
set_option maxRecDepth 100000 in
theorem c_X3_init (l : Launch) (D : va_G) (G : Gt) (S : Sh) (M : Mm) (hG : ∀ a : Nat, G.1 a = gB G + a) (xl0 : Int) (xl1 : Int) (post : Sh → Mm → Prop) (h : wp_X3_init S M xl0 xl1 post) : Met l yX3_init (cw_X3_init :: gw) RM_X3_init (PA D G S M [.ref (adr G xl0), .ref (adr G xl1)]) (QA D G S 2 post) 2 800 (aG G) := by
  refine Met.ofW (cc := cX3_init) (maxL := 2) (ret := none) (by decide) rfl ?_
  intro p e s m args below meth c s₁ B hml hv
  obtain ⟨rfl, hK, hP, hsz0⟩ := hv
  have hx := B.exec
  have hb := B.bytes
  have hr := B.returns
  have hts := atoms_spec (ws := cw_X3_init :: gw) B.pre
  have hown : s.vm.findClass RX3 = some m.cls := findClass_of_methodNamed B.named
  have hlocks := B.notSynchronized
  have hin : meth.name = "<init>" := (name_of_methodNamed B.named B.method).1
  have hb0 : gB G ≤ s.heap.size := by omega
  have hsz : s.heap.size + 0 = gB G + S.1 := by omega
  have hS : va_S (aG G) s.heap s.heap [] := va_S.rf
  have hl := lv_entry ([.ref (adr G xl0), .ref (adr G xl1)]) (n := 2) (Nat.le_of_ble_eq_true rfl)
  rw [lg_entry_eq]
  generalize (lg_sl ([.ref (adr G xl0), .ref (adr G xl1)]) ++ List.replicate (2 - (lg_sl ([.ref (adr G xl0), .ref (adr G xl1)])).length) Slot.unset).toArray = ls at hl ⊢
  have hl : lv_has ls 2 [(0, .ref (adr G xl0)), (1, .ref (adr G xl1))] := hl
  unfold wp_X3_init at h
  refine lv_aload_n hx hb dX3_init_0 rfl (lv_at hl 0 rfl) ?_
  refine W.objInit hx hb hown (hts _ (List.mem_cons_of_mem _ kw_306)) (hts _ (List.mem_cons_of_mem _ kw_28)) (hts _ (List.mem_cons_of_mem _ kw_29)) rfl (by rw [hml]; exact hl.1) rfl dX3_init_1 (Nat.le_of_ble_eq_true rfl) (Nat.le_of_ble_eq_true rfl) ?_
  refine W.eq (g2 := F0 m 4 ls []) rfl ?_
  refine lv_aload_n hx hb dX3_init_4 rfl (lv_at hl 0 rfl) ?_
  refine lv_sipush (v := 400) hx hb dX3_init_5 (by decide) ?_
  refine r_newaI hx hb (hts _ (List.mem_cons_of_mem _ kw_169)) hK hP hS hG hb0 hsz (N := 400) (by decide) (by decide) (Nat.le_of_ble_eq_true rfl) (Nat.le_of_ble_eq_true rfl) dX3_init_8 h (fun S1 M2 x3 H h e1 hP hS => ?_)
  replace hsz : s.heap.size + 1 = gB G + S1.1 := by omega
  clear e1
  refine r_pRF (C := RX3) (T := TX3) (N := 9) hx hb hts (fun w h => List.mem_cons_of_mem _ (iX3 w h)) hown hK hP tyX3 tyX3_ok nmX3 hS rfl (by decide) rfl 1 (by decide) (hts _ (List.mem_cons_of_mem _ kw_308)) (fun _ h9 => h9) rfl hin rfl (tyX3_ok 1 (by decide)) rfl rfl dX3_init_10 (by decide) h (fun M4 H locs h hP hS => ?_)
  refine lv_aload_n hx hb dX3_init_13 rfl (lv_at hl 0 rfl) ?_
  refine lv_sipush (v := 400) hx hb dX3_init_14 (by decide) ?_
  refine r_newaI hx hb (hts _ (List.mem_cons_of_mem _ kw_169)) hK hP hS hG hb0 hsz (N := 400) (by decide) (by decide) (Nat.le_of_ble_eq_true rfl) (Nat.le_of_ble_eq_true rfl) dX3_init_17 h (fun S5 M6 x7 H h e1 hP hS => ?_)
  replace hsz : s.heap.size + 2 = gB G + S5.1 := by omega
  clear e1
  refine r_pRF (C := RX3) (T := TX3) (N := 9) hx hb hts (fun w h => List.mem_cons_of_mem _ (iX3 w h)) hown hK hP tyX3 tyX3_ok nmX3 hS rfl (by decide) rfl 4 (by decide) (hts _ (List.mem_cons_of_mem _ kw_311)) (fun _ h9 => h9) rfl hin rfl (tyX3_ok 4 (by decide)) rfl rfl dX3_init_19 (by decide) h (fun M8 H locs h hP hS => ?_)
  refine lv_aload_n hx hb dX3_init_22 rfl (lv_at hl 0 rfl) ?_
  refine lv_aload_n hx hb dX3_init_23 rfl (lv_at hl 1 rfl) ?_
  refine r_pRF (C := RX3) (T := TX3) (N := 9) hx hb hts (fun w h => List.mem_cons_of_mem _ (iX3 w h)) hown hK hP tyX3 tyX3_ok nmX3 hS rfl (by decide) rfl 0 (by decide) (hts _ (List.mem_cons_of_mem _ kw_307)) (fun _ h9 => h9) rfl hin rfl (tyX3_ok 0 (by decide)) rfl rfl dX3_init_24 (by decide) h (fun M9 H locs h hP hS => ?_)
  exact r_vretA (S0 := S) hx hb hr hlocks hP hS dX3_init_27 h (by omega)

theorem dX10_init_0 : decode cX10_init 0 = .ok (.aload_n 0, 1) := by decide +kernel
theorem dX10_init_1 : decode cX10_init 1 = .ok (.invokespecial 5, 3) := by decide +kernel
theorem dX10_init_4 : decode cX10_init 4 = .ok (.aload_n 0, 1) := by decide +kernel
theorem dX10_init_5 : decode cX10_init 5 = .ok (.getstatic 11, 3) := by decide +kernel
theorem dX10_init_8 : decode cX10_init 8 = .ok (.putfield 15, 3) := by decide +kernel
theorem dX10_init_11 : decode cX10_init 11 = .ok (.aload_n 0, 1) := by decide +kernel
theorem dX10_init_12 : decode cX10_init 12 = .ok (.bipush 64, 2) := by decide +kernel
theorem dX10_init_14 : decode cX10_init 14 = .ok (.newarray .long, 2) := by decide +kernel
theorem dX10_init_16 : decode cX10_init 16 = .ok (.putfield 18, 3) := by decide +kernel
theorem dX10_init_19 : decode cX10_init 19 = .ok (.aload_n 0, 1) := by decide +kernel
theorem dX10_init_20 : decode cX10_init 20 = .ok (.aload_n 1, 1) := by decide +kernel
theorem dX10_init_21 : decode cX10_init 21 = .ok (.putfield 22, 3) := by decide +kernel
theorem dX10_init_24 : decode cX10_init 24 = .ok (.return_, 1) := by decide +kernel
abbrev RM_X10_init : Room := { frames := 1, cells := 1, slots := 64, locals := 60 }
def cw_X10_init : Cond := Cond.code yX10_init cX10_init 2 (Option.none : Option FieldType)
theorem hd_X10_init : yX10_init.cls ≠ "java/lang/invoke/MethodHandle" ∧ yX10_init.cls ≠ "java/lang/invoke/VarHandle" ∧ (parseMethodDescriptor yX10_init.desc).map (fun d => d.parameters.length) = some 1 := by decide +kernel
def wp_X10_init (S : Sh) (M : Mm) (u0 : Int) (u1 : Int) (post : Sh → Mm → Prop) : Prop := wC (-2) fun v1 => wPutR S M u0 10 1 v1 fun M3 => wNewA S M3 16 64 fun S4 M5 x6 => wPutR S4 M5 u0 10 3 x6 fun M7 => wPutR S4 M7 u0 10 0 u1 fun M8 => post S4 M8
set_option maxHeartbeats 8000000 in
set_option maxRecDepth 100000 in
theorem c_X10_init (l : Launch) (D : va_G) (G : Gt) (S : Sh) (M : Mm) (hG : ∀ a : Nat, G.1 a = gB G + a) (xl0 : Int) (xl1 : Int) (post : Sh → Mm → Prop) (h : wp_X10_init S M xl0 xl1 post) : Met l yX10_init (cw_X10_init :: gw) RM_X10_init (PA D G S M [.ref (adr G xl0), .ref (adr G xl1)]) (QA D G S 1 post) 1 64 (aG G) := by
  refine Met.ofW (cc := cX10_init) (maxL := 2) (ret := none) (by decide) rfl ?_
  intro p e s m args below meth c s₁ B hml hv
  obtain ⟨rfl, hK, hP, hsz0⟩ := hv
  have hx := B.exec
  have hb := B.bytes
  have hr := B.returns
  have hts := atoms_spec (ws := cw_X10_init :: gw) B.pre
  have hown : s.vm.findClass RX10 = some m.cls := findClass_of_methodNamed B.named
  have hlocks := B.notSynchronized
  have hin : meth.name = "<init>" := (name_of_methodNamed B.named B.method).1
  have hb0 : gB G ≤ s.heap.size := by omega
  have hsz : s.heap.size + 0 = gB G + S.1 := by omega
  have hS : va_S (aG G) s.heap s.heap [] := va_S.rf
  have hl := lv_entry ([.ref (adr G xl0), .ref (adr G xl1)]) (n := 2) (Nat.le_of_ble_eq_true rfl)
  rw [lg_entry_eq]
  generalize (lg_sl ([.ref (adr G xl0), .ref (adr G xl1)]) ++ List.replicate (2 - (lg_sl ([.ref (adr G xl0), .ref (adr G xl1)])).length) Slot.unset).toArray = ls at hl ⊢
  have hl : lv_has ls 2 [(0, .ref (adr G xl0)), (1, .ref (adr G xl1))] := hl
  unfold wp_X10_init at h
  refine lv_aload_n hx hb dX10_init_0 rfl (lv_at hl 0 rfl) ?_
  refine W.objInit hx hb hown (hts _ (List.mem_cons_of_mem _ kw_340)) (hts _ (List.mem_cons_of_mem _ kw_28)) (hts _ (List.mem_cons_of_mem _ kw_29)) rfl (by rw [hml]; exact hl.1) rfl dX10_init_1 (Nat.le_of_ble_eq_true rfl) (Nat.le_of_ble_eq_true rfl) ?_
  refine W.eq (g2 := F0 m 4 ls []) rfl ?_
  refine lv_aload_n hx hb dX10_init_4 rfl (lv_at hl 0 rfl) ?_
  refine r_getsN hx hb hK hS hown (nw_85 hK) (fun _ h9 => h9) dX10_init_5 h (fun x2 h => ?_)
  refine r_pR (C := RX10) (T := TX10) (N := 12) hx hb hts (fun w h => List.mem_cons_of_mem _ (iX10 w h)) hown hK hP tyX10 tyX10_ok nmX10 hS rfl (by decide) rfl 1 (by decide) (hts _ (List.mem_cons_of_mem _ kw_346)) (fun _ h9 => h9) rfl (tyX10_ok 1 (by decide)) rfl rfl dX10_init_8 (by decide) h (fun M3 H locs h hP hS => ?_)
  refine lv_aload_n hx hb dX10_init_11 rfl (lv_at hl 0 rfl) ?_
  refine lv_bipush (v := 64) hx hb dX10_init_12 (by decide) ?_
  refine r_newaJ hx hb (hts _ (List.mem_cons_of_mem _ kw_391)) hK hP hS hG hb0 hsz (N := 64) (by decide) (by decide) (Nat.le_of_ble_eq_true rfl) (Nat.le_of_ble_eq_true rfl) dX10_init_14 h (fun S4 M5 x6 H h e1 hP hS => ?_)
  replace hsz : s.heap.size + 1 = gB G + S4.1 := by omega
  clear e1
  refine r_pRF (C := RX10) (T := TX10) (N := 12) hx hb hts (fun w h => List.mem_cons_of_mem _ (iX10 w h)) hown hK hP tyX10 tyX10_ok nmX10 hS rfl (by decide) rfl 3 (by decide) (hts _ (List.mem_cons_of_mem _ kw_350)) (fun _ h9 => h9) rfl hin rfl (tyX10_ok 3 (by decide)) rfl rfl dX10_init_16 (by decide) h (fun M7 H locs h hP hS => ?_)
  refine lv_aload_n hx hb dX10_init_19 rfl (lv_at hl 0 rfl) ?_
  refine lv_aload_n hx hb dX10_init_20 rfl (lv_at hl 1 rfl) ?_
  refine r_pRF (C := RX10) (T := TX10) (N := 12) hx hb hts (fun w h => List.mem_cons_of_mem _ (iX10 w h)) hown hK hP tyX10 tyX10_ok nmX10 hS rfl (by decide) rfl 0 (by decide) (hts _ (List.mem_cons_of_mem _ kw_344)) (fun _ h9 => h9) rfl hin rfl (tyX10_ok 0 (by decide)) rfl rfl dX10_init_21 (by decide) h (fun M8 H locs h hP hS => ?_)
  exact r_vretA (S0 := S) hx hb hr hlocks hP hS dX10_init_24 h (by omega)

theorem dX1_init_0 : decode cX1_init 0 = .ok (.aload_n 0, 1) := by decide +kernel
theorem dX1_init_1 : decode cX1_init 1 = .ok (.invokespecial 3, 3) := by decide +kernel
theorem dX1_init_4 : decode cX1_init 4 = .ok (.aload_n 0, 1) := by decide +kernel
theorem dX1_init_5 : decode cX1_init 5 = .ok (.aload_n 1, 1) := by decide +kernel
theorem dX1_init_6 : decode cX1_init 6 = .ok (.putfield 9, 3) := by decide +kernel
theorem dX1_init_9 : decode cX1_init 9 = .ok (.aload_n 0, 1) := by decide +kernel
theorem dX1_init_10 : decode cX1_init 10 = .ok (.aload_n 1, 1) := by decide +kernel
theorem dX1_init_11 : decode cX1_init 11 = .ok (.getfield 15, 3) := by decide +kernel
theorem dX1_init_14 : decode cX1_init 14 = .ok (.putfield 21, 3) := by decide +kernel
theorem dX1_init_17 : decode cX1_init 17 = .ok (.return_, 1) := by decide +kernel
abbrev RM_X1_init : Room := { frames := 1, cells := 0, slots := 0, locals := 60 }
def cw_X1_init : Cond := Cond.code yX1_init cX1_init 2 (Option.none : Option FieldType)
theorem hd_X1_init : yX1_init.cls ≠ "java/lang/invoke/MethodHandle" ∧ yX1_init.cls ≠ "java/lang/invoke/VarHandle" ∧ (parseMethodDescriptor yX1_init.desc).map (fun d => d.parameters.length) = some 1 := by decide +kernel
def wp_X1_init (S : Sh) (M : Mm) (u0 : Int) (u1 : Int) (post : Sh → Mm → Prop) : Prop := wPutR S M u0 1 0 u1 fun M1 => wGetR S M1 u1 10 0 fun v2 => wPutR S M1 u0 1 1 v2 fun M4 => post S M4
set_option maxHeartbeats 8000000 in
set_option maxRecDepth 100000 in
theorem c_X1_init (l : Launch) (D : va_G) (G : Gt) (S : Sh) (M : Mm) (hG : ∀ a : Nat, G.1 a = gB G + a) (xl0 : Int) (xl1 : Int) (post : Sh → Mm → Prop) (h : wp_X1_init S M xl0 xl1 post) : Met l yX1_init (cw_X1_init :: gw) RM_X1_init (PA D G S M [.ref (adr G xl0), .ref (adr G xl1)]) (QA D G S 0 post) 0 0 (aG G) := by
  refine Met.ofW (cc := cX1_init) (maxL := 2) (ret := none) (by decide) rfl ?_
  intro p e s m args below meth c s₁ B hml hv
  obtain ⟨rfl, hK, hP, hsz0⟩ := hv
  have hx := B.exec
  have hb := B.bytes
  have hr := B.returns
  have hts := atoms_spec (ws := cw_X1_init :: gw) B.pre
  have hown : s.vm.findClass RX1 = some m.cls := findClass_of_methodNamed B.named
  have hlocks := B.notSynchronized
  have hin : meth.name = "<init>" := (name_of_methodNamed B.named B.method).1
  have hb0 : gB G ≤ s.heap.size := by omega
  have hsz : s.heap.size + 0 = gB G + S.1 := by omega
  have hS : va_S (aG G) s.heap s.heap [] := va_S.rf
  have hl := lv_entry ([.ref (adr G xl0), .ref (adr G xl1)]) (n := 2) (Nat.le_of_ble_eq_true rfl)
  rw [lg_entry_eq]
  generalize (lg_sl ([.ref (adr G xl0), .ref (adr G xl1)]) ++ List.replicate (2 - (lg_sl ([.ref (adr G xl0), .ref (adr G xl1)])).length) Slot.unset).toArray = ls at hl ⊢
  have hl : lv_has ls 2 [(0, .ref (adr G xl0)), (1, .ref (adr G xl1))] := hl
  unfold wp_X1_init at h
  refine lv_aload_n hx hb dX1_init_0 rfl (lv_at hl 0 rfl) ?_
  refine W.objInit hx hb hown (hts _ (List.mem_cons_of_mem _ kw_397)) (hts _ (List.mem_cons_of_mem _ kw_28)) (hts _ (List.mem_cons_of_mem _ kw_29)) rfl (by rw [hml]; exact hl.1) rfl dX1_init_1 (Nat.le_of_ble_eq_true rfl) (Nat.le_of_ble_eq_true rfl) ?_
  refine W.eq (g2 := F0 m 4 ls []) rfl ?_
  refine lv_aload_n hx hb dX1_init_4 rfl (lv_at hl 0 rfl) ?_
  refine lv_aload_n hx hb dX1_init_5 rfl (lv_at hl 1 rfl) ?_
  refine r_pRF (C := RX1) (T := TX1) (N := 3) hx hb hts (fun w h => List.mem_cons_of_mem _ (iX1 w h)) hown hK hP tyX1 tyX1_ok nmX1 hS rfl (by decide) rfl 0 (by decide) (hts _ (List.mem_cons_of_mem _ kw_398)) (fun _ h9 => h9) rfl hin rfl (tyX1_ok 0 (by decide)) rfl rfl dX1_init_6 (by decide) h (fun M1 H locs h hP hS => ?_)
  refine lv_aload_n hx hb dX1_init_9 rfl (lv_at hl 0 rfl) ?_
  refine lv_aload_n hx hb dX1_init_10 rfl (lv_at hl 1 rfl) ?_
  refine r_getrN (C := RX10) (T := TX10) (N := 12) hx hb hts (fun w h => List.mem_cons_of_mem _ (iX10 w h)) hown hK hP rfl (by decide) rfl 0 (by decide) (nw_86 hK) (fun _ h9 => h9) dX1_init_11 (by decide) h (fun x3 h => ?_)
  refine r_pRF (C := RX1) (T := TX1) (N := 3) hx hb hts (fun w h => List.mem_cons_of_mem _ (iX1 w h)) hown hK hP tyX1 tyX1_ok nmX1 hS rfl (by decide) rfl 1 (by decide) (hts _ (List.mem_cons_of_mem _ kw_399)) (fun _ h9 => h9) rfl hin rfl (tyX1_ok 1 (by decide)) rfl rfl dX1_init_14 (by decide) h (fun M4 H locs h hP hS => ?_)
  exact r_vretA (S0 := S) hx hb hr hlocks hP hS dX1_init_17 h (by omega)

theorem dX2_init_0 : decode cX2_init 0 = .ok (.aload_n 0, 1) := by decide +kernel
theorem dX2_init_1 : decode cX2_init 1 = .ok (.invokespecial 3, 3) := by decide +kernel
theorem dX2_init_4 : decode cX2_init 4 = .ok (.aload_n 0, 1) := by decide +kernel
theorem dX2_init_5 : decode cX2_init 5 = .ok (.iconst 5, 1) := by decide +kernel
theorem dX2_init_6 : decode cX2_init 6 = .ok (.newarray .int, 2) := by decide +kernel
theorem dX2_init_8 : decode cX2_init 8 = .ok (.putfield 11, 3) := by decide +kernel
theorem dX2_init_11 : decode cX2_init 11 = .ok (.aload_n 0, 1) := by decide +kernel
theorem dX2_init_12 : decode cX2_init 12 = .ok (.iconst 5, 1) := by decide +kernel
theorem dX2_init_13 : decode cX2_init 13 = .ok (.newarray .int, 2) := by decide +kernel
theorem dX2_init_15 : decode cX2_init 15 = .ok (.putfield 15, 3) := by decide +kernel
theorem dX2_init_18 : decode cX2_init 18 = .ok (.aload_n 0, 1) := by decide +kernel
theorem dX2_init_19 : decode cX2_init 19 = .ok (.sipush 6000, 3) := by decide +kernel
theorem dX2_init_22 : decode cX2_init 22 = .ok (.newarray .int, 2) := by decide +kernel
theorem dX2_init_24 : decode cX2_init 24 = .ok (.putfield 18, 3) := by decide +kernel
theorem dX2_init_27 : decode cX2_init 27 = .ok (.aload_n 0, 1) := by decide +kernel
theorem dX2_init_28 : decode cX2_init 28 = .ok (.sipush 6000, 3) := by decide +kernel
theorem dX2_init_31 : decode cX2_init 31 = .ok (.newarray .int, 2) := by decide +kernel
theorem dX2_init_33 : decode cX2_init 33 = .ok (.putfield 21, 3) := by decide +kernel
theorem dX2_init_36 : decode cX2_init 36 = .ok (.aload_n 0, 1) := by decide +kernel
theorem dX2_init_37 : decode cX2_init 37 = .ok (.aload_n 1, 1) := by decide +kernel
theorem dX2_init_38 : decode cX2_init 38 = .ok (.putfield 24, 3) := by decide +kernel
theorem dX2_init_41 : decode cX2_init 41 = .ok (.aload_n 0, 1) := by decide +kernel
theorem dX2_init_42 : decode cX2_init 42 = .ok (.aload_n 1, 1) := by decide +kernel
theorem dX2_init_43 : decode cX2_init 43 = .ok (.getfield 28, 3) := by decide +kernel
theorem dX2_init_46 : decode cX2_init 46 = .ok (.putfield 34, 3) := by decide +kernel
theorem dX2_init_49 : decode cX2_init 49 = .ok (.return_, 1) := by decide +kernel
abbrev RM_X2_init : Room := { frames := 1, cells := 4, slots := 12010, locals := 60 }
def cw_X2_init : Cond := Cond.code yX2_init cX2_init 2 (Option.none : Option FieldType)
theorem hd_X2_init : yX2_init.cls ≠ "java/lang/invoke/MethodHandle" ∧ yX2_init.cls ≠ "java/lang/invoke/VarHandle" ∧ (parseMethodDescriptor yX2_init.desc).map (fun d => d.parameters.length) = some 1 := by decide +kernel
def wp_X2_init (S : Sh) (M : Mm) (u0 : Int) (u1 : Int) (post : Sh → Mm → Prop) : Prop := wNewA S M 14 5 fun S1 M2 x3 => wPutR S1 M2 u0 2 2 x3 fun M4 => wNewA S1 M4 14 5 fun S5 M6 x7 => wPutR S5 M6 u0 2 3 x7 fun M8 => wNewA S5 M8 14 6000 fun S9 M10 x11 => wPutR S9 M10 u0 2 4 x11 fun M12 => wNewA S9 M12 14 6000 fun S13 M14 x15 => wPutR S13 M14 u0 2 5 x15 fun M16 => wPutR S13 M16 u0 2 0 u1 fun M17 => wGetR S13 M17 u1 10 0 fun v18 => wPutR S13 M17 u0 2 1 v18 fun M20 => post S13 M20
set_option maxHeartbeats 8000000 in
set_option maxRecDepth 100000 in
theorem c_X2_init (l : Launch) (D : va_G) (G : Gt) (S : Sh) (M : Mm) (hG : ∀ a : Nat, G.1 a = gB G + a) (xl0 : Int) (xl1 : Int) (post : Sh → Mm → Prop) (h : wp_X2_init S M xl0 xl1 post) : Met l yX2_init (cw_X2_init :: gw) RM_X2_init (PA D G S M [.ref (adr G xl0), .ref (adr G xl1)]) (QA D G S 4 post) 4 12010 (aG G) := by
  refine Met.ofW (cc := cX2_init) (maxL := 2) (ret := none) (by decide) rfl ?_
  intro p e s m args below meth c s₁ B hml hv
  obtain ⟨rfl, hK, hP, hsz0⟩ := hv
  have hx := B.exec
  have hb := B.bytes
  have hr := B.returns
  have hts := atoms_spec (ws := cw_X2_init :: gw) B.pre
  have hown : s.vm.findClass RX2 = some m.cls := findClass_of_methodNamed B.named
  have hlocks := B.notSynchronized
  have hin : meth.name = "<init>" := (name_of_methodNamed B.named B.method).1
  have hb0 : gB G ≤ s.heap.size := by omega
  have hsz : s.heap.size + 0 = gB G + S.1 := by omega
  have hS : va_S (aG G) s.heap s.heap [] := va_S.rf
  have hl := lv_entry ([.ref (adr G xl0), .ref (adr G xl1)]) (n := 2) (Nat.le_of_ble_eq_true rfl)
  rw [lg_entry_eq]
  generalize (lg_sl ([.ref (adr G xl0), .ref (adr G xl1)]) ++ List.replicate (2 - (lg_sl ([.ref (adr G xl0), .ref (adr G xl1)])).length) Slot.unset).toArray = ls at hl ⊢
  have hl : lv_has ls 2 [(0, .ref (adr G xl0)), (1, .ref (adr G xl1))] := hl
  unfold wp_X2_init at h
  refine lv_aload_n hx hb dX2_init_0 rfl (lv_at hl 0 rfl) ?_
  refine W.objInit hx hb hown (hts _ (List.mem_cons_of_mem _ kw_414)) (hts _ (List.mem_cons_of_mem _ kw_28)) (hts _ (List.mem_cons_of_mem _ kw_29)) rfl (by rw [hml]; exact hl.1) rfl dX2_init_1 (Nat.le_of_ble_eq_true rfl) (Nat.le_of_ble_eq_true rfl) ?_
  refine W.eq (g2 := F0 m 4 ls []) rfl ?_
  refine lv_aload_n hx hb dX2_init_4 rfl (lv_at hl 0 rfl) ?_
  refine lv_iconst (v := 5) hx hb dX2_init_5 (by decide) ?_
  refine r_newaI hx hb (hts _ (List.mem_cons_of_mem _ kw_169)) hK hP hS hG hb0 hsz (N := 5) (by decide) (by decide) (Nat.le_of_ble_eq_true rfl) (Nat.le_of_ble_eq_true rfl) dX2_init_6 h (fun S1 M2 x3 H h e1 hP hS => ?_)
  replace hsz : s.heap.size + 1 = gB G + S1.1 := by omega
  clear e1
  refine r_pRF (C := RX2) (T := TX2) (N := 11) hx hb hts (fun w h => List.mem_cons_of_mem _ (iX2 w h)) hown hK hP tyX2 tyX2_ok nmX2 hS rfl (by decide) rfl 2 (by decide) (hts _ (List.mem_cons_of_mem _ kw_417)) (fun _ h9 => h9) rfl hin rfl (tyX2_ok 2 (by decide)) rfl rfl dX2_init_8 (by decide) h (fun M4 H locs h hP hS => ?_)
  refine lv_aload_n hx hb dX2_init_11 rfl (lv_at hl 0 rfl) ?_
  refine lv_iconst (v := 5) hx hb dX2_init_12 (by decide) ?_
  refine r_newaI hx hb (hts _ (List.mem_cons_of_mem _ kw_169)) hK hP hS hG hb0 hsz (N := 5) (by decide) (by decide) (Nat.le_of_ble_eq_true rfl) (Nat.le_of_ble_eq_true rfl) dX2_init_13 h (fun S5 M6 x7 H h e1 hP hS => ?_)
  replace hsz : s.heap.size + 2 = gB G + S5.1 := by omega
  clear e1
  refine r_pRF (C := RX2) (T := TX2) (N := 11) hx hb hts (fun w h => List.mem_cons_of_mem _ (iX2 w h)) hown hK hP tyX2 tyX2_ok nmX2 hS rfl (by decide) rfl 3 (by decide) (hts _ (List.mem_cons_of_mem _ kw_418)) (fun _ h9 => h9) rfl hin rfl (tyX2_ok 3 (by decide)) rfl rfl dX2_init_15 (by decide) h (fun M8 H locs h hP hS => ?_)
  refine lv_aload_n hx hb dX2_init_18 rfl (lv_at hl 0 rfl) ?_
  refine lv_sipush (v := 6000) hx hb dX2_init_19 (by decide) ?_
  refine r_newaI hx hb (hts _ (List.mem_cons_of_mem _ kw_169)) hK hP hS hG hb0 hsz (N := 6000) (by decide) (by decide) (Nat.le_of_ble_eq_true rfl) (Nat.le_of_ble_eq_true rfl) dX2_init_22 h (fun S9 M10 x11 H h e1 hP hS => ?_)
  replace hsz : s.heap.size + 3 = gB G + S9.1 := by omega
  clear e1
  refine r_pRF (C := RX2) (T := TX2) (N := 11) hx hb hts (fun w h => List.mem_cons_of_mem _ (iX2 w h)) hown hK hP tyX2 tyX2_ok nmX2 hS rfl (by decide) rfl 4 (by decide) (hts _ (List.mem_cons_of_mem _ kw_419)) (fun _ h9 => h9) rfl hin rfl (tyX2_ok 4 (by decide)) rfl rfl dX2_init_24 (by decide) h (fun M12 H locs h hP hS => ?_)
  refine lv_aload_n hx hb dX2_init_27 rfl (lv_at hl 0 rfl) ?_
  refine lv_sipush (v := 6000) hx hb dX2_init_28 (by decide) ?_
  refine r_newaI hx hb (hts _ (List.mem_cons_of_mem _ kw_169)) hK hP hS hG hb0 hsz (N := 6000) (by decide) (by decide) (Nat.le_of_ble_eq_true rfl) (Nat.le_of_ble_eq_true rfl) dX2_init_31 h (fun S13 M14 x15 H h e1 hP hS => ?_)
  replace hsz : s.heap.size + 4 = gB G + S13.1 := by omega
  clear e1
  refine r_pRF (C := RX2) (T := TX2) (N := 11) hx hb hts (fun w h => List.mem_cons_of_mem _ (iX2 w h)) hown hK hP tyX2 tyX2_ok nmX2 hS rfl (by decide) rfl 5 (by decide) (hts _ (List.mem_cons_of_mem _ kw_420)) (fun _ h9 => h9) rfl hin rfl (tyX2_ok 5 (by decide)) rfl rfl dX2_init_33 (by decide) h (fun M16 H locs h hP hS => ?_)
  refine lv_aload_n hx hb dX2_init_36 rfl (lv_at hl 0 rfl) ?_
  refine lv_aload_n hx hb dX2_init_37 rfl (lv_at hl 1 rfl) ?_
  refine r_pRF (C := RX2) (T := TX2) (N := 11) hx hb hts (fun w h => List.mem_cons_of_mem _ (iX2 w h)) hown hK hP tyX2 tyX2_ok nmX2 hS rfl (by decide) rfl 0 (by decide) (hts _ (List.mem_cons_of_mem _ kw_415)) (fun _ h9 => h9) rfl hin rfl (tyX2_ok 0 (by decide)) rfl rfl dX2_init_38 (by decide) h (fun M17 H locs h hP hS => ?_)
  refine lv_aload_n hx hb dX2_init_41 rfl (lv_at hl 0 rfl) ?_
  refine lv_aload_n hx hb dX2_init_42 rfl (lv_at hl 1 rfl) ?_
  refine r_getrN (C := RX10) (T := TX10) (N := 12) hx hb hts (fun w h => List.mem_cons_of_mem _ (iX10 w h)) hown hK hP rfl (by decide) rfl 0 (by decide) (nw_87 hK) (fun _ h9 => h9) dX2_init_43 (by decide) h (fun x19 h => ?_)
  refine r_pRF (C := RX2) (T := TX2) (N := 11) hx hb hts (fun w h => List.mem_cons_of_mem _ (iX2 w h)) hown hK hP tyX2 tyX2_ok nmX2 hS rfl (by decide) rfl 1 (by decide) (hts _ (List.mem_cons_of_mem _ kw_416)) (fun _ h9 => h9) rfl hin rfl (tyX2_ok 1 (by decide)) rfl rfl dX2_init_46 (by decide) h (fun M20 H locs h hP hS => ?_)
  exact r_vretA (S0 := S) hx hb hr hlocks hP hS dX2_init_49 h (by omega)

theorem dX6_init_0 : decode cX6_init 0 = .ok (.aload_n 0, 1) := by decide +kernel
theorem dX6_init_1 : decode cX6_init 1 = .ok (.invokespecial 3, 3) := by decide +kernel
theorem dX6_init_4 : decode cX6_init 4 = .ok (.aload_n 0, 1) := by decide +kernel
theorem dX6_init_5 : decode cX6_init 5 = .ok (.bipush 112, 2) := by decide +kernel
theorem dX6_init_7 : decode cX6_init 7 = .ok (.newarray .int, 2) := by decide +kernel
theorem dX6_init_9 : decode cX6_init 9 = .ok (.putfield 11, 3) := by decide +kernel
theorem dX6_init_12 : decode cX6_init 12 = .ok (.aload_n 0, 1) := by decide +kernel
theorem dX6_init_13 : decode cX6_init 13 = .ok (.sipush 3913, 3) := by decide +kernel
theorem dX6_init_16 : decode cX6_init 16 = .ok (.newarray .int, 2) := by decide +kernel
theorem dX6_init_18 : decode cX6_init 18 = .ok (.putfield 15, 3) := by decide +kernel
theorem dX6_init_21 : decode cX6_init 21 = .ok (.aload_n 0, 1) := by decide +kernel
theorem dX6_init_22 : decode cX6_init 22 = .ok (.aload_n 1, 1) := by decide +kernel
theorem dX6_init_23 : decode cX6_init 23 = .ok (.putfield 18, 3) := by decide +kernel
theorem dX6_init_26 : decode cX6_init 26 = .ok (.return_, 1) := by decide +kernel
abbrev RM_X6_init : Room := { frames := 1, cells := 2, slots := 4025, locals := 60 }
def cw_X6_init : Cond := Cond.code yX6_init cX6_init 2 (Option.none : Option FieldType)
theorem hd_X6_init : yX6_init.cls ≠ "java/lang/invoke/MethodHandle" ∧ yX6_init.cls ≠ "java/lang/invoke/VarHandle" ∧ (parseMethodDescriptor yX6_init.desc).map (fun d => d.parameters.length) = some 1 := by decide +kernel
def wp_X6_init (S : Sh) (M : Mm) (u0 : Int) (u1 : Int) (post : Sh → Mm → Prop) : Prop := wNewA S M 14 112 fun S1 M2 x3 => wPutR S1 M2 u0 6 1 x3 fun M4 => wNewA S1 M4 14 3913 fun S5 M6 x7 => wPutR S5 M6 u0 6 2 x7 fun M8 => wPutR S5 M8 u0 6 0 u1 fun M9 => post S5 M9
set_option maxHeartbeats 8000000 in
set_option maxRecDepth 100000 in
theorem c_X6_init (l : Launch) (D : va_G) (G : Gt) (S : Sh) (M : Mm) (hG : ∀ a : Nat, G.1 a = gB G + a) (xl0 : Int) (xl1 : Int) (post : Sh → Mm → Prop) (h : wp_X6_init S M xl0 xl1 post) : Met l yX6_init (cw_X6_init :: gw) RM_X6_init (PA D G S M [.ref (adr G xl0), .ref (adr G xl1)]) (QA D G S 2 post) 2 4025 (aG G) := by
  refine Met.ofW (cc := cX6_init) (maxL := 2) (ret := none) (by decide) rfl ?_
  intro p e s m args below meth c s₁ B hml hv
  obtain ⟨rfl, hK, hP, hsz0⟩ := hv
  have hx := B.exec
  have hb := B.bytes
  have hr := B.returns
  have hts := atoms_spec (ws := cw_X6_init :: gw) B.pre
  have hown : s.vm.findClass RX6 = some m.cls := findClass_of_methodNamed B.named
  have hlocks := B.notSynchronized
  have hin : meth.name = "<init>" := (name_of_methodNamed B.named B.method).1
  have hb0 : gB G ≤ s.heap.size := by omega
  have hsz : s.heap.size + 0 = gB G + S.1 := by omega
  have hS : va_S (aG G) s.heap s.heap [] := va_S.rf
  have hl := lv_entry ([.ref (adr G xl0), .ref (adr G xl1)]) (n := 2) (Nat.le_of_ble_eq_true rfl)
  rw [lg_entry_eq]
  generalize (lg_sl ([.ref (adr G xl0), .ref (adr G xl1)]) ++ List.replicate (2 - (lg_sl ([.ref (adr G xl0), .ref (adr G xl1)])).length) Slot.unset).toArray = ls at hl ⊢
  have hl : lv_has ls 2 [(0, .ref (adr G xl0)), (1, .ref (adr G xl1))] := hl
  unfold wp_X6_init at h
  refine lv_aload_n hx hb dX6_init_0 rfl (lv_at hl 0 rfl) ?_
  refine W.objInit hx hb hown (hts _ (List.mem_cons_of_mem _ kw_454)) (hts _ (List.mem_cons_of_mem _ kw_28)) (hts _ (List.mem_cons_of_mem _ kw_29)) rfl (by rw [hml]; exact hl.1) rfl dX6_init_1 (Nat.le_of_ble_eq_true rfl) (Nat.le_of_ble_eq_true rfl) ?_
  refine W.eq (g2 := F0 m 4 ls []) rfl ?_
  refine lv_aload_n hx hb dX6_init_4 rfl (lv_at hl 0 rfl) ?_
  refine lv_bipush (v := 112) hx hb dX6_init_5 (by decide) ?_
  refine r_newaI hx hb (hts _ (List.mem_cons_of_mem _ kw_169)) hK hP hS hG hb0 hsz (N := 112) (by decide) (by decide) (Nat.le_of_ble_eq_true rfl) (Nat.le_of_ble_eq_true rfl) dX6_init_7 h (fun S1 M2 x3 H h e1 hP hS => ?_)
  replace hsz : s.heap.size + 1 = gB G + S1.1 := by omega
  clear e1
  refine r_pRF (C := RX6) (T := TX6) (N := 3) hx hb hts (fun w h => List.mem_cons_of_mem _ (iX6 w h)) hown hK hP tyX6 tyX6_ok nmX6 hS rfl (by decide) rfl 1 (by decide) (hts _ (List.mem_cons_of_mem _ kw_456)) (fun _ h9 => h9) rfl hin rfl (tyX6_ok 1 (by decide)) rfl rfl dX6_init_9 (by decide) h (fun M4 H locs h hP hS => ?_)
  refine lv_aload_n hx hb dX6_init_12 rfl (lv_at hl 0 rfl) ?_
  refine lv_sipush (v := 3913) hx hb dX6_init_13 (by decide) ?_
  refine r_newaI hx hb (hts _ (List.mem_cons_of_mem _ kw_169)) hK hP hS hG hb0 hsz (N := 3913) (by decide) (by decide) (Nat.le_of_ble_eq_true rfl) (Nat.le_of_ble_eq_true rfl) dX6_init_16 h (fun S5 M6 x7 H h e1 hP hS => ?_)
  replace hsz : s.heap.size + 2 = gB G + S5.1 := by omega
  clear e1
  refine r_pRF (C := RX6) (T := TX6) (N := 3) hx hb hts (fun w h => List.mem_cons_of_mem _ (iX6 w h)) hown hK hP tyX6 tyX6_ok nmX6 hS rfl (by decide) rfl 2 (by decide) (hts _ (List.mem_cons_of_mem _ kw_457)) (fun _ h9 => h9) rfl hin rfl (tyX6_ok 2 (by decide)) rfl rfl dX6_init_18 (by decide) h (fun M8 H locs h hP hS => ?_)
  refine lv_aload_n hx hb dX6_init_21 rfl (lv_at hl 0 rfl) ?_
  refine lv_aload_n hx hb dX6_init_22 rfl (lv_at hl 1 rfl) ?_
  refine r_pRF (C := RX6) (T := TX6) (N := 3) hx hb hts (fun w h => List.mem_cons_of_mem _ (iX6 w h)) hown hK hP tyX6 tyX6_ok nmX6 hS rfl (by decide) rfl 0 (by decide) (hts _ (List.mem_cons_of_mem _ kw_455)) (fun _ h9 => h9) rfl hin rfl (tyX6_ok 0 (by decide)) rfl rfl dX6_init_23 (by decide) h (fun M9 H locs h hP hS => ?_)
  exact r_vretA (S0 := S) hx hb hr hlocks hP hS dX6_init_26 h (by omega)

theorem dX9_init_0 : decode cX9_init 0 = .ok (.aload_n 0, 1) := by decide +kernel
theorem dX9_init_1 : decode cX9_init 1 = .ok (.invokespecial 3, 3) := by decide +kernel
theorem dX9_init_4 : decode cX9_init 4 = .ok (.aload_n 0, 1) := by decide +kernel
theorem dX9_init_5 : decode cX9_init 5 = .ok (.bipush 100, 2) := by decide +kernel
theorem dX9_init_7 : decode cX9_init 7 = .ok (.newarray .int, 2) := by decide +kernel
theorem dX9_init_9 : decode cX9_init 9 = .ok (.putfield 11, 3) := by decide +kernel
theorem dX9_init_12 : decode cX9_init 12 = .ok (.aload_n 0, 1) := by decide +kernel
theorem dX9_init_13 : decode cX9_init 13 = .ok (.aload_n 1, 1) := by decide +kernel
theorem dX9_init_14 : decode cX9_init 14 = .ok (.putfield 15, 3) := by decide +kernel
theorem dX9_init_17 : decode cX9_init 17 = .ok (.aload_n 0, 1) := by decide +kernel
theorem dX9_init_18 : decode cX9_init 18 = .ok (.aload_n 2, 1) := by decide +kernel
theorem dX9_init_19 : decode cX9_init 19 = .ok (.putfield 19, 3) := by decide +kernel
theorem dX9_init_22 : decode cX9_init 22 = .ok (.return_, 1) := by decide +kernel
abbrev RM_X9_init : Room := { frames := 1, cells := 1, slots := 100, locals := 60 }
def cw_X9_init : Cond := Cond.code yX9_init cX9_init 3 (Option.none : Option FieldType)
theorem hd_X9_init : yX9_init.cls ≠ "java/lang/invoke/MethodHandle" ∧ yX9_init.cls ≠ "java/lang/invoke/VarHandle" ∧ (parseMethodDescriptor yX9_init.desc).map (fun d => d.parameters.length) = some 2 := by decide +kernel
def wp_X9_init (S : Sh) (M : Mm) (u0 : Int) (u1 : Int) (u2 : Int) (post : Sh → Mm → Prop) : Prop := wNewA S M 14 100 fun S1 M2 x3 => wPutR S1 M2 u0 9 2 x3 fun M4 => wPutR S1 M4 u0 9 0 u1 fun M5 => wPutR S1 M5 u0 9 1 u2 fun M6 => post S1 M6
set_option maxHeartbeats 8000000 in
set_option maxRecDepth 100000 in
theorem c_X9_init (l : Launch) (D : va_G) (G : Gt) (S : Sh) (M : Mm) (hG : ∀ a : Nat, G.1 a = gB G + a) (xl0 : Int) (xl1 : Int) (xl2 : Int) (post : Sh → Mm → Prop) (h : wp_X9_init S M xl0 xl1 xl2 post) : Met l yX9_init (cw_X9_init :: gw) RM_X9_init (PA D G S M [.ref (adr G xl0), .ref (adr G xl1), .ref (adr G xl2)]) (QA D G S 1 post) 1 100 (aG G) := by
  refine Met.ofW (cc := cX9_init) (maxL := 3) (ret := none) (by decide) rfl ?_
  intro p e s m args below meth c s₁ B hml hv
  obtain ⟨rfl, hK, hP, hsz0⟩ := hv
  have hx := B.exec
  have hb := B.bytes
  have hr := B.returns
  have hts := atoms_spec (ws := cw_X9_init :: gw) B.pre
  have hown : s.vm.findClass RX9 = some m.cls := findClass_of_methodNamed B.named
  have hlocks := B.notSynchronized
  have hin : meth.name = "<init>" := (name_of_methodNamed B.named B.method).1
  have hb0 : gB G ≤ s.heap.size := by omega
  have hsz : s.heap.size + 0 = gB G + S.1 := by omega
  have hS : va_S (aG G) s.heap s.heap [] := va_S.rf
  have hl := lv_entry ([.ref (adr G xl0), .ref (adr G xl1), .ref (adr G xl2)]) (n := 3) (Nat.le_of_ble_eq_true rfl)
  rw [lg_entry_eq]
  generalize (lg_sl ([.ref (adr G xl0), .ref (adr G xl1), .ref (adr G xl2)]) ++ List.replicate (3 - (lg_sl ([.ref (adr G xl0), .ref (adr G xl1), .ref (adr G xl2)])).length) Slot.unset).toArray = ls at hl ⊢
  have hl : lv_has ls 3 [(0, .ref (adr G xl0)), (1, .ref (adr G xl1)), (2, .ref (adr G xl2))] := hl
  unfold wp_X9_init at h
  refine lv_aload_n hx hb dX9_init_0 rfl (lv_at hl 0 rfl) ?_
  refine W.objInit hx hb hown (hts _ (List.mem_cons_of_mem _ kw_470)) (hts _ (List.mem_cons_of_mem _ kw_28)) (hts _ (List.mem_cons_of_mem _ kw_29)) rfl (by rw [hml]; exact hl.1) rfl dX9_init_1 (Nat.le_of_ble_eq_true rfl) (Nat.le_of_ble_eq_true rfl) ?_
  refine W.eq (g2 := F0 m 4 ls []) rfl ?_
  refine lv_aload_n hx hb dX9_init_4 rfl (lv_at hl 0 rfl) ?_
  refine lv_bipush (v := 100) hx hb dX9_init_5 (by decide) ?_
  refine r_newaI hx hb (hts _ (List.mem_cons_of_mem _ kw_169)) hK hP hS hG hb0 hsz (N := 100) (by decide) (by decide) (Nat.le_of_ble_eq_true rfl) (Nat.le_of_ble_eq_true rfl) dX9_init_7 h (fun S1 M2 x3 H h e1 hP hS => ?_)
  replace hsz : s.heap.size + 1 = gB G + S1.1 := by omega
  clear e1
  refine r_pRF (C := RX9) (T := TX9) (N := 5) hx hb hts (fun w h => List.mem_cons_of_mem _ (iX9 w h)) hown hK hP tyX9 tyX9_ok nmX9 hS rfl (by decide) rfl 2 (by decide) (hts _ (List.mem_cons_of_mem _ kw_473)) (fun _ h9 => h9) rfl hin rfl (tyX9_ok 2 (by decide)) rfl rfl dX9_init_9 (by decide) h (fun M4 H locs h hP hS => ?_)
  refine lv_aload_n hx hb dX9_init_12 rfl (lv_at hl 0 rfl) ?_
  refine lv_aload_n hx hb dX9_init_13 rfl (lv_at hl 1 rfl) ?_
  refine r_pRF (C := RX9) (T := TX9) (N := 5) hx hb hts (fun w h => List.mem_cons_of_mem _ (iX9 w h)) hown hK hP tyX9 tyX9_ok nmX9 hS rfl (by decide) rfl 0 (by decide) (hts _ (List.mem_cons_of_mem _ kw_471)) (fun _ h9 => h9) rfl hin rfl (tyX9_ok 0 (by decide)) rfl rfl dX9_init_14 (by decide) h (fun M5 H locs h hP hS => ?_)
  refine lv_aload_n hx hb dX9_init_17 rfl (lv_at hl 0 rfl) ?_
  refine lv_aload_n hx hb dX9_init_18 rfl (lv_at hl 2 rfl) ?_
  refine r_pRF (C := RX9) (T := TX9) (N := 5) hx hb hts (fun w h => List.mem_cons_of_mem _ (iX9 w h)) hown hK hP tyX9 tyX9_ok nmX9 hS rfl (by decide) rfl 1 (by decide) (hts _ (List.mem_cons_of_mem _ kw_472)) (fun _ h9 => h9) rfl hin rfl (tyX9_ok 1 (by decide)) rfl rfl dX9_init_19 (by decide) h (fun M6 H locs h hP hS => ?_)
  exact r_vretA (S0 := S) hx hb hr hlocks hP hS dX9_init_22 h (by omega)

theorem dX12_init_0 : decode cX12_init 0 = .ok (.aload_n 0, 1) := by decide +kernel
theorem dX12_init_1 : decode cX12_init 1 = .ok (.invokespecial 1, 3) := by decide +kernel
theorem dX12_init_4 : decode cX12_init 4 = .ok (.aload_n 0, 1) := by decide +kernel
theorem dX12_init_5 : decode cX12_init 5 = .ok (.sipush 400, 3) := by decide +kernel
theorem dX12_init_8 : decode cX12_init 8 = .ok (.newarray .byte, 2) := by decide +kernel
theorem dX12_init_10 : decode cX12_init 10 = .ok (.putfield 7, 3) := by decide +kernel
theorem dX12_init_13 : decode cX12_init 13 = .ok (.aload_n 0, 1) := by decide +kernel
theorem dX12_init_14 : decode cX12_init 14 = .ok (.sipush 2400, 3) := by decide +kernel
theorem dX12_init_17 : decode cX12_init 17 = .ok (.newarray .int, 2) := by decide +kernel
theorem dX12_init_19 : decode cX12_init 19 = .ok (.putfield 13, 3) := by decide +kernel
theorem dX12_init_22 : decode cX12_init 22 = .ok (.aload_n 0, 1) := by decide +kernel
theorem dX12_init_23 : decode cX12_init 23 = .ok (.bipush 7, 2) := by decide +kernel
theorem dX12_init_25 : decode cX12_init 25 = .ok (.newarray .int, 2) := by decide +kernel
theorem dX12_init_27 : decode cX12_init 27 = .ok (.putfield 17, 3) := by decide +kernel
theorem dX12_init_30 : decode cX12_init 30 = .ok (.aload_n 0, 1) := by decide +kernel
theorem dX12_init_31 : decode cX12_init 31 = .ok (.sipush 288, 3) := by decide +kernel
theorem dX12_init_34 : decode cX12_init 34 = .ok (.newarray .int, 2) := by decide +kernel
theorem dX12_init_36 : decode cX12_init 36 = .ok (.putfield 20, 3) := by decide +kernel
theorem dX12_init_39 : decode cX12_init 39 = .ok (.aload_n 0, 1) := by decide +kernel
theorem dX12_init_40 : decode cX12_init 40 = .ok (.bipush 6, 2) := by decide +kernel
theorem dX12_init_42 : decode cX12_init 42 = .ok (.newarray .int, 2) := by decide +kernel
theorem dX12_init_44 : decode cX12_init 44 = .ok (.putfield 23, 3) := by decide +kernel
theorem dX12_init_47 : decode cX12_init 47 = .ok (.aload_n 0, 1) := by decide +kernel
theorem dX12_init_48 : decode cX12_init 48 = .ok (.bipush 117, 2) := by decide +kernel
theorem dX12_init_50 : decode cX12_init 50 = .ok (.newarray .int, 2) := by decide +kernel
theorem dX12_init_52 : decode cX12_init 52 = .ok (.putfield 26, 3) := by decide +kernel
theorem dX12_init_55 : decode cX12_init 55 = .ok (.aload_n 0, 1) := by decide +kernel
theorem dX12_init_56 : decode cX12_init 56 = .ok (.sipush 400, 3) := by decide +kernel
theorem dX12_init_59 : decode cX12_init 59 = .ok (.newarray .int, 2) := by decide +kernel
theorem dX12_init_61 : decode cX12_init 61 = .ok (.putfield 29, 3) := by decide +kernel
theorem dX12_init_64 : decode cX12_init 64 = .ok (.aload_n 0, 1) := by decide +kernel
theorem dX12_init_65 : decode cX12_init 65 = .ok (.bipush 64, 2) := by decide +kernel
theorem dX12_init_67 : decode cX12_init 67 = .ok (.newarray .long, 2) := by decide +kernel
theorem dX12_init_69 : decode cX12_init 69 = .ok (.putfield 32, 3) := by decide +kernel
theorem dX12_init_72 : decode cX12_init 72 = .ok (.aload_n 0, 1) := by decide +kernel
theorem dX12_init_73 : decode cX12_init 73 = .ok (.bipush 10, 2) := by decide +kernel
theorem dX12_init_75 : decode cX12_init 75 = .ok (.newarray .long, 2) := by decide +kernel
theorem dX12_init_77 : decode cX12_init 77 = .ok (.putfield 36, 3) := by decide +kernel
theorem dX12_init_80 : decode cX12_init 80 = .ok (.aload_n 0, 1) := by decide +kernel
theorem dX12_init_81 : decode cX12_init 81 = .ok (.sipush 158, 3) := by decide +kernel
theorem dX12_init_84 : decode cX12_init 84 = .ok (.newarray .int, 2) := by decide +kernel
theorem dX12_init_86 : decode cX12_init 86 = .ok (.putfield 39, 3) := by decide +kernel
theorem dX12_init_89 : decode cX12_init 89 = .ok (.aload_n 0, 1) := by decide +kernel
theorem dX12_init_90 : decode cX12_init 90 = .ok (.iconst (-1), 1) := by decide +kernel
theorem dX12_init_91 : decode cX12_init 91 = .ok (.putfield 42, 3) := by decide +kernel
theorem dX12_init_94 : decode cX12_init 94 = .ok (.aload_n 0, 1) := by decide +kernel
theorem dX12_init_95 : decode cX12_init 95 = .ok (.sipush 1140, 3) := by decide +kernel
theorem dX12_init_98 : decode cX12_init 98 = .ok (.newarray .int, 2) := by decide +kernel
theorem dX12_init_100 : decode cX12_init 100 = .ok (.putfield 46, 3) := by decide +kernel
theorem dX12_init_103 : decode cX12_init 103 = .ok (.aload_n 0, 1) := by decide +kernel
theorem dX12_init_104 : decode cX12_init 104 = .ok (.bipush 57, 2) := by decide +kernel
theorem dX12_init_106 : decode cX12_init 106 = .ok (.newarray .int, 2) := by decide +kernel
theorem dX12_init_108 : decode cX12_init 108 = .ok (.putfield 49, 3) := by decide +kernel
theorem dX12_init_111 : decode cX12_init 111 = .ok (.aload_n 0, 1) := by decide +kernel
theorem dX12_init_112 : decode cX12_init 112 = .ok (.bipush 6, 2) := by decide +kernel
theorem dX12_init_114 : decode cX12_init 114 = .ok (.newarray .int, 2) := by decide +kernel
theorem dX12_init_116 : decode cX12_init 116 = .ok (.putfield 52, 3) := by decide +kernel
theorem dX12_init_119 : decode cX12_init 119 = .ok (.aload_n 0, 1) := by decide +kernel
theorem dX12_init_120 : decode cX12_init 120 = .ok (.bipush 6, 2) := by decide +kernel
theorem dX12_init_122 : decode cX12_init 122 = .ok (.newarray .int, 2) := by decide +kernel
theorem dX12_init_124 : decode cX12_init 124 = .ok (.putfield 55, 3) := by decide +kernel
theorem dX12_init_127 : decode cX12_init 127 = .ok (.aload_n 0, 1) := by decide +kernel
theorem dX12_init_128 : decode cX12_init 128 = .ok (.iconst 5, 1) := by decide +kernel
theorem dX12_init_129 : decode cX12_init 129 = .ok (.newarray .int, 2) := by decide +kernel
theorem dX12_init_131 : decode cX12_init 131 = .ok (.putfield 58, 3) := by decide +kernel
theorem dX12_init_134 : decode cX12_init 134 = .ok (.aload_n 0, 1) := by decide +kernel
theorem dX12_init_135 : decode cX12_init 135 = .ok (.sipush 3913, 3) := by decide +kernel
theorem dX12_init_138 : decode cX12_init 138 = .ok (.newarray .int, 2) := by decide +kernel
theorem dX12_init_140 : decode cX12_init 140 = .ok (.putfield 61, 3) := by decide +kernel
theorem dX12_init_143 : decode cX12_init 143 = .ok (.aload_n 0, 1) := by decide +kernel
theorem dX12_init_144 : decode cX12_init 144 = .ok (.sipush 3913, 3) := by decide +kernel
theorem dX12_init_147 : decode cX12_init 147 = .ok (.newarray .boolean, 2) := by decide +kernel
theorem dX12_init_149 : decode cX12_init 149 = .ok (.putfield 64, 3) := by decide +kernel
theorem dX12_init_152 : decode cX12_init 152 = .ok (.aload_n 0, 1) := by decide +kernel
theorem dX12_init_153 : decode cX12_init 153 = .ok (.sipush 632, 3) := by decide +kernel
theorem dX12_init_156 : decode cX12_init 156 = .ok (.newarray .int, 2) := by decide +kernel
theorem dX12_init_158 : decode cX12_init 158 = .ok (.putfield 68, 3) := by decide +kernel
theorem dX12_init_161 : decode cX12_init 161 = .ok (.aload_n 0, 1) := by decide +kernel
theorem dX12_init_162 : decode cX12_init 162 = .ok (.iconst 4, 1) := by decide +kernel
theorem dX12_init_163 : decode cX12_init 163 = .ok (.newarray .int, 2) := by decide +kernel
theorem dX12_init_165 : decode cX12_init 165 = .ok (.putfield 71, 3) := by decide +kernel
theorem dX12_init_168 : decode cX12_init 168 = .ok (.aload_n 0, 1) := by decide +kernel
theorem dX12_init_169 : decode cX12_init 169 = .ok (.iconst 4, 1) := by decide +kernel
theorem dX12_init_170 : decode cX12_init 170 = .ok (.newarray .int, 2) := by decide +kernel
theorem dX12_init_172 : decode cX12_init 172 = .ok (.putfield 74, 3) := by decide +kernel
theorem dX12_init_175 : decode cX12_init 175 = .ok (.aload_n 0, 1) := by decide +kernel
theorem dX12_init_176 : decode cX12_init 176 = .ok (.iconst 4, 1) := by decide +kernel
theorem dX12_init_177 : decode cX12_init 177 = .ok (.newarray .boolean, 2) := by decide +kernel
theorem dX12_init_179 : decode cX12_init 179 = .ok (.putfield 77, 3) := by decide +kernel
theorem dX12_init_182 : decode cX12_init 182 = .ok (.return_, 1) := by decide +kernel
abbrev RM_X12_init : Room := { frames := 1, cells := 21, slots := 13534, locals := 60 }
def cw_X12_init : Cond := Cond.code yX12_init cX12_init 1 (Option.none : Option FieldType)
theorem hd_X12_init : yX12_init.cls ≠ "java/lang/invoke/MethodHandle" ∧ yX12_init.cls ≠ "java/lang/invoke/VarHandle" ∧ (parseMethodDescriptor yX12_init.desc).map (fun d => d.parameters.length) = some 0 := by decide +kernel
def wp_X12_init (S : Sh) (M : Mm) (u0 : Int) (post : Sh → Mm → Prop) : Prop := wNewA S M 13 400 fun S1 M2 x3 => wPutR S1 M2 u0 12 0 x3 fun M4 => wNewA S1 M4 14 2400 fun S5 M6 x7 => wPutR S5 M6 u0 12 3 x7 fun M8 => wNewA S5 M8 14 7 fun S9 M10 x11 => wPutR S9 M10 u0 12 4 x11 fun M12 => wNewA S9 M12 14 288 fun S13 M14 x15 => wPutR S13 M14 u0 12 5 x15 fun M16 => wNewA S13 M16 14 6 fun S17 M18 x19 => wPutR S17 M18 u0 12 6 x19 fun M20 => wNewA S17 M20 14 117 fun S21 M22 x23 => wPutR S21 M22 u0 12 7 x23 fun M24 => wNewA S21 M24 14 400 fun S25 M26 x27 => wPutR S25 M26 u0 12 15 x27 fun M28 => wNewA S25 M28 16 64 fun S29 M30 x31 => wPutR S29 M30 u0 12 17 x31 fun M32 => wNewA S29 M32 16 10 fun S33 M34 x35 => wPutR S33 M34 u0 12 19 x35 fun M36 => wNewA S33 M36 14 158 fun S37 M38 x39 => wPutR S37 M38 u0 12 20 x39 fun M40 => wC (-1) fun v41 => wPut S37 M40 u0 12 21 v41 fun M43 => wNewA S37 M43 14 1140 fun S44 M45 x46 => wPutR S44 M45 u0 12 24 x46 fun M47 => wNewA S44 M47 14 57 fun S48 M49 x50 => wPutR S48 M49 u0 12 26 x50 fun M51 => wNewA S48 M51 14 6 fun S52 M53 x54 => wPutR S52 M53 u0 12 27 x54 fun M55 => wNewA S52 M55 14 6 fun S56 M57 x58 => wPutR S56 M57 u0 12 28 x58 fun M59 => wNewA S56 M59 14 5 fun S60 M61 x62 => wPutR S60 M61 u0 12 30 x62 fun M63 => wNewA S60 M63 14 3913 fun S64 M65 x66 => wPutR S64 M65 u0 12 31 x66 fun M67 => wNewA S64 M67 15 3913 fun S68 M69 x70 => wPutR S68 M69 u0 12 32 x70 fun M71 => wNewA S68 M71 14 632 fun S72 M73 x74 => wPutR S72 M73 u0 12 34 x74 fun M75 => wNewA S72 M75 14 4 fun S76 M77 x78 => wPutR S76 M77 u0 12 35 x78 fun M79 => wNewA S76 M79 14 4 fun S80 M81 x82 => wPutR S80 M81 u0 12 36 x82 fun M83 => wNewA S80 M83 15 4 fun S84 M85 x86 => wPutR S84 M85 u0 12 37 x86 fun M87 => post S84 M87
set_option maxHeartbeats 8000000 in
set_option maxRecDepth 100000 in
theorem c_X12_init (l : Launch) (D : va_G) (G : Gt) (S : Sh) (M : Mm) (hG : ∀ a : Nat, G.1 a = gB G + a) (xl0 : Int) (post : Sh → Mm → Prop) (h : wp_X12_init S M xl0 post) : Met l yX12_init (cw_X12_init :: gw) RM_X12_init (PA D G S M [.ref (adr G xl0)]) (QA D G S 21 post) 21 13534 (aG G) := by
  refine Met.ofW (cc := cX12_init) (maxL := 1) (ret := none) (by decide) rfl ?_
  intro p e s m args below meth c s₁ B hml hv
  obtain ⟨rfl, hK, hP, hsz0⟩ := hv
  have hx := B.exec
  have hb := B.bytes
  have hr := B.returns
  have hts := atoms_spec (ws := cw_X12_init :: gw) B.pre
  have hown : s.vm.findClass RX12 = some m.cls := findClass_of_methodNamed B.named
  have hlocks := B.notSynchronized
  have hin : meth.name = "<init>" := (name_of_methodNamed B.named B.method).1
  have hb0 : gB G ≤ s.heap.size := by omega
  have hsz : s.heap.size + 0 = gB G + S.1 := by omega
  have hS : va_S (aG G) s.heap s.heap [] := va_S.rf
  have hl := lv_entry ([.ref (adr G xl0)]) (n := 1) (Nat.le_of_ble_eq_true rfl)
  rw [lg_entry_eq]
  generalize (lg_sl ([.ref (adr G xl0)]) ++ List.replicate (1 - (lg_sl ([.ref (adr G xl0)])).length) Slot.unset).toArray = ls at hl ⊢
  have hl : lv_has ls 1 [(0, .ref (adr G xl0))] := hl
  unfold wp_X12_init at h
  refine lv_aload_n hx hb dX12_init_0 rfl (lv_at hl 0 rfl) ?_
  refine W.objInit hx hb hown (hts _ (List.mem_cons_of_mem _ kw_1333)) (hts _ (List.mem_cons_of_mem _ kw_28)) (hts _ (List.mem_cons_of_mem _ kw_29)) rfl (by rw [hml]; exact hl.1) rfl dX12_init_1 (Nat.le_of_ble_eq_true rfl) (Nat.le_of_ble_eq_true rfl) ?_
  refine W.eq (g2 := F0 m 4 ls []) rfl ?_
  refine lv_aload_n hx hb dX12_init_4 rfl (lv_at hl 0 rfl) ?_
  refine lv_sipush (v := 400) hx hb dX12_init_5 (by decide) ?_
  refine r_newaB hx hb (hts _ (List.mem_cons_of_mem _ kw_54)) hK hP hS hG hb0 hsz (N := 400) (by decide) (by decide) (Nat.le_of_ble_eq_true rfl) (Nat.le_of_ble_eq_true rfl) dX12_init_8 h (fun S1 M2 x3 H h e1 hP hS => ?_)
  replace hsz : s.heap.size + 1 = gB G + S1.1 := by omega
  clear e1
  refine r_pRF (C := RX12) (T := TX12) (N := 38) hx hb hts (fun w h => List.mem_cons_of_mem _ (iX12 w h)) hown hK hP tyX12 tyX12_ok nmX12 hS rfl (by decide) rfl 0 (by decide) (hts _ (List.mem_cons_of_mem _ kw_1334)) (fun _ h9 => h9) rfl hin rfl (tyX12_ok 0 (by decide)) rfl rfl dX12_init_10 (by decide) h (fun M4 H locs h hP hS => ?_)
  refine lv_aload_n hx hb dX12_init_13 rfl (lv_at hl 0 rfl) ?_
  refine lv_sipush (v := 2400) hx hb dX12_init_14 (by decide) ?_
  refine r_newaI hx hb (hts _ (List.mem_cons_of_mem _ kw_169)) hK hP hS hG hb0 hsz (N := 2400) (by decide) (by decide) (Nat.le_of_ble_eq_true rfl) (Nat.le_of_ble_eq_true rfl) dX12_init_17 h (fun S5 M6 x7 H h e1 hP hS => ?_)
  replace hsz : s.heap.size + 2 = gB G + S5.1 := by omega
  clear e1
  refine r_pRF (C := RX12) (T := TX12) (N := 38) hx hb hts (fun w h => List.mem_cons_of_mem _ (iX12 w h)) hown hK hP tyX12 tyX12_ok nmX12 hS rfl (by decide) rfl 3 (by decide) (hts _ (List.mem_cons_of_mem _ kw_1337)) (fun _ h9 => h9) rfl hin rfl (tyX12_ok 3 (by decide)) rfl rfl dX12_init_19 (by decide) h (fun M8 H locs h hP hS => ?_)
  refine lv_aload_n hx hb dX12_init_22 rfl (lv_at hl 0 rfl) ?_
  refine lv_bipush (v := 7) hx hb dX12_init_23 (by decide) ?_
  refine r_newaI hx hb (hts _ (List.mem_cons_of_mem _ kw_169)) hK hP hS hG hb0 hsz (N := 7) (by decide) (by decide) (Nat.le_of_ble_eq_true rfl) (Nat.le_of_ble_eq_true rfl) dX12_init_25 h (fun S9 M10 x11 H h e1 hP hS => ?_)
  replace hsz : s.heap.size + 3 = gB G + S9.1 := by omega
  clear e1
  refine r_pRF (C := RX12) (T := TX12) (N := 38) hx hb hts (fun w h => List.mem_cons_of_mem _ (iX12 w h)) hown hK hP tyX12 tyX12_ok nmX12 hS rfl (by decide) rfl 4 (by decide) (hts _ (List.mem_cons_of_mem _ kw_1338)) (fun _ h9 => h9) rfl hin rfl (tyX12_ok 4 (by decide)) rfl rfl dX12_init_27 (by decide) h (fun M12 H locs h hP hS => ?_)
  refine lv_aload_n hx hb dX12_init_30 rfl (lv_at hl 0 rfl) ?_
  refine lv_sipush (v := 288) hx hb dX12_init_31 (by decide) ?_
  refine r_newaI hx hb (hts _ (List.mem_cons_of_mem _ kw_169)) hK hP hS hG hb0 hsz (N := 288) (by decide) (by decide) (Nat.le_of_ble_eq_true rfl) (Nat.le_of_ble_eq_true rfl) dX12_init_34 h (fun S13 M14 x15 H h e1 hP hS => ?_)
  replace hsz : s.heap.size + 4 = gB G + S13.1 := by omega
  clear e1
  refine r_pRF (C := RX12) (T := TX12) (N := 38) hx hb hts (fun w h => List.mem_cons_of_mem _ (iX12 w h)) hown hK hP tyX12 tyX12_ok nmX12 hS rfl (by decide) rfl 5 (by decide) (hts _ (List.mem_cons_of_mem _ kw_1339)) (fun _ h9 => h9) rfl hin rfl (tyX12_ok 5 (by decide)) rfl rfl dX12_init_36 (by decide) h (fun M16 H locs h hP hS => ?_)
  refine lv_aload_n hx hb dX12_init_39 rfl (lv_at hl 0 rfl) ?_
  refine lv_bipush (v := 6) hx hb dX12_init_40 (by decide) ?_
  refine r_newaI hx hb (hts _ (List.mem_cons_of_mem _ kw_169)) hK hP hS hG hb0 hsz (N := 6) (by decide) (by decide) (Nat.le_of_ble_eq_true rfl) (Nat.le_of_ble_eq_true rfl) dX12_init_42 h (fun S17 M18 x19 H h e1 hP hS => ?_)
  replace hsz : s.heap.size + 5 = gB G + S17.1 := by omega
  clear e1
  refine r_pRF (C := RX12) (T := TX12) (N := 38) hx hb hts (fun w h => List.mem_cons_of_mem _ (iX12 w h)) hown hK hP tyX12 tyX12_ok nmX12 hS rfl (by decide) rfl 6 (by decide) (hts _ (List.mem_cons_of_mem _ kw_1340)) (fun _ h9 => h9) rfl hin rfl (tyX12_ok 6 (by decide)) rfl rfl dX12_init_44 (by decide) h (fun M20 H locs h hP hS => ?_)
  refine lv_aload_n hx hb dX12_init_47 rfl (lv_at hl 0 rfl) ?_
  refine lv_bipush (v := 117) hx hb dX12_init_48 (by decide) ?_
  refine r_newaI hx hb (hts _ (List.mem_cons_of_mem _ kw_169)) hK hP hS hG hb0 hsz (N := 117) (by decide) (by decide) (Nat.le_of_ble_eq_true rfl) (Nat.le_of_ble_eq_true rfl) dX12_init_50 h (fun S21 M22 x23 H h e1 hP hS => ?_)
  replace hsz : s.heap.size + 6 = gB G + S21.1 := by omega
  clear e1
  refine r_pRF (C := RX12) (T := TX12) (N := 38) hx hb hts (fun w h => List.mem_cons_of_mem _ (iX12 w h)) hown hK hP tyX12 tyX12_ok nmX12 hS rfl (by decide) rfl 7 (by decide) (hts _ (List.mem_cons_of_mem _ kw_1341)) (fun _ h9 => h9) rfl hin rfl (tyX12_ok 7 (by decide)) rfl rfl dX12_init_52 (by decide) h (fun M24 H locs h hP hS => ?_)
  refine lv_aload_n hx hb dX12_init_55 rfl (lv_at hl 0 rfl) ?_
  refine lv_sipush (v := 400) hx hb dX12_init_56 (by decide) ?_
  refine r_newaI hx hb (hts _ (List.mem_cons_of_mem _ kw_169)) hK hP hS hG hb0 hsz (N := 400) (by decide) (by decide) (Nat.le_of_ble_eq_true rfl) (Nat.le_of_ble_eq_true rfl) dX12_init_59 h (fun S25 M26 x27 H h e1 hP hS => ?_)
  replace hsz : s.heap.size + 7 = gB G + S25.1 := by omega
  clear e1
  refine r_pRF (C := RX12) (T := TX12) (N := 38) hx hb hts (fun w h => List.mem_cons_of_mem _ (iX12 w h)) hown hK hP tyX12 tyX12_ok nmX12 hS rfl (by decide) rfl 15 (by decide) (hts _ (List.mem_cons_of_mem _ kw_1349)) (fun _ h9 => h9) rfl hin rfl (tyX12_ok 15 (by decide)) rfl rfl dX12_init_61 (by decide) h (fun M28 H locs h hP hS => ?_)
  refine lv_aload_n hx hb dX12_init_64 rfl (lv_at hl 0 rfl) ?_
  refine lv_bipush (v := 64) hx hb dX12_init_65 (by decide) ?_
  refine r_newaJ hx hb (hts _ (List.mem_cons_of_mem _ kw_391)) hK hP hS hG hb0 hsz (N := 64) (by decide) (by decide) (Nat.le_of_ble_eq_true rfl) (Nat.le_of_ble_eq_true rfl) dX12_init_67 h (fun S29 M30 x31 H h e1 hP hS => ?_)
  replace hsz : s.heap.size + 8 = gB G + S29.1 := by omega
  clear e1
  refine r_pRF (C := RX12) (T := TX12) (N := 38) hx hb hts (fun w h => List.mem_cons_of_mem _ (iX12 w h)) hown hK hP tyX12 tyX12_ok nmX12 hS rfl (by decide) rfl 17 (by decide) (hts _ (List.mem_cons_of_mem _ kw_1351)) (fun _ h9 => h9) rfl hin rfl (tyX12_ok 17 (by decide)) rfl rfl dX12_init_69 (by decide) h (fun M32 H locs h hP hS => ?_)
  refine lv_aload_n hx hb dX12_init_72 rfl (lv_at hl 0 rfl) ?_
  refine lv_bipush (v := 10) hx hb dX12_init_73 (by decide) ?_
  refine r_newaJ hx hb (hts _ (List.mem_cons_of_mem _ kw_391)) hK hP hS hG hb0 hsz (N := 10) (by decide) (by decide) (Nat.le_of_ble_eq_true rfl) (Nat.le_of_ble_eq_true rfl) dX12_init_75 h (fun S33 M34 x35 H h e1 hP hS => ?_)
  replace hsz : s.heap.size + 9 = gB G + S33.1 := by omega
  clear e1
  refine r_pRF (C := RX12) (T := TX12) (N := 38) hx hb hts (fun w h => List.mem_cons_of_mem _ (iX12 w h)) hown hK hP tyX12 tyX12_ok nmX12 hS rfl (by decide) rfl 19 (by decide) (hts _ (List.mem_cons_of_mem _ kw_1353)) (fun _ h9 => h9) rfl hin rfl (tyX12_ok 19 (by decide)) rfl rfl dX12_init_77 (by decide) h (fun M36 H locs h hP hS => ?_)
  refine lv_aload_n hx hb dX12_init_80 rfl (lv_at hl 0 rfl) ?_
  refine lv_sipush (v := 158) hx hb dX12_init_81 (by decide) ?_
  refine r_newaI hx hb (hts _ (List.mem_cons_of_mem _ kw_169)) hK hP hS hG hb0 hsz (N := 158) (by decide) (by decide) (Nat.le_of_ble_eq_true rfl) (Nat.le_of_ble_eq_true rfl) dX12_init_84 h (fun S37 M38 x39 H h e1 hP hS => ?_)
  replace hsz : s.heap.size + 10 = gB G + S37.1 := by omega
  clear e1
  refine r_pRF (C := RX12) (T := TX12) (N := 38) hx hb hts (fun w h => List.mem_cons_of_mem _ (iX12 w h)) hown hK hP tyX12 tyX12_ok nmX12 hS rfl (by decide) rfl 20 (by decide) (hts _ (List.mem_cons_of_mem _ kw_1354)) (fun _ h9 => h9) rfl hin rfl (tyX12_ok 20 (by decide)) rfl rfl dX12_init_86 (by decide) h (fun M40 H locs h hP hS => ?_)
  refine lv_aload_n hx hb dX12_init_89 rfl (lv_at hl 0 rfl) ?_
  refine r_iconst hx hb dX12_init_90 (by decide) h (fun z42 h => ?_)
  refine r_puti (C := RX12) (T := TX12) (N := 38) hx hb hts (fun w h => List.mem_cons_of_mem _ (iX12 w h)) hown hK hP tyX12 tyX12_ok nmX12 hS rfl (by decide) rfl 21 (by decide) (hts _ (List.mem_cons_of_mem _ kw_1355)) (fun _ h9 => h9) rfl (tyX12_ok 21 (by decide)) rfl rfl dX12_init_91 (by decide) h (fun M43 H locs h hP hS => ?_)
  refine lv_aload_n hx hb dX12_init_94 rfl (lv_at hl 0 rfl) ?_
  refine lv_sipush (v := 1140) hx hb dX12_init_95 (by decide) ?_
  refine r_newaI hx hb (hts _ (List.mem_cons_of_mem _ kw_169)) hK hP hS hG hb0 hsz (N := 1140) (by decide) (by decide) (Nat.le_of_ble_eq_true rfl) (Nat.le_of_ble_eq_true rfl) dX12_init_98 h (fun S44 M45 x46 H h e1 hP hS => ?_)
  replace hsz : s.heap.size + 11 = gB G + S44.1 := by omega
  clear e1
  refine r_pRF (C := RX12) (T := TX12) (N := 38) hx hb hts (fun w h => List.mem_cons_of_mem _ (iX12 w h)) hown hK hP tyX12 tyX12_ok nmX12 hS rfl (by decide) rfl 24 (by decide) (hts _ (List.mem_cons_of_mem _ kw_1358)) (fun _ h9 => h9) rfl hin rfl (tyX12_ok 24 (by decide)) rfl rfl dX12_init_100 (by decide) h (fun M47 H locs h hP hS => ?_)
  refine lv_aload_n hx hb dX12_init_103 rfl (lv_at hl 0 rfl) ?_
  refine lv_bipush (v := 57) hx hb dX12_init_104 (by decide) ?_
  refine r_newaI hx hb (hts _ (List.mem_cons_of_mem _ kw_169)) hK hP hS hG hb0 hsz (N := 57) (by decide) (by decide) (Nat.le_of_ble_eq_true rfl) (Nat.le_of_ble_eq_true rfl) dX12_init_106 h (fun S48 M49 x50 H h e1 hP hS => ?_)
  replace hsz : s.heap.size + 12 = gB G + S48.1 := by omega
  clear e1
  refine r_pRF (C := RX12) (T := TX12) (N := 38) hx hb hts (fun w h => List.mem_cons_of_mem _ (iX12 w h)) hown hK hP tyX12 tyX12_ok nmX12 hS rfl (by decide) rfl 26 (by decide) (hts _ (List.mem_cons_of_mem _ kw_1360)) (fun _ h9 => h9) rfl hin rfl (tyX12_ok 26 (by decide)) rfl rfl dX12_init_108 (by decide) h (fun M51 H locs h hP hS => ?_)
  refine lv_aload_n hx hb dX12_init_111 rfl (lv_at hl 0 rfl) ?_
  refine lv_bipush (v := 6) hx hb dX12_init_112 (by decide) ?_
  refine r_newaI hx hb (hts _ (List.mem_cons_of_mem _ kw_169)) hK hP hS hG hb0 hsz (N := 6) (by decide) (by decide) (Nat.le_of_ble_eq_true rfl) (Nat.le_of_ble_eq_true rfl) dX12_init_114 h (fun S52 M53 x54 H h e1 hP hS => ?_)
  replace hsz : s.heap.size + 13 = gB G + S52.1 := by omega
  clear e1
  refine r_pRF (C := RX12) (T := TX12) (N := 38) hx hb hts (fun w h => List.mem_cons_of_mem _ (iX12 w h)) hown hK hP tyX12 tyX12_ok nmX12 hS rfl (by decide) rfl 27 (by decide) (hts _ (List.mem_cons_of_mem _ kw_1361)) (fun _ h9 => h9) rfl hin rfl (tyX12_ok 27 (by decide)) rfl rfl dX12_init_116 (by decide) h (fun M55 H locs h hP hS => ?_)
  refine lv_aload_n hx hb dX12_init_119 rfl (lv_at hl 0 rfl) ?_
  refine lv_bipush (v := 6) hx hb dX12_init_120 (by decide) ?_
  refine r_newaI hx hb (hts _ (List.mem_cons_of_mem _ kw_169)) hK hP hS hG hb0 hsz (N := 6) (by decide) (by decide) (Nat.le_of_ble_eq_true rfl) (Nat.le_of_ble_eq_true rfl) dX12_init_122 h (fun S56 M57 x58 H h e1 hP hS => ?_)
  replace hsz : s.heap.size + 14 = gB G + S56.1 := by omega
  clear e1
  refine r_pRF (C := RX12) (T := TX12) (N := 38) hx hb hts (fun w h => List.mem_cons_of_mem _ (iX12 w h)) hown hK hP tyX12 tyX12_ok nmX12 hS rfl (by decide) rfl 28 (by decide) (hts _ (List.mem_cons_of_mem _ kw_1362)) (fun _ h9 => h9) rfl hin rfl (tyX12_ok 28 (by decide)) rfl rfl dX12_init_124 (by decide) h (fun M59 H locs h hP hS => ?_)
  refine lv_aload_n hx hb dX12_init_127 rfl (lv_at hl 0 rfl) ?_
  refine lv_iconst (v := 5) hx hb dX12_init_128 (by decide) ?_
  refine r_newaI hx hb (hts _ (List.mem_cons_of_mem _ kw_169)) hK hP hS hG hb0 hsz (N := 5) (by decide) (by decide) (Nat.le_of_ble_eq_true rfl) (Nat.le_of_ble_eq_true rfl) dX12_init_129 h (fun S60 M61 x62 H h e1 hP hS => ?_)
  replace hsz : s.heap.size + 15 = gB G + S60.1 := by omega
  clear e1
  refine r_pRF (C := RX12) (T := TX12) (N := 38) hx hb hts (fun w h => List.mem_cons_of_mem _ (iX12 w h)) hown hK hP tyX12 tyX12_ok nmX12 hS rfl (by decide) rfl 30 (by decide) (hts _ (List.mem_cons_of_mem _ kw_1364)) (fun _ h9 => h9) rfl hin rfl (tyX12_ok 30 (by decide)) rfl rfl dX12_init_131 (by decide) h (fun M63 H locs h hP hS => ?_)
  refine lv_aload_n hx hb dX12_init_134 rfl (lv_at hl 0 rfl) ?_
  refine lv_sipush (v := 3913) hx hb dX12_init_135 (by decide) ?_
  refine r_newaI hx hb (hts _ (List.mem_cons_of_mem _ kw_169)) hK hP hS hG hb0 hsz (N := 3913) (by decide) (by decide) (Nat.le_of_ble_eq_true rfl) (Nat.le_of_ble_eq_true rfl) dX12_init_138 h (fun S64 M65 x66 H h e1 hP hS => ?_)
  replace hsz : s.heap.size + 16 = gB G + S64.1 := by omega
  clear e1
  refine r_pRF (C := RX12) (T := TX12) (N := 38) hx hb hts (fun w h => List.mem_cons_of_mem _ (iX12 w h)) hown hK hP tyX12 tyX12_ok nmX12 hS rfl (by decide) rfl 31 (by decide) (hts _ (List.mem_cons_of_mem _ kw_1365)) (fun _ h9 => h9) rfl hin rfl (tyX12_ok 31 (by decide)) rfl rfl dX12_init_140 (by decide) h (fun M67 H locs h hP hS => ?_)
  refine lv_aload_n hx hb dX12_init_143 rfl (lv_at hl 0 rfl) ?_
  refine lv_sipush (v := 3913) hx hb dX12_init_144 (by decide) ?_
  refine r_newaZ hx hb (hts _ (List.mem_cons_of_mem _ kw_1449)) hK hP hS hG hb0 hsz (N := 3913) (by decide) (by decide) (Nat.le_of_ble_eq_true rfl) (Nat.le_of_ble_eq_true rfl) dX12_init_147 h (fun S68 M69 x70 H h e1 hP hS => ?_)
  replace hsz : s.heap.size + 17 = gB G + S68.1 := by omega
  clear e1
  refine r_pRF (C := RX12) (T := TX12) (N := 38) hx hb hts (fun w h => List.mem_cons_of_mem _ (iX12 w h)) hown hK hP tyX12 tyX12_ok nmX12 hS rfl (by decide) rfl 32 (by decide) (hts _ (List.mem_cons_of_mem _ kw_1366)) (fun _ h9 => h9) rfl hin rfl (tyX12_ok 32 (by decide)) rfl rfl dX12_init_149 (by decide) h (fun M71 H locs h hP hS => ?_)
  refine lv_aload_n hx hb dX12_init_152 rfl (lv_at hl 0 rfl) ?_
  refine lv_sipush (v := 632) hx hb dX12_init_153 (by decide) ?_
  refine r_newaI hx hb (hts _ (List.mem_cons_of_mem _ kw_169)) hK hP hS hG hb0 hsz (N := 632) (by decide) (by decide) (Nat.le_of_ble_eq_true rfl) (Nat.le_of_ble_eq_true rfl) dX12_init_156 h (fun S72 M73 x74 H h e1 hP hS => ?_)
  replace hsz : s.heap.size + 18 = gB G + S72.1 := by omega
  clear e1
  refine r_pRF (C := RX12) (T := TX12) (N := 38) hx hb hts (fun w h => List.mem_cons_of_mem _ (iX12 w h)) hown hK hP tyX12 tyX12_ok nmX12 hS rfl (by decide) rfl 34 (by decide) (hts _ (List.mem_cons_of_mem _ kw_1368)) (fun _ h9 => h9) rfl hin rfl (tyX12_ok 34 (by decide)) rfl rfl dX12_init_158 (by decide) h (fun M75 H locs h hP hS => ?_)
  refine lv_aload_n hx hb dX12_init_161 rfl (lv_at hl 0 rfl) ?_
  refine lv_iconst (v := 4) hx hb dX12_init_162 (by decide) ?_
  refine r_newaI hx hb (hts _ (List.mem_cons_of_mem _ kw_169)) hK hP hS hG hb0 hsz (N := 4) (by decide) (by decide) (Nat.le_of_ble_eq_true rfl) (Nat.le_of_ble_eq_true rfl) dX12_init_163 h (fun S76 M77 x78 H h e1 hP hS => ?_)
  replace hsz : s.heap.size + 19 = gB G + S76.1 := by omega
  clear e1
  refine r_pRF (C := RX12) (T := TX12) (N := 38) hx hb hts (fun w h => List.mem_cons_of_mem _ (iX12 w h)) hown hK hP tyX12 tyX12_ok nmX12 hS rfl (by decide) rfl 35 (by decide) (hts _ (List.mem_cons_of_mem _ kw_1369)) (fun _ h9 => h9) rfl hin rfl (tyX12_ok 35 (by decide)) rfl rfl dX12_init_165 (by decide) h (fun M79 H locs h hP hS => ?_)
  refine lv_aload_n hx hb dX12_init_168 rfl (lv_at hl 0 rfl) ?_
  refine lv_iconst (v := 4) hx hb dX12_init_169 (by decide) ?_
  refine r_newaI hx hb (hts _ (List.mem_cons_of_mem _ kw_169)) hK hP hS hG hb0 hsz (N := 4) (by decide) (by decide) (Nat.le_of_ble_eq_true rfl) (Nat.le_of_ble_eq_true rfl) dX12_init_170 h (fun S80 M81 x82 H h e1 hP hS => ?_)
  replace hsz : s.heap.size + 20 = gB G + S80.1 := by omega
  clear e1
  refine r_pRF (C := RX12) (T := TX12) (N := 38) hx hb hts (fun w h => List.mem_cons_of_mem _ (iX12 w h)) hown hK hP tyX12 tyX12_ok nmX12 hS rfl (by decide) rfl 36 (by decide) (hts _ (List.mem_cons_of_mem _ kw_1370)) (fun _ h9 => h9) rfl hin rfl (tyX12_ok 36 (by decide)) rfl rfl dX12_init_172 (by decide) h (fun M83 H locs h hP hS => ?_)
  refine lv_aload_n hx hb dX12_init_175 rfl (lv_at hl 0 rfl) ?_
  refine lv_iconst (v := 4) hx hb dX12_init_176 (by decide) ?_
  refine r_newaZ hx hb (hts _ (List.mem_cons_of_mem _ kw_1449)) hK hP hS hG hb0 hsz (N := 4) (by decide) (by decide) (Nat.le_of_ble_eq_true rfl) (Nat.le_of_ble_eq_true rfl) dX12_init_177 h (fun S84 M85 x86 H h e1 hP hS => ?_)
  replace hsz : s.heap.size + 21 = gB G + S84.1 := by omega
  clear e1
  refine r_pRF (C := RX12) (T := TX12) (N := 38) hx hb hts (fun w h => List.mem_cons_of_mem _ (iX12 w h)) hown hK hP tyX12 tyX12_ok nmX12 hS rfl (by decide) rfl 37 (by decide) (hts _ (List.mem_cons_of_mem _ kw_1371)) (fun _ h9 => h9) rfl hin rfl (tyX12_ok 37 (by decide)) rfl rfl dX12_init_179 (by decide) h (fun M87 H locs h hP hS => ?_)
  exact r_vretA (S0 := S) hx hb hr hlocks hP hS dX12_init_182 h (by omega)
