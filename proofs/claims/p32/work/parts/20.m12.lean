/-! TurningMilkModel.firstHand(III)I -/
abbrev RM_X12_firstHand : Room := { frames := 2, cells := 0, slots := 0, locals := 62 }
def cw_X12_firstHand : Cond := Cond.code yX12_firstHand cX12_firstHand 7 (Option.some FieldType.int)
theorem hd_X12_firstHand : yX12_firstHand.cls ≠ "java/lang/invoke/MethodHandle" ∧ yX12_firstHand.cls ≠ "java/lang/invoke/VarHandle" ∧ (parseMethodDescriptor yX12_firstHand.desc).map (fun d => d.parameters.length) = some 3 := by decide +kernel
theorem dX12_firstHand_0 : decode cX12_firstHand 0 = .ok (.iload_n 2, 1) := by decide +kernel
theorem dX12_firstHand_1 : decode cX12_firstHand 1 = .ok (.istore 4, 2) := by decide +kernel
theorem dX12_firstHand_3 : decode cX12_firstHand 3 = .ok (.iconst 0, 1) := by decide +kernel
theorem dX12_firstHand_4 : decode cX12_firstHand 4 = .ok (.istore 5, 2) := by decide +kernel
theorem dX12_firstHand_6 : decode cX12_firstHand 6 = .ok (.iconst 0, 1) := by decide +kernel
theorem dX12_firstHand_7 : decode cX12_firstHand 7 = .ok (.istore 6, 2) := by decide +kernel
theorem dX12_firstHand_9 : decode cX12_firstHand 9 = .ok (.iload 6, 2) := by decide +kernel
theorem dX12_firstHand_11 : decode cX12_firstHand 11 = .ok (.iload_n 3, 1) := by decide +kernel
theorem dX12_firstHand_12 : decode cX12_firstHand 12 = .ok (.if_icmp .gt 69, 3) := by decide +kernel
theorem dX12_firstHand_15 : decode cX12_firstHand 15 = .ok (.iconst 0, 1) := by decide +kernel
theorem dX12_firstHand_16 : decode cX12_firstHand 16 = .ok (.istore 5, 2) := by decide +kernel
theorem dX12_firstHand_18 : decode cX12_firstHand 18 = .ok (.iload 4, 2) := by decide +kernel
theorem dX12_firstHand_20 : decode cX12_firstHand 20 = .ok (.aload_n 0, 1) := by decide +kernel
theorem dX12_firstHand_21 : decode cX12_firstHand 21 = .ok (.iload 5, 2) := by decide +kernel
theorem dX12_firstHand_23 : decode cX12_firstHand 23 = .ok (.iconst 3, 1) := by decide +kernel
theorem dX12_firstHand_24 : decode cX12_firstHand 24 = .ok (.invokevirtual 306, 3) := by decide +kernel
theorem dX12_firstHand_27 : decode cX12_firstHand 27 = .ok (.if_icmp .lt 30, 3) := by decide +kernel
theorem dX12_firstHand_30 : decode cX12_firstHand 30 = .ok (.aload_n 0, 1) := by decide +kernel
theorem dX12_firstHand_31 : decode cX12_firstHand 31 = .ok (.getfield 64, 3) := by decide +kernel
theorem dX12_firstHand_34 : decode cX12_firstHand 34 = .ok (.iload_n 1, 1) := by decide +kernel
theorem dX12_firstHand_35 : decode cX12_firstHand 35 = .ok (.iconst 1, 1) := by decide +kernel
theorem dX12_firstHand_36 : decode cX12_firstHand 36 = .ok (.isub, 1) := by decide +kernel
theorem dX12_firstHand_37 : decode cX12_firstHand 37 = .ok (.iload 6, 2) := by decide +kernel
theorem dX12_firstHand_39 : decode cX12_firstHand 39 = .ok (.isub, 1) := by decide +kernel
theorem dX12_firstHand_40 : decode cX12_firstHand 40 = .ok (.iload 4, 2) := by decide +kernel
theorem dX12_firstHand_42 : decode cX12_firstHand 42 = .ok (.aload_n 0, 1) := by decide +kernel
theorem dX12_firstHand_43 : decode cX12_firstHand 43 = .ok (.iload 5, 2) := by decide +kernel
theorem dX12_firstHand_45 : decode cX12_firstHand 45 = .ok (.iconst 3, 1) := by decide +kernel
theorem dX12_firstHand_46 : decode cX12_firstHand 46 = .ok (.invokevirtual 306, 3) := by decide +kernel
theorem dX12_firstHand_49 : decode cX12_firstHand 49 = .ok (.isub, 1) := by decide +kernel
theorem dX12_firstHand_50 : decode cX12_firstHand 50 = .ok (.invokestatic 447, 3) := by decide +kernel
theorem dX12_firstHand_53 : decode cX12_firstHand 53 = .ok (.baload, 1) := by decide +kernel
theorem dX12_firstHand_54 : decode cX12_firstHand 54 = .ok (.ifCond .ne 9, 3) := by decide +kernel
theorem dX12_firstHand_57 : decode cX12_firstHand 57 = .ok (.iinc 5 1, 3) := by decide +kernel
theorem dX12_firstHand_60 : decode cX12_firstHand 60 = .ok (.goto (-42), 3) := by decide +kernel
theorem dX12_firstHand_63 : decode cX12_firstHand 63 = .ok (.iload 4, 2) := by decide +kernel
theorem dX12_firstHand_65 : decode cX12_firstHand 65 = .ok (.aload_n 0, 1) := by decide +kernel
theorem dX12_firstHand_66 : decode cX12_firstHand 66 = .ok (.iload 5, 2) := by decide +kernel
theorem dX12_firstHand_68 : decode cX12_firstHand 68 = .ok (.iconst 3, 1) := by decide +kernel
theorem dX12_firstHand_69 : decode cX12_firstHand 69 = .ok (.invokevirtual 306, 3) := by decide +kernel
theorem dX12_firstHand_72 : decode cX12_firstHand 72 = .ok (.isub, 1) := by decide +kernel
theorem dX12_firstHand_73 : decode cX12_firstHand 73 = .ok (.istore 4, 2) := by decide +kernel
theorem dX12_firstHand_75 : decode cX12_firstHand 75 = .ok (.iinc 6 1, 3) := by decide +kernel
theorem dX12_firstHand_78 : decode cX12_firstHand 78 = .ok (.goto (-69), 3) := by decide +kernel
theorem dX12_firstHand_81 : decode cX12_firstHand 81 = .ok (.iload 5, 2) := by decide +kernel
theorem dX12_firstHand_83 : decode cX12_firstHand 83 = .ok (.ireturn, 1) := by decide +kernel
def wp_X12_firstHand_57 (S : Sh) (k9 : Int → Int → Int → Int → Int → Int → Mm → Prop) (k18 : Int → Int → Int → Int → Int → Int → Mm → Prop) (post : Int → Mm → Prop) (u0 : Int) (u1 : Int) (u3 : Int) (u4 : Int) (u5 : Int) (u6 : Int) (M : Mm) : Prop := wA u5 1 fun v1 => k18 u0 u1 u3 u4 v1 u6 M
def wp_X12_firstHand_18 (S : Sh) (k9 : Int → Int → Int → Int → Int → Int → Mm → Prop) (post : Int → Mm → Prop) : Nat → Int → Int → Int → Int → Int → Int → Mm → Prop
  | 0, _, _, _, _, _, _, _ => False
  | n + 1, u0, u1, u3, u4, u5, u6, M => wC 3 fun v3 => isK S u0 12 ∧ (wp_X12_handOf S M u0 u5 v3 <| fun v6 M5 => wIf (u4 < v6) (wp_X12_firstHand_57 S k9 (fun a0 a1 a2 a3 a4 a5 M => wp_X12_firstHand_18 S k9 post n a0 a1 a2 a3 a4 a5 M) post u0 u1 u3 u4 u5 u6 M5) (wGetR S M5 u0 12 32 fun v8 => wC 1 fun v10 => wS u1 v10 fun v12 => wS v12 u6 fun v14 => wC 3 fun v16 => isK S u0 12 ∧ (wp_X12_handOf S M5 u0 u5 v16 <| fun v19 M18 => wS u4 v19 fun v21 => wp_X12_spot S M18 v14 v21 <| fun v24 M23 => wLd S M23 v8 15 v24 fun v26 => wIf (¬ v26 = 0) (wC 3 fun v28 => isK S u0 12 ∧ (wp_X12_handOf S M23 u0 u5 v28 <| fun v31 M30 => wS u4 v31 fun v33 => wA u6 1 fun v35 => k9 u0 u1 u3 v33 u5 v35 M30)) (wp_X12_firstHand_57 S k9 (fun a0 a1 a2 a3 a4 a5 M => wp_X12_firstHand_18 S k9 post n a0 a1 a2 a3 a4 a5 M) post u0 u1 u3 u4 u5 u6 M23))))
def wp_X12_firstHand_9 (S : Sh) (post : Int → Mm → Prop) : Nat → Int → Int → Int → Int → Int → Int → Mm → Prop
  | 0, _, _, _, _, _, _, _ => False
  | n + 1, u0, u1, u3, u4, u5, u6, M => wIf (u3 < u6) (post u5 M) (wC 0 fun v37 => ∃ n9 : Nat, wp_X12_firstHand_18 S (fun a0 a1 a2 a3 a4 a5 M => wp_X12_firstHand_9 S post n a0 a1 a2 a3 a4 a5 M) post n9 u0 u1 u3 u4 v37 u6 M)
def wp_X12_firstHand (S : Sh) (M : Mm) (u0 : Int) (u1 : Int) (u2 : Int) (u3 : Int) (post : Int → Mm → Prop) : Prop := wC 0 fun v39 => wC 0 fun v41 => ∃ n9 : Nat, wp_X12_firstHand_9 S post n9 u0 u1 u3 u2 v39 v41 M
set_option maxHeartbeats 4000000 in
set_option maxRecDepth 100000 in
theorem t_X12_firstHand_57 {p : Program} {l : Launch} {e : Env} {s : State} {m : MethodId} {args : Array Value} {below : List Frame} {meth : Method} {c : Code} {D : va_G} {G : Gt} {S : Sh} {post : Int → Mm → Prop} {k9 : Int → Int → Int → Int → Int → Int → Mm → Prop} {k18 : Int → Int → Int → Int → Int → Int → Mm → Prop} (C : Cx p s m args meth c D G cX12_firstHand 7 (some .int) (cw_X12_firstHand :: gw) RX12) (hk9 : ∀ (y0 : Int) (y1 : Int32) (y3 : Int32) (y4 : Int32) (y5 : Int32) (y6 : Int32) (M : Mm) (H : Heap) (locs : List Loc) (ls : Array Slot), Wd D G S M H → va_S (aG G) s.heap H locs → lv_has ls 7 [(0, .ref (adr G y0)), (1, .int y1), (3, .int y3), (4, .int y4), (5, .int y5), (6, .int y6)] → k9 y0 y1.toInt y3.toInt y4.toInt y5.toInt y6.toInt M → W p l e RM_X12_firstHand s m args below meth c H locs 0 0 (MQ below (QI D G S post) args s 0 0 (aG G)) (F0 m 9 ls [])) (hk18 : ∀ (y0 : Int) (y1 : Int32) (y3 : Int32) (y4 : Int32) (y5 : Int32) (y6 : Int32) (M : Mm) (H : Heap) (locs : List Loc) (ls : Array Slot), Wd D G S M H → va_S (aG G) s.heap H locs → lv_has ls 7 [(0, .ref (adr G y0)), (1, .int y1), (3, .int y3), (4, .int y4), (5, .int y5), (6, .int y6)] → k18 y0 y1.toInt y3.toInt y4.toInt y5.toInt y6.toInt M → W p l e RM_X12_firstHand s m args below meth c H locs 0 0 (MQ below (QI D G S post) args s 0 0 (aG G)) (F0 m 18 ls [])) : ∀ (xl0 : Int) (zl1 : Int32) (zl3 : Int32) (zl4 : Int32) (zl5 : Int32) (zl6 : Int32) (M : Mm) (H : Heap) (locs : List Loc) (ls : Array Slot), Wd D G S M H → va_S (aG G) s.heap H locs → lv_has ls 7 [(0, .ref (adr G xl0)), (1, .int zl1), (3, .int zl3), (4, .int zl4), (5, .int zl5), (6, .int zl6)] → wp_X12_firstHand_57 S k9 k18 post xl0 zl1.toInt zl3.toInt zl4.toInt zl5.toInt zl6.toInt  M → W p l e RM_X12_firstHand s m args below meth c H locs 0 0 (MQ below (QI D G S post) args s 0 0 (aG G)) (F0 m 57 ls []) := by
  obtain ⟨hx, hb, hr, hlocks, hml, hown, hts, hK⟩ := id C
  intro xl0 zl1 zl3 zl4 zl5 zl6 M H locs ls hP hS hl h
  unfold wp_X12_firstHand_57 at h
  refine r_iinc hx hb (fun z2 => [(5, .int z2), (0, .ref (adr G xl0)), (1, .int zl1), (3, .int zl3), (4, .int zl4), (6, .int zl6)]) dX12_firstHand_57 (by decide) hl (k := 4) rfl (by decide) (fun _ => rfl) h (fun z2 ls hl h => ?_)
  refine lv_goto (tgt := 18) hx hb dX12_firstHand_60 (by decide) ?_
  exact hk18 xl0 zl1 zl3 zl4 z2 zl6 _ _ _ _ hP hS (lv_sub hl [1, 2, 3, 4, 0, 5] rfl) h
set_option maxHeartbeats 4000000 in
set_option maxRecDepth 100000 in
theorem t_X12_firstHand_18 {p : Program} {l : Launch} {e : Env} {s : State} {m : MethodId} {args : Array Value} {below : List Frame} {meth : Method} {c : Code} {D : va_G} {G : Gt} {S : Sh} {post : Int → Mm → Prop} {k9 : Int → Int → Int → Int → Int → Int → Mm → Prop} (C : Cx p s m args meth c D G cX12_firstHand 7 (some .int) (cw_X12_firstHand :: gw) RX12) (hk9 : ∀ (y0 : Int) (y1 : Int32) (y3 : Int32) (y4 : Int32) (y5 : Int32) (y6 : Int32) (M : Mm) (H : Heap) (locs : List Loc) (ls : Array Slot), Wd D G S M H → va_S (aG G) s.heap H locs → lv_has ls 7 [(0, .ref (adr G y0)), (1, .int y1), (3, .int y3), (4, .int y4), (5, .int y5), (6, .int y6)] → k9 y0 y1.toInt y3.toInt y4.toInt y5.toInt y6.toInt M → W p l e RM_X12_firstHand s m args below meth c H locs 0 0 (MQ below (QI D G S post) args s 0 0 (aG G)) (F0 m 9 ls [])) : ∀ (n : Nat) (xl0 : Int) (zl1 : Int32) (zl3 : Int32) (zl4 : Int32) (zl5 : Int32) (zl6 : Int32) (M : Mm) (H : Heap) (locs : List Loc) (ls : Array Slot), Wd D G S M H → va_S (aG G) s.heap H locs → lv_has ls 7 [(0, .ref (adr G xl0)), (1, .int zl1), (3, .int zl3), (4, .int zl4), (5, .int zl5), (6, .int zl6)] → wp_X12_firstHand_18 S k9 post n xl0 zl1.toInt zl3.toInt zl4.toInt zl5.toInt zl6.toInt  M → W p l e RM_X12_firstHand s m args below meth c H locs 0 0 (MQ below (QI D G S post) args s 0 0 (aG G)) (F0 m 18 ls []) := by
  obtain ⟨hx, hb, hr, hlocks, hml, hown, hts, hK⟩ := id C
  intro n
  induction n with
  | zero => intro xl0 zl1 zl3 zl4 zl5 zl6 M H locs ls hP hS hl h; exact h.elim
  | succ n ih =>
    intro xl0 zl1 zl3 zl4 zl5 zl6 M H locs ls hP hS hl h
    unfold wp_X12_firstHand_18 at h
    refine lv_iload hx hb dX12_firstHand_18 (lv_at hl 3 rfl) ?_
    refine lv_aload_n hx hb dX12_firstHand_20 rfl (lv_at hl 0 rfl) ?_
    refine lv_iload hx hb dX12_firstHand_21 (lv_at hl 4 rfl) ?_
    refine r_iconst hx hb dX12_firstHand_23 (by decide) h (fun z4 h => ?_)
    refine q_Vi hx hb hml hown hts hK hP hS (c_X12_handOf l D G S _ xl0 zl5 z4 _ h.2) ⟨callB_of 2 hts (gw_good kw_1650) rfl rfl rfl (hts _ (List.mem_cons_of_mem _ kw_14)) (hts _ (List.mem_cons_of_mem _ kw_1647)) hd_X12_handOf ⟨Nat.le_of_ble_eq_true rfl, Nat.le_of_ble_eq_true rfl⟩, (hts _ (List.mem_cons_of_mem _ kw_1649)), (hts _ (List.mem_cons_of_mem _ kp_88))⟩ h.1 (ci := 12) rfl (by decide) rfl hl.1 rfl (lv_room (Nat.le_of_ble_eq_true rfl)) dX12_firstHand_24 ⟨Nat.zero_le _, Nat.zero_le _⟩ (fun z7 M5 H locs h hP hS => ?_)
    refine r_icmp_lt (tgt := 57) hx hb dX12_firstHand_27 (by decide) h (fun h => ?_) (fun h => ?_)
    · exact t_X12_firstHand_57 C hk9 ih xl0 zl1 zl3 zl4 zl5 zl6 _ _ _ _ hP hS (lv_sub hl [0, 1, 2, 3, 4, 5] rfl) h
    · refine lv_aload_n hx hb dX12_firstHand_30 rfl (lv_at hl 0 rfl) ?_
      refine r_getr (C := RX12) (T := TX12) (N := 38) hx hb hts (fun w h => List.mem_cons_of_mem _ (iX12 w h)) hown hK hP rfl (by decide) rfl 32 (by decide) (hts _ (List.mem_cons_of_mem _ kw_1366)) (fun _ h9 => h9) dX12_firstHand_31 (by decide) h (fun x9 h => ?_)
      refine lv_iload_n hx hb dX12_firstHand_34 rfl (lv_at hl 1 rfl) ?_
      refine r_iconst hx hb dX12_firstHand_35 (by decide) h (fun z11 h => ?_)
      refine r_isub hx hb dX12_firstHand_36 h (fun z13 h => ?_)
      refine lv_iload hx hb dX12_firstHand_37 (lv_at hl 5 rfl) ?_
      refine r_isub hx hb dX12_firstHand_39 h (fun z15 h => ?_)
      refine lv_iload hx hb dX12_firstHand_40 (lv_at hl 3 rfl) ?_
      refine lv_aload_n hx hb dX12_firstHand_42 rfl (lv_at hl 0 rfl) ?_
      refine lv_iload hx hb dX12_firstHand_43 (lv_at hl 4 rfl) ?_
      refine r_iconst hx hb dX12_firstHand_45 (by decide) h (fun z17 h => ?_)
      refine q_Vi hx hb hml hown hts hK hP hS (c_X12_handOf l D G S _ xl0 zl5 z17 _ h.2) ⟨callB_of 2 hts (gw_good kw_1650) rfl rfl rfl (hts _ (List.mem_cons_of_mem _ kw_14)) (hts _ (List.mem_cons_of_mem _ kw_1647)) hd_X12_handOf ⟨Nat.le_of_ble_eq_true rfl, Nat.le_of_ble_eq_true rfl⟩, (hts _ (List.mem_cons_of_mem _ kw_1649)), (hts _ (List.mem_cons_of_mem _ kp_88))⟩ h.1 (ci := 12) rfl (by decide) rfl hl.1 rfl (lv_room (Nat.le_of_ble_eq_true rfl)) dX12_firstHand_46 ⟨Nat.zero_le _, Nat.zero_le _⟩ (fun z20 M18 H locs h hP hS => ?_)
      refine r_isub hx hb dX12_firstHand_49 h (fun z22 h => ?_)
      refine q_Si hx hb hml hown hts hK hP hS (c_X12_spot l D G S _ z15 z22 _ h) ⟨callB_of 2 hts (gw_good kw_1917) rfl rfl rfl (hts _ (List.mem_cons_of_mem _ kw_14)) (hts _ (List.mem_cons_of_mem _ kw_1915)) hd_X12_spot ⟨Nat.le_of_ble_eq_true rfl, Nat.le_of_ble_eq_true rfl⟩, (hts _ (List.mem_cons_of_mem _ kw_1916))⟩ rfl hl.1 rfl (lv_room (Nat.le_of_ble_eq_true rfl)) dX12_firstHand_50 ⟨Nat.zero_le _, Nat.zero_le _⟩ (fun z25 M23 H locs h hP hS => ?_)
      refine r_zald hx hb hK hP dX12_firstHand_53 h (fun z27 h => ?_)
      refine r_if_ne (tgt := 63) hx hb dX12_firstHand_54 (by decide) h (fun h => ?_) (fun h => ?_)
      · refine lv_iload hx hb dX12_firstHand_63 (lv_at hl 3 rfl) ?_
        refine lv_aload_n hx hb dX12_firstHand_65 rfl (lv_at hl 0 rfl) ?_
        refine lv_iload hx hb dX12_firstHand_66 (lv_at hl 4 rfl) ?_
        refine r_iconst hx hb dX12_firstHand_68 (by decide) h (fun z29 h => ?_)
        refine q_Vi hx hb hml hown hts hK hP hS (c_X12_handOf l D G S _ xl0 zl5 z29 _ h.2) ⟨callB_of 2 hts (gw_good kw_1650) rfl rfl rfl (hts _ (List.mem_cons_of_mem _ kw_14)) (hts _ (List.mem_cons_of_mem _ kw_1647)) hd_X12_handOf ⟨Nat.le_of_ble_eq_true rfl, Nat.le_of_ble_eq_true rfl⟩, (hts _ (List.mem_cons_of_mem _ kw_1649)), (hts _ (List.mem_cons_of_mem _ kp_88))⟩ h.1 (ci := 12) rfl (by decide) rfl hl.1 rfl (lv_room (Nat.le_of_ble_eq_true rfl)) dX12_firstHand_69 ⟨Nat.zero_le _, Nat.zero_le _⟩ (fun z32 M30 H locs h hP hS => ?_)
        refine r_isub hx hb dX12_firstHand_72 h (fun z34 h => ?_)
        refine lv_istore (lv' := [(4, .int z34), (0, .ref (adr G xl0)), (1, .int zl1), (3, .int zl3), (5, .int zl5), (6, .int zl6)]) hx hb dX12_firstHand_73 hl (by decide) rfl (fun ls hl => ?_)
        refine r_iinc hx hb (fun z36 => [(6, .int z36), (4, .int z34), (0, .ref (adr G xl0)), (1, .int zl1), (3, .int zl3), (5, .int zl5)]) dX12_firstHand_75 (by decide) hl (k := 5) rfl (by decide) (fun _ => rfl) h (fun z36 ls hl h => ?_)
        refine lv_goto (tgt := 9) hx hb dX12_firstHand_78 (by decide) ?_
        exact hk9 xl0 zl1 zl3 z34 zl5 z36 _ _ _ _ hP hS (lv_sub hl [2, 3, 4, 1, 5, 0] rfl) h
      · exact t_X12_firstHand_57 C hk9 ih xl0 zl1 zl3 zl4 zl5 zl6 _ _ _ _ hP hS (lv_sub hl [0, 1, 2, 3, 4, 5] rfl) h
set_option maxHeartbeats 4000000 in
set_option maxRecDepth 100000 in
theorem t_X12_firstHand_9 {p : Program} {l : Launch} {e : Env} {s : State} {m : MethodId} {args : Array Value} {below : List Frame} {meth : Method} {c : Code} {D : va_G} {G : Gt} {S : Sh} {post : Int → Mm → Prop} (C : Cx p s m args meth c D G cX12_firstHand 7 (some .int) (cw_X12_firstHand :: gw) RX12) : ∀ (n : Nat) (xl0 : Int) (zl1 : Int32) (zl3 : Int32) (zl4 : Int32) (zl5 : Int32) (zl6 : Int32) (M : Mm) (H : Heap) (locs : List Loc) (ls : Array Slot), Wd D G S M H → va_S (aG G) s.heap H locs → lv_has ls 7 [(0, .ref (adr G xl0)), (1, .int zl1), (3, .int zl3), (4, .int zl4), (5, .int zl5), (6, .int zl6)] → wp_X12_firstHand_9 S post n xl0 zl1.toInt zl3.toInt zl4.toInt zl5.toInt zl6.toInt  M → W p l e RM_X12_firstHand s m args below meth c H locs 0 0 (MQ below (QI D G S post) args s 0 0 (aG G)) (F0 m 9 ls []) := by
  obtain ⟨hx, hb, hr, hlocks, hml, hown, hts, hK⟩ := id C
  intro n
  induction n with
  | zero => intro xl0 zl1 zl3 zl4 zl5 zl6 M H locs ls hP hS hl h; exact h.elim
  | succ n ih =>
    intro xl0 zl1 zl3 zl4 zl5 zl6 M H locs ls hP hS hl h
    unfold wp_X12_firstHand_9 at h
    refine lv_iload hx hb dX12_firstHand_9 (lv_at hl 5 rfl) ?_
    refine lv_iload_n hx hb dX12_firstHand_11 rfl (lv_at hl 2 rfl) ?_
    refine r_icmp_gt (tgt := 81) hx hb dX12_firstHand_12 (by decide) h (fun h => ?_) (fun h => ?_)
    · refine lv_iload hx hb dX12_firstHand_81 (lv_at hl 4 rfl) ?_
      exact r_iret hx hb hr hlocks hP hS dX12_firstHand_83 h
    · refine r_iconst hx hb dX12_firstHand_15 (by decide) h (fun z38 h => ?_)
      refine lv_istore (lv' := [(5, .int z38), (0, .ref (adr G xl0)), (1, .int zl1), (3, .int zl3), (4, .int zl4), (6, .int zl6)]) hx hb dX12_firstHand_16 hl (by decide) rfl (fun ls hl => ?_)
      obtain ⟨n9, h⟩ := h
      exact t_X12_firstHand_18 C ih n9 xl0 zl1 zl3 zl4 z38 zl6 _ _ _ _ hP hS (lv_sub hl [1, 2, 3, 4, 0, 5] rfl) h
set_option maxHeartbeats 4000000 in
set_option maxRecDepth 100000 in
theorem c_X12_firstHand (l : Launch) (D : va_G) (G : Gt) (S : Sh) (M : Mm) (xl0 : Int) (zl1 : Int32) (zl2 : Int32) (zl3 : Int32) (post : Int → Mm → Prop) (h : wp_X12_firstHand S M xl0 zl1.toInt zl2.toInt zl3.toInt post) : Met l yX12_firstHand (cw_X12_firstHand :: gw) RM_X12_firstHand (va_Pc [.ref (adr G xl0), .int zl1, .int zl2, .int zl3] (fun U => KN D G U ∧ Wd D G S M U.heap)) (QI D G S post) 0 0 (aG G) := by
  refine Met.ofW (cc := cX12_firstHand) (maxL := 7) (ret := (some .int)) (by decide) rfl ?_
  intro p e s m args below meth c s₁ B hml hv
  obtain ⟨rfl, hK, hP⟩ := hv
  have hx := B.exec
  have hb := B.bytes
  have hr := B.returns
  have hts := atoms_spec (ws := cw_X12_firstHand :: gw) B.pre
  have hown : s.vm.findClass RX12 = some m.cls := findClass_of_methodNamed B.named
  have hlocks := B.notSynchronized
  have hS : va_S (aG G) s.heap s.heap [] := va_S.rf
  have C : Cx p s m ([.ref (adr G xl0), .int zl1, .int zl2, .int zl3] : List Value).toArray meth c D G cX12_firstHand 7 (some .int) (cw_X12_firstHand :: gw) RX12 := ⟨hx, hb, hr, hlocks, hml, hown, hts, hK⟩
  have hl := lv_entry ([.ref (adr G xl0), .int zl1, .int zl2, .int zl3]) (n := 7) (Nat.le_of_ble_eq_true rfl)
  rw [lg_entry_eq]
  generalize (lg_sl ([.ref (adr G xl0), .int zl1, .int zl2, .int zl3]) ++ List.replicate (7 - (lg_sl ([.ref (adr G xl0), .int zl1, .int zl2, .int zl3])).length) Slot.unset).toArray = ls at hl ⊢
  have hl : lv_has ls 7 [(0, .ref (adr G xl0)), (1, .int zl1), (2, .int zl2), (3, .int zl3)] := hl
  unfold wp_X12_firstHand at h
  refine lv_iload_n hx hb dX12_firstHand_0 rfl (lv_at hl 2 rfl) ?_
  refine lv_istore (lv' := [(4, .int zl2), (0, .ref (adr G xl0)), (1, .int zl1), (2, .int zl2), (3, .int zl3)]) hx hb dX12_firstHand_1 hl (by decide) rfl (fun ls hl => ?_)
  refine r_iconst hx hb dX12_firstHand_3 (by decide) h (fun z40 h => ?_)
  refine lv_istore (lv' := [(5, .int z40), (4, .int zl2), (0, .ref (adr G xl0)), (1, .int zl1), (2, .int zl2), (3, .int zl3)]) hx hb dX12_firstHand_4 hl (by decide) rfl (fun ls hl => ?_)
  refine r_iconst hx hb dX12_firstHand_6 (by decide) h (fun z42 h => ?_)
  refine lv_istore (lv' := [(6, .int z42), (5, .int z40), (4, .int zl2), (0, .ref (adr G xl0)), (1, .int zl1), (2, .int zl2), (3, .int zl3)]) hx hb dX12_firstHand_7 hl (by decide) rfl (fun ls hl => ?_)
  obtain ⟨n9, h⟩ := h
  exact t_X12_firstHand_9 C n9 xl0 zl1 zl3 zl2 z40 z42 _ _ _ _ hP hS (lv_sub hl [3, 4, 6, 2, 1, 0] rfl) h
/-! TurningMilkModel.rows(III)I -/
abbrev RM_X12_rows : Room := { frames := 3, cells := 0, slots := 0, locals := 90 }
def cw_X12_rows : Cond := Cond.code yX12_rows cX12_rows 6 (Option.some FieldType.int)
theorem hd_X12_rows : yX12_rows.cls ≠ "java/lang/invoke/MethodHandle" ∧ yX12_rows.cls ≠ "java/lang/invoke/VarHandle" ∧ (parseMethodDescriptor yX12_rows.desc).map (fun d => d.parameters.length) = some 3 := by decide +kernel
theorem dX12_rows_0 : decode cX12_rows 0 = .ok (.aload_n 0, 1) := by decide +kernel
theorem dX12_rows_1 : decode cX12_rows 1 = .ok (.invokevirtual 350, 3) := by decide +kernel
theorem dX12_rows_4 : decode cX12_rows 4 = .ok (.ifCond .eq 55, 3) := by decide +kernel
theorem dX12_rows_7 : decode cX12_rows 7 = .ok (.iload_n 1, 1) := by decide +kernel
theorem dX12_rows_8 : decode cX12_rows 8 = .ok (.i2l, 1) := by decide +kernel
theorem dX12_rows_9 : decode cX12_rows 9 = .ok (.lconst 1, 1) := by decide +kernel
theorem dX12_rows_10 : decode cX12_rows 10 = .ok (.ldc2_w 452, 3) := by decide +kernel
theorem dX12_rows_13 : decode cX12_rows 13 = .ok (.invokestatic 118, 3) := by decide +kernel
theorem dX12_rows_16 : decode cX12_rows 16 = .ok (.ifCond .eq 43, 3) := by decide +kernel
theorem dX12_rows_19 : decode cX12_rows 19 = .ok (.iload_n 2, 1) := by decide +kernel
theorem dX12_rows_20 : decode cX12_rows 20 = .ok (.i2l, 1) := by decide +kernel
theorem dX12_rows_21 : decode cX12_rows 21 = .ok (.lconst 0, 1) := by decide +kernel
theorem dX12_rows_22 : decode cX12_rows 22 = .ok (.ldc2_w 454, 3) := by decide +kernel
theorem dX12_rows_25 : decode cX12_rows 25 = .ok (.invokestatic 118, 3) := by decide +kernel
theorem dX12_rows_28 : decode cX12_rows 28 = .ok (.ifCond .eq 31, 3) := by decide +kernel
theorem dX12_rows_31 : decode cX12_rows 31 = .ok (.iload_n 3, 1) := by decide +kernel
theorem dX12_rows_32 : decode cX12_rows 32 = .ok (.i2l, 1) := by decide +kernel
theorem dX12_rows_33 : decode cX12_rows 33 = .ok (.ldc2_w 456, 3) := by decide +kernel
theorem dX12_rows_36 : decode cX12_rows 36 = .ok (.ldc2_w 458, 3) := by decide +kernel
theorem dX12_rows_39 : decode cX12_rows 39 = .ok (.invokestatic 118, 3) := by decide +kernel
theorem dX12_rows_42 : decode cX12_rows 42 = .ok (.ifCond .ne 20, 3) := by decide +kernel
theorem dX12_rows_45 : decode cX12_rows 45 = .ok (.iload_n 3, 1) := by decide +kernel
theorem dX12_rows_46 : decode cX12_rows 46 = .ok (.i2l, 1) := by decide +kernel
theorem dX12_rows_47 : decode cX12_rows 47 = .ok (.ldc2_w 432, 3) := by decide +kernel
theorem dX12_rows_50 : decode cX12_rows 50 = .ok (.ldc2_w 460, 3) := by decide +kernel
theorem dX12_rows_53 : decode cX12_rows 53 = .ok (.invokestatic 118, 3) := by decide +kernel
theorem dX12_rows_56 : decode cX12_rows 56 = .ok (.ifCond .ne 6, 3) := by decide +kernel
theorem dX12_rows_59 : decode cX12_rows 59 = .ok (.bipush (-3), 2) := by decide +kernel
theorem dX12_rows_61 : decode cX12_rows 61 = .ok (.ireturn, 1) := by decide +kernel
theorem dX12_rows_62 : decode cX12_rows 62 = .ok (.aload_n 0, 1) := by decide +kernel
theorem dX12_rows_63 : decode cX12_rows 63 = .ok (.iload_n 1, 1) := by decide +kernel
theorem dX12_rows_64 : decode cX12_rows 64 = .ok (.invokevirtual 462, 3) := by decide +kernel
theorem dX12_rows_67 : decode cX12_rows 67 = .ok (.iload_n 3, 1) := by decide +kernel
theorem dX12_rows_68 : decode cX12_rows 68 = .ok (.iconst (-1), 1) := by decide +kernel
theorem dX12_rows_69 : decode cX12_rows 69 = .ok (.if_icmp .ne 14, 3) := by decide +kernel
theorem dX12_rows_72 : decode cX12_rows 72 = .ok (.aload_n 0, 1) := by decide +kernel
theorem dX12_rows_73 : decode cX12_rows 73 = .ok (.getfield 61, 3) := by decide +kernel
theorem dX12_rows_76 : decode cX12_rows 76 = .ok (.iload_n 1, 1) := by decide +kernel
theorem dX12_rows_77 : decode cX12_rows 77 = .ok (.iload_n 2, 1) := by decide +kernel
theorem dX12_rows_78 : decode cX12_rows 78 = .ok (.invokestatic 447, 3) := by decide +kernel
theorem dX12_rows_81 : decode cX12_rows 81 = .ok (.iaload, 1) := by decide +kernel
theorem dX12_rows_82 : decode cX12_rows 82 = .ok (.ireturn, 1) := by decide +kernel
theorem dX12_rows_83 : decode cX12_rows 83 = .ok (.aload_n 0, 1) := by decide +kernel
theorem dX12_rows_84 : decode cX12_rows 84 = .ok (.getfield 64, 3) := by decide +kernel
theorem dX12_rows_87 : decode cX12_rows 87 = .ok (.iload_n 1, 1) := by decide +kernel
theorem dX12_rows_88 : decode cX12_rows 88 = .ok (.iload_n 2, 1) := by decide +kernel
theorem dX12_rows_89 : decode cX12_rows 89 = .ok (.invokestatic 447, 3) := by decide +kernel
theorem dX12_rows_92 : decode cX12_rows 92 = .ok (.baload, 1) := by decide +kernel
theorem dX12_rows_93 : decode cX12_rows 93 = .ok (.ifCond .eq 11, 3) := by decide +kernel
theorem dX12_rows_96 : decode cX12_rows 96 = .ok (.iload_n 3, 1) := by decide +kernel
theorem dX12_rows_97 : decode cX12_rows 97 = .ok (.bipush 20, 2) := by decide +kernel
theorem dX12_rows_99 : decode cX12_rows 99 = .ok (.irem, 1) := by decide +kernel
theorem dX12_rows_100 : decode cX12_rows 100 = .ok (.iload_n 1, 1) := by decide +kernel
theorem dX12_rows_101 : decode cX12_rows 101 = .ok (.if_icmp .lt 6, 3) := by decide +kernel
theorem dX12_rows_104 : decode cX12_rows 104 = .ok (.bipush (-2), 2) := by decide +kernel
theorem dX12_rows_106 : decode cX12_rows 106 = .ok (.ireturn, 1) := by decide +kernel
theorem dX12_rows_107 : decode cX12_rows 107 = .ok (.iload_n 3, 1) := by decide +kernel
theorem dX12_rows_108 : decode cX12_rows 108 = .ok (.bipush 20, 2) := by decide +kernel
theorem dX12_rows_110 : decode cX12_rows 110 = .ok (.if_icmp .ge 11, 3) := by decide +kernel
theorem dX12_rows_113 : decode cX12_rows 113 = .ok (.aload_n 0, 1) := by decide +kernel
theorem dX12_rows_114 : decode cX12_rows 114 = .ok (.iload_n 1, 1) := by decide +kernel
theorem dX12_rows_115 : decode cX12_rows 115 = .ok (.iload_n 2, 1) := by decide +kernel
theorem dX12_rows_116 : decode cX12_rows 116 = .ok (.iload_n 3, 1) := by decide +kernel
theorem dX12_rows_117 : decode cX12_rows 117 = .ok (.invokevirtual 465, 3) := by decide +kernel
theorem dX12_rows_120 : decode cX12_rows 120 = .ok (.ireturn, 1) := by decide +kernel
theorem dX12_rows_121 : decode cX12_rows 121 = .ok (.iconst 0, 1) := by decide +kernel
theorem dX12_rows_122 : decode cX12_rows 122 = .ok (.istore 4, 2) := by decide +kernel
theorem dX12_rows_124 : decode cX12_rows 124 = .ok (.iconst 0, 1) := by decide +kernel
theorem dX12_rows_125 : decode cX12_rows 125 = .ok (.istore 5, 2) := by decide +kernel
theorem dX12_rows_127 : decode cX12_rows 127 = .ok (.iload 5, 2) := by decide +kernel
theorem dX12_rows_129 : decode cX12_rows 129 = .ok (.aload_n 0, 1) := by decide +kernel
theorem dX12_rows_130 : decode cX12_rows 130 = .ok (.getfield 39, 3) := by decide +kernel
theorem dX12_rows_133 : decode cX12_rows 133 = .ok (.iconst 4, 1) := by decide +kernel
theorem dX12_rows_134 : decode cX12_rows 134 = .ok (.iaload, 1) := by decide +kernel
theorem dX12_rows_135 : decode cX12_rows 135 = .ok (.if_icmp .ge 56, 3) := by decide +kernel
theorem dX12_rows_138 : decode cX12_rows 138 = .ok (.iload 4, 2) := by decide +kernel
theorem dX12_rows_140 : decode cX12_rows 140 = .ok (.iload_n 2, 1) := by decide +kernel
theorem dX12_rows_141 : decode cX12_rows 141 = .ok (.aload_n 0, 1) := by decide +kernel
theorem dX12_rows_142 : decode cX12_rows 142 = .ok (.iload 5, 2) := by decide +kernel
theorem dX12_rows_144 : decode cX12_rows 144 = .ok (.iconst 3, 1) := by decide +kernel
theorem dX12_rows_145 : decode cX12_rows 145 = .ok (.invokevirtual 306, 3) := by decide +kernel
theorem dX12_rows_148 : decode cX12_rows 148 = .ok (.if_icmp .lt 33, 3) := by decide +kernel
theorem dX12_rows_151 : decode cX12_rows 151 = .ok (.aload_n 0, 1) := by decide +kernel
theorem dX12_rows_152 : decode cX12_rows 152 = .ok (.getfield 64, 3) := by decide +kernel
theorem dX12_rows_155 : decode cX12_rows 155 = .ok (.iload_n 1, 1) := by decide +kernel
theorem dX12_rows_156 : decode cX12_rows 156 = .ok (.iconst 1, 1) := by decide +kernel
theorem dX12_rows_157 : decode cX12_rows 157 = .ok (.isub, 1) := by decide +kernel
theorem dX12_rows_158 : decode cX12_rows 158 = .ok (.iload_n 2, 1) := by decide +kernel
theorem dX12_rows_159 : decode cX12_rows 159 = .ok (.aload_n 0, 1) := by decide +kernel
theorem dX12_rows_160 : decode cX12_rows 160 = .ok (.iload 5, 2) := by decide +kernel
theorem dX12_rows_162 : decode cX12_rows 162 = .ok (.iconst 3, 1) := by decide +kernel
theorem dX12_rows_163 : decode cX12_rows 163 = .ok (.invokevirtual 306, 3) := by decide +kernel
theorem dX12_rows_166 : decode cX12_rows 166 = .ok (.isub, 1) := by decide +kernel
theorem dX12_rows_167 : decode cX12_rows 167 = .ok (.invokestatic 447, 3) := by decide +kernel
theorem dX12_rows_170 : decode cX12_rows 170 = .ok (.baload, 1) := by decide +kernel
theorem dX12_rows_171 : decode cX12_rows 171 = .ok (.ifCond .eq 10, 3) := by decide +kernel
theorem dX12_rows_174 : decode cX12_rows 174 = .ok (.iconst 1, 1) := by decide +kernel
theorem dX12_rows_175 : decode cX12_rows 175 = .ok (.iload 5, 2) := by decide +kernel
theorem dX12_rows_177 : decode cX12_rows 177 = .ok (.ishl, 1) := by decide +kernel
theorem dX12_rows_178 : decode cX12_rows 178 = .ok (.goto 4, 3) := by decide +kernel
theorem dX12_rows_181 : decode cX12_rows 181 = .ok (.iconst 0, 1) := by decide +kernel
theorem dX12_rows_182 : decode cX12_rows 182 = .ok (.ior, 1) := by decide +kernel
theorem dX12_rows_183 : decode cX12_rows 183 = .ok (.istore 4, 2) := by decide +kernel
theorem dX12_rows_185 : decode cX12_rows 185 = .ok (.iinc 5 1, 3) := by decide +kernel
theorem dX12_rows_188 : decode cX12_rows 188 = .ok (.goto (-61), 3) := by decide +kernel
theorem dX12_rows_191 : decode cX12_rows 191 = .ok (.iload 4, 2) := by decide +kernel
theorem dX12_rows_193 : decode cX12_rows 193 = .ok (.ireturn, 1) := by decide +kernel
def wp_X12_rows_182 (S : Sh) (k127 : Int → Int → Int → Int → Int → Mm → Prop) (post : Int → Mm → Prop) (u0 : Int) (u1 : Int) (u2 : Int) (u5 : Int) (t0 : Int) (t1 : Int) (M : Mm) : Prop := wO iOr t0 t1 fun v1 => wA u5 1 fun v3 => k127 u0 u1 u2 v1 v3 M
def wp_X12_rows_181 (S : Sh) (k127 : Int → Int → Int → Int → Int → Mm → Prop) (post : Int → Mm → Prop) (u0 : Int) (u1 : Int) (u2 : Int) (u5 : Int) (t0 : Int) (M : Mm) : Prop := wC 0 fun v5 => wp_X12_rows_182 S k127 post u0 u1 u2 u5 t0 v5 M
def wp_X12_rows_127 (S : Sh) (post : Int → Mm → Prop) : Nat → Int → Int → Int → Int → Int → Mm → Prop
  | 0, _, _, _, _, _, _ => False
  | n + 1, u0, u1, u2, u4, u5, M => wGetR S M u0 12 20 fun v7 => wC 4 fun v9 => wLd S M v7 14 v9 fun v11 => wIf (v11 ≤ u5) (post u4 M) (wC 3 fun v13 => isK S u0 12 ∧ (wp_X12_handOf S M u0 u5 v13 <| fun v16 M15 => wIf (u2 < v16) (wp_X12_rows_181 S (fun a0 a1 a2 a3 a4 M => wp_X12_rows_127 S post n a0 a1 a2 a3 a4 M) post u0 u1 u2 u5 u4 M15) (wGetR S M15 u0 12 32 fun v18 => wC 1 fun v20 => wS u1 v20 fun v22 => wC 3 fun v24 => isK S u0 12 ∧ (wp_X12_handOf S M15 u0 u5 v24 <| fun v27 M26 => wS u2 v27 fun v29 => wp_X12_spot S M26 v22 v29 <| fun v32 M31 => wLd S M31 v18 15 v32 fun v34 => wIf (v34 = 0) (wp_X12_rows_181 S (fun a0 a1 a2 a3 a4 M => wp_X12_rows_127 S post n a0 a1 a2 a3 a4 M) post u0 u1 u2 u5 u4 M31) (wC 1 fun v36 => wO iShl v36 u5 fun v38 => wp_X12_rows_182 S (fun a0 a1 a2 a3 a4 M => wp_X12_rows_127 S post n a0 a1 a2 a3 a4 M) post u0 u1 u2 u5 u4 v38 M31)))))
def wp_X12_rows_62 (S : Sh) (post : Int → Mm → Prop) (u0 : Int) (u1 : Int) (u2 : Int) (u3 : Int) (M : Mm) : Prop := isK S u0 12 ∧ (wp_X12_fillsRows S M u0 u1 <| fun M40 => wC (-1) fun v41 => wIf (¬ u3 = v41) (wGetR S M40 u0 12 32 fun v43 => wp_X12_spot S M40 u1 u2 <| fun v46 M45 => wLd S M45 v43 15 v46 fun v48 => wIf (v48 = 0) (wC (-2) fun v50 => post v50 M45) (wC 20 fun v52 => wD iRem u3 v52 fun v54 => wIf (v54 < u1) (wC 20 fun v56 => wIf (v56 ≤ u3) (wC 0 fun v58 => wC 0 fun v60 => ∃ n9 : Nat, wp_X12_rows_127 S post n9 u0 u1 u2 v58 v60 M45) (isK S u0 12 ∧ (wp_X12_firstHand S M45 u0 u1 u2 u3 <| fun v63 M62 => post v63 M62))) (wC (-2) fun v65 => post v65 M45))) (wGetR S M40 u0 12 31 fun v67 => wp_X12_spot S M40 u1 u2 <| fun v70 M69 => wLd S M69 v67 14 v70 fun v72 => post v72 M69))
def wp_X12_rows (S : Sh) (M : Mm) (u0 : Int) (u1 : Int) (u2 : Int) (u3 : Int) (post : Int → Mm → Prop) : Prop := isK S u0 12 ∧ (wp_X12_isDairy S M u0 <| fun v75 M74 => wIf (v75 = 0) (wC (-3) fun v77 => post v77 M74) (wC u1 fun v79 => wC 1 fun v81 => wC 12 fun v83 => wp_X12_in S M74 v79 v81 v83 <| fun v86 M85 => wIf (v86 = 0) (wC (-3) fun v88 => post v88 M85) (wC u2 fun v90 => wC 0 fun v92 => wC 300 fun v94 => wp_X12_in S M85 v90 v92 v94 <| fun v97 M96 => wIf (v97 = 0) (wC (-3) fun v99 => post v99 M96) (wC u3 fun v101 => wC (-1) fun v103 => wC 11 fun v105 => wp_X12_in S M96 v101 v103 v105 <| fun v108 M107 => wIf (¬ v108 = 0) (wp_X12_rows_62 S post u0 u1 u2 u3 M107) (wC u3 fun v110 => wC 20 fun v112 => wC 31 fun v114 => wp_X12_in S M107 v110 v112 v114 <| fun v117 M116 => wIf (¬ v117 = 0) (wp_X12_rows_62 S post u0 u1 u2 u3 M116) (wC (-3) fun v119 => post v119 M116))))))
set_option maxHeartbeats 4000000 in
set_option maxRecDepth 100000 in
theorem t_X12_rows_182 {p : Program} {l : Launch} {e : Env} {s : State} {m : MethodId} {args : Array Value} {below : List Frame} {meth : Method} {c : Code} {D : va_G} {G : Gt} {S : Sh} {post : Int → Mm → Prop} {k127 : Int → Int → Int → Int → Int → Mm → Prop} (C : Cx p s m args meth c D G cX12_rows 6 (some .int) (cw_X12_rows :: gw) RX12) (hk127 : ∀ (y0 : Int) (y1 : Int32) (y2 : Int32) (y4 : Int32) (y5 : Int32) (M : Mm) (H : Heap) (locs : List Loc) (ls : Array Slot), Wd D G S M H → va_S (aG G) s.heap H locs → lv_has ls 6 [(0, .ref (adr G y0)), (1, .int y1), (2, .int y2), (4, .int y4), (5, .int y5)] → k127 y0 y1.toInt y2.toInt y4.toInt y5.toInt M → W p l e RM_X12_rows s m args below meth c H locs 0 0 (MQ below (QI D G S post) args s 0 0 (aG G)) (F0 m 127 ls [])) : ∀ (xl0 : Int) (zl1 : Int32) (zl2 : Int32) (zl5 : Int32) (zs0 : Int32) (zs1 : Int32) (M : Mm) (H : Heap) (locs : List Loc) (ls : Array Slot), Wd D G S M H → va_S (aG G) s.heap H locs → lv_has ls 6 [(0, .ref (adr G xl0)), (1, .int zl1), (2, .int zl2), (5, .int zl5)] → wp_X12_rows_182 S k127 post xl0 zl1.toInt zl2.toInt zl5.toInt zs0.toInt zs1.toInt M → W p l e RM_X12_rows s m args below meth c H locs 0 0 (MQ below (QI D G S post) args s 0 0 (aG G)) (F0 m 182 ls [.int zs1, .int zs0]) := by
  obtain ⟨hx, hb, hr, hlocks, hml, hown, hts, hK⟩ := id C
  intro xl0 zl1 zl2 zl5 zs0 zs1 M H locs ls hP hS hl h
  unfold wp_X12_rows_182 at h
  refine r_ior hx hb dX12_rows_182 h (fun z2 h => ?_)
  refine lv_istore (lv' := [(4, .int z2), (0, .ref (adr G xl0)), (1, .int zl1), (2, .int zl2), (5, .int zl5)]) hx hb dX12_rows_183 hl (by decide) rfl (fun ls hl => ?_)
  refine r_iinc hx hb (fun z4 => [(5, .int z4), (4, .int z2), (0, .ref (adr G xl0)), (1, .int zl1), (2, .int zl2)]) dX12_rows_185 (by decide) hl (k := 4) rfl (by decide) (fun _ => rfl) h (fun z4 ls hl h => ?_)
  refine lv_goto (tgt := 127) hx hb dX12_rows_188 (by decide) ?_
  exact hk127 xl0 zl1 zl2 z2 z4 _ _ _ _ hP hS (lv_sub hl [2, 3, 4, 1, 0] rfl) h
set_option maxHeartbeats 4000000 in
set_option maxRecDepth 100000 in
theorem t_X12_rows_181 {p : Program} {l : Launch} {e : Env} {s : State} {m : MethodId} {args : Array Value} {below : List Frame} {meth : Method} {c : Code} {D : va_G} {G : Gt} {S : Sh} {post : Int → Mm → Prop} {k127 : Int → Int → Int → Int → Int → Mm → Prop} (C : Cx p s m args meth c D G cX12_rows 6 (some .int) (cw_X12_rows :: gw) RX12) (hk127 : ∀ (y0 : Int) (y1 : Int32) (y2 : Int32) (y4 : Int32) (y5 : Int32) (M : Mm) (H : Heap) (locs : List Loc) (ls : Array Slot), Wd D G S M H → va_S (aG G) s.heap H locs → lv_has ls 6 [(0, .ref (adr G y0)), (1, .int y1), (2, .int y2), (4, .int y4), (5, .int y5)] → k127 y0 y1.toInt y2.toInt y4.toInt y5.toInt M → W p l e RM_X12_rows s m args below meth c H locs 0 0 (MQ below (QI D G S post) args s 0 0 (aG G)) (F0 m 127 ls [])) : ∀ (xl0 : Int) (zl1 : Int32) (zl2 : Int32) (zl5 : Int32) (zs0 : Int32) (M : Mm) (H : Heap) (locs : List Loc) (ls : Array Slot), Wd D G S M H → va_S (aG G) s.heap H locs → lv_has ls 6 [(0, .ref (adr G xl0)), (1, .int zl1), (2, .int zl2), (5, .int zl5)] → wp_X12_rows_181 S k127 post xl0 zl1.toInt zl2.toInt zl5.toInt zs0.toInt M → W p l e RM_X12_rows s m args below meth c H locs 0 0 (MQ below (QI D G S post) args s 0 0 (aG G)) (F0 m 181 ls [.int zs0]) := by
  obtain ⟨hx, hb, hr, hlocks, hml, hown, hts, hK⟩ := id C
  intro xl0 zl1 zl2 zl5 zs0 M H locs ls hP hS hl h
  unfold wp_X12_rows_181 at h
  refine r_iconst hx hb dX12_rows_181 (by decide) h (fun z6 h => ?_)
  exact t_X12_rows_182 C hk127 xl0 zl1 zl2 zl5 zs0 z6 _ _ _ _ hP hS (lv_sub hl [0, 1, 2, 3] rfl) h
set_option maxHeartbeats 4000000 in
set_option maxRecDepth 100000 in
theorem t_X12_rows_127 {p : Program} {l : Launch} {e : Env} {s : State} {m : MethodId} {args : Array Value} {below : List Frame} {meth : Method} {c : Code} {D : va_G} {G : Gt} {S : Sh} {post : Int → Mm → Prop} (C : Cx p s m args meth c D G cX12_rows 6 (some .int) (cw_X12_rows :: gw) RX12) : ∀ (n : Nat) (xl0 : Int) (zl1 : Int32) (zl2 : Int32) (zl4 : Int32) (zl5 : Int32) (M : Mm) (H : Heap) (locs : List Loc) (ls : Array Slot), Wd D G S M H → va_S (aG G) s.heap H locs → lv_has ls 6 [(0, .ref (adr G xl0)), (1, .int zl1), (2, .int zl2), (4, .int zl4), (5, .int zl5)] → wp_X12_rows_127 S post n xl0 zl1.toInt zl2.toInt zl4.toInt zl5.toInt  M → W p l e RM_X12_rows s m args below meth c H locs 0 0 (MQ below (QI D G S post) args s 0 0 (aG G)) (F0 m 127 ls []) := by
  obtain ⟨hx, hb, hr, hlocks, hml, hown, hts, hK⟩ := id C
  intro n
  induction n with
  | zero => intro xl0 zl1 zl2 zl4 zl5 M H locs ls hP hS hl h; exact h.elim
  | succ n ih =>
    intro xl0 zl1 zl2 zl4 zl5 M H locs ls hP hS hl h
    unfold wp_X12_rows_127 at h
    refine lv_iload hx hb dX12_rows_127 (lv_at hl 4 rfl) ?_
    refine lv_aload_n hx hb dX12_rows_129 rfl (lv_at hl 0 rfl) ?_
    refine r_getr (C := RX12) (T := TX12) (N := 38) hx hb hts (fun w h => List.mem_cons_of_mem _ (iX12 w h)) hown hK hP rfl (by decide) rfl 20 (by decide) (hts _ (List.mem_cons_of_mem _ kw_1354)) (fun _ h9 => h9) dX12_rows_130 (by decide) h (fun x8 h => ?_)
    refine r_iconst hx hb dX12_rows_133 (by decide) h (fun z10 h => ?_)
    refine r_iald hx hb hK hP dX12_rows_134 h (fun z12 h => ?_)
    refine r_icmp_ge (tgt := 191) hx hb dX12_rows_135 (by decide) h (fun h => ?_) (fun h => ?_)
    · refine lv_iload hx hb dX12_rows_191 (lv_at hl 3 rfl) ?_
      exact r_iret hx hb hr hlocks hP hS dX12_rows_193 h
    · refine lv_iload hx hb dX12_rows_138 (lv_at hl 3 rfl) ?_
      refine lv_iload_n hx hb dX12_rows_140 rfl (lv_at hl 2 rfl) ?_
      refine lv_aload_n hx hb dX12_rows_141 rfl (lv_at hl 0 rfl) ?_
      refine lv_iload hx hb dX12_rows_142 (lv_at hl 4 rfl) ?_
      refine r_iconst hx hb dX12_rows_144 (by decide) h (fun z14 h => ?_)
      refine q_Vi hx hb hml hown hts hK hP hS (c_X12_handOf l D G S _ xl0 zl5 z14 _ h.2) ⟨callB_of 2 hts (gw_good kw_1650) rfl rfl rfl (hts _ (List.mem_cons_of_mem _ kw_14)) (hts _ (List.mem_cons_of_mem _ kw_1647)) hd_X12_handOf ⟨Nat.le_of_ble_eq_true rfl, Nat.le_of_ble_eq_true rfl⟩, (hts _ (List.mem_cons_of_mem _ kw_1649)), (hts _ (List.mem_cons_of_mem _ kp_88))⟩ h.1 (ci := 12) rfl (by decide) rfl hl.1 rfl (lv_room (Nat.le_of_ble_eq_true rfl)) dX12_rows_145 ⟨Nat.zero_le _, Nat.zero_le _⟩ (fun z17 M15 H locs h hP hS => ?_)
      refine r_icmp_lt (tgt := 181) hx hb dX12_rows_148 (by decide) h (fun h => ?_) (fun h => ?_)
      · exact t_X12_rows_181 C ih xl0 zl1 zl2 zl5 zl4 _ _ _ _ hP hS (lv_sub hl [0, 1, 2, 4] rfl) h
      · refine lv_aload_n hx hb dX12_rows_151 rfl (lv_at hl 0 rfl) ?_
        refine r_getr (C := RX12) (T := TX12) (N := 38) hx hb hts (fun w h => List.mem_cons_of_mem _ (iX12 w h)) hown hK hP rfl (by decide) rfl 32 (by decide) (hts _ (List.mem_cons_of_mem _ kw_1366)) (fun _ h9 => h9) dX12_rows_152 (by decide) h (fun x19 h => ?_)
        refine lv_iload_n hx hb dX12_rows_155 rfl (lv_at hl 1 rfl) ?_
        refine r_iconst hx hb dX12_rows_156 (by decide) h (fun z21 h => ?_)
        refine r_isub hx hb dX12_rows_157 h (fun z23 h => ?_)
        refine lv_iload_n hx hb dX12_rows_158 rfl (lv_at hl 2 rfl) ?_
        refine lv_aload_n hx hb dX12_rows_159 rfl (lv_at hl 0 rfl) ?_
        refine lv_iload hx hb dX12_rows_160 (lv_at hl 4 rfl) ?_
        refine r_iconst hx hb dX12_rows_162 (by decide) h (fun z25 h => ?_)
        refine q_Vi hx hb hml hown hts hK hP hS (c_X12_handOf l D G S _ xl0 zl5 z25 _ h.2) ⟨callB_of 2 hts (gw_good kw_1650) rfl rfl rfl (hts _ (List.mem_cons_of_mem _ kw_14)) (hts _ (List.mem_cons_of_mem _ kw_1647)) hd_X12_handOf ⟨Nat.le_of_ble_eq_true rfl, Nat.le_of_ble_eq_true rfl⟩, (hts _ (List.mem_cons_of_mem _ kw_1649)), (hts _ (List.mem_cons_of_mem _ kp_88))⟩ h.1 (ci := 12) rfl (by decide) rfl hl.1 rfl (lv_room (Nat.le_of_ble_eq_true rfl)) dX12_rows_163 ⟨Nat.zero_le _, Nat.zero_le _⟩ (fun z28 M26 H locs h hP hS => ?_)
        refine r_isub hx hb dX12_rows_166 h (fun z30 h => ?_)
        refine q_Si hx hb hml hown hts hK hP hS (c_X12_spot l D G S _ z23 z30 _ h) ⟨callB_of 2 hts (gw_good kw_1917) rfl rfl rfl (hts _ (List.mem_cons_of_mem _ kw_14)) (hts _ (List.mem_cons_of_mem _ kw_1915)) hd_X12_spot ⟨Nat.le_of_ble_eq_true rfl, Nat.le_of_ble_eq_true rfl⟩, (hts _ (List.mem_cons_of_mem _ kw_1916))⟩ rfl hl.1 rfl (lv_room (Nat.le_of_ble_eq_true rfl)) dX12_rows_167 ⟨Nat.zero_le _, Nat.zero_le _⟩ (fun z33 M31 H locs h hP hS => ?_)
        refine r_zald hx hb hK hP dX12_rows_170 h (fun z35 h => ?_)
        refine r_if_eq (tgt := 181) hx hb dX12_rows_171 (by decide) h (fun h => ?_) (fun h => ?_)
        · exact t_X12_rows_181 C ih xl0 zl1 zl2 zl5 zl4 _ _ _ _ hP hS (lv_sub hl [0, 1, 2, 4] rfl) h
        · refine r_iconst hx hb dX12_rows_174 (by decide) h (fun z37 h => ?_)
          refine lv_iload hx hb dX12_rows_175 (lv_at hl 4 rfl) ?_
          refine r_ishl hx hb dX12_rows_177 h (fun z39 h => ?_)
          refine lv_goto (tgt := 182) hx hb dX12_rows_178 (by decide) ?_
          exact t_X12_rows_182 C ih xl0 zl1 zl2 zl5 zl4 z39 _ _ _ _ hP hS (lv_sub hl [0, 1, 2, 4] rfl) h
set_option maxHeartbeats 4000000 in
set_option maxRecDepth 100000 in
theorem t_X12_rows_62 {p : Program} {l : Launch} {e : Env} {s : State} {m : MethodId} {args : Array Value} {below : List Frame} {meth : Method} {c : Code} {D : va_G} {G : Gt} {S : Sh} {post : Int → Mm → Prop} (C : Cx p s m args meth c D G cX12_rows 6 (some .int) (cw_X12_rows :: gw) RX12) : ∀ (xl0 : Int) (zl1 : Int32) (zl2 : Int32) (zl3 : Int32) (M : Mm) (H : Heap) (locs : List Loc) (ls : Array Slot), Wd D G S M H → va_S (aG G) s.heap H locs → lv_has ls 6 [(0, .ref (adr G xl0)), (1, .int zl1), (2, .int zl2), (3, .int zl3)] → wp_X12_rows_62 S post xl0 zl1.toInt zl2.toInt zl3.toInt  M → W p l e RM_X12_rows s m args below meth c H locs 0 0 (MQ below (QI D G S post) args s 0 0 (aG G)) (F0 m 62 ls []) := by
  obtain ⟨hx, hb, hr, hlocks, hml, hown, hts, hK⟩ := id C
  intro xl0 zl1 zl2 zl3 M H locs ls hP hS hl h
  unfold wp_X12_rows_62 at h
  refine lv_aload_n hx hb dX12_rows_62 rfl (lv_at hl 0 rfl) ?_
  refine lv_iload_n hx hb dX12_rows_63 rfl (lv_at hl 1 rfl) ?_
  refine q_Vv hx hb hml hown hts hK hP hS (c_X12_fillsRows l D G S _ xl0 zl1 _ h.2) ⟨callB_of 1 hts (gw_good kw_1914) rfl rfl rfl (hts _ (List.mem_cons_of_mem _ kw_14)) (hts _ (List.mem_cons_of_mem _ kw_1911)) hd_X12_fillsRows ⟨Nat.le_of_ble_eq_true rfl, Nat.le_of_ble_eq_true rfl⟩, (hts _ (List.mem_cons_of_mem _ kw_1913)), (hts _ (List.mem_cons_of_mem _ kp_128))⟩ h.1 (ci := 12) rfl (by decide) rfl hl.1 rfl (lv_room (Nat.le_of_ble_eq_true rfl)) dX12_rows_64 ⟨Nat.zero_le _, Nat.zero_le _⟩ (fun M40 H locs h hP hS => ?_)
  refine lv_iload_n hx hb dX12_rows_67 rfl (lv_at hl 3 rfl) ?_
  refine r_iconst hx hb dX12_rows_68 (by decide) h (fun z42 h => ?_)
  refine r_icmp_ne (tgt := 83) hx hb dX12_rows_69 (by decide) h (fun h => ?_) (fun h => ?_)
  · refine lv_aload_n hx hb dX12_rows_83 rfl (lv_at hl 0 rfl) ?_
    refine r_getr (C := RX12) (T := TX12) (N := 38) hx hb hts (fun w h => List.mem_cons_of_mem _ (iX12 w h)) hown hK hP rfl (by decide) rfl 32 (by decide) (hts _ (List.mem_cons_of_mem _ kw_1366)) (fun _ h9 => h9) dX12_rows_84 (by decide) h (fun x44 h => ?_)
    refine lv_iload_n hx hb dX12_rows_87 rfl (lv_at hl 1 rfl) ?_
    refine lv_iload_n hx hb dX12_rows_88 rfl (lv_at hl 2 rfl) ?_
    refine q_Si hx hb hml hown hts hK hP hS (c_X12_spot l D G S _ zl1 zl2 _ h) ⟨callB_of 2 hts (gw_good kw_1917) rfl rfl rfl (hts _ (List.mem_cons_of_mem _ kw_14)) (hts _ (List.mem_cons_of_mem _ kw_1915)) hd_X12_spot ⟨Nat.le_of_ble_eq_true rfl, Nat.le_of_ble_eq_true rfl⟩, (hts _ (List.mem_cons_of_mem _ kw_1916))⟩ rfl hl.1 rfl (lv_room (Nat.le_of_ble_eq_true rfl)) dX12_rows_89 ⟨Nat.zero_le _, Nat.zero_le _⟩ (fun z47 M45 H locs h hP hS => ?_)
    refine r_zald hx hb hK hP dX12_rows_92 h (fun z49 h => ?_)
    refine r_if_eq (tgt := 104) hx hb dX12_rows_93 (by decide) h (fun h => ?_) (fun h => ?_)
    · refine r_bipush hx hb dX12_rows_104 (by decide) h (fun z51 h => ?_)
      exact r_iret hx hb hr hlocks hP hS dX12_rows_106 h
    · refine lv_iload_n hx hb dX12_rows_96 rfl (lv_at hl 3 rfl) ?_
      refine r_bipush hx hb dX12_rows_97 (by decide) h (fun z53 h => ?_)
      refine r_irem hx hb dX12_rows_99 h (fun z55 h => ?_)
      refine lv_iload_n hx hb dX12_rows_100 rfl (lv_at hl 1 rfl) ?_
      refine r_icmp_lt (tgt := 107) hx hb dX12_rows_101 (by decide) h (fun h => ?_) (fun h => ?_)
      · refine lv_iload_n hx hb dX12_rows_107 rfl (lv_at hl 3 rfl) ?_
        refine r_bipush hx hb dX12_rows_108 (by decide) h (fun z57 h => ?_)
        refine r_icmp_ge (tgt := 121) hx hb dX12_rows_110 (by decide) h (fun h => ?_) (fun h => ?_)
        · refine r_iconst hx hb dX12_rows_121 (by decide) h (fun z59 h => ?_)
          refine lv_istore (lv' := [(4, .int z59), (0, .ref (adr G xl0)), (1, .int zl1), (2, .int zl2), (3, .int zl3)]) hx hb dX12_rows_122 hl (by decide) rfl (fun ls hl => ?_)
          refine r_iconst hx hb dX12_rows_124 (by decide) h (fun z61 h => ?_)
          refine lv_istore (lv' := [(5, .int z61), (4, .int z59), (0, .ref (adr G xl0)), (1, .int zl1), (2, .int zl2), (3, .int zl3)]) hx hb dX12_rows_125 hl (by decide) rfl (fun ls hl => ?_)
          obtain ⟨n9, h⟩ := h
          exact t_X12_rows_127 C n9 xl0 zl1 zl2 z59 z61 _ _ _ _ hP hS (lv_sub hl [2, 3, 4, 1, 0] rfl) h
        · refine lv_aload_n hx hb dX12_rows_113 rfl (lv_at hl 0 rfl) ?_
          refine lv_iload_n hx hb dX12_rows_114 rfl (lv_at hl 1 rfl) ?_
          refine lv_iload_n hx hb dX12_rows_115 rfl (lv_at hl 2 rfl) ?_
          refine lv_iload_n hx hb dX12_rows_116 rfl (lv_at hl 3 rfl) ?_
          refine q_Vi hx hb hml hown hts hK hP hS (c_X12_firstHand l D G S _ xl0 zl1 zl2 zl3 _ h.2) ⟨callB_of 3 hts (gw_good kw_1922) rfl rfl rfl (hts _ (List.mem_cons_of_mem _ kw_14)) (hts _ (List.mem_cons_of_mem _ kw_1919)) hd_X12_firstHand ⟨Nat.le_of_ble_eq_true rfl, Nat.le_of_ble_eq_true rfl⟩, (hts _ (List.mem_cons_of_mem _ kw_1921)), (hts _ (List.mem_cons_of_mem _ kp_129))⟩ h.1 (ci := 12) rfl (by decide) rfl hl.1 rfl (lv_room (Nat.le_of_ble_eq_true rfl)) dX12_rows_117 ⟨Nat.zero_le _, Nat.zero_le _⟩ (fun z64 M62 H locs h hP hS => ?_)
          exact r_iret hx hb hr hlocks hP hS dX12_rows_120 h
      · refine r_bipush hx hb dX12_rows_104 (by decide) h (fun z66 h => ?_)
        exact r_iret hx hb hr hlocks hP hS dX12_rows_106 h
  · refine lv_aload_n hx hb dX12_rows_72 rfl (lv_at hl 0 rfl) ?_
    refine r_getr (C := RX12) (T := TX12) (N := 38) hx hb hts (fun w h => List.mem_cons_of_mem _ (iX12 w h)) hown hK hP rfl (by decide) rfl 31 (by decide) (hts _ (List.mem_cons_of_mem _ kw_1365)) (fun _ h9 => h9) dX12_rows_73 (by decide) h (fun x68 h => ?_)
    refine lv_iload_n hx hb dX12_rows_76 rfl (lv_at hl 1 rfl) ?_
    refine lv_iload_n hx hb dX12_rows_77 rfl (lv_at hl 2 rfl) ?_
    refine q_Si hx hb hml hown hts hK hP hS (c_X12_spot l D G S _ zl1 zl2 _ h) ⟨callB_of 2 hts (gw_good kw_1917) rfl rfl rfl (hts _ (List.mem_cons_of_mem _ kw_14)) (hts _ (List.mem_cons_of_mem _ kw_1915)) hd_X12_spot ⟨Nat.le_of_ble_eq_true rfl, Nat.le_of_ble_eq_true rfl⟩, (hts _ (List.mem_cons_of_mem _ kw_1916))⟩ rfl hl.1 rfl (lv_room (Nat.le_of_ble_eq_true rfl)) dX12_rows_78 ⟨Nat.zero_le _, Nat.zero_le _⟩ (fun z71 M69 H locs h hP hS => ?_)
    refine r_iald hx hb hK hP dX12_rows_81 h (fun z73 h => ?_)
    exact r_iret hx hb hr hlocks hP hS dX12_rows_82 h
set_option maxHeartbeats 4000000 in
set_option maxRecDepth 100000 in
theorem c_X12_rows (l : Launch) (D : va_G) (G : Gt) (S : Sh) (M : Mm) (xl0 : Int) (zl1 : Int32) (zl2 : Int32) (zl3 : Int32) (post : Int → Mm → Prop) (h : wp_X12_rows S M xl0 zl1.toInt zl2.toInt zl3.toInt post) : Met l yX12_rows (cw_X12_rows :: gw) RM_X12_rows (va_Pc [.ref (adr G xl0), .int zl1, .int zl2, .int zl3] (fun U => KN D G U ∧ Wd D G S M U.heap)) (QI D G S post) 0 0 (aG G) := by
  refine Met.ofW (cc := cX12_rows) (maxL := 6) (ret := (some .int)) (by decide) rfl ?_
  intro p e s m args below meth c s₁ B hml hv
  obtain ⟨rfl, hK, hP⟩ := hv
  have hx := B.exec
  have hb := B.bytes
  have hr := B.returns
  have hts := atoms_spec (ws := cw_X12_rows :: gw) B.pre
  have hown : s.vm.findClass RX12 = some m.cls := findClass_of_methodNamed B.named
  have hlocks := B.notSynchronized
  have hS : va_S (aG G) s.heap s.heap [] := va_S.rf
  have C : Cx p s m ([.ref (adr G xl0), .int zl1, .int zl2, .int zl3] : List Value).toArray meth c D G cX12_rows 6 (some .int) (cw_X12_rows :: gw) RX12 := ⟨hx, hb, hr, hlocks, hml, hown, hts, hK⟩
  have hl := lv_entry ([.ref (adr G xl0), .int zl1, .int zl2, .int zl3]) (n := 6) (Nat.le_of_ble_eq_true rfl)
  rw [lg_entry_eq]
  generalize (lg_sl ([.ref (adr G xl0), .int zl1, .int zl2, .int zl3]) ++ List.replicate (6 - (lg_sl ([.ref (adr G xl0), .int zl1, .int zl2, .int zl3])).length) Slot.unset).toArray = ls at hl ⊢
  have hl : lv_has ls 6 [(0, .ref (adr G xl0)), (1, .int zl1), (2, .int zl2), (3, .int zl3)] := hl
  unfold wp_X12_rows at h
  refine lv_aload_n hx hb dX12_rows_0 rfl (lv_at hl 0 rfl) ?_
  refine q_Vi hx hb hml hown hts hK hP hS (c_X12_isDairy l D G S _ xl0 _ h.2) ⟨callB_of 0 hts (gw_good kw_1698) rfl rfl rfl (hts _ (List.mem_cons_of_mem _ kw_14)) (hts _ (List.mem_cons_of_mem _ kw_1695)) hd_X12_isDairy ⟨Nat.le_of_ble_eq_true rfl, Nat.le_of_ble_eq_true rfl⟩, (hts _ (List.mem_cons_of_mem _ kw_1697)), (hts _ (List.mem_cons_of_mem _ kp_96))⟩ h.1 (ci := 12) rfl (by decide) rfl hl.1 rfl (lv_room (Nat.le_of_ble_eq_true rfl)) dX12_rows_1 ⟨Nat.zero_le _, Nat.zero_le _⟩ (fun z76 M74 H locs h hP hS => ?_)
  refine r_if_eq (tgt := 59) hx hb dX12_rows_4 (by decide) h (fun h => ?_) (fun h => ?_)
  · refine r_bipush hx hb dX12_rows_59 (by decide) h (fun z78 h => ?_)
    exact r_iret hx hb hr hlocks hP hS dX12_rows_61 h
  · refine lv_iload_n hx hb dX12_rows_7 rfl (lv_at hl 1 rfl) ?_
    refine r_i2l hx hb dX12_rows_8 h (fun z80 h => ?_)
    refine r_lconst hx hb dX12_rows_9 (v := 1) (by decide) h (fun z82 h => ?_)
    refine r_ldc2 hx hb hown (hts _ (List.mem_cons_of_mem _ kw_1906)) dX12_rows_10 (n := 12) (by decide) h (fun z84 h => ?_)
    refine q_Si hx hb hml hown hts hK hP hS (c_X12_in l D G S _ z80 z82 z84 _ h) ⟨callB_of 3 hts (gw_good kw_1523) rfl rfl rfl (hts _ (List.mem_cons_of_mem _ kw_14)) (hts _ (List.mem_cons_of_mem _ kw_1521)) hd_X12_in ⟨Nat.le_of_ble_eq_true rfl, Nat.le_of_ble_eq_true rfl⟩, (hts _ (List.mem_cons_of_mem _ kw_1522))⟩ rfl hl.1 rfl (lv_room (Nat.le_of_ble_eq_true rfl)) dX12_rows_13 ⟨Nat.zero_le _, Nat.zero_le _⟩ (fun z87 M85 H locs h hP hS => ?_)
    refine r_if_eq (tgt := 59) hx hb dX12_rows_16 (by decide) h (fun h => ?_) (fun h => ?_)
    · refine r_bipush hx hb dX12_rows_59 (by decide) h (fun z89 h => ?_)
      exact r_iret hx hb hr hlocks hP hS dX12_rows_61 h
    · refine lv_iload_n hx hb dX12_rows_19 rfl (lv_at hl 2 rfl) ?_
      refine r_i2l hx hb dX12_rows_20 h (fun z91 h => ?_)
      refine r_lconst hx hb dX12_rows_21 (v := 0) (by decide) h (fun z93 h => ?_)
      refine r_ldc2 hx hb hown (hts _ (List.mem_cons_of_mem _ kw_1907)) dX12_rows_22 (n := 300) (by decide) h (fun z95 h => ?_)
      refine q_Si hx hb hml hown hts hK hP hS (c_X12_in l D G S _ z91 z93 z95 _ h) ⟨callB_of 3 hts (gw_good kw_1523) rfl rfl rfl (hts _ (List.mem_cons_of_mem _ kw_14)) (hts _ (List.mem_cons_of_mem _ kw_1521)) hd_X12_in ⟨Nat.le_of_ble_eq_true rfl, Nat.le_of_ble_eq_true rfl⟩, (hts _ (List.mem_cons_of_mem _ kw_1522))⟩ rfl hl.1 rfl (lv_room (Nat.le_of_ble_eq_true rfl)) dX12_rows_25 ⟨Nat.zero_le _, Nat.zero_le _⟩ (fun z98 M96 H locs h hP hS => ?_)
      refine r_if_eq (tgt := 59) hx hb dX12_rows_28 (by decide) h (fun h => ?_) (fun h => ?_)
      · refine r_bipush hx hb dX12_rows_59 (by decide) h (fun z100 h => ?_)
        exact r_iret hx hb hr hlocks hP hS dX12_rows_61 h
      · refine lv_iload_n hx hb dX12_rows_31 rfl (lv_at hl 3 rfl) ?_
        refine r_i2l hx hb dX12_rows_32 h (fun z102 h => ?_)
        refine r_ldc2 hx hb hown (hts _ (List.mem_cons_of_mem _ kw_1908)) dX12_rows_33 (n := (-1)) (by decide) h (fun z104 h => ?_)
        refine r_ldc2 hx hb hown (hts _ (List.mem_cons_of_mem _ kw_1909)) dX12_rows_36 (n := 11) (by decide) h (fun z106 h => ?_)
        refine q_Si hx hb hml hown hts hK hP hS (c_X12_in l D G S _ z102 z104 z106 _ h) ⟨callB_of 3 hts (gw_good kw_1523) rfl rfl rfl (hts _ (List.mem_cons_of_mem _ kw_14)) (hts _ (List.mem_cons_of_mem _ kw_1521)) hd_X12_in ⟨Nat.le_of_ble_eq_true rfl, Nat.le_of_ble_eq_true rfl⟩, (hts _ (List.mem_cons_of_mem _ kw_1522))⟩ rfl hl.1 rfl (lv_room (Nat.le_of_ble_eq_true rfl)) dX12_rows_39 ⟨Nat.zero_le _, Nat.zero_le _⟩ (fun z109 M107 H locs h hP hS => ?_)
        refine r_if_ne (tgt := 62) hx hb dX12_rows_42 (by decide) h (fun h => ?_) (fun h => ?_)
        · exact t_X12_rows_62 C xl0 zl1 zl2 zl3 _ _ _ _ hP hS (lv_sub hl [0, 1, 2, 3] rfl) h
        · refine lv_iload_n hx hb dX12_rows_45 rfl (lv_at hl 3 rfl) ?_
          refine r_i2l hx hb dX12_rows_46 h (fun z111 h => ?_)
          refine r_ldc2 hx hb hown (hts _ (List.mem_cons_of_mem _ kw_1879)) dX12_rows_47 (n := 20) (by decide) h (fun z113 h => ?_)
          refine r_ldc2 hx hb hown (hts _ (List.mem_cons_of_mem _ kw_1910)) dX12_rows_50 (n := 31) (by decide) h (fun z115 h => ?_)
          refine q_Si hx hb hml hown hts hK hP hS (c_X12_in l D G S _ z111 z113 z115 _ h) ⟨callB_of 3 hts (gw_good kw_1523) rfl rfl rfl (hts _ (List.mem_cons_of_mem _ kw_14)) (hts _ (List.mem_cons_of_mem _ kw_1521)) hd_X12_in ⟨Nat.le_of_ble_eq_true rfl, Nat.le_of_ble_eq_true rfl⟩, (hts _ (List.mem_cons_of_mem _ kw_1522))⟩ rfl hl.1 rfl (lv_room (Nat.le_of_ble_eq_true rfl)) dX12_rows_53 ⟨Nat.zero_le _, Nat.zero_le _⟩ (fun z118 M116 H locs h hP hS => ?_)
          refine r_if_ne (tgt := 62) hx hb dX12_rows_56 (by decide) h (fun h => ?_) (fun h => ?_)
          · exact t_X12_rows_62 C xl0 zl1 zl2 zl3 _ _ _ _ hP hS (lv_sub hl [0, 1, 2, 3] rfl) h
          · refine r_bipush hx hb dX12_rows_59 (by decide) h (fun z120 h => ?_)
            exact r_iret hx hb hr hlocks hP hS dX12_rows_61 h
/-! TurningMilkModel.turnedAll()I -/
abbrev RM_X12_turnedAll : Room := { frames := 2, cells := 0, slots := 0, locals := 62 }
def cw_X12_turnedAll : Cond := Cond.code yX12_turnedAll cX12_turnedAll 3 (Option.some FieldType.int)
theorem hd_X12_turnedAll : yX12_turnedAll.cls ≠ "java/lang/invoke/MethodHandle" ∧ yX12_turnedAll.cls ≠ "java/lang/invoke/VarHandle" ∧ (parseMethodDescriptor yX12_turnedAll.desc).map (fun d => d.parameters.length) = some 0 := by decide +kernel
theorem dX12_turnedAll_0 : decode cX12_turnedAll 0 = .ok (.iconst 0, 1) := by decide +kernel
theorem dX12_turnedAll_1 : decode cX12_turnedAll 1 = .ok (.istore_n 1, 1) := by decide +kernel
theorem dX12_turnedAll_2 : decode cX12_turnedAll 2 = .ok (.iconst 0, 1) := by decide +kernel
theorem dX12_turnedAll_3 : decode cX12_turnedAll 3 = .ok (.istore_n 2, 1) := by decide +kernel
theorem dX12_turnedAll_4 : decode cX12_turnedAll 4 = .ok (.iload_n 2, 1) := by decide +kernel
theorem dX12_turnedAll_5 : decode cX12_turnedAll 5 = .ok (.aload_n 0, 1) := by decide +kernel
theorem dX12_turnedAll_6 : decode cX12_turnedAll 6 = .ok (.getfield 39, 3) := by decide +kernel
theorem dX12_turnedAll_9 : decode cX12_turnedAll 9 = .ok (.iconst 5, 1) := by decide +kernel
theorem dX12_turnedAll_10 : decode cX12_turnedAll 10 = .ok (.iaload, 1) := by decide +kernel
theorem dX12_turnedAll_11 : decode cX12_turnedAll 11 = .ok (.if_icmp .ge 32, 3) := by decide +kernel
theorem dX12_turnedAll_14 : decode cX12_turnedAll 14 = .ok (.iload_n 1, 1) := by decide +kernel
theorem dX12_turnedAll_15 : decode cX12_turnedAll 15 = .ok (.aload_n 0, 1) := by decide +kernel
theorem dX12_turnedAll_16 : decode cX12_turnedAll 16 = .ok (.iload_n 2, 1) := by decide +kernel
theorem dX12_turnedAll_17 : decode cX12_turnedAll 17 = .ok (.iconst 3, 1) := by decide +kernel
theorem dX12_turnedAll_18 : decode cX12_turnedAll 18 = .ok (.invokevirtual 284, 3) := by decide +kernel
theorem dX12_turnedAll_21 : decode cX12_turnedAll 21 = .ok (.iconst 1, 1) := by decide +kernel
theorem dX12_turnedAll_22 : decode cX12_turnedAll 22 = .ok (.if_icmp .ne 7, 3) := by decide +kernel
theorem dX12_turnedAll_25 : decode cX12_turnedAll 25 = .ok (.iconst 0, 1) := by decide +kernel
theorem dX12_turnedAll_26 : decode cX12_turnedAll 26 = .ok (.goto 9, 3) := by decide +kernel
theorem dX12_turnedAll_29 : decode cX12_turnedAll 29 = .ok (.aload_n 0, 1) := by decide +kernel
theorem dX12_turnedAll_30 : decode cX12_turnedAll 30 = .ok (.iload_n 2, 1) := by decide +kernel
theorem dX12_turnedAll_31 : decode cX12_turnedAll 31 = .ok (.iconst 2, 1) := by decide +kernel
theorem dX12_turnedAll_32 : decode cX12_turnedAll 32 = .ok (.invokevirtual 284, 3) := by decide +kernel
theorem dX12_turnedAll_35 : decode cX12_turnedAll 35 = .ok (.iadd, 1) := by decide +kernel
theorem dX12_turnedAll_36 : decode cX12_turnedAll 36 = .ok (.istore_n 1, 1) := by decide +kernel
theorem dX12_turnedAll_37 : decode cX12_turnedAll 37 = .ok (.iinc 2 1, 3) := by decide +kernel
theorem dX12_turnedAll_40 : decode cX12_turnedAll 40 = .ok (.goto (-36), 3) := by decide +kernel
theorem dX12_turnedAll_43 : decode cX12_turnedAll 43 = .ok (.iload_n 1, 1) := by decide +kernel
theorem dX12_turnedAll_44 : decode cX12_turnedAll 44 = .ok (.ireturn, 1) := by decide +kernel
def wp_X12_turnedAll_35 (S : Sh) (k4 : Int → Int → Int → Mm → Prop) (post : Int → Mm → Prop) (u0 : Int) (u2 : Int) (t0 : Int) (t1 : Int) (M : Mm) : Prop := wA t0 t1 fun v1 => wA u2 1 fun v3 => k4 u0 v1 v3 M
def wp_X12_turnedAll_4 (S : Sh) (post : Int → Mm → Prop) : Nat → Int → Int → Int → Mm → Prop
  | 0, _, _, _, _ => False
  | n + 1, u0, u1, u2, M => wGetR S M u0 12 20 fun v5 => wC 5 fun v7 => wLd S M v5 14 v7 fun v9 => wIf (v9 ≤ u2) (post u1 M) (wC 3 fun v11 => isK S u0 12 ∧ (wp_X12_jugOf S M u0 u2 v11 <| fun v14 M13 => wC 1 fun v16 => wIf (¬ v14 = v16) (wC 2 fun v18 => isK S u0 12 ∧ (wp_X12_jugOf S M13 u0 u2 v18 <| fun v21 M20 => wp_X12_turnedAll_35 S (fun a0 a1 a2 M => wp_X12_turnedAll_4 S post n a0 a1 a2 M) post u0 u2 u1 v21 M20)) (wC 0 fun v23 => wp_X12_turnedAll_35 S (fun a0 a1 a2 M => wp_X12_turnedAll_4 S post n a0 a1 a2 M) post u0 u2 u1 v23 M13)))
def wp_X12_turnedAll (S : Sh) (M : Mm) (u0 : Int) (post : Int → Mm → Prop) : Prop := wC 0 fun v25 => wC 0 fun v27 => ∃ n9 : Nat, wp_X12_turnedAll_4 S post n9 u0 v25 v27 M
set_option maxHeartbeats 4000000 in
set_option maxRecDepth 100000 in
theorem t_X12_turnedAll_35 {p : Program} {l : Launch} {e : Env} {s : State} {m : MethodId} {args : Array Value} {below : List Frame} {meth : Method} {c : Code} {D : va_G} {G : Gt} {S : Sh} {post : Int → Mm → Prop} {k4 : Int → Int → Int → Mm → Prop} (C : Cx p s m args meth c D G cX12_turnedAll 3 (some .int) (cw_X12_turnedAll :: gw) RX12) (hk4 : ∀ (y0 : Int) (y1 : Int32) (y2 : Int32) (M : Mm) (H : Heap) (locs : List Loc) (ls : Array Slot), Wd D G S M H → va_S (aG G) s.heap H locs → lv_has ls 3 [(0, .ref (adr G y0)), (1, .int y1), (2, .int y2)] → k4 y0 y1.toInt y2.toInt M → W p l e RM_X12_turnedAll s m args below meth c H locs 0 0 (MQ below (QI D G S post) args s 0 0 (aG G)) (F0 m 4 ls [])) : ∀ (xl0 : Int) (zl2 : Int32) (zs0 : Int32) (zs1 : Int32) (M : Mm) (H : Heap) (locs : List Loc) (ls : Array Slot), Wd D G S M H → va_S (aG G) s.heap H locs → lv_has ls 3 [(0, .ref (adr G xl0)), (2, .int zl2)] → wp_X12_turnedAll_35 S k4 post xl0 zl2.toInt zs0.toInt zs1.toInt M → W p l e RM_X12_turnedAll s m args below meth c H locs 0 0 (MQ below (QI D G S post) args s 0 0 (aG G)) (F0 m 35 ls [.int zs1, .int zs0]) := by
  obtain ⟨hx, hb, hr, hlocks, hml, hown, hts, hK⟩ := id C
  intro xl0 zl2 zs0 zs1 M H locs ls hP hS hl h
  unfold wp_X12_turnedAll_35 at h
  refine r_iadd hx hb dX12_turnedAll_35 h (fun z2 h => ?_)
  refine lv_istore_n (lv' := [(1, .int z2), (0, .ref (adr G xl0)), (2, .int zl2)]) hx hb dX12_turnedAll_36 rfl hl (by decide) rfl (fun ls hl => ?_)
  refine r_iinc hx hb (fun z4 => [(2, .int z4), (1, .int z2), (0, .ref (adr G xl0))]) dX12_turnedAll_37 (by decide) hl (k := 2) rfl (by decide) (fun _ => rfl) h (fun z4 ls hl h => ?_)
  refine lv_goto (tgt := 4) hx hb dX12_turnedAll_40 (by decide) ?_
  exact hk4 xl0 z2 z4 _ _ _ _ hP hS (lv_sub hl [2, 1, 0] rfl) h
set_option maxHeartbeats 4000000 in
set_option maxRecDepth 100000 in
theorem t_X12_turnedAll_4 {p : Program} {l : Launch} {e : Env} {s : State} {m : MethodId} {args : Array Value} {below : List Frame} {meth : Method} {c : Code} {D : va_G} {G : Gt} {S : Sh} {post : Int → Mm → Prop} (C : Cx p s m args meth c D G cX12_turnedAll 3 (some .int) (cw_X12_turnedAll :: gw) RX12) : ∀ (n : Nat) (xl0 : Int) (zl1 : Int32) (zl2 : Int32) (M : Mm) (H : Heap) (locs : List Loc) (ls : Array Slot), Wd D G S M H → va_S (aG G) s.heap H locs → lv_has ls 3 [(0, .ref (adr G xl0)), (1, .int zl1), (2, .int zl2)] → wp_X12_turnedAll_4 S post n xl0 zl1.toInt zl2.toInt  M → W p l e RM_X12_turnedAll s m args below meth c H locs 0 0 (MQ below (QI D G S post) args s 0 0 (aG G)) (F0 m 4 ls []) := by
  obtain ⟨hx, hb, hr, hlocks, hml, hown, hts, hK⟩ := id C
  intro n
  induction n with
  | zero => intro xl0 zl1 zl2 M H locs ls hP hS hl h; exact h.elim
  | succ n ih =>
    intro xl0 zl1 zl2 M H locs ls hP hS hl h
    unfold wp_X12_turnedAll_4 at h
    refine lv_iload_n hx hb dX12_turnedAll_4 rfl (lv_at hl 2 rfl) ?_
    refine lv_aload_n hx hb dX12_turnedAll_5 rfl (lv_at hl 0 rfl) ?_
    refine r_getr (C := RX12) (T := TX12) (N := 38) hx hb hts (fun w h => List.mem_cons_of_mem _ (iX12 w h)) hown hK hP rfl (by decide) rfl 20 (by decide) (hts _ (List.mem_cons_of_mem _ kw_1354)) (fun _ h9 => h9) dX12_turnedAll_6 (by decide) h (fun x6 h => ?_)
    refine r_iconst hx hb dX12_turnedAll_9 (by decide) h (fun z8 h => ?_)
    refine r_iald hx hb hK hP dX12_turnedAll_10 h (fun z10 h => ?_)
    refine r_icmp_ge (tgt := 43) hx hb dX12_turnedAll_11 (by decide) h (fun h => ?_) (fun h => ?_)
    · refine lv_iload_n hx hb dX12_turnedAll_43 rfl (lv_at hl 1 rfl) ?_
      exact r_iret hx hb hr hlocks hP hS dX12_turnedAll_44 h
    · refine lv_iload_n hx hb dX12_turnedAll_14 rfl (lv_at hl 1 rfl) ?_
      refine lv_aload_n hx hb dX12_turnedAll_15 rfl (lv_at hl 0 rfl) ?_
      refine lv_iload_n hx hb dX12_turnedAll_16 rfl (lv_at hl 2 rfl) ?_
      refine r_iconst hx hb dX12_turnedAll_17 (by decide) h (fun z12 h => ?_)
      refine q_Vi hx hb hml hown hts hK hP hS (c_X12_jugOf l D G S _ xl0 zl2 z12 _ h.2) ⟨callB_of 2 hts (gw_good kw_1658) rfl rfl rfl (hts _ (List.mem_cons_of_mem _ kw_14)) (hts _ (List.mem_cons_of_mem _ kw_1655)) hd_X12_jugOf ⟨Nat.le_of_ble_eq_true rfl, Nat.le_of_ble_eq_true rfl⟩, (hts _ (List.mem_cons_of_mem _ kw_1657)), (hts _ (List.mem_cons_of_mem _ kp_90))⟩ h.1 (ci := 12) rfl (by decide) rfl hl.1 rfl (lv_room (Nat.le_of_ble_eq_true rfl)) dX12_turnedAll_18 ⟨Nat.zero_le _, Nat.zero_le _⟩ (fun z15 M13 H locs h hP hS => ?_)
      refine r_iconst hx hb dX12_turnedAll_21 (by decide) h (fun z17 h => ?_)
      refine r_icmp_ne (tgt := 29) hx hb dX12_turnedAll_22 (by decide) h (fun h => ?_) (fun h => ?_)
      · refine lv_aload_n hx hb dX12_turnedAll_29 rfl (lv_at hl 0 rfl) ?_
        refine lv_iload_n hx hb dX12_turnedAll_30 rfl (lv_at hl 2 rfl) ?_
        refine r_iconst hx hb dX12_turnedAll_31 (by decide) h (fun z19 h => ?_)
        refine q_Vi hx hb hml hown hts hK hP hS (c_X12_jugOf l D G S _ xl0 zl2 z19 _ h.2) ⟨callB_of 2 hts (gw_good kw_1658) rfl rfl rfl (hts _ (List.mem_cons_of_mem _ kw_14)) (hts _ (List.mem_cons_of_mem _ kw_1655)) hd_X12_jugOf ⟨Nat.le_of_ble_eq_true rfl, Nat.le_of_ble_eq_true rfl⟩, (hts _ (List.mem_cons_of_mem _ kw_1657)), (hts _ (List.mem_cons_of_mem _ kp_90))⟩ h.1 (ci := 12) rfl (by decide) rfl hl.1 rfl (lv_room (Nat.le_of_ble_eq_true rfl)) dX12_turnedAll_32 ⟨Nat.zero_le _, Nat.zero_le _⟩ (fun z22 M20 H locs h hP hS => ?_)
        exact t_X12_turnedAll_35 C ih xl0 zl2 zl1 z22 _ _ _ _ hP hS (lv_sub hl [0, 2] rfl) h
      · refine r_iconst hx hb dX12_turnedAll_25 (by decide) h (fun z24 h => ?_)
        refine lv_goto (tgt := 35) hx hb dX12_turnedAll_26 (by decide) ?_
        exact t_X12_turnedAll_35 C ih xl0 zl2 zl1 z24 _ _ _ _ hP hS (lv_sub hl [0, 2] rfl) h
set_option maxHeartbeats 4000000 in
set_option maxRecDepth 100000 in
theorem c_X12_turnedAll (l : Launch) (D : va_G) (G : Gt) (S : Sh) (M : Mm) (xl0 : Int) (post : Int → Mm → Prop) (h : wp_X12_turnedAll S M xl0 post) : Met l yX12_turnedAll (cw_X12_turnedAll :: gw) RM_X12_turnedAll (va_Pc [.ref (adr G xl0)] (fun U => KN D G U ∧ Wd D G S M U.heap)) (QI D G S post) 0 0 (aG G) := by
  refine Met.ofW (cc := cX12_turnedAll) (maxL := 3) (ret := (some .int)) (by decide) rfl ?_
  intro p e s m args below meth c s₁ B hml hv
  obtain ⟨rfl, hK, hP⟩ := hv
  have hx := B.exec
  have hb := B.bytes
  have hr := B.returns
  have hts := atoms_spec (ws := cw_X12_turnedAll :: gw) B.pre
  have hown : s.vm.findClass RX12 = some m.cls := findClass_of_methodNamed B.named
  have hlocks := B.notSynchronized
  have hS : va_S (aG G) s.heap s.heap [] := va_S.rf
  have C : Cx p s m ([.ref (adr G xl0)] : List Value).toArray meth c D G cX12_turnedAll 3 (some .int) (cw_X12_turnedAll :: gw) RX12 := ⟨hx, hb, hr, hlocks, hml, hown, hts, hK⟩
  have hl := lv_entry ([.ref (adr G xl0)]) (n := 3) (Nat.le_of_ble_eq_true rfl)
  rw [lg_entry_eq]
  generalize (lg_sl ([.ref (adr G xl0)]) ++ List.replicate (3 - (lg_sl ([.ref (adr G xl0)])).length) Slot.unset).toArray = ls at hl ⊢
  have hl : lv_has ls 3 [(0, .ref (adr G xl0))] := hl
  unfold wp_X12_turnedAll at h
  refine r_iconst hx hb dX12_turnedAll_0 (by decide) h (fun z26 h => ?_)
  refine lv_istore_n (lv' := [(1, .int z26), (0, .ref (adr G xl0))]) hx hb dX12_turnedAll_1 rfl hl (by decide) rfl (fun ls hl => ?_)
  refine r_iconst hx hb dX12_turnedAll_2 (by decide) h (fun z28 h => ?_)
  refine lv_istore_n (lv' := [(2, .int z28), (1, .int z26), (0, .ref (adr G xl0))]) hx hb dX12_turnedAll_3 rfl hl (by decide) rfl (fun ls hl => ?_)
  obtain ⟨n9, h⟩ := h
  exact t_X12_turnedAll_4 C n9 xl0 z26 z28 _ _ _ _ hP hS (lv_sub hl [2, 1, 0] rfl) h
/-! TurningMilkModel.turnedIn(IZ)I -/
abbrev RM_X12_turnedIn : Room := { frames := 7, cells := 0, slots := 0, locals := 195 }
def cw_X12_turnedIn : Cond := Cond.code yX12_turnedIn cX12_turnedIn 4 (Option.some FieldType.int)
theorem hd_X12_turnedIn : yX12_turnedIn.cls ≠ "java/lang/invoke/MethodHandle" ∧ yX12_turnedIn.cls ≠ "java/lang/invoke/VarHandle" ∧ (parseMethodDescriptor yX12_turnedIn.desc).map (fun d => d.parameters.length) = some 2 := by decide +kernel
theorem dX12_turnedIn_0 : decode cX12_turnedIn 0 = .ok (.aload_n 0, 1) := by decide +kernel
theorem dX12_turnedIn_1 : decode cX12_turnedIn 1 = .ok (.invokevirtual 382, 3) := by decide +kernel
theorem dX12_turnedIn_4 : decode cX12_turnedIn 4 = .ok (.aload_n 0, 1) := by decide +kernel
theorem dX12_turnedIn_5 : decode cX12_turnedIn 5 = .ok (.iload_n 2, 1) := by decide +kernel
theorem dX12_turnedIn_6 : decode cX12_turnedIn 6 = .ok (.putfield 288, 3) := by decide +kernel
theorem dX12_turnedIn_9 : decode cX12_turnedIn 9 = .ok (.iconst 0, 1) := by decide +kernel
theorem dX12_turnedIn_10 : decode cX12_turnedIn 10 = .ok (.istore_n 3, 1) := by decide +kernel
theorem dX12_turnedIn_11 : decode cX12_turnedIn 11 = .ok (.iload_n 3, 1) := by decide +kernel
theorem dX12_turnedIn_12 : decode cX12_turnedIn 12 = .ok (.iload_n 1, 1) := by decide +kernel
theorem dX12_turnedIn_13 : decode cX12_turnedIn 13 = .ok (.if_icmp .ge 14, 3) := by decide +kernel
theorem dX12_turnedIn_16 : decode cX12_turnedIn 16 = .ok (.aload_n 0, 1) := by decide +kernel
theorem dX12_turnedIn_17 : decode cX12_turnedIn 17 = .ok (.invokevirtual 356, 3) := by decide +kernel
theorem dX12_turnedIn_20 : decode cX12_turnedIn 20 = .ok (.pop, 1) := by decide +kernel
theorem dX12_turnedIn_21 : decode cX12_turnedIn 21 = .ok (.iinc 3 1, 3) := by decide +kernel
theorem dX12_turnedIn_24 : decode cX12_turnedIn 24 = .ok (.goto (-13), 3) := by decide +kernel
theorem dX12_turnedIn_27 : decode cX12_turnedIn 27 = .ok (.aload_n 0, 1) := by decide +kernel
theorem dX12_turnedIn_28 : decode cX12_turnedIn 28 = .ok (.iconst 0, 1) := by decide +kernel
theorem dX12_turnedIn_29 : decode cX12_turnedIn 29 = .ok (.putfield 288, 3) := by decide +kernel
theorem dX12_turnedIn_32 : decode cX12_turnedIn 32 = .ok (.aload_n 0, 1) := by decide +kernel
theorem dX12_turnedIn_33 : decode cX12_turnedIn 33 = .ok (.invokevirtual 468, 3) := by decide +kernel
theorem dX12_turnedIn_36 : decode cX12_turnedIn 36 = .ok (.istore_n 3, 1) := by decide +kernel
theorem dX12_turnedIn_37 : decode cX12_turnedIn 37 = .ok (.aload_n 0, 1) := by decide +kernel
theorem dX12_turnedIn_38 : decode cX12_turnedIn 38 = .ok (.invokevirtual 385, 3) := by decide +kernel
theorem dX12_turnedIn_41 : decode cX12_turnedIn 41 = .ok (.iload_n 3, 1) := by decide +kernel
theorem dX12_turnedIn_42 : decode cX12_turnedIn 42 = .ok (.ireturn, 1) := by decide +kernel
def wp_X12_turnedIn_11 (S : Sh) (post : Int → Mm → Prop) : Nat → Int → Int → Int → Mm → Prop
  | 0, _, _, _, _ => False
  | n + 1, u0, u1, u3, M => wIf (u1 ≤ u3) (wC 0 fun v1 => wPutZ S M u0 12 23 v1 fun M3 => isK S u0 12 ∧ (wp_X12_turnedAll S M3 u0 <| fun v5 M4 => isK S u0 12 ∧ (wp_X12_laysBack S M4 u0 <| fun M7 => post v5 M7))) (isK S u0 12 ∧ (wp_X12_passes S M u0 <| fun v9 M8 => wA u3 1 fun v11 => wp_X12_turnedIn_11 S post n u0 u1 v11 M8))
def wp_X12_turnedIn (S : Sh) (M : Mm) (u0 : Int) (u1 : Int) (u2 : Int) (post : Int → Mm → Prop) : Prop := isK S u0 12 ∧ (wp_X12_keeps S M u0 <| fun M13 => wPutZ S M13 u0 12 23 u2 fun M14 => wC 0 fun v15 => ∃ n9 : Nat, wp_X12_turnedIn_11 S post n9 u0 u1 v15 M14)
set_option maxHeartbeats 4000000 in
set_option maxRecDepth 100000 in
theorem t_X12_turnedIn_11 {p : Program} {l : Launch} {e : Env} {s : State} {m : MethodId} {args : Array Value} {below : List Frame} {meth : Method} {c : Code} {D : va_G} {G : Gt} {S : Sh} {post : Int → Mm → Prop} (C : Cx p s m args meth c D G cX12_turnedIn 4 (some .int) (cw_X12_turnedIn :: gw) RX12) : ∀ (n : Nat) (xl0 : Int) (zl1 : Int32) (zl3 : Int32) (M : Mm) (H : Heap) (locs : List Loc) (ls : Array Slot), Wd D G S M H → va_S (aG G) s.heap H locs → lv_has ls 4 [(0, .ref (adr G xl0)), (1, .int zl1), (3, .int zl3)] → wp_X12_turnedIn_11 S post n xl0 zl1.toInt zl3.toInt  M → W p l e RM_X12_turnedIn s m args below meth c H locs 0 0 (MQ below (QI D G S post) args s 0 0 (aG G)) (F0 m 11 ls []) := by
  obtain ⟨hx, hb, hr, hlocks, hml, hown, hts, hK⟩ := id C
  intro n
  induction n with
  | zero => intro xl0 zl1 zl3 M H locs ls hP hS hl h; exact h.elim
  | succ n ih =>
    intro xl0 zl1 zl3 M H locs ls hP hS hl h
    unfold wp_X12_turnedIn_11 at h
    refine lv_iload_n hx hb dX12_turnedIn_11 rfl (lv_at hl 2 rfl) ?_
    refine lv_iload_n hx hb dX12_turnedIn_12 rfl (lv_at hl 1 rfl) ?_
    refine r_icmp_ge (tgt := 27) hx hb dX12_turnedIn_13 (by decide) h (fun h => ?_) (fun h => ?_)
    · refine lv_aload_n hx hb dX12_turnedIn_27 rfl (lv_at hl 0 rfl) ?_
      refine r_iconst hx hb dX12_turnedIn_28 (by decide) h (fun z2 h => ?_)
      refine r_putz (C := RX12) (T := TX12) (N := 38) hx hb hts (fun w h => List.mem_cons_of_mem _ (iX12 w h)) hown hK hP tyX12 tyX12_ok nmX12 hS rfl (by decide) rfl 23 (by decide) (hts _ (List.mem_cons_of_mem _ kw_1357)) (fun _ h9 => h9) rfl (tyX12_ok 23 (by decide))  dX12_turnedIn_29 (by decide) h (fun M3 H locs h hP hS => ?_)
      refine lv_aload_n hx hb dX12_turnedIn_32 rfl (lv_at hl 0 rfl) ?_
      refine q_Vi hx hb hml hown hts hK hP hS (c_X12_turnedAll l D G S _ xl0 _ h.2) ⟨callB_of 0 hts (gw_good kw_1935) rfl rfl rfl (hts _ (List.mem_cons_of_mem _ kw_14)) (hts _ (List.mem_cons_of_mem _ kw_1932)) hd_X12_turnedAll ⟨Nat.le_of_ble_eq_true rfl, Nat.le_of_ble_eq_true rfl⟩, (hts _ (List.mem_cons_of_mem _ kw_1934)), (hts _ (List.mem_cons_of_mem _ kp_131))⟩ h.1 (ci := 12) rfl (by decide) rfl hl.1 rfl (lv_room (Nat.le_of_ble_eq_true rfl)) dX12_turnedIn_33 ⟨Nat.zero_le _, Nat.zero_le _⟩ (fun z6 M4 H locs h hP hS => ?_)
      refine lv_istore_n (lv' := [(3, .int z6), (0, .ref (adr G xl0)), (1, .int zl1)]) hx hb dX12_turnedIn_36 rfl hl (by decide) rfl (fun ls hl => ?_)
      refine lv_aload_n hx hb dX12_turnedIn_37 rfl (lv_at hl 1 rfl) ?_
      refine q_Vv hx hb hml hown hts hK hP hS (c_X12_laysBack l D G S _ xl0 _ h.2) ⟨callB_of 0 hts (gw_good kw_1809) rfl rfl rfl (hts _ (List.mem_cons_of_mem _ kw_14)) (hts _ (List.mem_cons_of_mem _ kw_1806)) hd_X12_laysBack ⟨Nat.le_of_ble_eq_true rfl, Nat.le_of_ble_eq_true rfl⟩, (hts _ (List.mem_cons_of_mem _ kw_1808)), (hts _ (List.mem_cons_of_mem _ kp_115))⟩ h.1 (ci := 12) rfl (by decide) rfl hl.1 rfl (lv_room (Nat.le_of_ble_eq_true rfl)) dX12_turnedIn_38 ⟨Nat.zero_le _, Nat.zero_le _⟩ (fun M7 H locs h hP hS => ?_)
      refine lv_iload_n hx hb dX12_turnedIn_41 rfl (lv_at hl 0 rfl) ?_
      exact r_iret hx hb hr hlocks hP hS dX12_turnedIn_42 h
    · refine lv_aload_n hx hb dX12_turnedIn_16 rfl (lv_at hl 0 rfl) ?_
      refine q_Vi hx hb hml hown hts hK hP hS (c_X12_passes l D G S _ xl0 _ h.2) ⟨callB_of 0 hts (gw_good kw_1706) rfl rfl rfl (hts _ (List.mem_cons_of_mem _ kw_14)) (hts _ (List.mem_cons_of_mem _ kw_1703)) hd_X12_passes ⟨Nat.le_of_ble_eq_true rfl, Nat.le_of_ble_eq_true rfl⟩, (hts _ (List.mem_cons_of_mem _ kw_1705)), (hts _ (List.mem_cons_of_mem _ kp_98))⟩ h.1 (ci := 12) rfl (by decide) rfl hl.1 rfl (lv_room (Nat.le_of_ble_eq_true rfl)) dX12_turnedIn_17 ⟨Nat.zero_le _, Nat.zero_le _⟩ (fun z10 M8 H locs h hP hS => ?_)
      refine lv_pop hx hb dX12_turnedIn_20 rfl ?_
      refine r_iinc hx hb (fun z12 => [(3, .int z12), (0, .ref (adr G xl0)), (1, .int zl1)]) dX12_turnedIn_21 (by decide) hl (k := 2) rfl (by decide) (fun _ => rfl) h (fun z12 ls hl h => ?_)
      refine lv_goto (tgt := 11) hx hb dX12_turnedIn_24 (by decide) ?_
      exact ih xl0 zl1 z12 _ _ _ _ hP hS (lv_sub hl [1, 2, 0] rfl) h
set_option maxHeartbeats 4000000 in
set_option maxRecDepth 100000 in
theorem c_X12_turnedIn (l : Launch) (D : va_G) (G : Gt) (S : Sh) (M : Mm) (xl0 : Int) (zl1 : Int32) (zl2 : Int32) (post : Int → Mm → Prop) (h : wp_X12_turnedIn S M xl0 zl1.toInt zl2.toInt post) : Met l yX12_turnedIn (cw_X12_turnedIn :: gw) RM_X12_turnedIn (va_Pc [.ref (adr G xl0), .int zl1, .int zl2] (fun U => KN D G U ∧ Wd D G S M U.heap)) (QI D G S post) 0 0 (aG G) := by
  refine Met.ofW (cc := cX12_turnedIn) (maxL := 4) (ret := (some .int)) (by decide) rfl ?_
  intro p e s m args below meth c s₁ B hml hv
  obtain ⟨rfl, hK, hP⟩ := hv
  have hx := B.exec
  have hb := B.bytes
  have hr := B.returns
  have hts := atoms_spec (ws := cw_X12_turnedIn :: gw) B.pre
  have hown : s.vm.findClass RX12 = some m.cls := findClass_of_methodNamed B.named
  have hlocks := B.notSynchronized
  have hS : va_S (aG G) s.heap s.heap [] := va_S.rf
  have C : Cx p s m ([.ref (adr G xl0), .int zl1, .int zl2] : List Value).toArray meth c D G cX12_turnedIn 4 (some .int) (cw_X12_turnedIn :: gw) RX12 := ⟨hx, hb, hr, hlocks, hml, hown, hts, hK⟩
  have hl := lv_entry ([.ref (adr G xl0), .int zl1, .int zl2]) (n := 4) (Nat.le_of_ble_eq_true rfl)
  rw [lg_entry_eq]
  generalize (lg_sl ([.ref (adr G xl0), .int zl1, .int zl2]) ++ List.replicate (4 - (lg_sl ([.ref (adr G xl0), .int zl1, .int zl2])).length) Slot.unset).toArray = ls at hl ⊢
  have hl : lv_has ls 4 [(0, .ref (adr G xl0)), (1, .int zl1), (2, .int zl2)] := hl
  unfold wp_X12_turnedIn at h
  refine lv_aload_n hx hb dX12_turnedIn_0 rfl (lv_at hl 0 rfl) ?_
  refine q_Vv hx hb hml hown hts hK hP hS (c_X12_keeps l D G S _ xl0 _ h.2) ⟨callB_of 0 hts (gw_good kw_1805) rfl rfl rfl (hts _ (List.mem_cons_of_mem _ kw_14)) (hts _ (List.mem_cons_of_mem _ kw_1802)) hd_X12_keeps ⟨Nat.le_of_ble_eq_true rfl, Nat.le_of_ble_eq_true rfl⟩, (hts _ (List.mem_cons_of_mem _ kw_1804)), (hts _ (List.mem_cons_of_mem _ kp_114))⟩ h.1 (ci := 12) rfl (by decide) rfl hl.1 rfl (lv_room (Nat.le_of_ble_eq_true rfl)) dX12_turnedIn_1 ⟨Nat.zero_le _, Nat.zero_le _⟩ (fun M13 H locs h hP hS => ?_)
  refine lv_aload_n hx hb dX12_turnedIn_4 rfl (lv_at hl 0 rfl) ?_
  refine lv_iload_n hx hb dX12_turnedIn_5 rfl (lv_at hl 2 rfl) ?_
  refine r_putz (C := RX12) (T := TX12) (N := 38) hx hb hts (fun w h => List.mem_cons_of_mem _ (iX12 w h)) hown hK hP tyX12 tyX12_ok nmX12 hS rfl (by decide) rfl 23 (by decide) (hts _ (List.mem_cons_of_mem _ kw_1357)) (fun _ h9 => h9) rfl (tyX12_ok 23 (by decide))  dX12_turnedIn_6 (by decide) h (fun M14 H locs h hP hS => ?_)
  refine r_iconst hx hb dX12_turnedIn_9 (by decide) h (fun z16 h => ?_)
  refine lv_istore_n (lv' := [(3, .int z16), (0, .ref (adr G xl0)), (1, .int zl1), (2, .int zl2)]) hx hb dX12_turnedIn_10 rfl hl (by decide) rfl (fun ls hl => ?_)
  obtain ⟨n9, h⟩ := h
  exact t_X12_turnedIn_11 C n9 xl0 zl1 z16 _ _ _ _ hP hS (lv_sub hl [1, 2, 0] rfl) h
/-! TurningMilkModel.ice(I)I -/
abbrev RM_X12_ice : Room := { frames := 8, cells := 0, slots := 0, locals := 218 }
def cw_X12_ice : Cond := Cond.code yX12_ice cX12_ice 2 (Option.some FieldType.int)
theorem hd_X12_ice : yX12_ice.cls ≠ "java/lang/invoke/MethodHandle" ∧ yX12_ice.cls ≠ "java/lang/invoke/VarHandle" ∧ (parseMethodDescriptor yX12_ice.desc).map (fun d => d.parameters.length) = some 1 := by decide +kernel
theorem dX12_ice_0 : decode cX12_ice 0 = .ok (.aload_n 0, 1) := by decide +kernel
theorem dX12_ice_1 : decode cX12_ice 1 = .ok (.invokevirtual 350, 3) := by decide +kernel
theorem dX12_ice_4 : decode cX12_ice 4 = .ok (.ifCond .eq 31, 3) := by decide +kernel
theorem dX12_ice_7 : decode cX12_ice 7 = .ok (.iload_n 1, 1) := by decide +kernel
theorem dX12_ice_8 : decode cX12_ice 8 = .ok (.i2l, 1) := by decide +kernel
theorem dX12_ice_9 : decode cX12_ice 9 = .ok (.lconst 1, 1) := by decide +kernel
theorem dX12_ice_10 : decode cX12_ice 10 = .ok (.ldc2_w 471, 3) := by decide +kernel
theorem dX12_ice_13 : decode cX12_ice 13 = .ok (.invokestatic 118, 3) := by decide +kernel
theorem dX12_ice_16 : decode cX12_ice 16 = .ok (.ifCond .eq 19, 3) := by decide +kernel
theorem dX12_ice_19 : decode cX12_ice 19 = .ok (.aload_n 0, 1) := by decide +kernel
theorem dX12_ice_20 : decode cX12_ice 20 = .ok (.iload_n 1, 1) := by decide +kernel
theorem dX12_ice_21 : decode cX12_ice 21 = .ok (.iconst 0, 1) := by decide +kernel
theorem dX12_ice_22 : decode cX12_ice 22 = .ok (.invokevirtual 473, 3) := by decide +kernel
theorem dX12_ice_25 : decode cX12_ice 25 = .ok (.aload_n 0, 1) := by decide +kernel
theorem dX12_ice_26 : decode cX12_ice 26 = .ok (.iload_n 1, 1) := by decide +kernel
theorem dX12_ice_27 : decode cX12_ice 27 = .ok (.iconst 1, 1) := by decide +kernel
theorem dX12_ice_28 : decode cX12_ice 28 = .ok (.invokevirtual 473, 3) := by decide +kernel
theorem dX12_ice_31 : decode cX12_ice 31 = .ok (.isub, 1) := by decide +kernel
theorem dX12_ice_32 : decode cX12_ice 32 = .ok (.goto 4, 3) := by decide +kernel
theorem dX12_ice_35 : decode cX12_ice 35 = .ok (.iconst (-1), 1) := by decide +kernel
theorem dX12_ice_36 : decode cX12_ice 36 = .ok (.ireturn, 1) := by decide +kernel
def wp_X12_ice (S : Sh) (M : Mm) (u0 : Int) (u1 : Int) (post : Int → Mm → Prop) : Prop := isK S u0 12 ∧ (wp_X12_isDairy S M u0 <| fun v2 M1 => wIf (v2 = 0) (wC (-1) fun v4 => post v4 M1) (wC u1 fun v6 => wC 1 fun v8 => wC 60 fun v10 => wp_X12_in S M1 v6 v8 v10 <| fun v13 M12 => wIf (v13 = 0) (wC (-1) fun v15 => post v15 M12) (wC 0 fun v17 => isK S u0 12 ∧ (wp_X12_turnedIn S M12 u0 u1 v17 <| fun v20 M19 => wC 1 fun v22 => isK S u0 12 ∧ (wp_X12_turnedIn S M19 u0 u1 v22 <| fun v25 M24 => wS v20 v25 fun v27 => post v27 M24)))))
set_option maxHeartbeats 4000000 in
set_option maxRecDepth 100000 in
theorem c_X12_ice (l : Launch) (D : va_G) (G : Gt) (S : Sh) (M : Mm) (xl0 : Int) (zl1 : Int32) (post : Int → Mm → Prop) (h : wp_X12_ice S M xl0 zl1.toInt post) : Met l yX12_ice (cw_X12_ice :: gw) RM_X12_ice (va_Pc [.ref (adr G xl0), .int zl1] (fun U => KN D G U ∧ Wd D G S M U.heap)) (QI D G S post) 0 0 (aG G) := by
  refine Met.ofW (cc := cX12_ice) (maxL := 2) (ret := (some .int)) (by decide) rfl ?_
  intro p e s m args below meth c s₁ B hml hv
  obtain ⟨rfl, hK, hP⟩ := hv
  have hx := B.exec
  have hb := B.bytes
  have hr := B.returns
  have hts := atoms_spec (ws := cw_X12_ice :: gw) B.pre
  have hown : s.vm.findClass RX12 = some m.cls := findClass_of_methodNamed B.named
  have hlocks := B.notSynchronized
  have hS : va_S (aG G) s.heap s.heap [] := va_S.rf
  have C : Cx p s m ([.ref (adr G xl0), .int zl1] : List Value).toArray meth c D G cX12_ice 2 (some .int) (cw_X12_ice :: gw) RX12 := ⟨hx, hb, hr, hlocks, hml, hown, hts, hK⟩
  have hl := lv_entry ([.ref (adr G xl0), .int zl1]) (n := 2) (Nat.le_of_ble_eq_true rfl)
  rw [lg_entry_eq]
  generalize (lg_sl ([.ref (adr G xl0), .int zl1]) ++ List.replicate (2 - (lg_sl ([.ref (adr G xl0), .int zl1])).length) Slot.unset).toArray = ls at hl ⊢
  have hl : lv_has ls 2 [(0, .ref (adr G xl0)), (1, .int zl1)] := hl
  unfold wp_X12_ice at h
  refine lv_aload_n hx hb dX12_ice_0 rfl (lv_at hl 0 rfl) ?_
  refine q_Vi hx hb hml hown hts hK hP hS (c_X12_isDairy l D G S _ xl0 _ h.2) ⟨callB_of 0 hts (gw_good kw_1698) rfl rfl rfl (hts _ (List.mem_cons_of_mem _ kw_14)) (hts _ (List.mem_cons_of_mem _ kw_1695)) hd_X12_isDairy ⟨Nat.le_of_ble_eq_true rfl, Nat.le_of_ble_eq_true rfl⟩, (hts _ (List.mem_cons_of_mem _ kw_1697)), (hts _ (List.mem_cons_of_mem _ kp_96))⟩ h.1 (ci := 12) rfl (by decide) rfl hl.1 rfl (lv_room (Nat.le_of_ble_eq_true rfl)) dX12_ice_1 ⟨Nat.zero_le _, Nat.zero_le _⟩ (fun z3 M1 H locs h hP hS => ?_)
  refine r_if_eq (tgt := 35) hx hb dX12_ice_4 (by decide) h (fun h => ?_) (fun h => ?_)
  · refine r_iconst hx hb dX12_ice_35 (by decide) h (fun z5 h => ?_)
    exact r_iret hx hb hr hlocks hP hS dX12_ice_36 h
  · refine lv_iload_n hx hb dX12_ice_7 rfl (lv_at hl 1 rfl) ?_
    refine r_i2l hx hb dX12_ice_8 h (fun z7 h => ?_)
    refine r_lconst hx hb dX12_ice_9 (v := 1) (by decide) h (fun z9 h => ?_)
    refine r_ldc2 hx hb hown (hts _ (List.mem_cons_of_mem _ kw_1927)) dX12_ice_10 (n := 60) (by decide) h (fun z11 h => ?_)
    refine q_Si hx hb hml hown hts hK hP hS (c_X12_in l D G S _ z7 z9 z11 _ h) ⟨callB_of 3 hts (gw_good kw_1523) rfl rfl rfl (hts _ (List.mem_cons_of_mem _ kw_14)) (hts _ (List.mem_cons_of_mem _ kw_1521)) hd_X12_in ⟨Nat.le_of_ble_eq_true rfl, Nat.le_of_ble_eq_true rfl⟩, (hts _ (List.mem_cons_of_mem _ kw_1522))⟩ rfl hl.1 rfl (lv_room (Nat.le_of_ble_eq_true rfl)) dX12_ice_13 ⟨Nat.zero_le _, Nat.zero_le _⟩ (fun z14 M12 H locs h hP hS => ?_)
    refine r_if_eq (tgt := 35) hx hb dX12_ice_16 (by decide) h (fun h => ?_) (fun h => ?_)
    · refine r_iconst hx hb dX12_ice_35 (by decide) h (fun z16 h => ?_)
      exact r_iret hx hb hr hlocks hP hS dX12_ice_36 h
    · refine lv_aload_n hx hb dX12_ice_19 rfl (lv_at hl 0 rfl) ?_
      refine lv_iload_n hx hb dX12_ice_20 rfl (lv_at hl 1 rfl) ?_
      refine r_iconst hx hb dX12_ice_21 (by decide) h (fun z18 h => ?_)
      refine q_Vi hx hb hml hown hts hK hP hS (c_X12_turnedIn l D G S _ xl0 zl1 z18 _ h.2) ⟨callB_of 2 hts (gw_good kw_1931) rfl rfl rfl (hts _ (List.mem_cons_of_mem _ kw_14)) (hts _ (List.mem_cons_of_mem _ kw_1928)) hd_X12_turnedIn ⟨Nat.le_of_ble_eq_true rfl, Nat.le_of_ble_eq_true rfl⟩, (hts _ (List.mem_cons_of_mem _ kw_1930)), (hts _ (List.mem_cons_of_mem _ kp_130))⟩ h.1 (ci := 12) rfl (by decide) rfl hl.1 rfl (lv_room (Nat.le_of_ble_eq_true rfl)) dX12_ice_22 ⟨Nat.zero_le _, Nat.zero_le _⟩ (fun z21 M19 H locs h hP hS => ?_)
      refine lv_aload_n hx hb dX12_ice_25 rfl (lv_at hl 0 rfl) ?_
      refine lv_iload_n hx hb dX12_ice_26 rfl (lv_at hl 1 rfl) ?_
      refine r_iconst hx hb dX12_ice_27 (by decide) h (fun z23 h => ?_)
      refine q_Vi hx hb hml hown hts hK hP hS (c_X12_turnedIn l D G S _ xl0 zl1 z23 _ h.2) ⟨callB_of 2 hts (gw_good kw_1931) rfl rfl rfl (hts _ (List.mem_cons_of_mem _ kw_14)) (hts _ (List.mem_cons_of_mem _ kw_1928)) hd_X12_turnedIn ⟨Nat.le_of_ble_eq_true rfl, Nat.le_of_ble_eq_true rfl⟩, (hts _ (List.mem_cons_of_mem _ kw_1930)), (hts _ (List.mem_cons_of_mem _ kp_130))⟩ h.1 (ci := 12) rfl (by decide) rfl hl.1 rfl (lv_room (Nat.le_of_ble_eq_true rfl)) dX12_ice_28 ⟨Nat.zero_le _, Nat.zero_le _⟩ (fun z26 M24 H locs h hP hS => ?_)
      refine r_isub hx hb dX12_ice_31 h (fun z28 h => ?_)
      refine lv_goto (tgt := 36) hx hb dX12_ice_32 (by decide) ?_
      exact r_iret hx hb hr hlocks hP hS dX12_ice_36 h
/-! TurningMilkModel.seed(I)I -/
abbrev RM_X12_seed : Room := { frames := 1, cells := 0, slots := 0, locals := 40 }
def cw_X12_seed : Cond := Cond.code yX12_seed cX12_seed 3 (Option.some FieldType.int)
theorem hd_X12_seed : yX12_seed.cls ≠ "java/lang/invoke/MethodHandle" ∧ yX12_seed.cls ≠ "java/lang/invoke/VarHandle" ∧ (parseMethodDescriptor yX12_seed.desc).map (fun d => d.parameters.length) = some 1 := by decide +kernel
theorem dX12_seed_0 : decode cX12_seed 0 = .ok (.iload_n 1, 1) := by decide +kernel
theorem dX12_seed_1 : decode cX12_seed 1 = .ok (.ifCond .ge 5, 3) := by decide +kernel
theorem dX12_seed_4 : decode cX12_seed 4 = .ok (.iconst (-1), 1) := by decide +kernel
theorem dX12_seed_5 : decode cX12_seed 5 = .ok (.ireturn, 1) := by decide +kernel
theorem dX12_seed_6 : decode cX12_seed 6 = .ok (.aload_n 0, 1) := by decide +kernel
theorem dX12_seed_7 : decode cX12_seed 7 = .ok (.getfield 477, 3) := by decide +kernel
theorem dX12_seed_10 : decode cX12_seed 10 = .ok (.istore_n 2, 1) := by decide +kernel
theorem dX12_seed_11 : decode cX12_seed 11 = .ok (.aload_n 0, 1) := by decide +kernel
theorem dX12_seed_12 : decode cX12_seed 12 = .ok (.iload_n 1, 1) := by decide +kernel
theorem dX12_seed_13 : decode cX12_seed 13 = .ok (.putfield 477, 3) := by decide +kernel
theorem dX12_seed_16 : decode cX12_seed 16 = .ok (.iload_n 2, 1) := by decide +kernel
theorem dX12_seed_17 : decode cX12_seed 17 = .ok (.ireturn, 1) := by decide +kernel
def wp_X12_seed (S : Sh) (M : Mm) (u0 : Int) (u1 : Int) (post : Int → Mm → Prop) : Prop := wIf (0 ≤ u1) (wGet S M u0 12 22 fun v1 => wPut S M u0 12 22 u1 fun M3 => post v1 M3) (wC (-1) fun v4 => post v4 M)
set_option maxHeartbeats 4000000 in
set_option maxRecDepth 100000 in
theorem c_X12_seed (l : Launch) (D : va_G) (G : Gt) (S : Sh) (M : Mm) (xl0 : Int) (zl1 : Int32) (post : Int → Mm → Prop) (h : wp_X12_seed S M xl0 zl1.toInt post) : Met l yX12_seed (cw_X12_seed :: gw) RM_X12_seed (va_Pc [.ref (adr G xl0), .int zl1] (fun U => KN D G U ∧ Wd D G S M U.heap)) (QI D G S post) 0 0 (aG G) := by
  refine Met.ofW (cc := cX12_seed) (maxL := 3) (ret := (some .int)) (by decide) rfl ?_
  intro p e s m args below meth c s₁ B hml hv
  obtain ⟨rfl, hK, hP⟩ := hv
  have hx := B.exec
  have hb := B.bytes
  have hr := B.returns
  have hts := atoms_spec (ws := cw_X12_seed :: gw) B.pre
  have hown : s.vm.findClass RX12 = some m.cls := findClass_of_methodNamed B.named
  have hlocks := B.notSynchronized
  have hS : va_S (aG G) s.heap s.heap [] := va_S.rf
  have C : Cx p s m ([.ref (adr G xl0), .int zl1] : List Value).toArray meth c D G cX12_seed 3 (some .int) (cw_X12_seed :: gw) RX12 := ⟨hx, hb, hr, hlocks, hml, hown, hts, hK⟩
  have hl := lv_entry ([.ref (adr G xl0), .int zl1]) (n := 3) (Nat.le_of_ble_eq_true rfl)
  rw [lg_entry_eq]
  generalize (lg_sl ([.ref (adr G xl0), .int zl1]) ++ List.replicate (3 - (lg_sl ([.ref (adr G xl0), .int zl1])).length) Slot.unset).toArray = ls at hl ⊢
  have hl : lv_has ls 3 [(0, .ref (adr G xl0)), (1, .int zl1)] := hl
  unfold wp_X12_seed at h
  refine lv_iload_n hx hb dX12_seed_0 rfl (lv_at hl 1 rfl) ?_
  refine r_if_ge (tgt := 6) hx hb dX12_seed_1 (by decide) h (fun h => ?_) (fun h => ?_)
  · refine lv_aload_n hx hb dX12_seed_6 rfl (lv_at hl 0 rfl) ?_
    refine r_geti (C := RX12) (T := TX12) (N := 38) hx hb hts (fun w h => List.mem_cons_of_mem _ (iX12 w h)) hown hK hP rfl (by decide) rfl 22 (by decide) (hts _ (List.mem_cons_of_mem _ kw_1356)) (fun _ h9 => h9) dX12_seed_7 (by decide) h (fun z2 h => ?_)
    refine lv_istore_n (lv' := [(2, .int z2), (0, .ref (adr G xl0)), (1, .int zl1)]) hx hb dX12_seed_10 rfl hl (by decide) rfl (fun ls hl => ?_)
    refine lv_aload_n hx hb dX12_seed_11 rfl (lv_at hl 1 rfl) ?_
    refine lv_iload_n hx hb dX12_seed_12 rfl (lv_at hl 2 rfl) ?_
    refine r_puti (C := RX12) (T := TX12) (N := 38) hx hb hts (fun w h => List.mem_cons_of_mem _ (iX12 w h)) hown hK hP tyX12 tyX12_ok nmX12 hS rfl (by decide) rfl 22 (by decide) (hts _ (List.mem_cons_of_mem _ kw_1356)) (fun _ h9 => h9) rfl (tyX12_ok 22 (by decide)) rfl rfl dX12_seed_13 (by decide) h (fun M3 H locs h hP hS => ?_)
    refine lv_iload_n hx hb dX12_seed_16 rfl (lv_at hl 0 rfl) ?_
    exact r_iret hx hb hr hlocks hP hS dX12_seed_17 h
  · refine r_iconst hx hb dX12_seed_4 (by decide) h (fun z5 h => ?_)
    exact r_iret hx hb hr hlocks hP hS dX12_seed_5 h
/-! TurningMilkModel.draw(I)I -/
abbrev RM_X12_draw : Room := { frames := 1, cells := 0, slots := 0, locals := 40 }
def cw_X12_draw : Cond := Cond.code yX12_draw cX12_draw 2 (Option.some FieldType.int)
theorem hd_X12_draw : yX12_draw.cls ≠ "java/lang/invoke/MethodHandle" ∧ yX12_draw.cls ≠ "java/lang/invoke/VarHandle" ∧ (parseMethodDescriptor yX12_draw.desc).map (fun d => d.parameters.length) = some 1 := by decide +kernel
theorem dX12_draw_0 : decode cX12_draw 0 = .ok (.aload_n 0, 1) := by decide +kernel
theorem dX12_draw_1 : decode cX12_draw 1 = .ok (.aload_n 0, 1) := by decide +kernel
theorem dX12_draw_2 : decode cX12_draw 2 = .ok (.getfield 480, 3) := by decide +kernel
theorem dX12_draw_5 : decode cX12_draw 5 = .ok (.ldc2_w 484, 3) := by decide +kernel
theorem dX12_draw_8 : decode cX12_draw 8 = .ok (.lmul, 1) := by decide +kernel
theorem dX12_draw_9 : decode cX12_draw 9 = .ok (.ldc2_w 486, 3) := by decide +kernel
theorem dX12_draw_12 : decode cX12_draw 12 = .ok (.ladd, 1) := by decide +kernel
theorem dX12_draw_13 : decode cX12_draw 13 = .ok (.ldc2_w 488, 3) := by decide +kernel
theorem dX12_draw_16 : decode cX12_draw 16 = .ok (.lrem, 1) := by decide +kernel
theorem dX12_draw_17 : decode cX12_draw 17 = .ok (.putfield 480, 3) := by decide +kernel
theorem dX12_draw_20 : decode cX12_draw 20 = .ok (.aload_n 0, 1) := by decide +kernel
theorem dX12_draw_21 : decode cX12_draw 21 = .ok (.getfield 480, 3) := by decide +kernel
theorem dX12_draw_24 : decode cX12_draw 24 = .ok (.ldc2_w 490, 3) := by decide +kernel
theorem dX12_draw_27 : decode cX12_draw 27 = .ok (.ldiv, 1) := by decide +kernel
theorem dX12_draw_28 : decode cX12_draw 28 = .ok (.iload_n 1, 1) := by decide +kernel
theorem dX12_draw_29 : decode cX12_draw 29 = .ok (.i2l, 1) := by decide +kernel
theorem dX12_draw_30 : decode cX12_draw 30 = .ok (.lrem, 1) := by decide +kernel
theorem dX12_draw_31 : decode cX12_draw 31 = .ok (.l2i, 1) := by decide +kernel
theorem dX12_draw_32 : decode cX12_draw 32 = .ok (.ireturn, 1) := by decide +kernel
def wp_X12_draw (S : Sh) (M : Mm) (u0 : Int) (u1 : Int) (post : Int → Mm → Prop) : Prop := wGet S M u0 12 33 fun v1 => wC 1103515245 fun v3 => wLM v1 v3 fun v5 => wC 12345 fun v7 => wLA v5 v7 fun v9 => wC 2147483648 fun v11 => wD lRem v9 v11 fun v13 => wPut S M u0 12 33 v13 fun M15 => wGet S M15 u0 12 33 fun v16 => wC 65536 fun v18 => wD lDiv v16 v18 fun v20 => wC u1 fun v22 => wD lRem v20 v22 fun v24 => wO1 w32 v24 fun v26 => post v26 M15
set_option maxHeartbeats 4000000 in
set_option maxRecDepth 100000 in
theorem c_X12_draw (l : Launch) (D : va_G) (G : Gt) (S : Sh) (M : Mm) (xl0 : Int) (zl1 : Int32) (post : Int → Mm → Prop) (h : wp_X12_draw S M xl0 zl1.toInt post) : Met l yX12_draw (cw_X12_draw :: gw) RM_X12_draw (va_Pc [.ref (adr G xl0), .int zl1] (fun U => KN D G U ∧ Wd D G S M U.heap)) (QI D G S post) 0 0 (aG G) := by
  refine Met.ofW (cc := cX12_draw) (maxL := 2) (ret := (some .int)) (by decide) rfl ?_
  intro p e s m args below meth c s₁ B hml hv
  obtain ⟨rfl, hK, hP⟩ := hv
  have hx := B.exec
  have hb := B.bytes
  have hr := B.returns
  have hts := atoms_spec (ws := cw_X12_draw :: gw) B.pre
  have hown : s.vm.findClass RX12 = some m.cls := findClass_of_methodNamed B.named
  have hlocks := B.notSynchronized
  have hS : va_S (aG G) s.heap s.heap [] := va_S.rf
  have C : Cx p s m ([.ref (adr G xl0), .int zl1] : List Value).toArray meth c D G cX12_draw 2 (some .int) (cw_X12_draw :: gw) RX12 := ⟨hx, hb, hr, hlocks, hml, hown, hts, hK⟩
  have hl := lv_entry ([.ref (adr G xl0), .int zl1]) (n := 2) (Nat.le_of_ble_eq_true rfl)
  rw [lg_entry_eq]
  generalize (lg_sl ([.ref (adr G xl0), .int zl1]) ++ List.replicate (2 - (lg_sl ([.ref (adr G xl0), .int zl1])).length) Slot.unset).toArray = ls at hl ⊢
  have hl : lv_has ls 2 [(0, .ref (adr G xl0)), (1, .int zl1)] := hl
  unfold wp_X12_draw at h
  refine lv_aload_n hx hb dX12_draw_0 rfl (lv_at hl 0 rfl) ?_
  refine lv_aload_n hx hb dX12_draw_1 rfl (lv_at hl 0 rfl) ?_
  refine r_getl (C := RX12) (T := TX12) (N := 38) hx hb hts (fun w h => List.mem_cons_of_mem _ (iX12 w h)) hown hK hP rfl (by decide) rfl 33 (by decide) (hts _ (List.mem_cons_of_mem _ kw_1367)) (fun _ h9 => h9) dX12_draw_2 (by decide) h (fun z2 h => ?_)
  refine r_ldc2 hx hb hown (hts _ (List.mem_cons_of_mem _ kw_1952)) dX12_draw_5 (n := 1103515245) (by decide) h (fun z4 h => ?_)
  refine r_lmul hx hb dX12_draw_8 h (fun z6 h => ?_)
  refine r_ldc2 hx hb hown (hts _ (List.mem_cons_of_mem _ kw_1953)) dX12_draw_9 (n := 12345) (by decide) h (fun z8 h => ?_)
  refine r_ladd hx hb dX12_draw_12 h (fun z10 h => ?_)
  refine r_ldc2 hx hb hown (hts _ (List.mem_cons_of_mem _ kw_1954)) dX12_draw_13 (n := 2147483648) (by decide) h (fun z12 h => ?_)
  refine r_lrem hx hb dX12_draw_16 h (fun z14 h => ?_)
  refine r_putl (C := RX12) (T := TX12) (N := 38) hx hb hts (fun w h => List.mem_cons_of_mem _ (iX12 w h)) hown hK hP tyX12 tyX12_ok nmX12 hS rfl (by decide) rfl 33 (by decide) (hts _ (List.mem_cons_of_mem _ kw_1367)) (fun _ h9 => h9) rfl (tyX12_ok 33 (by decide)) rfl rfl dX12_draw_17 (by decide) h (fun M15 H locs h hP hS => ?_)
  refine lv_aload_n hx hb dX12_draw_20 rfl (lv_at hl 0 rfl) ?_
  refine r_getl (C := RX12) (T := TX12) (N := 38) hx hb hts (fun w h => List.mem_cons_of_mem _ (iX12 w h)) hown hK hP rfl (by decide) rfl 33 (by decide) (hts _ (List.mem_cons_of_mem _ kw_1367)) (fun _ h9 => h9) dX12_draw_21 (by decide) h (fun z17 h => ?_)
  refine r_ldc2 hx hb hown (hts _ (List.mem_cons_of_mem _ kw_1955)) dX12_draw_24 (n := 65536) (by decide) h (fun z19 h => ?_)
  refine r_ldiv hx hb dX12_draw_27 h (fun z21 h => ?_)
  refine lv_iload_n hx hb dX12_draw_28 rfl (lv_at hl 1 rfl) ?_
  refine r_i2l hx hb dX12_draw_29 h (fun z23 h => ?_)
  refine r_lrem hx hb dX12_draw_30 h (fun z25 h => ?_)
  refine r_l2i hx hb dX12_draw_31 h (fun z27 h => ?_)
  exact r_iret hx hb hr hlocks hP hS dX12_draw_32 h
/-! TurningMilkModel.actsDrawn()V -/
abbrev RM_X12_actsDrawn : Room := { frames := 4, cells := 0, slots := 0, locals := 107 }
def cw_X12_actsDrawn : Cond := Cond.code yX12_actsDrawn cX12_actsDrawn 3 (Option.none : Option FieldType)
theorem hd_X12_actsDrawn : yX12_actsDrawn.cls ≠ "java/lang/invoke/MethodHandle" ∧ yX12_actsDrawn.cls ≠ "java/lang/invoke/VarHandle" ∧ (parseMethodDescriptor yX12_actsDrawn.desc).map (fun d => d.parameters.length) = some 0 := by decide +kernel
theorem dX12_actsDrawn_0 : decode cX12_actsDrawn 0 = .ok (.iconst 0, 1) := by decide +kernel
theorem dX12_actsDrawn_1 : decode cX12_actsDrawn 1 = .ok (.istore_n 1, 1) := by decide +kernel
theorem dX12_actsDrawn_2 : decode cX12_actsDrawn 2 = .ok (.iload_n 1, 1) := by decide +kernel
theorem dX12_actsDrawn_3 : decode cX12_actsDrawn 3 = .ok (.aload_n 0, 1) := by decide +kernel
theorem dX12_actsDrawn_4 : decode cX12_actsDrawn 4 = .ok (.getfield 39, 3) := by decide +kernel
theorem dX12_actsDrawn_7 : decode cX12_actsDrawn 7 = .ok (.iconst 4, 1) := by decide +kernel
theorem dX12_actsDrawn_8 : decode cX12_actsDrawn 8 = .ok (.iaload, 1) := by decide +kernel
theorem dX12_actsDrawn_9 : decode cX12_actsDrawn 9 = .ok (.if_icmp .ge 46, 3) := by decide +kernel
theorem dX12_actsDrawn_12 : decode cX12_actsDrawn 12 = .ok (.aload_n 0, 1) := by decide +kernel
theorem dX12_actsDrawn_13 : decode cX12_actsDrawn 13 = .ok (.iload_n 1, 1) := by decide +kernel
theorem dX12_actsDrawn_14 : decode cX12_actsDrawn 14 = .ok (.invokevirtual 359, 3) := by decide +kernel
theorem dX12_actsDrawn_17 : decode cX12_actsDrawn 17 = .ok (.ifCond .ne 6, 3) := by decide +kernel
theorem dX12_actsDrawn_20 : decode cX12_actsDrawn 20 = .ok (.goto 29, 3) := by decide +kernel
theorem dX12_actsDrawn_23 : decode cX12_actsDrawn 23 = .ok (.aload_n 0, 1) := by decide +kernel
theorem dX12_actsDrawn_24 : decode cX12_actsDrawn 24 = .ok (.aload_n 0, 1) := by decide +kernel
theorem dX12_actsDrawn_25 : decode cX12_actsDrawn 25 = .ok (.getfield 39, 3) := by decide +kernel
theorem dX12_actsDrawn_28 : decode cX12_actsDrawn 28 = .ok (.iconst 0, 1) := by decide +kernel
theorem dX12_actsDrawn_29 : decode cX12_actsDrawn 29 = .ok (.iaload, 1) := by decide +kernel
theorem dX12_actsDrawn_30 : decode cX12_actsDrawn 30 = .ok (.invokevirtual 492, 3) := by decide +kernel
theorem dX12_actsDrawn_33 : decode cX12_actsDrawn 33 = .ok (.istore_n 2, 1) := by decide +kernel
theorem dX12_actsDrawn_34 : decode cX12_actsDrawn 34 = .ok (.aload_n 0, 1) := by decide +kernel
theorem dX12_actsDrawn_35 : decode cX12_actsDrawn 35 = .ok (.iload_n 1, 1) := by decide +kernel
theorem dX12_actsDrawn_36 : decode cX12_actsDrawn 36 = .ok (.iload_n 2, 1) := by decide +kernel
theorem dX12_actsDrawn_37 : decode cX12_actsDrawn 37 = .ok (.invokevirtual 374, 3) := by decide +kernel
theorem dX12_actsDrawn_40 : decode cX12_actsDrawn 40 = .ok (.ifCond .eq 9, 3) := by decide +kernel
theorem dX12_actsDrawn_43 : decode cX12_actsDrawn 43 = .ok (.aload_n 0, 1) := by decide +kernel
theorem dX12_actsDrawn_44 : decode cX12_actsDrawn 44 = .ok (.iload_n 1, 1) := by decide +kernel
theorem dX12_actsDrawn_45 : decode cX12_actsDrawn 45 = .ok (.iload_n 2, 1) := by decide +kernel
theorem dX12_actsDrawn_46 : decode cX12_actsDrawn 46 = .ok (.invokevirtual 377, 3) := by decide +kernel
theorem dX12_actsDrawn_49 : decode cX12_actsDrawn 49 = .ok (.iinc 1 1, 3) := by decide +kernel
theorem dX12_actsDrawn_52 : decode cX12_actsDrawn 52 = .ok (.goto (-50), 3) := by decide +kernel
theorem dX12_actsDrawn_55 : decode cX12_actsDrawn 55 = .ok (.iconst 0, 1) := by decide +kernel
theorem dX12_actsDrawn_56 : decode cX12_actsDrawn 56 = .ok (.istore_n 1, 1) := by decide +kernel
theorem dX12_actsDrawn_57 : decode cX12_actsDrawn 57 = .ok (.iload_n 1, 1) := by decide +kernel
theorem dX12_actsDrawn_58 : decode cX12_actsDrawn 58 = .ok (.aload_n 0, 1) := by decide +kernel
theorem dX12_actsDrawn_59 : decode cX12_actsDrawn 59 = .ok (.getfield 39, 3) := by decide +kernel
theorem dX12_actsDrawn_62 : decode cX12_actsDrawn 62 = .ok (.iconst 5, 1) := by decide +kernel
theorem dX12_actsDrawn_63 : decode cX12_actsDrawn 63 = .ok (.iaload, 1) := by decide +kernel
theorem dX12_actsDrawn_64 : decode cX12_actsDrawn 64 = .ok (.if_icmp .ge 55, 3) := by decide +kernel
theorem dX12_actsDrawn_67 : decode cX12_actsDrawn 67 = .ok (.aload_n 0, 1) := by decide +kernel
theorem dX12_actsDrawn_68 : decode cX12_actsDrawn 68 = .ok (.getfield 39, 3) := by decide +kernel
theorem dX12_actsDrawn_71 : decode cX12_actsDrawn 71 = .ok (.iconst 4, 1) := by decide +kernel
theorem dX12_actsDrawn_72 : decode cX12_actsDrawn 72 = .ok (.iaload, 1) := by decide +kernel
theorem dX12_actsDrawn_73 : decode cX12_actsDrawn 73 = .ok (.ifCond .le 46, 3) := by decide +kernel
theorem dX12_actsDrawn_76 : decode cX12_actsDrawn 76 = .ok (.aload_n 0, 1) := by decide +kernel
theorem dX12_actsDrawn_77 : decode cX12_actsDrawn 77 = .ok (.iload_n 1, 1) := by decide +kernel
theorem dX12_actsDrawn_78 : decode cX12_actsDrawn 78 = .ok (.invokevirtual 292, 3) := by decide +kernel
theorem dX12_actsDrawn_81 : decode cX12_actsDrawn 81 = .ok (.ifCond .ne 6, 3) := by decide +kernel
theorem dX12_actsDrawn_84 : decode cX12_actsDrawn 84 = .ok (.goto 29, 3) := by decide +kernel
theorem dX12_actsDrawn_87 : decode cX12_actsDrawn 87 = .ok (.aload_n 0, 1) := by decide +kernel
theorem dX12_actsDrawn_88 : decode cX12_actsDrawn 88 = .ok (.aload_n 0, 1) := by decide +kernel
theorem dX12_actsDrawn_89 : decode cX12_actsDrawn 89 = .ok (.getfield 39, 3) := by decide +kernel
theorem dX12_actsDrawn_92 : decode cX12_actsDrawn 92 = .ok (.iconst 4, 1) := by decide +kernel
theorem dX12_actsDrawn_93 : decode cX12_actsDrawn 93 = .ok (.iaload, 1) := by decide +kernel
theorem dX12_actsDrawn_94 : decode cX12_actsDrawn 94 = .ok (.invokevirtual 492, 3) := by decide +kernel
theorem dX12_actsDrawn_97 : decode cX12_actsDrawn 97 = .ok (.istore_n 2, 1) := by decide +kernel
theorem dX12_actsDrawn_98 : decode cX12_actsDrawn 98 = .ok (.aload_n 0, 1) := by decide +kernel
theorem dX12_actsDrawn_99 : decode cX12_actsDrawn 99 = .ok (.iload_n 2, 1) := by decide +kernel
theorem dX12_actsDrawn_100 : decode cX12_actsDrawn 100 = .ok (.iload_n 1, 1) := by decide +kernel
theorem dX12_actsDrawn_101 : decode cX12_actsDrawn 101 = .ok (.invokevirtual 362, 3) := by decide +kernel
theorem dX12_actsDrawn_104 : decode cX12_actsDrawn 104 = .ok (.ifCond .eq 9, 3) := by decide +kernel
theorem dX12_actsDrawn_107 : decode cX12_actsDrawn 107 = .ok (.aload_n 0, 1) := by decide +kernel
theorem dX12_actsDrawn_108 : decode cX12_actsDrawn 108 = .ok (.iload_n 2, 1) := by decide +kernel
theorem dX12_actsDrawn_109 : decode cX12_actsDrawn 109 = .ok (.iload_n 1, 1) := by decide +kernel
theorem dX12_actsDrawn_110 : decode cX12_actsDrawn 110 = .ok (.invokevirtual 365, 3) := by decide +kernel
theorem dX12_actsDrawn_113 : decode cX12_actsDrawn 113 = .ok (.iinc 1 1, 3) := by decide +kernel
theorem dX12_actsDrawn_116 : decode cX12_actsDrawn 116 = .ok (.goto (-59), 3) := by decide +kernel
theorem dX12_actsDrawn_119 : decode cX12_actsDrawn 119 = .ok (.return_, 1) := by decide +kernel
def wp_X12_actsDrawn_113 (S : Sh) (k57 : Int → Int → Mm → Prop) (post : Mm → Prop) (u0 : Int) (u1 : Int) (M : Mm) : Prop := wA u1 1 fun v1 => k57 u0 v1 M
def wp_X12_actsDrawn_57 (S : Sh) (post : Mm → Prop) : Nat → Int → Int → Mm → Prop
  | 0, _, _, _ => False
  | n + 1, u0, u1, M => wGetR S M u0 12 20 fun v3 => wC 5 fun v5 => wLd S M v3 14 v5 fun v7 => wIf (v7 ≤ u1) (post M) (wGetR S M u0 12 20 fun v9 => wC 4 fun v11 => wLd S M v9 14 v11 fun v13 => wIf (v13 ≤ 0) (post M) (isK S u0 12 ∧ (wp_X12_stands S M u0 u1 <| fun v16 M15 => wIf (¬ v16 = 0) (wGetR S M15 u0 12 20 fun v18 => wC 4 fun v20 => wLd S M15 v18 14 v20 fun v22 => isK S u0 12 ∧ (wp_X12_draw S M15 u0 v22 <| fun v25 M24 => isK S u0 12 ∧ (wp_X12_canTake S M24 u0 v25 u1 <| fun v28 M27 => wIf (v28 = 0) (wp_X12_actsDrawn_113 S (fun a0 a1 M => wp_X12_actsDrawn_57 S post n a0 a1 M) post u0 u1 M27) (isK S u0 12 ∧ (wp_X12_takes S M27 u0 v25 u1 <| fun M30 => wp_X12_actsDrawn_113 S (fun a0 a1 M => wp_X12_actsDrawn_57 S post n a0 a1 M) post u0 u1 M30))))) (wp_X12_actsDrawn_113 S (fun a0 a1 M => wp_X12_actsDrawn_57 S post n a0 a1 M) post u0 u1 M15))))
def wp_X12_actsDrawn_49 (S : Sh) (k2 : Int → Int → Mm → Prop) (post : Mm → Prop) (u0 : Int) (u1 : Int) (M : Mm) : Prop := wA u1 1 fun v31 => k2 u0 v31 M
def wp_X12_actsDrawn_2 (S : Sh) (post : Mm → Prop) : Nat → Int → Int → Mm → Prop
  | 0, _, _, _ => False
  | n + 1, u0, u1, M => wGetR S M u0 12 20 fun v33 => wC 4 fun v35 => wLd S M v33 14 v35 fun v37 => wIf (v37 ≤ u1) (wC 0 fun v39 => ∃ n9 : Nat, wp_X12_actsDrawn_57 S post n9 u0 v39 M) (isK S u0 12 ∧ (wp_X12_isAtPlace S M u0 u1 <| fun v42 M41 => wIf (¬ v42 = 0) (wGetR S M41 u0 12 20 fun v44 => wC 0 fun v46 => wLd S M41 v44 14 v46 fun v48 => isK S u0 12 ∧ (wp_X12_draw S M41 u0 v48 <| fun v51 M50 => isK S u0 12 ∧ (wp_X12_canGo S M50 u0 u1 v51 <| fun v54 M53 => wIf (v54 = 0) (wp_X12_actsDrawn_49 S (fun a0 a1 M => wp_X12_actsDrawn_2 S post n a0 a1 M) post u0 u1 M53) (isK S u0 12 ∧ (wp_X12_goes S M53 u0 u1 v51 <| fun M56 => wp_X12_actsDrawn_49 S (fun a0 a1 M => wp_X12_actsDrawn_2 S post n a0 a1 M) post u0 u1 M56))))) (wp_X12_actsDrawn_49 S (fun a0 a1 M => wp_X12_actsDrawn_2 S post n a0 a1 M) post u0 u1 M41)))
def wp_X12_actsDrawn (S : Sh) (M : Mm) (u0 : Int) (post : Mm → Prop) : Prop := wC 0 fun v57 => ∃ n9 : Nat, wp_X12_actsDrawn_2 S post n9 u0 v57 M
set_option maxHeartbeats 4000000 in
set_option maxRecDepth 100000 in
theorem t_X12_actsDrawn_113 {p : Program} {l : Launch} {e : Env} {s : State} {m : MethodId} {args : Array Value} {below : List Frame} {meth : Method} {c : Code} {D : va_G} {G : Gt} {S : Sh} {post : Mm → Prop} {k57 : Int → Int → Mm → Prop} (C : Cx p s m args meth c D G cX12_actsDrawn 3 none (cw_X12_actsDrawn :: gw) RX12) (hk57 : ∀ (y0 : Int) (y1 : Int32) (M : Mm) (H : Heap) (locs : List Loc) (ls : Array Slot), Wd D G S M H → va_S (aG G) s.heap H locs → lv_has ls 3 [(0, .ref (adr G y0)), (1, .int y1)] → k57 y0 y1.toInt M → W p l e RM_X12_actsDrawn s m args below meth c H locs 0 0 (MQ below (QV D G S post) args s 0 0 (aG G)) (F0 m 57 ls [])) : ∀ (xl0 : Int) (zl1 : Int32) (M : Mm) (H : Heap) (locs : List Loc) (ls : Array Slot), Wd D G S M H → va_S (aG G) s.heap H locs → lv_has ls 3 [(0, .ref (adr G xl0)), (1, .int zl1)] → wp_X12_actsDrawn_113 S k57 post xl0 zl1.toInt  M → W p l e RM_X12_actsDrawn s m args below meth c H locs 0 0 (MQ below (QV D G S post) args s 0 0 (aG G)) (F0 m 113 ls []) := by
  obtain ⟨hx, hb, hr, hlocks, hml, hown, hts, hK⟩ := id C
  intro xl0 zl1 M H locs ls hP hS hl h
  unfold wp_X12_actsDrawn_113 at h
  refine r_iinc hx hb (fun z2 => [(1, .int z2), (0, .ref (adr G xl0))]) dX12_actsDrawn_113 (by decide) hl (k := 1) rfl (by decide) (fun _ => rfl) h (fun z2 ls hl h => ?_)
  refine lv_goto (tgt := 57) hx hb dX12_actsDrawn_116 (by decide) ?_
  exact hk57 xl0 z2 _ _ _ _ hP hS (lv_sub hl [1, 0] rfl) h
set_option maxHeartbeats 4000000 in
set_option maxRecDepth 100000 in
theorem t_X12_actsDrawn_57 {p : Program} {l : Launch} {e : Env} {s : State} {m : MethodId} {args : Array Value} {below : List Frame} {meth : Method} {c : Code} {D : va_G} {G : Gt} {S : Sh} {post : Mm → Prop} (C : Cx p s m args meth c D G cX12_actsDrawn 3 none (cw_X12_actsDrawn :: gw) RX12) : ∀ (n : Nat) (xl0 : Int) (zl1 : Int32) (M : Mm) (H : Heap) (locs : List Loc) (ls : Array Slot), Wd D G S M H → va_S (aG G) s.heap H locs → lv_has ls 3 [(0, .ref (adr G xl0)), (1, .int zl1)] → wp_X12_actsDrawn_57 S post n xl0 zl1.toInt  M → W p l e RM_X12_actsDrawn s m args below meth c H locs 0 0 (MQ below (QV D G S post) args s 0 0 (aG G)) (F0 m 57 ls []) := by
  obtain ⟨hx, hb, hr, hlocks, hml, hown, hts, hK⟩ := id C
  intro n
  induction n with
  | zero => intro xl0 zl1 M H locs ls hP hS hl h; exact h.elim
  | succ n ih =>
    intro xl0 zl1 M H locs ls hP hS hl h
    unfold wp_X12_actsDrawn_57 at h
    refine lv_iload_n hx hb dX12_actsDrawn_57 rfl (lv_at hl 1 rfl) ?_
    refine lv_aload_n hx hb dX12_actsDrawn_58 rfl (lv_at hl 0 rfl) ?_
    refine r_getr (C := RX12) (T := TX12) (N := 38) hx hb hts (fun w h => List.mem_cons_of_mem _ (iX12 w h)) hown hK hP rfl (by decide) rfl 20 (by decide) (hts _ (List.mem_cons_of_mem _ kw_1354)) (fun _ h9 => h9) dX12_actsDrawn_59 (by decide) h (fun x4 h => ?_)
    refine r_iconst hx hb dX12_actsDrawn_62 (by decide) h (fun z6 h => ?_)
    refine r_iald hx hb hK hP dX12_actsDrawn_63 h (fun z8 h => ?_)
    refine r_icmp_ge (tgt := 119) hx hb dX12_actsDrawn_64 (by decide) h (fun h => ?_) (fun h => ?_)
    · exact r_vret hx hb hr hlocks hP hS dX12_actsDrawn_119 h
    · refine lv_aload_n hx hb dX12_actsDrawn_67 rfl (lv_at hl 0 rfl) ?_
      refine r_getr (C := RX12) (T := TX12) (N := 38) hx hb hts (fun w h => List.mem_cons_of_mem _ (iX12 w h)) hown hK hP rfl (by decide) rfl 20 (by decide) (hts _ (List.mem_cons_of_mem _ kw_1354)) (fun _ h9 => h9) dX12_actsDrawn_68 (by decide) h (fun x10 h => ?_)
      refine r_iconst hx hb dX12_actsDrawn_71 (by decide) h (fun z12 h => ?_)
      refine r_iald hx hb hK hP dX12_actsDrawn_72 h (fun z14 h => ?_)
      refine r_if_le (tgt := 119) hx hb dX12_actsDrawn_73 (by decide) h (fun h => ?_) (fun h => ?_)
      · exact r_vret hx hb hr hlocks hP hS dX12_actsDrawn_119 h
      · refine lv_aload_n hx hb dX12_actsDrawn_76 rfl (lv_at hl 0 rfl) ?_
        refine lv_iload_n hx hb dX12_actsDrawn_77 rfl (lv_at hl 1 rfl) ?_
        refine q_Vi hx hb hml hown hts hK hP hS (c_X12_stands l D G S _ xl0 zl1 _ h.2) ⟨callB_of 1 hts (gw_good kw_1670) rfl rfl rfl (hts _ (List.mem_cons_of_mem _ kw_14)) (hts _ (List.mem_cons_of_mem _ kw_1667)) hd_X12_stands ⟨Nat.le_of_ble_eq_true rfl, Nat.le_of_ble_eq_true rfl⟩, (hts _ (List.mem_cons_of_mem _ kw_1669)), (hts _ (List.mem_cons_of_mem _ kp_92))⟩ h.1 (ci := 12) rfl (by decide) rfl hl.1 rfl (lv_room (Nat.le_of_ble_eq_true rfl)) dX12_actsDrawn_78 ⟨Nat.zero_le _, Nat.zero_le _⟩ (fun z17 M15 H locs h hP hS => ?_)
        refine r_if_ne (tgt := 87) hx hb dX12_actsDrawn_81 (by decide) h (fun h => ?_) (fun h => ?_)
        · refine lv_aload_n hx hb dX12_actsDrawn_87 rfl (lv_at hl 0 rfl) ?_
          refine lv_aload_n hx hb dX12_actsDrawn_88 rfl (lv_at hl 0 rfl) ?_
          refine r_getr (C := RX12) (T := TX12) (N := 38) hx hb hts (fun w h => List.mem_cons_of_mem _ (iX12 w h)) hown hK hP rfl (by decide) rfl 20 (by decide) (hts _ (List.mem_cons_of_mem _ kw_1354)) (fun _ h9 => h9) dX12_actsDrawn_89 (by decide) h (fun x19 h => ?_)
          refine r_iconst hx hb dX12_actsDrawn_92 (by decide) h (fun z21 h => ?_)
          refine r_iald hx hb hK hP dX12_actsDrawn_93 h (fun z23 h => ?_)
          refine q_Vi hx hb hml hown hts hK hP hS (c_X12_draw l D G S _ xl0 z23 _ h.2) ⟨callB_of 1 hts (gw_good kw_1951) rfl rfl rfl (hts _ (List.mem_cons_of_mem _ kw_14)) (hts _ (List.mem_cons_of_mem _ kw_1948)) hd_X12_draw ⟨Nat.le_of_ble_eq_true rfl, Nat.le_of_ble_eq_true rfl⟩, (hts _ (List.mem_cons_of_mem _ kw_1950)), (hts _ (List.mem_cons_of_mem _ kp_133))⟩ h.1 (ci := 12) rfl (by decide) rfl hl.1 rfl (lv_room (Nat.le_of_ble_eq_true rfl)) dX12_actsDrawn_94 ⟨Nat.zero_le _, Nat.zero_le _⟩ (fun z26 M24 H locs h hP hS => ?_)
          refine lv_istore_n (lv' := [(2, .int z26), (0, .ref (adr G xl0)), (1, .int zl1)]) hx hb dX12_actsDrawn_97 rfl hl (by decide) rfl (fun ls hl => ?_)
          refine lv_aload_n hx hb dX12_actsDrawn_98 rfl (lv_at hl 1 rfl) ?_
          refine lv_iload_n hx hb dX12_actsDrawn_99 rfl (lv_at hl 0 rfl) ?_
          refine lv_iload_n hx hb dX12_actsDrawn_100 rfl (lv_at hl 2 rfl) ?_
          refine q_Vi hx hb hml hown hts hK hP hS (c_X12_canTake l D G S _ xl0 z26 zl1 _ h.2) ⟨callB_of 2 hts (gw_good kw_1756) rfl rfl rfl (hts _ (List.mem_cons_of_mem _ kw_14)) (hts _ (List.mem_cons_of_mem _ kw_1753)) hd_X12_canTake ⟨Nat.le_of_ble_eq_true rfl, Nat.le_of_ble_eq_true rfl⟩, (hts _ (List.mem_cons_of_mem _ kw_1755)), (hts _ (List.mem_cons_of_mem _ kp_107))⟩ h.1 (ci := 12) rfl (by decide) rfl hl.1 rfl (lv_room (Nat.le_of_ble_eq_true rfl)) dX12_actsDrawn_101 ⟨Nat.zero_le _, Nat.zero_le _⟩ (fun z29 M27 H locs h hP hS => ?_)
          refine r_if_eq (tgt := 113) hx hb dX12_actsDrawn_104 (by decide) h (fun h => ?_) (fun h => ?_)
          · exact t_X12_actsDrawn_113 C ih xl0 zl1 _ _ _ _ hP hS (lv_sub hl [1, 2] rfl) h
          · refine lv_aload_n hx hb dX12_actsDrawn_107 rfl (lv_at hl 1 rfl) ?_
            refine lv_iload_n hx hb dX12_actsDrawn_108 rfl (lv_at hl 0 rfl) ?_
            refine lv_iload_n hx hb dX12_actsDrawn_109 rfl (lv_at hl 2 rfl) ?_
            refine q_Vv hx hb hml hown hts hK hP hS (c_X12_takes l D G S _ xl0 z26 zl1 _ h.2) ⟨callB_of 2 hts (gw_good kw_1764) rfl rfl rfl (hts _ (List.mem_cons_of_mem _ kw_14)) (hts _ (List.mem_cons_of_mem _ kw_1761)) hd_X12_takes ⟨Nat.le_of_ble_eq_true rfl, Nat.le_of_ble_eq_true rfl⟩, (hts _ (List.mem_cons_of_mem _ kw_1763)), (hts _ (List.mem_cons_of_mem _ kp_109))⟩ h.1 (ci := 12) rfl (by decide) rfl hl.1 rfl (lv_room (Nat.le_of_ble_eq_true rfl)) dX12_actsDrawn_110 ⟨Nat.zero_le _, Nat.zero_le _⟩ (fun M30 H locs h hP hS => ?_)
            exact t_X12_actsDrawn_113 C ih xl0 zl1 _ _ _ _ hP hS (lv_sub hl [1, 2] rfl) h
        · refine lv_goto (tgt := 113) hx hb dX12_actsDrawn_84 (by decide) ?_
          exact t_X12_actsDrawn_113 C ih xl0 zl1 _ _ _ _ hP hS (lv_sub hl [0, 1] rfl) h
set_option maxHeartbeats 4000000 in
set_option maxRecDepth 100000 in
theorem t_X12_actsDrawn_49 {p : Program} {l : Launch} {e : Env} {s : State} {m : MethodId} {args : Array Value} {below : List Frame} {meth : Method} {c : Code} {D : va_G} {G : Gt} {S : Sh} {post : Mm → Prop} {k2 : Int → Int → Mm → Prop} (C : Cx p s m args meth c D G cX12_actsDrawn 3 none (cw_X12_actsDrawn :: gw) RX12) (hk2 : ∀ (y0 : Int) (y1 : Int32) (M : Mm) (H : Heap) (locs : List Loc) (ls : Array Slot), Wd D G S M H → va_S (aG G) s.heap H locs → lv_has ls 3 [(0, .ref (adr G y0)), (1, .int y1)] → k2 y0 y1.toInt M → W p l e RM_X12_actsDrawn s m args below meth c H locs 0 0 (MQ below (QV D G S post) args s 0 0 (aG G)) (F0 m 2 ls [])) : ∀ (xl0 : Int) (zl1 : Int32) (M : Mm) (H : Heap) (locs : List Loc) (ls : Array Slot), Wd D G S M H → va_S (aG G) s.heap H locs → lv_has ls 3 [(0, .ref (adr G xl0)), (1, .int zl1)] → wp_X12_actsDrawn_49 S k2 post xl0 zl1.toInt  M → W p l e RM_X12_actsDrawn s m args below meth c H locs 0 0 (MQ below (QV D G S post) args s 0 0 (aG G)) (F0 m 49 ls []) := by
  obtain ⟨hx, hb, hr, hlocks, hml, hown, hts, hK⟩ := id C
  intro xl0 zl1 M H locs ls hP hS hl h
  unfold wp_X12_actsDrawn_49 at h
  refine r_iinc hx hb (fun z32 => [(1, .int z32), (0, .ref (adr G xl0))]) dX12_actsDrawn_49 (by decide) hl (k := 1) rfl (by decide) (fun _ => rfl) h (fun z32 ls hl h => ?_)
  refine lv_goto (tgt := 2) hx hb dX12_actsDrawn_52 (by decide) ?_
  exact hk2 xl0 z32 _ _ _ _ hP hS (lv_sub hl [1, 0] rfl) h
set_option maxHeartbeats 4000000 in
set_option maxRecDepth 100000 in
theorem t_X12_actsDrawn_2 {p : Program} {l : Launch} {e : Env} {s : State} {m : MethodId} {args : Array Value} {below : List Frame} {meth : Method} {c : Code} {D : va_G} {G : Gt} {S : Sh} {post : Mm → Prop} (C : Cx p s m args meth c D G cX12_actsDrawn 3 none (cw_X12_actsDrawn :: gw) RX12) : ∀ (n : Nat) (xl0 : Int) (zl1 : Int32) (M : Mm) (H : Heap) (locs : List Loc) (ls : Array Slot), Wd D G S M H → va_S (aG G) s.heap H locs → lv_has ls 3 [(0, .ref (adr G xl0)), (1, .int zl1)] → wp_X12_actsDrawn_2 S post n xl0 zl1.toInt  M → W p l e RM_X12_actsDrawn s m args below meth c H locs 0 0 (MQ below (QV D G S post) args s 0 0 (aG G)) (F0 m 2 ls []) := by
  obtain ⟨hx, hb, hr, hlocks, hml, hown, hts, hK⟩ := id C
  intro n
  induction n with
  | zero => intro xl0 zl1 M H locs ls hP hS hl h; exact h.elim
  | succ n ih =>
    intro xl0 zl1 M H locs ls hP hS hl h
    unfold wp_X12_actsDrawn_2 at h
    refine lv_iload_n hx hb dX12_actsDrawn_2 rfl (lv_at hl 1 rfl) ?_
    refine lv_aload_n hx hb dX12_actsDrawn_3 rfl (lv_at hl 0 rfl) ?_
    refine r_getr (C := RX12) (T := TX12) (N := 38) hx hb hts (fun w h => List.mem_cons_of_mem _ (iX12 w h)) hown hK hP rfl (by decide) rfl 20 (by decide) (hts _ (List.mem_cons_of_mem _ kw_1354)) (fun _ h9 => h9) dX12_actsDrawn_4 (by decide) h (fun x34 h => ?_)
    refine r_iconst hx hb dX12_actsDrawn_7 (by decide) h (fun z36 h => ?_)
    refine r_iald hx hb hK hP dX12_actsDrawn_8 h (fun z38 h => ?_)
    refine r_icmp_ge (tgt := 55) hx hb dX12_actsDrawn_9 (by decide) h (fun h => ?_) (fun h => ?_)
    · refine r_iconst hx hb dX12_actsDrawn_55 (by decide) h (fun z40 h => ?_)
      refine lv_istore_n (lv' := [(1, .int z40), (0, .ref (adr G xl0))]) hx hb dX12_actsDrawn_56 rfl hl (by decide) rfl (fun ls hl => ?_)
      obtain ⟨n9, h⟩ := h
      exact t_X12_actsDrawn_57 C n9 xl0 z40 _ _ _ _ hP hS (lv_sub hl [1, 0] rfl) h
    · refine lv_aload_n hx hb dX12_actsDrawn_12 rfl (lv_at hl 0 rfl) ?_
      refine lv_iload_n hx hb dX12_actsDrawn_13 rfl (lv_at hl 1 rfl) ?_
      refine q_Vi hx hb hml hown hts hK hP hS (c_X12_isAtPlace l D G S _ xl0 zl1 _ h.2) ⟨callB_of 1 hts (gw_good kw_1760) rfl rfl rfl (hts _ (List.mem_cons_of_mem _ kw_14)) (hts _ (List.mem_cons_of_mem _ kw_1757)) hd_X12_isAtPlace ⟨Nat.le_of_ble_eq_true rfl, Nat.le_of_ble_eq_true rfl⟩, (hts _ (List.mem_cons_of_mem _ kw_1759)), (hts _ (List.mem_cons_of_mem _ kp_108))⟩ h.1 (ci := 12) rfl (by decide) rfl hl.1 rfl (lv_room (Nat.le_of_ble_eq_true rfl)) dX12_actsDrawn_14 ⟨Nat.zero_le _, Nat.zero_le _⟩ (fun z43 M41 H locs h hP hS => ?_)
      refine r_if_ne (tgt := 23) hx hb dX12_actsDrawn_17 (by decide) h (fun h => ?_) (fun h => ?_)
      · refine lv_aload_n hx hb dX12_actsDrawn_23 rfl (lv_at hl 0 rfl) ?_
        refine lv_aload_n hx hb dX12_actsDrawn_24 rfl (lv_at hl 0 rfl) ?_
        refine r_getr (C := RX12) (T := TX12) (N := 38) hx hb hts (fun w h => List.mem_cons_of_mem _ (iX12 w h)) hown hK hP rfl (by decide) rfl 20 (by decide) (hts _ (List.mem_cons_of_mem _ kw_1354)) (fun _ h9 => h9) dX12_actsDrawn_25 (by decide) h (fun x45 h => ?_)
        refine r_iconst hx hb dX12_actsDrawn_28 (by decide) h (fun z47 h => ?_)
        refine r_iald hx hb hK hP dX12_actsDrawn_29 h (fun z49 h => ?_)
        refine q_Vi hx hb hml hown hts hK hP hS (c_X12_draw l D G S _ xl0 z49 _ h.2) ⟨callB_of 1 hts (gw_good kw_1951) rfl rfl rfl (hts _ (List.mem_cons_of_mem _ kw_14)) (hts _ (List.mem_cons_of_mem _ kw_1948)) hd_X12_draw ⟨Nat.le_of_ble_eq_true rfl, Nat.le_of_ble_eq_true rfl⟩, (hts _ (List.mem_cons_of_mem _ kw_1950)), (hts _ (List.mem_cons_of_mem _ kp_133))⟩ h.1 (ci := 12) rfl (by decide) rfl hl.1 rfl (lv_room (Nat.le_of_ble_eq_true rfl)) dX12_actsDrawn_30 ⟨Nat.zero_le _, Nat.zero_le _⟩ (fun z52 M50 H locs h hP hS => ?_)
        refine lv_istore_n (lv' := [(2, .int z52), (0, .ref (adr G xl0)), (1, .int zl1)]) hx hb dX12_actsDrawn_33 rfl hl (by decide) rfl (fun ls hl => ?_)
        refine lv_aload_n hx hb dX12_actsDrawn_34 rfl (lv_at hl 1 rfl) ?_
        refine lv_iload_n hx hb dX12_actsDrawn_35 rfl (lv_at hl 2 rfl) ?_
        refine lv_iload_n hx hb dX12_actsDrawn_36 rfl (lv_at hl 0 rfl) ?_
        refine q_Vi hx hb hml hown hts hK hP hS (c_X12_canGo l D G S _ xl0 zl1 z52 _ h.2) ⟨callB_of 2 hts (gw_good kw_1784) rfl rfl rfl (hts _ (List.mem_cons_of_mem _ kw_14)) (hts _ (List.mem_cons_of_mem _ kw_1781)) hd_X12_canGo ⟨Nat.le_of_ble_eq_true rfl, Nat.le_of_ble_eq_true rfl⟩, (hts _ (List.mem_cons_of_mem _ kw_1783)), (hts _ (List.mem_cons_of_mem _ kp_111))⟩ h.1 (ci := 12) rfl (by decide) rfl hl.1 rfl (lv_room (Nat.le_of_ble_eq_true rfl)) dX12_actsDrawn_37 ⟨Nat.zero_le _, Nat.zero_le _⟩ (fun z55 M53 H locs h hP hS => ?_)
        refine r_if_eq (tgt := 49) hx hb dX12_actsDrawn_40 (by decide) h (fun h => ?_) (fun h => ?_)
        · exact t_X12_actsDrawn_49 C ih xl0 zl1 _ _ _ _ hP hS (lv_sub hl [1, 2] rfl) h
        · refine lv_aload_n hx hb dX12_actsDrawn_43 rfl (lv_at hl 1 rfl) ?_
          refine lv_iload_n hx hb dX12_actsDrawn_44 rfl (lv_at hl 2 rfl) ?_
          refine lv_iload_n hx hb dX12_actsDrawn_45 rfl (lv_at hl 0 rfl) ?_
          refine q_Vv hx hb hml hown hts hK hP hS (c_X12_goes l D G S _ xl0 zl1 z52 _ h.2) ⟨callB_of 2 hts (gw_good kw_1792) rfl rfl rfl (hts _ (List.mem_cons_of_mem _ kw_14)) (hts _ (List.mem_cons_of_mem _ kw_1789)) hd_X12_goes ⟨Nat.le_of_ble_eq_true rfl, Nat.le_of_ble_eq_true rfl⟩, (hts _ (List.mem_cons_of_mem _ kw_1791)), (hts _ (List.mem_cons_of_mem _ kp_113))⟩ h.1 (ci := 12) rfl (by decide) rfl hl.1 rfl (lv_room (Nat.le_of_ble_eq_true rfl)) dX12_actsDrawn_46 ⟨Nat.zero_le _, Nat.zero_le _⟩ (fun M56 H locs h hP hS => ?_)
          exact t_X12_actsDrawn_49 C ih xl0 zl1 _ _ _ _ hP hS (lv_sub hl [1, 2] rfl) h
      · refine lv_goto (tgt := 49) hx hb dX12_actsDrawn_20 (by decide) ?_
        exact t_X12_actsDrawn_49 C ih xl0 zl1 _ _ _ _ hP hS (lv_sub hl [0, 1] rfl) h
set_option maxHeartbeats 4000000 in
set_option maxRecDepth 100000 in
theorem c_X12_actsDrawn (l : Launch) (D : va_G) (G : Gt) (S : Sh) (M : Mm) (xl0 : Int) (post : Mm → Prop) (h : wp_X12_actsDrawn S M xl0 post) : Met l yX12_actsDrawn (cw_X12_actsDrawn :: gw) RM_X12_actsDrawn (va_Pc [.ref (adr G xl0)] (fun U => KN D G U ∧ Wd D G S M U.heap)) (QV D G S post) 0 0 (aG G) := by
  refine Met.ofW (cc := cX12_actsDrawn) (maxL := 3) (ret := none) (by decide) rfl ?_
  intro p e s m args below meth c s₁ B hml hv
  obtain ⟨rfl, hK, hP⟩ := hv
  have hx := B.exec
  have hb := B.bytes
  have hr := B.returns
  have hts := atoms_spec (ws := cw_X12_actsDrawn :: gw) B.pre
  have hown : s.vm.findClass RX12 = some m.cls := findClass_of_methodNamed B.named
  have hlocks := B.notSynchronized
  have hS : va_S (aG G) s.heap s.heap [] := va_S.rf
  have C : Cx p s m ([.ref (adr G xl0)] : List Value).toArray meth c D G cX12_actsDrawn 3 none (cw_X12_actsDrawn :: gw) RX12 := ⟨hx, hb, hr, hlocks, hml, hown, hts, hK⟩
  have hl := lv_entry ([.ref (adr G xl0)]) (n := 3) (Nat.le_of_ble_eq_true rfl)
  rw [lg_entry_eq]
  generalize (lg_sl ([.ref (adr G xl0)]) ++ List.replicate (3 - (lg_sl ([.ref (adr G xl0)])).length) Slot.unset).toArray = ls at hl ⊢
  have hl : lv_has ls 3 [(0, .ref (adr G xl0))] := hl
  unfold wp_X12_actsDrawn at h
  refine r_iconst hx hb dX12_actsDrawn_0 (by decide) h (fun z58 h => ?_)
  refine lv_istore_n (lv' := [(1, .int z58), (0, .ref (adr G xl0))]) hx hb dX12_actsDrawn_1 rfl hl (by decide) rfl (fun ls hl => ?_)
  obtain ⟨n9, h⟩ := h
  exact t_X12_actsDrawn_2 C n9 xl0 z58 _ _ _ _ hP hS (lv_sub hl [1, 0] rfl) h
