/-! TurningMilkModel.clauseHere()Z -/
abbrev RM_X12_clauseHere : Room := { frames := 11, cells := 0, slots := 0, locals := 259 }
def cw_X12_clauseHere : Cond := Cond.code yX12_clauseHere cX12_clauseHere 3 (Option.some FieldType.boolean)
theorem hd_X12_clauseHere : yX12_clauseHere.cls ≠ "java/lang/invoke/MethodHandle" ∧ yX12_clauseHere.cls ≠ "java/lang/invoke/VarHandle" ∧ (parseMethodDescriptor yX12_clauseHere.desc).map (fun d => d.parameters.length) = some 0 := by decide +kernel
theorem dX12_clauseHere_0 : decode cX12_clauseHere 0 = .ok (.aload_n 0, 1) := by decide +kernel
theorem dX12_clauseHere_1 : decode cX12_clauseHere 1 = .ok (.invokevirtual 93, 3) := by decide +kernel
theorem dX12_clauseHere_4 : decode cX12_clauseHere 4 = .ok (.pop, 1) := by decide +kernel
theorem dX12_clauseHere_5 : decode cX12_clauseHere 5 = .ok (.aload_n 0, 1) := by decide +kernel
theorem dX12_clauseHere_6 : decode cX12_clauseHere 6 = .ok (.getfield 90, 3) := by decide +kernel
theorem dX12_clauseHere_9 : decode cX12_clauseHere 9 = .ok (.istore_n 1, 1) := by decide +kernel
theorem dX12_clauseHere_10 : decode cX12_clauseHere 10 = .ok (.aload_n 0, 1) := by decide +kernel
theorem dX12_clauseHere_11 : decode cX12_clauseHere 11 = .ok (.getfield 142, 3) := by decide +kernel
theorem dX12_clauseHere_14 : decode cX12_clauseHere 14 = .ok (.bipush 6, 2) := by decide +kernel
theorem dX12_clauseHere_16 : decode cX12_clauseHere 16 = .ok (.if_icmp .ne 7, 3) := by decide +kernel
theorem dX12_clauseHere_19 : decode cX12_clauseHere 19 = .ok (.iconst 1, 1) := by decide +kernel
theorem dX12_clauseHere_20 : decode cX12_clauseHere 20 = .ok (.goto 4, 3) := by decide +kernel
theorem dX12_clauseHere_23 : decode cX12_clauseHere 23 = .ok (.iconst 0, 1) := by decide +kernel
theorem dX12_clauseHere_24 : decode cX12_clauseHere 24 = .ok (.istore_n 2, 1) := by decide +kernel
theorem dX12_clauseHere_25 : decode cX12_clauseHere 25 = .ok (.iload_n 2, 1) := by decide +kernel
theorem dX12_clauseHere_26 : decode cX12_clauseHere 26 = .ok (.ifCond .eq 13, 3) := by decide +kernel
theorem dX12_clauseHere_29 : decode cX12_clauseHere 29 = .ok (.aload_n 0, 1) := by decide +kernel
theorem dX12_clauseHere_30 : decode cX12_clauseHere 30 = .ok (.invokevirtual 243, 3) := by decide +kernel
theorem dX12_clauseHere_33 : decode cX12_clauseHere 33 = .ok (.ifCond .ne 23, 3) := by decide +kernel
theorem dX12_clauseHere_36 : decode cX12_clauseHere 36 = .ok (.goto 13, 3) := by decide +kernel
theorem dX12_clauseHere_39 : decode cX12_clauseHere 39 = .ok (.aload_n 0, 1) := by decide +kernel
theorem dX12_clauseHere_40 : decode cX12_clauseHere 40 = .ok (.ldc2_w 246, 3) := by decide +kernel
theorem dX12_clauseHere_43 : decode cX12_clauseHere 43 = .ok (.invokevirtual 101, 3) := by decide +kernel
theorem dX12_clauseHere_46 : decode cX12_clauseHere 46 = .ok (.ifCond .ne 10, 3) := by decide +kernel
theorem dX12_clauseHere_49 : decode cX12_clauseHere 49 = .ok (.aload_n 0, 1) := by decide +kernel
theorem dX12_clauseHere_50 : decode cX12_clauseHere 50 = .ok (.iconst 0, 1) := by decide +kernel
theorem dX12_clauseHere_51 : decode cX12_clauseHere 51 = .ok (.iload_n 1, 1) := by decide +kernel
theorem dX12_clauseHere_52 : decode cX12_clauseHere 52 = .ok (.invokevirtual 111, 3) := by decide +kernel
theorem dX12_clauseHere_55 : decode cX12_clauseHere 55 = .ok (.ireturn, 1) := by decide +kernel
theorem dX12_clauseHere_56 : decode cX12_clauseHere 56 = .ok (.aload_n 0, 1) := by decide +kernel
theorem dX12_clauseHere_57 : decode cX12_clauseHere 57 = .ok (.getfield 248, 3) := by decide +kernel
theorem dX12_clauseHere_60 : decode cX12_clauseHere 60 = .ok (.iload_n 2, 1) := by decide +kernel
theorem dX12_clauseHere_61 : decode cX12_clauseHere 61 = .ok (.ifCond .eq 8, 3) := by decide +kernel
theorem dX12_clauseHere_64 : decode cX12_clauseHere 64 = .ok (.bipush 40, 2) := by decide +kernel
theorem dX12_clauseHere_66 : decode cX12_clauseHere 66 = .ok (.goto 5, 3) := by decide +kernel
theorem dX12_clauseHere_69 : decode cX12_clauseHere 69 = .ok (.bipush 12, 2) := by decide +kernel
theorem dX12_clauseHere_71 : decode cX12_clauseHere 71 = .ok (.if_icmp .ne 10, 3) := by decide +kernel
theorem dX12_clauseHere_74 : decode cX12_clauseHere 74 = .ok (.aload_n 0, 1) := by decide +kernel
theorem dX12_clauseHere_75 : decode cX12_clauseHere 75 = .ok (.iconst 4, 1) := by decide +kernel
theorem dX12_clauseHere_76 : decode cX12_clauseHere 76 = .ok (.iload_n 1, 1) := by decide +kernel
theorem dX12_clauseHere_77 : decode cX12_clauseHere 77 = .ok (.invokevirtual 111, 3) := by decide +kernel
theorem dX12_clauseHere_80 : decode cX12_clauseHere 80 = .ok (.ireturn, 1) := by decide +kernel
theorem dX12_clauseHere_81 : decode cX12_clauseHere 81 = .ok (.aload_n 0, 1) := by decide +kernel
theorem dX12_clauseHere_82 : decode cX12_clauseHere 82 = .ok (.dup, 1) := by decide +kernel
theorem dX12_clauseHere_83 : decode cX12_clauseHere 83 = .ok (.getfield 248, 3) := by decide +kernel
theorem dX12_clauseHere_86 : decode cX12_clauseHere 86 = .ok (.iconst 1, 1) := by decide +kernel
theorem dX12_clauseHere_87 : decode cX12_clauseHere 87 = .ok (.iadd, 1) := by decide +kernel
theorem dX12_clauseHere_88 : decode cX12_clauseHere 88 = .ok (.putfield 248, 3) := by decide +kernel
theorem dX12_clauseHere_91 : decode cX12_clauseHere 91 = .ok (.iload_n 2, 1) := by decide +kernel
theorem dX12_clauseHere_92 : decode cX12_clauseHere 92 = .ok (.ifCond .eq 11, 3) := by decide +kernel
theorem dX12_clauseHere_95 : decode cX12_clauseHere 95 = .ok (.aload_n 0, 1) := by decide +kernel
theorem dX12_clauseHere_96 : decode cX12_clauseHere 96 = .ok (.iload_n 1, 1) := by decide +kernel
theorem dX12_clauseHere_97 : decode cX12_clauseHere 97 = .ok (.invokevirtual 251, 3) := by decide +kernel
theorem dX12_clauseHere_100 : decode cX12_clauseHere 100 = .ok (.goto 7, 3) := by decide +kernel
theorem dX12_clauseHere_103 : decode cX12_clauseHere 103 = .ok (.aload_n 0, 1) := by decide +kernel
theorem dX12_clauseHere_104 : decode cX12_clauseHere 104 = .ok (.invokevirtual 254, 3) := by decide +kernel
theorem dX12_clauseHere_107 : decode cX12_clauseHere 107 = .ok (.ireturn, 1) := by decide +kernel
def wp_X12_clauseHere_71 (S : Sh) (post : Int → Mm → Prop) (u0 : Int) (u1 : Int) (u2 : Int) (t0 : Int) (t1 : Int) (M : Mm) : Prop := wIf (¬ t0 = t1) (wGet S M u0 12 14 fun v1 => wC 1 fun v3 => wA v1 v3 fun v5 => wPut S M u0 12 14 v5 fun M7 => wIf (u2 = 0) (isK S u0 12 ∧ (wp_X12_isTurnHere S M7 u0 <| fun v9 M8 => (v9 = 0 ∨ v9 = 1) ∧ post v9 M8)) (isK S u0 12 ∧ (wp_X12_dairyLineHere S M7 u0 u1 <| fun v12 M11 => (v12 = 0 ∨ v12 = 1) ∧ post v12 M11))) (wC 4 fun v14 => isK S u0 12 ∧ (wp_X12_fails S M u0 v14 u1 <| fun v17 M16 => (v17 = 0 ∨ v17 = 1) ∧ post v17 M16))
def wp_X12_clauseHere_56 (S : Sh) (post : Int → Mm → Prop) (u0 : Int) (u1 : Int) (u2 : Int) (M : Mm) : Prop := wGet S M u0 12 14 fun v19 => wIf (u2 = 0) (wC 12 fun v21 => wp_X12_clauseHere_71 S post u0 u1 u2 v19 v21 M) (wC 40 fun v23 => wp_X12_clauseHere_71 S post u0 u1 u2 v19 v23 M)
def wp_X12_clauseHere_49 (S : Sh) (post : Int → Mm → Prop) (u0 : Int) (u1 : Int) (M : Mm) : Prop := wC 0 fun v25 => isK S u0 12 ∧ (wp_X12_fails S M u0 v25 u1 <| fun v28 M27 => (v28 = 0 ∨ v28 = 1) ∧ post v28 M27)
def wp_X12_clauseHere_24 (S : Sh) (post : Int → Mm → Prop) (u0 : Int) (u1 : Int) (t0 : Int) (M : Mm) : Prop := wIf (t0 = 0) (wC 1953854062 fun v30 => isK S u0 12 ∧ (wp_X12_isWord S M u0 v30 <| fun v33 M32 => wIf (¬ v33 = 0) (wp_X12_clauseHere_56 S post u0 u1 t0 M32) (wp_X12_clauseHere_49 S post u0 u1 M32))) (isK S u0 12 ∧ (wp_X12_isDairyWord S M u0 <| fun v36 M35 => wIf (¬ v36 = 0) (wp_X12_clauseHere_56 S post u0 u1 t0 M35) (wp_X12_clauseHere_49 S post u0 u1 M35)))
def wp_X12_clauseHere (S : Sh) (M : Mm) (u0 : Int) (post : Int → Mm → Prop) : Prop := isK S u0 12 ∧ (wp_X12_see S M u0 <| fun v39 M38 => wGet S M38 u0 12 8 fun v41 => wGet S M38 u0 12 11 fun v43 => wC 6 fun v45 => wIf (¬ v43 = v45) (wC 0 fun v47 => wp_X12_clauseHere_24 S post u0 v41 v47 M38) (wC 1 fun v49 => wp_X12_clauseHere_24 S post u0 v41 v49 M38))
set_option maxHeartbeats 4000000 in
set_option maxRecDepth 100000 in
theorem t_X12_clauseHere_71 {p : Program} {l : Launch} {e : Env} {s : State} {m : MethodId} {args : Array Value} {below : List Frame} {meth : Method} {c : Code} {D : va_G} {G : Gt} {S : Sh} {post : Int → Mm → Prop} (C : Cx p s m args meth c D G cX12_clauseHere 3 (some .boolean) (cw_X12_clauseHere :: gw) RX12) : ∀ (xl0 : Int) (zl1 : Int32) (zl2 : Int32) (zs0 : Int32) (zs1 : Int32) (M : Mm) (H : Heap) (locs : List Loc) (ls : Array Slot), Wd D G S M H → va_S (aG G) s.heap H locs → lv_has ls 3 [(0, .ref (adr G xl0)), (1, .int zl1), (2, .int zl2)] → wp_X12_clauseHere_71 S post xl0 zl1.toInt zl2.toInt zs0.toInt zs1.toInt M → W p l e RM_X12_clauseHere s m args below meth c H locs 0 0 (MQ below (QI D G S post) args s 0 0 (aG G)) (F0 m 71 ls [.int zs1, .int zs0]) := by
  obtain ⟨hx, hb, hr, hlocks, hml, hown, hts, hK⟩ := id C
  intro xl0 zl1 zl2 zs0 zs1 M H locs ls hP hS hl h
  unfold wp_X12_clauseHere_71 at h
  refine r_icmp_ne (tgt := 81) hx hb dX12_clauseHere_71 (by decide) h (fun h => ?_) (fun h => ?_)
  · refine lv_aload_n hx hb dX12_clauseHere_81 rfl (lv_at hl 0 rfl) ?_
    refine lv_dup hx hb dX12_clauseHere_82 rfl ?_
    refine r_geti (C := RX12) (T := TX12) (N := 38) hx hb hts (fun w h => List.mem_cons_of_mem _ (iX12 w h)) hown hK hP rfl (by decide) rfl 14 (by decide) (hts _ (List.mem_cons_of_mem _ kw_1348)) (fun _ h9 => h9) dX12_clauseHere_83 (by decide) h (fun z2 h => ?_)
    refine r_iconst hx hb dX12_clauseHere_86 (by decide) h (fun z4 h => ?_)
    refine r_iadd hx hb dX12_clauseHere_87 h (fun z6 h => ?_)
    refine r_puti (C := RX12) (T := TX12) (N := 38) hx hb hts (fun w h => List.mem_cons_of_mem _ (iX12 w h)) hown hK hP tyX12 tyX12_ok nmX12 hS rfl (by decide) rfl 14 (by decide) (hts _ (List.mem_cons_of_mem _ kw_1348)) (fun _ h9 => h9) rfl (tyX12_ok 14 (by decide)) rfl rfl dX12_clauseHere_88 (by decide) h (fun M7 H locs h hP hS => ?_)
    refine lv_iload_n hx hb dX12_clauseHere_91 rfl (lv_at hl 2 rfl) ?_
    refine r_if_eq (tgt := 103) hx hb dX12_clauseHere_92 (by decide) h (fun h => ?_) (fun h => ?_)
    · refine lv_aload_n hx hb dX12_clauseHere_103 rfl (lv_at hl 0 rfl) ?_
      refine q_Vi hx hb hml hown hts hK hP hS (c_X12_isTurnHere l D G S _ xl0 _ h.2) ⟨callB_of 0 hts (gw_good kw_1555) rfl rfl rfl (hts _ (List.mem_cons_of_mem _ kw_14)) (hts _ (List.mem_cons_of_mem _ kw_1552)) hd_X12_isTurnHere ⟨Nat.le_of_ble_eq_true rfl, Nat.le_of_ble_eq_true rfl⟩, (hts _ (List.mem_cons_of_mem _ kw_1554)), (hts _ (List.mem_cons_of_mem _ kp_71))⟩ h.1 (ci := 12) rfl (by decide) rfl hl.1 rfl (lv_room (Nat.le_of_ble_eq_true rfl)) dX12_clauseHere_104 ⟨Nat.zero_le _, Nat.zero_le _⟩ (fun z10 M8 H locs h hP hS => ?_)
      exact r_zret hx hb hr hlocks hP hS dX12_clauseHere_107 h
    · refine lv_aload_n hx hb dX12_clauseHere_95 rfl (lv_at hl 0 rfl) ?_
      refine lv_iload_n hx hb dX12_clauseHere_96 rfl (lv_at hl 1 rfl) ?_
      refine q_Vi hx hb hml hown hts hK hP hS (c_X12_dairyLineHere l D G S _ xl0 zl1 _ h.2) ⟨callB_of 1 hts (gw_good kw_1504) rfl rfl rfl (hts _ (List.mem_cons_of_mem _ kw_14)) (hts _ (List.mem_cons_of_mem _ kw_1501)) hd_X12_dairyLineHere ⟨Nat.le_of_ble_eq_true rfl, Nat.le_of_ble_eq_true rfl⟩, (hts _ (List.mem_cons_of_mem _ kw_1503)), (hts _ (List.mem_cons_of_mem _ kp_59))⟩ h.1 (ci := 12) rfl (by decide) rfl hl.1 rfl (lv_room (Nat.le_of_ble_eq_true rfl)) dX12_clauseHere_97 ⟨Nat.zero_le _, Nat.zero_le _⟩ (fun z13 M11 H locs h hP hS => ?_)
      refine lv_goto (tgt := 107) hx hb dX12_clauseHere_100 (by decide) ?_
      exact r_zret hx hb hr hlocks hP hS dX12_clauseHere_107 h
  · refine lv_aload_n hx hb dX12_clauseHere_74 rfl (lv_at hl 0 rfl) ?_
    refine r_iconst hx hb dX12_clauseHere_75 (by decide) h (fun z15 h => ?_)
    refine lv_iload_n hx hb dX12_clauseHere_76 rfl (lv_at hl 1 rfl) ?_
    refine q_Vi hx hb hml hown hts hK hP hS (c_X12_fails l D G S _ xl0 z15 zl1 _ h.2) ⟨callB_of 2 hts (gw_good kw_1500) rfl rfl rfl (hts _ (List.mem_cons_of_mem _ kw_14)) (hts _ (List.mem_cons_of_mem _ kw_1497)) hd_X12_fails ⟨Nat.le_of_ble_eq_true rfl, Nat.le_of_ble_eq_true rfl⟩, (hts _ (List.mem_cons_of_mem _ kw_1499)), (hts _ (List.mem_cons_of_mem _ kp_58))⟩ h.1 (ci := 12) rfl (by decide) rfl hl.1 rfl (lv_room (Nat.le_of_ble_eq_true rfl)) dX12_clauseHere_77 ⟨Nat.zero_le _, Nat.zero_le _⟩ (fun z18 M16 H locs h hP hS => ?_)
    exact r_zret hx hb hr hlocks hP hS dX12_clauseHere_80 h
set_option maxHeartbeats 4000000 in
set_option maxRecDepth 100000 in
theorem t_X12_clauseHere_56 {p : Program} {l : Launch} {e : Env} {s : State} {m : MethodId} {args : Array Value} {below : List Frame} {meth : Method} {c : Code} {D : va_G} {G : Gt} {S : Sh} {post : Int → Mm → Prop} (C : Cx p s m args meth c D G cX12_clauseHere 3 (some .boolean) (cw_X12_clauseHere :: gw) RX12) : ∀ (xl0 : Int) (zl1 : Int32) (zl2 : Int32) (M : Mm) (H : Heap) (locs : List Loc) (ls : Array Slot), Wd D G S M H → va_S (aG G) s.heap H locs → lv_has ls 3 [(0, .ref (adr G xl0)), (1, .int zl1), (2, .int zl2)] → wp_X12_clauseHere_56 S post xl0 zl1.toInt zl2.toInt  M → W p l e RM_X12_clauseHere s m args below meth c H locs 0 0 (MQ below (QI D G S post) args s 0 0 (aG G)) (F0 m 56 ls []) := by
  obtain ⟨hx, hb, hr, hlocks, hml, hown, hts, hK⟩ := id C
  intro xl0 zl1 zl2 M H locs ls hP hS hl h
  unfold wp_X12_clauseHere_56 at h
  refine lv_aload_n hx hb dX12_clauseHere_56 rfl (lv_at hl 0 rfl) ?_
  refine r_geti (C := RX12) (T := TX12) (N := 38) hx hb hts (fun w h => List.mem_cons_of_mem _ (iX12 w h)) hown hK hP rfl (by decide) rfl 14 (by decide) (hts _ (List.mem_cons_of_mem _ kw_1348)) (fun _ h9 => h9) dX12_clauseHere_57 (by decide) h (fun z20 h => ?_)
  refine lv_iload_n hx hb dX12_clauseHere_60 rfl (lv_at hl 2 rfl) ?_
  refine r_if_eq (tgt := 69) hx hb dX12_clauseHere_61 (by decide) h (fun h => ?_) (fun h => ?_)
  · refine r_bipush hx hb dX12_clauseHere_69 (by decide) h (fun z22 h => ?_)
    exact t_X12_clauseHere_71 C xl0 zl1 zl2 z20 z22 _ _ _ _ hP hS (lv_sub hl [0, 1, 2] rfl) h
  · refine r_bipush hx hb dX12_clauseHere_64 (by decide) h (fun z24 h => ?_)
    refine lv_goto (tgt := 71) hx hb dX12_clauseHere_66 (by decide) ?_
    exact t_X12_clauseHere_71 C xl0 zl1 zl2 z20 z24 _ _ _ _ hP hS (lv_sub hl [0, 1, 2] rfl) h
set_option maxHeartbeats 4000000 in
set_option maxRecDepth 100000 in
theorem t_X12_clauseHere_49 {p : Program} {l : Launch} {e : Env} {s : State} {m : MethodId} {args : Array Value} {below : List Frame} {meth : Method} {c : Code} {D : va_G} {G : Gt} {S : Sh} {post : Int → Mm → Prop} (C : Cx p s m args meth c D G cX12_clauseHere 3 (some .boolean) (cw_X12_clauseHere :: gw) RX12) : ∀ (xl0 : Int) (zl1 : Int32) (M : Mm) (H : Heap) (locs : List Loc) (ls : Array Slot), Wd D G S M H → va_S (aG G) s.heap H locs → lv_has ls 3 [(0, .ref (adr G xl0)), (1, .int zl1)] → wp_X12_clauseHere_49 S post xl0 zl1.toInt  M → W p l e RM_X12_clauseHere s m args below meth c H locs 0 0 (MQ below (QI D G S post) args s 0 0 (aG G)) (F0 m 49 ls []) := by
  obtain ⟨hx, hb, hr, hlocks, hml, hown, hts, hK⟩ := id C
  intro xl0 zl1 M H locs ls hP hS hl h
  unfold wp_X12_clauseHere_49 at h
  refine lv_aload_n hx hb dX12_clauseHere_49 rfl (lv_at hl 0 rfl) ?_
  refine r_iconst hx hb dX12_clauseHere_50 (by decide) h (fun z26 h => ?_)
  refine lv_iload_n hx hb dX12_clauseHere_51 rfl (lv_at hl 1 rfl) ?_
  refine q_Vi hx hb hml hown hts hK hP hS (c_X12_fails l D G S _ xl0 z26 zl1 _ h.2) ⟨callB_of 2 hts (gw_good kw_1500) rfl rfl rfl (hts _ (List.mem_cons_of_mem _ kw_14)) (hts _ (List.mem_cons_of_mem _ kw_1497)) hd_X12_fails ⟨Nat.le_of_ble_eq_true rfl, Nat.le_of_ble_eq_true rfl⟩, (hts _ (List.mem_cons_of_mem _ kw_1499)), (hts _ (List.mem_cons_of_mem _ kp_58))⟩ h.1 (ci := 12) rfl (by decide) rfl hl.1 rfl (lv_room (Nat.le_of_ble_eq_true rfl)) dX12_clauseHere_52 ⟨Nat.zero_le _, Nat.zero_le _⟩ (fun z29 M27 H locs h hP hS => ?_)
  exact r_zret hx hb hr hlocks hP hS dX12_clauseHere_55 h
set_option maxHeartbeats 4000000 in
set_option maxRecDepth 100000 in
theorem t_X12_clauseHere_24 {p : Program} {l : Launch} {e : Env} {s : State} {m : MethodId} {args : Array Value} {below : List Frame} {meth : Method} {c : Code} {D : va_G} {G : Gt} {S : Sh} {post : Int → Mm → Prop} (C : Cx p s m args meth c D G cX12_clauseHere 3 (some .boolean) (cw_X12_clauseHere :: gw) RX12) : ∀ (xl0 : Int) (zl1 : Int32) (zs0 : Int32) (M : Mm) (H : Heap) (locs : List Loc) (ls : Array Slot), Wd D G S M H → va_S (aG G) s.heap H locs → lv_has ls 3 [(0, .ref (adr G xl0)), (1, .int zl1)] → wp_X12_clauseHere_24 S post xl0 zl1.toInt zs0.toInt M → W p l e RM_X12_clauseHere s m args below meth c H locs 0 0 (MQ below (QI D G S post) args s 0 0 (aG G)) (F0 m 24 ls [.int zs0]) := by
  obtain ⟨hx, hb, hr, hlocks, hml, hown, hts, hK⟩ := id C
  intro xl0 zl1 zs0 M H locs ls hP hS hl h
  unfold wp_X12_clauseHere_24 at h
  refine lv_istore_n (lv' := [(2, .int zs0), (0, .ref (adr G xl0)), (1, .int zl1)]) hx hb dX12_clauseHere_24 rfl hl (by decide) rfl (fun ls hl => ?_)
  refine lv_iload_n hx hb dX12_clauseHere_25 rfl (lv_at hl 0 rfl) ?_
  refine r_if_eq (tgt := 39) hx hb dX12_clauseHere_26 (by decide) h (fun h => ?_) (fun h => ?_)
  · refine lv_aload_n hx hb dX12_clauseHere_39 rfl (lv_at hl 1 rfl) ?_
    refine r_ldc2 hx hb hown (hts _ (List.mem_cons_of_mem _ kw_1496)) dX12_clauseHere_40 (n := 1953854062) (by decide) h (fun z31 h => ?_)
    refine q_Vi hx hb hml hown hts hK hP hS (c_X12_isWord l D G S _ xl0 z31 _ h.2) ⟨callB_of 1 hts (gw_good kw_1486) rfl rfl rfl (hts _ (List.mem_cons_of_mem _ kw_14)) (hts _ (List.mem_cons_of_mem _ kw_1483)) hd_X12_isWord ⟨Nat.le_of_ble_eq_true rfl, Nat.le_of_ble_eq_true rfl⟩, (hts _ (List.mem_cons_of_mem _ kw_1485)), (hts _ (List.mem_cons_of_mem _ kp_56))⟩ h.1 (ci := 12) rfl (by decide) rfl hl.1 rfl (lv_room (Nat.le_of_ble_eq_true rfl)) dX12_clauseHere_43 ⟨Nat.zero_le _, Nat.zero_le _⟩ (fun z34 M32 H locs h hP hS => ?_)
    refine r_if_ne (tgt := 56) hx hb dX12_clauseHere_46 (by decide) h (fun h => ?_) (fun h => ?_)
    · exact t_X12_clauseHere_56 C xl0 zl1 zs0 _ _ _ _ hP hS (lv_sub hl [1, 2, 0] rfl) h
    · exact t_X12_clauseHere_49 C xl0 zl1 _ _ _ _ hP hS (lv_sub hl [1, 2] rfl) h
  · refine lv_aload_n hx hb dX12_clauseHere_29 rfl (lv_at hl 1 rfl) ?_
    refine q_Vi hx hb hml hown hts hK hP hS (c_X12_isDairyWord l D G S _ xl0 _ h.2) ⟨callB_of 0 hts (gw_good kw_1481) rfl rfl rfl (hts _ (List.mem_cons_of_mem _ kw_14)) (hts _ (List.mem_cons_of_mem _ kw_1478)) hd_X12_isDairyWord ⟨Nat.le_of_ble_eq_true rfl, Nat.le_of_ble_eq_true rfl⟩, (hts _ (List.mem_cons_of_mem _ kw_1480)), (hts _ (List.mem_cons_of_mem _ kp_55))⟩ h.1 (ci := 12) rfl (by decide) rfl hl.1 rfl (lv_room (Nat.le_of_ble_eq_true rfl)) dX12_clauseHere_30 ⟨Nat.zero_le _, Nat.zero_le _⟩ (fun z37 M35 H locs h hP hS => ?_)
    refine r_if_ne (tgt := 56) hx hb dX12_clauseHere_33 (by decide) h (fun h => ?_) (fun h => ?_)
    · exact t_X12_clauseHere_56 C xl0 zl1 zs0 _ _ _ _ hP hS (lv_sub hl [1, 2, 0] rfl) h
    · refine lv_goto (tgt := 49) hx hb dX12_clauseHere_36 (by decide) ?_
      exact t_X12_clauseHere_49 C xl0 zl1 _ _ _ _ hP hS (lv_sub hl [1, 2] rfl) h
set_option maxHeartbeats 4000000 in
set_option maxRecDepth 100000 in
theorem c_X12_clauseHere (l : Launch) (D : va_G) (G : Gt) (S : Sh) (M : Mm) (xl0 : Int) (post : Int → Mm → Prop) (h : wp_X12_clauseHere S M xl0 post) : Met l yX12_clauseHere (cw_X12_clauseHere :: gw) RM_X12_clauseHere (va_Pc [.ref (adr G xl0)] (fun U => KN D G U ∧ Wd D G S M U.heap)) (QI D G S post) 0 0 (aG G) := by
  refine Met.ofW (cc := cX12_clauseHere) (maxL := 3) (ret := (some .boolean)) (by decide) rfl ?_
  intro p e s m args below meth c s₁ B hml hv
  obtain ⟨rfl, hK, hP⟩ := hv
  have hx := B.exec
  have hb := B.bytes
  have hr := B.returns
  have hts := atoms_spec (ws := cw_X12_clauseHere :: gw) B.pre
  have hown : s.vm.findClass RX12 = some m.cls := findClass_of_methodNamed B.named
  have hlocks := B.notSynchronized
  have hS : va_S (aG G) s.heap s.heap [] := va_S.rf
  have C : Cx p s m ([.ref (adr G xl0)] : List Value).toArray meth c D G cX12_clauseHere 3 (some .boolean) (cw_X12_clauseHere :: gw) RX12 := ⟨hx, hb, hr, hlocks, hml, hown, hts, hK⟩
  have hl := lv_entry ([.ref (adr G xl0)]) (n := 3) (Nat.le_of_ble_eq_true rfl)
  rw [lg_entry_eq]
  generalize (lg_sl ([.ref (adr G xl0)]) ++ List.replicate (3 - (lg_sl ([.ref (adr G xl0)])).length) Slot.unset).toArray = ls at hl ⊢
  have hl : lv_has ls 3 [(0, .ref (adr G xl0))] := hl
  unfold wp_X12_clauseHere at h
  refine lv_aload_n hx hb dX12_clauseHere_0 rfl (lv_at hl 0 rfl) ?_
  refine q_Vi hx hb hml hown hts hK hP hS (c_X12_see l D G S _ xl0 _ h.2) ⟨callB_of 0 hts (gw_good kw_1477) rfl rfl rfl (hts _ (List.mem_cons_of_mem _ kw_14)) (hts _ (List.mem_cons_of_mem _ kw_1474)) hd_X12_see ⟨Nat.le_of_ble_eq_true rfl, Nat.le_of_ble_eq_true rfl⟩, (hts _ (List.mem_cons_of_mem _ kw_1476)), (hts _ (List.mem_cons_of_mem _ kp_54))⟩ h.1 (ci := 12) rfl (by decide) rfl hl.1 rfl (lv_room (Nat.le_of_ble_eq_true rfl)) dX12_clauseHere_1 ⟨Nat.zero_le _, Nat.zero_le _⟩ (fun z40 M38 H locs h hP hS => ?_)
  refine lv_pop hx hb dX12_clauseHere_4 rfl ?_
  refine lv_aload_n hx hb dX12_clauseHere_5 rfl (lv_at hl 0 rfl) ?_
  refine r_geti (C := RX12) (T := TX12) (N := 38) hx hb hts (fun w h => List.mem_cons_of_mem _ (iX12 w h)) hown hK hP rfl (by decide) rfl 8 (by decide) (hts _ (List.mem_cons_of_mem _ kw_1342)) (fun _ h9 => h9) dX12_clauseHere_6 (by decide) h (fun z42 h => ?_)
  refine lv_istore_n (lv' := [(1, .int z42), (0, .ref (adr G xl0))]) hx hb dX12_clauseHere_9 rfl hl (by decide) rfl (fun ls hl => ?_)
  refine lv_aload_n hx hb dX12_clauseHere_10 rfl (lv_at hl 1 rfl) ?_
  refine r_geti (C := RX12) (T := TX12) (N := 38) hx hb hts (fun w h => List.mem_cons_of_mem _ (iX12 w h)) hown hK hP rfl (by decide) rfl 11 (by decide) (hts _ (List.mem_cons_of_mem _ kw_1345)) (fun _ h9 => h9) dX12_clauseHere_11 (by decide) h (fun z44 h => ?_)
  refine r_bipush hx hb dX12_clauseHere_14 (by decide) h (fun z46 h => ?_)
  refine r_icmp_ne (tgt := 23) hx hb dX12_clauseHere_16 (by decide) h (fun h => ?_) (fun h => ?_)
  · refine r_iconst hx hb dX12_clauseHere_23 (by decide) h (fun z48 h => ?_)
    exact t_X12_clauseHere_24 C xl0 z42 z48 _ _ _ _ hP hS (lv_sub hl [1, 0] rfl) h
  · refine r_iconst hx hb dX12_clauseHere_19 (by decide) h (fun z50 h => ?_)
    refine lv_goto (tgt := 24) hx hb dX12_clauseHere_20 (by decide) ?_
    exact t_X12_clauseHere_24 C xl0 z42 z50 _ _ _ _ hP hS (lv_sub hl [1, 0] rfl) h
/-! TurningMilkModel.readsAll()Z -/
abbrev RM_X12_readsAll : Room := { frames := 12, cells := 0, slots := 0, locals := 281 }
def cw_X12_readsAll : Cond := Cond.code yX12_readsAll cX12_readsAll 2 (Option.some FieldType.boolean)
theorem hd_X12_readsAll : yX12_readsAll.cls ≠ "java/lang/invoke/MethodHandle" ∧ yX12_readsAll.cls ≠ "java/lang/invoke/VarHandle" ∧ (parseMethodDescriptor yX12_readsAll.desc).map (fun d => d.parameters.length) = some 0 := by decide +kernel
theorem dX12_readsAll_0 : decode cX12_readsAll 0 = .ok (.aload_n 0, 1) := by decide +kernel
theorem dX12_readsAll_1 : decode cX12_readsAll 1 = .ok (.getfield 17, 3) := by decide +kernel
theorem dX12_readsAll_4 : decode cX12_readsAll 4 = .ok (.aload_n 0, 1) := by decide +kernel
theorem dX12_readsAll_5 : decode cX12_readsAll 5 = .ok (.getfield 142, 3) := by decide +kernel
theorem dX12_readsAll_8 : decode cX12_readsAll 8 = .ok (.iconst 0, 1) := by decide +kernel
theorem dX12_readsAll_9 : decode cX12_readsAll 9 = .ok (.iastore, 1) := by decide +kernel
theorem dX12_readsAll_10 : decode cX12_readsAll 10 = .ok (.aload_n 0, 1) := by decide +kernel
theorem dX12_readsAll_11 : decode cX12_readsAll 11 = .ok (.iconst 0, 1) := by decide +kernel
theorem dX12_readsAll_12 : decode cX12_readsAll 12 = .ok (.putfield 248, 3) := by decide +kernel
theorem dX12_readsAll_15 : decode cX12_readsAll 15 = .ok (.aload_n 0, 1) := by decide +kernel
theorem dX12_readsAll_16 : decode cX12_readsAll 16 = .ok (.iconst 0, 1) := by decide +kernel
theorem dX12_readsAll_17 : decode cX12_readsAll 17 = .ok (.putfield 90, 3) := by decide +kernel
theorem dX12_readsAll_20 : decode cX12_readsAll 20 = .ok (.aload_n 0, 1) := by decide +kernel
theorem dX12_readsAll_21 : decode cX12_readsAll 21 = .ok (.iconst 0, 1) := by decide +kernel
theorem dX12_readsAll_22 : decode cX12_readsAll 22 = .ok (.putfield 87, 3) := by decide +kernel
theorem dX12_readsAll_25 : decode cX12_readsAll 25 = .ok (.aload_n 0, 1) := by decide +kernel
theorem dX12_readsAll_26 : decode cX12_readsAll 26 = .ok (.iconst 0, 1) := by decide +kernel
theorem dX12_readsAll_27 : decode cX12_readsAll 27 = .ok (.putfield 145, 3) := by decide +kernel
theorem dX12_readsAll_30 : decode cX12_readsAll 30 = .ok (.aload_n 0, 1) := by decide +kernel
theorem dX12_readsAll_31 : decode cX12_readsAll 31 = .ok (.invokevirtual 257, 3) := by decide +kernel
theorem dX12_readsAll_34 : decode cX12_readsAll 34 = .ok (.istore_n 1, 1) := by decide +kernel
theorem dX12_readsAll_35 : decode cX12_readsAll 35 = .ok (.iload_n 1, 1) := by decide +kernel
theorem dX12_readsAll_36 : decode cX12_readsAll 36 = .ok (.ifCond .eq 30, 3) := by decide +kernel
theorem dX12_readsAll_39 : decode cX12_readsAll 39 = .ok (.aload_n 0, 1) := by decide +kernel
theorem dX12_readsAll_40 : decode cX12_readsAll 40 = .ok (.invokevirtual 93, 3) := by decide +kernel
theorem dX12_readsAll_43 : decode cX12_readsAll 43 = .ok (.bipush 59, 2) := by decide +kernel
theorem dX12_readsAll_45 : decode cX12_readsAll 45 = .ok (.if_icmp .ne 21, 3) := by decide +kernel
theorem dX12_readsAll_48 : decode cX12_readsAll 48 = .ok (.aload_n 0, 1) := by decide +kernel
theorem dX12_readsAll_49 : decode cX12_readsAll 49 = .ok (.dup, 1) := by decide +kernel
theorem dX12_readsAll_50 : decode cX12_readsAll 50 = .ok (.getfield 90, 3) := by decide +kernel
theorem dX12_readsAll_53 : decode cX12_readsAll 53 = .ok (.iconst 1, 1) := by decide +kernel
theorem dX12_readsAll_54 : decode cX12_readsAll 54 = .ok (.iadd, 1) := by decide +kernel
theorem dX12_readsAll_55 : decode cX12_readsAll 55 = .ok (.putfield 90, 3) := by decide +kernel
theorem dX12_readsAll_58 : decode cX12_readsAll 58 = .ok (.aload_n 0, 1) := by decide +kernel
theorem dX12_readsAll_59 : decode cX12_readsAll 59 = .ok (.invokevirtual 257, 3) := by decide +kernel
theorem dX12_readsAll_62 : decode cX12_readsAll 62 = .ok (.istore_n 1, 1) := by decide +kernel
theorem dX12_readsAll_63 : decode cX12_readsAll 63 = .ok (.goto (-28), 3) := by decide +kernel
theorem dX12_readsAll_66 : decode cX12_readsAll 66 = .ok (.iload_n 1, 1) := by decide +kernel
theorem dX12_readsAll_67 : decode cX12_readsAll 67 = .ok (.ifCond .eq 21, 3) := by decide +kernel
theorem dX12_readsAll_70 : decode cX12_readsAll 70 = .ok (.aload_n 0, 1) := by decide +kernel
theorem dX12_readsAll_71 : decode cX12_readsAll 71 = .ok (.invokevirtual 93, 3) := by decide +kernel
theorem dX12_readsAll_74 : decode cX12_readsAll 74 = .ok (.iconst (-1), 1) := by decide +kernel
theorem dX12_readsAll_75 : decode cX12_readsAll 75 = .ok (.if_icmp .eq 13, 3) := by decide +kernel
theorem dX12_readsAll_78 : decode cX12_readsAll 78 = .ok (.aload_n 0, 1) := by decide +kernel
theorem dX12_readsAll_79 : decode cX12_readsAll 79 = .ok (.iconst 0, 1) := by decide +kernel
theorem dX12_readsAll_80 : decode cX12_readsAll 80 = .ok (.aload_n 0, 1) := by decide +kernel
theorem dX12_readsAll_81 : decode cX12_readsAll 81 = .ok (.getfield 90, 3) := by decide +kernel
theorem dX12_readsAll_84 : decode cX12_readsAll 84 = .ok (.invokevirtual 111, 3) := by decide +kernel
theorem dX12_readsAll_87 : decode cX12_readsAll 87 = .ok (.pop, 1) := by decide +kernel
theorem dX12_readsAll_88 : decode cX12_readsAll 88 = .ok (.aload_n 0, 1) := by decide +kernel
theorem dX12_readsAll_89 : decode cX12_readsAll 89 = .ok (.iconst 0, 1) := by decide +kernel
theorem dX12_readsAll_90 : decode cX12_readsAll 90 = .ok (.putfield 80, 3) := by decide +kernel
theorem dX12_readsAll_93 : decode cX12_readsAll 93 = .ok (.aload_n 0, 1) := by decide +kernel
theorem dX12_readsAll_94 : decode cX12_readsAll 94 = .ok (.getfield 87, 3) := by decide +kernel
theorem dX12_readsAll_97 : decode cX12_readsAll 97 = .ok (.ifCond .ne 7, 3) := by decide +kernel
theorem dX12_readsAll_100 : decode cX12_readsAll 100 = .ok (.iconst 1, 1) := by decide +kernel
theorem dX12_readsAll_101 : decode cX12_readsAll 101 = .ok (.goto 4, 3) := by decide +kernel
theorem dX12_readsAll_104 : decode cX12_readsAll 104 = .ok (.iconst 0, 1) := by decide +kernel
theorem dX12_readsAll_105 : decode cX12_readsAll 105 = .ok (.ireturn, 1) := by decide +kernel
def wp_X12_readsAll_88 (S : Sh) (post : Int → Mm → Prop) (u0 : Int) (M : Mm) : Prop := wC 0 fun v1 => wPut S M u0 12 1 v1 fun M3 => wGet S M3 u0 12 9 fun v4 => wIf (¬ v4 = 0) (wC 0 fun v6 => (v6 = 0 ∨ v6 = 1) ∧ post v6 M3) (wC 1 fun v8 => (v8 = 0 ∨ v8 = 1) ∧ post v8 M3)
def wp_X12_readsAll_66 (S : Sh) (post : Int → Mm → Prop) (u0 : Int) (u1 : Int) (M : Mm) : Prop := wIf (u1 = 0) (wp_X12_readsAll_88 S post u0 M) (isK S u0 12 ∧ (wp_X12_see S M u0 <| fun v11 M10 => wC (-1) fun v13 => wIf (v11 = v13) (wp_X12_readsAll_88 S post u0 M10) (wC 0 fun v15 => wGet S M10 u0 12 8 fun v17 => isK S u0 12 ∧ (wp_X12_fails S M10 u0 v15 v17 <| fun v20 M19 => wp_X12_readsAll_88 S post u0 M19))))
def wp_X12_readsAll_35 (S : Sh) (post : Int → Mm → Prop) : Nat → Int → Int → Mm → Prop
  | 0, _, _, _ => False
  | n + 1, u0, u1, M => wIf (u1 = 0) (wp_X12_readsAll_66 S post u0 u1 M) (isK S u0 12 ∧ (wp_X12_see S M u0 <| fun v23 M22 => wC 59 fun v25 => wIf (¬ v23 = v25) (wp_X12_readsAll_66 S post u0 u1 M22) (wGet S M22 u0 12 8 fun v27 => wC 1 fun v29 => wA v27 v29 fun v31 => wPut S M22 u0 12 8 v31 fun M33 => isK S u0 12 ∧ (wp_X12_clauseHere S M33 u0 <| fun v35 M34 => wp_X12_readsAll_35 S post n u0 v35 M34))))
def wp_X12_readsAll (S : Sh) (M : Mm) (u0 : Int) (post : Int → Mm → Prop) : Prop := wGetR S M u0 12 4 fun v37 => wGet S M u0 12 11 fun v39 => wC 0 fun v41 => wSt S M v37 14 v39 v41 fun M43 => wC 0 fun v44 => wPut S M43 u0 12 14 v44 fun M46 => wC 0 fun v47 => wPut S M46 u0 12 8 v47 fun M49 => wC 0 fun v50 => wPut S M49 u0 12 9 v50 fun M52 => wC 0 fun v53 => wPut S M52 u0 12 12 v53 fun M55 => isK S u0 12 ∧ (wp_X12_clauseHere S M55 u0 <| fun v57 M56 => ∃ n9 : Nat, wp_X12_readsAll_35 S post n9 u0 v57 M56)
set_option maxHeartbeats 4000000 in
set_option maxRecDepth 100000 in
theorem t_X12_readsAll_88 {p : Program} {l : Launch} {e : Env} {s : State} {m : MethodId} {args : Array Value} {below : List Frame} {meth : Method} {c : Code} {D : va_G} {G : Gt} {S : Sh} {post : Int → Mm → Prop} (C : Cx p s m args meth c D G cX12_readsAll 2 (some .boolean) (cw_X12_readsAll :: gw) RX12) : ∀ (xl0 : Int) (M : Mm) (H : Heap) (locs : List Loc) (ls : Array Slot), Wd D G S M H → va_S (aG G) s.heap H locs → lv_has ls 2 [(0, .ref (adr G xl0))] → wp_X12_readsAll_88 S post xl0  M → W p l e RM_X12_readsAll s m args below meth c H locs 0 0 (MQ below (QI D G S post) args s 0 0 (aG G)) (F0 m 88 ls []) := by
  obtain ⟨hx, hb, hr, hlocks, hml, hown, hts, hK⟩ := id C
  intro xl0 M H locs ls hP hS hl h
  unfold wp_X12_readsAll_88 at h
  refine lv_aload_n hx hb dX12_readsAll_88 rfl (lv_at hl 0 rfl) ?_
  refine r_iconst hx hb dX12_readsAll_89 (by decide) h (fun z2 h => ?_)
  refine r_puti (C := RX12) (T := TX12) (N := 38) hx hb hts (fun w h => List.mem_cons_of_mem _ (iX12 w h)) hown hK hP tyX12 tyX12_ok nmX12 hS rfl (by decide) rfl 1 (by decide) (hts _ (List.mem_cons_of_mem _ kw_1335)) (fun _ h9 => h9) rfl (tyX12_ok 1 (by decide)) rfl rfl dX12_readsAll_90 (by decide) h (fun M3 H locs h hP hS => ?_)
  refine lv_aload_n hx hb dX12_readsAll_93 rfl (lv_at hl 0 rfl) ?_
  refine r_geti (C := RX12) (T := TX12) (N := 38) hx hb hts (fun w h => List.mem_cons_of_mem _ (iX12 w h)) hown hK hP rfl (by decide) rfl 9 (by decide) (hts _ (List.mem_cons_of_mem _ kw_1343)) (fun _ h9 => h9) dX12_readsAll_94 (by decide) h (fun z5 h => ?_)
  refine r_if_ne (tgt := 104) hx hb dX12_readsAll_97 (by decide) h (fun h => ?_) (fun h => ?_)
  · refine r_iconst hx hb dX12_readsAll_104 (by decide) h (fun z7 h => ?_)
    exact r_zret hx hb hr hlocks hP hS dX12_readsAll_105 h
  · refine r_iconst hx hb dX12_readsAll_100 (by decide) h (fun z9 h => ?_)
    refine lv_goto (tgt := 105) hx hb dX12_readsAll_101 (by decide) ?_
    exact r_zret hx hb hr hlocks hP hS dX12_readsAll_105 h
set_option maxHeartbeats 4000000 in
set_option maxRecDepth 100000 in
theorem t_X12_readsAll_66 {p : Program} {l : Launch} {e : Env} {s : State} {m : MethodId} {args : Array Value} {below : List Frame} {meth : Method} {c : Code} {D : va_G} {G : Gt} {S : Sh} {post : Int → Mm → Prop} (C : Cx p s m args meth c D G cX12_readsAll 2 (some .boolean) (cw_X12_readsAll :: gw) RX12) : ∀ (xl0 : Int) (zl1 : Int32) (M : Mm) (H : Heap) (locs : List Loc) (ls : Array Slot), Wd D G S M H → va_S (aG G) s.heap H locs → lv_has ls 2 [(0, .ref (adr G xl0)), (1, .int zl1)] → wp_X12_readsAll_66 S post xl0 zl1.toInt  M → W p l e RM_X12_readsAll s m args below meth c H locs 0 0 (MQ below (QI D G S post) args s 0 0 (aG G)) (F0 m 66 ls []) := by
  obtain ⟨hx, hb, hr, hlocks, hml, hown, hts, hK⟩ := id C
  intro xl0 zl1 M H locs ls hP hS hl h
  unfold wp_X12_readsAll_66 at h
  refine lv_iload_n hx hb dX12_readsAll_66 rfl (lv_at hl 1 rfl) ?_
  refine r_if_eq (tgt := 88) hx hb dX12_readsAll_67 (by decide) h (fun h => ?_) (fun h => ?_)
  · exact t_X12_readsAll_88 C xl0 _ _ _ _ hP hS (lv_sub hl [0] rfl) h
  · refine lv_aload_n hx hb dX12_readsAll_70 rfl (lv_at hl 0 rfl) ?_
    refine q_Vi hx hb hml hown hts hK hP hS (c_X12_see l D G S _ xl0 _ h.2) ⟨callB_of 0 hts (gw_good kw_1477) rfl rfl rfl (hts _ (List.mem_cons_of_mem _ kw_14)) (hts _ (List.mem_cons_of_mem _ kw_1474)) hd_X12_see ⟨Nat.le_of_ble_eq_true rfl, Nat.le_of_ble_eq_true rfl⟩, (hts _ (List.mem_cons_of_mem _ kw_1476)), (hts _ (List.mem_cons_of_mem _ kp_54))⟩ h.1 (ci := 12) rfl (by decide) rfl hl.1 rfl (lv_room (Nat.le_of_ble_eq_true rfl)) dX12_readsAll_71 ⟨Nat.zero_le _, Nat.zero_le _⟩ (fun z12 M10 H locs h hP hS => ?_)
    refine r_iconst hx hb dX12_readsAll_74 (by decide) h (fun z14 h => ?_)
    refine r_icmp_eq (tgt := 88) hx hb dX12_readsAll_75 (by decide) h (fun h => ?_) (fun h => ?_)
    · exact t_X12_readsAll_88 C xl0 _ _ _ _ hP hS (lv_sub hl [0] rfl) h
    · refine lv_aload_n hx hb dX12_readsAll_78 rfl (lv_at hl 0 rfl) ?_
      refine r_iconst hx hb dX12_readsAll_79 (by decide) h (fun z16 h => ?_)
      refine lv_aload_n hx hb dX12_readsAll_80 rfl (lv_at hl 0 rfl) ?_
      refine r_geti (C := RX12) (T := TX12) (N := 38) hx hb hts (fun w h => List.mem_cons_of_mem _ (iX12 w h)) hown hK hP rfl (by decide) rfl 8 (by decide) (hts _ (List.mem_cons_of_mem _ kw_1342)) (fun _ h9 => h9) dX12_readsAll_81 (by decide) h (fun z18 h => ?_)
      refine q_Vi hx hb hml hown hts hK hP hS (c_X12_fails l D G S _ xl0 z16 z18 _ h.2) ⟨callB_of 2 hts (gw_good kw_1500) rfl rfl rfl (hts _ (List.mem_cons_of_mem _ kw_14)) (hts _ (List.mem_cons_of_mem _ kw_1497)) hd_X12_fails ⟨Nat.le_of_ble_eq_true rfl, Nat.le_of_ble_eq_true rfl⟩, (hts _ (List.mem_cons_of_mem _ kw_1499)), (hts _ (List.mem_cons_of_mem _ kp_58))⟩ h.1 (ci := 12) rfl (by decide) rfl hl.1 rfl (lv_room (Nat.le_of_ble_eq_true rfl)) dX12_readsAll_84 ⟨Nat.zero_le _, Nat.zero_le _⟩ (fun z21 M19 H locs h hP hS => ?_)
      refine lv_pop hx hb dX12_readsAll_87 rfl ?_
      exact t_X12_readsAll_88 C xl0 _ _ _ _ hP hS (lv_sub hl [0] rfl) h
set_option maxHeartbeats 4000000 in
set_option maxRecDepth 100000 in
theorem t_X12_readsAll_35 {p : Program} {l : Launch} {e : Env} {s : State} {m : MethodId} {args : Array Value} {below : List Frame} {meth : Method} {c : Code} {D : va_G} {G : Gt} {S : Sh} {post : Int → Mm → Prop} (C : Cx p s m args meth c D G cX12_readsAll 2 (some .boolean) (cw_X12_readsAll :: gw) RX12) : ∀ (n : Nat) (xl0 : Int) (zl1 : Int32) (M : Mm) (H : Heap) (locs : List Loc) (ls : Array Slot), Wd D G S M H → va_S (aG G) s.heap H locs → lv_has ls 2 [(0, .ref (adr G xl0)), (1, .int zl1)] → wp_X12_readsAll_35 S post n xl0 zl1.toInt  M → W p l e RM_X12_readsAll s m args below meth c H locs 0 0 (MQ below (QI D G S post) args s 0 0 (aG G)) (F0 m 35 ls []) := by
  obtain ⟨hx, hb, hr, hlocks, hml, hown, hts, hK⟩ := id C
  intro n
  induction n with
  | zero => intro xl0 zl1 M H locs ls hP hS hl h; exact h.elim
  | succ n ih =>
    intro xl0 zl1 M H locs ls hP hS hl h
    unfold wp_X12_readsAll_35 at h
    refine lv_iload_n hx hb dX12_readsAll_35 rfl (lv_at hl 1 rfl) ?_
    refine r_if_eq (tgt := 66) hx hb dX12_readsAll_36 (by decide) h (fun h => ?_) (fun h => ?_)
    · exact t_X12_readsAll_66 C xl0 zl1 _ _ _ _ hP hS (lv_sub hl [0, 1] rfl) h
    · refine lv_aload_n hx hb dX12_readsAll_39 rfl (lv_at hl 0 rfl) ?_
      refine q_Vi hx hb hml hown hts hK hP hS (c_X12_see l D G S _ xl0 _ h.2) ⟨callB_of 0 hts (gw_good kw_1477) rfl rfl rfl (hts _ (List.mem_cons_of_mem _ kw_14)) (hts _ (List.mem_cons_of_mem _ kw_1474)) hd_X12_see ⟨Nat.le_of_ble_eq_true rfl, Nat.le_of_ble_eq_true rfl⟩, (hts _ (List.mem_cons_of_mem _ kw_1476)), (hts _ (List.mem_cons_of_mem _ kp_54))⟩ h.1 (ci := 12) rfl (by decide) rfl hl.1 rfl (lv_room (Nat.le_of_ble_eq_true rfl)) dX12_readsAll_40 ⟨Nat.zero_le _, Nat.zero_le _⟩ (fun z24 M22 H locs h hP hS => ?_)
      refine r_bipush hx hb dX12_readsAll_43 (by decide) h (fun z26 h => ?_)
      refine r_icmp_ne (tgt := 66) hx hb dX12_readsAll_45 (by decide) h (fun h => ?_) (fun h => ?_)
      · exact t_X12_readsAll_66 C xl0 zl1 _ _ _ _ hP hS (lv_sub hl [0, 1] rfl) h
      · refine lv_aload_n hx hb dX12_readsAll_48 rfl (lv_at hl 0 rfl) ?_
        refine lv_dup hx hb dX12_readsAll_49 rfl ?_
        refine r_geti (C := RX12) (T := TX12) (N := 38) hx hb hts (fun w h => List.mem_cons_of_mem _ (iX12 w h)) hown hK hP rfl (by decide) rfl 8 (by decide) (hts _ (List.mem_cons_of_mem _ kw_1342)) (fun _ h9 => h9) dX12_readsAll_50 (by decide) h (fun z28 h => ?_)
        refine r_iconst hx hb dX12_readsAll_53 (by decide) h (fun z30 h => ?_)
        refine r_iadd hx hb dX12_readsAll_54 h (fun z32 h => ?_)
        refine r_puti (C := RX12) (T := TX12) (N := 38) hx hb hts (fun w h => List.mem_cons_of_mem _ (iX12 w h)) hown hK hP tyX12 tyX12_ok nmX12 hS rfl (by decide) rfl 8 (by decide) (hts _ (List.mem_cons_of_mem _ kw_1342)) (fun _ h9 => h9) rfl (tyX12_ok 8 (by decide)) rfl rfl dX12_readsAll_55 (by decide) h (fun M33 H locs h hP hS => ?_)
        refine lv_aload_n hx hb dX12_readsAll_58 rfl (lv_at hl 0 rfl) ?_
        refine q_Vi hx hb hml hown hts hK hP hS (c_X12_clauseHere l D G S _ xl0 _ h.2) ⟨callB_of 0 hts (gw_good kw_1473) rfl rfl rfl (hts _ (List.mem_cons_of_mem _ kw_14)) (hts _ (List.mem_cons_of_mem _ kw_1470)) hd_X12_clauseHere ⟨Nat.le_of_ble_eq_true rfl, Nat.le_of_ble_eq_true rfl⟩, (hts _ (List.mem_cons_of_mem _ kw_1472)), (hts _ (List.mem_cons_of_mem _ kp_53))⟩ h.1 (ci := 12) rfl (by decide) rfl hl.1 rfl (lv_room (Nat.le_of_ble_eq_true rfl)) dX12_readsAll_59 ⟨Nat.zero_le _, Nat.zero_le _⟩ (fun z36 M34 H locs h hP hS => ?_)
        refine lv_istore_n (lv' := [(1, .int z36), (0, .ref (adr G xl0))]) hx hb dX12_readsAll_62 rfl hl (by decide) rfl (fun ls hl => ?_)
        refine lv_goto (tgt := 35) hx hb dX12_readsAll_63 (by decide) ?_
        exact ih xl0 z36 _ _ _ _ hP hS (lv_sub hl [1, 0] rfl) h
set_option maxHeartbeats 4000000 in
set_option maxRecDepth 100000 in
theorem c_X12_readsAll (l : Launch) (D : va_G) (G : Gt) (S : Sh) (M : Mm) (xl0 : Int) (post : Int → Mm → Prop) (h : wp_X12_readsAll S M xl0 post) : Met l yX12_readsAll (cw_X12_readsAll :: gw) RM_X12_readsAll (va_Pc [.ref (adr G xl0)] (fun U => KN D G U ∧ Wd D G S M U.heap)) (QI D G S post) 0 0 (aG G) := by
  refine Met.ofW (cc := cX12_readsAll) (maxL := 2) (ret := (some .boolean)) (by decide) rfl ?_
  intro p e s m args below meth c s₁ B hml hv
  obtain ⟨rfl, hK, hP⟩ := hv
  have hx := B.exec
  have hb := B.bytes
  have hr := B.returns
  have hts := atoms_spec (ws := cw_X12_readsAll :: gw) B.pre
  have hown : s.vm.findClass RX12 = some m.cls := findClass_of_methodNamed B.named
  have hlocks := B.notSynchronized
  have hS : va_S (aG G) s.heap s.heap [] := va_S.rf
  have C : Cx p s m ([.ref (adr G xl0)] : List Value).toArray meth c D G cX12_readsAll 2 (some .boolean) (cw_X12_readsAll :: gw) RX12 := ⟨hx, hb, hr, hlocks, hml, hown, hts, hK⟩
  have hl := lv_entry ([.ref (adr G xl0)]) (n := 2) (Nat.le_of_ble_eq_true rfl)
  rw [lg_entry_eq]
  generalize (lg_sl ([.ref (adr G xl0)]) ++ List.replicate (2 - (lg_sl ([.ref (adr G xl0)])).length) Slot.unset).toArray = ls at hl ⊢
  have hl : lv_has ls 2 [(0, .ref (adr G xl0))] := hl
  unfold wp_X12_readsAll at h
  refine lv_aload_n hx hb dX12_readsAll_0 rfl (lv_at hl 0 rfl) ?_
  refine r_getr (C := RX12) (T := TX12) (N := 38) hx hb hts (fun w h => List.mem_cons_of_mem _ (iX12 w h)) hown hK hP rfl (by decide) rfl 4 (by decide) (hts _ (List.mem_cons_of_mem _ kw_1338)) (fun _ h9 => h9) dX12_readsAll_1 (by decide) h (fun x38 h => ?_)
  refine lv_aload_n hx hb dX12_readsAll_4 rfl (lv_at hl 0 rfl) ?_
  refine r_geti (C := RX12) (T := TX12) (N := 38) hx hb hts (fun w h => List.mem_cons_of_mem _ (iX12 w h)) hown hK hP rfl (by decide) rfl 11 (by decide) (hts _ (List.mem_cons_of_mem _ kw_1345)) (fun _ h9 => h9) dX12_readsAll_5 (by decide) h (fun z40 h => ?_)
  refine r_iconst hx hb dX12_readsAll_8 (by decide) h (fun z42 h => ?_)
  refine r_iast hx hb hK hP hS dX12_readsAll_9 h (fun M43 H locs h hP hS => ?_)
  refine lv_aload_n hx hb dX12_readsAll_10 rfl (lv_at hl 0 rfl) ?_
  refine r_iconst hx hb dX12_readsAll_11 (by decide) h (fun z45 h => ?_)
  refine r_puti (C := RX12) (T := TX12) (N := 38) hx hb hts (fun w h => List.mem_cons_of_mem _ (iX12 w h)) hown hK hP tyX12 tyX12_ok nmX12 hS rfl (by decide) rfl 14 (by decide) (hts _ (List.mem_cons_of_mem _ kw_1348)) (fun _ h9 => h9) rfl (tyX12_ok 14 (by decide)) rfl rfl dX12_readsAll_12 (by decide) h (fun M46 H locs h hP hS => ?_)
  refine lv_aload_n hx hb dX12_readsAll_15 rfl (lv_at hl 0 rfl) ?_
  refine r_iconst hx hb dX12_readsAll_16 (by decide) h (fun z48 h => ?_)
  refine r_puti (C := RX12) (T := TX12) (N := 38) hx hb hts (fun w h => List.mem_cons_of_mem _ (iX12 w h)) hown hK hP tyX12 tyX12_ok nmX12 hS rfl (by decide) rfl 8 (by decide) (hts _ (List.mem_cons_of_mem _ kw_1342)) (fun _ h9 => h9) rfl (tyX12_ok 8 (by decide)) rfl rfl dX12_readsAll_17 (by decide) h (fun M49 H locs h hP hS => ?_)
  refine lv_aload_n hx hb dX12_readsAll_20 rfl (lv_at hl 0 rfl) ?_
  refine r_iconst hx hb dX12_readsAll_21 (by decide) h (fun z51 h => ?_)
  refine r_puti (C := RX12) (T := TX12) (N := 38) hx hb hts (fun w h => List.mem_cons_of_mem _ (iX12 w h)) hown hK hP tyX12 tyX12_ok nmX12 hS rfl (by decide) rfl 9 (by decide) (hts _ (List.mem_cons_of_mem _ kw_1343)) (fun _ h9 => h9) rfl (tyX12_ok 9 (by decide)) rfl rfl dX12_readsAll_22 (by decide) h (fun M52 H locs h hP hS => ?_)
  refine lv_aload_n hx hb dX12_readsAll_25 rfl (lv_at hl 0 rfl) ?_
  refine r_iconst hx hb dX12_readsAll_26 (by decide) h (fun z54 h => ?_)
  refine r_puti (C := RX12) (T := TX12) (N := 38) hx hb hts (fun w h => List.mem_cons_of_mem _ (iX12 w h)) hown hK hP tyX12 tyX12_ok nmX12 hS rfl (by decide) rfl 12 (by decide) (hts _ (List.mem_cons_of_mem _ kw_1346)) (fun _ h9 => h9) rfl (tyX12_ok 12 (by decide)) rfl rfl dX12_readsAll_27 (by decide) h (fun M55 H locs h hP hS => ?_)
  refine lv_aload_n hx hb dX12_readsAll_30 rfl (lv_at hl 0 rfl) ?_
  refine q_Vi hx hb hml hown hts hK hP hS (c_X12_clauseHere l D G S _ xl0 _ h.2) ⟨callB_of 0 hts (gw_good kw_1473) rfl rfl rfl (hts _ (List.mem_cons_of_mem _ kw_14)) (hts _ (List.mem_cons_of_mem _ kw_1470)) hd_X12_clauseHere ⟨Nat.le_of_ble_eq_true rfl, Nat.le_of_ble_eq_true rfl⟩, (hts _ (List.mem_cons_of_mem _ kw_1472)), (hts _ (List.mem_cons_of_mem _ kp_53))⟩ h.1 (ci := 12) rfl (by decide) rfl hl.1 rfl (lv_room (Nat.le_of_ble_eq_true rfl)) dX12_readsAll_31 ⟨Nat.zero_le _, Nat.zero_le _⟩ (fun z58 M56 H locs h hP hS => ?_)
  refine lv_istore_n (lv' := [(1, .int z58), (0, .ref (adr G xl0))]) hx hb dX12_readsAll_34 rfl hl (by decide) rfl (fun ls hl => ?_)
  obtain ⟨n9, h⟩ := h
  exact t_X12_readsAll_35 C n9 xl0 z58 _ _ _ _ hP hS (lv_sub hl [1, 0] rfl) h
/-! TurningMilkModel.rule()I -/
abbrev RM_X12_rule : Room := { frames := 13, cells := 0, slots := 0, locals := 302 }
def cw_X12_rule : Cond := Cond.code yX12_rule cX12_rule 1 (Option.some FieldType.int)
theorem hd_X12_rule : yX12_rule.cls ≠ "java/lang/invoke/MethodHandle" ∧ yX12_rule.cls ≠ "java/lang/invoke/VarHandle" ∧ (parseMethodDescriptor yX12_rule.desc).map (fun d => d.parameters.length) = some 0 := by decide +kernel
theorem dX12_rule_0 : decode cX12_rule 0 = .ok (.aload_n 0, 1) := by decide +kernel
theorem dX12_rule_1 : decode cX12_rule 1 = .ok (.getfield 260, 3) := by decide +kernel
theorem dX12_rule_4 : decode cX12_rule 4 = .ok (.bipush 6, 2) := by decide +kernel
theorem dX12_rule_6 : decode cX12_rule 6 = .ok (.if_icmp .ne 5, 3) := by decide +kernel
theorem dX12_rule_9 : decode cX12_rule 9 = .ok (.iconst (-1), 1) := by decide +kernel
theorem dX12_rule_10 : decode cX12_rule 10 = .ok (.ireturn, 1) := by decide +kernel
theorem dX12_rule_11 : decode cX12_rule 11 = .ok (.aload_n 0, 1) := by decide +kernel
theorem dX12_rule_12 : decode cX12_rule 12 = .ok (.aload_n 0, 1) := by decide +kernel
theorem dX12_rule_13 : decode cX12_rule 13 = .ok (.getfield 260, 3) := by decide +kernel
theorem dX12_rule_16 : decode cX12_rule 16 = .ok (.putfield 142, 3) := by decide +kernel
theorem dX12_rule_19 : decode cX12_rule 19 = .ok (.aload_n 0, 1) := by decide +kernel
theorem dX12_rule_20 : decode cX12_rule 20 = .ok (.getfield 23, 3) := by decide +kernel
theorem dX12_rule_23 : decode cX12_rule 23 = .ok (.aload_n 0, 1) := by decide +kernel
theorem dX12_rule_24 : decode cX12_rule 24 = .ok (.getfield 142, 3) := by decide +kernel
theorem dX12_rule_27 : decode cX12_rule 27 = .ok (.iconst 0, 1) := by decide +kernel
theorem dX12_rule_28 : decode cX12_rule 28 = .ok (.iastore, 1) := by decide +kernel
theorem dX12_rule_29 : decode cX12_rule 29 = .ok (.aload_n 0, 1) := by decide +kernel
theorem dX12_rule_30 : decode cX12_rule 30 = .ok (.invokevirtual 263, 3) := by decide +kernel
theorem dX12_rule_33 : decode cX12_rule 33 = .ok (.ifCond .ne 11, 3) := by decide +kernel
theorem dX12_rule_36 : decode cX12_rule 36 = .ok (.bipush (-2), 2) := by decide +kernel
theorem dX12_rule_38 : decode cX12_rule 38 = .ok (.aload_n 0, 1) := by decide +kernel
theorem dX12_rule_39 : decode cX12_rule 39 = .ok (.getfield 87, 3) := by decide +kernel
theorem dX12_rule_42 : decode cX12_rule 42 = .ok (.isub, 1) := by decide +kernel
theorem dX12_rule_43 : decode cX12_rule 43 = .ok (.ireturn, 1) := by decide +kernel
theorem dX12_rule_44 : decode cX12_rule 44 = .ok (.aload_n 0, 1) := by decide +kernel
theorem dX12_rule_45 : decode cX12_rule 45 = .ok (.dup, 1) := by decide +kernel
theorem dX12_rule_46 : decode cX12_rule 46 = .ok (.getfield 260, 3) := by decide +kernel
theorem dX12_rule_49 : decode cX12_rule 49 = .ok (.iconst 1, 1) := by decide +kernel
theorem dX12_rule_50 : decode cX12_rule 50 = .ok (.iadd, 1) := by decide +kernel
theorem dX12_rule_51 : decode cX12_rule 51 = .ok (.putfield 260, 3) := by decide +kernel
theorem dX12_rule_54 : decode cX12_rule 54 = .ok (.aload_n 0, 1) := by decide +kernel
theorem dX12_rule_55 : decode cX12_rule 55 = .ok (.getfield 260, 3) := by decide +kernel
theorem dX12_rule_58 : decode cX12_rule 58 = .ok (.iconst 1, 1) := by decide +kernel
theorem dX12_rule_59 : decode cX12_rule 59 = .ok (.isub, 1) := by decide +kernel
theorem dX12_rule_60 : decode cX12_rule 60 = .ok (.ireturn, 1) := by decide +kernel
def wp_X12_rule (S : Sh) (M : Mm) (u0 : Int) (post : Int → Mm → Prop) : Prop := wGet S M u0 12 2 fun v1 => wC 6 fun v3 => wIf (¬ v1 = v3) (wGet S M u0 12 2 fun v5 => wPut S M u0 12 11 v5 fun M7 => wGetR S M7 u0 12 6 fun v8 => wGet S M7 u0 12 11 fun v10 => wC 0 fun v12 => wSt S M7 v8 14 v10 v12 fun M14 => isK S u0 12 ∧ (wp_X12_readsAll S M14 u0 <| fun v16 M15 => wIf (¬ v16 = 0) (wGet S M15 u0 12 2 fun v18 => wC 1 fun v20 => wA v18 v20 fun v22 => wPut S M15 u0 12 2 v22 fun M24 => wGet S M24 u0 12 2 fun v25 => wC 1 fun v27 => wS v25 v27 fun v29 => post v29 M24) (wC (-2) fun v31 => wGet S M15 u0 12 9 fun v33 => wS v31 v33 fun v35 => post v35 M15))) (wC (-1) fun v37 => post v37 M)
set_option maxHeartbeats 4000000 in
set_option maxRecDepth 100000 in
theorem c_X12_rule (l : Launch) (D : va_G) (G : Gt) (S : Sh) (M : Mm) (xl0 : Int) (post : Int → Mm → Prop) (h : wp_X12_rule S M xl0 post) : Met l yX12_rule (cw_X12_rule :: gw) RM_X12_rule (va_Pc [.ref (adr G xl0)] (fun U => KN D G U ∧ Wd D G S M U.heap)) (QI D G S post) 0 0 (aG G) := by
  refine Met.ofW (cc := cX12_rule) (maxL := 1) (ret := (some .int)) (by decide) rfl ?_
  intro p e s m args below meth c s₁ B hml hv
  obtain ⟨rfl, hK, hP⟩ := hv
  have hx := B.exec
  have hb := B.bytes
  have hr := B.returns
  have hts := atoms_spec (ws := cw_X12_rule :: gw) B.pre
  have hown : s.vm.findClass RX12 = some m.cls := findClass_of_methodNamed B.named
  have hlocks := B.notSynchronized
  have hS : va_S (aG G) s.heap s.heap [] := va_S.rf
  have C : Cx p s m ([.ref (adr G xl0)] : List Value).toArray meth c D G cX12_rule 1 (some .int) (cw_X12_rule :: gw) RX12 := ⟨hx, hb, hr, hlocks, hml, hown, hts, hK⟩
  have hl := lv_entry ([.ref (adr G xl0)]) (n := 1) (Nat.le_of_ble_eq_true rfl)
  rw [lg_entry_eq]
  generalize (lg_sl ([.ref (adr G xl0)]) ++ List.replicate (1 - (lg_sl ([.ref (adr G xl0)])).length) Slot.unset).toArray = ls at hl ⊢
  have hl : lv_has ls 1 [(0, .ref (adr G xl0))] := hl
  unfold wp_X12_rule at h
  refine lv_aload_n hx hb dX12_rule_0 rfl (lv_at hl 0 rfl) ?_
  refine r_geti (C := RX12) (T := TX12) (N := 38) hx hb hts (fun w h => List.mem_cons_of_mem _ (iX12 w h)) hown hK hP rfl (by decide) rfl 2 (by decide) (hts _ (List.mem_cons_of_mem _ kw_1336)) (fun _ h9 => h9) dX12_rule_1 (by decide) h (fun z2 h => ?_)
  refine r_bipush hx hb dX12_rule_4 (by decide) h (fun z4 h => ?_)
  refine r_icmp_ne (tgt := 11) hx hb dX12_rule_6 (by decide) h (fun h => ?_) (fun h => ?_)
  · refine lv_aload_n hx hb dX12_rule_11 rfl (lv_at hl 0 rfl) ?_
    refine lv_aload_n hx hb dX12_rule_12 rfl (lv_at hl 0 rfl) ?_
    refine r_geti (C := RX12) (T := TX12) (N := 38) hx hb hts (fun w h => List.mem_cons_of_mem _ (iX12 w h)) hown hK hP rfl (by decide) rfl 2 (by decide) (hts _ (List.mem_cons_of_mem _ kw_1336)) (fun _ h9 => h9) dX12_rule_13 (by decide) h (fun z6 h => ?_)
    refine r_puti (C := RX12) (T := TX12) (N := 38) hx hb hts (fun w h => List.mem_cons_of_mem _ (iX12 w h)) hown hK hP tyX12 tyX12_ok nmX12 hS rfl (by decide) rfl 11 (by decide) (hts _ (List.mem_cons_of_mem _ kw_1345)) (fun _ h9 => h9) rfl (tyX12_ok 11 (by decide)) rfl rfl dX12_rule_16 (by decide) h (fun M7 H locs h hP hS => ?_)
    refine lv_aload_n hx hb dX12_rule_19 rfl (lv_at hl 0 rfl) ?_
    refine r_getr (C := RX12) (T := TX12) (N := 38) hx hb hts (fun w h => List.mem_cons_of_mem _ (iX12 w h)) hown hK hP rfl (by decide) rfl 6 (by decide) (hts _ (List.mem_cons_of_mem _ kw_1340)) (fun _ h9 => h9) dX12_rule_20 (by decide) h (fun x9 h => ?_)
    refine lv_aload_n hx hb dX12_rule_23 rfl (lv_at hl 0 rfl) ?_
    refine r_geti (C := RX12) (T := TX12) (N := 38) hx hb hts (fun w h => List.mem_cons_of_mem _ (iX12 w h)) hown hK hP rfl (by decide) rfl 11 (by decide) (hts _ (List.mem_cons_of_mem _ kw_1345)) (fun _ h9 => h9) dX12_rule_24 (by decide) h (fun z11 h => ?_)
    refine r_iconst hx hb dX12_rule_27 (by decide) h (fun z13 h => ?_)
    refine r_iast hx hb hK hP hS dX12_rule_28 h (fun M14 H locs h hP hS => ?_)
    refine lv_aload_n hx hb dX12_rule_29 rfl (lv_at hl 0 rfl) ?_
    refine q_Vi hx hb hml hown hts hK hP hS (c_X12_readsAll l D G S _ xl0 _ h.2) ⟨callB_of 0 hts (gw_good kw_1469) rfl rfl rfl (hts _ (List.mem_cons_of_mem _ kw_14)) (hts _ (List.mem_cons_of_mem _ kw_1466)) hd_X12_readsAll ⟨Nat.le_of_ble_eq_true rfl, Nat.le_of_ble_eq_true rfl⟩, (hts _ (List.mem_cons_of_mem _ kw_1468)), (hts _ (List.mem_cons_of_mem _ kp_52))⟩ h.1 (ci := 12) rfl (by decide) rfl hl.1 rfl (lv_room (Nat.le_of_ble_eq_true rfl)) dX12_rule_30 ⟨Nat.zero_le _, Nat.zero_le _⟩ (fun z17 M15 H locs h hP hS => ?_)
    refine r_if_ne (tgt := 44) hx hb dX12_rule_33 (by decide) h (fun h => ?_) (fun h => ?_)
    · refine lv_aload_n hx hb dX12_rule_44 rfl (lv_at hl 0 rfl) ?_
      refine lv_dup hx hb dX12_rule_45 rfl ?_
      refine r_geti (C := RX12) (T := TX12) (N := 38) hx hb hts (fun w h => List.mem_cons_of_mem _ (iX12 w h)) hown hK hP rfl (by decide) rfl 2 (by decide) (hts _ (List.mem_cons_of_mem _ kw_1336)) (fun _ h9 => h9) dX12_rule_46 (by decide) h (fun z19 h => ?_)
      refine r_iconst hx hb dX12_rule_49 (by decide) h (fun z21 h => ?_)
      refine r_iadd hx hb dX12_rule_50 h (fun z23 h => ?_)
      refine r_puti (C := RX12) (T := TX12) (N := 38) hx hb hts (fun w h => List.mem_cons_of_mem _ (iX12 w h)) hown hK hP tyX12 tyX12_ok nmX12 hS rfl (by decide) rfl 2 (by decide) (hts _ (List.mem_cons_of_mem _ kw_1336)) (fun _ h9 => h9) rfl (tyX12_ok 2 (by decide)) rfl rfl dX12_rule_51 (by decide) h (fun M24 H locs h hP hS => ?_)
      refine lv_aload_n hx hb dX12_rule_54 rfl (lv_at hl 0 rfl) ?_
      refine r_geti (C := RX12) (T := TX12) (N := 38) hx hb hts (fun w h => List.mem_cons_of_mem _ (iX12 w h)) hown hK hP rfl (by decide) rfl 2 (by decide) (hts _ (List.mem_cons_of_mem _ kw_1336)) (fun _ h9 => h9) dX12_rule_55 (by decide) h (fun z26 h => ?_)
      refine r_iconst hx hb dX12_rule_58 (by decide) h (fun z28 h => ?_)
      refine r_isub hx hb dX12_rule_59 h (fun z30 h => ?_)
      exact r_iret hx hb hr hlocks hP hS dX12_rule_60 h
    · refine r_bipush hx hb dX12_rule_36 (by decide) h (fun z32 h => ?_)
      refine lv_aload_n hx hb dX12_rule_38 rfl (lv_at hl 0 rfl) ?_
      refine r_geti (C := RX12) (T := TX12) (N := 38) hx hb hts (fun w h => List.mem_cons_of_mem _ (iX12 w h)) hown hK hP rfl (by decide) rfl 9 (by decide) (hts _ (List.mem_cons_of_mem _ kw_1343)) (fun _ h9 => h9) dX12_rule_39 (by decide) h (fun z34 h => ?_)
      refine r_isub hx hb dX12_rule_42 h (fun z36 h => ?_)
      exact r_iret hx hb hr hlocks hP hS dX12_rule_43 h
  · refine r_iconst hx hb dX12_rule_9 (by decide) h (fun z38 h => ?_)
    exact r_iret hx hb hr hlocks hP hS dX12_rule_10 h
/-! TurningMilkModel.dairy()I -/
abbrev RM_X12_dairy : Room := { frames := 13, cells := 0, slots := 0, locals := 302 }
def cw_X12_dairy : Cond := Cond.code yX12_dairy cX12_dairy 2 (Option.some FieldType.int)
theorem hd_X12_dairy : yX12_dairy.cls ≠ "java/lang/invoke/MethodHandle" ∧ yX12_dairy.cls ≠ "java/lang/invoke/VarHandle" ∧ (parseMethodDescriptor yX12_dairy.desc).map (fun d => d.parameters.length) = some 0 := by decide +kernel
theorem dX12_dairy_0 : decode cX12_dairy 0 = .ok (.aload_n 0, 1) := by decide +kernel
theorem dX12_dairy_1 : decode cX12_dairy 1 = .ok (.bipush 6, 2) := by decide +kernel
theorem dX12_dairy_3 : decode cX12_dairy 3 = .ok (.putfield 142, 3) := by decide +kernel
theorem dX12_dairy_6 : decode cX12_dairy 6 = .ok (.iconst 0, 1) := by decide +kernel
theorem dX12_dairy_7 : decode cX12_dairy 7 = .ok (.istore_n 1, 1) := by decide +kernel
theorem dX12_dairy_8 : decode cX12_dairy 8 = .ok (.iload_n 1, 1) := by decide +kernel
theorem dX12_dairy_9 : decode cX12_dairy 9 = .ok (.bipush 10, 2) := by decide +kernel
theorem dX12_dairy_11 : decode cX12_dairy 11 = .ok (.if_icmp .ge 16, 3) := by decide +kernel
theorem dX12_dairy_14 : decode cX12_dairy 14 = .ok (.aload_n 0, 1) := by decide +kernel
theorem dX12_dairy_15 : decode cX12_dairy 15 = .ok (.getfield 26, 3) := by decide +kernel
theorem dX12_dairy_18 : decode cX12_dairy 18 = .ok (.iload_n 1, 1) := by decide +kernel
theorem dX12_dairy_19 : decode cX12_dairy 19 = .ok (.iconst 0, 1) := by decide +kernel
theorem dX12_dairy_20 : decode cX12_dairy 20 = .ok (.iastore, 1) := by decide +kernel
theorem dX12_dairy_21 : decode cX12_dairy 21 = .ok (.iinc 1 1, 3) := by decide +kernel
theorem dX12_dairy_24 : decode cX12_dairy 24 = .ok (.goto (-16), 3) := by decide +kernel
theorem dX12_dairy_27 : decode cX12_dairy 27 = .ok (.aload_n 0, 1) := by decide +kernel
theorem dX12_dairy_28 : decode cX12_dairy 28 = .ok (.invokevirtual 263, 3) := by decide +kernel
theorem dX12_dairy_31 : decode cX12_dairy 31 = .ok (.ifCond .ne 11, 3) := by decide +kernel
theorem dX12_dairy_34 : decode cX12_dairy 34 = .ok (.bipush (-2), 2) := by decide +kernel
theorem dX12_dairy_36 : decode cX12_dairy 36 = .ok (.aload_n 0, 1) := by decide +kernel
theorem dX12_dairy_37 : decode cX12_dairy 37 = .ok (.getfield 87, 3) := by decide +kernel
theorem dX12_dairy_40 : decode cX12_dairy 40 = .ok (.isub, 1) := by decide +kernel
theorem dX12_dairy_41 : decode cX12_dairy 41 = .ok (.ireturn, 1) := by decide +kernel
theorem dX12_dairy_42 : decode cX12_dairy 42 = .ok (.iconst 0, 1) := by decide +kernel
theorem dX12_dairy_43 : decode cX12_dairy 43 = .ok (.istore_n 1, 1) := by decide +kernel
theorem dX12_dairy_44 : decode cX12_dairy 44 = .ok (.iload_n 1, 1) := by decide +kernel
theorem dX12_dairy_45 : decode cX12_dairy 45 = .ok (.sipush 158, 3) := by decide +kernel
theorem dX12_dairy_48 : decode cX12_dairy 48 = .ok (.if_icmp .ge 31, 3) := by decide +kernel
theorem dX12_dairy_51 : decode cX12_dairy 51 = .ok (.aload_n 0, 1) := by decide +kernel
theorem dX12_dairy_52 : decode cX12_dairy 52 = .ok (.getfield 39, 3) := by decide +kernel
theorem dX12_dairy_55 : decode cX12_dairy 55 = .ok (.iload_n 1, 1) := by decide +kernel
theorem dX12_dairy_56 : decode cX12_dairy 56 = .ok (.iload_n 1, 1) := by decide +kernel
theorem dX12_dairy_57 : decode cX12_dairy 57 = .ok (.bipush 117, 2) := by decide +kernel
theorem dX12_dairy_59 : decode cX12_dairy 59 = .ok (.if_icmp .ge 12, 3) := by decide +kernel
theorem dX12_dairy_62 : decode cX12_dairy 62 = .ok (.aload_n 0, 1) := by decide +kernel
theorem dX12_dairy_63 : decode cX12_dairy 63 = .ok (.getfield 26, 3) := by decide +kernel
theorem dX12_dairy_66 : decode cX12_dairy 66 = .ok (.iload_n 1, 1) := by decide +kernel
theorem dX12_dairy_67 : decode cX12_dairy 67 = .ok (.iaload, 1) := by decide +kernel
theorem dX12_dairy_68 : decode cX12_dairy 68 = .ok (.goto 4, 3) := by decide +kernel
theorem dX12_dairy_71 : decode cX12_dairy 71 = .ok (.iconst 0, 1) := by decide +kernel
theorem dX12_dairy_72 : decode cX12_dairy 72 = .ok (.iastore, 1) := by decide +kernel
theorem dX12_dairy_73 : decode cX12_dairy 73 = .ok (.iinc 1 1, 3) := by decide +kernel
theorem dX12_dairy_76 : decode cX12_dairy 76 = .ok (.goto (-32), 3) := by decide +kernel
theorem dX12_dairy_79 : decode cX12_dairy 79 = .ok (.aload_n 0, 1) := by decide +kernel
theorem dX12_dairy_80 : decode cX12_dairy 80 = .ok (.iconst 0, 1) := by decide +kernel
theorem dX12_dairy_81 : decode cX12_dairy 81 = .ok (.putfield 266, 3) := by decide +kernel
theorem dX12_dairy_84 : decode cX12_dairy 84 = .ok (.aload_n 0, 1) := by decide +kernel
theorem dX12_dairy_85 : decode cX12_dairy 85 = .ok (.getfield 39, 3) := by decide +kernel
theorem dX12_dairy_88 : decode cX12_dairy 88 = .ok (.iconst 5, 1) := by decide +kernel
theorem dX12_dairy_89 : decode cX12_dairy 89 = .ok (.iaload, 1) := by decide +kernel
theorem dX12_dairy_90 : decode cX12_dairy 90 = .ok (.ireturn, 1) := by decide +kernel
def wp_X12_dairy_72 (S : Sh) (k44 : Int → Int → Mm → Prop) (post : Int → Mm → Prop) (u0 : Int) (u1 : Int) (t0 : Int) (t1 : Int) (t2 : Int) (M : Mm) : Prop := wSt S M t0 14 t1 t2 fun M1 => wA u1 1 fun v2 => k44 u0 v2 M1
def wp_X12_dairy_44 (S : Sh) (post : Int → Mm → Prop) : Nat → Int → Int → Mm → Prop
  | 0, _, _, _ => False
  | n + 1, u0, u1, M => wC 158 fun v4 => wIf (v4 ≤ u1) (wC 0 fun v6 => wPut S M u0 12 25 v6 fun M8 => wGetR S M8 u0 12 20 fun v9 => wC 5 fun v11 => wLd S M8 v9 14 v11 fun v13 => post v13 M8) (wGetR S M u0 12 20 fun v15 => wC 117 fun v17 => wIf (v17 ≤ u1) (wC 0 fun v19 => wp_X12_dairy_72 S (fun a0 a1 M => wp_X12_dairy_44 S post n a0 a1 M) post u0 u1 v15 u1 v19 M) (wGetR S M u0 12 7 fun v21 => wLd S M v21 14 u1 fun v23 => wp_X12_dairy_72 S (fun a0 a1 M => wp_X12_dairy_44 S post n a0 a1 M) post u0 u1 v15 u1 v23 M))
def wp_X12_dairy_8 (S : Sh) (post : Int → Mm → Prop) : Nat → Int → Int → Mm → Prop
  | 0, _, _, _ => False
  | n + 1, u0, u1, M => wC 10 fun v25 => wIf (v25 ≤ u1) (isK S u0 12 ∧ (wp_X12_readsAll S M u0 <| fun v28 M27 => wIf (¬ v28 = 0) (wC 0 fun v30 => ∃ n9 : Nat, wp_X12_dairy_44 S post n9 u0 v30 M27) (wC (-2) fun v32 => wGet S M27 u0 12 9 fun v34 => wS v32 v34 fun v36 => post v36 M27))) (wGetR S M u0 12 7 fun v38 => wC 0 fun v40 => wSt S M v38 14 u1 v40 fun M42 => wA u1 1 fun v43 => wp_X12_dairy_8 S post n u0 v43 M42)
def wp_X12_dairy (S : Sh) (M : Mm) (u0 : Int) (post : Int → Mm → Prop) : Prop := wC 6 fun v45 => wPut S M u0 12 11 v45 fun M47 => wC 0 fun v48 => ∃ n9 : Nat, wp_X12_dairy_8 S post n9 u0 v48 M47
set_option maxHeartbeats 4000000 in
set_option maxRecDepth 100000 in
theorem t_X12_dairy_72 {p : Program} {l : Launch} {e : Env} {s : State} {m : MethodId} {args : Array Value} {below : List Frame} {meth : Method} {c : Code} {D : va_G} {G : Gt} {S : Sh} {post : Int → Mm → Prop} {k44 : Int → Int → Mm → Prop} (C : Cx p s m args meth c D G cX12_dairy 2 (some .int) (cw_X12_dairy :: gw) RX12) (hk44 : ∀ (y0 : Int) (y1 : Int32) (M : Mm) (H : Heap) (locs : List Loc) (ls : Array Slot), Wd D G S M H → va_S (aG G) s.heap H locs → lv_has ls 2 [(0, .ref (adr G y0)), (1, .int y1)] → k44 y0 y1.toInt M → W p l e RM_X12_dairy s m args below meth c H locs 0 0 (MQ below (QI D G S post) args s 0 0 (aG G)) (F0 m 44 ls [])) : ∀ (xl0 : Int) (zl1 : Int32) (xs0 : Int) (zs1 : Int32) (zs2 : Int32) (M : Mm) (H : Heap) (locs : List Loc) (ls : Array Slot), Wd D G S M H → va_S (aG G) s.heap H locs → lv_has ls 2 [(0, .ref (adr G xl0)), (1, .int zl1)] → wp_X12_dairy_72 S k44 post xl0 zl1.toInt xs0 zs1.toInt zs2.toInt M → W p l e RM_X12_dairy s m args below meth c H locs 0 0 (MQ below (QI D G S post) args s 0 0 (aG G)) (F0 m 72 ls [.int zs2, .int zs1, .ref (adr G xs0)]) := by
  obtain ⟨hx, hb, hr, hlocks, hml, hown, hts, hK⟩ := id C
  intro xl0 zl1 xs0 zs1 zs2 M H locs ls hP hS hl h
  unfold wp_X12_dairy_72 at h
  refine r_iast hx hb hK hP hS dX12_dairy_72 h (fun M1 H locs h hP hS => ?_)
  refine r_iinc hx hb (fun z3 => [(1, .int z3), (0, .ref (adr G xl0))]) dX12_dairy_73 (by decide) hl (k := 1) rfl (by decide) (fun _ => rfl) h (fun z3 ls hl h => ?_)
  refine lv_goto (tgt := 44) hx hb dX12_dairy_76 (by decide) ?_
  exact hk44 xl0 z3 _ _ _ _ hP hS (lv_sub hl [1, 0] rfl) h
set_option maxHeartbeats 4000000 in
set_option maxRecDepth 100000 in
theorem t_X12_dairy_44 {p : Program} {l : Launch} {e : Env} {s : State} {m : MethodId} {args : Array Value} {below : List Frame} {meth : Method} {c : Code} {D : va_G} {G : Gt} {S : Sh} {post : Int → Mm → Prop} (C : Cx p s m args meth c D G cX12_dairy 2 (some .int) (cw_X12_dairy :: gw) RX12) : ∀ (n : Nat) (xl0 : Int) (zl1 : Int32) (M : Mm) (H : Heap) (locs : List Loc) (ls : Array Slot), Wd D G S M H → va_S (aG G) s.heap H locs → lv_has ls 2 [(0, .ref (adr G xl0)), (1, .int zl1)] → wp_X12_dairy_44 S post n xl0 zl1.toInt  M → W p l e RM_X12_dairy s m args below meth c H locs 0 0 (MQ below (QI D G S post) args s 0 0 (aG G)) (F0 m 44 ls []) := by
  obtain ⟨hx, hb, hr, hlocks, hml, hown, hts, hK⟩ := id C
  intro n
  induction n with
  | zero => intro xl0 zl1 M H locs ls hP hS hl h; exact h.elim
  | succ n ih =>
    intro xl0 zl1 M H locs ls hP hS hl h
    unfold wp_X12_dairy_44 at h
    refine lv_iload_n hx hb dX12_dairy_44 rfl (lv_at hl 1 rfl) ?_
    refine r_sipush hx hb dX12_dairy_45 (by decide) h (fun z5 h => ?_)
    refine r_icmp_ge (tgt := 79) hx hb dX12_dairy_48 (by decide) h (fun h => ?_) (fun h => ?_)
    · refine lv_aload_n hx hb dX12_dairy_79 rfl (lv_at hl 0 rfl) ?_
      refine r_iconst hx hb dX12_dairy_80 (by decide) h (fun z7 h => ?_)
      refine r_puti (C := RX12) (T := TX12) (N := 38) hx hb hts (fun w h => List.mem_cons_of_mem _ (iX12 w h)) hown hK hP tyX12 tyX12_ok nmX12 hS rfl (by decide) rfl 25 (by decide) (hts _ (List.mem_cons_of_mem _ kw_1359)) (fun _ h9 => h9) rfl (tyX12_ok 25 (by decide)) rfl rfl dX12_dairy_81 (by decide) h (fun M8 H locs h hP hS => ?_)
      refine lv_aload_n hx hb dX12_dairy_84 rfl (lv_at hl 0 rfl) ?_
      refine r_getr (C := RX12) (T := TX12) (N := 38) hx hb hts (fun w h => List.mem_cons_of_mem _ (iX12 w h)) hown hK hP rfl (by decide) rfl 20 (by decide) (hts _ (List.mem_cons_of_mem _ kw_1354)) (fun _ h9 => h9) dX12_dairy_85 (by decide) h (fun x10 h => ?_)
      refine r_iconst hx hb dX12_dairy_88 (by decide) h (fun z12 h => ?_)
      refine r_iald hx hb hK hP dX12_dairy_89 h (fun z14 h => ?_)
      exact r_iret hx hb hr hlocks hP hS dX12_dairy_90 h
    · refine lv_aload_n hx hb dX12_dairy_51 rfl (lv_at hl 0 rfl) ?_
      refine r_getr (C := RX12) (T := TX12) (N := 38) hx hb hts (fun w h => List.mem_cons_of_mem _ (iX12 w h)) hown hK hP rfl (by decide) rfl 20 (by decide) (hts _ (List.mem_cons_of_mem _ kw_1354)) (fun _ h9 => h9) dX12_dairy_52 (by decide) h (fun x16 h => ?_)
      refine lv_iload_n hx hb dX12_dairy_55 rfl (lv_at hl 1 rfl) ?_
      refine lv_iload_n hx hb dX12_dairy_56 rfl (lv_at hl 1 rfl) ?_
      refine r_bipush hx hb dX12_dairy_57 (by decide) h (fun z18 h => ?_)
      refine r_icmp_ge (tgt := 71) hx hb dX12_dairy_59 (by decide) h (fun h => ?_) (fun h => ?_)
      · refine r_iconst hx hb dX12_dairy_71 (by decide) h (fun z20 h => ?_)
        exact t_X12_dairy_72 C ih xl0 zl1 x16 zl1 z20 _ _ _ _ hP hS (lv_sub hl [0, 1] rfl) h
      · refine lv_aload_n hx hb dX12_dairy_62 rfl (lv_at hl 0 rfl) ?_
        refine r_getr (C := RX12) (T := TX12) (N := 38) hx hb hts (fun w h => List.mem_cons_of_mem _ (iX12 w h)) hown hK hP rfl (by decide) rfl 7 (by decide) (hts _ (List.mem_cons_of_mem _ kw_1341)) (fun _ h9 => h9) dX12_dairy_63 (by decide) h (fun x22 h => ?_)
        refine lv_iload_n hx hb dX12_dairy_66 rfl (lv_at hl 1 rfl) ?_
        refine r_iald hx hb hK hP dX12_dairy_67 h (fun z24 h => ?_)
        refine lv_goto (tgt := 72) hx hb dX12_dairy_68 (by decide) ?_
        exact t_X12_dairy_72 C ih xl0 zl1 x16 zl1 z24 _ _ _ _ hP hS (lv_sub hl [0, 1] rfl) h
set_option maxHeartbeats 4000000 in
set_option maxRecDepth 100000 in
theorem t_X12_dairy_8 {p : Program} {l : Launch} {e : Env} {s : State} {m : MethodId} {args : Array Value} {below : List Frame} {meth : Method} {c : Code} {D : va_G} {G : Gt} {S : Sh} {post : Int → Mm → Prop} (C : Cx p s m args meth c D G cX12_dairy 2 (some .int) (cw_X12_dairy :: gw) RX12) : ∀ (n : Nat) (xl0 : Int) (zl1 : Int32) (M : Mm) (H : Heap) (locs : List Loc) (ls : Array Slot), Wd D G S M H → va_S (aG G) s.heap H locs → lv_has ls 2 [(0, .ref (adr G xl0)), (1, .int zl1)] → wp_X12_dairy_8 S post n xl0 zl1.toInt  M → W p l e RM_X12_dairy s m args below meth c H locs 0 0 (MQ below (QI D G S post) args s 0 0 (aG G)) (F0 m 8 ls []) := by
  obtain ⟨hx, hb, hr, hlocks, hml, hown, hts, hK⟩ := id C
  intro n
  induction n with
  | zero => intro xl0 zl1 M H locs ls hP hS hl h; exact h.elim
  | succ n ih =>
    intro xl0 zl1 M H locs ls hP hS hl h
    unfold wp_X12_dairy_8 at h
    refine lv_iload_n hx hb dX12_dairy_8 rfl (lv_at hl 1 rfl) ?_
    refine r_bipush hx hb dX12_dairy_9 (by decide) h (fun z26 h => ?_)
    refine r_icmp_ge (tgt := 27) hx hb dX12_dairy_11 (by decide) h (fun h => ?_) (fun h => ?_)
    · refine lv_aload_n hx hb dX12_dairy_27 rfl (lv_at hl 0 rfl) ?_
      refine q_Vi hx hb hml hown hts hK hP hS (c_X12_readsAll l D G S _ xl0 _ h.2) ⟨callB_of 0 hts (gw_good kw_1469) rfl rfl rfl (hts _ (List.mem_cons_of_mem _ kw_14)) (hts _ (List.mem_cons_of_mem _ kw_1466)) hd_X12_readsAll ⟨Nat.le_of_ble_eq_true rfl, Nat.le_of_ble_eq_true rfl⟩, (hts _ (List.mem_cons_of_mem _ kw_1468)), (hts _ (List.mem_cons_of_mem _ kp_52))⟩ h.1 (ci := 12) rfl (by decide) rfl hl.1 rfl (lv_room (Nat.le_of_ble_eq_true rfl)) dX12_dairy_28 ⟨Nat.zero_le _, Nat.zero_le _⟩ (fun z29 M27 H locs h hP hS => ?_)
      refine r_if_ne (tgt := 42) hx hb dX12_dairy_31 (by decide) h (fun h => ?_) (fun h => ?_)
      · refine r_iconst hx hb dX12_dairy_42 (by decide) h (fun z31 h => ?_)
        refine lv_istore_n (lv' := [(1, .int z31), (0, .ref (adr G xl0))]) hx hb dX12_dairy_43 rfl hl (by decide) rfl (fun ls hl => ?_)
        obtain ⟨n9, h⟩ := h
        exact t_X12_dairy_44 C n9 xl0 z31 _ _ _ _ hP hS (lv_sub hl [1, 0] rfl) h
      · refine r_bipush hx hb dX12_dairy_34 (by decide) h (fun z33 h => ?_)
        refine lv_aload_n hx hb dX12_dairy_36 rfl (lv_at hl 0 rfl) ?_
        refine r_geti (C := RX12) (T := TX12) (N := 38) hx hb hts (fun w h => List.mem_cons_of_mem _ (iX12 w h)) hown hK hP rfl (by decide) rfl 9 (by decide) (hts _ (List.mem_cons_of_mem _ kw_1343)) (fun _ h9 => h9) dX12_dairy_37 (by decide) h (fun z35 h => ?_)
        refine r_isub hx hb dX12_dairy_40 h (fun z37 h => ?_)
        exact r_iret hx hb hr hlocks hP hS dX12_dairy_41 h
    · refine lv_aload_n hx hb dX12_dairy_14 rfl (lv_at hl 0 rfl) ?_
      refine r_getr (C := RX12) (T := TX12) (N := 38) hx hb hts (fun w h => List.mem_cons_of_mem _ (iX12 w h)) hown hK hP rfl (by decide) rfl 7 (by decide) (hts _ (List.mem_cons_of_mem _ kw_1341)) (fun _ h9 => h9) dX12_dairy_15 (by decide) h (fun x39 h => ?_)
      refine lv_iload_n hx hb dX12_dairy_18 rfl (lv_at hl 1 rfl) ?_
      refine r_iconst hx hb dX12_dairy_19 (by decide) h (fun z41 h => ?_)
      refine r_iast hx hb hK hP hS dX12_dairy_20 h (fun M42 H locs h hP hS => ?_)
      refine r_iinc hx hb (fun z44 => [(1, .int z44), (0, .ref (adr G xl0))]) dX12_dairy_21 (by decide) hl (k := 1) rfl (by decide) (fun _ => rfl) h (fun z44 ls hl h => ?_)
      refine lv_goto (tgt := 8) hx hb dX12_dairy_24 (by decide) ?_
      exact ih xl0 z44 _ _ _ _ hP hS (lv_sub hl [1, 0] rfl) h
set_option maxHeartbeats 4000000 in
set_option maxRecDepth 100000 in
theorem c_X12_dairy (l : Launch) (D : va_G) (G : Gt) (S : Sh) (M : Mm) (xl0 : Int) (post : Int → Mm → Prop) (h : wp_X12_dairy S M xl0 post) : Met l yX12_dairy (cw_X12_dairy :: gw) RM_X12_dairy (va_Pc [.ref (adr G xl0)] (fun U => KN D G U ∧ Wd D G S M U.heap)) (QI D G S post) 0 0 (aG G) := by
  refine Met.ofW (cc := cX12_dairy) (maxL := 2) (ret := (some .int)) (by decide) rfl ?_
  intro p e s m args below meth c s₁ B hml hv
  obtain ⟨rfl, hK, hP⟩ := hv
  have hx := B.exec
  have hb := B.bytes
  have hr := B.returns
  have hts := atoms_spec (ws := cw_X12_dairy :: gw) B.pre
  have hown : s.vm.findClass RX12 = some m.cls := findClass_of_methodNamed B.named
  have hlocks := B.notSynchronized
  have hS : va_S (aG G) s.heap s.heap [] := va_S.rf
  have C : Cx p s m ([.ref (adr G xl0)] : List Value).toArray meth c D G cX12_dairy 2 (some .int) (cw_X12_dairy :: gw) RX12 := ⟨hx, hb, hr, hlocks, hml, hown, hts, hK⟩
  have hl := lv_entry ([.ref (adr G xl0)]) (n := 2) (Nat.le_of_ble_eq_true rfl)
  rw [lg_entry_eq]
  generalize (lg_sl ([.ref (adr G xl0)]) ++ List.replicate (2 - (lg_sl ([.ref (adr G xl0)])).length) Slot.unset).toArray = ls at hl ⊢
  have hl : lv_has ls 2 [(0, .ref (adr G xl0))] := hl
  unfold wp_X12_dairy at h
  refine lv_aload_n hx hb dX12_dairy_0 rfl (lv_at hl 0 rfl) ?_
  refine r_bipush hx hb dX12_dairy_1 (by decide) h (fun z46 h => ?_)
  refine r_puti (C := RX12) (T := TX12) (N := 38) hx hb hts (fun w h => List.mem_cons_of_mem _ (iX12 w h)) hown hK hP tyX12 tyX12_ok nmX12 hS rfl (by decide) rfl 11 (by decide) (hts _ (List.mem_cons_of_mem _ kw_1345)) (fun _ h9 => h9) rfl (tyX12_ok 11 (by decide)) rfl rfl dX12_dairy_3 (by decide) h (fun M47 H locs h hP hS => ?_)
  refine r_iconst hx hb dX12_dairy_6 (by decide) h (fun z49 h => ?_)
  refine lv_istore_n (lv' := [(1, .int z49), (0, .ref (adr G xl0))]) hx hb dX12_dairy_7 rfl hl (by decide) rfl (fun ls hl => ?_)
  obtain ⟨n9, h⟩ := h
  exact t_X12_dairy_8 C n9 xl0 z49 _ _ _ _ hP hS (lv_sub hl [1, 0] rfl) h
/-! TurningMilkModel.isRule(I)Z -/
abbrev RM_X12_isRule : Room := { frames := 1, cells := 0, slots := 0, locals := 40 }
def cw_X12_isRule : Cond := Cond.code yX12_isRule cX12_isRule 2 (Option.some FieldType.boolean)
theorem hd_X12_isRule : yX12_isRule.cls ≠ "java/lang/invoke/MethodHandle" ∧ yX12_isRule.cls ≠ "java/lang/invoke/VarHandle" ∧ (parseMethodDescriptor yX12_isRule.desc).map (fun d => d.parameters.length) = some 1 := by decide +kernel
theorem dX12_isRule_0 : decode cX12_isRule 0 = .ok (.iload_n 1, 1) := by decide +kernel
theorem dX12_isRule_1 : decode cX12_isRule 1 = .ok (.ifCond .lt 15, 3) := by decide +kernel
theorem dX12_isRule_4 : decode cX12_isRule 4 = .ok (.iload_n 1, 1) := by decide +kernel
theorem dX12_isRule_5 : decode cX12_isRule 5 = .ok (.aload_n 0, 1) := by decide +kernel
theorem dX12_isRule_6 : decode cX12_isRule 6 = .ok (.getfield 260, 3) := by decide +kernel
theorem dX12_isRule_9 : decode cX12_isRule 9 = .ok (.if_icmp .ge 7, 3) := by decide +kernel
theorem dX12_isRule_12 : decode cX12_isRule 12 = .ok (.iconst 1, 1) := by decide +kernel
theorem dX12_isRule_13 : decode cX12_isRule 13 = .ok (.goto 4, 3) := by decide +kernel
theorem dX12_isRule_16 : decode cX12_isRule 16 = .ok (.iconst 0, 1) := by decide +kernel
theorem dX12_isRule_17 : decode cX12_isRule 17 = .ok (.ireturn, 1) := by decide +kernel
def wp_X12_isRule (S : Sh) (M : Mm) (u0 : Int) (u1 : Int) (post : Int → Mm → Prop) : Prop := wIf (u1 < 0) (wC 0 fun v1 => (v1 = 0 ∨ v1 = 1) ∧ post v1 M) (wGet S M u0 12 2 fun v3 => wIf (v3 ≤ u1) (wC 0 fun v5 => (v5 = 0 ∨ v5 = 1) ∧ post v5 M) (wC 1 fun v7 => (v7 = 0 ∨ v7 = 1) ∧ post v7 M))
set_option maxHeartbeats 4000000 in
set_option maxRecDepth 100000 in
theorem c_X12_isRule (l : Launch) (D : va_G) (G : Gt) (S : Sh) (M : Mm) (xl0 : Int) (zl1 : Int32) (post : Int → Mm → Prop) (h : wp_X12_isRule S M xl0 zl1.toInt post) : Met l yX12_isRule (cw_X12_isRule :: gw) RM_X12_isRule (va_Pc [.ref (adr G xl0), .int zl1] (fun U => KN D G U ∧ Wd D G S M U.heap)) (QI D G S post) 0 0 (aG G) := by
  refine Met.ofW (cc := cX12_isRule) (maxL := 2) (ret := (some .boolean)) (by decide) rfl ?_
  intro p e s m args below meth c s₁ B hml hv
  obtain ⟨rfl, hK, hP⟩ := hv
  have hx := B.exec
  have hb := B.bytes
  have hr := B.returns
  have hts := atoms_spec (ws := cw_X12_isRule :: gw) B.pre
  have hown : s.vm.findClass RX12 = some m.cls := findClass_of_methodNamed B.named
  have hlocks := B.notSynchronized
  have hS : va_S (aG G) s.heap s.heap [] := va_S.rf
  have C : Cx p s m ([.ref (adr G xl0), .int zl1] : List Value).toArray meth c D G cX12_isRule 2 (some .boolean) (cw_X12_isRule :: gw) RX12 := ⟨hx, hb, hr, hlocks, hml, hown, hts, hK⟩
  have hl := lv_entry ([.ref (adr G xl0), .int zl1]) (n := 2) (Nat.le_of_ble_eq_true rfl)
  rw [lg_entry_eq]
  generalize (lg_sl ([.ref (adr G xl0), .int zl1]) ++ List.replicate (2 - (lg_sl ([.ref (adr G xl0), .int zl1])).length) Slot.unset).toArray = ls at hl ⊢
  have hl : lv_has ls 2 [(0, .ref (adr G xl0)), (1, .int zl1)] := hl
  unfold wp_X12_isRule at h
  refine lv_iload_n hx hb dX12_isRule_0 rfl (lv_at hl 1 rfl) ?_
  refine r_if_lt (tgt := 16) hx hb dX12_isRule_1 (by decide) h (fun h => ?_) (fun h => ?_)
  · refine r_iconst hx hb dX12_isRule_16 (by decide) h (fun z2 h => ?_)
    exact r_zret hx hb hr hlocks hP hS dX12_isRule_17 h
  · refine lv_iload_n hx hb dX12_isRule_4 rfl (lv_at hl 1 rfl) ?_
    refine lv_aload_n hx hb dX12_isRule_5 rfl (lv_at hl 0 rfl) ?_
    refine r_geti (C := RX12) (T := TX12) (N := 38) hx hb hts (fun w h => List.mem_cons_of_mem _ (iX12 w h)) hown hK hP rfl (by decide) rfl 2 (by decide) (hts _ (List.mem_cons_of_mem _ kw_1336)) (fun _ h9 => h9) dX12_isRule_6 (by decide) h (fun z4 h => ?_)
    refine r_icmp_ge (tgt := 16) hx hb dX12_isRule_9 (by decide) h (fun h => ?_) (fun h => ?_)
    · refine r_iconst hx hb dX12_isRule_16 (by decide) h (fun z6 h => ?_)
      exact r_zret hx hb hr hlocks hP hS dX12_isRule_17 h
    · refine r_iconst hx hb dX12_isRule_12 (by decide) h (fun z8 h => ?_)
      refine lv_goto (tgt := 17) hx hb dX12_isRule_13 (by decide) ?_
      exact r_zret hx hb hr hlocks hP hS dX12_isRule_17 h
/-! TurningMilkModel.force(I)I -/
abbrev RM_X12_force : Room := { frames := 2, cells := 0, slots := 0, locals := 61 }
def cw_X12_force : Cond := Cond.code yX12_force cX12_force 3 (Option.some FieldType.int)
theorem hd_X12_force : yX12_force.cls ≠ "java/lang/invoke/MethodHandle" ∧ yX12_force.cls ≠ "java/lang/invoke/VarHandle" ∧ (parseMethodDescriptor yX12_force.desc).map (fun d => d.parameters.length) = some 1 := by decide +kernel
theorem dX12_force_0 : decode cX12_force 0 = .ok (.iload_n 1, 1) := by decide +kernel
theorem dX12_force_1 : decode cX12_force 1 = .ok (.iconst (-1), 1) := by decide +kernel
theorem dX12_force_2 : decode cX12_force 2 = .ok (.if_icmp .eq 14, 3) := by decide +kernel
theorem dX12_force_5 : decode cX12_force 5 = .ok (.aload_n 0, 1) := by decide +kernel
theorem dX12_force_6 : decode cX12_force 6 = .ok (.iload_n 1, 1) := by decide +kernel
theorem dX12_force_7 : decode cX12_force 7 = .ok (.invokevirtual 298, 3) := by decide +kernel
theorem dX12_force_10 : decode cX12_force 10 = .ok (.ifCond .ne 6, 3) := by decide +kernel
theorem dX12_force_13 : decode cX12_force 13 = .ok (.bipush (-2), 2) := by decide +kernel
theorem dX12_force_15 : decode cX12_force 15 = .ok (.ireturn, 1) := by decide +kernel
theorem dX12_force_16 : decode cX12_force 16 = .ok (.aload_n 0, 1) := by decide +kernel
theorem dX12_force_17 : decode cX12_force 17 = .ok (.getfield 42, 3) := by decide +kernel
theorem dX12_force_20 : decode cX12_force 20 = .ok (.istore_n 2, 1) := by decide +kernel
theorem dX12_force_21 : decode cX12_force 21 = .ok (.aload_n 0, 1) := by decide +kernel
theorem dX12_force_22 : decode cX12_force 22 = .ok (.iload_n 1, 1) := by decide +kernel
theorem dX12_force_23 : decode cX12_force 23 = .ok (.putfield 42, 3) := by decide +kernel
theorem dX12_force_26 : decode cX12_force 26 = .ok (.iload_n 2, 1) := by decide +kernel
theorem dX12_force_27 : decode cX12_force 27 = .ok (.ireturn, 1) := by decide +kernel
def wp_X12_force_16 (S : Sh) (post : Int → Mm → Prop) (u0 : Int) (u1 : Int) (M : Mm) : Prop := wGet S M u0 12 21 fun v1 => wPut S M u0 12 21 u1 fun M3 => post v1 M3
def wp_X12_force (S : Sh) (M : Mm) (u0 : Int) (u1 : Int) (post : Int → Mm → Prop) : Prop := wC (-1) fun v4 => wIf (u1 = v4) (wp_X12_force_16 S post u0 u1 M) (isK S u0 12 ∧ (wp_X12_isRule S M u0 u1 <| fun v7 M6 => wIf (¬ v7 = 0) (wp_X12_force_16 S post u0 u1 M6) (wC (-2) fun v9 => post v9 M6)))
set_option maxHeartbeats 4000000 in
set_option maxRecDepth 100000 in
theorem t_X12_force_16 {p : Program} {l : Launch} {e : Env} {s : State} {m : MethodId} {args : Array Value} {below : List Frame} {meth : Method} {c : Code} {D : va_G} {G : Gt} {S : Sh} {post : Int → Mm → Prop} (C : Cx p s m args meth c D G cX12_force 3 (some .int) (cw_X12_force :: gw) RX12) : ∀ (xl0 : Int) (zl1 : Int32) (M : Mm) (H : Heap) (locs : List Loc) (ls : Array Slot), Wd D G S M H → va_S (aG G) s.heap H locs → lv_has ls 3 [(0, .ref (adr G xl0)), (1, .int zl1)] → wp_X12_force_16 S post xl0 zl1.toInt  M → W p l e RM_X12_force s m args below meth c H locs 0 0 (MQ below (QI D G S post) args s 0 0 (aG G)) (F0 m 16 ls []) := by
  obtain ⟨hx, hb, hr, hlocks, hml, hown, hts, hK⟩ := id C
  intro xl0 zl1 M H locs ls hP hS hl h
  unfold wp_X12_force_16 at h
  refine lv_aload_n hx hb dX12_force_16 rfl (lv_at hl 0 rfl) ?_
  refine r_geti (C := RX12) (T := TX12) (N := 38) hx hb hts (fun w h => List.mem_cons_of_mem _ (iX12 w h)) hown hK hP rfl (by decide) rfl 21 (by decide) (hts _ (List.mem_cons_of_mem _ kw_1355)) (fun _ h9 => h9) dX12_force_17 (by decide) h (fun z2 h => ?_)
  refine lv_istore_n (lv' := [(2, .int z2), (0, .ref (adr G xl0)), (1, .int zl1)]) hx hb dX12_force_20 rfl hl (by decide) rfl (fun ls hl => ?_)
  refine lv_aload_n hx hb dX12_force_21 rfl (lv_at hl 1 rfl) ?_
  refine lv_iload_n hx hb dX12_force_22 rfl (lv_at hl 2 rfl) ?_
  refine r_puti (C := RX12) (T := TX12) (N := 38) hx hb hts (fun w h => List.mem_cons_of_mem _ (iX12 w h)) hown hK hP tyX12 tyX12_ok nmX12 hS rfl (by decide) rfl 21 (by decide) (hts _ (List.mem_cons_of_mem _ kw_1355)) (fun _ h9 => h9) rfl (tyX12_ok 21 (by decide)) rfl rfl dX12_force_23 (by decide) h (fun M3 H locs h hP hS => ?_)
  refine lv_iload_n hx hb dX12_force_26 rfl (lv_at hl 0 rfl) ?_
  exact r_iret hx hb hr hlocks hP hS dX12_force_27 h
set_option maxHeartbeats 4000000 in
set_option maxRecDepth 100000 in
theorem c_X12_force (l : Launch) (D : va_G) (G : Gt) (S : Sh) (M : Mm) (xl0 : Int) (zl1 : Int32) (post : Int → Mm → Prop) (h : wp_X12_force S M xl0 zl1.toInt post) : Met l yX12_force (cw_X12_force :: gw) RM_X12_force (va_Pc [.ref (adr G xl0), .int zl1] (fun U => KN D G U ∧ Wd D G S M U.heap)) (QI D G S post) 0 0 (aG G) := by
  refine Met.ofW (cc := cX12_force) (maxL := 3) (ret := (some .int)) (by decide) rfl ?_
  intro p e s m args below meth c s₁ B hml hv
  obtain ⟨rfl, hK, hP⟩ := hv
  have hx := B.exec
  have hb := B.bytes
  have hr := B.returns
  have hts := atoms_spec (ws := cw_X12_force :: gw) B.pre
  have hown : s.vm.findClass RX12 = some m.cls := findClass_of_methodNamed B.named
  have hlocks := B.notSynchronized
  have hS : va_S (aG G) s.heap s.heap [] := va_S.rf
  have C : Cx p s m ([.ref (adr G xl0), .int zl1] : List Value).toArray meth c D G cX12_force 3 (some .int) (cw_X12_force :: gw) RX12 := ⟨hx, hb, hr, hlocks, hml, hown, hts, hK⟩
  have hl := lv_entry ([.ref (adr G xl0), .int zl1]) (n := 3) (Nat.le_of_ble_eq_true rfl)
  rw [lg_entry_eq]
  generalize (lg_sl ([.ref (adr G xl0), .int zl1]) ++ List.replicate (3 - (lg_sl ([.ref (adr G xl0), .int zl1])).length) Slot.unset).toArray = ls at hl ⊢
  have hl : lv_has ls 3 [(0, .ref (adr G xl0)), (1, .int zl1)] := hl
  unfold wp_X12_force at h
  refine lv_iload_n hx hb dX12_force_0 rfl (lv_at hl 1 rfl) ?_
  refine r_iconst hx hb dX12_force_1 (by decide) h (fun z5 h => ?_)
  refine r_icmp_eq (tgt := 16) hx hb dX12_force_2 (by decide) h (fun h => ?_) (fun h => ?_)
  · exact t_X12_force_16 C xl0 zl1 _ _ _ _ hP hS (lv_sub hl [0, 1] rfl) h
  · refine lv_aload_n hx hb dX12_force_5 rfl (lv_at hl 0 rfl) ?_
    refine lv_iload_n hx hb dX12_force_6 rfl (lv_at hl 1 rfl) ?_
    refine q_Vi hx hb hml hown hts hK hP hS (c_X12_isRule l D G S _ xl0 zl1 _ h.2) ⟨callB_of 1 hts (gw_good kw_1637) rfl rfl rfl (hts _ (List.mem_cons_of_mem _ kw_14)) (hts _ (List.mem_cons_of_mem _ kw_1634)) hd_X12_isRule ⟨Nat.le_of_ble_eq_true rfl, Nat.le_of_ble_eq_true rfl⟩, (hts _ (List.mem_cons_of_mem _ kw_1636)), (hts _ (List.mem_cons_of_mem _ kp_86))⟩ h.1 (ci := 12) rfl (by decide) rfl hl.1 rfl (lv_room (Nat.le_of_ble_eq_true rfl)) dX12_force_7 ⟨Nat.zero_le _, Nat.zero_le _⟩ (fun z8 M6 H locs h hP hS => ?_)
    refine r_if_ne (tgt := 16) hx hb dX12_force_10 (by decide) h (fun h => ?_) (fun h => ?_)
    · exact t_X12_force_16 C xl0 zl1 _ _ _ _ hP hS (lv_sub hl [0, 1] rfl) h
    · refine r_bipush hx hb dX12_force_13 (by decide) h (fun z10 h => ?_)
      exact r_iret hx hb hr hlocks hP hS dX12_force_15 h
/-! TurningMilkModel.isHand(I)Z -/
abbrev RM_X12_isHand : Room := { frames := 1, cells := 0, slots := 0, locals := 40 }
def cw_X12_isHand : Cond := Cond.code yX12_isHand cX12_isHand 2 (Option.some FieldType.boolean)
theorem hd_X12_isHand : yX12_isHand.cls ≠ "java/lang/invoke/MethodHandle" ∧ yX12_isHand.cls ≠ "java/lang/invoke/VarHandle" ∧ (parseMethodDescriptor yX12_isHand.desc).map (fun d => d.parameters.length) = some 1 := by decide +kernel
theorem dX12_isHand_0 : decode cX12_isHand 0 = .ok (.iload_n 1, 1) := by decide +kernel
theorem dX12_isHand_1 : decode cX12_isHand 1 = .ok (.ifCond .lt 17, 3) := by decide +kernel
theorem dX12_isHand_4 : decode cX12_isHand 4 = .ok (.iload_n 1, 1) := by decide +kernel
theorem dX12_isHand_5 : decode cX12_isHand 5 = .ok (.aload_n 0, 1) := by decide +kernel
theorem dX12_isHand_6 : decode cX12_isHand 6 = .ok (.getfield 39, 3) := by decide +kernel
theorem dX12_isHand_9 : decode cX12_isHand 9 = .ok (.iconst 4, 1) := by decide +kernel
theorem dX12_isHand_10 : decode cX12_isHand 10 = .ok (.iaload, 1) := by decide +kernel
theorem dX12_isHand_11 : decode cX12_isHand 11 = .ok (.if_icmp .ge 7, 3) := by decide +kernel
theorem dX12_isHand_14 : decode cX12_isHand 14 = .ok (.iconst 1, 1) := by decide +kernel
theorem dX12_isHand_15 : decode cX12_isHand 15 = .ok (.goto 4, 3) := by decide +kernel
theorem dX12_isHand_18 : decode cX12_isHand 18 = .ok (.iconst 0, 1) := by decide +kernel
theorem dX12_isHand_19 : decode cX12_isHand 19 = .ok (.ireturn, 1) := by decide +kernel
def wp_X12_isHand (S : Sh) (M : Mm) (u0 : Int) (u1 : Int) (post : Int → Mm → Prop) : Prop := wIf (u1 < 0) (wC 0 fun v1 => (v1 = 0 ∨ v1 = 1) ∧ post v1 M) (wGetR S M u0 12 20 fun v3 => wC 4 fun v5 => wLd S M v3 14 v5 fun v7 => wIf (v7 ≤ u1) (wC 0 fun v9 => (v9 = 0 ∨ v9 = 1) ∧ post v9 M) (wC 1 fun v11 => (v11 = 0 ∨ v11 = 1) ∧ post v11 M))
set_option maxHeartbeats 4000000 in
set_option maxRecDepth 100000 in
theorem c_X12_isHand (l : Launch) (D : va_G) (G : Gt) (S : Sh) (M : Mm) (xl0 : Int) (zl1 : Int32) (post : Int → Mm → Prop) (h : wp_X12_isHand S M xl0 zl1.toInt post) : Met l yX12_isHand (cw_X12_isHand :: gw) RM_X12_isHand (va_Pc [.ref (adr G xl0), .int zl1] (fun U => KN D G U ∧ Wd D G S M U.heap)) (QI D G S post) 0 0 (aG G) := by
  refine Met.ofW (cc := cX12_isHand) (maxL := 2) (ret := (some .boolean)) (by decide) rfl ?_
  intro p e s m args below meth c s₁ B hml hv
  obtain ⟨rfl, hK, hP⟩ := hv
  have hx := B.exec
  have hb := B.bytes
  have hr := B.returns
  have hts := atoms_spec (ws := cw_X12_isHand :: gw) B.pre
  have hown : s.vm.findClass RX12 = some m.cls := findClass_of_methodNamed B.named
  have hlocks := B.notSynchronized
  have hS : va_S (aG G) s.heap s.heap [] := va_S.rf
  have C : Cx p s m ([.ref (adr G xl0), .int zl1] : List Value).toArray meth c D G cX12_isHand 2 (some .boolean) (cw_X12_isHand :: gw) RX12 := ⟨hx, hb, hr, hlocks, hml, hown, hts, hK⟩
  have hl := lv_entry ([.ref (adr G xl0), .int zl1]) (n := 2) (Nat.le_of_ble_eq_true rfl)
  rw [lg_entry_eq]
  generalize (lg_sl ([.ref (adr G xl0), .int zl1]) ++ List.replicate (2 - (lg_sl ([.ref (adr G xl0), .int zl1])).length) Slot.unset).toArray = ls at hl ⊢
  have hl : lv_has ls 2 [(0, .ref (adr G xl0)), (1, .int zl1)] := hl
  unfold wp_X12_isHand at h
  refine lv_iload_n hx hb dX12_isHand_0 rfl (lv_at hl 1 rfl) ?_
  refine r_if_lt (tgt := 18) hx hb dX12_isHand_1 (by decide) h (fun h => ?_) (fun h => ?_)
  · refine r_iconst hx hb dX12_isHand_18 (by decide) h (fun z2 h => ?_)
    exact r_zret hx hb hr hlocks hP hS dX12_isHand_19 h
  · refine lv_iload_n hx hb dX12_isHand_4 rfl (lv_at hl 1 rfl) ?_
    refine lv_aload_n hx hb dX12_isHand_5 rfl (lv_at hl 0 rfl) ?_
    refine r_getr (C := RX12) (T := TX12) (N := 38) hx hb hts (fun w h => List.mem_cons_of_mem _ (iX12 w h)) hown hK hP rfl (by decide) rfl 20 (by decide) (hts _ (List.mem_cons_of_mem _ kw_1354)) (fun _ h9 => h9) dX12_isHand_6 (by decide) h (fun x4 h => ?_)
    refine r_iconst hx hb dX12_isHand_9 (by decide) h (fun z6 h => ?_)
    refine r_iald hx hb hK hP dX12_isHand_10 h (fun z8 h => ?_)
    refine r_icmp_ge (tgt := 18) hx hb dX12_isHand_11 (by decide) h (fun h => ?_) (fun h => ?_)
    · refine r_iconst hx hb dX12_isHand_18 (by decide) h (fun z10 h => ?_)
      exact r_zret hx hb hr hlocks hP hS dX12_isHand_19 h
    · refine r_iconst hx hb dX12_isHand_14 (by decide) h (fun z12 h => ?_)
      refine lv_goto (tgt := 19) hx hb dX12_isHand_15 (by decide) ?_
      exact r_zret hx hb hr hlocks hP hS dX12_isHand_19 h
/-! TurningMilkModel.handOf(II)I -/
abbrev RM_X12_handOf : Room := { frames := 1, cells := 0, slots := 0, locals := 40 }
def cw_X12_handOf : Cond := Cond.code yX12_handOf cX12_handOf 3 (Option.some FieldType.int)
theorem hd_X12_handOf : yX12_handOf.cls ≠ "java/lang/invoke/MethodHandle" ∧ yX12_handOf.cls ≠ "java/lang/invoke/VarHandle" ∧ (parseMethodDescriptor yX12_handOf.desc).map (fun d => d.parameters.length) = some 2 := by decide +kernel
theorem dX12_handOf_0 : decode cX12_handOf 0 = .ok (.aload_n 0, 1) := by decide +kernel
theorem dX12_handOf_1 : decode cX12_handOf 1 = .ok (.getfield 39, 3) := by decide +kernel
theorem dX12_handOf_4 : decode cX12_handOf 4 = .ok (.bipush 10, 2) := by decide +kernel
theorem dX12_handOf_6 : decode cX12_handOf 6 = .ok (.iconst 5, 1) := by decide +kernel
theorem dX12_handOf_7 : decode cX12_handOf 7 = .ok (.iload_n 1, 1) := by decide +kernel
theorem dX12_handOf_8 : decode cX12_handOf 8 = .ok (.imul, 1) := by decide +kernel
theorem dX12_handOf_9 : decode cX12_handOf 9 = .ok (.iadd, 1) := by decide +kernel
theorem dX12_handOf_10 : decode cX12_handOf 10 = .ok (.iload_n 2, 1) := by decide +kernel
theorem dX12_handOf_11 : decode cX12_handOf 11 = .ok (.iadd, 1) := by decide +kernel
theorem dX12_handOf_12 : decode cX12_handOf 12 = .ok (.iaload, 1) := by decide +kernel
theorem dX12_handOf_13 : decode cX12_handOf 13 = .ok (.ireturn, 1) := by decide +kernel
def wp_X12_handOf (S : Sh) (M : Mm) (u0 : Int) (u1 : Int) (u2 : Int) (post : Int → Mm → Prop) : Prop := wGetR S M u0 12 20 fun v1 => wC 10 fun v3 => wC 5 fun v5 => wM v5 u1 fun v7 => wA v3 v7 fun v9 => wA v9 u2 fun v11 => wLd S M v1 14 v11 fun v13 => post v13 M
set_option maxHeartbeats 4000000 in
set_option maxRecDepth 100000 in
theorem c_X12_handOf (l : Launch) (D : va_G) (G : Gt) (S : Sh) (M : Mm) (xl0 : Int) (zl1 : Int32) (zl2 : Int32) (post : Int → Mm → Prop) (h : wp_X12_handOf S M xl0 zl1.toInt zl2.toInt post) : Met l yX12_handOf (cw_X12_handOf :: gw) RM_X12_handOf (va_Pc [.ref (adr G xl0), .int zl1, .int zl2] (fun U => KN D G U ∧ Wd D G S M U.heap)) (QI D G S post) 0 0 (aG G) := by
  refine Met.ofW (cc := cX12_handOf) (maxL := 3) (ret := (some .int)) (by decide) rfl ?_
  intro p e s m args below meth c s₁ B hml hv
  obtain ⟨rfl, hK, hP⟩ := hv
  have hx := B.exec
  have hb := B.bytes
  have hr := B.returns
  have hts := atoms_spec (ws := cw_X12_handOf :: gw) B.pre
  have hown : s.vm.findClass RX12 = some m.cls := findClass_of_methodNamed B.named
  have hlocks := B.notSynchronized
  have hS : va_S (aG G) s.heap s.heap [] := va_S.rf
  have C : Cx p s m ([.ref (adr G xl0), .int zl1, .int zl2] : List Value).toArray meth c D G cX12_handOf 3 (some .int) (cw_X12_handOf :: gw) RX12 := ⟨hx, hb, hr, hlocks, hml, hown, hts, hK⟩
  have hl := lv_entry ([.ref (adr G xl0), .int zl1, .int zl2]) (n := 3) (Nat.le_of_ble_eq_true rfl)
  rw [lg_entry_eq]
  generalize (lg_sl ([.ref (adr G xl0), .int zl1, .int zl2]) ++ List.replicate (3 - (lg_sl ([.ref (adr G xl0), .int zl1, .int zl2])).length) Slot.unset).toArray = ls at hl ⊢
  have hl : lv_has ls 3 [(0, .ref (adr G xl0)), (1, .int zl1), (2, .int zl2)] := hl
  unfold wp_X12_handOf at h
  refine lv_aload_n hx hb dX12_handOf_0 rfl (lv_at hl 0 rfl) ?_
  refine r_getr (C := RX12) (T := TX12) (N := 38) hx hb hts (fun w h => List.mem_cons_of_mem _ (iX12 w h)) hown hK hP rfl (by decide) rfl 20 (by decide) (hts _ (List.mem_cons_of_mem _ kw_1354)) (fun _ h9 => h9) dX12_handOf_1 (by decide) h (fun x2 h => ?_)
  refine r_bipush hx hb dX12_handOf_4 (by decide) h (fun z4 h => ?_)
  refine r_iconst hx hb dX12_handOf_6 (by decide) h (fun z6 h => ?_)
  refine lv_iload_n hx hb dX12_handOf_7 rfl (lv_at hl 1 rfl) ?_
  refine r_imul hx hb dX12_handOf_8 h (fun z8 h => ?_)
  refine r_iadd hx hb dX12_handOf_9 h (fun z10 h => ?_)
  refine lv_iload_n hx hb dX12_handOf_10 rfl (lv_at hl 2 rfl) ?_
  refine r_iadd hx hb dX12_handOf_11 h (fun z12 h => ?_)
  refine r_iald hx hb hK hP dX12_handOf_12 h (fun z14 h => ?_)
  exact r_iret hx hb hr hlocks hP hS dX12_handOf_13 h
/-! TurningMilkModel.jugOf(II)I -/
abbrev RM_X12_jugOf : Room := { frames := 1, cells := 0, slots := 0, locals := 40 }
def cw_X12_jugOf : Cond := Cond.code yX12_jugOf cX12_jugOf 3 (Option.some FieldType.int)
theorem hd_X12_jugOf : yX12_jugOf.cls ≠ "java/lang/invoke/MethodHandle" ∧ yX12_jugOf.cls ≠ "java/lang/invoke/VarHandle" ∧ (parseMethodDescriptor yX12_jugOf.desc).map (fun d => d.parameters.length) = some 2 := by decide +kernel
theorem dX12_jugOf_0 : decode cX12_jugOf 0 = .ok (.aload_n 0, 1) := by decide +kernel
theorem dX12_jugOf_1 : decode cX12_jugOf 1 = .ok (.getfield 39, 3) := by decide +kernel
theorem dX12_jugOf_4 : decode cX12_jugOf 4 = .ok (.bipush 35, 2) := by decide +kernel
theorem dX12_jugOf_6 : decode cX12_jugOf 6 = .ok (.iconst 4, 1) := by decide +kernel
theorem dX12_jugOf_7 : decode cX12_jugOf 7 = .ok (.iload_n 1, 1) := by decide +kernel
theorem dX12_jugOf_8 : decode cX12_jugOf 8 = .ok (.imul, 1) := by decide +kernel
theorem dX12_jugOf_9 : decode cX12_jugOf 9 = .ok (.iadd, 1) := by decide +kernel
theorem dX12_jugOf_10 : decode cX12_jugOf 10 = .ok (.iload_n 2, 1) := by decide +kernel
theorem dX12_jugOf_11 : decode cX12_jugOf 11 = .ok (.iadd, 1) := by decide +kernel
theorem dX12_jugOf_12 : decode cX12_jugOf 12 = .ok (.iaload, 1) := by decide +kernel
theorem dX12_jugOf_13 : decode cX12_jugOf 13 = .ok (.ireturn, 1) := by decide +kernel
def wp_X12_jugOf (S : Sh) (M : Mm) (u0 : Int) (u1 : Int) (u2 : Int) (post : Int → Mm → Prop) : Prop := wGetR S M u0 12 20 fun v1 => wC 35 fun v3 => wC 4 fun v5 => wM v5 u1 fun v7 => wA v3 v7 fun v9 => wA v9 u2 fun v11 => wLd S M v1 14 v11 fun v13 => post v13 M
set_option maxHeartbeats 4000000 in
set_option maxRecDepth 100000 in
theorem c_X12_jugOf (l : Launch) (D : va_G) (G : Gt) (S : Sh) (M : Mm) (xl0 : Int) (zl1 : Int32) (zl2 : Int32) (post : Int → Mm → Prop) (h : wp_X12_jugOf S M xl0 zl1.toInt zl2.toInt post) : Met l yX12_jugOf (cw_X12_jugOf :: gw) RM_X12_jugOf (va_Pc [.ref (adr G xl0), .int zl1, .int zl2] (fun U => KN D G U ∧ Wd D G S M U.heap)) (QI D G S post) 0 0 (aG G) := by
  refine Met.ofW (cc := cX12_jugOf) (maxL := 3) (ret := (some .int)) (by decide) rfl ?_
  intro p e s m args below meth c s₁ B hml hv
  obtain ⟨rfl, hK, hP⟩ := hv
  have hx := B.exec
  have hb := B.bytes
  have hr := B.returns
  have hts := atoms_spec (ws := cw_X12_jugOf :: gw) B.pre
  have hown : s.vm.findClass RX12 = some m.cls := findClass_of_methodNamed B.named
  have hlocks := B.notSynchronized
  have hS : va_S (aG G) s.heap s.heap [] := va_S.rf
  have C : Cx p s m ([.ref (adr G xl0), .int zl1, .int zl2] : List Value).toArray meth c D G cX12_jugOf 3 (some .int) (cw_X12_jugOf :: gw) RX12 := ⟨hx, hb, hr, hlocks, hml, hown, hts, hK⟩
  have hl := lv_entry ([.ref (adr G xl0), .int zl1, .int zl2]) (n := 3) (Nat.le_of_ble_eq_true rfl)
  rw [lg_entry_eq]
  generalize (lg_sl ([.ref (adr G xl0), .int zl1, .int zl2]) ++ List.replicate (3 - (lg_sl ([.ref (adr G xl0), .int zl1, .int zl2])).length) Slot.unset).toArray = ls at hl ⊢
  have hl : lv_has ls 3 [(0, .ref (adr G xl0)), (1, .int zl1), (2, .int zl2)] := hl
  unfold wp_X12_jugOf at h
  refine lv_aload_n hx hb dX12_jugOf_0 rfl (lv_at hl 0 rfl) ?_
  refine r_getr (C := RX12) (T := TX12) (N := 38) hx hb hts (fun w h => List.mem_cons_of_mem _ (iX12 w h)) hown hK hP rfl (by decide) rfl 20 (by decide) (hts _ (List.mem_cons_of_mem _ kw_1354)) (fun _ h9 => h9) dX12_jugOf_1 (by decide) h (fun x2 h => ?_)
  refine r_bipush hx hb dX12_jugOf_4 (by decide) h (fun z4 h => ?_)
  refine r_iconst hx hb dX12_jugOf_6 (by decide) h (fun z6 h => ?_)
  refine lv_iload_n hx hb dX12_jugOf_7 rfl (lv_at hl 1 rfl) ?_
  refine r_imul hx hb dX12_jugOf_8 h (fun z8 h => ?_)
  refine r_iadd hx hb dX12_jugOf_9 h (fun z10 h => ?_)
  refine lv_iload_n hx hb dX12_jugOf_10 rfl (lv_at hl 2 rfl) ?_
  refine r_iadd hx hb dX12_jugOf_11 h (fun z12 h => ?_)
  refine r_iald hx hb hK hP dX12_jugOf_12 h (fun z14 h => ?_)
  exact r_iret hx hb hr hlocks hP hS dX12_jugOf_13 h
/-! TurningMilkModel.held(I)I -/
abbrev RM_X12_held : Room := { frames := 2, cells := 0, slots := 0, locals := 62 }
def cw_X12_held : Cond := Cond.code yX12_held cX12_held 4 (Option.some FieldType.int)
theorem hd_X12_held : yX12_held.cls ≠ "java/lang/invoke/MethodHandle" ∧ yX12_held.cls ≠ "java/lang/invoke/VarHandle" ∧ (parseMethodDescriptor yX12_held.desc).map (fun d => d.parameters.length) = some 1 := by decide +kernel
theorem dX12_held_0 : decode cX12_held 0 = .ok (.iconst 0, 1) := by decide +kernel
theorem dX12_held_1 : decode cX12_held 1 = .ok (.istore_n 2, 1) := by decide +kernel
theorem dX12_held_2 : decode cX12_held 2 = .ok (.iconst 0, 1) := by decide +kernel
theorem dX12_held_3 : decode cX12_held 3 = .ok (.istore_n 3, 1) := by decide +kernel
theorem dX12_held_4 : decode cX12_held 4 = .ok (.iload_n 3, 1) := by decide +kernel
theorem dX12_held_5 : decode cX12_held 5 = .ok (.aload_n 0, 1) := by decide +kernel
theorem dX12_held_6 : decode cX12_held 6 = .ok (.getfield 39, 3) := by decide +kernel
theorem dX12_held_9 : decode cX12_held 9 = .ok (.iconst 5, 1) := by decide +kernel
theorem dX12_held_10 : decode cX12_held 10 = .ok (.iaload, 1) := by decide +kernel
theorem dX12_held_11 : decode cX12_held 11 = .ok (.if_icmp .ge 29, 3) := by decide +kernel
theorem dX12_held_14 : decode cX12_held 14 = .ok (.iload_n 2, 1) := by decide +kernel
theorem dX12_held_15 : decode cX12_held 15 = .ok (.aload_n 0, 1) := by decide +kernel
theorem dX12_held_16 : decode cX12_held 16 = .ok (.iload_n 3, 1) := by decide +kernel
theorem dX12_held_17 : decode cX12_held 17 = .ok (.iconst 1, 1) := by decide +kernel
theorem dX12_held_18 : decode cX12_held 18 = .ok (.invokevirtual 284, 3) := by decide +kernel
theorem dX12_held_21 : decode cX12_held 21 = .ok (.iload_n 1, 1) := by decide +kernel
theorem dX12_held_22 : decode cX12_held 22 = .ok (.if_icmp .ne 9, 3) := by decide +kernel
theorem dX12_held_25 : decode cX12_held 25 = .ok (.iconst 1, 1) := by decide +kernel
theorem dX12_held_26 : decode cX12_held 26 = .ok (.iload_n 3, 1) := by decide +kernel
theorem dX12_held_27 : decode cX12_held 27 = .ok (.ishl, 1) := by decide +kernel
theorem dX12_held_28 : decode cX12_held 28 = .ok (.goto 4, 3) := by decide +kernel
theorem dX12_held_31 : decode cX12_held 31 = .ok (.iconst 0, 1) := by decide +kernel
theorem dX12_held_32 : decode cX12_held 32 = .ok (.ior, 1) := by decide +kernel
theorem dX12_held_33 : decode cX12_held 33 = .ok (.istore_n 2, 1) := by decide +kernel
theorem dX12_held_34 : decode cX12_held 34 = .ok (.iinc 3 1, 3) := by decide +kernel
theorem dX12_held_37 : decode cX12_held 37 = .ok (.goto (-33), 3) := by decide +kernel
theorem dX12_held_40 : decode cX12_held 40 = .ok (.iload_n 2, 1) := by decide +kernel
theorem dX12_held_41 : decode cX12_held 41 = .ok (.ireturn, 1) := by decide +kernel
def wp_X12_held_32 (S : Sh) (k4 : Int → Int → Int → Int → Mm → Prop) (post : Int → Mm → Prop) (u0 : Int) (u1 : Int) (u3 : Int) (t0 : Int) (t1 : Int) (M : Mm) : Prop := wO iOr t0 t1 fun v1 => wA u3 1 fun v3 => k4 u0 u1 v1 v3 M
def wp_X12_held_4 (S : Sh) (post : Int → Mm → Prop) : Nat → Int → Int → Int → Int → Mm → Prop
  | 0, _, _, _, _, _ => False
  | n + 1, u0, u1, u2, u3, M => wGetR S M u0 12 20 fun v5 => wC 5 fun v7 => wLd S M v5 14 v7 fun v9 => wIf (v9 ≤ u3) (post u2 M) (wC 1 fun v11 => isK S u0 12 ∧ (wp_X12_jugOf S M u0 u3 v11 <| fun v14 M13 => wIf (¬ v14 = u1) (wC 0 fun v16 => wp_X12_held_32 S (fun a0 a1 a2 a3 M => wp_X12_held_4 S post n a0 a1 a2 a3 M) post u0 u1 u3 u2 v16 M13) (wC 1 fun v18 => wO iShl v18 u3 fun v20 => wp_X12_held_32 S (fun a0 a1 a2 a3 M => wp_X12_held_4 S post n a0 a1 a2 a3 M) post u0 u1 u3 u2 v20 M13)))
def wp_X12_held (S : Sh) (M : Mm) (u0 : Int) (u1 : Int) (post : Int → Mm → Prop) : Prop := wC 0 fun v22 => wC 0 fun v24 => ∃ n9 : Nat, wp_X12_held_4 S post n9 u0 u1 v22 v24 M
set_option maxHeartbeats 4000000 in
set_option maxRecDepth 100000 in
theorem t_X12_held_32 {p : Program} {l : Launch} {e : Env} {s : State} {m : MethodId} {args : Array Value} {below : List Frame} {meth : Method} {c : Code} {D : va_G} {G : Gt} {S : Sh} {post : Int → Mm → Prop} {k4 : Int → Int → Int → Int → Mm → Prop} (C : Cx p s m args meth c D G cX12_held 4 (some .int) (cw_X12_held :: gw) RX12) (hk4 : ∀ (y0 : Int) (y1 : Int32) (y2 : Int32) (y3 : Int32) (M : Mm) (H : Heap) (locs : List Loc) (ls : Array Slot), Wd D G S M H → va_S (aG G) s.heap H locs → lv_has ls 4 [(0, .ref (adr G y0)), (1, .int y1), (2, .int y2), (3, .int y3)] → k4 y0 y1.toInt y2.toInt y3.toInt M → W p l e RM_X12_held s m args below meth c H locs 0 0 (MQ below (QI D G S post) args s 0 0 (aG G)) (F0 m 4 ls [])) : ∀ (xl0 : Int) (zl1 : Int32) (zl3 : Int32) (zs0 : Int32) (zs1 : Int32) (M : Mm) (H : Heap) (locs : List Loc) (ls : Array Slot), Wd D G S M H → va_S (aG G) s.heap H locs → lv_has ls 4 [(0, .ref (adr G xl0)), (1, .int zl1), (3, .int zl3)] → wp_X12_held_32 S k4 post xl0 zl1.toInt zl3.toInt zs0.toInt zs1.toInt M → W p l e RM_X12_held s m args below meth c H locs 0 0 (MQ below (QI D G S post) args s 0 0 (aG G)) (F0 m 32 ls [.int zs1, .int zs0]) := by
  obtain ⟨hx, hb, hr, hlocks, hml, hown, hts, hK⟩ := id C
  intro xl0 zl1 zl3 zs0 zs1 M H locs ls hP hS hl h
  unfold wp_X12_held_32 at h
  refine r_ior hx hb dX12_held_32 h (fun z2 h => ?_)
  refine lv_istore_n (lv' := [(2, .int z2), (0, .ref (adr G xl0)), (1, .int zl1), (3, .int zl3)]) hx hb dX12_held_33 rfl hl (by decide) rfl (fun ls hl => ?_)
  refine r_iinc hx hb (fun z4 => [(3, .int z4), (2, .int z2), (0, .ref (adr G xl0)), (1, .int zl1)]) dX12_held_34 (by decide) hl (k := 3) rfl (by decide) (fun _ => rfl) h (fun z4 ls hl h => ?_)
  refine lv_goto (tgt := 4) hx hb dX12_held_37 (by decide) ?_
  exact hk4 xl0 zl1 z2 z4 _ _ _ _ hP hS (lv_sub hl [2, 3, 1, 0] rfl) h
set_option maxHeartbeats 4000000 in
set_option maxRecDepth 100000 in
theorem t_X12_held_4 {p : Program} {l : Launch} {e : Env} {s : State} {m : MethodId} {args : Array Value} {below : List Frame} {meth : Method} {c : Code} {D : va_G} {G : Gt} {S : Sh} {post : Int → Mm → Prop} (C : Cx p s m args meth c D G cX12_held 4 (some .int) (cw_X12_held :: gw) RX12) : ∀ (n : Nat) (xl0 : Int) (zl1 : Int32) (zl2 : Int32) (zl3 : Int32) (M : Mm) (H : Heap) (locs : List Loc) (ls : Array Slot), Wd D G S M H → va_S (aG G) s.heap H locs → lv_has ls 4 [(0, .ref (adr G xl0)), (1, .int zl1), (2, .int zl2), (3, .int zl3)] → wp_X12_held_4 S post n xl0 zl1.toInt zl2.toInt zl3.toInt  M → W p l e RM_X12_held s m args below meth c H locs 0 0 (MQ below (QI D G S post) args s 0 0 (aG G)) (F0 m 4 ls []) := by
  obtain ⟨hx, hb, hr, hlocks, hml, hown, hts, hK⟩ := id C
  intro n
  induction n with
  | zero => intro xl0 zl1 zl2 zl3 M H locs ls hP hS hl h; exact h.elim
  | succ n ih =>
    intro xl0 zl1 zl2 zl3 M H locs ls hP hS hl h
    unfold wp_X12_held_4 at h
    refine lv_iload_n hx hb dX12_held_4 rfl (lv_at hl 3 rfl) ?_
    refine lv_aload_n hx hb dX12_held_5 rfl (lv_at hl 0 rfl) ?_
    refine r_getr (C := RX12) (T := TX12) (N := 38) hx hb hts (fun w h => List.mem_cons_of_mem _ (iX12 w h)) hown hK hP rfl (by decide) rfl 20 (by decide) (hts _ (List.mem_cons_of_mem _ kw_1354)) (fun _ h9 => h9) dX12_held_6 (by decide) h (fun x6 h => ?_)
    refine r_iconst hx hb dX12_held_9 (by decide) h (fun z8 h => ?_)
    refine r_iald hx hb hK hP dX12_held_10 h (fun z10 h => ?_)
    refine r_icmp_ge (tgt := 40) hx hb dX12_held_11 (by decide) h (fun h => ?_) (fun h => ?_)
    · refine lv_iload_n hx hb dX12_held_40 rfl (lv_at hl 2 rfl) ?_
      exact r_iret hx hb hr hlocks hP hS dX12_held_41 h
    · refine lv_iload_n hx hb dX12_held_14 rfl (lv_at hl 2 rfl) ?_
      refine lv_aload_n hx hb dX12_held_15 rfl (lv_at hl 0 rfl) ?_
      refine lv_iload_n hx hb dX12_held_16 rfl (lv_at hl 3 rfl) ?_
      refine r_iconst hx hb dX12_held_17 (by decide) h (fun z12 h => ?_)
      refine q_Vi hx hb hml hown hts hK hP hS (c_X12_jugOf l D G S _ xl0 zl3 z12 _ h.2) ⟨callB_of 2 hts (gw_good kw_1658) rfl rfl rfl (hts _ (List.mem_cons_of_mem _ kw_14)) (hts _ (List.mem_cons_of_mem _ kw_1655)) hd_X12_jugOf ⟨Nat.le_of_ble_eq_true rfl, Nat.le_of_ble_eq_true rfl⟩, (hts _ (List.mem_cons_of_mem _ kw_1657)), (hts _ (List.mem_cons_of_mem _ kp_90))⟩ h.1 (ci := 12) rfl (by decide) rfl hl.1 rfl (lv_room (Nat.le_of_ble_eq_true rfl)) dX12_held_18 ⟨Nat.zero_le _, Nat.zero_le _⟩ (fun z15 M13 H locs h hP hS => ?_)
      refine lv_iload_n hx hb dX12_held_21 rfl (lv_at hl 1 rfl) ?_
      refine r_icmp_ne (tgt := 31) hx hb dX12_held_22 (by decide) h (fun h => ?_) (fun h => ?_)
      · refine r_iconst hx hb dX12_held_31 (by decide) h (fun z17 h => ?_)
        exact t_X12_held_32 C ih xl0 zl1 zl3 zl2 z17 _ _ _ _ hP hS (lv_sub hl [0, 1, 3] rfl) h
      · refine r_iconst hx hb dX12_held_25 (by decide) h (fun z19 h => ?_)
        refine lv_iload_n hx hb dX12_held_26 rfl (lv_at hl 3 rfl) ?_
        refine r_ishl hx hb dX12_held_27 h (fun z21 h => ?_)
        refine lv_goto (tgt := 32) hx hb dX12_held_28 (by decide) ?_
        exact t_X12_held_32 C ih xl0 zl1 zl3 zl2 z21 _ _ _ _ hP hS (lv_sub hl [0, 1, 3] rfl) h
set_option maxHeartbeats 4000000 in
set_option maxRecDepth 100000 in
theorem c_X12_held (l : Launch) (D : va_G) (G : Gt) (S : Sh) (M : Mm) (xl0 : Int) (zl1 : Int32) (post : Int → Mm → Prop) (h : wp_X12_held S M xl0 zl1.toInt post) : Met l yX12_held (cw_X12_held :: gw) RM_X12_held (va_Pc [.ref (adr G xl0), .int zl1] (fun U => KN D G U ∧ Wd D G S M U.heap)) (QI D G S post) 0 0 (aG G) := by
  refine Met.ofW (cc := cX12_held) (maxL := 4) (ret := (some .int)) (by decide) rfl ?_
  intro p e s m args below meth c s₁ B hml hv
  obtain ⟨rfl, hK, hP⟩ := hv
  have hx := B.exec
  have hb := B.bytes
  have hr := B.returns
  have hts := atoms_spec (ws := cw_X12_held :: gw) B.pre
  have hown : s.vm.findClass RX12 = some m.cls := findClass_of_methodNamed B.named
  have hlocks := B.notSynchronized
  have hS : va_S (aG G) s.heap s.heap [] := va_S.rf
  have C : Cx p s m ([.ref (adr G xl0), .int zl1] : List Value).toArray meth c D G cX12_held 4 (some .int) (cw_X12_held :: gw) RX12 := ⟨hx, hb, hr, hlocks, hml, hown, hts, hK⟩
  have hl := lv_entry ([.ref (adr G xl0), .int zl1]) (n := 4) (Nat.le_of_ble_eq_true rfl)
  rw [lg_entry_eq]
  generalize (lg_sl ([.ref (adr G xl0), .int zl1]) ++ List.replicate (4 - (lg_sl ([.ref (adr G xl0), .int zl1])).length) Slot.unset).toArray = ls at hl ⊢
  have hl : lv_has ls 4 [(0, .ref (adr G xl0)), (1, .int zl1)] := hl
  unfold wp_X12_held at h
  refine r_iconst hx hb dX12_held_0 (by decide) h (fun z23 h => ?_)
  refine lv_istore_n (lv' := [(2, .int z23), (0, .ref (adr G xl0)), (1, .int zl1)]) hx hb dX12_held_1 rfl hl (by decide) rfl (fun ls hl => ?_)
  refine r_iconst hx hb dX12_held_2 (by decide) h (fun z25 h => ?_)
  refine lv_istore_n (lv' := [(3, .int z25), (2, .int z23), (0, .ref (adr G xl0)), (1, .int zl1)]) hx hb dX12_held_3 rfl hl (by decide) rfl (fun ls hl => ?_)
  obtain ⟨n9, h⟩ := h
  exact t_X12_held_4 C n9 xl0 zl1 z23 z25 _ _ _ _ hP hS (lv_sub hl [2, 3, 1, 0] rfl) h
/-! TurningMilkModel.hand(II)I -/
abbrev RM_X12_hand : Room := { frames := 3, cells := 0, slots := 0, locals := 85 }
def cw_X12_hand : Cond := Cond.code yX12_hand cX12_hand 3 (Option.some FieldType.int)
theorem hd_X12_hand : yX12_hand.cls ≠ "java/lang/invoke/MethodHandle" ∧ yX12_hand.cls ≠ "java/lang/invoke/VarHandle" ∧ (parseMethodDescriptor yX12_hand.desc).map (fun d => d.parameters.length) = some 2 := by decide +kernel
theorem dX12_hand_0 : decode cX12_hand 0 = .ok (.aload_n 0, 1) := by decide +kernel
theorem dX12_hand_1 : decode cX12_hand 1 = .ok (.iload_n 1, 1) := by decide +kernel
theorem dX12_hand_2 : decode cX12_hand 2 = .ok (.invokevirtual 301, 3) := by decide +kernel
theorem dX12_hand_5 : decode cX12_hand 5 = .ok (.ifCond .eq 15, 3) := by decide +kernel
theorem dX12_hand_8 : decode cX12_hand 8 = .ok (.iload_n 2, 1) := by decide +kernel
theorem dX12_hand_9 : decode cX12_hand 9 = .ok (.i2l, 1) := by decide +kernel
theorem dX12_hand_10 : decode cX12_hand 10 = .ok (.lconst 0, 1) := by decide +kernel
theorem dX12_hand_11 : decode cX12_hand 11 = .ok (.ldc2_w 304, 3) := by decide +kernel
theorem dX12_hand_14 : decode cX12_hand 14 = .ok (.invokestatic 118, 3) := by decide +kernel
theorem dX12_hand_17 : decode cX12_hand 17 = .ok (.ifCond .ne 5, 3) := by decide +kernel
theorem dX12_hand_20 : decode cX12_hand 20 = .ok (.iconst (-1), 1) := by decide +kernel
theorem dX12_hand_21 : decode cX12_hand 21 = .ok (.ireturn, 1) := by decide +kernel
theorem dX12_hand_22 : decode cX12_hand 22 = .ok (.iload_n 2, 1) := by decide +kernel
theorem dX12_hand_23 : decode cX12_hand 23 = .ok (.iconst 3, 1) := by decide +kernel
theorem dX12_hand_24 : decode cX12_hand 24 = .ok (.if_icmp .ge 12, 3) := by decide +kernel
theorem dX12_hand_27 : decode cX12_hand 27 = .ok (.aload_n 0, 1) := by decide +kernel
theorem dX12_hand_28 : decode cX12_hand 28 = .ok (.iload_n 1, 1) := by decide +kernel
theorem dX12_hand_29 : decode cX12_hand 29 = .ok (.iload_n 2, 1) := by decide +kernel
theorem dX12_hand_30 : decode cX12_hand 30 = .ok (.invokevirtual 306, 3) := by decide +kernel
theorem dX12_hand_33 : decode cX12_hand 33 = .ok (.goto 24, 3) := by decide +kernel
theorem dX12_hand_36 : decode cX12_hand 36 = .ok (.iload_n 2, 1) := by decide +kernel
theorem dX12_hand_37 : decode cX12_hand 37 = .ok (.iconst 3, 1) := by decide +kernel
theorem dX12_hand_38 : decode cX12_hand 38 = .ok (.if_icmp .ne 11, 3) := by decide +kernel
theorem dX12_hand_41 : decode cX12_hand 41 = .ok (.aload_n 0, 1) := by decide +kernel
theorem dX12_hand_42 : decode cX12_hand 42 = .ok (.iload_n 1, 1) := by decide +kernel
theorem dX12_hand_43 : decode cX12_hand 43 = .ok (.invokevirtual 309, 3) := by decide +kernel
theorem dX12_hand_46 : decode cX12_hand 46 = .ok (.goto 11, 3) := by decide +kernel
theorem dX12_hand_49 : decode cX12_hand 49 = .ok (.aload_n 0, 1) := by decide +kernel
theorem dX12_hand_50 : decode cX12_hand 50 = .ok (.iload_n 1, 1) := by decide +kernel
theorem dX12_hand_51 : decode cX12_hand 51 = .ok (.iload_n 2, 1) := by decide +kernel
theorem dX12_hand_52 : decode cX12_hand 52 = .ok (.iconst 1, 1) := by decide +kernel
theorem dX12_hand_53 : decode cX12_hand 53 = .ok (.isub, 1) := by decide +kernel
theorem dX12_hand_54 : decode cX12_hand 54 = .ok (.invokevirtual 306, 3) := by decide +kernel
theorem dX12_hand_57 : decode cX12_hand 57 = .ok (.ireturn, 1) := by decide +kernel
def wp_X12_hand (S : Sh) (M : Mm) (u0 : Int) (u1 : Int) (u2 : Int) (post : Int → Mm → Prop) : Prop := isK S u0 12 ∧ (wp_X12_isHand S M u0 u1 <| fun v2 M1 => wIf (v2 = 0) (wC (-1) fun v4 => post v4 M1) (wC u2 fun v6 => wC 0 fun v8 => wC 5 fun v10 => wp_X12_in S M1 v6 v8 v10 <| fun v13 M12 => wIf (¬ v13 = 0) (wC 3 fun v15 => wIf (v15 ≤ u2) (wC 3 fun v17 => wIf (¬ u2 = v17) (wC 1 fun v19 => wS u2 v19 fun v21 => isK S u0 12 ∧ (wp_X12_handOf S M12 u0 u1 v21 <| fun v24 M23 => post v24 M23)) (isK S u0 12 ∧ (wp_X12_held S M12 u0 u1 <| fun v27 M26 => post v27 M26))) (isK S u0 12 ∧ (wp_X12_handOf S M12 u0 u1 u2 <| fun v30 M29 => post v30 M29))) (wC (-1) fun v32 => post v32 M12)))
set_option maxHeartbeats 4000000 in
set_option maxRecDepth 100000 in
theorem c_X12_hand (l : Launch) (D : va_G) (G : Gt) (S : Sh) (M : Mm) (xl0 : Int) (zl1 : Int32) (zl2 : Int32) (post : Int → Mm → Prop) (h : wp_X12_hand S M xl0 zl1.toInt zl2.toInt post) : Met l yX12_hand (cw_X12_hand :: gw) RM_X12_hand (va_Pc [.ref (adr G xl0), .int zl1, .int zl2] (fun U => KN D G U ∧ Wd D G S M U.heap)) (QI D G S post) 0 0 (aG G) := by
  refine Met.ofW (cc := cX12_hand) (maxL := 3) (ret := (some .int)) (by decide) rfl ?_
  intro p e s m args below meth c s₁ B hml hv
  obtain ⟨rfl, hK, hP⟩ := hv
  have hx := B.exec
  have hb := B.bytes
  have hr := B.returns
  have hts := atoms_spec (ws := cw_X12_hand :: gw) B.pre
  have hown : s.vm.findClass RX12 = some m.cls := findClass_of_methodNamed B.named
  have hlocks := B.notSynchronized
  have hS : va_S (aG G) s.heap s.heap [] := va_S.rf
  have C : Cx p s m ([.ref (adr G xl0), .int zl1, .int zl2] : List Value).toArray meth c D G cX12_hand 3 (some .int) (cw_X12_hand :: gw) RX12 := ⟨hx, hb, hr, hlocks, hml, hown, hts, hK⟩
  have hl := lv_entry ([.ref (adr G xl0), .int zl1, .int zl2]) (n := 3) (Nat.le_of_ble_eq_true rfl)
  rw [lg_entry_eq]
  generalize (lg_sl ([.ref (adr G xl0), .int zl1, .int zl2]) ++ List.replicate (3 - (lg_sl ([.ref (adr G xl0), .int zl1, .int zl2])).length) Slot.unset).toArray = ls at hl ⊢
  have hl : lv_has ls 3 [(0, .ref (adr G xl0)), (1, .int zl1), (2, .int zl2)] := hl
  unfold wp_X12_hand at h
  refine lv_aload_n hx hb dX12_hand_0 rfl (lv_at hl 0 rfl) ?_
  refine lv_iload_n hx hb dX12_hand_1 rfl (lv_at hl 1 rfl) ?_
  refine q_Vi hx hb hml hown hts hK hP hS (c_X12_isHand l D G S _ xl0 zl1 _ h.2) ⟨callB_of 1 hts (gw_good kw_1645) rfl rfl rfl (hts _ (List.mem_cons_of_mem _ kw_14)) (hts _ (List.mem_cons_of_mem _ kw_1642)) hd_X12_isHand ⟨Nat.le_of_ble_eq_true rfl, Nat.le_of_ble_eq_true rfl⟩, (hts _ (List.mem_cons_of_mem _ kw_1644)), (hts _ (List.mem_cons_of_mem _ kp_87))⟩ h.1 (ci := 12) rfl (by decide) rfl hl.1 rfl (lv_room (Nat.le_of_ble_eq_true rfl)) dX12_hand_2 ⟨Nat.zero_le _, Nat.zero_le _⟩ (fun z3 M1 H locs h hP hS => ?_)
  refine r_if_eq (tgt := 20) hx hb dX12_hand_5 (by decide) h (fun h => ?_) (fun h => ?_)
  · refine r_iconst hx hb dX12_hand_20 (by decide) h (fun z5 h => ?_)
    exact r_iret hx hb hr hlocks hP hS dX12_hand_21 h
  · refine lv_iload_n hx hb dX12_hand_8 rfl (lv_at hl 2 rfl) ?_
    refine r_i2l hx hb dX12_hand_9 h (fun z7 h => ?_)
    refine r_lconst hx hb dX12_hand_10 (v := 0) (by decide) h (fun z9 h => ?_)
    refine r_ldc2 hx hb hown (hts _ (List.mem_cons_of_mem _ kw_1646)) dX12_hand_11 (n := 5) (by decide) h (fun z11 h => ?_)
    refine q_Si hx hb hml hown hts hK hP hS (c_X12_in l D G S _ z7 z9 z11 _ h) ⟨callB_of 3 hts (gw_good kw_1523) rfl rfl rfl (hts _ (List.mem_cons_of_mem _ kw_14)) (hts _ (List.mem_cons_of_mem _ kw_1521)) hd_X12_in ⟨Nat.le_of_ble_eq_true rfl, Nat.le_of_ble_eq_true rfl⟩, (hts _ (List.mem_cons_of_mem _ kw_1522))⟩ rfl hl.1 rfl (lv_room (Nat.le_of_ble_eq_true rfl)) dX12_hand_14 ⟨Nat.zero_le _, Nat.zero_le _⟩ (fun z14 M12 H locs h hP hS => ?_)
    refine r_if_ne (tgt := 22) hx hb dX12_hand_17 (by decide) h (fun h => ?_) (fun h => ?_)
    · refine lv_iload_n hx hb dX12_hand_22 rfl (lv_at hl 2 rfl) ?_
      refine r_iconst hx hb dX12_hand_23 (by decide) h (fun z16 h => ?_)
      refine r_icmp_ge (tgt := 36) hx hb dX12_hand_24 (by decide) h (fun h => ?_) (fun h => ?_)
      · refine lv_iload_n hx hb dX12_hand_36 rfl (lv_at hl 2 rfl) ?_
        refine r_iconst hx hb dX12_hand_37 (by decide) h (fun z18 h => ?_)
        refine r_icmp_ne (tgt := 49) hx hb dX12_hand_38 (by decide) h (fun h => ?_) (fun h => ?_)
        · refine lv_aload_n hx hb dX12_hand_49 rfl (lv_at hl 0 rfl) ?_
          refine lv_iload_n hx hb dX12_hand_50 rfl (lv_at hl 1 rfl) ?_
          refine lv_iload_n hx hb dX12_hand_51 rfl (lv_at hl 2 rfl) ?_
          refine r_iconst hx hb dX12_hand_52 (by decide) h (fun z20 h => ?_)
          refine r_isub hx hb dX12_hand_53 h (fun z22 h => ?_)
          refine q_Vi hx hb hml hown hts hK hP hS (c_X12_handOf l D G S _ xl0 zl1 z22 _ h.2) ⟨callB_of 2 hts (gw_good kw_1650) rfl rfl rfl (hts _ (List.mem_cons_of_mem _ kw_14)) (hts _ (List.mem_cons_of_mem _ kw_1647)) hd_X12_handOf ⟨Nat.le_of_ble_eq_true rfl, Nat.le_of_ble_eq_true rfl⟩, (hts _ (List.mem_cons_of_mem _ kw_1649)), (hts _ (List.mem_cons_of_mem _ kp_88))⟩ h.1 (ci := 12) rfl (by decide) rfl hl.1 rfl (lv_room (Nat.le_of_ble_eq_true rfl)) dX12_hand_54 ⟨Nat.zero_le _, Nat.zero_le _⟩ (fun z25 M23 H locs h hP hS => ?_)
          exact r_iret hx hb hr hlocks hP hS dX12_hand_57 h
        · refine lv_aload_n hx hb dX12_hand_41 rfl (lv_at hl 0 rfl) ?_
          refine lv_iload_n hx hb dX12_hand_42 rfl (lv_at hl 1 rfl) ?_
          refine q_Vi hx hb hml hown hts hK hP hS (c_X12_held l D G S _ xl0 zl1 _ h.2) ⟨callB_of 1 hts (gw_good kw_1654) rfl rfl rfl (hts _ (List.mem_cons_of_mem _ kw_14)) (hts _ (List.mem_cons_of_mem _ kw_1651)) hd_X12_held ⟨Nat.le_of_ble_eq_true rfl, Nat.le_of_ble_eq_true rfl⟩, (hts _ (List.mem_cons_of_mem _ kw_1653)), (hts _ (List.mem_cons_of_mem _ kp_89))⟩ h.1 (ci := 12) rfl (by decide) rfl hl.1 rfl (lv_room (Nat.le_of_ble_eq_true rfl)) dX12_hand_43 ⟨Nat.zero_le _, Nat.zero_le _⟩ (fun z28 M26 H locs h hP hS => ?_)
          refine lv_goto (tgt := 57) hx hb dX12_hand_46 (by decide) ?_
          exact r_iret hx hb hr hlocks hP hS dX12_hand_57 h
      · refine lv_aload_n hx hb dX12_hand_27 rfl (lv_at hl 0 rfl) ?_
        refine lv_iload_n hx hb dX12_hand_28 rfl (lv_at hl 1 rfl) ?_
        refine lv_iload_n hx hb dX12_hand_29 rfl (lv_at hl 2 rfl) ?_
        refine q_Vi hx hb hml hown hts hK hP hS (c_X12_handOf l D G S _ xl0 zl1 zl2 _ h.2) ⟨callB_of 2 hts (gw_good kw_1650) rfl rfl rfl (hts _ (List.mem_cons_of_mem _ kw_14)) (hts _ (List.mem_cons_of_mem _ kw_1647)) hd_X12_handOf ⟨Nat.le_of_ble_eq_true rfl, Nat.le_of_ble_eq_true rfl⟩, (hts _ (List.mem_cons_of_mem _ kw_1649)), (hts _ (List.mem_cons_of_mem _ kp_88))⟩ h.1 (ci := 12) rfl (by decide) rfl hl.1 rfl (lv_room (Nat.le_of_ble_eq_true rfl)) dX12_hand_30 ⟨Nat.zero_le _, Nat.zero_le _⟩ (fun z31 M29 H locs h hP hS => ?_)
        refine lv_goto (tgt := 57) hx hb dX12_hand_33 (by decide) ?_
        exact r_iret hx hb hr hlocks hP hS dX12_hand_57 h
    · refine r_iconst hx hb dX12_hand_20 (by decide) h (fun z33 h => ?_)
      exact r_iret hx hb hr hlocks hP hS dX12_hand_21 h
/-! TurningMilkModel.isJug(I)Z -/
abbrev RM_X12_isJug : Room := { frames := 1, cells := 0, slots := 0, locals := 40 }
def cw_X12_isJug : Cond := Cond.code yX12_isJug cX12_isJug 2 (Option.some FieldType.boolean)
theorem hd_X12_isJug : yX12_isJug.cls ≠ "java/lang/invoke/MethodHandle" ∧ yX12_isJug.cls ≠ "java/lang/invoke/VarHandle" ∧ (parseMethodDescriptor yX12_isJug.desc).map (fun d => d.parameters.length) = some 1 := by decide +kernel
theorem dX12_isJug_0 : decode cX12_isJug 0 = .ok (.iload_n 1, 1) := by decide +kernel
theorem dX12_isJug_1 : decode cX12_isJug 1 = .ok (.ifCond .lt 17, 3) := by decide +kernel
theorem dX12_isJug_4 : decode cX12_isJug 4 = .ok (.iload_n 1, 1) := by decide +kernel
theorem dX12_isJug_5 : decode cX12_isJug 5 = .ok (.aload_n 0, 1) := by decide +kernel
theorem dX12_isJug_6 : decode cX12_isJug 6 = .ok (.getfield 39, 3) := by decide +kernel
theorem dX12_isJug_9 : decode cX12_isJug 9 = .ok (.iconst 5, 1) := by decide +kernel
theorem dX12_isJug_10 : decode cX12_isJug 10 = .ok (.iaload, 1) := by decide +kernel
theorem dX12_isJug_11 : decode cX12_isJug 11 = .ok (.if_icmp .ge 7, 3) := by decide +kernel
theorem dX12_isJug_14 : decode cX12_isJug 14 = .ok (.iconst 1, 1) := by decide +kernel
theorem dX12_isJug_15 : decode cX12_isJug 15 = .ok (.goto 4, 3) := by decide +kernel
theorem dX12_isJug_18 : decode cX12_isJug 18 = .ok (.iconst 0, 1) := by decide +kernel
theorem dX12_isJug_19 : decode cX12_isJug 19 = .ok (.ireturn, 1) := by decide +kernel
def wp_X12_isJug (S : Sh) (M : Mm) (u0 : Int) (u1 : Int) (post : Int → Mm → Prop) : Prop := wIf (u1 < 0) (wC 0 fun v1 => (v1 = 0 ∨ v1 = 1) ∧ post v1 M) (wGetR S M u0 12 20 fun v3 => wC 5 fun v5 => wLd S M v3 14 v5 fun v7 => wIf (v7 ≤ u1) (wC 0 fun v9 => (v9 = 0 ∨ v9 = 1) ∧ post v9 M) (wC 1 fun v11 => (v11 = 0 ∨ v11 = 1) ∧ post v11 M))
set_option maxHeartbeats 4000000 in
set_option maxRecDepth 100000 in
theorem c_X12_isJug (l : Launch) (D : va_G) (G : Gt) (S : Sh) (M : Mm) (xl0 : Int) (zl1 : Int32) (post : Int → Mm → Prop) (h : wp_X12_isJug S M xl0 zl1.toInt post) : Met l yX12_isJug (cw_X12_isJug :: gw) RM_X12_isJug (va_Pc [.ref (adr G xl0), .int zl1] (fun U => KN D G U ∧ Wd D G S M U.heap)) (QI D G S post) 0 0 (aG G) := by
  refine Met.ofW (cc := cX12_isJug) (maxL := 2) (ret := (some .boolean)) (by decide) rfl ?_
  intro p e s m args below meth c s₁ B hml hv
  obtain ⟨rfl, hK, hP⟩ := hv
  have hx := B.exec
  have hb := B.bytes
  have hr := B.returns
  have hts := atoms_spec (ws := cw_X12_isJug :: gw) B.pre
  have hown : s.vm.findClass RX12 = some m.cls := findClass_of_methodNamed B.named
  have hlocks := B.notSynchronized
  have hS : va_S (aG G) s.heap s.heap [] := va_S.rf
  have C : Cx p s m ([.ref (adr G xl0), .int zl1] : List Value).toArray meth c D G cX12_isJug 2 (some .boolean) (cw_X12_isJug :: gw) RX12 := ⟨hx, hb, hr, hlocks, hml, hown, hts, hK⟩
  have hl := lv_entry ([.ref (adr G xl0), .int zl1]) (n := 2) (Nat.le_of_ble_eq_true rfl)
  rw [lg_entry_eq]
  generalize (lg_sl ([.ref (adr G xl0), .int zl1]) ++ List.replicate (2 - (lg_sl ([.ref (adr G xl0), .int zl1])).length) Slot.unset).toArray = ls at hl ⊢
  have hl : lv_has ls 2 [(0, .ref (adr G xl0)), (1, .int zl1)] := hl
  unfold wp_X12_isJug at h
  refine lv_iload_n hx hb dX12_isJug_0 rfl (lv_at hl 1 rfl) ?_
  refine r_if_lt (tgt := 18) hx hb dX12_isJug_1 (by decide) h (fun h => ?_) (fun h => ?_)
  · refine r_iconst hx hb dX12_isJug_18 (by decide) h (fun z2 h => ?_)
    exact r_zret hx hb hr hlocks hP hS dX12_isJug_19 h
  · refine lv_iload_n hx hb dX12_isJug_4 rfl (lv_at hl 1 rfl) ?_
    refine lv_aload_n hx hb dX12_isJug_5 rfl (lv_at hl 0 rfl) ?_
    refine r_getr (C := RX12) (T := TX12) (N := 38) hx hb hts (fun w h => List.mem_cons_of_mem _ (iX12 w h)) hown hK hP rfl (by decide) rfl 20 (by decide) (hts _ (List.mem_cons_of_mem _ kw_1354)) (fun _ h9 => h9) dX12_isJug_6 (by decide) h (fun x4 h => ?_)
    refine r_iconst hx hb dX12_isJug_9 (by decide) h (fun z6 h => ?_)
    refine r_iald hx hb hK hP dX12_isJug_10 h (fun z8 h => ?_)
    refine r_icmp_ge (tgt := 18) hx hb dX12_isJug_11 (by decide) h (fun h => ?_) (fun h => ?_)
    · refine r_iconst hx hb dX12_isJug_18 (by decide) h (fun z10 h => ?_)
      exact r_zret hx hb hr hlocks hP hS dX12_isJug_19 h
    · refine r_iconst hx hb dX12_isJug_14 (by decide) h (fun z12 h => ?_)
      refine lv_goto (tgt := 19) hx hb dX12_isJug_15 (by decide) ?_
      exact r_zret hx hb hr hlocks hP hS dX12_isJug_19 h
