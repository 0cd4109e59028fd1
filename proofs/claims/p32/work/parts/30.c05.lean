/-! TurningMilk$RuleReader.readClause(I)Z -/
abbrev RM_X3_readClause : Room := { frames := 10, cells := 0, slots := 0, locals := 367 }
def cw_X3_readClause : Cond := Cond.code yX3_readClause cX3_readClause 3 (Option.some FieldType.boolean)
theorem hd_X3_readClause : yX3_readClause.cls ≠ "java/lang/invoke/MethodHandle" ∧ yX3_readClause.cls ≠ "java/lang/invoke/VarHandle" ∧ (parseMethodDescriptor yX3_readClause.desc).map (fun d => d.parameters.length) = some 1 := by decide +kernel
theorem dX3_readClause_0 : decode cX3_readClause 0 = .ok (.aload_n 0, 1) := by decide +kernel
theorem dX3_readClause_1 : decode cX3_readClause 1 = .ok (.getfield 18, 3) := by decide +kernel
theorem dX3_readClause_4 : decode cX3_readClause 4 = .ok (.ldc 55, 2) := by decide +kernel
theorem dX3_readClause_6 : decode cX3_readClause 6 = .ok (.invokevirtual 57, 3) := by decide +kernel
theorem dX3_readClause_9 : decode cX3_readClause 9 = .ok (.ifCond .ne 12, 3) := by decide +kernel
theorem dX3_readClause_12 : decode cX3_readClause 12 = .ok (.aload_n 0, 1) := by decide +kernel
theorem dX3_readClause_13 : decode cX3_readClause 13 = .ok (.getfield 18, 3) := by decide +kernel
theorem dX3_readClause_16 : decode cX3_readClause 16 = .ok (.iconst 0, 1) := by decide +kernel
theorem dX3_readClause_17 : decode cX3_readClause 17 = .ok (.invokevirtual 52, 3) := by decide +kernel
theorem dX3_readClause_20 : decode cX3_readClause 20 = .ok (.ireturn, 1) := by decide +kernel
theorem dX3_readClause_21 : decode cX3_readClause 21 = .ok (.iload_n 1, 1) := by decide +kernel
theorem dX3_readClause_22 : decode cX3_readClause 22 = .ok (.bipush 12, 2) := by decide +kernel
theorem dX3_readClause_24 : decode cX3_readClause 24 = .ok (.if_icmp .lt 12, 3) := by decide +kernel
theorem dX3_readClause_27 : decode cX3_readClause 27 = .ok (.aload_n 0, 1) := by decide +kernel
theorem dX3_readClause_28 : decode cX3_readClause 28 = .ok (.getfield 18, 3) := by decide +kernel
theorem dX3_readClause_31 : decode cX3_readClause 31 = .ok (.iconst 4, 1) := by decide +kernel
theorem dX3_readClause_32 : decode cX3_readClause 32 = .ok (.invokevirtual 52, 3) := by decide +kernel
theorem dX3_readClause_35 : decode cX3_readClause 35 = .ok (.ireturn, 1) := by decide +kernel
theorem dX3_readClause_36 : decode cX3_readClause 36 = .ok (.aload_n 0, 1) := by decide +kernel
theorem dX3_readClause_37 : decode cX3_readClause 37 = .ok (.iconst 0, 1) := by decide +kernel
theorem dX3_readClause_38 : decode cX3_readClause 38 = .ok (.putfield 61, 3) := by decide +kernel
theorem dX3_readClause_41 : decode cX3_readClause 41 = .ok (.aload_n 0, 1) := by decide +kernel
theorem dX3_readClause_42 : decode cX3_readClause 42 = .ok (.iconst 0, 1) := by decide +kernel
theorem dX3_readClause_43 : decode cX3_readClause 43 = .ok (.putfield 64, 3) := by decide +kernel
theorem dX3_readClause_46 : decode cX3_readClause 46 = .ok (.aload_n 0, 1) := by decide +kernel
theorem dX3_readClause_47 : decode cX3_readClause 47 = .ok (.iconst 0, 1) := by decide +kernel
theorem dX3_readClause_48 : decode cX3_readClause 48 = .ok (.putfield 67, 3) := by decide +kernel
theorem dX3_readClause_51 : decode cX3_readClause 51 = .ok (.aload_n 0, 1) := by decide +kernel
theorem dX3_readClause_52 : decode cX3_readClause 52 = .ok (.iconst 0, 1) := by decide +kernel
theorem dX3_readClause_53 : decode cX3_readClause 53 = .ok (.putfield 70, 3) := by decide +kernel
theorem dX3_readClause_56 : decode cX3_readClause 56 = .ok (.iconst 0, 1) := by decide +kernel
theorem dX3_readClause_57 : decode cX3_readClause 57 = .ok (.istore_n 2, 1) := by decide +kernel
theorem dX3_readClause_58 : decode cX3_readClause 58 = .ok (.iload_n 2, 1) := by decide +kernel
theorem dX3_readClause_59 : decode cX3_readClause 59 = .ok (.sipush 400, 3) := by decide +kernel
theorem dX3_readClause_62 : decode cX3_readClause 62 = .ok (.if_icmp .ge 63, 3) := by decide +kernel
theorem dX3_readClause_65 : decode cX3_readClause 65 = .ok (.aload_n 0, 1) := by decide +kernel
theorem dX3_readClause_66 : decode cX3_readClause 66 = .ok (.invokevirtual 73, 3) := by decide +kernel
theorem dX3_readClause_69 : decode cX3_readClause 69 = .ok (.ifCond .ne 5, 3) := by decide +kernel
theorem dX3_readClause_72 : decode cX3_readClause 72 = .ok (.iconst 0, 1) := by decide +kernel
theorem dX3_readClause_73 : decode cX3_readClause 73 = .ok (.ireturn, 1) := by decide +kernel
theorem dX3_readClause_74 : decode cX3_readClause 74 = .ok (.aload_n 0, 1) := by decide +kernel
theorem dX3_readClause_75 : decode cX3_readClause 75 = .ok (.invokevirtual 76, 3) := by decide +kernel
theorem dX3_readClause_78 : decode cX3_readClause 78 = .ok (.aload_n 0, 1) := by decide +kernel
theorem dX3_readClause_79 : decode cX3_readClause 79 = .ok (.invokevirtual 79, 3) := by decide +kernel
theorem dX3_readClause_82 : decode cX3_readClause 82 = .ok (.ifCond .eq 28, 3) := by decide +kernel
theorem dX3_readClause_85 : decode cX3_readClause 85 = .ok (.aload_n 0, 1) := by decide +kernel
theorem dX3_readClause_86 : decode cX3_readClause 86 = .ok (.iconst 0, 1) := by decide +kernel
theorem dX3_readClause_87 : decode cX3_readClause 87 = .ok (.invokevirtual 82, 3) := by decide +kernel
theorem dX3_readClause_90 : decode cX3_readClause 90 = .ok (.aload_n 0, 1) := by decide +kernel
theorem dX3_readClause_91 : decode cX3_readClause 91 = .ok (.aload_n 0, 1) := by decide +kernel
theorem dX3_readClause_92 : decode cX3_readClause 92 = .ok (.getfield 70, 3) := by decide +kernel
theorem dX3_readClause_95 : decode cX3_readClause 95 = .ok (.ifCond .ne 8, 3) := by decide +kernel
theorem dX3_readClause_98 : decode cX3_readClause 98 = .ok (.bipush (-25), 2) := by decide +kernel
theorem dX3_readClause_100 : decode cX3_readClause 100 = .ok (.goto 5, 3) := by decide +kernel
theorem dX3_readClause_103 : decode cX3_readClause 103 = .ok (.bipush (-26), 2) := by decide +kernel
theorem dX3_readClause_105 : decode cX3_readClause 105 = .ok (.invokevirtual 88, 3) := by decide +kernel
theorem dX3_readClause_108 : decode cX3_readClause 108 = .ok (.iconst 1, 1) := by decide +kernel
theorem dX3_readClause_109 : decode cX3_readClause 109 = .ok (.ireturn, 1) := by decide +kernel
theorem dX3_readClause_110 : decode cX3_readClause 110 = .ok (.aload_n 0, 1) := by decide +kernel
theorem dX3_readClause_111 : decode cX3_readClause 111 = .ok (.invokevirtual 91, 3) := by decide +kernel
theorem dX3_readClause_114 : decode cX3_readClause 114 = .ok (.ifCond .ne 5, 3) := by decide +kernel
theorem dX3_readClause_117 : decode cX3_readClause 117 = .ok (.iconst 0, 1) := by decide +kernel
theorem dX3_readClause_118 : decode cX3_readClause 118 = .ok (.ireturn, 1) := by decide +kernel
theorem dX3_readClause_119 : decode cX3_readClause 119 = .ok (.iinc 2 1, 3) := by decide +kernel
theorem dX3_readClause_122 : decode cX3_readClause 122 = .ok (.goto (-64), 3) := by decide +kernel
theorem dX3_readClause_125 : decode cX3_readClause 125 = .ok (.iconst 0, 1) := by decide +kernel
theorem dX3_readClause_126 : decode cX3_readClause 126 = .ok (.ireturn, 1) := by decide +kernel
def wp_X3_readClause_105 (S : Sh) (post : Int → Mm → Prop) (t0 : Int) (t1 : Int) (M : Mm) : Prop := isK S t0 3 ∧ (wp_X3_write S M t0 t1 <| fun M1 => wC 1 fun v2 => (v2 = 0 ∨ v2 = 1) ∧ post v2 M1)
def wp_X3_readClause_58 (S : Sh) (post : Int → Mm → Prop) : Nat → Int → Int → Mm → Prop
  | 0, _, _, _ => False
  | n + 1, u0, u2, M => wC 400 fun v4 => wIf (v4 ≤ u2) (wC 0 fun v6 => (v6 = 0 ∨ v6 = 1) ∧ post v6 M) (isK S u0 3 ∧ (wp_X3_readValue S M u0 <| fun v9 M8 => wIf (¬ v9 = 0) (isK S u0 3 ∧ (wp_X3_closeBrackets S M8 u0 <| fun M11 => isK S u0 3 ∧ (wp_X3_endsHere S M11 u0 <| fun v13 M12 => wIf (v13 = 0) (isK S u0 3 ∧ (wp_X3_readJoint S M12 u0 <| fun v16 M15 => wIf (¬ v16 = 0) (wA u2 1 fun v18 => wp_X3_readClause_58 S post n u0 v18 M15) (wC 0 fun v20 => (v20 = 0 ∨ v20 = 1) ∧ post v20 M15))) (wC 0 fun v22 => isK S u0 3 ∧ (wp_X3_unpile S M12 u0 v22 <| fun M24 => wGet S M24 u0 3 8 fun v25 => wIf (¬ v25 = 0) (wC (-26) fun v27 => wp_X3_readClause_105 S post u0 v27 M24) (wC (-25) fun v29 => wp_X3_readClause_105 S post u0 v29 M24)))))) (wC 0 fun v31 => (v31 = 0 ∨ v31 = 1) ∧ post v31 M8)))
def wp_X3_readClause (S : Sh) (M : Mm) (u0 : Int) (u1 : Int) (post : Int → Mm → Prop) : Prop := wGetR S M u0 3 0 fun v33 => wC (-9) fun v35 => isK S v33 7 ∧ (wp_X7_takesWord S M v33 v35 <| fun v38 M37 => wIf (¬ v38 = 0) (wC 12 fun v40 => wIf (u1 < v40) (wC 0 fun v42 => wPut S M37 u0 3 5 v42 fun M44 => wC 0 fun v45 => wPut S M44 u0 3 6 v45 fun M47 => wC 0 fun v48 => wPut S M47 u0 3 7 v48 fun M50 => wC 0 fun v51 => wPut S M50 u0 3 8 v51 fun M53 => wC 0 fun v54 => ∃ n9 : Nat, wp_X3_readClause_58 S post n9 u0 v54 M53) (wGetR S M37 u0 3 0 fun v56 => wC 4 fun v58 => isK S v56 7 ∧ (wp_X7_refuse S M37 v56 v58 <| fun v61 M60 => (v61 = 0 ∨ v61 = 1) ∧ post v61 M60))) (wGetR S M37 u0 3 0 fun v63 => wC 0 fun v65 => isK S v63 7 ∧ (wp_X7_refuse S M37 v63 v65 <| fun v68 M67 => (v68 = 0 ∨ v68 = 1) ∧ post v68 M67)))
set_option maxHeartbeats 4000000 in
set_option maxRecDepth 100000 in
theorem t_X3_readClause_105 {p : Program} {l : Launch} {e : Env} {s : State} {m : MethodId} {args : Array Value} {below : List Frame} {meth : Method} {c : Code} {D : va_G} {G : Gt} {S : Sh} {post : Int → Mm → Prop} (C : Cx p s m args meth c D G cX3_readClause 3 (some .boolean) (cw_X3_readClause :: gw) RX3) : ∀ (xs0 : Int) (zs1 : Int32) (M : Mm) (H : Heap) (locs : List Loc) (ls : Array Slot), Wd D G S M H → va_S (aG G) s.heap H locs → lv_has ls 3 [] → wp_X3_readClause_105 S post xs0 zs1.toInt M → W p l e RM_X3_readClause s m args below meth c H locs 0 0 (MQ below (QI D G S post) args s 0 0 (aG G)) (F0 m 105 ls [.int zs1, .ref (adr G xs0)]) := by
  obtain ⟨hx, hb, hr, hlocks, hml, hown, hts, hK⟩ := id C
  intro xs0 zs1 M H locs ls hP hS hl h
  unfold wp_X3_readClause_105 at h
  refine q_Vv hx hb hml hown hts hK hP hS (c_X3_write l D G S _ xs0 zs1 _ h.2) ⟨callB_of 1 hts (gw_good kw_783) rfl rfl rfl (hts _ (List.mem_cons_of_mem _ kw_8)) (hts _ (List.mem_cons_of_mem _ kw_780)) hd_X3_write ⟨Nat.le_of_ble_eq_true rfl, Nat.le_of_ble_eq_true rfl⟩, (hts _ (List.mem_cons_of_mem _ kw_782)), (hts _ (List.mem_cons_of_mem _ kp_14))⟩ h.1 (ci := 3) rfl (by decide) rfl hl.1 rfl (lv_room (Nat.le_of_ble_eq_true rfl)) dX3_readClause_105 ⟨Nat.zero_le _, Nat.zero_le _⟩ (fun M1 H locs h hP hS => ?_)
  refine r_iconst hx hb dX3_readClause_108 (by decide) h (fun z3 h => ?_)
  exact r_zret hx hb hr hlocks hP hS dX3_readClause_109 h
set_option maxHeartbeats 4000000 in
set_option maxRecDepth 100000 in
theorem t_X3_readClause_58 {p : Program} {l : Launch} {e : Env} {s : State} {m : MethodId} {args : Array Value} {below : List Frame} {meth : Method} {c : Code} {D : va_G} {G : Gt} {S : Sh} {post : Int → Mm → Prop} (C : Cx p s m args meth c D G cX3_readClause 3 (some .boolean) (cw_X3_readClause :: gw) RX3) : ∀ (n : Nat) (xl0 : Int) (zl2 : Int32) (M : Mm) (H : Heap) (locs : List Loc) (ls : Array Slot), Wd D G S M H → va_S (aG G) s.heap H locs → lv_has ls 3 [(0, .ref (adr G xl0)), (2, .int zl2)] → wp_X3_readClause_58 S post n xl0 zl2.toInt  M → W p l e RM_X3_readClause s m args below meth c H locs 0 0 (MQ below (QI D G S post) args s 0 0 (aG G)) (F0 m 58 ls []) := by
  obtain ⟨hx, hb, hr, hlocks, hml, hown, hts, hK⟩ := id C
  intro n
  induction n with
  | zero => intro xl0 zl2 M H locs ls hP hS hl h; exact h.elim
  | succ n ih =>
    intro xl0 zl2 M H locs ls hP hS hl h
    unfold wp_X3_readClause_58 at h
    refine lv_iload_n hx hb dX3_readClause_58 rfl (lv_at hl 1 rfl) ?_
    refine r_sipush hx hb dX3_readClause_59 (by decide) h (fun z5 h => ?_)
    refine r_icmp_ge (tgt := 125) hx hb dX3_readClause_62 (by decide) h (fun h => ?_) (fun h => ?_)
    · refine r_iconst hx hb dX3_readClause_125 (by decide) h (fun z7 h => ?_)
      exact r_zret hx hb hr hlocks hP hS dX3_readClause_126 h
    · refine lv_aload_n hx hb dX3_readClause_65 rfl (lv_at hl 0 rfl) ?_
      refine q_Vi hx hb hml hown hts hK hP hS (c_X3_readValue l D G S _ xl0 _ h.2) ⟨callB_of 0 hts (gw_good kw_756) rfl rfl rfl (hts _ (List.mem_cons_of_mem _ kw_8)) (hts _ (List.mem_cons_of_mem _ kw_753)) hd_X3_readValue ⟨Nat.le_of_ble_eq_true rfl, Nat.le_of_ble_eq_true rfl⟩, (hts _ (List.mem_cons_of_mem _ kw_755)), (hts _ (List.mem_cons_of_mem _ kp_12))⟩ h.1 (ci := 3) rfl (by decide) rfl hl.1 rfl (lv_room (Nat.le_of_ble_eq_true rfl)) dX3_readClause_66 ⟨Nat.zero_le _, Nat.zero_le _⟩ (fun z10 M8 H locs h hP hS => ?_)
      refine r_if_ne (tgt := 74) hx hb dX3_readClause_69 (by decide) h (fun h => ?_) (fun h => ?_)
      · refine lv_aload_n hx hb dX3_readClause_74 rfl (lv_at hl 0 rfl) ?_
        refine q_Vv hx hb hml hown hts hK hP hS (c_X3_closeBrackets l D G S _ xl0 _ h.2) ⟨callB_of 0 hts (gw_good kw_787) rfl rfl rfl (hts _ (List.mem_cons_of_mem _ kw_8)) (hts _ (List.mem_cons_of_mem _ kw_784)) hd_X3_closeBrackets ⟨Nat.le_of_ble_eq_true rfl, Nat.le_of_ble_eq_true rfl⟩, (hts _ (List.mem_cons_of_mem _ kw_786)), (hts _ (List.mem_cons_of_mem _ kp_15))⟩ h.1 (ci := 3) rfl (by decide) rfl hl.1 rfl (lv_room (Nat.le_of_ble_eq_true rfl)) dX3_readClause_75 ⟨Nat.zero_le _, Nat.zero_le _⟩ (fun M11 H locs h hP hS => ?_)
        refine lv_aload_n hx hb dX3_readClause_78 rfl (lv_at hl 0 rfl) ?_
        refine q_Vi hx hb hml hown hts hK hP hS (c_X3_endsHere l D G S _ xl0 _ h.2) ⟨callB_of 0 hts (gw_good kw_807) rfl rfl rfl (hts _ (List.mem_cons_of_mem _ kw_8)) (hts _ (List.mem_cons_of_mem _ kw_804)) hd_X3_endsHere ⟨Nat.le_of_ble_eq_true rfl, Nat.le_of_ble_eq_true rfl⟩, (hts _ (List.mem_cons_of_mem _ kw_806)), (hts _ (List.mem_cons_of_mem _ kp_19))⟩ h.1 (ci := 3) rfl (by decide) rfl hl.1 rfl (lv_room (Nat.le_of_ble_eq_true rfl)) dX3_readClause_79 ⟨Nat.zero_le _, Nat.zero_le _⟩ (fun z14 M12 H locs h hP hS => ?_)
        refine r_if_eq (tgt := 110) hx hb dX3_readClause_82 (by decide) h (fun h => ?_) (fun h => ?_)
        · refine lv_aload_n hx hb dX3_readClause_110 rfl (lv_at hl 0 rfl) ?_
          refine q_Vi hx hb hml hown hts hK hP hS (c_X3_readJoint l D G S _ xl0 _ h.2) ⟨callB_of 0 hts (gw_good kw_813) rfl rfl rfl (hts _ (List.mem_cons_of_mem _ kw_8)) (hts _ (List.mem_cons_of_mem _ kw_810)) hd_X3_readJoint ⟨Nat.le_of_ble_eq_true rfl, Nat.le_of_ble_eq_true rfl⟩, (hts _ (List.mem_cons_of_mem _ kw_812)), (hts _ (List.mem_cons_of_mem _ kp_20))⟩ h.1 (ci := 3) rfl (by decide) rfl hl.1 rfl (lv_room (Nat.le_of_ble_eq_true rfl)) dX3_readClause_111 ⟨Nat.zero_le _, Nat.zero_le _⟩ (fun z17 M15 H locs h hP hS => ?_)
          refine r_if_ne (tgt := 119) hx hb dX3_readClause_114 (by decide) h (fun h => ?_) (fun h => ?_)
          · refine r_iinc hx hb (fun z19 => [(2, .int z19), (0, .ref (adr G xl0))]) dX3_readClause_119 (by decide) hl (k := 1) rfl (by decide) (fun _ => rfl) h (fun z19 ls hl h => ?_)
            refine lv_goto (tgt := 58) hx hb dX3_readClause_122 (by decide) ?_
            exact ih xl0 z19 _ _ _ _ hP hS (lv_sub hl [1, 0] rfl) h
          · refine r_iconst hx hb dX3_readClause_117 (by decide) h (fun z21 h => ?_)
            exact r_zret hx hb hr hlocks hP hS dX3_readClause_118 h
        · refine lv_aload_n hx hb dX3_readClause_85 rfl (lv_at hl 0 rfl) ?_
          refine r_iconst hx hb dX3_readClause_86 (by decide) h (fun z23 h => ?_)
          refine q_Vv hx hb hml hown hts hK hP hS (c_X3_unpile l D G S _ xl0 z23 _ h.2) ⟨callB_of 1 hts (gw_good kw_796) rfl rfl rfl (hts _ (List.mem_cons_of_mem _ kw_8)) (hts _ (List.mem_cons_of_mem _ kw_793)) hd_X3_unpile ⟨Nat.le_of_ble_eq_true rfl, Nat.le_of_ble_eq_true rfl⟩, (hts _ (List.mem_cons_of_mem _ kw_795)), (hts _ (List.mem_cons_of_mem _ kp_17))⟩ h.1 (ci := 3) rfl (by decide) rfl hl.1 rfl (lv_room (Nat.le_of_ble_eq_true rfl)) dX3_readClause_87 ⟨Nat.zero_le _, Nat.zero_le _⟩ (fun M24 H locs h hP hS => ?_)
          refine lv_aload_n hx hb dX3_readClause_90 rfl (lv_at hl 0 rfl) ?_
          refine lv_aload_n hx hb dX3_readClause_91 rfl (lv_at hl 0 rfl) ?_
          refine r_geti (C := RX3) (T := TX3) (N := 9) hx hb hts (fun w h => List.mem_cons_of_mem _ (iX3 w h)) hown hK hP rfl (by decide) rfl 8 (by decide) (hts _ (List.mem_cons_of_mem _ kw_315)) (fun _ h9 => h9) dX3_readClause_92 (by decide) h (fun z26 h => ?_)
          refine r_if_ne (tgt := 103) hx hb dX3_readClause_95 (by decide) h (fun h => ?_) (fun h => ?_)
          · refine r_bipush hx hb dX3_readClause_103 (by decide) h (fun z28 h => ?_)
            exact t_X3_readClause_105 C xl0 z28 _ _ _ _ hP hS (lv_sub hl [] rfl) h
          · refine r_bipush hx hb dX3_readClause_98 (by decide) h (fun z30 h => ?_)
            refine lv_goto (tgt := 105) hx hb dX3_readClause_100 (by decide) ?_
            exact t_X3_readClause_105 C xl0 z30 _ _ _ _ hP hS (lv_sub hl [] rfl) h
      · refine r_iconst hx hb dX3_readClause_72 (by decide) h (fun z32 h => ?_)
        exact r_zret hx hb hr hlocks hP hS dX3_readClause_73 h
set_option maxHeartbeats 4000000 in
set_option maxRecDepth 100000 in
theorem c_X3_readClause (l : Launch) (D : va_G) (G : Gt) (S : Sh) (M : Mm) (xl0 : Int) (zl1 : Int32) (post : Int → Mm → Prop) (h : wp_X3_readClause S M xl0 zl1.toInt post) : Met l yX3_readClause (cw_X3_readClause :: gw) RM_X3_readClause (va_Pc [.ref (adr G xl0), .int zl1] (fun U => KN D G U ∧ Wd D G S M U.heap)) (QI D G S post) 0 0 (aG G) := by
  refine Met.ofW (cc := cX3_readClause) (maxL := 3) (ret := (some .boolean)) (by decide) rfl ?_
  intro p e s m args below meth c s₁ B hml hv
  obtain ⟨rfl, hK, hP⟩ := hv
  have hx := B.exec
  have hb := B.bytes
  have hr := B.returns
  have hts := atoms_spec (ws := cw_X3_readClause :: gw) B.pre
  have hown : s.vm.findClass RX3 = some m.cls := findClass_of_methodNamed B.named
  have hlocks := B.notSynchronized
  have hS : va_S (aG G) s.heap s.heap [] := va_S.rf
  have C : Cx p s m ([.ref (adr G xl0), .int zl1] : List Value).toArray meth c D G cX3_readClause 3 (some .boolean) (cw_X3_readClause :: gw) RX3 := ⟨hx, hb, hr, hlocks, hml, hown, hts, hK⟩
  have hl := lv_entry ([.ref (adr G xl0), .int zl1]) (n := 3) (Nat.le_of_ble_eq_true rfl)
  rw [lg_entry_eq]
  generalize (lg_sl ([.ref (adr G xl0), .int zl1]) ++ List.replicate (3 - (lg_sl ([.ref (adr G xl0), .int zl1])).length) Slot.unset).toArray = ls at hl ⊢
  have hl : lv_has ls 3 [(0, .ref (adr G xl0)), (1, .int zl1)] := hl
  unfold wp_X3_readClause at h
  refine lv_aload_n hx hb dX3_readClause_0 rfl (lv_at hl 0 rfl) ?_
  refine r_getr (C := RX3) (T := TX3) (N := 9) hx hb hts (fun w h => List.mem_cons_of_mem _ (iX3 w h)) hown hK hP rfl (by decide) rfl 0 (by decide) (hts _ (List.mem_cons_of_mem _ kw_307)) (fun _ h9 => h9) dX3_readClause_1 (by decide) h (fun x34 h => ?_)
  refine r_lds hx hb hK hown (k := 6) (List.mem_of_getElem? (i := 6) rfl) dX3_readClause_4 (n := (-9)) (by decide) h (fun x36 h => ?_)
  refine q_Vi hx hb hml hown hts hK hP hS (c_X7_takesWord l D G S _ x34 x36 _ h.2) ⟨callB_of 1 hts (gw_good kw_597) rfl rfl rfl (hts _ (List.mem_cons_of_mem _ kw_2)) (hts _ (List.mem_cons_of_mem _ kw_751)) hd_X7_takesWord ⟨Nat.le_of_ble_eq_true rfl, Nat.le_of_ble_eq_true rfl⟩, (hts _ (List.mem_cons_of_mem _ kw_595)), (hts _ (List.mem_cons_of_mem _ kw_596))⟩ h.1 (ci := 7) rfl (by decide) rfl hl.1 rfl (lv_room (Nat.le_of_ble_eq_true rfl)) dX3_readClause_6 ⟨Nat.zero_le _, Nat.zero_le _⟩ (fun z39 M37 H locs h hP hS => ?_)
  refine r_if_ne (tgt := 21) hx hb dX3_readClause_9 (by decide) h (fun h => ?_) (fun h => ?_)
  · refine lv_iload_n hx hb dX3_readClause_21 rfl (lv_at hl 1 rfl) ?_
    refine r_bipush hx hb dX3_readClause_22 (by decide) h (fun z41 h => ?_)
    refine r_icmp_lt (tgt := 36) hx hb dX3_readClause_24 (by decide) h (fun h => ?_) (fun h => ?_)
    · refine lv_aload_n hx hb dX3_readClause_36 rfl (lv_at hl 0 rfl) ?_
      refine r_iconst hx hb dX3_readClause_37 (by decide) h (fun z43 h => ?_)
      refine r_puti (C := RX3) (T := TX3) (N := 9) hx hb hts (fun w h => List.mem_cons_of_mem _ (iX3 w h)) hown hK hP tyX3 tyX3_ok nmX3 hS rfl (by decide) rfl 5 (by decide) (hts _ (List.mem_cons_of_mem _ kw_312)) (fun _ h9 => h9) rfl (tyX3_ok 5 (by decide)) rfl rfl dX3_readClause_38 (by decide) h (fun M44 H locs h hP hS => ?_)
      refine lv_aload_n hx hb dX3_readClause_41 rfl (lv_at hl 0 rfl) ?_
      refine r_iconst hx hb dX3_readClause_42 (by decide) h (fun z46 h => ?_)
      refine r_puti (C := RX3) (T := TX3) (N := 9) hx hb hts (fun w h => List.mem_cons_of_mem _ (iX3 w h)) hown hK hP tyX3 tyX3_ok nmX3 hS rfl (by decide) rfl 6 (by decide) (hts _ (List.mem_cons_of_mem _ kw_313)) (fun _ h9 => h9) rfl (tyX3_ok 6 (by decide)) rfl rfl dX3_readClause_43 (by decide) h (fun M47 H locs h hP hS => ?_)
      refine lv_aload_n hx hb dX3_readClause_46 rfl (lv_at hl 0 rfl) ?_
      refine r_iconst hx hb dX3_readClause_47 (by decide) h (fun z49 h => ?_)
      refine r_puti (C := RX3) (T := TX3) (N := 9) hx hb hts (fun w h => List.mem_cons_of_mem _ (iX3 w h)) hown hK hP tyX3 tyX3_ok nmX3 hS rfl (by decide) rfl 7 (by decide) (hts _ (List.mem_cons_of_mem _ kw_314)) (fun _ h9 => h9) rfl (tyX3_ok 7 (by decide)) rfl rfl dX3_readClause_48 (by decide) h (fun M50 H locs h hP hS => ?_)
      refine lv_aload_n hx hb dX3_readClause_51 rfl (lv_at hl 0 rfl) ?_
      refine r_iconst hx hb dX3_readClause_52 (by decide) h (fun z52 h => ?_)
      refine r_puti (C := RX3) (T := TX3) (N := 9) hx hb hts (fun w h => List.mem_cons_of_mem _ (iX3 w h)) hown hK hP tyX3 tyX3_ok nmX3 hS rfl (by decide) rfl 8 (by decide) (hts _ (List.mem_cons_of_mem _ kw_315)) (fun _ h9 => h9) rfl (tyX3_ok 8 (by decide)) rfl rfl dX3_readClause_53 (by decide) h (fun M53 H locs h hP hS => ?_)
      refine r_iconst hx hb dX3_readClause_56 (by decide) h (fun z55 h => ?_)
      refine lv_istore_n (lv' := [(2, .int z55), (0, .ref (adr G xl0)), (1, .int zl1)]) hx hb dX3_readClause_57 rfl hl (by decide) rfl (fun ls hl => ?_)
      obtain ⟨n9, h⟩ := h
      exact t_X3_readClause_58 C n9 xl0 z55 _ _ _ _ hP hS (lv_sub hl [1, 0] rfl) h
    · refine lv_aload_n hx hb dX3_readClause_27 rfl (lv_at hl 0 rfl) ?_
      refine r_getr (C := RX3) (T := TX3) (N := 9) hx hb hts (fun w h => List.mem_cons_of_mem _ (iX3 w h)) hown hK hP rfl (by decide) rfl 0 (by decide) (hts _ (List.mem_cons_of_mem _ kw_307)) (fun _ h9 => h9) dX3_readClause_28 (by decide) h (fun x57 h => ?_)
      refine r_iconst hx hb dX3_readClause_31 (by decide) h (fun z59 h => ?_)
      refine q_Vi hx hb hml hown hts hK hP hS (c_X7_refuse l D G S _ x57 z59 _ h.2) ⟨callB_of 1 hts (gw_good kw_657) rfl rfl rfl (hts _ (List.mem_cons_of_mem _ kw_2)) (hts _ (List.mem_cons_of_mem _ kw_752)) hd_X7_refuse ⟨Nat.le_of_ble_eq_true rfl, Nat.le_of_ble_eq_true rfl⟩, (hts _ (List.mem_cons_of_mem _ kw_655)), (hts _ (List.mem_cons_of_mem _ kw_656))⟩ h.1 (ci := 7) rfl (by decide) rfl hl.1 rfl (lv_room (Nat.le_of_ble_eq_true rfl)) dX3_readClause_32 ⟨Nat.zero_le _, Nat.zero_le _⟩ (fun z62 M60 H locs h hP hS => ?_)
      exact r_zret hx hb hr hlocks hP hS dX3_readClause_35 h
  · refine lv_aload_n hx hb dX3_readClause_12 rfl (lv_at hl 0 rfl) ?_
    refine r_getr (C := RX3) (T := TX3) (N := 9) hx hb hts (fun w h => List.mem_cons_of_mem _ (iX3 w h)) hown hK hP rfl (by decide) rfl 0 (by decide) (hts _ (List.mem_cons_of_mem _ kw_307)) (fun _ h9 => h9) dX3_readClause_13 (by decide) h (fun x64 h => ?_)
    refine r_iconst hx hb dX3_readClause_16 (by decide) h (fun z66 h => ?_)
    refine q_Vi hx hb hml hown hts hK hP hS (c_X7_refuse l D G S _ x64 z66 _ h.2) ⟨callB_of 1 hts (gw_good kw_657) rfl rfl rfl (hts _ (List.mem_cons_of_mem _ kw_2)) (hts _ (List.mem_cons_of_mem _ kw_752)) hd_X7_refuse ⟨Nat.le_of_ble_eq_true rfl, Nat.le_of_ble_eq_true rfl⟩, (hts _ (List.mem_cons_of_mem _ kw_655)), (hts _ (List.mem_cons_of_mem _ kw_656))⟩ h.1 (ci := 7) rfl (by decide) rfl hl.1 rfl (lv_room (Nat.le_of_ble_eq_true rfl)) dX3_readClause_17 ⟨Nat.zero_le _, Nat.zero_le _⟩ (fun z69 M67 H locs h hP hS => ?_)
    exact r_zret hx hb hr hlocks hP hS dX3_readClause_20 h
/-! TurningMilk$RuleReader.read()Z -/
abbrev RM_X3_read : Room := { frames := 11, cells := 0, slots := 0, locals := 389 }
def cw_X3_read : Cond := Cond.code yX3_read cX3_read 2 (Option.some FieldType.boolean)
theorem hd_X3_read : yX3_read.cls ≠ "java/lang/invoke/MethodHandle" ∧ yX3_read.cls ≠ "java/lang/invoke/VarHandle" ∧ (parseMethodDescriptor yX3_read.desc).map (fun d => d.parameters.length) = some 0 := by decide +kernel
theorem dX3_read_0 : decode cX3_read 0 = .ok (.aload_n 0, 1) := by decide +kernel
theorem dX3_read_1 : decode cX3_read 1 = .ok (.iconst 0, 1) := by decide +kernel
theorem dX3_read_2 : decode cX3_read 2 = .ok (.putfield 22, 3) := by decide +kernel
theorem dX3_read_5 : decode cX3_read 5 = .ok (.aload_n 0, 1) := by decide +kernel
theorem dX3_read_6 : decode cX3_read 6 = .ok (.iconst 0, 1) := by decide +kernel
theorem dX3_read_7 : decode cX3_read 7 = .ok (.putfield 32, 3) := by decide +kernel
theorem dX3_read_10 : decode cX3_read 10 = .ok (.aload_n 0, 1) := by decide +kernel
theorem dX3_read_11 : decode cX3_read 11 = .ok (.getfield 18, 3) := by decide +kernel
theorem dX3_read_14 : decode cX3_read 14 = .ok (.invokevirtual 35, 3) := by decide +kernel
theorem dX3_read_17 : decode cX3_read 17 = .ok (.iconst 0, 1) := by decide +kernel
theorem dX3_read_18 : decode cX3_read 18 = .ok (.istore_n 1, 1) := by decide +kernel
theorem dX3_read_19 : decode cX3_read 19 = .ok (.iload_n 1, 1) := by decide +kernel
theorem dX3_read_20 : decode cX3_read 20 = .ok (.bipush 12, 2) := by decide +kernel
theorem dX3_read_22 : decode cX3_read 22 = .ok (.if_icmp .gt 52, 3) := by decide +kernel
theorem dX3_read_25 : decode cX3_read 25 = .ok (.aload_n 0, 1) := by decide +kernel
theorem dX3_read_26 : decode cX3_read 26 = .ok (.iload_n 1, 1) := by decide +kernel
theorem dX3_read_27 : decode cX3_read 27 = .ok (.invokevirtual 40, 3) := by decide +kernel
theorem dX3_read_30 : decode cX3_read 30 = .ok (.ifCond .ne 5, 3) := by decide +kernel
theorem dX3_read_33 : decode cX3_read 33 = .ok (.iconst 0, 1) := by decide +kernel
theorem dX3_read_34 : decode cX3_read 34 = .ok (.ireturn, 1) := by decide +kernel
theorem dX3_read_35 : decode cX3_read 35 = .ok (.aload_n 0, 1) := by decide +kernel
theorem dX3_read_36 : decode cX3_read 36 = .ok (.getfield 18, 3) := by decide +kernel
theorem dX3_read_39 : decode cX3_read 39 = .ok (.invokevirtual 44, 3) := by decide +kernel
theorem dX3_read_42 : decode cX3_read 42 = .ok (.ifCond .eq 5, 3) := by decide +kernel
theorem dX3_read_45 : decode cX3_read 45 = .ok (.iconst 1, 1) := by decide +kernel
theorem dX3_read_46 : decode cX3_read 46 = .ok (.ireturn, 1) := by decide +kernel
theorem dX3_read_47 : decode cX3_read 47 = .ok (.aload_n 0, 1) := by decide +kernel
theorem dX3_read_48 : decode cX3_read 48 = .ok (.getfield 18, 3) := by decide +kernel
theorem dX3_read_51 : decode cX3_read 51 = .ok (.bipush 59, 2) := by decide +kernel
theorem dX3_read_53 : decode cX3_read 53 = .ok (.invokevirtual 48, 3) := by decide +kernel
theorem dX3_read_56 : decode cX3_read 56 = .ok (.ifCond .ne 12, 3) := by decide +kernel
theorem dX3_read_59 : decode cX3_read 59 = .ok (.aload_n 0, 1) := by decide +kernel
theorem dX3_read_60 : decode cX3_read 60 = .ok (.getfield 18, 3) := by decide +kernel
theorem dX3_read_63 : decode cX3_read 63 = .ok (.iconst 0, 1) := by decide +kernel
theorem dX3_read_64 : decode cX3_read 64 = .ok (.invokevirtual 52, 3) := by decide +kernel
theorem dX3_read_67 : decode cX3_read 67 = .ok (.ireturn, 1) := by decide +kernel
theorem dX3_read_68 : decode cX3_read 68 = .ok (.iinc 1 1, 3) := by decide +kernel
theorem dX3_read_71 : decode cX3_read 71 = .ok (.goto (-52), 3) := by decide +kernel
theorem dX3_read_74 : decode cX3_read 74 = .ok (.iconst 0, 1) := by decide +kernel
theorem dX3_read_75 : decode cX3_read 75 = .ok (.ireturn, 1) := by decide +kernel
def wp_X3_read_19 (S : Sh) (post : Int → Mm → Prop) : Nat → Int → Int → Mm → Prop
  | 0, _, _, _ => False
  | n + 1, u0, u1, M => wC 12 fun v1 => wIf (v1 < u1) (wC 0 fun v3 => (v3 = 0 ∨ v3 = 1) ∧ post v3 M) (isK S u0 3 ∧ (wp_X3_readClause S M u0 u1 <| fun v6 M5 => wIf (¬ v6 = 0) (wGetR S M5 u0 3 0 fun v8 => isK S v8 7 ∧ (wp_X7_isAtEnd S M5 v8 <| fun v11 M10 => wIf (v11 = 0) (wGetR S M10 u0 3 0 fun v13 => wC 59 fun v15 => isK S v13 7 ∧ (wp_X7_takesSign S M10 v13 v15 <| fun v18 M17 => wIf (¬ v18 = 0) (wA u1 1 fun v20 => wp_X3_read_19 S post n u0 v20 M17) (wGetR S M17 u0 3 0 fun v22 => wC 0 fun v24 => isK S v22 7 ∧ (wp_X7_refuse S M17 v22 v24 <| fun v27 M26 => (v27 = 0 ∨ v27 = 1) ∧ post v27 M26)))) (wC 1 fun v29 => (v29 = 0 ∨ v29 = 1) ∧ post v29 M10))) (wC 0 fun v31 => (v31 = 0 ∨ v31 = 1) ∧ post v31 M5)))
def wp_X3_read (S : Sh) (M : Mm) (u0 : Int) (post : Int → Mm → Prop) : Prop := wC 0 fun v33 => wPut S M u0 3 2 v33 fun M35 => wC 0 fun v36 => wPut S M35 u0 3 3 v36 fun M38 => wGetR S M38 u0 3 0 fun v39 => isK S v39 7 ∧ (wp_X7_rewind S M38 v39 <| fun M41 => wC 0 fun v42 => ∃ n9 : Nat, wp_X3_read_19 S post n9 u0 v42 M41)
set_option maxHeartbeats 4000000 in
set_option maxRecDepth 100000 in
theorem t_X3_read_19 {p : Program} {l : Launch} {e : Env} {s : State} {m : MethodId} {args : Array Value} {below : List Frame} {meth : Method} {c : Code} {D : va_G} {G : Gt} {S : Sh} {post : Int → Mm → Prop} (C : Cx p s m args meth c D G cX3_read 2 (some .boolean) (cw_X3_read :: gw) RX3) : ∀ (n : Nat) (xl0 : Int) (zl1 : Int32) (M : Mm) (H : Heap) (locs : List Loc) (ls : Array Slot), Wd D G S M H → va_S (aG G) s.heap H locs → lv_has ls 2 [(0, .ref (adr G xl0)), (1, .int zl1)] → wp_X3_read_19 S post n xl0 zl1.toInt  M → W p l e RM_X3_read s m args below meth c H locs 0 0 (MQ below (QI D G S post) args s 0 0 (aG G)) (F0 m 19 ls []) := by
  obtain ⟨hx, hb, hr, hlocks, hml, hown, hts, hK⟩ := id C
  intro n
  induction n with
  | zero => intro xl0 zl1 M H locs ls hP hS hl h; exact h.elim
  | succ n ih =>
    intro xl0 zl1 M H locs ls hP hS hl h
    unfold wp_X3_read_19 at h
    refine lv_iload_n hx hb dX3_read_19 rfl (lv_at hl 1 rfl) ?_
    refine r_bipush hx hb dX3_read_20 (by decide) h (fun z2 h => ?_)
    refine r_icmp_gt (tgt := 74) hx hb dX3_read_22 (by decide) h (fun h => ?_) (fun h => ?_)
    · refine r_iconst hx hb dX3_read_74 (by decide) h (fun z4 h => ?_)
      exact r_zret hx hb hr hlocks hP hS dX3_read_75 h
    · refine lv_aload_n hx hb dX3_read_25 rfl (lv_at hl 0 rfl) ?_
      refine lv_iload_n hx hb dX3_read_26 rfl (lv_at hl 1 rfl) ?_
      refine q_Vi hx hb hml hown hts hK hP hS (c_X3_readClause l D G S _ xl0 zl1 _ h.2) ⟨callB_of 1 hts (gw_good kw_749) rfl rfl rfl (hts _ (List.mem_cons_of_mem _ kw_8)) (hts _ (List.mem_cons_of_mem _ kw_746)) hd_X3_readClause ⟨Nat.le_of_ble_eq_true rfl, Nat.le_of_ble_eq_true rfl⟩, (hts _ (List.mem_cons_of_mem _ kw_748)), (hts _ (List.mem_cons_of_mem _ kp_11))⟩ h.1 (ci := 3) rfl (by decide) rfl hl.1 rfl (lv_room (Nat.le_of_ble_eq_true rfl)) dX3_read_27 ⟨Nat.zero_le _, Nat.zero_le _⟩ (fun z7 M5 H locs h hP hS => ?_)
      refine r_if_ne (tgt := 35) hx hb dX3_read_30 (by decide) h (fun h => ?_) (fun h => ?_)
      · refine lv_aload_n hx hb dX3_read_35 rfl (lv_at hl 0 rfl) ?_
        refine r_getr (C := RX3) (T := TX3) (N := 9) hx hb hts (fun w h => List.mem_cons_of_mem _ (iX3 w h)) hown hK hP rfl (by decide) rfl 0 (by decide) (hts _ (List.mem_cons_of_mem _ kw_307)) (fun _ h9 => h9) dX3_read_36 (by decide) h (fun x9 h => ?_)
        refine q_Vi hx hb hml hown hts hK hP hS (c_X7_isAtEnd l D G S _ x9 _ h.2) ⟨callB_of 0 hts (gw_good kw_712) rfl rfl rfl (hts _ (List.mem_cons_of_mem _ kw_2)) (hts _ (List.mem_cons_of_mem _ kw_808)) hd_X7_isAtEnd ⟨Nat.le_of_ble_eq_true rfl, Nat.le_of_ble_eq_true rfl⟩, (hts _ (List.mem_cons_of_mem _ kw_710)), (hts _ (List.mem_cons_of_mem _ kw_711))⟩ h.1 (ci := 7) rfl (by decide) rfl hl.1 rfl (lv_room (Nat.le_of_ble_eq_true rfl)) dX3_read_39 ⟨Nat.zero_le _, Nat.zero_le _⟩ (fun z12 M10 H locs h hP hS => ?_)
        refine r_if_eq (tgt := 47) hx hb dX3_read_42 (by decide) h (fun h => ?_) (fun h => ?_)
        · refine lv_aload_n hx hb dX3_read_47 rfl (lv_at hl 0 rfl) ?_
          refine r_getr (C := RX3) (T := TX3) (N := 9) hx hb hts (fun w h => List.mem_cons_of_mem _ (iX3 w h)) hown hK hP rfl (by decide) rfl 0 (by decide) (hts _ (List.mem_cons_of_mem _ kw_307)) (fun _ h9 => h9) dX3_read_48 (by decide) h (fun x14 h => ?_)
          refine r_bipush hx hb dX3_read_51 (by decide) h (fun z16 h => ?_)
          refine q_Vi hx hb hml hown hts hK hP hS (c_X7_takesSign l D G S _ x14 z16 _ h.2) ⟨callB_of 1 hts (gw_good kw_724) rfl rfl rfl (hts _ (List.mem_cons_of_mem _ kw_2)) (hts _ (List.mem_cons_of_mem _ kw_792)) hd_X7_takesSign ⟨Nat.le_of_ble_eq_true rfl, Nat.le_of_ble_eq_true rfl⟩, (hts _ (List.mem_cons_of_mem _ kw_722)), (hts _ (List.mem_cons_of_mem _ kw_723))⟩ h.1 (ci := 7) rfl (by decide) rfl hl.1 rfl (lv_room (Nat.le_of_ble_eq_true rfl)) dX3_read_53 ⟨Nat.zero_le _, Nat.zero_le _⟩ (fun z19 M17 H locs h hP hS => ?_)
          refine r_if_ne (tgt := 68) hx hb dX3_read_56 (by decide) h (fun h => ?_) (fun h => ?_)
          · refine r_iinc hx hb (fun z21 => [(1, .int z21), (0, .ref (adr G xl0))]) dX3_read_68 (by decide) hl (k := 1) rfl (by decide) (fun _ => rfl) h (fun z21 ls hl h => ?_)
            refine lv_goto (tgt := 19) hx hb dX3_read_71 (by decide) ?_
            exact ih xl0 z21 _ _ _ _ hP hS (lv_sub hl [1, 0] rfl) h
          · refine lv_aload_n hx hb dX3_read_59 rfl (lv_at hl 0 rfl) ?_
            refine r_getr (C := RX3) (T := TX3) (N := 9) hx hb hts (fun w h => List.mem_cons_of_mem _ (iX3 w h)) hown hK hP rfl (by decide) rfl 0 (by decide) (hts _ (List.mem_cons_of_mem _ kw_307)) (fun _ h9 => h9) dX3_read_60 (by decide) h (fun x23 h => ?_)
            refine r_iconst hx hb dX3_read_63 (by decide) h (fun z25 h => ?_)
            refine q_Vi hx hb hml hown hts hK hP hS (c_X7_refuse l D G S _ x23 z25 _ h.2) ⟨callB_of 1 hts (gw_good kw_657) rfl rfl rfl (hts _ (List.mem_cons_of_mem _ kw_2)) (hts _ (List.mem_cons_of_mem _ kw_752)) hd_X7_refuse ⟨Nat.le_of_ble_eq_true rfl, Nat.le_of_ble_eq_true rfl⟩, (hts _ (List.mem_cons_of_mem _ kw_655)), (hts _ (List.mem_cons_of_mem _ kw_656))⟩ h.1 (ci := 7) rfl (by decide) rfl hl.1 rfl (lv_room (Nat.le_of_ble_eq_true rfl)) dX3_read_64 ⟨Nat.zero_le _, Nat.zero_le _⟩ (fun z28 M26 H locs h hP hS => ?_)
            exact r_zret hx hb hr hlocks hP hS dX3_read_67 h
        · refine r_iconst hx hb dX3_read_45 (by decide) h (fun z30 h => ?_)
          exact r_zret hx hb hr hlocks hP hS dX3_read_46 h
      · refine r_iconst hx hb dX3_read_33 (by decide) h (fun z32 h => ?_)
        exact r_zret hx hb hr hlocks hP hS dX3_read_34 h
set_option maxHeartbeats 4000000 in
set_option maxRecDepth 100000 in
theorem c_X3_read (l : Launch) (D : va_G) (G : Gt) (S : Sh) (M : Mm) (xl0 : Int) (post : Int → Mm → Prop) (h : wp_X3_read S M xl0 post) : Met l yX3_read (cw_X3_read :: gw) RM_X3_read (va_Pc [.ref (adr G xl0)] (fun U => KN D G U ∧ Wd D G S M U.heap)) (QI D G S post) 0 0 (aG G) := by
  refine Met.ofW (cc := cX3_read) (maxL := 2) (ret := (some .boolean)) (by decide) rfl ?_
  intro p e s m args below meth c s₁ B hml hv
  obtain ⟨rfl, hK, hP⟩ := hv
  have hx := B.exec
  have hb := B.bytes
  have hr := B.returns
  have hts := atoms_spec (ws := cw_X3_read :: gw) B.pre
  have hown : s.vm.findClass RX3 = some m.cls := findClass_of_methodNamed B.named
  have hlocks := B.notSynchronized
  have hS : va_S (aG G) s.heap s.heap [] := va_S.rf
  have C : Cx p s m ([.ref (adr G xl0)] : List Value).toArray meth c D G cX3_read 2 (some .boolean) (cw_X3_read :: gw) RX3 := ⟨hx, hb, hr, hlocks, hml, hown, hts, hK⟩
  have hl := lv_entry ([.ref (adr G xl0)]) (n := 2) (Nat.le_of_ble_eq_true rfl)
  rw [lg_entry_eq]
  generalize (lg_sl ([.ref (adr G xl0)]) ++ List.replicate (2 - (lg_sl ([.ref (adr G xl0)])).length) Slot.unset).toArray = ls at hl ⊢
  have hl : lv_has ls 2 [(0, .ref (adr G xl0))] := hl
  unfold wp_X3_read at h
  refine lv_aload_n hx hb dX3_read_0 rfl (lv_at hl 0 rfl) ?_
  refine r_iconst hx hb dX3_read_1 (by decide) h (fun z34 h => ?_)
  refine r_puti (C := RX3) (T := TX3) (N := 9) hx hb hts (fun w h => List.mem_cons_of_mem _ (iX3 w h)) hown hK hP tyX3 tyX3_ok nmX3 hS rfl (by decide) rfl 2 (by decide) (hts _ (List.mem_cons_of_mem _ kw_309)) (fun _ h9 => h9) rfl (tyX3_ok 2 (by decide)) rfl rfl dX3_read_2 (by decide) h (fun M35 H locs h hP hS => ?_)
  refine lv_aload_n hx hb dX3_read_5 rfl (lv_at hl 0 rfl) ?_
  refine r_iconst hx hb dX3_read_6 (by decide) h (fun z37 h => ?_)
  refine r_puti (C := RX3) (T := TX3) (N := 9) hx hb hts (fun w h => List.mem_cons_of_mem _ (iX3 w h)) hown hK hP tyX3 tyX3_ok nmX3 hS rfl (by decide) rfl 3 (by decide) (hts _ (List.mem_cons_of_mem _ kw_310)) (fun _ h9 => h9) rfl (tyX3_ok 3 (by decide)) rfl rfl dX3_read_7 (by decide) h (fun M38 H locs h hP hS => ?_)
  refine lv_aload_n hx hb dX3_read_10 rfl (lv_at hl 0 rfl) ?_
  refine r_getr (C := RX3) (T := TX3) (N := 9) hx hb hts (fun w h => List.mem_cons_of_mem _ (iX3 w h)) hown hK hP rfl (by decide) rfl 0 (by decide) (hts _ (List.mem_cons_of_mem _ kw_307)) (fun _ h9 => h9) dX3_read_11 (by decide) h (fun x40 h => ?_)
  refine q_Vv hx hb hml hown hts hK hP hS (c_X7_rewind l D G S _ x40 _ h.2) ⟨callB_of 0 hts (gw_good kw_576) rfl rfl rfl (hts _ (List.mem_cons_of_mem _ kw_2)) (hts _ (List.mem_cons_of_mem _ kw_745)) hd_X7_rewind ⟨Nat.le_of_ble_eq_true rfl, Nat.le_of_ble_eq_true rfl⟩, (hts _ (List.mem_cons_of_mem _ kw_574)), (hts _ (List.mem_cons_of_mem _ kw_575))⟩ h.1 (ci := 7) rfl (by decide) rfl hl.1 rfl (lv_room (Nat.le_of_ble_eq_true rfl)) dX3_read_14 ⟨Nat.zero_le _, Nat.zero_le _⟩ (fun M41 H locs h hP hS => ?_)
  refine r_iconst hx hb dX3_read_17 (by decide) h (fun z43 h => ?_)
  refine lv_istore_n (lv' := [(1, .int z43), (0, .ref (adr G xl0))]) hx hb dX3_read_18 rfl hl (by decide) rfl (fun ls hl => ?_)
  obtain ⟨n9, h⟩ := h
  exact t_X3_read_19 C n9 xl0 z43 _ _ _ _ hP hS (lv_sub hl [1, 0] rfl) h
/-! TurningMilk.enforce()V -/
abbrev RM_X11_enforce : Room := { frames := 1, cells := 0, slots := 0, locals := 40 }
def cw_X11_enforce : Cond := Cond.code yX11_enforce cX11_enforce 2 (Option.none : Option FieldType)
theorem hd_X11_enforce : yX11_enforce.cls ≠ "java/lang/invoke/MethodHandle" ∧ yX11_enforce.cls ≠ "java/lang/invoke/VarHandle" ∧ (parseMethodDescriptor yX11_enforce.desc).map (fun d => d.parameters.length) = some 0 := by decide +kernel
theorem dX11_enforce_0 : decode cX11_enforce 0 = .ok (.aload_n 0, 1) := by decide +kernel
theorem dX11_enforce_1 : decode cX11_enforce 1 = .ok (.getfield 19, 3) := by decide +kernel
theorem dX11_enforce_4 : decode cX11_enforce 4 = .ok (.getfield 157, 3) := by decide +kernel
theorem dX11_enforce_7 : decode cX11_enforce 7 = .ok (.ifCond .lt 19, 3) := by decide +kernel
theorem dX11_enforce_10 : decode cX11_enforce 10 = .ok (.aload_n 0, 1) := by decide +kernel
theorem dX11_enforce_11 : decode cX11_enforce 11 = .ok (.getfield 19, 3) := by decide +kernel
theorem dX11_enforce_14 : decode cX11_enforce 14 = .ok (.getfield 157, 3) := by decide +kernel
theorem dX11_enforce_17 : decode cX11_enforce 17 = .ok (.bipush 6, 2) := by decide +kernel
theorem dX11_enforce_19 : decode cX11_enforce 19 = .ok (.if_icmp .ge 7, 3) := by decide +kernel
theorem dX11_enforce_22 : decode cX11_enforce 22 = .ok (.iconst 1, 1) := by decide +kernel
theorem dX11_enforce_23 : decode cX11_enforce 23 = .ok (.goto 4, 3) := by decide +kernel
theorem dX11_enforce_26 : decode cX11_enforce 26 = .ok (.iconst 0, 1) := by decide +kernel
theorem dX11_enforce_27 : decode cX11_enforce 27 = .ok (.istore_n 1, 1) := by decide +kernel
theorem dX11_enforce_28 : decode cX11_enforce 28 = .ok (.aload_n 0, 1) := by decide +kernel
theorem dX11_enforce_29 : decode cX11_enforce 29 = .ok (.getfield 64, 3) := by decide +kernel
theorem dX11_enforce_32 : decode cX11_enforce 32 = .ok (.iload_n 1, 1) := by decide +kernel
theorem dX11_enforce_33 : decode cX11_enforce 33 = .ok (.ifCond .eq 18, 3) := by decide +kernel
theorem dX11_enforce_36 : decode cX11_enforce 36 = .ok (.aload_n 0, 1) := by decide +kernel
theorem dX11_enforce_37 : decode cX11_enforce 37 = .ok (.getfield 35, 3) := by decide +kernel
theorem dX11_enforce_40 : decode cX11_enforce 40 = .ok (.aload_n 0, 1) := by decide +kernel
theorem dX11_enforce_41 : decode cX11_enforce 41 = .ok (.getfield 19, 3) := by decide +kernel
theorem dX11_enforce_44 : decode cX11_enforce 44 = .ok (.getfield 157, 3) := by decide +kernel
theorem dX11_enforce_47 : decode cX11_enforce 47 = .ok (.aaload, 1) := by decide +kernel
theorem dX11_enforce_48 : decode cX11_enforce 48 = .ok (.goto 6, 3) := by decide +kernel
theorem dX11_enforce_51 : decode cX11_enforce 51 = .ok (.getstatic 105, 3) := by decide +kernel
theorem dX11_enforce_54 : decode cX11_enforce 54 = .ok (.putfield 163, 3) := by decide +kernel
theorem dX11_enforce_57 : decode cX11_enforce 57 = .ok (.return_, 1) := by decide +kernel
def wp_X11_enforce_27 (S : Sh) (post : Mm → Prop) (u0 : Int) (t0 : Int) (M : Mm) : Prop := wGetR S M u0 11 10 fun v1 => wIf (t0 = 0) (wC (-2) fun v3 => wPutR S M v1 10 1 v3 fun M5 => post M5) (wGetR S M u0 11 6 fun v6 => wGetR S M u0 11 1 fun v8 => wGet S M v8 4 2 fun v10 => wLdR S M v6 19 v10 fun v12 => wPutR S M v1 10 1 v12 fun M14 => post M14)
def wp_X11_enforce_26 (S : Sh) (post : Mm → Prop) (u0 : Int) (M : Mm) : Prop := wC 0 fun v15 => wp_X11_enforce_27 S post u0 v15 M
def wp_X11_enforce (S : Sh) (M : Mm) (u0 : Int) (post : Mm → Prop) : Prop := wGetR S M u0 11 1 fun v17 => wGet S M v17 4 2 fun v19 => wIf (v19 < 0) (wp_X11_enforce_26 S post u0 M) (wGetR S M u0 11 1 fun v21 => wGet S M v21 4 2 fun v23 => wC 6 fun v25 => wIf (v25 ≤ v23) (wp_X11_enforce_26 S post u0 M) (wC 1 fun v27 => wp_X11_enforce_27 S post u0 v27 M))
set_option maxHeartbeats 4000000 in
set_option maxRecDepth 100000 in
theorem t_X11_enforce_27 {p : Program} {l : Launch} {e : Env} {s : State} {m : MethodId} {args : Array Value} {below : List Frame} {meth : Method} {c : Code} {D : va_G} {G : Gt} {S : Sh} {post : Mm → Prop} (C : Cx p s m args meth c D G cX11_enforce 2 none (cw_X11_enforce :: gw) RX11) : ∀ (xl0 : Int) (zs0 : Int32) (M : Mm) (H : Heap) (locs : List Loc) (ls : Array Slot), Wd D G S M H → va_S (aG G) s.heap H locs → lv_has ls 2 [(0, .ref (adr G xl0))] → wp_X11_enforce_27 S post xl0 zs0.toInt M → W p l e RM_X11_enforce s m args below meth c H locs 0 0 (MQ below (QV D G S post) args s 0 0 (aG G)) (F0 m 27 ls [.int zs0]) := by
  obtain ⟨hx, hb, hr, hlocks, hml, hown, hts, hK⟩ := id C
  intro xl0 zs0 M H locs ls hP hS hl h
  unfold wp_X11_enforce_27 at h
  refine lv_istore_n (lv' := [(1, .int zs0), (0, .ref (adr G xl0))]) hx hb dX11_enforce_27 rfl hl (by decide) rfl (fun ls hl => ?_)
  refine lv_aload_n hx hb dX11_enforce_28 rfl (lv_at hl 1 rfl) ?_
  refine r_getr (C := RX11) (T := TX11) (N := 16) hx hb hts (fun w h => List.mem_cons_of_mem _ (iX11 w h)) hown hK hP rfl (by decide) rfl 10 (by decide) (hts _ (List.mem_cons_of_mem _ kw_501)) (fun _ h9 => h9) dX11_enforce_29 (by decide) h (fun x2 h => ?_)
  refine lv_iload_n hx hb dX11_enforce_32 rfl (lv_at hl 0 rfl) ?_
  refine r_if_eq (tgt := 51) hx hb dX11_enforce_33 (by decide) h (fun h => ?_) (fun h => ?_)
  · refine r_gets hx hb hK hS hown (hts _ (List.mem_cons_of_mem _ kw_490)) (fun _ h9 => h9) dX11_enforce_51 h (fun x4 h => ?_)
    refine r_putrN (C := RX10) (T := TX10) (N := 12) hx hb hts (fun w h => List.mem_cons_of_mem _ (iX10 w h)) hown hK hP tyX10 tyX10_ok nmX10 hS (K2 := _) h.2.1 rfl (by decide) rfl 1 (by decide) (nw_88 hK) (fun _ h9 => h9) rfl (tyX10_ok 1 (by decide)) rfl rfl dX11_enforce_54 (by decide) ⟨h.1, h.2.2⟩ (fun M5 H locs h hP hS => ?_)
    exact r_vret hx hb hr hlocks hP hS dX11_enforce_57 h
  · refine lv_aload_n hx hb dX11_enforce_36 rfl (lv_at hl 1 rfl) ?_
    refine r_getr (C := RX11) (T := TX11) (N := 16) hx hb hts (fun w h => List.mem_cons_of_mem _ (iX11 w h)) hown hK hP rfl (by decide) rfl 6 (by decide) (hts _ (List.mem_cons_of_mem _ kw_497)) (fun _ h9 => h9) dX11_enforce_37 (by decide) h (fun x7 h => ?_)
    refine lv_aload_n hx hb dX11_enforce_40 rfl (lv_at hl 1 rfl) ?_
    refine r_getr (C := RX11) (T := TX11) (N := 16) hx hb hts (fun w h => List.mem_cons_of_mem _ (iX11 w h)) hown hK hP rfl (by decide) rfl 1 (by decide) (hts _ (List.mem_cons_of_mem _ kw_492)) (fun _ h9 => h9) dX11_enforce_41 (by decide) h (fun x9 h => ?_)
    refine r_getiN (C := RX4) (T := TX4) (N := 10) hx hb hts (fun w h => List.mem_cons_of_mem _ (iX4 w h)) hown hK hP rfl (by decide) rfl 2 (by decide) (nw_74 hK) (fun _ h9 => h9) dX11_enforce_44 (by decide) h (fun z11 h => ?_)
    refine r_aald19 hx hb hK hP dX11_enforce_47 h (fun x13 h => ?_)
    refine lv_goto (tgt := 54) hx hb dX11_enforce_48 (by decide) ?_
    refine r_putrN (C := RX10) (T := TX10) (N := 12) hx hb hts (fun w h => List.mem_cons_of_mem _ (iX10 w h)) hown hK hP tyX10 tyX10_ok nmX10 hS (K2 := _) h.2.1 rfl (by decide) rfl 1 (by decide) (nw_88 hK) (fun _ h9 => h9) rfl (tyX10_ok 1 (by decide)) rfl rfl dX11_enforce_54 (by decide) ⟨h.1, h.2.2⟩ (fun M14 H locs h hP hS => ?_)
    exact r_vret hx hb hr hlocks hP hS dX11_enforce_57 h
set_option maxHeartbeats 4000000 in
set_option maxRecDepth 100000 in
theorem t_X11_enforce_26 {p : Program} {l : Launch} {e : Env} {s : State} {m : MethodId} {args : Array Value} {below : List Frame} {meth : Method} {c : Code} {D : va_G} {G : Gt} {S : Sh} {post : Mm → Prop} (C : Cx p s m args meth c D G cX11_enforce 2 none (cw_X11_enforce :: gw) RX11) : ∀ (xl0 : Int) (M : Mm) (H : Heap) (locs : List Loc) (ls : Array Slot), Wd D G S M H → va_S (aG G) s.heap H locs → lv_has ls 2 [(0, .ref (adr G xl0))] → wp_X11_enforce_26 S post xl0  M → W p l e RM_X11_enforce s m args below meth c H locs 0 0 (MQ below (QV D G S post) args s 0 0 (aG G)) (F0 m 26 ls []) := by
  obtain ⟨hx, hb, hr, hlocks, hml, hown, hts, hK⟩ := id C
  intro xl0 M H locs ls hP hS hl h
  unfold wp_X11_enforce_26 at h
  refine r_iconst hx hb dX11_enforce_26 (by decide) h (fun z16 h => ?_)
  exact t_X11_enforce_27 C xl0 z16 _ _ _ _ hP hS (lv_sub hl [0] rfl) h
set_option maxHeartbeats 4000000 in
set_option maxRecDepth 100000 in
theorem c_X11_enforce (l : Launch) (D : va_G) (G : Gt) (S : Sh) (M : Mm) (xl0 : Int) (post : Mm → Prop) (h : wp_X11_enforce S M xl0 post) : Met l yX11_enforce (cw_X11_enforce :: gw) RM_X11_enforce (va_Pc [.ref (adr G xl0)] (fun U => KN D G U ∧ Wd D G S M U.heap)) (QV D G S post) 0 0 (aG G) := by
  refine Met.ofW (cc := cX11_enforce) (maxL := 2) (ret := none) (by decide) rfl ?_
  intro p e s m args below meth c s₁ B hml hv
  obtain ⟨rfl, hK, hP⟩ := hv
  have hx := B.exec
  have hb := B.bytes
  have hr := B.returns
  have hts := atoms_spec (ws := cw_X11_enforce :: gw) B.pre
  have hown : s.vm.findClass RX11 = some m.cls := findClass_of_methodNamed B.named
  have hlocks := B.notSynchronized
  have hS : va_S (aG G) s.heap s.heap [] := va_S.rf
  have C : Cx p s m ([.ref (adr G xl0)] : List Value).toArray meth c D G cX11_enforce 2 none (cw_X11_enforce :: gw) RX11 := ⟨hx, hb, hr, hlocks, hml, hown, hts, hK⟩
  have hl := lv_entry ([.ref (adr G xl0)]) (n := 2) (Nat.le_of_ble_eq_true rfl)
  rw [lg_entry_eq]
  generalize (lg_sl ([.ref (adr G xl0)]) ++ List.replicate (2 - (lg_sl ([.ref (adr G xl0)])).length) Slot.unset).toArray = ls at hl ⊢
  have hl : lv_has ls 2 [(0, .ref (adr G xl0))] := hl
  unfold wp_X11_enforce at h
  refine lv_aload_n hx hb dX11_enforce_0 rfl (lv_at hl 0 rfl) ?_
  refine r_getr (C := RX11) (T := TX11) (N := 16) hx hb hts (fun w h => List.mem_cons_of_mem _ (iX11 w h)) hown hK hP rfl (by decide) rfl 1 (by decide) (hts _ (List.mem_cons_of_mem _ kw_492)) (fun _ h9 => h9) dX11_enforce_1 (by decide) h (fun x18 h => ?_)
  refine r_getiN (C := RX4) (T := TX4) (N := 10) hx hb hts (fun w h => List.mem_cons_of_mem _ (iX4 w h)) hown hK hP rfl (by decide) rfl 2 (by decide) (nw_74 hK) (fun _ h9 => h9) dX11_enforce_4 (by decide) h (fun z20 h => ?_)
  refine r_if_lt (tgt := 26) hx hb dX11_enforce_7 (by decide) h (fun h => ?_) (fun h => ?_)
  · exact t_X11_enforce_26 C xl0 _ _ _ _ hP hS (lv_sub hl [0] rfl) h
  · refine lv_aload_n hx hb dX11_enforce_10 rfl (lv_at hl 0 rfl) ?_
    refine r_getr (C := RX11) (T := TX11) (N := 16) hx hb hts (fun w h => List.mem_cons_of_mem _ (iX11 w h)) hown hK hP rfl (by decide) rfl 1 (by decide) (hts _ (List.mem_cons_of_mem _ kw_492)) (fun _ h9 => h9) dX11_enforce_11 (by decide) h (fun x22 h => ?_)
    refine r_getiN (C := RX4) (T := TX4) (N := 10) hx hb hts (fun w h => List.mem_cons_of_mem _ (iX4 w h)) hown hK hP rfl (by decide) rfl 2 (by decide) (nw_74 hK) (fun _ h9 => h9) dX11_enforce_14 (by decide) h (fun z24 h => ?_)
    refine r_bipush hx hb dX11_enforce_17 (by decide) h (fun z26 h => ?_)
    refine r_icmp_ge (tgt := 26) hx hb dX11_enforce_19 (by decide) h (fun h => ?_) (fun h => ?_)
    · exact t_X11_enforce_26 C xl0 _ _ _ _ hP hS (lv_sub hl [0] rfl) h
    · refine r_iconst hx hb dX11_enforce_22 (by decide) h (fun z28 h => ?_)
      refine lv_goto (tgt := 27) hx hb dX11_enforce_23 (by decide) ?_
      exact t_X11_enforce_27 C xl0 z28 _ _ _ _ hP hS (lv_sub hl [0] rfl) h
/-! TurningMilk.force(I)I -/
abbrev RM_X11_force : Room := { frames := 2, cells := 0, slots := 0, locals := 61 }
def cw_X11_force : Cond := Cond.code yX11_force cX11_force 3 (Option.some FieldType.int)
theorem hd_X11_force : yX11_force.cls ≠ "java/lang/invoke/MethodHandle" ∧ yX11_force.cls ≠ "java/lang/invoke/VarHandle" ∧ (parseMethodDescriptor yX11_force.desc).map (fun d => d.parameters.length) = some 1 := by decide +kernel
theorem dX11_force_0 : decode cX11_force 0 = .ok (.iload_n 1, 1) := by decide +kernel
theorem dX11_force_1 : decode cX11_force 1 = .ok (.iconst (-1), 1) := by decide +kernel
theorem dX11_force_2 : decode cX11_force 2 = .ok (.if_icmp .lt 11, 3) := by decide +kernel
theorem dX11_force_5 : decode cX11_force 5 = .ok (.iload_n 1, 1) := by decide +kernel
theorem dX11_force_6 : decode cX11_force 6 = .ok (.aload_n 0, 1) := by decide +kernel
theorem dX11_force_7 : decode cX11_force 7 = .ok (.getfield 149, 3) := by decide +kernel
theorem dX11_force_10 : decode cX11_force 10 = .ok (.if_icmp .lt 6, 3) := by decide +kernel
theorem dX11_force_13 : decode cX11_force 13 = .ok (.bipush (-2), 2) := by decide +kernel
theorem dX11_force_15 : decode cX11_force 15 = .ok (.ireturn, 1) := by decide +kernel
theorem dX11_force_16 : decode cX11_force 16 = .ok (.aload_n 0, 1) := by decide +kernel
theorem dX11_force_17 : decode cX11_force 17 = .ok (.getfield 19, 3) := by decide +kernel
theorem dX11_force_20 : decode cX11_force 20 = .ok (.getfield 157, 3) := by decide +kernel
theorem dX11_force_23 : decode cX11_force 23 = .ok (.istore_n 2, 1) := by decide +kernel
theorem dX11_force_24 : decode cX11_force 24 = .ok (.aload_n 0, 1) := by decide +kernel
theorem dX11_force_25 : decode cX11_force 25 = .ok (.getfield 19, 3) := by decide +kernel
theorem dX11_force_28 : decode cX11_force 28 = .ok (.iload_n 1, 1) := by decide +kernel
theorem dX11_force_29 : decode cX11_force 29 = .ok (.putfield 157, 3) := by decide +kernel
theorem dX11_force_32 : decode cX11_force 32 = .ok (.aload_n 0, 1) := by decide +kernel
theorem dX11_force_33 : decode cX11_force 33 = .ok (.invokevirtual 160, 3) := by decide +kernel
theorem dX11_force_36 : decode cX11_force 36 = .ok (.iload_n 2, 1) := by decide +kernel
theorem dX11_force_37 : decode cX11_force 37 = .ok (.ireturn, 1) := by decide +kernel
def wp_X11_force (S : Sh) (M : Mm) (u0 : Int) (u1 : Int) (post : Int → Mm → Prop) : Prop := wC (-1) fun v1 => wIf (u1 < v1) (wC (-2) fun v3 => post v3 M) (wGet S M u0 11 7 fun v5 => wIf (u1 < v5) (wGetR S M u0 11 1 fun v7 => wGet S M v7 4 2 fun v9 => wGetR S M u0 11 1 fun v11 => wPut S M v11 4 2 u1 fun M13 => isK S u0 11 ∧ (wp_X11_enforce S M13 u0 <| fun M14 => post v9 M14)) (wC (-2) fun v15 => post v15 M))
set_option maxHeartbeats 4000000 in
set_option maxRecDepth 100000 in
theorem c_X11_force (l : Launch) (D : va_G) (G : Gt) (S : Sh) (M : Mm) (xl0 : Int) (zl1 : Int32) (post : Int → Mm → Prop) (h : wp_X11_force S M xl0 zl1.toInt post) : Met l yX11_force (cw_X11_force :: gw) RM_X11_force (va_Pc [.ref (adr G xl0), .int zl1] (fun U => KN D G U ∧ Wd D G S M U.heap)) (QI D G S post) 0 0 (aG G) := by
  refine Met.ofW (cc := cX11_force) (maxL := 3) (ret := (some .int)) (by decide) rfl ?_
  intro p e s m args below meth c s₁ B hml hv
  obtain ⟨rfl, hK, hP⟩ := hv
  have hx := B.exec
  have hb := B.bytes
  have hr := B.returns
  have hts := atoms_spec (ws := cw_X11_force :: gw) B.pre
  have hown : s.vm.findClass RX11 = some m.cls := findClass_of_methodNamed B.named
  have hlocks := B.notSynchronized
  have hS : va_S (aG G) s.heap s.heap [] := va_S.rf
  have C : Cx p s m ([.ref (adr G xl0), .int zl1] : List Value).toArray meth c D G cX11_force 3 (some .int) (cw_X11_force :: gw) RX11 := ⟨hx, hb, hr, hlocks, hml, hown, hts, hK⟩
  have hl := lv_entry ([.ref (adr G xl0), .int zl1]) (n := 3) (Nat.le_of_ble_eq_true rfl)
  rw [lg_entry_eq]
  generalize (lg_sl ([.ref (adr G xl0), .int zl1]) ++ List.replicate (3 - (lg_sl ([.ref (adr G xl0), .int zl1])).length) Slot.unset).toArray = ls at hl ⊢
  have hl : lv_has ls 3 [(0, .ref (adr G xl0)), (1, .int zl1)] := hl
  unfold wp_X11_force at h
  refine lv_iload_n hx hb dX11_force_0 rfl (lv_at hl 1 rfl) ?_
  refine r_iconst hx hb dX11_force_1 (by decide) h (fun z2 h => ?_)
  refine r_icmp_lt (tgt := 13) hx hb dX11_force_2 (by decide) h (fun h => ?_) (fun h => ?_)
  · refine r_bipush hx hb dX11_force_13 (by decide) h (fun z4 h => ?_)
    exact r_iret hx hb hr hlocks hP hS dX11_force_15 h
  · refine lv_iload_n hx hb dX11_force_5 rfl (lv_at hl 1 rfl) ?_
    refine lv_aload_n hx hb dX11_force_6 rfl (lv_at hl 0 rfl) ?_
    refine r_geti (C := RX11) (T := TX11) (N := 16) hx hb hts (fun w h => List.mem_cons_of_mem _ (iX11 w h)) hown hK hP rfl (by decide) rfl 7 (by decide) (hts _ (List.mem_cons_of_mem _ kw_498)) (fun _ h9 => h9) dX11_force_7 (by decide) h (fun z6 h => ?_)
    refine r_icmp_lt (tgt := 16) hx hb dX11_force_10 (by decide) h (fun h => ?_) (fun h => ?_)
    · refine lv_aload_n hx hb dX11_force_16 rfl (lv_at hl 0 rfl) ?_
      refine r_getr (C := RX11) (T := TX11) (N := 16) hx hb hts (fun w h => List.mem_cons_of_mem _ (iX11 w h)) hown hK hP rfl (by decide) rfl 1 (by decide) (hts _ (List.mem_cons_of_mem _ kw_492)) (fun _ h9 => h9) dX11_force_17 (by decide) h (fun x8 h => ?_)
      refine r_getiN (C := RX4) (T := TX4) (N := 10) hx hb hts (fun w h => List.mem_cons_of_mem _ (iX4 w h)) hown hK hP rfl (by decide) rfl 2 (by decide) (nw_74 hK) (fun _ h9 => h9) dX11_force_20 (by decide) h (fun z10 h => ?_)
      refine lv_istore_n (lv' := [(2, .int z10), (0, .ref (adr G xl0)), (1, .int zl1)]) hx hb dX11_force_23 rfl hl (by decide) rfl (fun ls hl => ?_)
      refine lv_aload_n hx hb dX11_force_24 rfl (lv_at hl 1 rfl) ?_
      refine r_getr (C := RX11) (T := TX11) (N := 16) hx hb hts (fun w h => List.mem_cons_of_mem _ (iX11 w h)) hown hK hP rfl (by decide) rfl 1 (by decide) (hts _ (List.mem_cons_of_mem _ kw_492)) (fun _ h9 => h9) dX11_force_25 (by decide) h (fun x12 h => ?_)
      refine lv_iload_n hx hb dX11_force_28 rfl (lv_at hl 2 rfl) ?_
      refine r_putiN (C := RX4) (T := TX4) (N := 10) hx hb hts (fun w h => List.mem_cons_of_mem _ (iX4 w h)) hown hK hP tyX4 tyX4_ok nmX4 hS rfl (by decide) rfl 2 (by decide) (nw_74 hK) (fun _ h9 => h9) rfl (tyX4_ok 2 (by decide)) rfl rfl dX11_force_29 (by decide) h (fun M13 H locs h hP hS => ?_)
      refine lv_aload_n hx hb dX11_force_32 rfl (lv_at hl 1 rfl) ?_
      refine q_Vv hx hb hml hown hts hK hP hS (c_X11_enforce l D G S _ xl0 _ h.2) ⟨callB_of 0 hts (gw_good kw_873) rfl rfl rfl (hts _ (List.mem_cons_of_mem _ kw_1)) (hts _ (List.mem_cons_of_mem _ kw_870)) hd_X11_enforce ⟨Nat.le_of_ble_eq_true rfl, Nat.le_of_ble_eq_true rfl⟩, (hts _ (List.mem_cons_of_mem _ kw_872)), (hts _ (List.mem_cons_of_mem _ kp_28))⟩ h.1 (ci := 11) rfl (by decide) rfl hl.1 rfl (lv_room (Nat.le_of_ble_eq_true rfl)) dX11_force_33 ⟨Nat.zero_le _, Nat.zero_le _⟩ (fun M14 H locs h hP hS => ?_)
      refine lv_iload_n hx hb dX11_force_36 rfl (lv_at hl 0 rfl) ?_
      exact r_iret hx hb hr hlocks hP hS dX11_force_37 h
    · refine r_bipush hx hb dX11_force_13 (by decide) h (fun z16 h => ?_)
      exact r_iret hx hb hr hlocks hP hS dX11_force_15 h
/-! TurningMilk.isHand(I)Z -/
abbrev RM_X11_isHand : Room := { frames := 1, cells := 0, slots := 0, locals := 40 }
def cw_X11_isHand : Cond := Cond.code yX11_isHand cX11_isHand 2 (Option.some FieldType.boolean)
theorem hd_X11_isHand : yX11_isHand.cls ≠ "java/lang/invoke/MethodHandle" ∧ yX11_isHand.cls ≠ "java/lang/invoke/VarHandle" ∧ (parseMethodDescriptor yX11_isHand.desc).map (fun d => d.parameters.length) = some 1 := by decide +kernel
theorem dX11_isHand_0 : decode cX11_isHand 0 = .ok (.iload_n 1, 1) := by decide +kernel
theorem dX11_isHand_1 : decode cX11_isHand 1 = .ok (.ifCond .lt 21, 3) := by decide +kernel
theorem dX11_isHand_4 : decode cX11_isHand 4 = .ok (.iload_n 1, 1) := by decide +kernel
theorem dX11_isHand_5 : decode cX11_isHand 5 = .ok (.aload_n 0, 1) := by decide +kernel
theorem dX11_isHand_6 : decode cX11_isHand 6 = .ok (.getfield 19, 3) := by decide +kernel
theorem dX11_isHand_9 : decode cX11_isHand 9 = .ok (.getfield 57, 3) := by decide +kernel
theorem dX11_isHand_12 : decode cX11_isHand 12 = .ok (.getfield 169, 3) := by decide +kernel
theorem dX11_isHand_15 : decode cX11_isHand 15 = .ok (.if_icmp .ge 7, 3) := by decide +kernel
theorem dX11_isHand_18 : decode cX11_isHand 18 = .ok (.iconst 1, 1) := by decide +kernel
theorem dX11_isHand_19 : decode cX11_isHand 19 = .ok (.goto 4, 3) := by decide +kernel
theorem dX11_isHand_22 : decode cX11_isHand 22 = .ok (.iconst 0, 1) := by decide +kernel
theorem dX11_isHand_23 : decode cX11_isHand 23 = .ok (.ireturn, 1) := by decide +kernel
def wp_X11_isHand (S : Sh) (M : Mm) (u0 : Int) (u1 : Int) (post : Int → Mm → Prop) : Prop := wIf (u1 < 0) (wC 0 fun v1 => (v1 = 0 ∨ v1 = 1) ∧ post v1 M) (wGetR S M u0 11 1 fun v3 => wGetR S M v3 4 0 fun v5 => wGet S M v5 8 4 fun v7 => wIf (v7 ≤ u1) (wC 0 fun v9 => (v9 = 0 ∨ v9 = 1) ∧ post v9 M) (wC 1 fun v11 => (v11 = 0 ∨ v11 = 1) ∧ post v11 M))
set_option maxHeartbeats 4000000 in
set_option maxRecDepth 100000 in
theorem c_X11_isHand (l : Launch) (D : va_G) (G : Gt) (S : Sh) (M : Mm) (xl0 : Int) (zl1 : Int32) (post : Int → Mm → Prop) (h : wp_X11_isHand S M xl0 zl1.toInt post) : Met l yX11_isHand (cw_X11_isHand :: gw) RM_X11_isHand (va_Pc [.ref (adr G xl0), .int zl1] (fun U => KN D G U ∧ Wd D G S M U.heap)) (QI D G S post) 0 0 (aG G) := by
  refine Met.ofW (cc := cX11_isHand) (maxL := 2) (ret := (some .boolean)) (by decide) rfl ?_
  intro p e s m args below meth c s₁ B hml hv
  obtain ⟨rfl, hK, hP⟩ := hv
  have hx := B.exec
  have hb := B.bytes
  have hr := B.returns
  have hts := atoms_spec (ws := cw_X11_isHand :: gw) B.pre
  have hown : s.vm.findClass RX11 = some m.cls := findClass_of_methodNamed B.named
  have hlocks := B.notSynchronized
  have hS : va_S (aG G) s.heap s.heap [] := va_S.rf
  have C : Cx p s m ([.ref (adr G xl0), .int zl1] : List Value).toArray meth c D G cX11_isHand 2 (some .boolean) (cw_X11_isHand :: gw) RX11 := ⟨hx, hb, hr, hlocks, hml, hown, hts, hK⟩
  have hl := lv_entry ([.ref (adr G xl0), .int zl1]) (n := 2) (Nat.le_of_ble_eq_true rfl)
  rw [lg_entry_eq]
  generalize (lg_sl ([.ref (adr G xl0), .int zl1]) ++ List.replicate (2 - (lg_sl ([.ref (adr G xl0), .int zl1])).length) Slot.unset).toArray = ls at hl ⊢
  have hl : lv_has ls 2 [(0, .ref (adr G xl0)), (1, .int zl1)] := hl
  unfold wp_X11_isHand at h
  refine lv_iload_n hx hb dX11_isHand_0 rfl (lv_at hl 1 rfl) ?_
  refine r_if_lt (tgt := 22) hx hb dX11_isHand_1 (by decide) h (fun h => ?_) (fun h => ?_)
  · refine r_iconst hx hb dX11_isHand_22 (by decide) h (fun z2 h => ?_)
    exact r_zret hx hb hr hlocks hP hS dX11_isHand_23 h
  · refine lv_iload_n hx hb dX11_isHand_4 rfl (lv_at hl 1 rfl) ?_
    refine lv_aload_n hx hb dX11_isHand_5 rfl (lv_at hl 0 rfl) ?_
    refine r_getr (C := RX11) (T := TX11) (N := 16) hx hb hts (fun w h => List.mem_cons_of_mem _ (iX11 w h)) hown hK hP rfl (by decide) rfl 1 (by decide) (hts _ (List.mem_cons_of_mem _ kw_492)) (fun _ h9 => h9) dX11_isHand_6 (by decide) h (fun x4 h => ?_)
    refine r_getrN (C := RX4) (T := TX4) (N := 10) hx hb hts (fun w h => List.mem_cons_of_mem _ (iX4 w h)) hown hK hP rfl (by decide) rfl 0 (by decide) (nw_70 hK) (fun _ h9 => h9) dX11_isHand_9 (by decide) h (fun x6 h => ?_)
    refine r_getiN (C := RX8) (T := TX8) (N := 19) hx hb hts (fun w h => List.mem_cons_of_mem _ (iX8 w h)) hown hK hP rfl (by decide) rfl 4 (by decide) (nw_17 hK) (fun _ h9 => h9) dX11_isHand_12 (by decide) h (fun z8 h => ?_)
    refine r_icmp_ge (tgt := 22) hx hb dX11_isHand_15 (by decide) h (fun h => ?_) (fun h => ?_)
    · refine r_iconst hx hb dX11_isHand_22 (by decide) h (fun z10 h => ?_)
      exact r_zret hx hb hr hlocks hP hS dX11_isHand_23 h
    · refine r_iconst hx hb dX11_isHand_18 (by decide) h (fun z12 h => ?_)
      refine lv_goto (tgt := 23) hx hb dX11_isHand_19 (by decide) ?_
      exact r_zret hx hb hr hlocks hP hS dX11_isHand_23 h
/-! TurningMilk$State.heldBits(I)I -/
abbrev RM_X5_heldBits : Room := { frames := 1, cells := 0, slots := 0, locals := 40 }
def cw_X5_heldBits : Cond := Cond.code yX5_heldBits cX5_heldBits 4 (Option.some FieldType.int)
theorem hd_X5_heldBits : yX5_heldBits.cls ≠ "java/lang/invoke/MethodHandle" ∧ yX5_heldBits.cls ≠ "java/lang/invoke/VarHandle" ∧ (parseMethodDescriptor yX5_heldBits.desc).map (fun d => d.parameters.length) = some 1 := by decide +kernel
theorem dX5_heldBits_0 : decode cX5_heldBits 0 = .ok (.iconst 0, 1) := by decide +kernel
theorem dX5_heldBits_1 : decode cX5_heldBits 1 = .ok (.istore_n 2, 1) := by decide +kernel
theorem dX5_heldBits_2 : decode cX5_heldBits 2 = .ok (.iconst 0, 1) := by decide +kernel
theorem dX5_heldBits_3 : decode cX5_heldBits 3 = .ok (.istore_n 3, 1) := by decide +kernel
theorem dX5_heldBits_4 : decode cX5_heldBits 4 = .ok (.iload_n 3, 1) := by decide +kernel
theorem dX5_heldBits_5 : decode cX5_heldBits 5 = .ok (.iconst 4, 1) := by decide +kernel
theorem dX5_heldBits_6 : decode cX5_heldBits 6 = .ok (.if_icmp .ge 25, 3) := by decide +kernel
theorem dX5_heldBits_9 : decode cX5_heldBits 9 = .ok (.aload_n 0, 1) := by decide +kernel
theorem dX5_heldBits_10 : decode cX5_heldBits 10 = .ok (.getfield 24, 3) := by decide +kernel
theorem dX5_heldBits_13 : decode cX5_heldBits 13 = .ok (.iload_n 3, 1) := by decide +kernel
theorem dX5_heldBits_14 : decode cX5_heldBits 14 = .ok (.iaload, 1) := by decide +kernel
theorem dX5_heldBits_15 : decode cX5_heldBits 15 = .ok (.iload_n 1, 1) := by decide +kernel
theorem dX5_heldBits_16 : decode cX5_heldBits 16 = .ok (.if_icmp .ne 9, 3) := by decide +kernel
theorem dX5_heldBits_19 : decode cX5_heldBits 19 = .ok (.iload_n 2, 1) := by decide +kernel
theorem dX5_heldBits_20 : decode cX5_heldBits 20 = .ok (.iconst 1, 1) := by decide +kernel
theorem dX5_heldBits_21 : decode cX5_heldBits 21 = .ok (.iload_n 3, 1) := by decide +kernel
theorem dX5_heldBits_22 : decode cX5_heldBits 22 = .ok (.ishl, 1) := by decide +kernel
theorem dX5_heldBits_23 : decode cX5_heldBits 23 = .ok (.ior, 1) := by decide +kernel
theorem dX5_heldBits_24 : decode cX5_heldBits 24 = .ok (.istore_n 2, 1) := by decide +kernel
theorem dX5_heldBits_25 : decode cX5_heldBits 25 = .ok (.iinc 3 1, 3) := by decide +kernel
theorem dX5_heldBits_28 : decode cX5_heldBits 28 = .ok (.goto (-24), 3) := by decide +kernel
theorem dX5_heldBits_31 : decode cX5_heldBits 31 = .ok (.iload_n 2, 1) := by decide +kernel
theorem dX5_heldBits_32 : decode cX5_heldBits 32 = .ok (.ireturn, 1) := by decide +kernel
def wp_X5_heldBits_25 (S : Sh) (k4 : Int → Int → Int → Int → Mm → Prop) (post : Int → Mm → Prop) (u0 : Int) (u1 : Int) (u2 : Int) (u3 : Int) (M : Mm) : Prop := wA u3 1 fun v1 => k4 u0 u1 u2 v1 M
def wp_X5_heldBits_4 (S : Sh) (post : Int → Mm → Prop) : Nat → Int → Int → Int → Int → Mm → Prop
  | 0, _, _, _, _, _ => False
  | n + 1, u0, u1, u2, u3, M => wC 4 fun v3 => wIf (v3 ≤ u3) (post u2 M) (wGetR S M u0 5 6 fun v5 => wLd S M v5 14 u3 fun v7 => wIf (¬ v7 = u1) (wp_X5_heldBits_25 S (fun a0 a1 a2 a3 M => wp_X5_heldBits_4 S post n a0 a1 a2 a3 M) post u0 u1 u2 u3 M) (wC 1 fun v9 => wO iShl v9 u3 fun v11 => wO iOr u2 v11 fun v13 => wp_X5_heldBits_25 S (fun a0 a1 a2 a3 M => wp_X5_heldBits_4 S post n a0 a1 a2 a3 M) post u0 u1 v13 u3 M))
def wp_X5_heldBits (S : Sh) (M : Mm) (u0 : Int) (u1 : Int) (post : Int → Mm → Prop) : Prop := wC 0 fun v15 => wC 0 fun v17 => ∃ n9 : Nat, wp_X5_heldBits_4 S post n9 u0 u1 v15 v17 M
set_option maxHeartbeats 4000000 in
set_option maxRecDepth 100000 in
theorem t_X5_heldBits_25 {p : Program} {l : Launch} {e : Env} {s : State} {m : MethodId} {args : Array Value} {below : List Frame} {meth : Method} {c : Code} {D : va_G} {G : Gt} {S : Sh} {post : Int → Mm → Prop} {k4 : Int → Int → Int → Int → Mm → Prop} (C : Cx p s m args meth c D G cX5_heldBits 4 (some .int) (cw_X5_heldBits :: gw) RX5) (hk4 : ∀ (y0 : Int) (y1 : Int32) (y2 : Int32) (y3 : Int32) (M : Mm) (H : Heap) (locs : List Loc) (ls : Array Slot), Wd D G S M H → va_S (aG G) s.heap H locs → lv_has ls 4 [(0, .ref (adr G y0)), (1, .int y1), (2, .int y2), (3, .int y3)] → k4 y0 y1.toInt y2.toInt y3.toInt M → W p l e RM_X5_heldBits s m args below meth c H locs 0 0 (MQ below (QI D G S post) args s 0 0 (aG G)) (F0 m 4 ls [])) : ∀ (xl0 : Int) (zl1 : Int32) (zl2 : Int32) (zl3 : Int32) (M : Mm) (H : Heap) (locs : List Loc) (ls : Array Slot), Wd D G S M H → va_S (aG G) s.heap H locs → lv_has ls 4 [(0, .ref (adr G xl0)), (1, .int zl1), (2, .int zl2), (3, .int zl3)] → wp_X5_heldBits_25 S k4 post xl0 zl1.toInt zl2.toInt zl3.toInt  M → W p l e RM_X5_heldBits s m args below meth c H locs 0 0 (MQ below (QI D G S post) args s 0 0 (aG G)) (F0 m 25 ls []) := by
  obtain ⟨hx, hb, hr, hlocks, hml, hown, hts, hK⟩ := id C
  intro xl0 zl1 zl2 zl3 M H locs ls hP hS hl h
  unfold wp_X5_heldBits_25 at h
  refine r_iinc hx hb (fun z2 => [(3, .int z2), (0, .ref (adr G xl0)), (1, .int zl1), (2, .int zl2)]) dX5_heldBits_25 (by decide) hl (k := 3) rfl (by decide) (fun _ => rfl) h (fun z2 ls hl h => ?_)
  refine lv_goto (tgt := 4) hx hb dX5_heldBits_28 (by decide) ?_
  exact hk4 xl0 zl1 zl2 z2 _ _ _ _ hP hS (lv_sub hl [1, 2, 3, 0] rfl) h
set_option maxHeartbeats 4000000 in
set_option maxRecDepth 100000 in
theorem t_X5_heldBits_4 {p : Program} {l : Launch} {e : Env} {s : State} {m : MethodId} {args : Array Value} {below : List Frame} {meth : Method} {c : Code} {D : va_G} {G : Gt} {S : Sh} {post : Int → Mm → Prop} (C : Cx p s m args meth c D G cX5_heldBits 4 (some .int) (cw_X5_heldBits :: gw) RX5) : ∀ (n : Nat) (xl0 : Int) (zl1 : Int32) (zl2 : Int32) (zl3 : Int32) (M : Mm) (H : Heap) (locs : List Loc) (ls : Array Slot), Wd D G S M H → va_S (aG G) s.heap H locs → lv_has ls 4 [(0, .ref (adr G xl0)), (1, .int zl1), (2, .int zl2), (3, .int zl3)] → wp_X5_heldBits_4 S post n xl0 zl1.toInt zl2.toInt zl3.toInt  M → W p l e RM_X5_heldBits s m args below meth c H locs 0 0 (MQ below (QI D G S post) args s 0 0 (aG G)) (F0 m 4 ls []) := by
  obtain ⟨hx, hb, hr, hlocks, hml, hown, hts, hK⟩ := id C
  intro n
  induction n with
  | zero => intro xl0 zl1 zl2 zl3 M H locs ls hP hS hl h; exact h.elim
  | succ n ih =>
    intro xl0 zl1 zl2 zl3 M H locs ls hP hS hl h
    unfold wp_X5_heldBits_4 at h
    refine lv_iload_n hx hb dX5_heldBits_4 rfl (lv_at hl 3 rfl) ?_
    refine r_iconst hx hb dX5_heldBits_5 (by decide) h (fun z4 h => ?_)
    refine r_icmp_ge (tgt := 31) hx hb dX5_heldBits_6 (by decide) h (fun h => ?_) (fun h => ?_)
    · refine lv_iload_n hx hb dX5_heldBits_31 rfl (lv_at hl 2 rfl) ?_
      exact r_iret hx hb hr hlocks hP hS dX5_heldBits_32 h
    · refine lv_aload_n hx hb dX5_heldBits_9 rfl (lv_at hl 0 rfl) ?_
      refine r_getr (C := RX5) (T := TX5) (N := 9) hx hb hts (fun w h => List.mem_cons_of_mem _ (iX5 w h)) hown hK hP rfl (by decide) rfl 6 (by decide) (hts _ (List.mem_cons_of_mem _ kw_200)) (fun _ h9 => h9) dX5_heldBits_10 (by decide) h (fun x6 h => ?_)
      refine lv_iload_n hx hb dX5_heldBits_13 rfl (lv_at hl 3 rfl) ?_
      refine r_iald hx hb hK hP dX5_heldBits_14 h (fun z8 h => ?_)
      refine lv_iload_n hx hb dX5_heldBits_15 rfl (lv_at hl 1 rfl) ?_
      refine r_icmp_ne (tgt := 25) hx hb dX5_heldBits_16 (by decide) h (fun h => ?_) (fun h => ?_)
      · exact t_X5_heldBits_25 C ih xl0 zl1 zl2 zl3 _ _ _ _ hP hS (lv_sub hl [0, 1, 2, 3] rfl) h
      · refine lv_iload_n hx hb dX5_heldBits_19 rfl (lv_at hl 2 rfl) ?_
        refine r_iconst hx hb dX5_heldBits_20 (by decide) h (fun z10 h => ?_)
        refine lv_iload_n hx hb dX5_heldBits_21 rfl (lv_at hl 3 rfl) ?_
        refine r_ishl hx hb dX5_heldBits_22 h (fun z12 h => ?_)
        refine r_ior hx hb dX5_heldBits_23 h (fun z14 h => ?_)
        refine lv_istore_n (lv' := [(2, .int z14), (0, .ref (adr G xl0)), (1, .int zl1), (3, .int zl3)]) hx hb dX5_heldBits_24 rfl hl (by decide) rfl (fun ls hl => ?_)
        exact t_X5_heldBits_25 C ih xl0 zl1 z14 zl3 _ _ _ _ hP hS (lv_sub hl [1, 2, 0, 3] rfl) h
set_option maxHeartbeats 4000000 in
set_option maxRecDepth 100000 in
theorem c_X5_heldBits (l : Launch) (D : va_G) (G : Gt) (S : Sh) (M : Mm) (xl0 : Int) (zl1 : Int32) (post : Int → Mm → Prop) (h : wp_X5_heldBits S M xl0 zl1.toInt post) : Met l yX5_heldBits (cw_X5_heldBits :: gw) RM_X5_heldBits (va_Pc [.ref (adr G xl0), .int zl1] (fun U => KN D G U ∧ Wd D G S M U.heap)) (QI D G S post) 0 0 (aG G) := by
  refine Met.ofW (cc := cX5_heldBits) (maxL := 4) (ret := (some .int)) (by decide) rfl ?_
  intro p e s m args below meth c s₁ B hml hv
  obtain ⟨rfl, hK, hP⟩ := hv
  have hx := B.exec
  have hb := B.bytes
  have hr := B.returns
  have hts := atoms_spec (ws := cw_X5_heldBits :: gw) B.pre
  have hown : s.vm.findClass RX5 = some m.cls := findClass_of_methodNamed B.named
  have hlocks := B.notSynchronized
  have hS : va_S (aG G) s.heap s.heap [] := va_S.rf
  have C : Cx p s m ([.ref (adr G xl0), .int zl1] : List Value).toArray meth c D G cX5_heldBits 4 (some .int) (cw_X5_heldBits :: gw) RX5 := ⟨hx, hb, hr, hlocks, hml, hown, hts, hK⟩
  have hl := lv_entry ([.ref (adr G xl0), .int zl1]) (n := 4) (Nat.le_of_ble_eq_true rfl)
  rw [lg_entry_eq]
  generalize (lg_sl ([.ref (adr G xl0), .int zl1]) ++ List.replicate (4 - (lg_sl ([.ref (adr G xl0), .int zl1])).length) Slot.unset).toArray = ls at hl ⊢
  have hl : lv_has ls 4 [(0, .ref (adr G xl0)), (1, .int zl1)] := hl
  unfold wp_X5_heldBits at h
  refine r_iconst hx hb dX5_heldBits_0 (by decide) h (fun z16 h => ?_)
  refine lv_istore_n (lv' := [(2, .int z16), (0, .ref (adr G xl0)), (1, .int zl1)]) hx hb dX5_heldBits_1 rfl hl (by decide) rfl (fun ls hl => ?_)
  refine r_iconst hx hb dX5_heldBits_2 (by decide) h (fun z18 h => ?_)
  refine lv_istore_n (lv' := [(3, .int z18), (2, .int z16), (0, .ref (adr G xl0)), (1, .int zl1)]) hx hb dX5_heldBits_3 rfl hl (by decide) rfl (fun ls hl => ?_)
  obtain ⟨n9, h⟩ := h
  exact t_X5_heldBits_4 C n9 xl0 zl1 z16 z18 _ _ _ _ hP hS (lv_sub hl [2, 3, 1, 0] rfl) h
/-! TurningMilk.hand(II)I -/
abbrev RM_X11_hand : Room := { frames := 2, cells := 0, slots := 0, locals := 63 }
def cw_X11_hand : Cond := Cond.code yX11_hand cX11_hand 3 (Option.some FieldType.int)
theorem hd_X11_hand : yX11_hand.cls ≠ "java/lang/invoke/MethodHandle" ∧ yX11_hand.cls ≠ "java/lang/invoke/VarHandle" ∧ (parseMethodDescriptor yX11_hand.desc).map (fun d => d.parameters.length) = some 2 := by decide +kernel
theorem dX11_hand_0 : decode cX11_hand 0 = .ok (.aload_n 0, 1) := by decide +kernel
theorem dX11_hand_1 : decode cX11_hand 1 = .ok (.iload_n 1, 1) := by decide +kernel
theorem dX11_hand_2 : decode cX11_hand 2 = .ok (.invokevirtual 181, 3) := by decide +kernel
theorem dX11_hand_5 : decode cX11_hand 5 = .ok (.ifCond .ne 5, 3) := by decide +kernel
theorem dX11_hand_8 : decode cX11_hand 8 = .ok (.iconst (-1), 1) := by decide +kernel
theorem dX11_hand_9 : decode cX11_hand 9 = .ok (.ireturn, 1) := by decide +kernel
theorem dX11_hand_10 : decode cX11_hand 10 = .ok (.iload_n 2, 1) := by decide +kernel
theorem dX11_hand_11 : decode cX11_hand 11 = .ok (.tableswitch 114 0 5 #[37, 50, 63, 76, 88, 101], 37) := by decide +kernel
theorem dX11_hand_48 : decode cX11_hand 48 = .ok (.aload_n 0, 1) := by decide +kernel
theorem dX11_hand_49 : decode cX11_hand 49 = .ok (.getfield 19, 3) := by decide +kernel
theorem dX11_hand_52 : decode cX11_hand 52 = .ok (.getfield 133, 3) := by decide +kernel
theorem dX11_hand_55 : decode cX11_hand 55 = .ok (.getfield 184, 3) := by decide +kernel
theorem dX11_hand_58 : decode cX11_hand 58 = .ok (.iload_n 1, 1) := by decide +kernel
theorem dX11_hand_59 : decode cX11_hand 59 = .ok (.iaload, 1) := by decide +kernel
theorem dX11_hand_60 : decode cX11_hand 60 = .ok (.ireturn, 1) := by decide +kernel
theorem dX11_hand_61 : decode cX11_hand 61 = .ok (.aload_n 0, 1) := by decide +kernel
theorem dX11_hand_62 : decode cX11_hand 62 = .ok (.getfield 19, 3) := by decide +kernel
theorem dX11_hand_65 : decode cX11_hand 65 = .ok (.getfield 133, 3) := by decide +kernel
theorem dX11_hand_68 : decode cX11_hand 68 = .ok (.getfield 187, 3) := by decide +kernel
theorem dX11_hand_71 : decode cX11_hand 71 = .ok (.iload_n 1, 1) := by decide +kernel
theorem dX11_hand_72 : decode cX11_hand 72 = .ok (.iaload, 1) := by decide +kernel
theorem dX11_hand_73 : decode cX11_hand 73 = .ok (.ireturn, 1) := by decide +kernel
theorem dX11_hand_74 : decode cX11_hand 74 = .ok (.aload_n 0, 1) := by decide +kernel
theorem dX11_hand_75 : decode cX11_hand 75 = .ok (.getfield 19, 3) := by decide +kernel
theorem dX11_hand_78 : decode cX11_hand 78 = .ok (.getfield 133, 3) := by decide +kernel
theorem dX11_hand_81 : decode cX11_hand 81 = .ok (.getfield 190, 3) := by decide +kernel
theorem dX11_hand_84 : decode cX11_hand 84 = .ok (.iload_n 1, 1) := by decide +kernel
theorem dX11_hand_85 : decode cX11_hand 85 = .ok (.iaload, 1) := by decide +kernel
theorem dX11_hand_86 : decode cX11_hand 86 = .ok (.ireturn, 1) := by decide +kernel
theorem dX11_hand_87 : decode cX11_hand 87 = .ok (.aload_n 0, 1) := by decide +kernel
theorem dX11_hand_88 : decode cX11_hand 88 = .ok (.getfield 19, 3) := by decide +kernel
theorem dX11_hand_91 : decode cX11_hand 91 = .ok (.getfield 133, 3) := by decide +kernel
theorem dX11_hand_94 : decode cX11_hand 94 = .ok (.iload_n 1, 1) := by decide +kernel
theorem dX11_hand_95 : decode cX11_hand 95 = .ok (.invokevirtual 193, 3) := by decide +kernel
theorem dX11_hand_98 : decode cX11_hand 98 = .ok (.ireturn, 1) := by decide +kernel
theorem dX11_hand_99 : decode cX11_hand 99 = .ok (.aload_n 0, 1) := by decide +kernel
theorem dX11_hand_100 : decode cX11_hand 100 = .ok (.getfield 19, 3) := by decide +kernel
theorem dX11_hand_103 : decode cX11_hand 103 = .ok (.getfield 57, 3) := by decide +kernel
theorem dX11_hand_106 : decode cX11_hand 106 = .ok (.getfield 197, 3) := by decide +kernel
theorem dX11_hand_109 : decode cX11_hand 109 = .ok (.iload_n 1, 1) := by decide +kernel
theorem dX11_hand_110 : decode cX11_hand 110 = .ok (.iaload, 1) := by decide +kernel
theorem dX11_hand_111 : decode cX11_hand 111 = .ok (.ireturn, 1) := by decide +kernel
theorem dX11_hand_112 : decode cX11_hand 112 = .ok (.aload_n 0, 1) := by decide +kernel
theorem dX11_hand_113 : decode cX11_hand 113 = .ok (.getfield 19, 3) := by decide +kernel
theorem dX11_hand_116 : decode cX11_hand 116 = .ok (.getfield 57, 3) := by decide +kernel
theorem dX11_hand_119 : decode cX11_hand 119 = .ok (.getfield 200, 3) := by decide +kernel
theorem dX11_hand_122 : decode cX11_hand 122 = .ok (.iload_n 1, 1) := by decide +kernel
theorem dX11_hand_123 : decode cX11_hand 123 = .ok (.iaload, 1) := by decide +kernel
theorem dX11_hand_124 : decode cX11_hand 124 = .ok (.ireturn, 1) := by decide +kernel
theorem dX11_hand_125 : decode cX11_hand 125 = .ok (.iconst (-1), 1) := by decide +kernel
theorem dX11_hand_126 : decode cX11_hand 126 = .ok (.ireturn, 1) := by decide +kernel
def wp_X11_hand (S : Sh) (M : Mm) (u0 : Int) (u1 : Int) (u2 : Int) (post : Int → Mm → Prop) : Prop := isK S u0 11 ∧ (wp_X11_isHand S M u0 u1 <| fun v2 M1 => wIf (¬ v2 = 0) (wIf (u2 = 0) (wGetR S M1 u0 11 1 fun v4 => wGetR S M1 v4 4 1 fun v6 => wGetR S M1 v6 5 2 fun v8 => wLd S M1 v8 14 u1 fun v10 => post v10 M1) (wIf (u2 = 1) (wGetR S M1 u0 11 1 fun v12 => wGetR S M1 v12 4 1 fun v14 => wGetR S M1 v14 5 3 fun v16 => wLd S M1 v16 14 u1 fun v18 => post v18 M1) (wIf (u2 = 2) (wGetR S M1 u0 11 1 fun v20 => wGetR S M1 v20 4 1 fun v22 => wGetR S M1 v22 5 4 fun v24 => wLd S M1 v24 14 u1 fun v26 => post v26 M1) (wIf (u2 = 3) (wGetR S M1 u0 11 1 fun v28 => wGetR S M1 v28 4 1 fun v30 => isK S v30 5 ∧ (wp_X5_heldBits S M1 v30 u1 <| fun v33 M32 => post v33 M32)) (wIf (u2 = 4) (wGetR S M1 u0 11 1 fun v35 => wGetR S M1 v35 4 0 fun v37 => wGetR S M1 v37 8 10 fun v39 => wLd S M1 v39 14 u1 fun v41 => post v41 M1) (wIf (u2 = 5) (wGetR S M1 u0 11 1 fun v43 => wGetR S M1 v43 4 0 fun v45 => wGetR S M1 v45 8 11 fun v47 => wLd S M1 v47 14 u1 fun v49 => post v49 M1) (wC (-1) fun v51 => post v51 M1))))))) (wC (-1) fun v53 => post v53 M1))
set_option maxHeartbeats 4000000 in
set_option maxRecDepth 100000 in
theorem c_X11_hand (l : Launch) (D : va_G) (G : Gt) (S : Sh) (M : Mm) (xl0 : Int) (zl1 : Int32) (zl2 : Int32) (post : Int → Mm → Prop) (h : wp_X11_hand S M xl0 zl1.toInt zl2.toInt post) : Met l yX11_hand (cw_X11_hand :: gw) RM_X11_hand (va_Pc [.ref (adr G xl0), .int zl1, .int zl2] (fun U => KN D G U ∧ Wd D G S M U.heap)) (QI D G S post) 0 0 (aG G) := by
  refine Met.ofW (cc := cX11_hand) (maxL := 3) (ret := (some .int)) (by decide) rfl ?_
  intro p e s m args below meth c s₁ B hml hv
  obtain ⟨rfl, hK, hP⟩ := hv
  have hx := B.exec
  have hb := B.bytes
  have hr := B.returns
  have hts := atoms_spec (ws := cw_X11_hand :: gw) B.pre
  have hown : s.vm.findClass RX11 = some m.cls := findClass_of_methodNamed B.named
  have hlocks := B.notSynchronized
  have hS : va_S (aG G) s.heap s.heap [] := va_S.rf
  have C : Cx p s m ([.ref (adr G xl0), .int zl1, .int zl2] : List Value).toArray meth c D G cX11_hand 3 (some .int) (cw_X11_hand :: gw) RX11 := ⟨hx, hb, hr, hlocks, hml, hown, hts, hK⟩
  have hl := lv_entry ([.ref (adr G xl0), .int zl1, .int zl2]) (n := 3) (Nat.le_of_ble_eq_true rfl)
  rw [lg_entry_eq]
  generalize (lg_sl ([.ref (adr G xl0), .int zl1, .int zl2]) ++ List.replicate (3 - (lg_sl ([.ref (adr G xl0), .int zl1, .int zl2])).length) Slot.unset).toArray = ls at hl ⊢
  have hl : lv_has ls 3 [(0, .ref (adr G xl0)), (1, .int zl1), (2, .int zl2)] := hl
  unfold wp_X11_hand at h
  refine lv_aload_n hx hb dX11_hand_0 rfl (lv_at hl 0 rfl) ?_
  refine lv_iload_n hx hb dX11_hand_1 rfl (lv_at hl 1 rfl) ?_
  refine q_Vi hx hb hml hown hts hK hP hS (c_X11_isHand l D G S _ xl0 zl1 _ h.2) ⟨callB_of 1 hts (gw_good kw_881) rfl rfl rfl (hts _ (List.mem_cons_of_mem _ kw_1)) (hts _ (List.mem_cons_of_mem _ kw_878)) hd_X11_isHand ⟨Nat.le_of_ble_eq_true rfl, Nat.le_of_ble_eq_true rfl⟩, (hts _ (List.mem_cons_of_mem _ kw_880)), (hts _ (List.mem_cons_of_mem _ kp_29))⟩ h.1 (ci := 11) rfl (by decide) rfl hl.1 rfl (lv_room (Nat.le_of_ble_eq_true rfl)) dX11_hand_2 ⟨Nat.zero_le _, Nat.zero_le _⟩ (fun z3 M1 H locs h hP hS => ?_)
  refine r_if_ne (tgt := 10) hx hb dX11_hand_5 (by decide) h (fun h => ?_) (fun h => ?_)
  · refine lv_iload_n hx hb dX11_hand_10 rfl (lv_at hl 2 rfl) ?_
    refine sw (c := zl2.toInt = 0) h (fun e0 h => ?_) (fun e0 h => ?_)
    · refine lv_tableIn (tgt := 48) hx hb dX11_hand_11 (by omega) (by omega) (by rw [e0]; rfl) (by decide) ?_
      refine lv_aload_n hx hb dX11_hand_48 rfl (lv_at hl 0 rfl) ?_
      refine r_getr (C := RX11) (T := TX11) (N := 16) hx hb hts (fun w h => List.mem_cons_of_mem _ (iX11 w h)) hown hK hP rfl (by decide) rfl 1 (by decide) (hts _ (List.mem_cons_of_mem _ kw_492)) (fun _ h9 => h9) dX11_hand_49 (by decide) h (fun x5 h => ?_)
      refine r_getrN (C := RX4) (T := TX4) (N := 10) hx hb hts (fun w h => List.mem_cons_of_mem _ (iX4 w h)) hown hK hP rfl (by decide) rfl 1 (by decide) (nw_73 hK) (fun _ h9 => h9) dX11_hand_52 (by decide) h (fun x7 h => ?_)
      refine r_getrN (C := RX5) (T := TX5) (N := 9) hx hb hts (fun w h => List.mem_cons_of_mem _ (iX5 w h)) hown hK hP rfl (by decide) rfl 2 (by decide) (nw_52 hK) (fun _ h9 => h9) dX11_hand_55 (by decide) h (fun x9 h => ?_)
      refine lv_iload_n hx hb dX11_hand_58 rfl (lv_at hl 1 rfl) ?_
      refine r_iald hx hb hK hP dX11_hand_59 h (fun z11 h => ?_)
      exact r_iret hx hb hr hlocks hP hS dX11_hand_60 h
    · refine sw (c := zl2.toInt = 1) h (fun e1 h => ?_) (fun e1 h => ?_)
      · refine lv_tableIn (tgt := 61) hx hb dX11_hand_11 (by omega) (by omega) (by rw [e1]; rfl) (by decide) ?_
        refine lv_aload_n hx hb dX11_hand_61 rfl (lv_at hl 0 rfl) ?_
        refine r_getr (C := RX11) (T := TX11) (N := 16) hx hb hts (fun w h => List.mem_cons_of_mem _ (iX11 w h)) hown hK hP rfl (by decide) rfl 1 (by decide) (hts _ (List.mem_cons_of_mem _ kw_492)) (fun _ h9 => h9) dX11_hand_62 (by decide) h (fun x13 h => ?_)
        refine r_getrN (C := RX4) (T := TX4) (N := 10) hx hb hts (fun w h => List.mem_cons_of_mem _ (iX4 w h)) hown hK hP rfl (by decide) rfl 1 (by decide) (nw_73 hK) (fun _ h9 => h9) dX11_hand_65 (by decide) h (fun x15 h => ?_)
        refine r_getrN (C := RX5) (T := TX5) (N := 9) hx hb hts (fun w h => List.mem_cons_of_mem _ (iX5 w h)) hown hK hP rfl (by decide) rfl 3 (by decide) (nw_55 hK) (fun _ h9 => h9) dX11_hand_68 (by decide) h (fun x17 h => ?_)
        refine lv_iload_n hx hb dX11_hand_71 rfl (lv_at hl 1 rfl) ?_
        refine r_iald hx hb hK hP dX11_hand_72 h (fun z19 h => ?_)
        exact r_iret hx hb hr hlocks hP hS dX11_hand_73 h
      · refine sw (c := zl2.toInt = 2) h (fun e2 h => ?_) (fun e2 h => ?_)
        · refine lv_tableIn (tgt := 74) hx hb dX11_hand_11 (by omega) (by omega) (by rw [e2]; rfl) (by decide) ?_
          refine lv_aload_n hx hb dX11_hand_74 rfl (lv_at hl 0 rfl) ?_
          refine r_getr (C := RX11) (T := TX11) (N := 16) hx hb hts (fun w h => List.mem_cons_of_mem _ (iX11 w h)) hown hK hP rfl (by decide) rfl 1 (by decide) (hts _ (List.mem_cons_of_mem _ kw_492)) (fun _ h9 => h9) dX11_hand_75 (by decide) h (fun x21 h => ?_)
          refine r_getrN (C := RX4) (T := TX4) (N := 10) hx hb hts (fun w h => List.mem_cons_of_mem _ (iX4 w h)) hown hK hP rfl (by decide) rfl 1 (by decide) (nw_73 hK) (fun _ h9 => h9) dX11_hand_78 (by decide) h (fun x23 h => ?_)
          refine r_getrN (C := RX5) (T := TX5) (N := 9) hx hb hts (fun w h => List.mem_cons_of_mem _ (iX5 w h)) hown hK hP rfl (by decide) rfl 4 (by decide) (nw_58 hK) (fun _ h9 => h9) dX11_hand_81 (by decide) h (fun x25 h => ?_)
          refine lv_iload_n hx hb dX11_hand_84 rfl (lv_at hl 1 rfl) ?_
          refine r_iald hx hb hK hP dX11_hand_85 h (fun z27 h => ?_)
          exact r_iret hx hb hr hlocks hP hS dX11_hand_86 h
        · refine sw (c := zl2.toInt = 3) h (fun e3 h => ?_) (fun e3 h => ?_)
          · refine lv_tableIn (tgt := 87) hx hb dX11_hand_11 (by omega) (by omega) (by rw [e3]; rfl) (by decide) ?_
            refine lv_aload_n hx hb dX11_hand_87 rfl (lv_at hl 0 rfl) ?_
            refine r_getr (C := RX11) (T := TX11) (N := 16) hx hb hts (fun w h => List.mem_cons_of_mem _ (iX11 w h)) hown hK hP rfl (by decide) rfl 1 (by decide) (hts _ (List.mem_cons_of_mem _ kw_492)) (fun _ h9 => h9) dX11_hand_88 (by decide) h (fun x29 h => ?_)
            refine r_getrN (C := RX4) (T := TX4) (N := 10) hx hb hts (fun w h => List.mem_cons_of_mem _ (iX4 w h)) hown hK hP rfl (by decide) rfl 1 (by decide) (nw_73 hK) (fun _ h9 => h9) dX11_hand_91 (by decide) h (fun x31 h => ?_)
            refine lv_iload_n hx hb dX11_hand_94 rfl (lv_at hl 1 rfl) ?_
            refine q_Vi hx hb hml hown hts hK hP hS (c_X5_heldBits l D G S _ x31 zl1 _ h.2) ⟨callB_of 1 hts (gw_good kw_885) rfl rfl rfl (hts _ (List.mem_cons_of_mem _ kw_5)) (hts _ (List.mem_cons_of_mem _ kw_882)) hd_X5_heldBits ⟨Nat.le_of_ble_eq_true rfl, Nat.le_of_ble_eq_true rfl⟩, (hts _ (List.mem_cons_of_mem _ kw_883)), (hts _ (List.mem_cons_of_mem _ kw_884))⟩ h.1 (ci := 5) rfl (by decide) rfl hl.1 rfl (lv_room (Nat.le_of_ble_eq_true rfl)) dX11_hand_95 ⟨Nat.zero_le _, Nat.zero_le _⟩ (fun z34 M32 H locs h hP hS => ?_)
            exact r_iret hx hb hr hlocks hP hS dX11_hand_98 h
          · refine sw (c := zl2.toInt = 4) h (fun e4 h => ?_) (fun e4 h => ?_)
            · refine lv_tableIn (tgt := 99) hx hb dX11_hand_11 (by omega) (by omega) (by rw [e4]; rfl) (by decide) ?_
              refine lv_aload_n hx hb dX11_hand_99 rfl (lv_at hl 0 rfl) ?_
              refine r_getr (C := RX11) (T := TX11) (N := 16) hx hb hts (fun w h => List.mem_cons_of_mem _ (iX11 w h)) hown hK hP rfl (by decide) rfl 1 (by decide) (hts _ (List.mem_cons_of_mem _ kw_492)) (fun _ h9 => h9) dX11_hand_100 (by decide) h (fun x36 h => ?_)
              refine r_getrN (C := RX4) (T := TX4) (N := 10) hx hb hts (fun w h => List.mem_cons_of_mem _ (iX4 w h)) hown hK hP rfl (by decide) rfl 0 (by decide) (nw_70 hK) (fun _ h9 => h9) dX11_hand_103 (by decide) h (fun x38 h => ?_)
              refine r_getrN (C := RX8) (T := TX8) (N := 19) hx hb hts (fun w h => List.mem_cons_of_mem _ (iX8 w h)) hown hK hP rfl (by decide) rfl 10 (by decide) (nw_29 hK) (fun _ h9 => h9) dX11_hand_106 (by decide) h (fun x40 h => ?_)
              refine lv_iload_n hx hb dX11_hand_109 rfl (lv_at hl 1 rfl) ?_
              refine r_iald hx hb hK hP dX11_hand_110 h (fun z42 h => ?_)
              exact r_iret hx hb hr hlocks hP hS dX11_hand_111 h
            · refine sw (c := zl2.toInt = 5) h (fun e5 h => ?_) (fun e5 h => ?_)
              · refine lv_tableIn (tgt := 112) hx hb dX11_hand_11 (by omega) (by omega) (by rw [e5]; rfl) (by decide) ?_
                refine lv_aload_n hx hb dX11_hand_112 rfl (lv_at hl 0 rfl) ?_
                refine r_getr (C := RX11) (T := TX11) (N := 16) hx hb hts (fun w h => List.mem_cons_of_mem _ (iX11 w h)) hown hK hP rfl (by decide) rfl 1 (by decide) (hts _ (List.mem_cons_of_mem _ kw_492)) (fun _ h9 => h9) dX11_hand_113 (by decide) h (fun x44 h => ?_)
                refine r_getrN (C := RX4) (T := TX4) (N := 10) hx hb hts (fun w h => List.mem_cons_of_mem _ (iX4 w h)) hown hK hP rfl (by decide) rfl 0 (by decide) (nw_70 hK) (fun _ h9 => h9) dX11_hand_116 (by decide) h (fun x46 h => ?_)
                refine r_getrN (C := RX8) (T := TX8) (N := 19) hx hb hts (fun w h => List.mem_cons_of_mem _ (iX8 w h)) hown hK hP rfl (by decide) rfl 11 (by decide) (nw_33 hK) (fun _ h9 => h9) dX11_hand_119 (by decide) h (fun x48 h => ?_)
                refine lv_iload_n hx hb dX11_hand_122 rfl (lv_at hl 1 rfl) ?_
                refine r_iald hx hb hK hP dX11_hand_123 h (fun z50 h => ?_)
                exact r_iret hx hb hr hlocks hP hS dX11_hand_124 h
              · refine lv_tableOut (tgt := 125) hx hb dX11_hand_11 (by omega) (by decide) ?_
                refine r_iconst hx hb dX11_hand_125 (by decide) h (fun z52 h => ?_)
                exact r_iret hx hb hr hlocks hP hS dX11_hand_126 h
  · refine r_iconst hx hb dX11_hand_8 (by decide) h (fun z54 h => ?_)
    exact r_iret hx hb hr hlocks hP hS dX11_hand_9 h
/-! TurningMilk.isJug(I)Z -/
abbrev RM_X11_isJug : Room := { frames := 1, cells := 0, slots := 0, locals := 40 }
def cw_X11_isJug : Cond := Cond.code yX11_isJug cX11_isJug 2 (Option.some FieldType.boolean)
theorem hd_X11_isJug : yX11_isJug.cls ≠ "java/lang/invoke/MethodHandle" ∧ yX11_isJug.cls ≠ "java/lang/invoke/VarHandle" ∧ (parseMethodDescriptor yX11_isJug.desc).map (fun d => d.parameters.length) = some 1 := by decide +kernel
theorem dX11_isJug_0 : decode cX11_isJug 0 = .ok (.iload_n 1, 1) := by decide +kernel
theorem dX11_isJug_1 : decode cX11_isJug 1 = .ok (.ifCond .lt 21, 3) := by decide +kernel
theorem dX11_isJug_4 : decode cX11_isJug 4 = .ok (.iload_n 1, 1) := by decide +kernel
theorem dX11_isJug_5 : decode cX11_isJug 5 = .ok (.aload_n 0, 1) := by decide +kernel
theorem dX11_isJug_6 : decode cX11_isJug 6 = .ok (.getfield 19, 3) := by decide +kernel
theorem dX11_isJug_9 : decode cX11_isJug 9 = .ok (.getfield 57, 3) := by decide +kernel
theorem dX11_isJug_12 : decode cX11_isJug 12 = .ok (.getfield 146, 3) := by decide +kernel
theorem dX11_isJug_15 : decode cX11_isJug 15 = .ok (.if_icmp .ge 7, 3) := by decide +kernel
theorem dX11_isJug_18 : decode cX11_isJug 18 = .ok (.iconst 1, 1) := by decide +kernel
theorem dX11_isJug_19 : decode cX11_isJug 19 = .ok (.goto 4, 3) := by decide +kernel
theorem dX11_isJug_22 : decode cX11_isJug 22 = .ok (.iconst 0, 1) := by decide +kernel
theorem dX11_isJug_23 : decode cX11_isJug 23 = .ok (.ireturn, 1) := by decide +kernel
def wp_X11_isJug (S : Sh) (M : Mm) (u0 : Int) (u1 : Int) (post : Int → Mm → Prop) : Prop := wIf (u1 < 0) (wC 0 fun v1 => (v1 = 0 ∨ v1 = 1) ∧ post v1 M) (wGetR S M u0 11 1 fun v3 => wGetR S M v3 4 0 fun v5 => wGet S M v5 8 5 fun v7 => wIf (v7 ≤ u1) (wC 0 fun v9 => (v9 = 0 ∨ v9 = 1) ∧ post v9 M) (wC 1 fun v11 => (v11 = 0 ∨ v11 = 1) ∧ post v11 M))
set_option maxHeartbeats 4000000 in
set_option maxRecDepth 100000 in
theorem c_X11_isJug (l : Launch) (D : va_G) (G : Gt) (S : Sh) (M : Mm) (xl0 : Int) (zl1 : Int32) (post : Int → Mm → Prop) (h : wp_X11_isJug S M xl0 zl1.toInt post) : Met l yX11_isJug (cw_X11_isJug :: gw) RM_X11_isJug (va_Pc [.ref (adr G xl0), .int zl1] (fun U => KN D G U ∧ Wd D G S M U.heap)) (QI D G S post) 0 0 (aG G) := by
  refine Met.ofW (cc := cX11_isJug) (maxL := 2) (ret := (some .boolean)) (by decide) rfl ?_
  intro p e s m args below meth c s₁ B hml hv
  obtain ⟨rfl, hK, hP⟩ := hv
  have hx := B.exec
  have hb := B.bytes
  have hr := B.returns
  have hts := atoms_spec (ws := cw_X11_isJug :: gw) B.pre
  have hown : s.vm.findClass RX11 = some m.cls := findClass_of_methodNamed B.named
  have hlocks := B.notSynchronized
  have hS : va_S (aG G) s.heap s.heap [] := va_S.rf
  have C : Cx p s m ([.ref (adr G xl0), .int zl1] : List Value).toArray meth c D G cX11_isJug 2 (some .boolean) (cw_X11_isJug :: gw) RX11 := ⟨hx, hb, hr, hlocks, hml, hown, hts, hK⟩
  have hl := lv_entry ([.ref (adr G xl0), .int zl1]) (n := 2) (Nat.le_of_ble_eq_true rfl)
  rw [lg_entry_eq]
  generalize (lg_sl ([.ref (adr G xl0), .int zl1]) ++ List.replicate (2 - (lg_sl ([.ref (adr G xl0), .int zl1])).length) Slot.unset).toArray = ls at hl ⊢
  have hl : lv_has ls 2 [(0, .ref (adr G xl0)), (1, .int zl1)] := hl
  unfold wp_X11_isJug at h
  refine lv_iload_n hx hb dX11_isJug_0 rfl (lv_at hl 1 rfl) ?_
  refine r_if_lt (tgt := 22) hx hb dX11_isJug_1 (by decide) h (fun h => ?_) (fun h => ?_)
  · refine r_iconst hx hb dX11_isJug_22 (by decide) h (fun z2 h => ?_)
    exact r_zret hx hb hr hlocks hP hS dX11_isJug_23 h
  · refine lv_iload_n hx hb dX11_isJug_4 rfl (lv_at hl 1 rfl) ?_
    refine lv_aload_n hx hb dX11_isJug_5 rfl (lv_at hl 0 rfl) ?_
    refine r_getr (C := RX11) (T := TX11) (N := 16) hx hb hts (fun w h => List.mem_cons_of_mem _ (iX11 w h)) hown hK hP rfl (by decide) rfl 1 (by decide) (hts _ (List.mem_cons_of_mem _ kw_492)) (fun _ h9 => h9) dX11_isJug_6 (by decide) h (fun x4 h => ?_)
    refine r_getrN (C := RX4) (T := TX4) (N := 10) hx hb hts (fun w h => List.mem_cons_of_mem _ (iX4 w h)) hown hK hP rfl (by decide) rfl 0 (by decide) (nw_70 hK) (fun _ h9 => h9) dX11_isJug_9 (by decide) h (fun x6 h => ?_)
    refine r_getiN (C := RX8) (T := TX8) (N := 19) hx hb hts (fun w h => List.mem_cons_of_mem _ (iX8 w h)) hown hK hP rfl (by decide) rfl 5 (by decide) (nw_20 hK) (fun _ h9 => h9) dX11_isJug_12 (by decide) h (fun z8 h => ?_)
    refine r_icmp_ge (tgt := 22) hx hb dX11_isJug_15 (by decide) h (fun h => ?_) (fun h => ?_)
    · refine r_iconst hx hb dX11_isJug_22 (by decide) h (fun z10 h => ?_)
      exact r_zret hx hb hr hlocks hP hS dX11_isJug_23 h
    · refine r_iconst hx hb dX11_isJug_18 (by decide) h (fun z12 h => ?_)
      refine lv_goto (tgt := 23) hx hb dX11_isJug_19 (by decide) ?_
      exact r_zret hx hb hr hlocks hP hS dX11_isJug_23 h
/-! TurningMilk$State.isGone(I)Z -/
abbrev RM_X5_isGone : Room := { frames := 1, cells := 0, slots := 0, locals := 40 }
def cw_X5_isGone : Cond := Cond.code yX5_isGone cX5_isGone 2 (Option.some FieldType.boolean)
theorem hd_X5_isGone : yX5_isGone.cls ≠ "java/lang/invoke/MethodHandle" ∧ yX5_isGone.cls ≠ "java/lang/invoke/VarHandle" ∧ (parseMethodDescriptor yX5_isGone.desc).map (fun d => d.parameters.length) = some 1 := by decide +kernel
theorem dX5_isGone_0 : decode cX5_isGone 0 = .ok (.aload_n 0, 1) := by decide +kernel
theorem dX5_isGone_1 : decode cX5_isGone 1 = .ok (.getfield 21, 3) := by decide +kernel
theorem dX5_isGone_4 : decode cX5_isGone 4 = .ok (.iload_n 1, 1) := by decide +kernel
theorem dX5_isGone_5 : decode cX5_isGone 5 = .ok (.iaload, 1) := by decide +kernel
theorem dX5_isGone_6 : decode cX5_isGone 6 = .ok (.iconst (-1), 1) := by decide +kernel
theorem dX5_isGone_7 : decode cX5_isGone 7 = .ok (.if_icmp .ne 17, 3) := by decide +kernel
theorem dX5_isGone_10 : decode cX5_isGone 10 = .ok (.aload_n 0, 1) := by decide +kernel
theorem dX5_isGone_11 : decode cX5_isGone 11 = .ok (.getfield 24, 3) := by decide +kernel
theorem dX5_isGone_14 : decode cX5_isGone 14 = .ok (.iload_n 1, 1) := by decide +kernel
theorem dX5_isGone_15 : decode cX5_isGone 15 = .ok (.iaload, 1) := by decide +kernel
theorem dX5_isGone_16 : decode cX5_isGone 16 = .ok (.iconst (-1), 1) := by decide +kernel
theorem dX5_isGone_17 : decode cX5_isGone 17 = .ok (.if_icmp .ne 7, 3) := by decide +kernel
theorem dX5_isGone_20 : decode cX5_isGone 20 = .ok (.iconst 1, 1) := by decide +kernel
theorem dX5_isGone_21 : decode cX5_isGone 21 = .ok (.goto 4, 3) := by decide +kernel
theorem dX5_isGone_24 : decode cX5_isGone 24 = .ok (.iconst 0, 1) := by decide +kernel
theorem dX5_isGone_25 : decode cX5_isGone 25 = .ok (.ireturn, 1) := by decide +kernel
def wp_X5_isGone (S : Sh) (M : Mm) (u0 : Int) (u1 : Int) (post : Int → Mm → Prop) : Prop := wGetR S M u0 5 5 fun v1 => wLd S M v1 14 u1 fun v3 => wC (-1) fun v5 => wIf (¬ v3 = v5) (wC 0 fun v7 => (v7 = 0 ∨ v7 = 1) ∧ post v7 M) (wGetR S M u0 5 6 fun v9 => wLd S M v9 14 u1 fun v11 => wC (-1) fun v13 => wIf (¬ v11 = v13) (wC 0 fun v15 => (v15 = 0 ∨ v15 = 1) ∧ post v15 M) (wC 1 fun v17 => (v17 = 0 ∨ v17 = 1) ∧ post v17 M))
set_option maxHeartbeats 4000000 in
set_option maxRecDepth 100000 in
theorem c_X5_isGone (l : Launch) (D : va_G) (G : Gt) (S : Sh) (M : Mm) (xl0 : Int) (zl1 : Int32) (post : Int → Mm → Prop) (h : wp_X5_isGone S M xl0 zl1.toInt post) : Met l yX5_isGone (cw_X5_isGone :: gw) RM_X5_isGone (va_Pc [.ref (adr G xl0), .int zl1] (fun U => KN D G U ∧ Wd D G S M U.heap)) (QI D G S post) 0 0 (aG G) := by
  refine Met.ofW (cc := cX5_isGone) (maxL := 2) (ret := (some .boolean)) (by decide) rfl ?_
  intro p e s m args below meth c s₁ B hml hv
  obtain ⟨rfl, hK, hP⟩ := hv
  have hx := B.exec
  have hb := B.bytes
  have hr := B.returns
  have hts := atoms_spec (ws := cw_X5_isGone :: gw) B.pre
  have hown : s.vm.findClass RX5 = some m.cls := findClass_of_methodNamed B.named
  have hlocks := B.notSynchronized
  have hS : va_S (aG G) s.heap s.heap [] := va_S.rf
  have C : Cx p s m ([.ref (adr G xl0), .int zl1] : List Value).toArray meth c D G cX5_isGone 2 (some .boolean) (cw_X5_isGone :: gw) RX5 := ⟨hx, hb, hr, hlocks, hml, hown, hts, hK⟩
  have hl := lv_entry ([.ref (adr G xl0), .int zl1]) (n := 2) (Nat.le_of_ble_eq_true rfl)
  rw [lg_entry_eq]
  generalize (lg_sl ([.ref (adr G xl0), .int zl1]) ++ List.replicate (2 - (lg_sl ([.ref (adr G xl0), .int zl1])).length) Slot.unset).toArray = ls at hl ⊢
  have hl : lv_has ls 2 [(0, .ref (adr G xl0)), (1, .int zl1)] := hl
  unfold wp_X5_isGone at h
  refine lv_aload_n hx hb dX5_isGone_0 rfl (lv_at hl 0 rfl) ?_
  refine r_getr (C := RX5) (T := TX5) (N := 9) hx hb hts (fun w h => List.mem_cons_of_mem _ (iX5 w h)) hown hK hP rfl (by decide) rfl 5 (by decide) (hts _ (List.mem_cons_of_mem _ kw_197)) (fun _ h9 => h9) dX5_isGone_1 (by decide) h (fun x2 h => ?_)
  refine lv_iload_n hx hb dX5_isGone_4 rfl (lv_at hl 1 rfl) ?_
  refine r_iald hx hb hK hP dX5_isGone_5 h (fun z4 h => ?_)
  refine r_iconst hx hb dX5_isGone_6 (by decide) h (fun z6 h => ?_)
  refine r_icmp_ne (tgt := 24) hx hb dX5_isGone_7 (by decide) h (fun h => ?_) (fun h => ?_)
  · refine r_iconst hx hb dX5_isGone_24 (by decide) h (fun z8 h => ?_)
    exact r_zret hx hb hr hlocks hP hS dX5_isGone_25 h
  · refine lv_aload_n hx hb dX5_isGone_10 rfl (lv_at hl 0 rfl) ?_
    refine r_getr (C := RX5) (T := TX5) (N := 9) hx hb hts (fun w h => List.mem_cons_of_mem _ (iX5 w h)) hown hK hP rfl (by decide) rfl 6 (by decide) (hts _ (List.mem_cons_of_mem _ kw_200)) (fun _ h9 => h9) dX5_isGone_11 (by decide) h (fun x10 h => ?_)
    refine lv_iload_n hx hb dX5_isGone_14 rfl (lv_at hl 1 rfl) ?_
    refine r_iald hx hb hK hP dX5_isGone_15 h (fun z12 h => ?_)
    refine r_iconst hx hb dX5_isGone_16 (by decide) h (fun z14 h => ?_)
    refine r_icmp_ne (tgt := 24) hx hb dX5_isGone_17 (by decide) h (fun h => ?_) (fun h => ?_)
    · refine r_iconst hx hb dX5_isGone_24 (by decide) h (fun z16 h => ?_)
      exact r_zret hx hb hr hlocks hP hS dX5_isGone_25 h
    · refine r_iconst hx hb dX5_isGone_20 (by decide) h (fun z18 h => ?_)
      refine lv_goto (tgt := 25) hx hb dX5_isGone_21 (by decide) ?_
      exact r_zret hx hb hr hlocks hP hS dX5_isGone_25 h
/-! TurningMilk.jug(II)I -/
abbrev RM_X11_jug : Room := { frames := 2, cells := 0, slots := 0, locals := 61 }
def cw_X11_jug : Cond := Cond.code yX11_jug cX11_jug 3 (Option.some FieldType.int)
theorem hd_X11_jug : yX11_jug.cls ≠ "java/lang/invoke/MethodHandle" ∧ yX11_jug.cls ≠ "java/lang/invoke/VarHandle" ∧ (parseMethodDescriptor yX11_jug.desc).map (fun d => d.parameters.length) = some 2 := by decide +kernel
theorem dX11_jug_0 : decode cX11_jug 0 = .ok (.aload_n 0, 1) := by decide +kernel
theorem dX11_jug_1 : decode cX11_jug 1 = .ok (.iload_n 1, 1) := by decide +kernel
theorem dX11_jug_2 : decode cX11_jug 2 = .ok (.invokevirtual 175, 3) := by decide +kernel
theorem dX11_jug_5 : decode cX11_jug 5 = .ok (.ifCond .ne 6, 3) := by decide +kernel
theorem dX11_jug_8 : decode cX11_jug 8 = .ok (.bipush (-2), 2) := by decide +kernel
theorem dX11_jug_10 : decode cX11_jug 10 = .ok (.ireturn, 1) := by decide +kernel
theorem dX11_jug_11 : decode cX11_jug 11 = .ok (.iload_n 2, 1) := by decide +kernel
theorem dX11_jug_12 : decode cX11_jug 12 = .ok (.tableswitch 126 0 4 #[36, 49, 62, 75, 106], 36) := by decide +kernel
theorem dX11_jug_48 : decode cX11_jug 48 = .ok (.aload_n 0, 1) := by decide +kernel
theorem dX11_jug_49 : decode cX11_jug 49 = .ok (.getfield 19, 3) := by decide +kernel
theorem dX11_jug_52 : decode cX11_jug 52 = .ok (.getfield 133, 3) := by decide +kernel
theorem dX11_jug_55 : decode cX11_jug 55 = .ok (.getfield 203, 3) := by decide +kernel
theorem dX11_jug_58 : decode cX11_jug 58 = .ok (.iload_n 1, 1) := by decide +kernel
theorem dX11_jug_59 : decode cX11_jug 59 = .ok (.iaload, 1) := by decide +kernel
theorem dX11_jug_60 : decode cX11_jug 60 = .ok (.ireturn, 1) := by decide +kernel
theorem dX11_jug_61 : decode cX11_jug 61 = .ok (.aload_n 0, 1) := by decide +kernel
theorem dX11_jug_62 : decode cX11_jug 62 = .ok (.getfield 19, 3) := by decide +kernel
theorem dX11_jug_65 : decode cX11_jug 65 = .ok (.getfield 133, 3) := by decide +kernel
theorem dX11_jug_68 : decode cX11_jug 68 = .ok (.getfield 206, 3) := by decide +kernel
theorem dX11_jug_71 : decode cX11_jug 71 = .ok (.iload_n 1, 1) := by decide +kernel
theorem dX11_jug_72 : decode cX11_jug 72 = .ok (.iaload, 1) := by decide +kernel
theorem dX11_jug_73 : decode cX11_jug 73 = .ok (.ireturn, 1) := by decide +kernel
theorem dX11_jug_74 : decode cX11_jug 74 = .ok (.aload_n 0, 1) := by decide +kernel
theorem dX11_jug_75 : decode cX11_jug 75 = .ok (.getfield 19, 3) := by decide +kernel
theorem dX11_jug_78 : decode cX11_jug 78 = .ok (.getfield 133, 3) := by decide +kernel
theorem dX11_jug_81 : decode cX11_jug 81 = .ok (.getfield 209, 3) := by decide +kernel
theorem dX11_jug_84 : decode cX11_jug 84 = .ok (.iload_n 1, 1) := by decide +kernel
theorem dX11_jug_85 : decode cX11_jug 85 = .ok (.iaload, 1) := by decide +kernel
theorem dX11_jug_86 : decode cX11_jug 86 = .ok (.ireturn, 1) := by decide +kernel
theorem dX11_jug_87 : decode cX11_jug 87 = .ok (.aload_n 0, 1) := by decide +kernel
theorem dX11_jug_88 : decode cX11_jug 88 = .ok (.getfield 19, 3) := by decide +kernel
theorem dX11_jug_91 : decode cX11_jug 91 = .ok (.getfield 133, 3) := by decide +kernel
theorem dX11_jug_94 : decode cX11_jug 94 = .ok (.getfield 209, 3) := by decide +kernel
theorem dX11_jug_97 : decode cX11_jug 97 = .ok (.iload_n 1, 1) := by decide +kernel
theorem dX11_jug_98 : decode cX11_jug 98 = .ok (.iaload, 1) := by decide +kernel
theorem dX11_jug_99 : decode cX11_jug 99 = .ok (.aload_n 0, 1) := by decide +kernel
theorem dX11_jug_100 : decode cX11_jug 100 = .ok (.getfield 19, 3) := by decide +kernel
theorem dX11_jug_103 : decode cX11_jug 103 = .ok (.getfield 57, 3) := by decide +kernel
theorem dX11_jug_106 : decode cX11_jug 106 = .ok (.getfield 212, 3) := by decide +kernel
theorem dX11_jug_109 : decode cX11_jug 109 = .ok (.if_icmp .lt 7, 3) := by decide +kernel
theorem dX11_jug_112 : decode cX11_jug 112 = .ok (.iconst 1, 1) := by decide +kernel
theorem dX11_jug_113 : decode cX11_jug 113 = .ok (.goto 4, 3) := by decide +kernel
theorem dX11_jug_116 : decode cX11_jug 116 = .ok (.iconst 0, 1) := by decide +kernel
theorem dX11_jug_117 : decode cX11_jug 117 = .ok (.ireturn, 1) := by decide +kernel
theorem dX11_jug_118 : decode cX11_jug 118 = .ok (.aload_n 0, 1) := by decide +kernel
theorem dX11_jug_119 : decode cX11_jug 119 = .ok (.getfield 19, 3) := by decide +kernel
theorem dX11_jug_122 : decode cX11_jug 122 = .ok (.getfield 133, 3) := by decide +kernel
theorem dX11_jug_125 : decode cX11_jug 125 = .ok (.iload_n 1, 1) := by decide +kernel
theorem dX11_jug_126 : decode cX11_jug 126 = .ok (.invokevirtual 215, 3) := by decide +kernel
theorem dX11_jug_129 : decode cX11_jug 129 = .ok (.ifCond .eq 7, 3) := by decide +kernel
theorem dX11_jug_132 : decode cX11_jug 132 = .ok (.iconst 1, 1) := by decide +kernel
theorem dX11_jug_133 : decode cX11_jug 133 = .ok (.goto 4, 3) := by decide +kernel
theorem dX11_jug_136 : decode cX11_jug 136 = .ok (.iconst 0, 1) := by decide +kernel
theorem dX11_jug_137 : decode cX11_jug 137 = .ok (.ireturn, 1) := by decide +kernel
theorem dX11_jug_138 : decode cX11_jug 138 = .ok (.bipush (-2), 2) := by decide +kernel
theorem dX11_jug_140 : decode cX11_jug 140 = .ok (.ireturn, 1) := by decide +kernel
def wp_X11_jug (S : Sh) (M : Mm) (u0 : Int) (u1 : Int) (u2 : Int) (post : Int → Mm → Prop) : Prop := isK S u0 11 ∧ (wp_X11_isJug S M u0 u1 <| fun v2 M1 => wIf (¬ v2 = 0) (wIf (u2 = 0) (wGetR S M1 u0 11 1 fun v4 => wGetR S M1 v4 4 1 fun v6 => wGetR S M1 v6 5 5 fun v8 => wLd S M1 v8 14 u1 fun v10 => post v10 M1) (wIf (u2 = 1) (wGetR S M1 u0 11 1 fun v12 => wGetR S M1 v12 4 1 fun v14 => wGetR S M1 v14 5 6 fun v16 => wLd S M1 v16 14 u1 fun v18 => post v18 M1) (wIf (u2 = 2) (wGetR S M1 u0 11 1 fun v20 => wGetR S M1 v20 4 1 fun v22 => wGetR S M1 v22 5 7 fun v24 => wLd S M1 v24 14 u1 fun v26 => post v26 M1) (wIf (u2 = 3) (wGetR S M1 u0 11 1 fun v28 => wGetR S M1 v28 4 1 fun v30 => wGetR S M1 v30 5 7 fun v32 => wLd S M1 v32 14 u1 fun v34 => wGetR S M1 u0 11 1 fun v36 => wGetR S M1 v36 4 0 fun v38 => wGet S M1 v38 8 2 fun v40 => wIf (v34 < v40) (wC 0 fun v42 => post v42 M1) (wC 1 fun v44 => post v44 M1)) (wIf (u2 = 4) (wGetR S M1 u0 11 1 fun v46 => wGetR S M1 v46 4 1 fun v48 => isK S v48 5 ∧ (wp_X5_isGone S M1 v48 u1 <| fun v51 M50 => wIf (v51 = 0) (wC 0 fun v53 => post v53 M50) (wC 1 fun v55 => post v55 M50))) (wC (-2) fun v57 => post v57 M1)))))) (wC (-2) fun v59 => post v59 M1))
set_option maxHeartbeats 4000000 in
set_option maxRecDepth 100000 in
theorem c_X11_jug (l : Launch) (D : va_G) (G : Gt) (S : Sh) (M : Mm) (xl0 : Int) (zl1 : Int32) (zl2 : Int32) (post : Int → Mm → Prop) (h : wp_X11_jug S M xl0 zl1.toInt zl2.toInt post) : Met l yX11_jug (cw_X11_jug :: gw) RM_X11_jug (va_Pc [.ref (adr G xl0), .int zl1, .int zl2] (fun U => KN D G U ∧ Wd D G S M U.heap)) (QI D G S post) 0 0 (aG G) := by
  refine Met.ofW (cc := cX11_jug) (maxL := 3) (ret := (some .int)) (by decide) rfl ?_
  intro p e s m args below meth c s₁ B hml hv
  obtain ⟨rfl, hK, hP⟩ := hv
  have hx := B.exec
  have hb := B.bytes
  have hr := B.returns
  have hts := atoms_spec (ws := cw_X11_jug :: gw) B.pre
  have hown : s.vm.findClass RX11 = some m.cls := findClass_of_methodNamed B.named
  have hlocks := B.notSynchronized
  have hS : va_S (aG G) s.heap s.heap [] := va_S.rf
  have C : Cx p s m ([.ref (adr G xl0), .int zl1, .int zl2] : List Value).toArray meth c D G cX11_jug 3 (some .int) (cw_X11_jug :: gw) RX11 := ⟨hx, hb, hr, hlocks, hml, hown, hts, hK⟩
  have hl := lv_entry ([.ref (adr G xl0), .int zl1, .int zl2]) (n := 3) (Nat.le_of_ble_eq_true rfl)
  rw [lg_entry_eq]
  generalize (lg_sl ([.ref (adr G xl0), .int zl1, .int zl2]) ++ List.replicate (3 - (lg_sl ([.ref (adr G xl0), .int zl1, .int zl2])).length) Slot.unset).toArray = ls at hl ⊢
  have hl : lv_has ls 3 [(0, .ref (adr G xl0)), (1, .int zl1), (2, .int zl2)] := hl
  unfold wp_X11_jug at h
  refine lv_aload_n hx hb dX11_jug_0 rfl (lv_at hl 0 rfl) ?_
  refine lv_iload_n hx hb dX11_jug_1 rfl (lv_at hl 1 rfl) ?_
  refine q_Vi hx hb hml hown hts hK hP hS (c_X11_isJug l D G S _ xl0 zl1 _ h.2) ⟨callB_of 1 hts (gw_good kw_893) rfl rfl rfl (hts _ (List.mem_cons_of_mem _ kw_1)) (hts _ (List.mem_cons_of_mem _ kw_890)) hd_X11_isJug ⟨Nat.le_of_ble_eq_true rfl, Nat.le_of_ble_eq_true rfl⟩, (hts _ (List.mem_cons_of_mem _ kw_892)), (hts _ (List.mem_cons_of_mem _ kp_30))⟩ h.1 (ci := 11) rfl (by decide) rfl hl.1 rfl (lv_room (Nat.le_of_ble_eq_true rfl)) dX11_jug_2 ⟨Nat.zero_le _, Nat.zero_le _⟩ (fun z3 M1 H locs h hP hS => ?_)
  refine r_if_ne (tgt := 11) hx hb dX11_jug_5 (by decide) h (fun h => ?_) (fun h => ?_)
  · refine lv_iload_n hx hb dX11_jug_11 rfl (lv_at hl 2 rfl) ?_
    refine sw (c := zl2.toInt = 0) h (fun e0 h => ?_) (fun e0 h => ?_)
    · refine lv_tableIn (tgt := 48) hx hb dX11_jug_12 (by omega) (by omega) (by rw [e0]; rfl) (by decide) ?_
      refine lv_aload_n hx hb dX11_jug_48 rfl (lv_at hl 0 rfl) ?_
      refine r_getr (C := RX11) (T := TX11) (N := 16) hx hb hts (fun w h => List.mem_cons_of_mem _ (iX11 w h)) hown hK hP rfl (by decide) rfl 1 (by decide) (hts _ (List.mem_cons_of_mem _ kw_492)) (fun _ h9 => h9) dX11_jug_49 (by decide) h (fun x5 h => ?_)
      refine r_getrN (C := RX4) (T := TX4) (N := 10) hx hb hts (fun w h => List.mem_cons_of_mem _ (iX4 w h)) hown hK hP rfl (by decide) rfl 1 (by decide) (nw_73 hK) (fun _ h9 => h9) dX11_jug_52 (by decide) h (fun x7 h => ?_)
      refine r_getrN (C := RX5) (T := TX5) (N := 9) hx hb hts (fun w h => List.mem_cons_of_mem _ (iX5 w h)) hown hK hP rfl (by decide) rfl 5 (by decide) (nw_60 hK) (fun _ h9 => h9) dX11_jug_55 (by decide) h (fun x9 h => ?_)
      refine lv_iload_n hx hb dX11_jug_58 rfl (lv_at hl 1 rfl) ?_
      refine r_iald hx hb hK hP dX11_jug_59 h (fun z11 h => ?_)
      exact r_iret hx hb hr hlocks hP hS dX11_jug_60 h
    · refine sw (c := zl2.toInt = 1) h (fun e1 h => ?_) (fun e1 h => ?_)
      · refine lv_tableIn (tgt := 61) hx hb dX11_jug_12 (by omega) (by omega) (by rw [e1]; rfl) (by decide) ?_
        refine lv_aload_n hx hb dX11_jug_61 rfl (lv_at hl 0 rfl) ?_
        refine r_getr (C := RX11) (T := TX11) (N := 16) hx hb hts (fun w h => List.mem_cons_of_mem _ (iX11 w h)) hown hK hP rfl (by decide) rfl 1 (by decide) (hts _ (List.mem_cons_of_mem _ kw_492)) (fun _ h9 => h9) dX11_jug_62 (by decide) h (fun x13 h => ?_)
        refine r_getrN (C := RX4) (T := TX4) (N := 10) hx hb hts (fun w h => List.mem_cons_of_mem _ (iX4 w h)) hown hK hP rfl (by decide) rfl 1 (by decide) (nw_73 hK) (fun _ h9 => h9) dX11_jug_65 (by decide) h (fun x15 h => ?_)
        refine r_getrN (C := RX5) (T := TX5) (N := 9) hx hb hts (fun w h => List.mem_cons_of_mem _ (iX5 w h)) hown hK hP rfl (by decide) rfl 6 (by decide) (nw_62 hK) (fun _ h9 => h9) dX11_jug_68 (by decide) h (fun x17 h => ?_)
        refine lv_iload_n hx hb dX11_jug_71 rfl (lv_at hl 1 rfl) ?_
        refine r_iald hx hb hK hP dX11_jug_72 h (fun z19 h => ?_)
        exact r_iret hx hb hr hlocks hP hS dX11_jug_73 h
      · refine sw (c := zl2.toInt = 2) h (fun e2 h => ?_) (fun e2 h => ?_)
        · refine lv_tableIn (tgt := 74) hx hb dX11_jug_12 (by omega) (by omega) (by rw [e2]; rfl) (by decide) ?_
          refine lv_aload_n hx hb dX11_jug_74 rfl (lv_at hl 0 rfl) ?_
          refine r_getr (C := RX11) (T := TX11) (N := 16) hx hb hts (fun w h => List.mem_cons_of_mem _ (iX11 w h)) hown hK hP rfl (by decide) rfl 1 (by decide) (hts _ (List.mem_cons_of_mem _ kw_492)) (fun _ h9 => h9) dX11_jug_75 (by decide) h (fun x21 h => ?_)
          refine r_getrN (C := RX4) (T := TX4) (N := 10) hx hb hts (fun w h => List.mem_cons_of_mem _ (iX4 w h)) hown hK hP rfl (by decide) rfl 1 (by decide) (nw_73 hK) (fun _ h9 => h9) dX11_jug_78 (by decide) h (fun x23 h => ?_)
          refine r_getrN (C := RX5) (T := TX5) (N := 9) hx hb hts (fun w h => List.mem_cons_of_mem _ (iX5 w h)) hown hK hP rfl (by decide) rfl 7 (by decide) (nw_67 hK) (fun _ h9 => h9) dX11_jug_81 (by decide) h (fun x25 h => ?_)
          refine lv_iload_n hx hb dX11_jug_84 rfl (lv_at hl 1 rfl) ?_
          refine r_iald hx hb hK hP dX11_jug_85 h (fun z27 h => ?_)
          exact r_iret hx hb hr hlocks hP hS dX11_jug_86 h
        · refine sw (c := zl2.toInt = 3) h (fun e3 h => ?_) (fun e3 h => ?_)
          · refine lv_tableIn (tgt := 87) hx hb dX11_jug_12 (by omega) (by omega) (by rw [e3]; rfl) (by decide) ?_
            refine lv_aload_n hx hb dX11_jug_87 rfl (lv_at hl 0 rfl) ?_
            refine r_getr (C := RX11) (T := TX11) (N := 16) hx hb hts (fun w h => List.mem_cons_of_mem _ (iX11 w h)) hown hK hP rfl (by decide) rfl 1 (by decide) (hts _ (List.mem_cons_of_mem _ kw_492)) (fun _ h9 => h9) dX11_jug_88 (by decide) h (fun x29 h => ?_)
            refine r_getrN (C := RX4) (T := TX4) (N := 10) hx hb hts (fun w h => List.mem_cons_of_mem _ (iX4 w h)) hown hK hP rfl (by decide) rfl 1 (by decide) (nw_73 hK) (fun _ h9 => h9) dX11_jug_91 (by decide) h (fun x31 h => ?_)
            refine r_getrN (C := RX5) (T := TX5) (N := 9) hx hb hts (fun w h => List.mem_cons_of_mem _ (iX5 w h)) hown hK hP rfl (by decide) rfl 7 (by decide) (nw_67 hK) (fun _ h9 => h9) dX11_jug_94 (by decide) h (fun x33 h => ?_)
            refine lv_iload_n hx hb dX11_jug_97 rfl (lv_at hl 1 rfl) ?_
            refine r_iald hx hb hK hP dX11_jug_98 h (fun z35 h => ?_)
            refine lv_aload_n hx hb dX11_jug_99 rfl (lv_at hl 0 rfl) ?_
            refine r_getr (C := RX11) (T := TX11) (N := 16) hx hb hts (fun w h => List.mem_cons_of_mem _ (iX11 w h)) hown hK hP rfl (by decide) rfl 1 (by decide) (hts _ (List.mem_cons_of_mem _ kw_492)) (fun _ h9 => h9) dX11_jug_100 (by decide) h (fun x37 h => ?_)
            refine r_getrN (C := RX4) (T := TX4) (N := 10) hx hb hts (fun w h => List.mem_cons_of_mem _ (iX4 w h)) hown hK hP rfl (by decide) rfl 0 (by decide) (nw_70 hK) (fun _ h9 => h9) dX11_jug_103 (by decide) h (fun x39 h => ?_)
            refine r_getiN (C := RX8) (T := TX8) (N := 19) hx hb hts (fun w h => List.mem_cons_of_mem _ (iX8 w h)) hown hK hP rfl (by decide) rfl 2 (by decide) (nw_10 hK) (fun _ h9 => h9) dX11_jug_106 (by decide) h (fun z41 h => ?_)
            refine r_icmp_lt (tgt := 116) hx hb dX11_jug_109 (by decide) h (fun h => ?_) (fun h => ?_)
            · refine r_iconst hx hb dX11_jug_116 (by decide) h (fun z43 h => ?_)
              exact r_iret hx hb hr hlocks hP hS dX11_jug_117 h
            · refine r_iconst hx hb dX11_jug_112 (by decide) h (fun z45 h => ?_)
              refine lv_goto (tgt := 117) hx hb dX11_jug_113 (by decide) ?_
              exact r_iret hx hb hr hlocks hP hS dX11_jug_117 h
          · refine sw (c := zl2.toInt = 4) h (fun e4 h => ?_) (fun e4 h => ?_)
            · refine lv_tableIn (tgt := 118) hx hb dX11_jug_12 (by omega) (by omega) (by rw [e4]; rfl) (by decide) ?_
              refine lv_aload_n hx hb dX11_jug_118 rfl (lv_at hl 0 rfl) ?_
              refine r_getr (C := RX11) (T := TX11) (N := 16) hx hb hts (fun w h => List.mem_cons_of_mem _ (iX11 w h)) hown hK hP rfl (by decide) rfl 1 (by decide) (hts _ (List.mem_cons_of_mem _ kw_492)) (fun _ h9 => h9) dX11_jug_119 (by decide) h (fun x47 h => ?_)
              refine r_getrN (C := RX4) (T := TX4) (N := 10) hx hb hts (fun w h => List.mem_cons_of_mem _ (iX4 w h)) hown hK hP rfl (by decide) rfl 1 (by decide) (nw_73 hK) (fun _ h9 => h9) dX11_jug_122 (by decide) h (fun x49 h => ?_)
              refine lv_iload_n hx hb dX11_jug_125 rfl (lv_at hl 1 rfl) ?_
              refine q_Vi hx hb hml hown hts hK hP hS (c_X5_isGone l D G S _ x49 zl1 _ h.2) ⟨callB_of 1 hts (gw_good kw_897) rfl rfl rfl (hts _ (List.mem_cons_of_mem _ kw_5)) (hts _ (List.mem_cons_of_mem _ kw_894)) hd_X5_isGone ⟨Nat.le_of_ble_eq_true rfl, Nat.le_of_ble_eq_true rfl⟩, (hts _ (List.mem_cons_of_mem _ kw_895)), (hts _ (List.mem_cons_of_mem _ kw_896))⟩ h.1 (ci := 5) rfl (by decide) rfl hl.1 rfl (lv_room (Nat.le_of_ble_eq_true rfl)) dX11_jug_126 ⟨Nat.zero_le _, Nat.zero_le _⟩ (fun z52 M50 H locs h hP hS => ?_)
              refine r_if_eq (tgt := 136) hx hb dX11_jug_129 (by decide) h (fun h => ?_) (fun h => ?_)
              · refine r_iconst hx hb dX11_jug_136 (by decide) h (fun z54 h => ?_)
                exact r_iret hx hb hr hlocks hP hS dX11_jug_137 h
              · refine r_iconst hx hb dX11_jug_132 (by decide) h (fun z56 h => ?_)
                refine lv_goto (tgt := 137) hx hb dX11_jug_133 (by decide) ?_
                exact r_iret hx hb hr hlocks hP hS dX11_jug_137 h
            · refine lv_tableOut (tgt := 138) hx hb dX11_jug_12 (by omega) (by decide) ?_
              refine r_bipush hx hb dX11_jug_138 (by decide) h (fun z58 h => ?_)
              exact r_iret hx hb hr hlocks hP hS dX11_jug_140 h
  · refine r_bipush hx hb dX11_jug_8 (by decide) h (fun z60 h => ?_)
    exact r_iret hx hb hr hlocks hP hS dX11_jug_10 h
/-! TurningMilk.isWant(I)Z -/
abbrev RM_X11_isWant : Room := { frames := 1, cells := 0, slots := 0, locals := 40 }
def cw_X11_isWant : Cond := Cond.code yX11_isWant cX11_isWant 2 (Option.some FieldType.boolean)
theorem hd_X11_isWant : yX11_isWant.cls ≠ "java/lang/invoke/MethodHandle" ∧ yX11_isWant.cls ≠ "java/lang/invoke/VarHandle" ∧ (parseMethodDescriptor yX11_isWant.desc).map (fun d => d.parameters.length) = some 1 := by decide +kernel
theorem dX11_isWant_0 : decode cX11_isWant 0 = .ok (.iload_n 1, 1) := by decide +kernel
theorem dX11_isWant_1 : decode cX11_isWant 1 = .ok (.ifCond .lt 21, 3) := by decide +kernel
theorem dX11_isWant_4 : decode cX11_isWant 4 = .ok (.iload_n 1, 1) := by decide +kernel
theorem dX11_isWant_5 : decode cX11_isWant 5 = .ok (.aload_n 0, 1) := by decide +kernel
theorem dX11_isWant_6 : decode cX11_isWant 6 = .ok (.getfield 19, 3) := by decide +kernel
theorem dX11_isWant_9 : decode cX11_isWant 9 = .ok (.getfield 57, 3) := by decide +kernel
theorem dX11_isWant_12 : decode cX11_isWant 12 = .ok (.getfield 172, 3) := by decide +kernel
theorem dX11_isWant_15 : decode cX11_isWant 15 = .ok (.if_icmp .ge 7, 3) := by decide +kernel
theorem dX11_isWant_18 : decode cX11_isWant 18 = .ok (.iconst 1, 1) := by decide +kernel
theorem dX11_isWant_19 : decode cX11_isWant 19 = .ok (.goto 4, 3) := by decide +kernel
theorem dX11_isWant_22 : decode cX11_isWant 22 = .ok (.iconst 0, 1) := by decide +kernel
theorem dX11_isWant_23 : decode cX11_isWant 23 = .ok (.ireturn, 1) := by decide +kernel
def wp_X11_isWant (S : Sh) (M : Mm) (u0 : Int) (u1 : Int) (post : Int → Mm → Prop) : Prop := wIf (u1 < 0) (wC 0 fun v1 => (v1 = 0 ∨ v1 = 1) ∧ post v1 M) (wGetR S M u0 11 1 fun v3 => wGetR S M v3 4 0 fun v5 => wGet S M v5 8 7 fun v7 => wIf (v7 ≤ u1) (wC 0 fun v9 => (v9 = 0 ∨ v9 = 1) ∧ post v9 M) (wC 1 fun v11 => (v11 = 0 ∨ v11 = 1) ∧ post v11 M))
set_option maxHeartbeats 4000000 in
set_option maxRecDepth 100000 in
theorem c_X11_isWant (l : Launch) (D : va_G) (G : Gt) (S : Sh) (M : Mm) (xl0 : Int) (zl1 : Int32) (post : Int → Mm → Prop) (h : wp_X11_isWant S M xl0 zl1.toInt post) : Met l yX11_isWant (cw_X11_isWant :: gw) RM_X11_isWant (va_Pc [.ref (adr G xl0), .int zl1] (fun U => KN D G U ∧ Wd D G S M U.heap)) (QI D G S post) 0 0 (aG G) := by
  refine Met.ofW (cc := cX11_isWant) (maxL := 2) (ret := (some .boolean)) (by decide) rfl ?_
  intro p e s m args below meth c s₁ B hml hv
  obtain ⟨rfl, hK, hP⟩ := hv
  have hx := B.exec
  have hb := B.bytes
  have hr := B.returns
  have hts := atoms_spec (ws := cw_X11_isWant :: gw) B.pre
  have hown : s.vm.findClass RX11 = some m.cls := findClass_of_methodNamed B.named
  have hlocks := B.notSynchronized
  have hS : va_S (aG G) s.heap s.heap [] := va_S.rf
  have C : Cx p s m ([.ref (adr G xl0), .int zl1] : List Value).toArray meth c D G cX11_isWant 2 (some .boolean) (cw_X11_isWant :: gw) RX11 := ⟨hx, hb, hr, hlocks, hml, hown, hts, hK⟩
  have hl := lv_entry ([.ref (adr G xl0), .int zl1]) (n := 2) (Nat.le_of_ble_eq_true rfl)
  rw [lg_entry_eq]
  generalize (lg_sl ([.ref (adr G xl0), .int zl1]) ++ List.replicate (2 - (lg_sl ([.ref (adr G xl0), .int zl1])).length) Slot.unset).toArray = ls at hl ⊢
  have hl : lv_has ls 2 [(0, .ref (adr G xl0)), (1, .int zl1)] := hl
  unfold wp_X11_isWant at h
  refine lv_iload_n hx hb dX11_isWant_0 rfl (lv_at hl 1 rfl) ?_
  refine r_if_lt (tgt := 22) hx hb dX11_isWant_1 (by decide) h (fun h => ?_) (fun h => ?_)
  · refine r_iconst hx hb dX11_isWant_22 (by decide) h (fun z2 h => ?_)
    exact r_zret hx hb hr hlocks hP hS dX11_isWant_23 h
  · refine lv_iload_n hx hb dX11_isWant_4 rfl (lv_at hl 1 rfl) ?_
    refine lv_aload_n hx hb dX11_isWant_5 rfl (lv_at hl 0 rfl) ?_
    refine r_getr (C := RX11) (T := TX11) (N := 16) hx hb hts (fun w h => List.mem_cons_of_mem _ (iX11 w h)) hown hK hP rfl (by decide) rfl 1 (by decide) (hts _ (List.mem_cons_of_mem _ kw_492)) (fun _ h9 => h9) dX11_isWant_6 (by decide) h (fun x4 h => ?_)
    refine r_getrN (C := RX4) (T := TX4) (N := 10) hx hb hts (fun w h => List.mem_cons_of_mem _ (iX4 w h)) hown hK hP rfl (by decide) rfl 0 (by decide) (nw_70 hK) (fun _ h9 => h9) dX11_isWant_9 (by decide) h (fun x6 h => ?_)
    refine r_getiN (C := RX8) (T := TX8) (N := 19) hx hb hts (fun w h => List.mem_cons_of_mem _ (iX8 w h)) hown hK hP rfl (by decide) rfl 7 (by decide) (nw_25 hK) (fun _ h9 => h9) dX11_isWant_12 (by decide) h (fun z8 h => ?_)
    refine r_icmp_ge (tgt := 22) hx hb dX11_isWant_15 (by decide) h (fun h => ?_) (fun h => ?_)
    · refine r_iconst hx hb dX11_isWant_22 (by decide) h (fun z10 h => ?_)
      exact r_zret hx hb hr hlocks hP hS dX11_isWant_23 h
    · refine r_iconst hx hb dX11_isWant_18 (by decide) h (fun z12 h => ?_)
      refine lv_goto (tgt := 23) hx hb dX11_isWant_19 (by decide) ?_
      exact r_zret hx hb hr hlocks hP hS dX11_isWant_23 h
/-! TurningMilk$Told.suits(II)Z -/
abbrev RM_X8_suits : Room := { frames := 1, cells := 0, slots := 0, locals := 40 }
def cw_X8_suits : Cond := Cond.code yX8_suits cX8_suits 3 (Option.some FieldType.boolean)
theorem hd_X8_suits : yX8_suits.cls ≠ "java/lang/invoke/MethodHandle" ∧ yX8_suits.cls ≠ "java/lang/invoke/VarHandle" ∧ (parseMethodDescriptor yX8_suits.desc).map (fun d => d.parameters.length) = some 2 := by decide +kernel
theorem dX8_suits_0 : decode cX8_suits 0 = .ok (.aload_n 0, 1) := by decide +kernel
theorem dX8_suits_1 : decode cX8_suits 1 = .ok (.getfield 36, 3) := by decide +kernel
theorem dX8_suits_4 : decode cX8_suits 4 = .ok (.iload_n 1, 1) := by decide +kernel
theorem dX8_suits_5 : decode cX8_suits 5 = .ok (.iaload, 1) := by decide +kernel
theorem dX8_suits_6 : decode cX8_suits 6 = .ok (.iload_n 2, 1) := by decide +kernel
theorem dX8_suits_7 : decode cX8_suits 7 = .ok (.if_icmp .gt 17, 3) := by decide +kernel
theorem dX8_suits_10 : decode cX8_suits 10 = .ok (.iload_n 2, 1) := by decide +kernel
theorem dX8_suits_11 : decode cX8_suits 11 = .ok (.aload_n 0, 1) := by decide +kernel
theorem dX8_suits_12 : decode cX8_suits 12 = .ok (.getfield 39, 3) := by decide +kernel
theorem dX8_suits_15 : decode cX8_suits 15 = .ok (.iload_n 1, 1) := by decide +kernel
theorem dX8_suits_16 : decode cX8_suits 16 = .ok (.iaload, 1) := by decide +kernel
theorem dX8_suits_17 : decode cX8_suits 17 = .ok (.if_icmp .gt 7, 3) := by decide +kernel
theorem dX8_suits_20 : decode cX8_suits 20 = .ok (.iconst 1, 1) := by decide +kernel
theorem dX8_suits_21 : decode cX8_suits 21 = .ok (.goto 4, 3) := by decide +kernel
theorem dX8_suits_24 : decode cX8_suits 24 = .ok (.iconst 0, 1) := by decide +kernel
theorem dX8_suits_25 : decode cX8_suits 25 = .ok (.ireturn, 1) := by decide +kernel
def wp_X8_suits (S : Sh) (M : Mm) (u0 : Int) (u1 : Int) (u2 : Int) (post : Int → Mm → Prop) : Prop := wGetR S M u0 8 16 fun v1 => wLd S M v1 14 u1 fun v3 => wIf (u2 < v3) (wC 0 fun v5 => (v5 = 0 ∨ v5 = 1) ∧ post v5 M) (wGetR S M u0 8 17 fun v7 => wLd S M v7 14 u1 fun v9 => wIf (v9 < u2) (wC 0 fun v11 => (v11 = 0 ∨ v11 = 1) ∧ post v11 M) (wC 1 fun v13 => (v13 = 0 ∨ v13 = 1) ∧ post v13 M))
set_option maxHeartbeats 4000000 in
set_option maxRecDepth 100000 in
theorem c_X8_suits (l : Launch) (D : va_G) (G : Gt) (S : Sh) (M : Mm) (xl0 : Int) (zl1 : Int32) (zl2 : Int32) (post : Int → Mm → Prop) (h : wp_X8_suits S M xl0 zl1.toInt zl2.toInt post) : Met l yX8_suits (cw_X8_suits :: gw) RM_X8_suits (va_Pc [.ref (adr G xl0), .int zl1, .int zl2] (fun U => KN D G U ∧ Wd D G S M U.heap)) (QI D G S post) 0 0 (aG G) := by
  refine Met.ofW (cc := cX8_suits) (maxL := 3) (ret := (some .boolean)) (by decide) rfl ?_
  intro p e s m args below meth c s₁ B hml hv
  obtain ⟨rfl, hK, hP⟩ := hv
  have hx := B.exec
  have hb := B.bytes
  have hr := B.returns
  have hts := atoms_spec (ws := cw_X8_suits :: gw) B.pre
  have hown : s.vm.findClass RX8 = some m.cls := findClass_of_methodNamed B.named
  have hlocks := B.notSynchronized
  have hS : va_S (aG G) s.heap s.heap [] := va_S.rf
  have C : Cx p s m ([.ref (adr G xl0), .int zl1, .int zl2] : List Value).toArray meth c D G cX8_suits 3 (some .boolean) (cw_X8_suits :: gw) RX8 := ⟨hx, hb, hr, hlocks, hml, hown, hts, hK⟩
  have hl := lv_entry ([.ref (adr G xl0), .int zl1, .int zl2]) (n := 3) (Nat.le_of_ble_eq_true rfl)
  rw [lg_entry_eq]
  generalize (lg_sl ([.ref (adr G xl0), .int zl1, .int zl2]) ++ List.replicate (3 - (lg_sl ([.ref (adr G xl0), .int zl1, .int zl2])).length) Slot.unset).toArray = ls at hl ⊢
  have hl : lv_has ls 3 [(0, .ref (adr G xl0)), (1, .int zl1), (2, .int zl2)] := hl
  unfold wp_X8_suits at h
  refine lv_aload_n hx hb dX8_suits_0 rfl (lv_at hl 0 rfl) ?_
  refine r_getr (C := RX8) (T := TX8) (N := 19) hx hb hts (fun w h => List.mem_cons_of_mem _ (iX8 w h)) hown hK hP rfl (by decide) rfl 16 (by decide) (hts _ (List.mem_cons_of_mem _ kw_120)) (fun _ h9 => h9) dX8_suits_1 (by decide) h (fun x2 h => ?_)
  refine lv_iload_n hx hb dX8_suits_4 rfl (lv_at hl 1 rfl) ?_
  refine r_iald hx hb hK hP dX8_suits_5 h (fun z4 h => ?_)
  refine lv_iload_n hx hb dX8_suits_6 rfl (lv_at hl 2 rfl) ?_
  refine r_icmp_gt (tgt := 24) hx hb dX8_suits_7 (by decide) h (fun h => ?_) (fun h => ?_)
  · refine r_iconst hx hb dX8_suits_24 (by decide) h (fun z6 h => ?_)
    exact r_zret hx hb hr hlocks hP hS dX8_suits_25 h
  · refine lv_iload_n hx hb dX8_suits_10 rfl (lv_at hl 2 rfl) ?_
    refine lv_aload_n hx hb dX8_suits_11 rfl (lv_at hl 0 rfl) ?_
    refine r_getr (C := RX8) (T := TX8) (N := 19) hx hb hts (fun w h => List.mem_cons_of_mem _ (iX8 w h)) hown hK hP rfl (by decide) rfl 17 (by decide) (hts _ (List.mem_cons_of_mem _ kw_123)) (fun _ h9 => h9) dX8_suits_12 (by decide) h (fun x8 h => ?_)
    refine lv_iload_n hx hb dX8_suits_15 rfl (lv_at hl 1 rfl) ?_
    refine r_iald hx hb hK hP dX8_suits_16 h (fun z10 h => ?_)
    refine r_icmp_gt (tgt := 24) hx hb dX8_suits_17 (by decide) h (fun h => ?_) (fun h => ?_)
    · refine r_iconst hx hb dX8_suits_24 (by decide) h (fun z12 h => ?_)
      exact r_zret hx hb hr hlocks hP hS dX8_suits_25 h
    · refine r_iconst hx hb dX8_suits_20 (by decide) h (fun z14 h => ?_)
      refine lv_goto (tgt := 25) hx hb dX8_suits_21 (by decide) ?_
      exact r_zret hx hb hr hlocks hP hS dX8_suits_25 h
