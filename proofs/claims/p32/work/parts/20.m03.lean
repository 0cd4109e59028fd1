/-! TurningMilkModel.compare()Z -/
abbrev RM_X12_compare : Room := { frames := 7, cells := 0, slots := 0, locals := 170 }
def cw_X12_compare : Cond := Cond.code yX12_compare cX12_compare 5 (Option.some FieldType.boolean)
theorem hd_X12_compare : yX12_compare.cls ≠ "java/lang/invoke/MethodHandle" ∧ yX12_compare.cls ≠ "java/lang/invoke/VarHandle" ∧ (parseMethodDescriptor yX12_compare.desc).map (fun d => d.parameters.length) = some 0 := by decide +kernel
theorem dX12_compare_0 : decode cX12_compare 0 = .ok (.aload_n 0, 1) := by decide +kernel
theorem dX12_compare_1 : decode cX12_compare 1 = .ok (.invokevirtual 179, 3) := by decide +kernel
theorem dX12_compare_4 : decode cX12_compare 4 = .ok (.ifCond .ne 5, 3) := by decide +kernel
theorem dX12_compare_7 : decode cX12_compare 7 = .ok (.iconst 0, 1) := by decide +kernel
theorem dX12_compare_8 : decode cX12_compare 8 = .ok (.ireturn, 1) := by decide +kernel
theorem dX12_compare_9 : decode cX12_compare 9 = .ok (.aload_n 0, 1) := by decide +kernel
theorem dX12_compare_10 : decode cX12_compare 10 = .ok (.invokevirtual 93, 3) := by decide +kernel
theorem dX12_compare_13 : decode cX12_compare 13 = .ok (.istore_n 1, 1) := by decide +kernel
theorem dX12_compare_14 : decode cX12_compare 14 = .ok (.aload_n 0, 1) := by decide +kernel
theorem dX12_compare_15 : decode cX12_compare 15 = .ok (.getfield 90, 3) := by decide +kernel
theorem dX12_compare_18 : decode cX12_compare 18 = .ok (.istore_n 2, 1) := by decide +kernel
theorem dX12_compare_19 : decode cX12_compare 19 = .ok (.iload_n 1, 1) := by decide +kernel
theorem dX12_compare_20 : decode cX12_compare 20 = .ok (.bipush 60, 2) := by decide +kernel
theorem dX12_compare_22 : decode cX12_compare 22 = .ok (.if_icmp .eq 22, 3) := by decide +kernel
theorem dX12_compare_25 : decode cX12_compare 25 = .ok (.iload_n 1, 1) := by decide +kernel
theorem dX12_compare_26 : decode cX12_compare 26 = .ok (.bipush 61, 2) := by decide +kernel
theorem dX12_compare_28 : decode cX12_compare 28 = .ok (.if_icmp .eq 16, 3) := by decide +kernel
theorem dX12_compare_31 : decode cX12_compare 31 = .ok (.iload_n 1, 1) := by decide +kernel
theorem dX12_compare_32 : decode cX12_compare 32 = .ok (.bipush 62, 2) := by decide +kernel
theorem dX12_compare_34 : decode cX12_compare 34 = .ok (.if_icmp .eq 10, 3) := by decide +kernel
theorem dX12_compare_37 : decode cX12_compare 37 = .ok (.aload_n 0, 1) := by decide +kernel
theorem dX12_compare_38 : decode cX12_compare 38 = .ok (.iconst 0, 1) := by decide +kernel
theorem dX12_compare_39 : decode cX12_compare 39 = .ok (.iload_n 2, 1) := by decide +kernel
theorem dX12_compare_40 : decode cX12_compare 40 = .ok (.invokevirtual 111, 3) := by decide +kernel
theorem dX12_compare_43 : decode cX12_compare 43 = .ok (.ireturn, 1) := by decide +kernel
theorem dX12_compare_44 : decode cX12_compare 44 = .ok (.aload_n 0, 1) := by decide +kernel
theorem dX12_compare_45 : decode cX12_compare 45 = .ok (.dup, 1) := by decide +kernel
theorem dX12_compare_46 : decode cX12_compare 46 = .ok (.getfield 90, 3) := by decide +kernel
theorem dX12_compare_49 : decode cX12_compare 49 = .ok (.iconst 1, 1) := by decide +kernel
theorem dX12_compare_50 : decode cX12_compare 50 = .ok (.iadd, 1) := by decide +kernel
theorem dX12_compare_51 : decode cX12_compare 51 = .ok (.putfield 90, 3) := by decide +kernel
theorem dX12_compare_54 : decode cX12_compare 54 = .ok (.iload_n 1, 1) := by decide +kernel
theorem dX12_compare_55 : decode cX12_compare 55 = .ok (.bipush 61, 2) := by decide +kernel
theorem dX12_compare_57 : decode cX12_compare 57 = .ok (.if_icmp .eq 32, 3) := by decide +kernel
theorem dX12_compare_60 : decode cX12_compare 60 = .ok (.aload_n 0, 1) := by decide +kernel
theorem dX12_compare_61 : decode cX12_compare 61 = .ok (.getfield 90, 3) := by decide +kernel
theorem dX12_compare_64 : decode cX12_compare 64 = .ok (.aload_n 0, 1) := by decide +kernel
theorem dX12_compare_65 : decode cX12_compare 65 = .ok (.getfield 80, 3) := by decide +kernel
theorem dX12_compare_68 : decode cX12_compare 68 = .ok (.if_icmp .ge 21, 3) := by decide +kernel
theorem dX12_compare_71 : decode cX12_compare 71 = .ok (.aload_n 0, 1) := by decide +kernel
theorem dX12_compare_72 : decode cX12_compare 72 = .ok (.getfield 7, 3) := by decide +kernel
theorem dX12_compare_75 : decode cX12_compare 75 = .ok (.aload_n 0, 1) := by decide +kernel
theorem dX12_compare_76 : decode cX12_compare 76 = .ok (.getfield 90, 3) := by decide +kernel
theorem dX12_compare_79 : decode cX12_compare 79 = .ok (.baload, 1) := by decide +kernel
theorem dX12_compare_80 : decode cX12_compare 80 = .ok (.bipush 61, 2) := by decide +kernel
theorem dX12_compare_82 : decode cX12_compare 82 = .ok (.if_icmp .ne 7, 3) := by decide +kernel
theorem dX12_compare_85 : decode cX12_compare 85 = .ok (.iconst 1, 1) := by decide +kernel
theorem dX12_compare_86 : decode cX12_compare 86 = .ok (.goto 4, 3) := by decide +kernel
theorem dX12_compare_89 : decode cX12_compare 89 = .ok (.iconst 0, 1) := by decide +kernel
theorem dX12_compare_90 : decode cX12_compare 90 = .ok (.istore_n 3, 1) := by decide +kernel
theorem dX12_compare_91 : decode cX12_compare 91 = .ok (.iload_n 3, 1) := by decide +kernel
theorem dX12_compare_92 : decode cX12_compare 92 = .ok (.ifCond .eq 13, 3) := by decide +kernel
theorem dX12_compare_95 : decode cX12_compare 95 = .ok (.aload_n 0, 1) := by decide +kernel
theorem dX12_compare_96 : decode cX12_compare 96 = .ok (.dup, 1) := by decide +kernel
theorem dX12_compare_97 : decode cX12_compare 97 = .ok (.getfield 90, 3) := by decide +kernel
theorem dX12_compare_100 : decode cX12_compare 100 = .ok (.iconst 1, 1) := by decide +kernel
theorem dX12_compare_101 : decode cX12_compare 101 = .ok (.iadd, 1) := by decide +kernel
theorem dX12_compare_102 : decode cX12_compare 102 = .ok (.putfield 90, 3) := by decide +kernel
theorem dX12_compare_105 : decode cX12_compare 105 = .ok (.aload_n 0, 1) := by decide +kernel
theorem dX12_compare_106 : decode cX12_compare 106 = .ok (.iload_n 2, 1) := by decide +kernel
theorem dX12_compare_107 : decode cX12_compare 107 = .ok (.invokevirtual 166, 3) := by decide +kernel
theorem dX12_compare_110 : decode cX12_compare 110 = .ok (.ifCond .ne 5, 3) := by decide +kernel
theorem dX12_compare_113 : decode cX12_compare 113 = .ok (.iconst 0, 1) := by decide +kernel
theorem dX12_compare_114 : decode cX12_compare 114 = .ok (.ireturn, 1) := by decide +kernel
theorem dX12_compare_115 : decode cX12_compare 115 = .ok (.iload_n 1, 1) := by decide +kernel
theorem dX12_compare_116 : decode cX12_compare 116 = .ok (.bipush 60, 2) := by decide +kernel
theorem dX12_compare_118 : decode cX12_compare 118 = .ok (.if_icmp .ne 15, 3) := by decide +kernel
theorem dX12_compare_121 : decode cX12_compare 121 = .ok (.iload_n 3, 1) := by decide +kernel
theorem dX12_compare_122 : decode cX12_compare 122 = .ok (.ifCond .eq 7, 3) := by decide +kernel
theorem dX12_compare_125 : decode cX12_compare 125 = .ok (.iconst 1, 1) := by decide +kernel
theorem dX12_compare_126 : decode cX12_compare 126 = .ok (.goto 26, 3) := by decide +kernel
theorem dX12_compare_129 : decode cX12_compare 129 = .ok (.iconst 0, 1) := by decide +kernel
theorem dX12_compare_130 : decode cX12_compare 130 = .ok (.goto 22, 3) := by decide +kernel
theorem dX12_compare_133 : decode cX12_compare 133 = .ok (.iload_n 1, 1) := by decide +kernel
theorem dX12_compare_134 : decode cX12_compare 134 = .ok (.bipush 61, 2) := by decide +kernel
theorem dX12_compare_136 : decode cX12_compare 136 = .ok (.if_icmp .ne 7, 3) := by decide +kernel
theorem dX12_compare_139 : decode cX12_compare 139 = .ok (.iconst 2, 1) := by decide +kernel
theorem dX12_compare_140 : decode cX12_compare 140 = .ok (.goto 12, 3) := by decide +kernel
theorem dX12_compare_143 : decode cX12_compare 143 = .ok (.iload_n 3, 1) := by decide +kernel
theorem dX12_compare_144 : decode cX12_compare 144 = .ok (.ifCond .eq 7, 3) := by decide +kernel
theorem dX12_compare_147 : decode cX12_compare 147 = .ok (.iconst 3, 1) := by decide +kernel
theorem dX12_compare_148 : decode cX12_compare 148 = .ok (.goto 4, 3) := by decide +kernel
theorem dX12_compare_151 : decode cX12_compare 151 = .ok (.iconst 4, 1) := by decide +kernel
theorem dX12_compare_152 : decode cX12_compare 152 = .ok (.istore 4, 2) := by decide +kernel
theorem dX12_compare_154 : decode cX12_compare 154 = .ok (.aload_n 0, 1) := by decide +kernel
theorem dX12_compare_155 : decode cX12_compare 155 = .ok (.invokevirtual 179, 3) := by decide +kernel
theorem dX12_compare_158 : decode cX12_compare 158 = .ok (.ifCond .ne 5, 3) := by decide +kernel
theorem dX12_compare_161 : decode cX12_compare 161 = .ok (.iconst 0, 1) := by decide +kernel
theorem dX12_compare_162 : decode cX12_compare 162 = .ok (.ireturn, 1) := by decide +kernel
theorem dX12_compare_163 : decode cX12_compare 163 = .ok (.aload_n 0, 1) := by decide +kernel
theorem dX12_compare_164 : decode cX12_compare 164 = .ok (.bipush 6, 2) := by decide +kernel
theorem dX12_compare_166 : decode cX12_compare 166 = .ok (.iload 4, 2) := by decide +kernel
theorem dX12_compare_168 : decode cX12_compare 168 = .ok (.iadd, 1) := by decide +kernel
theorem dX12_compare_169 : decode cX12_compare 169 = .ok (.iconst 0, 1) := by decide +kernel
theorem dX12_compare_170 : decode cX12_compare 170 = .ok (.invokevirtual 158, 3) := by decide +kernel
theorem dX12_compare_173 : decode cX12_compare 173 = .ok (.iconst 1, 1) := by decide +kernel
theorem dX12_compare_174 : decode cX12_compare 174 = .ok (.ireturn, 1) := by decide +kernel
def wp_X12_compare_152 (S : Sh) (post : Int → Mm → Prop) (u0 : Int) (t0 : Int) (M : Mm) : Prop := isK S u0 12 ∧ (wp_X12_sum S M u0 <| fun v2 M1 => wIf (¬ v2 = 0) (wC 6 fun v4 => wA v4 t0 fun v6 => wC 0 fun v8 => isK S u0 12 ∧ (wp_X12_puts S M1 u0 v6 v8 <| fun M10 => wC 1 fun v11 => (v11 = 0 ∨ v11 = 1) ∧ post v11 M10)) (wC 0 fun v13 => (v13 = 0 ∨ v13 = 1) ∧ post v13 M1))
def wp_X12_compare_105 (S : Sh) (post : Int → Mm → Prop) (u0 : Int) (u1 : Int) (u2 : Int) (u3 : Int) (M : Mm) : Prop := isK S u0 12 ∧ (wp_X12_makes S M u0 u2 <| fun v16 M15 => wIf (¬ v16 = 0) (wC 60 fun v18 => wIf (¬ u1 = v18) (wC 61 fun v20 => wIf (¬ u1 = v20) (wIf (u3 = 0) (wC 4 fun v22 => wp_X12_compare_152 S post u0 v22 M15) (wC 3 fun v24 => wp_X12_compare_152 S post u0 v24 M15)) (wC 2 fun v26 => wp_X12_compare_152 S post u0 v26 M15)) (wIf (u3 = 0) (wC 0 fun v28 => wp_X12_compare_152 S post u0 v28 M15) (wC 1 fun v30 => wp_X12_compare_152 S post u0 v30 M15))) (wC 0 fun v32 => (v32 = 0 ∨ v32 = 1) ∧ post v32 M15))
def wp_X12_compare_90 (S : Sh) (post : Int → Mm → Prop) (u0 : Int) (u1 : Int) (u2 : Int) (t0 : Int) (M : Mm) : Prop := wIf (t0 = 0) (wp_X12_compare_105 S post u0 u1 u2 t0 M) (wGet S M u0 12 8 fun v34 => wC 1 fun v36 => wA v34 v36 fun v38 => wPut S M u0 12 8 v38 fun M40 => wp_X12_compare_105 S post u0 u1 u2 t0 M40)
def wp_X12_compare_89 (S : Sh) (post : Int → Mm → Prop) (u0 : Int) (u1 : Int) (u2 : Int) (M : Mm) : Prop := wC 0 fun v41 => wp_X12_compare_90 S post u0 u1 u2 v41 M
def wp_X12_compare_44 (S : Sh) (post : Int → Mm → Prop) (u0 : Int) (u1 : Int) (u2 : Int) (M : Mm) : Prop := wGet S M u0 12 8 fun v43 => wC 1 fun v45 => wA v43 v45 fun v47 => wPut S M u0 12 8 v47 fun M49 => wC 61 fun v50 => wIf (u1 = v50) (wp_X12_compare_89 S post u0 u1 u2 M49) (wGet S M49 u0 12 8 fun v52 => wGet S M49 u0 12 1 fun v54 => wIf (v54 ≤ v52) (wp_X12_compare_89 S post u0 u1 u2 M49) (wGetR S M49 u0 12 0 fun v56 => wGet S M49 u0 12 8 fun v58 => wLd S M49 v56 13 v58 fun v60 => wC 61 fun v62 => wIf (¬ v60 = v62) (wp_X12_compare_89 S post u0 u1 u2 M49) (wC 1 fun v64 => wp_X12_compare_90 S post u0 u1 u2 v64 M49)))
def wp_X12_compare (S : Sh) (M : Mm) (u0 : Int) (post : Int → Mm → Prop) : Prop := isK S u0 12 ∧ (wp_X12_sum S M u0 <| fun v67 M66 => wIf (¬ v67 = 0) (isK S u0 12 ∧ (wp_X12_see S M66 u0 <| fun v70 M69 => wGet S M69 u0 12 8 fun v72 => wC 60 fun v74 => wIf (v70 = v74) (wp_X12_compare_44 S post u0 v70 v72 M69) (wC 61 fun v76 => wIf (v70 = v76) (wp_X12_compare_44 S post u0 v70 v72 M69) (wC 62 fun v78 => wIf (v70 = v78) (wp_X12_compare_44 S post u0 v70 v72 M69) (wC 0 fun v80 => isK S u0 12 ∧ (wp_X12_fails S M69 u0 v80 v72 <| fun v83 M82 => (v83 = 0 ∨ v83 = 1) ∧ post v83 M82)))))) (wC 0 fun v85 => (v85 = 0 ∨ v85 = 1) ∧ post v85 M66))
set_option maxHeartbeats 4000000 in
set_option maxRecDepth 100000 in
theorem t_X12_compare_152 {p : Program} {l : Launch} {e : Env} {s : State} {m : MethodId} {args : Array Value} {below : List Frame} {meth : Method} {c : Code} {D : va_G} {G : Gt} {S : Sh} {post : Int → Mm → Prop} (C : Cx p s m args meth c D G cX12_compare 5 (some .boolean) (cw_X12_compare :: gw) RX12) : ∀ (xl0 : Int) (zs0 : Int32) (M : Mm) (H : Heap) (locs : List Loc) (ls : Array Slot), Wd D G S M H → va_S (aG G) s.heap H locs → lv_has ls 5 [(0, .ref (adr G xl0))] → wp_X12_compare_152 S post xl0 zs0.toInt M → W p l e RM_X12_compare s m args below meth c H locs 0 0 (MQ below (QI D G S post) args s 0 0 (aG G)) (F0 m 152 ls [.int zs0]) := by
  obtain ⟨hx, hb, hr, hlocks, hml, hown, hts, hK⟩ := id C
  intro xl0 zs0 M H locs ls hP hS hl h
  unfold wp_X12_compare_152 at h
  refine lv_istore (lv' := [(4, .int zs0), (0, .ref (adr G xl0))]) hx hb dX12_compare_152 hl (by decide) rfl (fun ls hl => ?_)
  refine lv_aload_n hx hb dX12_compare_154 rfl (lv_at hl 1 rfl) ?_
  refine q_Vi hx hb hml hown hts hK hP hS (c_X12_sum l D G S _ xl0 _ h.2) ⟨callB_of 0 hts (gw_good kw_1559) rfl rfl rfl (hts _ (List.mem_cons_of_mem _ kw_14)) (hts _ (List.mem_cons_of_mem _ kw_1556)) hd_X12_sum ⟨Nat.le_of_ble_eq_true rfl, Nat.le_of_ble_eq_true rfl⟩, (hts _ (List.mem_cons_of_mem _ kw_1558)), (hts _ (List.mem_cons_of_mem _ kp_72))⟩ h.1 (ci := 12) rfl (by decide) rfl hl.1 rfl (lv_room (Nat.le_of_ble_eq_true rfl)) dX12_compare_155 ⟨Nat.zero_le _, Nat.zero_le _⟩ (fun z3 M1 H locs h hP hS => ?_)
  refine r_if_ne (tgt := 163) hx hb dX12_compare_158 (by decide) h (fun h => ?_) (fun h => ?_)
  · refine lv_aload_n hx hb dX12_compare_163 rfl (lv_at hl 1 rfl) ?_
    refine r_bipush hx hb dX12_compare_164 (by decide) h (fun z5 h => ?_)
    refine lv_iload hx hb dX12_compare_166 (lv_at hl 0 rfl) ?_
    refine r_iadd hx hb dX12_compare_168 h (fun z7 h => ?_)
    refine r_iconst hx hb dX12_compare_169 (by decide) h (fun z9 h => ?_)
    refine q_Vv hx hb hml hown hts hK hP hS (c_X12_puts l D G S _ xl0 z7 z9 _ h.2) ⟨callB_of 2 hts (gw_good kw_1576) rfl rfl rfl (hts _ (List.mem_cons_of_mem _ kw_14)) (hts _ (List.mem_cons_of_mem _ kw_1573)) hd_X12_puts ⟨Nat.le_of_ble_eq_true rfl, Nat.le_of_ble_eq_true rfl⟩, (hts _ (List.mem_cons_of_mem _ kw_1575)), (hts _ (List.mem_cons_of_mem _ kp_76))⟩ h.1 (ci := 12) rfl (by decide) rfl hl.1 rfl (lv_room (Nat.le_of_ble_eq_true rfl)) dX12_compare_170 ⟨Nat.zero_le _, Nat.zero_le _⟩ (fun M10 H locs h hP hS => ?_)
    refine r_iconst hx hb dX12_compare_173 (by decide) h (fun z12 h => ?_)
    exact r_zret hx hb hr hlocks hP hS dX12_compare_174 h
  · refine r_iconst hx hb dX12_compare_161 (by decide) h (fun z14 h => ?_)
    exact r_zret hx hb hr hlocks hP hS dX12_compare_162 h
set_option maxHeartbeats 4000000 in
set_option maxRecDepth 100000 in
theorem t_X12_compare_105 {p : Program} {l : Launch} {e : Env} {s : State} {m : MethodId} {args : Array Value} {below : List Frame} {meth : Method} {c : Code} {D : va_G} {G : Gt} {S : Sh} {post : Int → Mm → Prop} (C : Cx p s m args meth c D G cX12_compare 5 (some .boolean) (cw_X12_compare :: gw) RX12) : ∀ (xl0 : Int) (zl1 : Int32) (zl2 : Int32) (zl3 : Int32) (M : Mm) (H : Heap) (locs : List Loc) (ls : Array Slot), Wd D G S M H → va_S (aG G) s.heap H locs → lv_has ls 5 [(0, .ref (adr G xl0)), (1, .int zl1), (2, .int zl2), (3, .int zl3)] → wp_X12_compare_105 S post xl0 zl1.toInt zl2.toInt zl3.toInt  M → W p l e RM_X12_compare s m args below meth c H locs 0 0 (MQ below (QI D G S post) args s 0 0 (aG G)) (F0 m 105 ls []) := by
  obtain ⟨hx, hb, hr, hlocks, hml, hown, hts, hK⟩ := id C
  intro xl0 zl1 zl2 zl3 M H locs ls hP hS hl h
  unfold wp_X12_compare_105 at h
  refine lv_aload_n hx hb dX12_compare_105 rfl (lv_at hl 0 rfl) ?_
  refine lv_iload_n hx hb dX12_compare_106 rfl (lv_at hl 2 rfl) ?_
  refine q_Vi hx hb hml hown hts hK hP hS (c_X12_makes l D G S _ xl0 zl2 _ h.2) ⟨callB_of 1 hts (gw_good kw_1572) rfl rfl rfl (hts _ (List.mem_cons_of_mem _ kw_14)) (hts _ (List.mem_cons_of_mem _ kw_1569)) hd_X12_makes ⟨Nat.le_of_ble_eq_true rfl, Nat.le_of_ble_eq_true rfl⟩, (hts _ (List.mem_cons_of_mem _ kw_1571)), (hts _ (List.mem_cons_of_mem _ kp_75))⟩ h.1 (ci := 12) rfl (by decide) rfl hl.1 rfl (lv_room (Nat.le_of_ble_eq_true rfl)) dX12_compare_107 ⟨Nat.zero_le _, Nat.zero_le _⟩ (fun z17 M15 H locs h hP hS => ?_)
  refine r_if_ne (tgt := 115) hx hb dX12_compare_110 (by decide) h (fun h => ?_) (fun h => ?_)
  · refine lv_iload_n hx hb dX12_compare_115 rfl (lv_at hl 1 rfl) ?_
    refine r_bipush hx hb dX12_compare_116 (by decide) h (fun z19 h => ?_)
    refine r_icmp_ne (tgt := 133) hx hb dX12_compare_118 (by decide) h (fun h => ?_) (fun h => ?_)
    · refine lv_iload_n hx hb dX12_compare_133 rfl (lv_at hl 1 rfl) ?_
      refine r_bipush hx hb dX12_compare_134 (by decide) h (fun z21 h => ?_)
      refine r_icmp_ne (tgt := 143) hx hb dX12_compare_136 (by decide) h (fun h => ?_) (fun h => ?_)
      · refine lv_iload_n hx hb dX12_compare_143 rfl (lv_at hl 3 rfl) ?_
        refine r_if_eq (tgt := 151) hx hb dX12_compare_144 (by decide) h (fun h => ?_) (fun h => ?_)
        · refine r_iconst hx hb dX12_compare_151 (by decide) h (fun z23 h => ?_)
          exact t_X12_compare_152 C xl0 z23 _ _ _ _ hP hS (lv_sub hl [0] rfl) h
        · refine r_iconst hx hb dX12_compare_147 (by decide) h (fun z25 h => ?_)
          refine lv_goto (tgt := 152) hx hb dX12_compare_148 (by decide) ?_
          exact t_X12_compare_152 C xl0 z25 _ _ _ _ hP hS (lv_sub hl [0] rfl) h
      · refine r_iconst hx hb dX12_compare_139 (by decide) h (fun z27 h => ?_)
        refine lv_goto (tgt := 152) hx hb dX12_compare_140 (by decide) ?_
        exact t_X12_compare_152 C xl0 z27 _ _ _ _ hP hS (lv_sub hl [0] rfl) h
    · refine lv_iload_n hx hb dX12_compare_121 rfl (lv_at hl 3 rfl) ?_
      refine r_if_eq (tgt := 129) hx hb dX12_compare_122 (by decide) h (fun h => ?_) (fun h => ?_)
      · refine r_iconst hx hb dX12_compare_129 (by decide) h (fun z29 h => ?_)
        refine lv_goto (tgt := 152) hx hb dX12_compare_130 (by decide) ?_
        exact t_X12_compare_152 C xl0 z29 _ _ _ _ hP hS (lv_sub hl [0] rfl) h
      · refine r_iconst hx hb dX12_compare_125 (by decide) h (fun z31 h => ?_)
        refine lv_goto (tgt := 152) hx hb dX12_compare_126 (by decide) ?_
        exact t_X12_compare_152 C xl0 z31 _ _ _ _ hP hS (lv_sub hl [0] rfl) h
  · refine r_iconst hx hb dX12_compare_113 (by decide) h (fun z33 h => ?_)
    exact r_zret hx hb hr hlocks hP hS dX12_compare_114 h
set_option maxHeartbeats 4000000 in
set_option maxRecDepth 100000 in
theorem t_X12_compare_90 {p : Program} {l : Launch} {e : Env} {s : State} {m : MethodId} {args : Array Value} {below : List Frame} {meth : Method} {c : Code} {D : va_G} {G : Gt} {S : Sh} {post : Int → Mm → Prop} (C : Cx p s m args meth c D G cX12_compare 5 (some .boolean) (cw_X12_compare :: gw) RX12) : ∀ (xl0 : Int) (zl1 : Int32) (zl2 : Int32) (zs0 : Int32) (M : Mm) (H : Heap) (locs : List Loc) (ls : Array Slot), Wd D G S M H → va_S (aG G) s.heap H locs → lv_has ls 5 [(0, .ref (adr G xl0)), (1, .int zl1), (2, .int zl2)] → wp_X12_compare_90 S post xl0 zl1.toInt zl2.toInt zs0.toInt M → W p l e RM_X12_compare s m args below meth c H locs 0 0 (MQ below (QI D G S post) args s 0 0 (aG G)) (F0 m 90 ls [.int zs0]) := by
  obtain ⟨hx, hb, hr, hlocks, hml, hown, hts, hK⟩ := id C
  intro xl0 zl1 zl2 zs0 M H locs ls hP hS hl h
  unfold wp_X12_compare_90 at h
  refine lv_istore_n (lv' := [(3, .int zs0), (0, .ref (adr G xl0)), (1, .int zl1), (2, .int zl2)]) hx hb dX12_compare_90 rfl hl (by decide) rfl (fun ls hl => ?_)
  refine lv_iload_n hx hb dX12_compare_91 rfl (lv_at hl 0 rfl) ?_
  refine r_if_eq (tgt := 105) hx hb dX12_compare_92 (by decide) h (fun h => ?_) (fun h => ?_)
  · exact t_X12_compare_105 C xl0 zl1 zl2 zs0 _ _ _ _ hP hS (lv_sub hl [1, 2, 3, 0] rfl) h
  · refine lv_aload_n hx hb dX12_compare_95 rfl (lv_at hl 1 rfl) ?_
    refine lv_dup hx hb dX12_compare_96 rfl ?_
    refine r_geti (C := RX12) (T := TX12) (N := 38) hx hb hts (fun w h => List.mem_cons_of_mem _ (iX12 w h)) hown hK hP rfl (by decide) rfl 8 (by decide) (hts _ (List.mem_cons_of_mem _ kw_1342)) (fun _ h9 => h9) dX12_compare_97 (by decide) h (fun z35 h => ?_)
    refine r_iconst hx hb dX12_compare_100 (by decide) h (fun z37 h => ?_)
    refine r_iadd hx hb dX12_compare_101 h (fun z39 h => ?_)
    refine r_puti (C := RX12) (T := TX12) (N := 38) hx hb hts (fun w h => List.mem_cons_of_mem _ (iX12 w h)) hown hK hP tyX12 tyX12_ok nmX12 hS rfl (by decide) rfl 8 (by decide) (hts _ (List.mem_cons_of_mem _ kw_1342)) (fun _ h9 => h9) rfl (tyX12_ok 8 (by decide)) rfl rfl dX12_compare_102 (by decide) h (fun M40 H locs h hP hS => ?_)
    exact t_X12_compare_105 C xl0 zl1 zl2 zs0 _ _ _ _ hP hS (lv_sub hl [1, 2, 3, 0] rfl) h
set_option maxHeartbeats 4000000 in
set_option maxRecDepth 100000 in
theorem t_X12_compare_89 {p : Program} {l : Launch} {e : Env} {s : State} {m : MethodId} {args : Array Value} {below : List Frame} {meth : Method} {c : Code} {D : va_G} {G : Gt} {S : Sh} {post : Int → Mm → Prop} (C : Cx p s m args meth c D G cX12_compare 5 (some .boolean) (cw_X12_compare :: gw) RX12) : ∀ (xl0 : Int) (zl1 : Int32) (zl2 : Int32) (M : Mm) (H : Heap) (locs : List Loc) (ls : Array Slot), Wd D G S M H → va_S (aG G) s.heap H locs → lv_has ls 5 [(0, .ref (adr G xl0)), (1, .int zl1), (2, .int zl2)] → wp_X12_compare_89 S post xl0 zl1.toInt zl2.toInt  M → W p l e RM_X12_compare s m args below meth c H locs 0 0 (MQ below (QI D G S post) args s 0 0 (aG G)) (F0 m 89 ls []) := by
  obtain ⟨hx, hb, hr, hlocks, hml, hown, hts, hK⟩ := id C
  intro xl0 zl1 zl2 M H locs ls hP hS hl h
  unfold wp_X12_compare_89 at h
  refine r_iconst hx hb dX12_compare_89 (by decide) h (fun z42 h => ?_)
  exact t_X12_compare_90 C xl0 zl1 zl2 z42 _ _ _ _ hP hS (lv_sub hl [0, 1, 2] rfl) h
set_option maxHeartbeats 4000000 in
set_option maxRecDepth 100000 in
theorem t_X12_compare_44 {p : Program} {l : Launch} {e : Env} {s : State} {m : MethodId} {args : Array Value} {below : List Frame} {meth : Method} {c : Code} {D : va_G} {G : Gt} {S : Sh} {post : Int → Mm → Prop} (C : Cx p s m args meth c D G cX12_compare 5 (some .boolean) (cw_X12_compare :: gw) RX12) : ∀ (xl0 : Int) (zl1 : Int32) (zl2 : Int32) (M : Mm) (H : Heap) (locs : List Loc) (ls : Array Slot), Wd D G S M H → va_S (aG G) s.heap H locs → lv_has ls 5 [(0, .ref (adr G xl0)), (1, .int zl1), (2, .int zl2)] → wp_X12_compare_44 S post xl0 zl1.toInt zl2.toInt  M → W p l e RM_X12_compare s m args below meth c H locs 0 0 (MQ below (QI D G S post) args s 0 0 (aG G)) (F0 m 44 ls []) := by
  obtain ⟨hx, hb, hr, hlocks, hml, hown, hts, hK⟩ := id C
  intro xl0 zl1 zl2 M H locs ls hP hS hl h
  unfold wp_X12_compare_44 at h
  refine lv_aload_n hx hb dX12_compare_44 rfl (lv_at hl 0 rfl) ?_
  refine lv_dup hx hb dX12_compare_45 rfl ?_
  refine r_geti (C := RX12) (T := TX12) (N := 38) hx hb hts (fun w h => List.mem_cons_of_mem _ (iX12 w h)) hown hK hP rfl (by decide) rfl 8 (by decide) (hts _ (List.mem_cons_of_mem _ kw_1342)) (fun _ h9 => h9) dX12_compare_46 (by decide) h (fun z44 h => ?_)
  refine r_iconst hx hb dX12_compare_49 (by decide) h (fun z46 h => ?_)
  refine r_iadd hx hb dX12_compare_50 h (fun z48 h => ?_)
  refine r_puti (C := RX12) (T := TX12) (N := 38) hx hb hts (fun w h => List.mem_cons_of_mem _ (iX12 w h)) hown hK hP tyX12 tyX12_ok nmX12 hS rfl (by decide) rfl 8 (by decide) (hts _ (List.mem_cons_of_mem _ kw_1342)) (fun _ h9 => h9) rfl (tyX12_ok 8 (by decide)) rfl rfl dX12_compare_51 (by decide) h (fun M49 H locs h hP hS => ?_)
  refine lv_iload_n hx hb dX12_compare_54 rfl (lv_at hl 1 rfl) ?_
  refine r_bipush hx hb dX12_compare_55 (by decide) h (fun z51 h => ?_)
  refine r_icmp_eq (tgt := 89) hx hb dX12_compare_57 (by decide) h (fun h => ?_) (fun h => ?_)
  · exact t_X12_compare_89 C xl0 zl1 zl2 _ _ _ _ hP hS (lv_sub hl [0, 1, 2] rfl) h
  · refine lv_aload_n hx hb dX12_compare_60 rfl (lv_at hl 0 rfl) ?_
    refine r_geti (C := RX12) (T := TX12) (N := 38) hx hb hts (fun w h => List.mem_cons_of_mem _ (iX12 w h)) hown hK hP rfl (by decide) rfl 8 (by decide) (hts _ (List.mem_cons_of_mem _ kw_1342)) (fun _ h9 => h9) dX12_compare_61 (by decide) h (fun z53 h => ?_)
    refine lv_aload_n hx hb dX12_compare_64 rfl (lv_at hl 0 rfl) ?_
    refine r_geti (C := RX12) (T := TX12) (N := 38) hx hb hts (fun w h => List.mem_cons_of_mem _ (iX12 w h)) hown hK hP rfl (by decide) rfl 1 (by decide) (hts _ (List.mem_cons_of_mem _ kw_1335)) (fun _ h9 => h9) dX12_compare_65 (by decide) h (fun z55 h => ?_)
    refine r_icmp_ge (tgt := 89) hx hb dX12_compare_68 (by decide) h (fun h => ?_) (fun h => ?_)
    · exact t_X12_compare_89 C xl0 zl1 zl2 _ _ _ _ hP hS (lv_sub hl [0, 1, 2] rfl) h
    · refine lv_aload_n hx hb dX12_compare_71 rfl (lv_at hl 0 rfl) ?_
      refine r_getr (C := RX12) (T := TX12) (N := 38) hx hb hts (fun w h => List.mem_cons_of_mem _ (iX12 w h)) hown hK hP rfl (by decide) rfl 0 (by decide) (hts _ (List.mem_cons_of_mem _ kw_1334)) (fun _ h9 => h9) dX12_compare_72 (by decide) h (fun x57 h => ?_)
      refine lv_aload_n hx hb dX12_compare_75 rfl (lv_at hl 0 rfl) ?_
      refine r_geti (C := RX12) (T := TX12) (N := 38) hx hb hts (fun w h => List.mem_cons_of_mem _ (iX12 w h)) hown hK hP rfl (by decide) rfl 8 (by decide) (hts _ (List.mem_cons_of_mem _ kw_1342)) (fun _ h9 => h9) dX12_compare_76 (by decide) h (fun z59 h => ?_)
      refine r_bald hx hb hK hP dX12_compare_79 h (fun z61 h => ?_)
      refine r_bipush hx hb dX12_compare_80 (by decide) h (fun z63 h => ?_)
      refine r_icmp_ne (tgt := 89) hx hb dX12_compare_82 (by decide) h (fun h => ?_) (fun h => ?_)
      · exact t_X12_compare_89 C xl0 zl1 zl2 _ _ _ _ hP hS (lv_sub hl [0, 1, 2] rfl) h
      · refine r_iconst hx hb dX12_compare_85 (by decide) h (fun z65 h => ?_)
        refine lv_goto (tgt := 90) hx hb dX12_compare_86 (by decide) ?_
        exact t_X12_compare_90 C xl0 zl1 zl2 z65 _ _ _ _ hP hS (lv_sub hl [0, 1, 2] rfl) h
set_option maxHeartbeats 4000000 in
set_option maxRecDepth 100000 in
theorem c_X12_compare (l : Launch) (D : va_G) (G : Gt) (S : Sh) (M : Mm) (xl0 : Int) (post : Int → Mm → Prop) (h : wp_X12_compare S M xl0 post) : Met l yX12_compare (cw_X12_compare :: gw) RM_X12_compare (va_Pc [.ref (adr G xl0)] (fun U => KN D G U ∧ Wd D G S M U.heap)) (QI D G S post) 0 0 (aG G) := by
  refine Met.ofW (cc := cX12_compare) (maxL := 5) (ret := (some .boolean)) (by decide) rfl ?_
  intro p e s m args below meth c s₁ B hml hv
  obtain ⟨rfl, hK, hP⟩ := hv
  have hx := B.exec
  have hb := B.bytes
  have hr := B.returns
  have hts := atoms_spec (ws := cw_X12_compare :: gw) B.pre
  have hown : s.vm.findClass RX12 = some m.cls := findClass_of_methodNamed B.named
  have hlocks := B.notSynchronized
  have hS : va_S (aG G) s.heap s.heap [] := va_S.rf
  have C : Cx p s m ([.ref (adr G xl0)] : List Value).toArray meth c D G cX12_compare 5 (some .boolean) (cw_X12_compare :: gw) RX12 := ⟨hx, hb, hr, hlocks, hml, hown, hts, hK⟩
  have hl := lv_entry ([.ref (adr G xl0)]) (n := 5) (Nat.le_of_ble_eq_true rfl)
  rw [lg_entry_eq]
  generalize (lg_sl ([.ref (adr G xl0)]) ++ List.replicate (5 - (lg_sl ([.ref (adr G xl0)])).length) Slot.unset).toArray = ls at hl ⊢
  have hl : lv_has ls 5 [(0, .ref (adr G xl0))] := hl
  unfold wp_X12_compare at h
  refine lv_aload_n hx hb dX12_compare_0 rfl (lv_at hl 0 rfl) ?_
  refine q_Vi hx hb hml hown hts hK hP hS (c_X12_sum l D G S _ xl0 _ h.2) ⟨callB_of 0 hts (gw_good kw_1559) rfl rfl rfl (hts _ (List.mem_cons_of_mem _ kw_14)) (hts _ (List.mem_cons_of_mem _ kw_1556)) hd_X12_sum ⟨Nat.le_of_ble_eq_true rfl, Nat.le_of_ble_eq_true rfl⟩, (hts _ (List.mem_cons_of_mem _ kw_1558)), (hts _ (List.mem_cons_of_mem _ kp_72))⟩ h.1 (ci := 12) rfl (by decide) rfl hl.1 rfl (lv_room (Nat.le_of_ble_eq_true rfl)) dX12_compare_1 ⟨Nat.zero_le _, Nat.zero_le _⟩ (fun z68 M66 H locs h hP hS => ?_)
  refine r_if_ne (tgt := 9) hx hb dX12_compare_4 (by decide) h (fun h => ?_) (fun h => ?_)
  · refine lv_aload_n hx hb dX12_compare_9 rfl (lv_at hl 0 rfl) ?_
    refine q_Vi hx hb hml hown hts hK hP hS (c_X12_see l D G S _ xl0 _ h.2) ⟨callB_of 0 hts (gw_good kw_1477) rfl rfl rfl (hts _ (List.mem_cons_of_mem _ kw_14)) (hts _ (List.mem_cons_of_mem _ kw_1474)) hd_X12_see ⟨Nat.le_of_ble_eq_true rfl, Nat.le_of_ble_eq_true rfl⟩, (hts _ (List.mem_cons_of_mem _ kw_1476)), (hts _ (List.mem_cons_of_mem _ kp_54))⟩ h.1 (ci := 12) rfl (by decide) rfl hl.1 rfl (lv_room (Nat.le_of_ble_eq_true rfl)) dX12_compare_10 ⟨Nat.zero_le _, Nat.zero_le _⟩ (fun z71 M69 H locs h hP hS => ?_)
    refine lv_istore_n (lv' := [(1, .int z71), (0, .ref (adr G xl0))]) hx hb dX12_compare_13 rfl hl (by decide) rfl (fun ls hl => ?_)
    refine lv_aload_n hx hb dX12_compare_14 rfl (lv_at hl 1 rfl) ?_
    refine r_geti (C := RX12) (T := TX12) (N := 38) hx hb hts (fun w h => List.mem_cons_of_mem _ (iX12 w h)) hown hK hP rfl (by decide) rfl 8 (by decide) (hts _ (List.mem_cons_of_mem _ kw_1342)) (fun _ h9 => h9) dX12_compare_15 (by decide) h (fun z73 h => ?_)
    refine lv_istore_n (lv' := [(2, .int z73), (1, .int z71), (0, .ref (adr G xl0))]) hx hb dX12_compare_18 rfl hl (by decide) rfl (fun ls hl => ?_)
    refine lv_iload_n hx hb dX12_compare_19 rfl (lv_at hl 1 rfl) ?_
    refine r_bipush hx hb dX12_compare_20 (by decide) h (fun z75 h => ?_)
    refine r_icmp_eq (tgt := 44) hx hb dX12_compare_22 (by decide) h (fun h => ?_) (fun h => ?_)
    · exact t_X12_compare_44 C xl0 z71 z73 _ _ _ _ hP hS (lv_sub hl [2, 1, 0] rfl) h
    · refine lv_iload_n hx hb dX12_compare_25 rfl (lv_at hl 1 rfl) ?_
      refine r_bipush hx hb dX12_compare_26 (by decide) h (fun z77 h => ?_)
      refine r_icmp_eq (tgt := 44) hx hb dX12_compare_28 (by decide) h (fun h => ?_) (fun h => ?_)
      · exact t_X12_compare_44 C xl0 z71 z73 _ _ _ _ hP hS (lv_sub hl [2, 1, 0] rfl) h
      · refine lv_iload_n hx hb dX12_compare_31 rfl (lv_at hl 1 rfl) ?_
        refine r_bipush hx hb dX12_compare_32 (by decide) h (fun z79 h => ?_)
        refine r_icmp_eq (tgt := 44) hx hb dX12_compare_34 (by decide) h (fun h => ?_) (fun h => ?_)
        · exact t_X12_compare_44 C xl0 z71 z73 _ _ _ _ hP hS (lv_sub hl [2, 1, 0] rfl) h
        · refine lv_aload_n hx hb dX12_compare_37 rfl (lv_at hl 2 rfl) ?_
          refine r_iconst hx hb dX12_compare_38 (by decide) h (fun z81 h => ?_)
          refine lv_iload_n hx hb dX12_compare_39 rfl (lv_at hl 0 rfl) ?_
          refine q_Vi hx hb hml hown hts hK hP hS (c_X12_fails l D G S _ xl0 z81 z73 _ h.2) ⟨callB_of 2 hts (gw_good kw_1500) rfl rfl rfl (hts _ (List.mem_cons_of_mem _ kw_14)) (hts _ (List.mem_cons_of_mem _ kw_1497)) hd_X12_fails ⟨Nat.le_of_ble_eq_true rfl, Nat.le_of_ble_eq_true rfl⟩, (hts _ (List.mem_cons_of_mem _ kw_1499)), (hts _ (List.mem_cons_of_mem _ kp_58))⟩ h.1 (ci := 12) rfl (by decide) rfl hl.1 rfl (lv_room (Nat.le_of_ble_eq_true rfl)) dX12_compare_40 ⟨Nat.zero_le _, Nat.zero_le _⟩ (fun z84 M82 H locs h hP hS => ?_)
          exact r_zret hx hb hr hlocks hP hS dX12_compare_43 h
  · refine r_iconst hx hb dX12_compare_7 (by decide) h (fun z86 h => ?_)
    exact r_zret hx hb hr hlocks hP hS dX12_compare_8 h
/-! TurningMilkModel.fact()Z -/
abbrev RM_X12_fact : Room := { frames := 8, cells := 0, slots := 0, locals := 194 }
def cw_X12_fact : Cond := Cond.code yX12_fact cX12_fact 3 (Option.some FieldType.boolean)
theorem hd_X12_fact : yX12_fact.cls ≠ "java/lang/invoke/MethodHandle" ∧ yX12_fact.cls ≠ "java/lang/invoke/VarHandle" ∧ (parseMethodDescriptor yX12_fact.desc).map (fun d => d.parameters.length) = some 0 := by decide +kernel
theorem dX12_fact_0 : decode cX12_fact 0 = .ok (.iconst 1, 1) := by decide +kernel
theorem dX12_fact_1 : decode cX12_fact 1 = .ok (.istore_n 1, 1) := by decide +kernel
theorem dX12_fact_2 : decode cX12_fact 2 = .ok (.iload_n 1, 1) := by decide +kernel
theorem dX12_fact_3 : decode cX12_fact 3 = .ok (.ifCond .eq 72, 3) := by decide +kernel
theorem dX12_fact_6 : decode cX12_fact 6 = .ok (.iconst 0, 1) := by decide +kernel
theorem dX12_fact_7 : decode cX12_fact 7 = .ok (.istore_n 1, 1) := by decide +kernel
theorem dX12_fact_8 : decode cX12_fact 8 = .ok (.aload_n 0, 1) := by decide +kernel
theorem dX12_fact_9 : decode cX12_fact 9 = .ok (.invokevirtual 93, 3) := by decide +kernel
theorem dX12_fact_12 : decode cX12_fact 12 = .ok (.istore_n 2, 1) := by decide +kernel
theorem dX12_fact_13 : decode cX12_fact 13 = .ok (.aload_n 0, 1) := by decide +kernel
theorem dX12_fact_14 : decode cX12_fact 14 = .ok (.ldc2_w 182, 3) := by decide +kernel
theorem dX12_fact_17 : decode cX12_fact 17 = .ok (.invokevirtual 101, 3) := by decide +kernel
theorem dX12_fact_20 : decode cX12_fact 20 = .ok (.ifCond .eq 23, 3) := by decide +kernel
theorem dX12_fact_23 : decode cX12_fact 23 = .ok (.aload_n 0, 1) := by decide +kernel
theorem dX12_fact_24 : decode cX12_fact 24 = .ok (.bipush 11, 2) := by decide +kernel
theorem dX12_fact_26 : decode cX12_fact 26 = .ok (.invokevirtual 184, 3) := by decide +kernel
theorem dX12_fact_29 : decode cX12_fact 29 = .ok (.ifCond .ne 5, 3) := by decide +kernel
theorem dX12_fact_32 : decode cX12_fact 32 = .ok (.iconst 0, 1) := by decide +kernel
theorem dX12_fact_33 : decode cX12_fact 33 = .ok (.ireturn, 1) := by decide +kernel
theorem dX12_fact_34 : decode cX12_fact 34 = .ok (.aload_n 0, 1) := by decide +kernel
theorem dX12_fact_35 : decode cX12_fact 35 = .ok (.invokevirtual 105, 3) := by decide +kernel
theorem dX12_fact_38 : decode cX12_fact 38 = .ok (.iconst 1, 1) := by decide +kernel
theorem dX12_fact_39 : decode cX12_fact 39 = .ok (.istore_n 1, 1) := by decide +kernel
theorem dX12_fact_40 : decode cX12_fact 40 = .ok (.goto 32, 3) := by decide +kernel
theorem dX12_fact_43 : decode cX12_fact 43 = .ok (.iload_n 2, 1) := by decide +kernel
theorem dX12_fact_44 : decode cX12_fact 44 = .ok (.bipush 91, 2) := by decide +kernel
theorem dX12_fact_46 : decode cX12_fact 46 = .ok (.if_icmp .ne 26, 3) := by decide +kernel
theorem dX12_fact_49 : decode cX12_fact 49 = .ok (.aload_n 0, 1) := by decide +kernel
theorem dX12_fact_50 : decode cX12_fact 50 = .ok (.bipush 91, 2) := by decide +kernel
theorem dX12_fact_52 : decode cX12_fact 52 = .ok (.invokevirtual 184, 3) := by decide +kernel
theorem dX12_fact_55 : decode cX12_fact 55 = .ok (.ifCond .ne 5, 3) := by decide +kernel
theorem dX12_fact_58 : decode cX12_fact 58 = .ok (.iconst 0, 1) := by decide +kernel
theorem dX12_fact_59 : decode cX12_fact 59 = .ok (.ireturn, 1) := by decide +kernel
theorem dX12_fact_60 : decode cX12_fact 60 = .ok (.aload_n 0, 1) := by decide +kernel
theorem dX12_fact_61 : decode cX12_fact 61 = .ok (.dup, 1) := by decide +kernel
theorem dX12_fact_62 : decode cX12_fact 62 = .ok (.getfield 90, 3) := by decide +kernel
theorem dX12_fact_65 : decode cX12_fact 65 = .ok (.iconst 1, 1) := by decide +kernel
theorem dX12_fact_66 : decode cX12_fact 66 = .ok (.iadd, 1) := by decide +kernel
theorem dX12_fact_67 : decode cX12_fact 67 = .ok (.putfield 90, 3) := by decide +kernel
theorem dX12_fact_70 : decode cX12_fact 70 = .ok (.iconst 1, 1) := by decide +kernel
theorem dX12_fact_71 : decode cX12_fact 71 = .ok (.istore_n 1, 1) := by decide +kernel
theorem dX12_fact_72 : decode cX12_fact 72 = .ok (.goto (-70), 3) := by decide +kernel
theorem dX12_fact_75 : decode cX12_fact 75 = .ok (.aload_n 0, 1) := by decide +kernel
theorem dX12_fact_76 : decode cX12_fact 76 = .ok (.invokevirtual 187, 3) := by decide +kernel
theorem dX12_fact_79 : decode cX12_fact 79 = .ok (.ireturn, 1) := by decide +kernel
def wp_X12_fact_72 (S : Sh) (k2 : Int → Int → Mm → Prop) (post : Int → Mm → Prop) (u0 : Int) (u1 : Int) (M : Mm) : Prop := k2 u0 u1 M
def wp_X12_fact_2 (S : Sh) (post : Int → Mm → Prop) : Nat → Int → Int → Mm → Prop
  | 0, _, _, _ => False
  | n + 1, u0, u1, M => wIf (u1 = 0) (isK S u0 12 ∧ (wp_X12_compare S M u0 <| fun v2 M1 => (v2 = 0 ∨ v2 = 1) ∧ post v2 M1)) (wC 0 fun v4 => isK S u0 12 ∧ (wp_X12_see S M u0 <| fun v7 M6 => wC 7237492 fun v9 => isK S u0 12 ∧ (wp_X12_isWord S M6 u0 v9 <| fun v12 M11 => wIf (v12 = 0) (wC 91 fun v14 => wIf (¬ v7 = v14) (wp_X12_fact_72 S (fun a0 a1 M => wp_X12_fact_2 S post n a0 a1 M) post u0 v4 M11) (wC 91 fun v16 => isK S u0 12 ∧ (wp_X12_opens S M11 u0 v16 <| fun v19 M18 => wIf (¬ v19 = 0) (wGet S M18 u0 12 8 fun v21 => wC 1 fun v23 => wA v21 v23 fun v25 => wPut S M18 u0 12 8 v25 fun M27 => wC 1 fun v28 => wp_X12_fact_72 S (fun a0 a1 M => wp_X12_fact_2 S post n a0 a1 M) post u0 v28 M27) (wC 0 fun v30 => (v30 = 0 ∨ v30 = 1) ∧ post v30 M18)))) (wC 11 fun v32 => isK S u0 12 ∧ (wp_X12_opens S M11 u0 v32 <| fun v35 M34 => wIf (¬ v35 = 0) (isK S u0 12 ∧ (wp_X12_passWord S M34 u0 <| fun M37 => wC 1 fun v38 => wp_X12_fact_72 S (fun a0 a1 M => wp_X12_fact_2 S post n a0 a1 M) post u0 v38 M37)) (wC 0 fun v40 => (v40 = 0 ∨ v40 = 1) ∧ post v40 M34))))))
def wp_X12_fact (S : Sh) (M : Mm) (u0 : Int) (post : Int → Mm → Prop) : Prop := wC 1 fun v42 => ∃ n9 : Nat, wp_X12_fact_2 S post n9 u0 v42 M
set_option maxHeartbeats 4000000 in
set_option maxRecDepth 100000 in
theorem t_X12_fact_72 {p : Program} {l : Launch} {e : Env} {s : State} {m : MethodId} {args : Array Value} {below : List Frame} {meth : Method} {c : Code} {D : va_G} {G : Gt} {S : Sh} {post : Int → Mm → Prop} {k2 : Int → Int → Mm → Prop} (C : Cx p s m args meth c D G cX12_fact 3 (some .boolean) (cw_X12_fact :: gw) RX12) (hk2 : ∀ (y0 : Int) (y1 : Int32) (M : Mm) (H : Heap) (locs : List Loc) (ls : Array Slot), Wd D G S M H → va_S (aG G) s.heap H locs → lv_has ls 3 [(0, .ref (adr G y0)), (1, .int y1)] → k2 y0 y1.toInt M → W p l e RM_X12_fact s m args below meth c H locs 0 0 (MQ below (QI D G S post) args s 0 0 (aG G)) (F0 m 2 ls [])) : ∀ (xl0 : Int) (zl1 : Int32) (M : Mm) (H : Heap) (locs : List Loc) (ls : Array Slot), Wd D G S M H → va_S (aG G) s.heap H locs → lv_has ls 3 [(0, .ref (adr G xl0)), (1, .int zl1)] → wp_X12_fact_72 S k2 post xl0 zl1.toInt  M → W p l e RM_X12_fact s m args below meth c H locs 0 0 (MQ below (QI D G S post) args s 0 0 (aG G)) (F0 m 72 ls []) := by
  obtain ⟨hx, hb, hr, hlocks, hml, hown, hts, hK⟩ := id C
  intro xl0 zl1 M H locs ls hP hS hl h
  unfold wp_X12_fact_72 at h
  refine lv_goto (tgt := 2) hx hb dX12_fact_72 (by decide) ?_
  exact hk2 xl0 zl1 _ _ _ _ hP hS (lv_sub hl [0, 1] rfl) h
set_option maxHeartbeats 4000000 in
set_option maxRecDepth 100000 in
theorem t_X12_fact_2 {p : Program} {l : Launch} {e : Env} {s : State} {m : MethodId} {args : Array Value} {below : List Frame} {meth : Method} {c : Code} {D : va_G} {G : Gt} {S : Sh} {post : Int → Mm → Prop} (C : Cx p s m args meth c D G cX12_fact 3 (some .boolean) (cw_X12_fact :: gw) RX12) : ∀ (n : Nat) (xl0 : Int) (zl1 : Int32) (M : Mm) (H : Heap) (locs : List Loc) (ls : Array Slot), Wd D G S M H → va_S (aG G) s.heap H locs → lv_has ls 3 [(0, .ref (adr G xl0)), (1, .int zl1)] → wp_X12_fact_2 S post n xl0 zl1.toInt  M → W p l e RM_X12_fact s m args below meth c H locs 0 0 (MQ below (QI D G S post) args s 0 0 (aG G)) (F0 m 2 ls []) := by
  obtain ⟨hx, hb, hr, hlocks, hml, hown, hts, hK⟩ := id C
  intro n
  induction n with
  | zero => intro xl0 zl1 M H locs ls hP hS hl h; exact h.elim
  | succ n ih =>
    intro xl0 zl1 M H locs ls hP hS hl h
    unfold wp_X12_fact_2 at h
    refine lv_iload_n hx hb dX12_fact_2 rfl (lv_at hl 1 rfl) ?_
    refine r_if_eq (tgt := 75) hx hb dX12_fact_3 (by decide) h (fun h => ?_) (fun h => ?_)
    · refine lv_aload_n hx hb dX12_fact_75 rfl (lv_at hl 0 rfl) ?_
      refine q_Vi hx hb hml hown hts hK hP hS (c_X12_compare l D G S _ xl0 _ h.2) ⟨callB_of 0 hts (gw_good kw_1608) rfl rfl rfl (hts _ (List.mem_cons_of_mem _ kw_14)) (hts _ (List.mem_cons_of_mem _ kw_1605)) hd_X12_compare ⟨Nat.le_of_ble_eq_true rfl, Nat.le_of_ble_eq_true rfl⟩, (hts _ (List.mem_cons_of_mem _ kw_1607)), (hts _ (List.mem_cons_of_mem _ kp_82))⟩ h.1 (ci := 12) rfl (by decide) rfl hl.1 rfl (lv_room (Nat.le_of_ble_eq_true rfl)) dX12_fact_76 ⟨Nat.zero_le _, Nat.zero_le _⟩ (fun z3 M1 H locs h hP hS => ?_)
      exact r_zret hx hb hr hlocks hP hS dX12_fact_79 h
    · refine r_iconst hx hb dX12_fact_6 (by decide) h (fun z5 h => ?_)
      refine lv_istore_n (lv' := [(1, .int z5), (0, .ref (adr G xl0))]) hx hb dX12_fact_7 rfl hl (by decide) rfl (fun ls hl => ?_)
      refine lv_aload_n hx hb dX12_fact_8 rfl (lv_at hl 1 rfl) ?_
      refine q_Vi hx hb hml hown hts hK hP hS (c_X12_see l D G S _ xl0 _ h.2) ⟨callB_of 0 hts (gw_good kw_1477) rfl rfl rfl (hts _ (List.mem_cons_of_mem _ kw_14)) (hts _ (List.mem_cons_of_mem _ kw_1474)) hd_X12_see ⟨Nat.le_of_ble_eq_true rfl, Nat.le_of_ble_eq_true rfl⟩, (hts _ (List.mem_cons_of_mem _ kw_1476)), (hts _ (List.mem_cons_of_mem _ kp_54))⟩ h.1 (ci := 12) rfl (by decide) rfl hl.1 rfl (lv_room (Nat.le_of_ble_eq_true rfl)) dX12_fact_9 ⟨Nat.zero_le _, Nat.zero_le _⟩ (fun z8 M6 H locs h hP hS => ?_)
      refine lv_istore_n (lv' := [(2, .int z8), (1, .int z5), (0, .ref (adr G xl0))]) hx hb dX12_fact_12 rfl hl (by decide) rfl (fun ls hl => ?_)
      refine lv_aload_n hx hb dX12_fact_13 rfl (lv_at hl 2 rfl) ?_
      refine r_ldc2 hx hb hown (hts _ (List.mem_cons_of_mem _ kw_1600)) dX12_fact_14 (n := 7237492) (by decide) h (fun z10 h => ?_)
      refine q_Vi hx hb hml hown hts hK hP hS (c_X12_isWord l D G S _ xl0 z10 _ h.2) ⟨callB_of 1 hts (gw_good kw_1486) rfl rfl rfl (hts _ (List.mem_cons_of_mem _ kw_14)) (hts _ (List.mem_cons_of_mem _ kw_1483)) hd_X12_isWord ⟨Nat.le_of_ble_eq_true rfl, Nat.le_of_ble_eq_true rfl⟩, (hts _ (List.mem_cons_of_mem _ kw_1485)), (hts _ (List.mem_cons_of_mem _ kp_56))⟩ h.1 (ci := 12) rfl (by decide) rfl hl.1 rfl (lv_room (Nat.le_of_ble_eq_true rfl)) dX12_fact_17 ⟨Nat.zero_le _, Nat.zero_le _⟩ (fun z13 M11 H locs h hP hS => ?_)
      refine r_if_eq (tgt := 43) hx hb dX12_fact_20 (by decide) h (fun h => ?_) (fun h => ?_)
      · refine lv_iload_n hx hb dX12_fact_43 rfl (lv_at hl 0 rfl) ?_
        refine r_bipush hx hb dX12_fact_44 (by decide) h (fun z15 h => ?_)
        refine r_icmp_ne (tgt := 72) hx hb dX12_fact_46 (by decide) h (fun h => ?_) (fun h => ?_)
        · exact t_X12_fact_72 C ih xl0 z5 _ _ _ _ hP hS (lv_sub hl [2, 1] rfl) h
        · refine lv_aload_n hx hb dX12_fact_49 rfl (lv_at hl 2 rfl) ?_
          refine r_bipush hx hb dX12_fact_50 (by decide) h (fun z17 h => ?_)
          refine q_Vi hx hb hml hown hts hK hP hS (c_X12_opens l D G S _ xl0 z17 _ h.2) ⟨callB_of 1 hts (gw_good kw_1604) rfl rfl rfl (hts _ (List.mem_cons_of_mem _ kw_14)) (hts _ (List.mem_cons_of_mem _ kw_1601)) hd_X12_opens ⟨Nat.le_of_ble_eq_true rfl, Nat.le_of_ble_eq_true rfl⟩, (hts _ (List.mem_cons_of_mem _ kw_1603)), (hts _ (List.mem_cons_of_mem _ kp_81))⟩ h.1 (ci := 12) rfl (by decide) rfl hl.1 rfl (lv_room (Nat.le_of_ble_eq_true rfl)) dX12_fact_52 ⟨Nat.zero_le _, Nat.zero_le _⟩ (fun z20 M18 H locs h hP hS => ?_)
          refine r_if_ne (tgt := 60) hx hb dX12_fact_55 (by decide) h (fun h => ?_) (fun h => ?_)
          · refine lv_aload_n hx hb dX12_fact_60 rfl (lv_at hl 2 rfl) ?_
            refine lv_dup hx hb dX12_fact_61 rfl ?_
            refine r_geti (C := RX12) (T := TX12) (N := 38) hx hb hts (fun w h => List.mem_cons_of_mem _ (iX12 w h)) hown hK hP rfl (by decide) rfl 8 (by decide) (hts _ (List.mem_cons_of_mem _ kw_1342)) (fun _ h9 => h9) dX12_fact_62 (by decide) h (fun z22 h => ?_)
            refine r_iconst hx hb dX12_fact_65 (by decide) h (fun z24 h => ?_)
            refine r_iadd hx hb dX12_fact_66 h (fun z26 h => ?_)
            refine r_puti (C := RX12) (T := TX12) (N := 38) hx hb hts (fun w h => List.mem_cons_of_mem _ (iX12 w h)) hown hK hP tyX12 tyX12_ok nmX12 hS rfl (by decide) rfl 8 (by decide) (hts _ (List.mem_cons_of_mem _ kw_1342)) (fun _ h9 => h9) rfl (tyX12_ok 8 (by decide)) rfl rfl dX12_fact_67 (by decide) h (fun M27 H locs h hP hS => ?_)
            refine r_iconst hx hb dX12_fact_70 (by decide) h (fun z29 h => ?_)
            refine lv_istore_n (lv' := [(1, .int z29), (2, .int z8), (0, .ref (adr G xl0))]) hx hb dX12_fact_71 rfl hl (by decide) rfl (fun ls hl => ?_)
            exact t_X12_fact_72 C ih xl0 z29 _ _ _ _ hP hS (lv_sub hl [2, 0] rfl) h
          · refine r_iconst hx hb dX12_fact_58 (by decide) h (fun z31 h => ?_)
            exact r_zret hx hb hr hlocks hP hS dX12_fact_59 h
      · refine lv_aload_n hx hb dX12_fact_23 rfl (lv_at hl 2 rfl) ?_
        refine r_bipush hx hb dX12_fact_24 (by decide) h (fun z33 h => ?_)
        refine q_Vi hx hb hml hown hts hK hP hS (c_X12_opens l D G S _ xl0 z33 _ h.2) ⟨callB_of 1 hts (gw_good kw_1604) rfl rfl rfl (hts _ (List.mem_cons_of_mem _ kw_14)) (hts _ (List.mem_cons_of_mem _ kw_1601)) hd_X12_opens ⟨Nat.le_of_ble_eq_true rfl, Nat.le_of_ble_eq_true rfl⟩, (hts _ (List.mem_cons_of_mem _ kw_1603)), (hts _ (List.mem_cons_of_mem _ kp_81))⟩ h.1 (ci := 12) rfl (by decide) rfl hl.1 rfl (lv_room (Nat.le_of_ble_eq_true rfl)) dX12_fact_26 ⟨Nat.zero_le _, Nat.zero_le _⟩ (fun z36 M34 H locs h hP hS => ?_)
        refine r_if_ne (tgt := 34) hx hb dX12_fact_29 (by decide) h (fun h => ?_) (fun h => ?_)
        · refine lv_aload_n hx hb dX12_fact_34 rfl (lv_at hl 2 rfl) ?_
          refine q_Vv hx hb hml hown hts hK hP hS (c_X12_passWord l D G S _ xl0 _ h.2) ⟨callB_of 0 hts (gw_good kw_1512) rfl rfl rfl (hts _ (List.mem_cons_of_mem _ kw_14)) (hts _ (List.mem_cons_of_mem _ kw_1509)) hd_X12_passWord ⟨Nat.le_of_ble_eq_true rfl, Nat.le_of_ble_eq_true rfl⟩, (hts _ (List.mem_cons_of_mem _ kw_1511)), (hts _ (List.mem_cons_of_mem _ kp_61))⟩ h.1 (ci := 12) rfl (by decide) rfl hl.1 rfl (lv_room (Nat.le_of_ble_eq_true rfl)) dX12_fact_35 ⟨Nat.zero_le _, Nat.zero_le _⟩ (fun M37 H locs h hP hS => ?_)
          refine r_iconst hx hb dX12_fact_38 (by decide) h (fun z39 h => ?_)
          refine lv_istore_n (lv' := [(1, .int z39), (2, .int z8), (0, .ref (adr G xl0))]) hx hb dX12_fact_39 rfl hl (by decide) rfl (fun ls hl => ?_)
          refine lv_goto (tgt := 72) hx hb dX12_fact_40 (by decide) ?_
          exact t_X12_fact_72 C ih xl0 z39 _ _ _ _ hP hS (lv_sub hl [2, 0] rfl) h
        · refine r_iconst hx hb dX12_fact_32 (by decide) h (fun z41 h => ?_)
          exact r_zret hx hb hr hlocks hP hS dX12_fact_33 h
set_option maxHeartbeats 4000000 in
set_option maxRecDepth 100000 in
theorem c_X12_fact (l : Launch) (D : va_G) (G : Gt) (S : Sh) (M : Mm) (xl0 : Int) (post : Int → Mm → Prop) (h : wp_X12_fact S M xl0 post) : Met l yX12_fact (cw_X12_fact :: gw) RM_X12_fact (va_Pc [.ref (adr G xl0)] (fun U => KN D G U ∧ Wd D G S M U.heap)) (QI D G S post) 0 0 (aG G) := by
  refine Met.ofW (cc := cX12_fact) (maxL := 3) (ret := (some .boolean)) (by decide) rfl ?_
  intro p e s m args below meth c s₁ B hml hv
  obtain ⟨rfl, hK, hP⟩ := hv
  have hx := B.exec
  have hb := B.bytes
  have hr := B.returns
  have hts := atoms_spec (ws := cw_X12_fact :: gw) B.pre
  have hown : s.vm.findClass RX12 = some m.cls := findClass_of_methodNamed B.named
  have hlocks := B.notSynchronized
  have hS : va_S (aG G) s.heap s.heap [] := va_S.rf
  have C : Cx p s m ([.ref (adr G xl0)] : List Value).toArray meth c D G cX12_fact 3 (some .boolean) (cw_X12_fact :: gw) RX12 := ⟨hx, hb, hr, hlocks, hml, hown, hts, hK⟩
  have hl := lv_entry ([.ref (adr G xl0)]) (n := 3) (Nat.le_of_ble_eq_true rfl)
  rw [lg_entry_eq]
  generalize (lg_sl ([.ref (adr G xl0)]) ++ List.replicate (3 - (lg_sl ([.ref (adr G xl0)])).length) Slot.unset).toArray = ls at hl ⊢
  have hl : lv_has ls 3 [(0, .ref (adr G xl0))] := hl
  unfold wp_X12_fact at h
  refine r_iconst hx hb dX12_fact_0 (by decide) h (fun z43 h => ?_)
  refine lv_istore_n (lv' := [(1, .int z43), (0, .ref (adr G xl0))]) hx hb dX12_fact_1 rfl hl (by decide) rfl (fun ls hl => ?_)
  obtain ⟨n9, h⟩ := h
  exact t_X12_fact_2 C n9 xl0 z43 _ _ _ _ hP hS (lv_sub hl [1, 0] rfl) h
/-! TurningMilkModel.strength(I)I -/
abbrev RM_X12_strength : Room := { frames := 1, cells := 0, slots := 0, locals := 40 }
def cw_X12_strength : Cond := Cond.code yX12_strength cX12_strength 1 (Option.some FieldType.int)
theorem hd_X12_strength : yX12_strength.cls ≠ "java/lang/invoke/MethodHandle" ∧ yX12_strength.cls ≠ "java/lang/invoke/VarHandle" ∧ (parseMethodDescriptor yX12_strength.desc).map (fun d => d.parameters.length) = some 1 := by decide +kernel
theorem dX12_strength_0 : decode cX12_strength 0 = .ok (.iload_n 0, 1) := by decide +kernel
theorem dX12_strength_1 : decode cX12_strength 1 = .ok (.bipush 13, 2) := by decide +kernel
theorem dX12_strength_3 : decode cX12_strength 3 = .ok (.if_icmp .ne 7, 3) := by decide +kernel
theorem dX12_strength_6 : decode cX12_strength 6 = .ok (.iconst 1, 1) := by decide +kernel
theorem dX12_strength_7 : decode cX12_strength 7 = .ok (.goto 24, 3) := by decide +kernel
theorem dX12_strength_10 : decode cX12_strength 10 = .ok (.iload_n 0, 1) := by decide +kernel
theorem dX12_strength_11 : decode cX12_strength 11 = .ok (.bipush 12, 2) := by decide +kernel
theorem dX12_strength_13 : decode cX12_strength 13 = .ok (.if_icmp .ne 7, 3) := by decide +kernel
theorem dX12_strength_16 : decode cX12_strength 16 = .ok (.iconst 2, 1) := by decide +kernel
theorem dX12_strength_17 : decode cX12_strength 17 = .ok (.goto 14, 3) := by decide +kernel
theorem dX12_strength_20 : decode cX12_strength 20 = .ok (.iload_n 0, 1) := by decide +kernel
theorem dX12_strength_21 : decode cX12_strength 21 = .ok (.bipush 11, 2) := by decide +kernel
theorem dX12_strength_23 : decode cX12_strength 23 = .ok (.if_icmp .ne 7, 3) := by decide +kernel
theorem dX12_strength_26 : decode cX12_strength 26 = .ok (.iconst 3, 1) := by decide +kernel
theorem dX12_strength_27 : decode cX12_strength 27 = .ok (.goto 4, 3) := by decide +kernel
theorem dX12_strength_30 : decode cX12_strength 30 = .ok (.iconst 0, 1) := by decide +kernel
theorem dX12_strength_31 : decode cX12_strength 31 = .ok (.ireturn, 1) := by decide +kernel
def wp_X12_strength (S : Sh) (M : Mm) (u0 : Int) (post : Int → Mm → Prop) : Prop := wC 13 fun v1 => wIf (¬ u0 = v1) (wC 12 fun v3 => wIf (¬ u0 = v3) (wC 11 fun v5 => wIf (¬ u0 = v5) (wC 0 fun v7 => post v7 M) (wC 3 fun v9 => post v9 M)) (wC 2 fun v11 => post v11 M)) (wC 1 fun v13 => post v13 M)
set_option maxHeartbeats 4000000 in
set_option maxRecDepth 100000 in
theorem c_X12_strength (l : Launch) (D : va_G) (G : Gt) (S : Sh) (M : Mm) (zl0 : Int32) (post : Int → Mm → Prop) (h : wp_X12_strength S M zl0.toInt post) : Met l yX12_strength (cw_X12_strength :: gw) RM_X12_strength (va_Pc [.int zl0] (fun U => KN D G U ∧ Wd D G S M U.heap)) (QI D G S post) 0 0 (aG G) := by
  refine Met.ofW (cc := cX12_strength) (maxL := 1) (ret := (some .int)) (by decide) rfl ?_
  intro p e s m args below meth c s₁ B hml hv
  obtain ⟨rfl, hK, hP⟩ := hv
  have hx := B.exec
  have hb := B.bytes
  have hr := B.returns
  have hts := atoms_spec (ws := cw_X12_strength :: gw) B.pre
  have hown : s.vm.findClass RX12 = some m.cls := findClass_of_methodNamed B.named
  have hlocks := B.notSynchronized
  have hS : va_S (aG G) s.heap s.heap [] := va_S.rf
  have C : Cx p s m ([.int zl0] : List Value).toArray meth c D G cX12_strength 1 (some .int) (cw_X12_strength :: gw) RX12 := ⟨hx, hb, hr, hlocks, hml, hown, hts, hK⟩
  have hl := lv_entry ([.int zl0]) (n := 1) (Nat.le_of_ble_eq_true rfl)
  rw [lg_entry_eq]
  generalize (lg_sl ([.int zl0]) ++ List.replicate (1 - (lg_sl ([.int zl0])).length) Slot.unset).toArray = ls at hl ⊢
  have hl : lv_has ls 1 [(0, .int zl0)] := hl
  unfold wp_X12_strength at h
  refine lv_iload_n hx hb dX12_strength_0 rfl (lv_at hl 0 rfl) ?_
  refine r_bipush hx hb dX12_strength_1 (by decide) h (fun z2 h => ?_)
  refine r_icmp_ne (tgt := 10) hx hb dX12_strength_3 (by decide) h (fun h => ?_) (fun h => ?_)
  · refine lv_iload_n hx hb dX12_strength_10 rfl (lv_at hl 0 rfl) ?_
    refine r_bipush hx hb dX12_strength_11 (by decide) h (fun z4 h => ?_)
    refine r_icmp_ne (tgt := 20) hx hb dX12_strength_13 (by decide) h (fun h => ?_) (fun h => ?_)
    · refine lv_iload_n hx hb dX12_strength_20 rfl (lv_at hl 0 rfl) ?_
      refine r_bipush hx hb dX12_strength_21 (by decide) h (fun z6 h => ?_)
      refine r_icmp_ne (tgt := 30) hx hb dX12_strength_23 (by decide) h (fun h => ?_) (fun h => ?_)
      · refine r_iconst hx hb dX12_strength_30 (by decide) h (fun z8 h => ?_)
        exact r_iret hx hb hr hlocks hP hS dX12_strength_31 h
      · refine r_iconst hx hb dX12_strength_26 (by decide) h (fun z10 h => ?_)
        refine lv_goto (tgt := 31) hx hb dX12_strength_27 (by decide) ?_
        exact r_iret hx hb hr hlocks hP hS dX12_strength_31 h
    · refine r_iconst hx hb dX12_strength_16 (by decide) h (fun z12 h => ?_)
      refine lv_goto (tgt := 31) hx hb dX12_strength_17 (by decide) ?_
      exact r_iret hx hb hr hlocks hP hS dX12_strength_31 h
  · refine r_iconst hx hb dX12_strength_6 (by decide) h (fun z14 h => ?_)
    refine lv_goto (tgt := 31) hx hb dX12_strength_7 (by decide) ?_
    exact r_iret hx hb hr hlocks hP hS dX12_strength_31 h
/-! TurningMilkModel.settles(I)V -/
abbrev RM_X12_settles : Room := { frames := 2, cells := 0, slots := 0, locals := 62 }
def cw_X12_settles : Cond := Cond.code yX12_settles cX12_settles 2 (Option.none : Option FieldType)
theorem hd_X12_settles : yX12_settles.cls ≠ "java/lang/invoke/MethodHandle" ∧ yX12_settles.cls ≠ "java/lang/invoke/VarHandle" ∧ (parseMethodDescriptor yX12_settles.desc).map (fun d => d.parameters.length) = some 1 := by decide +kernel
theorem dX12_settles_0 : decode cX12_settles 0 = .ok (.aload_n 0, 1) := by decide +kernel
theorem dX12_settles_1 : decode cX12_settles 1 = .ok (.getfield 151, 3) := by decide +kernel
theorem dX12_settles_4 : decode cX12_settles 4 = .ok (.ifCond .le 72, 3) := by decide +kernel
theorem dX12_settles_7 : decode cX12_settles 7 = .ok (.aload_n 0, 1) := by decide +kernel
theorem dX12_settles_8 : decode cX12_settles 8 = .ok (.getfield 29, 3) := by decide +kernel
theorem dX12_settles_11 : decode cX12_settles 11 = .ok (.aload_n 0, 1) := by decide +kernel
theorem dX12_settles_12 : decode cX12_settles 12 = .ok (.getfield 151, 3) := by decide +kernel
theorem dX12_settles_15 : decode cX12_settles 15 = .ok (.iconst 1, 1) := by decide +kernel
theorem dX12_settles_16 : decode cX12_settles 16 = .ok (.isub, 1) := by decide +kernel
theorem dX12_settles_17 : decode cX12_settles 17 = .ok (.iaload, 1) := by decide +kernel
theorem dX12_settles_18 : decode cX12_settles 18 = .ok (.invokestatic 154, 3) := by decide +kernel
theorem dX12_settles_21 : decode cX12_settles 21 = .ok (.iload_n 1, 1) := by decide +kernel
theorem dX12_settles_22 : decode cX12_settles 22 = .ok (.if_icmp .lt 54, 3) := by decide +kernel
theorem dX12_settles_25 : decode cX12_settles 25 = .ok (.aload_n 0, 1) := by decide +kernel
theorem dX12_settles_26 : decode cX12_settles 26 = .ok (.dup, 1) := by decide +kernel
theorem dX12_settles_27 : decode cX12_settles 27 = .ok (.getfield 151, 3) := by decide +kernel
theorem dX12_settles_30 : decode cX12_settles 30 = .ok (.iconst 1, 1) := by decide +kernel
theorem dX12_settles_31 : decode cX12_settles 31 = .ok (.isub, 1) := by decide +kernel
theorem dX12_settles_32 : decode cX12_settles 32 = .ok (.putfield 151, 3) := by decide +kernel
theorem dX12_settles_35 : decode cX12_settles 35 = .ok (.aload_n 0, 1) := by decide +kernel
theorem dX12_settles_36 : decode cX12_settles 36 = .ok (.aload_n 0, 1) := by decide +kernel
theorem dX12_settles_37 : decode cX12_settles 37 = .ok (.getfield 29, 3) := by decide +kernel
theorem dX12_settles_40 : decode cX12_settles 40 = .ok (.aload_n 0, 1) := by decide +kernel
theorem dX12_settles_41 : decode cX12_settles 41 = .ok (.getfield 151, 3) := by decide +kernel
theorem dX12_settles_44 : decode cX12_settles 44 = .ok (.iaload, 1) := by decide +kernel
theorem dX12_settles_45 : decode cX12_settles 45 = .ok (.iconst 0, 1) := by decide +kernel
theorem dX12_settles_46 : decode cX12_settles 46 = .ok (.invokevirtual 158, 3) := by decide +kernel
theorem dX12_settles_49 : decode cX12_settles 49 = .ok (.aload_n 0, 1) := by decide +kernel
theorem dX12_settles_50 : decode cX12_settles 50 = .ok (.getfield 29, 3) := by decide +kernel
theorem dX12_settles_53 : decode cX12_settles 53 = .ok (.aload_n 0, 1) := by decide +kernel
theorem dX12_settles_54 : decode cX12_settles 54 = .ok (.getfield 151, 3) := by decide +kernel
theorem dX12_settles_57 : decode cX12_settles 57 = .ok (.iaload, 1) := by decide +kernel
theorem dX12_settles_58 : decode cX12_settles 58 = .ok (.bipush 11, 2) := by decide +kernel
theorem dX12_settles_60 : decode cX12_settles 60 = .ok (.if_icmp .ne (-60), 3) := by decide +kernel
theorem dX12_settles_63 : decode cX12_settles 63 = .ok (.aload_n 0, 1) := by decide +kernel
theorem dX12_settles_64 : decode cX12_settles 64 = .ok (.dup, 1) := by decide +kernel
theorem dX12_settles_65 : decode cX12_settles 65 = .ok (.getfield 148, 3) := by decide +kernel
theorem dX12_settles_68 : decode cX12_settles 68 = .ok (.iconst 1, 1) := by decide +kernel
theorem dX12_settles_69 : decode cX12_settles 69 = .ok (.isub, 1) := by decide +kernel
theorem dX12_settles_70 : decode cX12_settles 70 = .ok (.putfield 148, 3) := by decide +kernel
theorem dX12_settles_73 : decode cX12_settles 73 = .ok (.goto (-73), 3) := by decide +kernel
theorem dX12_settles_76 : decode cX12_settles 76 = .ok (.return_, 1) := by decide +kernel
def wp_X12_settles_0 (S : Sh) (post : Mm → Prop) : Nat → Int → Int → Mm → Prop
  | 0, _, _, _ => False
  | n + 1, u0, u1, M => wGet S M u0 12 16 fun v1 => wIf (v1 ≤ 0) (post M) (wGetR S M u0 12 15 fun v3 => wGet S M u0 12 16 fun v5 => wC 1 fun v7 => wS v5 v7 fun v9 => wLd S M v3 14 v9 fun v11 => wp_X12_strength S M v11 <| fun v14 M13 => wIf (v14 < u1) (post M13) (wGet S M13 u0 12 16 fun v16 => wC 1 fun v18 => wS v16 v18 fun v20 => wPut S M13 u0 12 16 v20 fun M22 => wGetR S M22 u0 12 15 fun v23 => wGet S M22 u0 12 16 fun v25 => wLd S M22 v23 14 v25 fun v27 => wC 0 fun v29 => isK S u0 12 ∧ (wp_X12_puts S M22 u0 v27 v29 <| fun M31 => wGetR S M31 u0 12 15 fun v32 => wGet S M31 u0 12 16 fun v34 => wLd S M31 v32 14 v34 fun v36 => wC 11 fun v38 => wIf (¬ v36 = v38) (wp_X12_settles_0 S post n u0 u1 M31) (wGet S M31 u0 12 13 fun v40 => wC 1 fun v42 => wS v40 v42 fun v44 => wPut S M31 u0 12 13 v44 fun M46 => wp_X12_settles_0 S post n u0 u1 M46))))
def wp_X12_settles (S : Sh) (M : Mm) (u0 : Int) (u1 : Int) (post : Mm → Prop) : Prop := ∃ n9 : Nat, wp_X12_settles_0 S post n9 u0 u1 M
set_option maxHeartbeats 4000000 in
set_option maxRecDepth 100000 in
theorem t_X12_settles_0 {p : Program} {l : Launch} {e : Env} {s : State} {m : MethodId} {args : Array Value} {below : List Frame} {meth : Method} {c : Code} {D : va_G} {G : Gt} {S : Sh} {post : Mm → Prop} (C : Cx p s m args meth c D G cX12_settles 2 none (cw_X12_settles :: gw) RX12) : ∀ (n : Nat) (xl0 : Int) (zl1 : Int32) (M : Mm) (H : Heap) (locs : List Loc) (ls : Array Slot), Wd D G S M H → va_S (aG G) s.heap H locs → lv_has ls 2 [(0, .ref (adr G xl0)), (1, .int zl1)] → wp_X12_settles_0 S post n xl0 zl1.toInt  M → W p l e RM_X12_settles s m args below meth c H locs 0 0 (MQ below (QV D G S post) args s 0 0 (aG G)) (F0 m 0 ls []) := by
  obtain ⟨hx, hb, hr, hlocks, hml, hown, hts, hK⟩ := id C
  intro n
  induction n with
  | zero => intro xl0 zl1 M H locs ls hP hS hl h; exact h.elim
  | succ n ih =>
    intro xl0 zl1 M H locs ls hP hS hl h
    unfold wp_X12_settles_0 at h
    refine lv_aload_n hx hb dX12_settles_0 rfl (lv_at hl 0 rfl) ?_
    refine r_geti (C := RX12) (T := TX12) (N := 38) hx hb hts (fun w h => List.mem_cons_of_mem _ (iX12 w h)) hown hK hP rfl (by decide) rfl 16 (by decide) (hts _ (List.mem_cons_of_mem _ kw_1350)) (fun _ h9 => h9) dX12_settles_1 (by decide) h (fun z2 h => ?_)
    refine r_if_le (tgt := 76) hx hb dX12_settles_4 (by decide) h (fun h => ?_) (fun h => ?_)
    · exact r_vret hx hb hr hlocks hP hS dX12_settles_76 h
    · refine lv_aload_n hx hb dX12_settles_7 rfl (lv_at hl 0 rfl) ?_
      refine r_getr (C := RX12) (T := TX12) (N := 38) hx hb hts (fun w h => List.mem_cons_of_mem _ (iX12 w h)) hown hK hP rfl (by decide) rfl 15 (by decide) (hts _ (List.mem_cons_of_mem _ kw_1349)) (fun _ h9 => h9) dX12_settles_8 (by decide) h (fun x4 h => ?_)
      refine lv_aload_n hx hb dX12_settles_11 rfl (lv_at hl 0 rfl) ?_
      refine r_geti (C := RX12) (T := TX12) (N := 38) hx hb hts (fun w h => List.mem_cons_of_mem _ (iX12 w h)) hown hK hP rfl (by decide) rfl 16 (by decide) (hts _ (List.mem_cons_of_mem _ kw_1350)) (fun _ h9 => h9) dX12_settles_12 (by decide) h (fun z6 h => ?_)
      refine r_iconst hx hb dX12_settles_15 (by decide) h (fun z8 h => ?_)
      refine r_isub hx hb dX12_settles_16 h (fun z10 h => ?_)
      refine r_iald hx hb hK hP dX12_settles_17 h (fun z12 h => ?_)
      refine q_Si hx hb hml hown hts hK hP hS (c_X12_strength l D G S _ z12 _ h) ⟨callB_of 1 hts (gw_good kw_1619) rfl rfl rfl (hts _ (List.mem_cons_of_mem _ kw_14)) (hts _ (List.mem_cons_of_mem _ kw_1617)) hd_X12_strength ⟨Nat.le_of_ble_eq_true rfl, Nat.le_of_ble_eq_true rfl⟩, (hts _ (List.mem_cons_of_mem _ kw_1618))⟩ rfl hl.1 rfl (lv_room (Nat.le_of_ble_eq_true rfl)) dX12_settles_18 ⟨Nat.zero_le _, Nat.zero_le _⟩ (fun z15 M13 H locs h hP hS => ?_)
      refine lv_iload_n hx hb dX12_settles_21 rfl (lv_at hl 1 rfl) ?_
      refine r_icmp_lt (tgt := 76) hx hb dX12_settles_22 (by decide) h (fun h => ?_) (fun h => ?_)
      · exact r_vret hx hb hr hlocks hP hS dX12_settles_76 h
      · refine lv_aload_n hx hb dX12_settles_25 rfl (lv_at hl 0 rfl) ?_
        refine lv_dup hx hb dX12_settles_26 rfl ?_
        refine r_geti (C := RX12) (T := TX12) (N := 38) hx hb hts (fun w h => List.mem_cons_of_mem _ (iX12 w h)) hown hK hP rfl (by decide) rfl 16 (by decide) (hts _ (List.mem_cons_of_mem _ kw_1350)) (fun _ h9 => h9) dX12_settles_27 (by decide) h (fun z17 h => ?_)
        refine r_iconst hx hb dX12_settles_30 (by decide) h (fun z19 h => ?_)
        refine r_isub hx hb dX12_settles_31 h (fun z21 h => ?_)
        refine r_puti (C := RX12) (T := TX12) (N := 38) hx hb hts (fun w h => List.mem_cons_of_mem _ (iX12 w h)) hown hK hP tyX12 tyX12_ok nmX12 hS rfl (by decide) rfl 16 (by decide) (hts _ (List.mem_cons_of_mem _ kw_1350)) (fun _ h9 => h9) rfl (tyX12_ok 16 (by decide)) rfl rfl dX12_settles_32 (by decide) h (fun M22 H locs h hP hS => ?_)
        refine lv_aload_n hx hb dX12_settles_35 rfl (lv_at hl 0 rfl) ?_
        refine lv_aload_n hx hb dX12_settles_36 rfl (lv_at hl 0 rfl) ?_
        refine r_getr (C := RX12) (T := TX12) (N := 38) hx hb hts (fun w h => List.mem_cons_of_mem _ (iX12 w h)) hown hK hP rfl (by decide) rfl 15 (by decide) (hts _ (List.mem_cons_of_mem _ kw_1349)) (fun _ h9 => h9) dX12_settles_37 (by decide) h (fun x24 h => ?_)
        refine lv_aload_n hx hb dX12_settles_40 rfl (lv_at hl 0 rfl) ?_
        refine r_geti (C := RX12) (T := TX12) (N := 38) hx hb hts (fun w h => List.mem_cons_of_mem _ (iX12 w h)) hown hK hP rfl (by decide) rfl 16 (by decide) (hts _ (List.mem_cons_of_mem _ kw_1350)) (fun _ h9 => h9) dX12_settles_41 (by decide) h (fun z26 h => ?_)
        refine r_iald hx hb hK hP dX12_settles_44 h (fun z28 h => ?_)
        refine r_iconst hx hb dX12_settles_45 (by decide) h (fun z30 h => ?_)
        refine q_Vv hx hb hml hown hts hK hP hS (c_X12_puts l D G S _ xl0 z28 z30 _ h.2) ⟨callB_of 2 hts (gw_good kw_1576) rfl rfl rfl (hts _ (List.mem_cons_of_mem _ kw_14)) (hts _ (List.mem_cons_of_mem _ kw_1573)) hd_X12_puts ⟨Nat.le_of_ble_eq_true rfl, Nat.le_of_ble_eq_true rfl⟩, (hts _ (List.mem_cons_of_mem _ kw_1575)), (hts _ (List.mem_cons_of_mem _ kp_76))⟩ h.1 (ci := 12) rfl (by decide) rfl hl.1 rfl (lv_room (Nat.le_of_ble_eq_true rfl)) dX12_settles_46 ⟨Nat.zero_le _, Nat.zero_le _⟩ (fun M31 H locs h hP hS => ?_)
        refine lv_aload_n hx hb dX12_settles_49 rfl (lv_at hl 0 rfl) ?_
        refine r_getr (C := RX12) (T := TX12) (N := 38) hx hb hts (fun w h => List.mem_cons_of_mem _ (iX12 w h)) hown hK hP rfl (by decide) rfl 15 (by decide) (hts _ (List.mem_cons_of_mem _ kw_1349)) (fun _ h9 => h9) dX12_settles_50 (by decide) h (fun x33 h => ?_)
        refine lv_aload_n hx hb dX12_settles_53 rfl (lv_at hl 0 rfl) ?_
        refine r_geti (C := RX12) (T := TX12) (N := 38) hx hb hts (fun w h => List.mem_cons_of_mem _ (iX12 w h)) hown hK hP rfl (by decide) rfl 16 (by decide) (hts _ (List.mem_cons_of_mem _ kw_1350)) (fun _ h9 => h9) dX12_settles_54 (by decide) h (fun z35 h => ?_)
        refine r_iald hx hb hK hP dX12_settles_57 h (fun z37 h => ?_)
        refine r_bipush hx hb dX12_settles_58 (by decide) h (fun z39 h => ?_)
        refine r_icmp_ne (tgt := 0) hx hb dX12_settles_60 (by decide) h (fun h => ?_) (fun h => ?_)
        · exact ih xl0 zl1 _ _ _ _ hP hS (lv_sub hl [0, 1] rfl) h
        · refine lv_aload_n hx hb dX12_settles_63 rfl (lv_at hl 0 rfl) ?_
          refine lv_dup hx hb dX12_settles_64 rfl ?_
          refine r_geti (C := RX12) (T := TX12) (N := 38) hx hb hts (fun w h => List.mem_cons_of_mem _ (iX12 w h)) hown hK hP rfl (by decide) rfl 13 (by decide) (hts _ (List.mem_cons_of_mem _ kw_1347)) (fun _ h9 => h9) dX12_settles_65 (by decide) h (fun z41 h => ?_)
          refine r_iconst hx hb dX12_settles_68 (by decide) h (fun z43 h => ?_)
          refine r_isub hx hb dX12_settles_69 h (fun z45 h => ?_)
          refine r_puti (C := RX12) (T := TX12) (N := 38) hx hb hts (fun w h => List.mem_cons_of_mem _ (iX12 w h)) hown hK hP tyX12 tyX12_ok nmX12 hS rfl (by decide) rfl 13 (by decide) (hts _ (List.mem_cons_of_mem _ kw_1347)) (fun _ h9 => h9) rfl (tyX12_ok 13 (by decide)) rfl rfl dX12_settles_70 (by decide) h (fun M46 H locs h hP hS => ?_)
          refine lv_goto (tgt := 0) hx hb dX12_settles_73 (by decide) ?_
          exact ih xl0 zl1 _ _ _ _ hP hS (lv_sub hl [0, 1] rfl) h
set_option maxHeartbeats 4000000 in
set_option maxRecDepth 100000 in
theorem c_X12_settles (l : Launch) (D : va_G) (G : Gt) (S : Sh) (M : Mm) (xl0 : Int) (zl1 : Int32) (post : Mm → Prop) (h : wp_X12_settles S M xl0 zl1.toInt post) : Met l yX12_settles (cw_X12_settles :: gw) RM_X12_settles (va_Pc [.ref (adr G xl0), .int zl1] (fun U => KN D G U ∧ Wd D G S M U.heap)) (QV D G S post) 0 0 (aG G) := by
  refine Met.ofW (cc := cX12_settles) (maxL := 2) (ret := none) (by decide) rfl ?_
  intro p e s m args below meth c s₁ B hml hv
  obtain ⟨rfl, hK, hP⟩ := hv
  have hx := B.exec
  have hb := B.bytes
  have hr := B.returns
  have hts := atoms_spec (ws := cw_X12_settles :: gw) B.pre
  have hown : s.vm.findClass RX12 = some m.cls := findClass_of_methodNamed B.named
  have hlocks := B.notSynchronized
  have hS : va_S (aG G) s.heap s.heap [] := va_S.rf
  have C : Cx p s m ([.ref (adr G xl0), .int zl1] : List Value).toArray meth c D G cX12_settles 2 none (cw_X12_settles :: gw) RX12 := ⟨hx, hb, hr, hlocks, hml, hown, hts, hK⟩
  have hl := lv_entry ([.ref (adr G xl0), .int zl1]) (n := 2) (Nat.le_of_ble_eq_true rfl)
  rw [lg_entry_eq]
  generalize (lg_sl ([.ref (adr G xl0), .int zl1]) ++ List.replicate (2 - (lg_sl ([.ref (adr G xl0), .int zl1])).length) Slot.unset).toArray = ls at hl ⊢
  have hl : lv_has ls 2 [(0, .ref (adr G xl0)), (1, .int zl1)] := hl
  unfold wp_X12_settles at h
  obtain ⟨n9, h⟩ := h
  exact t_X12_settles_0 C n9 xl0 zl1 _ _ _ _ hP hS (lv_sub hl [0, 1] rfl) h
/-! TurningMilkModel.isInside()Z -/
abbrev RM_X12_isInside : Room := { frames := 1, cells := 0, slots := 0, locals := 40 }
def cw_X12_isInside : Cond := Cond.code yX12_isInside cX12_isInside 2 (Option.some FieldType.boolean)
theorem hd_X12_isInside : yX12_isInside.cls ≠ "java/lang/invoke/MethodHandle" ∧ yX12_isInside.cls ≠ "java/lang/invoke/VarHandle" ∧ (parseMethodDescriptor yX12_isInside.desc).map (fun d => d.parameters.length) = some 0 := by decide +kernel
theorem dX12_isInside_0 : decode cX12_isInside 0 = .ok (.iconst 0, 1) := by decide +kernel
theorem dX12_isInside_1 : decode cX12_isInside 1 = .ok (.istore_n 1, 1) := by decide +kernel
theorem dX12_isInside_2 : decode cX12_isInside 2 = .ok (.iload_n 1, 1) := by decide +kernel
theorem dX12_isInside_3 : decode cX12_isInside 3 = .ok (.aload_n 0, 1) := by decide +kernel
theorem dX12_isInside_4 : decode cX12_isInside 4 = .ok (.getfield 151, 3) := by decide +kernel
theorem dX12_isInside_7 : decode cX12_isInside 7 = .ok (.if_icmp .ge 22, 3) := by decide +kernel
theorem dX12_isInside_10 : decode cX12_isInside 10 = .ok (.aload_n 0, 1) := by decide +kernel
theorem dX12_isInside_11 : decode cX12_isInside 11 = .ok (.getfield 29, 3) := by decide +kernel
theorem dX12_isInside_14 : decode cX12_isInside 14 = .ok (.iload_n 1, 1) := by decide +kernel
theorem dX12_isInside_15 : decode cX12_isInside 15 = .ok (.iaload, 1) := by decide +kernel
theorem dX12_isInside_16 : decode cX12_isInside 16 = .ok (.bipush 91, 2) := by decide +kernel
theorem dX12_isInside_18 : decode cX12_isInside 18 = .ok (.if_icmp .ne 5, 3) := by decide +kernel
theorem dX12_isInside_21 : decode cX12_isInside 21 = .ok (.iconst 1, 1) := by decide +kernel
theorem dX12_isInside_22 : decode cX12_isInside 22 = .ok (.ireturn, 1) := by decide +kernel
theorem dX12_isInside_23 : decode cX12_isInside 23 = .ok (.iinc 1 1, 3) := by decide +kernel
theorem dX12_isInside_26 : decode cX12_isInside 26 = .ok (.goto (-24), 3) := by decide +kernel
theorem dX12_isInside_29 : decode cX12_isInside 29 = .ok (.iconst 0, 1) := by decide +kernel
theorem dX12_isInside_30 : decode cX12_isInside 30 = .ok (.ireturn, 1) := by decide +kernel
def wp_X12_isInside_2 (S : Sh) (post : Int → Mm → Prop) : Nat → Int → Int → Mm → Prop
  | 0, _, _, _ => False
  | n + 1, u0, u1, M => wGet S M u0 12 16 fun v1 => wIf (v1 ≤ u1) (wC 0 fun v3 => (v3 = 0 ∨ v3 = 1) ∧ post v3 M) (wGetR S M u0 12 15 fun v5 => wLd S M v5 14 u1 fun v7 => wC 91 fun v9 => wIf (¬ v7 = v9) (wA u1 1 fun v11 => wp_X12_isInside_2 S post n u0 v11 M) (wC 1 fun v13 => (v13 = 0 ∨ v13 = 1) ∧ post v13 M))
def wp_X12_isInside (S : Sh) (M : Mm) (u0 : Int) (post : Int → Mm → Prop) : Prop := wC 0 fun v15 => ∃ n9 : Nat, wp_X12_isInside_2 S post n9 u0 v15 M
set_option maxHeartbeats 4000000 in
set_option maxRecDepth 100000 in
theorem t_X12_isInside_2 {p : Program} {l : Launch} {e : Env} {s : State} {m : MethodId} {args : Array Value} {below : List Frame} {meth : Method} {c : Code} {D : va_G} {G : Gt} {S : Sh} {post : Int → Mm → Prop} (C : Cx p s m args meth c D G cX12_isInside 2 (some .boolean) (cw_X12_isInside :: gw) RX12) : ∀ (n : Nat) (xl0 : Int) (zl1 : Int32) (M : Mm) (H : Heap) (locs : List Loc) (ls : Array Slot), Wd D G S M H → va_S (aG G) s.heap H locs → lv_has ls 2 [(0, .ref (adr G xl0)), (1, .int zl1)] → wp_X12_isInside_2 S post n xl0 zl1.toInt  M → W p l e RM_X12_isInside s m args below meth c H locs 0 0 (MQ below (QI D G S post) args s 0 0 (aG G)) (F0 m 2 ls []) := by
  obtain ⟨hx, hb, hr, hlocks, hml, hown, hts, hK⟩ := id C
  intro n
  induction n with
  | zero => intro xl0 zl1 M H locs ls hP hS hl h; exact h.elim
  | succ n ih =>
    intro xl0 zl1 M H locs ls hP hS hl h
    unfold wp_X12_isInside_2 at h
    refine lv_iload_n hx hb dX12_isInside_2 rfl (lv_at hl 1 rfl) ?_
    refine lv_aload_n hx hb dX12_isInside_3 rfl (lv_at hl 0 rfl) ?_
    refine r_geti (C := RX12) (T := TX12) (N := 38) hx hb hts (fun w h => List.mem_cons_of_mem _ (iX12 w h)) hown hK hP rfl (by decide) rfl 16 (by decide) (hts _ (List.mem_cons_of_mem _ kw_1350)) (fun _ h9 => h9) dX12_isInside_4 (by decide) h (fun z2 h => ?_)
    refine r_icmp_ge (tgt := 29) hx hb dX12_isInside_7 (by decide) h (fun h => ?_) (fun h => ?_)
    · refine r_iconst hx hb dX12_isInside_29 (by decide) h (fun z4 h => ?_)
      exact r_zret hx hb hr hlocks hP hS dX12_isInside_30 h
    · refine lv_aload_n hx hb dX12_isInside_10 rfl (lv_at hl 0 rfl) ?_
      refine r_getr (C := RX12) (T := TX12) (N := 38) hx hb hts (fun w h => List.mem_cons_of_mem _ (iX12 w h)) hown hK hP rfl (by decide) rfl 15 (by decide) (hts _ (List.mem_cons_of_mem _ kw_1349)) (fun _ h9 => h9) dX12_isInside_11 (by decide) h (fun x6 h => ?_)
      refine lv_iload_n hx hb dX12_isInside_14 rfl (lv_at hl 1 rfl) ?_
      refine r_iald hx hb hK hP dX12_isInside_15 h (fun z8 h => ?_)
      refine r_bipush hx hb dX12_isInside_16 (by decide) h (fun z10 h => ?_)
      refine r_icmp_ne (tgt := 23) hx hb dX12_isInside_18 (by decide) h (fun h => ?_) (fun h => ?_)
      · refine r_iinc hx hb (fun z12 => [(1, .int z12), (0, .ref (adr G xl0))]) dX12_isInside_23 (by decide) hl (k := 1) rfl (by decide) (fun _ => rfl) h (fun z12 ls hl h => ?_)
        refine lv_goto (tgt := 2) hx hb dX12_isInside_26 (by decide) ?_
        exact ih xl0 z12 _ _ _ _ hP hS (lv_sub hl [1, 0] rfl) h
      · refine r_iconst hx hb dX12_isInside_21 (by decide) h (fun z14 h => ?_)
        exact r_zret hx hb hr hlocks hP hS dX12_isInside_22 h
set_option maxHeartbeats 4000000 in
set_option maxRecDepth 100000 in
theorem c_X12_isInside (l : Launch) (D : va_G) (G : Gt) (S : Sh) (M : Mm) (xl0 : Int) (post : Int → Mm → Prop) (h : wp_X12_isInside S M xl0 post) : Met l yX12_isInside (cw_X12_isInside :: gw) RM_X12_isInside (va_Pc [.ref (adr G xl0)] (fun U => KN D G U ∧ Wd D G S M U.heap)) (QI D G S post) 0 0 (aG G) := by
  refine Met.ofW (cc := cX12_isInside) (maxL := 2) (ret := (some .boolean)) (by decide) rfl ?_
  intro p e s m args below meth c s₁ B hml hv
  obtain ⟨rfl, hK, hP⟩ := hv
  have hx := B.exec
  have hb := B.bytes
  have hr := B.returns
  have hts := atoms_spec (ws := cw_X12_isInside :: gw) B.pre
  have hown : s.vm.findClass RX12 = some m.cls := findClass_of_methodNamed B.named
  have hlocks := B.notSynchronized
  have hS : va_S (aG G) s.heap s.heap [] := va_S.rf
  have C : Cx p s m ([.ref (adr G xl0)] : List Value).toArray meth c D G cX12_isInside 2 (some .boolean) (cw_X12_isInside :: gw) RX12 := ⟨hx, hb, hr, hlocks, hml, hown, hts, hK⟩
  have hl := lv_entry ([.ref (adr G xl0)]) (n := 2) (Nat.le_of_ble_eq_true rfl)
  rw [lg_entry_eq]
  generalize (lg_sl ([.ref (adr G xl0)]) ++ List.replicate (2 - (lg_sl ([.ref (adr G xl0)])).length) Slot.unset).toArray = ls at hl ⊢
  have hl : lv_has ls 2 [(0, .ref (adr G xl0))] := hl
  unfold wp_X12_isInside at h
  refine r_iconst hx hb dX12_isInside_0 (by decide) h (fun z16 h => ?_)
  refine lv_istore_n (lv' := [(1, .int z16), (0, .ref (adr G xl0))]) hx hb dX12_isInside_1 rfl hl (by decide) rfl (fun ls hl => ?_)
  obtain ⟨n9, h⟩ := h
  exact t_X12_isInside_2 C n9 xl0 z16 _ _ _ _ hP hS (lv_sub hl [1, 0] rfl) h
/-! TurningMilkModel.closes()V -/
abbrev RM_X12_closes : Room := { frames := 3, cells := 0, slots := 0, locals := 83 }
def cw_X12_closes : Cond := Cond.code yX12_closes cX12_closes 1 (Option.none : Option FieldType)
theorem hd_X12_closes : yX12_closes.cls ≠ "java/lang/invoke/MethodHandle" ∧ yX12_closes.cls ≠ "java/lang/invoke/VarHandle" ∧ (parseMethodDescriptor yX12_closes.desc).map (fun d => d.parameters.length) = some 0 := by decide +kernel
theorem dX12_closes_0 : decode cX12_closes 0 = .ok (.aload_n 0, 1) := by decide +kernel
theorem dX12_closes_1 : decode cX12_closes 1 = .ok (.iconst 3, 1) := by decide +kernel
theorem dX12_closes_2 : decode cX12_closes 2 = .ok (.invokevirtual 190, 3) := by decide +kernel
theorem dX12_closes_5 : decode cX12_closes 5 = .ok (.aload_n 0, 1) := by decide +kernel
theorem dX12_closes_6 : decode cX12_closes 6 = .ok (.invokevirtual 93, 3) := by decide +kernel
theorem dX12_closes_9 : decode cX12_closes 9 = .ok (.bipush 93, 2) := by decide +kernel
theorem dX12_closes_11 : decode cX12_closes 11 = .ok (.if_icmp .ne 53, 3) := by decide +kernel
theorem dX12_closes_14 : decode cX12_closes 14 = .ok (.aload_n 0, 1) := by decide +kernel
theorem dX12_closes_15 : decode cX12_closes 15 = .ok (.invokevirtual 193, 3) := by decide +kernel
theorem dX12_closes_18 : decode cX12_closes 18 = .ok (.ifCond .eq 46, 3) := by decide +kernel
theorem dX12_closes_21 : decode cX12_closes 21 = .ok (.aload_n 0, 1) := by decide +kernel
theorem dX12_closes_22 : decode cX12_closes 22 = .ok (.iconst 1, 1) := by decide +kernel
theorem dX12_closes_23 : decode cX12_closes 23 = .ok (.invokevirtual 190, 3) := by decide +kernel
theorem dX12_closes_26 : decode cX12_closes 26 = .ok (.aload_n 0, 1) := by decide +kernel
theorem dX12_closes_27 : decode cX12_closes 27 = .ok (.dup, 1) := by decide +kernel
theorem dX12_closes_28 : decode cX12_closes 28 = .ok (.getfield 151, 3) := by decide +kernel
theorem dX12_closes_31 : decode cX12_closes 31 = .ok (.iconst 1, 1) := by decide +kernel
theorem dX12_closes_32 : decode cX12_closes 32 = .ok (.isub, 1) := by decide +kernel
theorem dX12_closes_33 : decode cX12_closes 33 = .ok (.putfield 151, 3) := by decide +kernel
theorem dX12_closes_36 : decode cX12_closes 36 = .ok (.aload_n 0, 1) := by decide +kernel
theorem dX12_closes_37 : decode cX12_closes 37 = .ok (.dup, 1) := by decide +kernel
theorem dX12_closes_38 : decode cX12_closes 38 = .ok (.getfield 148, 3) := by decide +kernel
theorem dX12_closes_41 : decode cX12_closes 41 = .ok (.iconst 1, 1) := by decide +kernel
theorem dX12_closes_42 : decode cX12_closes 42 = .ok (.isub, 1) := by decide +kernel
theorem dX12_closes_43 : decode cX12_closes 43 = .ok (.putfield 148, 3) := by decide +kernel
theorem dX12_closes_46 : decode cX12_closes 46 = .ok (.aload_n 0, 1) := by decide +kernel
theorem dX12_closes_47 : decode cX12_closes 47 = .ok (.dup, 1) := by decide +kernel
theorem dX12_closes_48 : decode cX12_closes 48 = .ok (.getfield 90, 3) := by decide +kernel
theorem dX12_closes_51 : decode cX12_closes 51 = .ok (.iconst 1, 1) := by decide +kernel
theorem dX12_closes_52 : decode cX12_closes 52 = .ok (.iadd, 1) := by decide +kernel
theorem dX12_closes_53 : decode cX12_closes 53 = .ok (.putfield 90, 3) := by decide +kernel
theorem dX12_closes_56 : decode cX12_closes 56 = .ok (.aload_n 0, 1) := by decide +kernel
theorem dX12_closes_57 : decode cX12_closes 57 = .ok (.iconst 3, 1) := by decide +kernel
theorem dX12_closes_58 : decode cX12_closes 58 = .ok (.invokevirtual 190, 3) := by decide +kernel
theorem dX12_closes_61 : decode cX12_closes 61 = .ok (.goto (-56), 3) := by decide +kernel
theorem dX12_closes_64 : decode cX12_closes 64 = .ok (.return_, 1) := by decide +kernel
def wp_X12_closes_5 (S : Sh) (post : Mm → Prop) : Nat → Int → Mm → Prop
  | 0, _, _ => False
  | n + 1, u0, M => isK S u0 12 ∧ (wp_X12_see S M u0 <| fun v2 M1 => wC 93 fun v4 => wIf (¬ v2 = v4) (post M1) (isK S u0 12 ∧ (wp_X12_isInside S M1 u0 <| fun v7 M6 => wIf (v7 = 0) (post M6) (wC 1 fun v9 => isK S u0 12 ∧ (wp_X12_settles S M6 u0 v9 <| fun M11 => wGet S M11 u0 12 16 fun v12 => wC 1 fun v14 => wS v12 v14 fun v16 => wPut S M11 u0 12 16 v16 fun M18 => wGet S M18 u0 12 13 fun v19 => wC 1 fun v21 => wS v19 v21 fun v23 => wPut S M18 u0 12 13 v23 fun M25 => wGet S M25 u0 12 8 fun v26 => wC 1 fun v28 => wA v26 v28 fun v30 => wPut S M25 u0 12 8 v30 fun M32 => wC 3 fun v33 => isK S u0 12 ∧ (wp_X12_settles S M32 u0 v33 <| fun M35 => wp_X12_closes_5 S post n u0 M35))))))
def wp_X12_closes (S : Sh) (M : Mm) (u0 : Int) (post : Mm → Prop) : Prop := wC 3 fun v36 => isK S u0 12 ∧ (wp_X12_settles S M u0 v36 <| fun M38 => ∃ n9 : Nat, wp_X12_closes_5 S post n9 u0 M38)
set_option maxHeartbeats 4000000 in
set_option maxRecDepth 100000 in
theorem t_X12_closes_5 {p : Program} {l : Launch} {e : Env} {s : State} {m : MethodId} {args : Array Value} {below : List Frame} {meth : Method} {c : Code} {D : va_G} {G : Gt} {S : Sh} {post : Mm → Prop} (C : Cx p s m args meth c D G cX12_closes 1 none (cw_X12_closes :: gw) RX12) : ∀ (n : Nat) (xl0 : Int) (M : Mm) (H : Heap) (locs : List Loc) (ls : Array Slot), Wd D G S M H → va_S (aG G) s.heap H locs → lv_has ls 1 [(0, .ref (adr G xl0))] → wp_X12_closes_5 S post n xl0  M → W p l e RM_X12_closes s m args below meth c H locs 0 0 (MQ below (QV D G S post) args s 0 0 (aG G)) (F0 m 5 ls []) := by
  obtain ⟨hx, hb, hr, hlocks, hml, hown, hts, hK⟩ := id C
  intro n
  induction n with
  | zero => intro xl0 M H locs ls hP hS hl h; exact h.elim
  | succ n ih =>
    intro xl0 M H locs ls hP hS hl h
    unfold wp_X12_closes_5 at h
    refine lv_aload_n hx hb dX12_closes_5 rfl (lv_at hl 0 rfl) ?_
    refine q_Vi hx hb hml hown hts hK hP hS (c_X12_see l D G S _ xl0 _ h.2) ⟨callB_of 0 hts (gw_good kw_1477) rfl rfl rfl (hts _ (List.mem_cons_of_mem _ kw_14)) (hts _ (List.mem_cons_of_mem _ kw_1474)) hd_X12_see ⟨Nat.le_of_ble_eq_true rfl, Nat.le_of_ble_eq_true rfl⟩, (hts _ (List.mem_cons_of_mem _ kw_1476)), (hts _ (List.mem_cons_of_mem _ kp_54))⟩ h.1 (ci := 12) rfl (by decide) rfl hl.1 rfl (lv_room (Nat.le_of_ble_eq_true rfl)) dX12_closes_6 ⟨Nat.zero_le _, Nat.zero_le _⟩ (fun z3 M1 H locs h hP hS => ?_)
    refine r_bipush hx hb dX12_closes_9 (by decide) h (fun z5 h => ?_)
    refine r_icmp_ne (tgt := 64) hx hb dX12_closes_11 (by decide) h (fun h => ?_) (fun h => ?_)
    · exact r_vret hx hb hr hlocks hP hS dX12_closes_64 h
    · refine lv_aload_n hx hb dX12_closes_14 rfl (lv_at hl 0 rfl) ?_
      refine q_Vi hx hb hml hown hts hK hP hS (c_X12_isInside l D G S _ xl0 _ h.2) ⟨callB_of 0 hts (gw_good kw_1623) rfl rfl rfl (hts _ (List.mem_cons_of_mem _ kw_14)) (hts _ (List.mem_cons_of_mem _ kw_1620)) hd_X12_isInside ⟨Nat.le_of_ble_eq_true rfl, Nat.le_of_ble_eq_true rfl⟩, (hts _ (List.mem_cons_of_mem _ kw_1622)), (hts _ (List.mem_cons_of_mem _ kp_85))⟩ h.1 (ci := 12) rfl (by decide) rfl hl.1 rfl (lv_room (Nat.le_of_ble_eq_true rfl)) dX12_closes_15 ⟨Nat.zero_le _, Nat.zero_le _⟩ (fun z8 M6 H locs h hP hS => ?_)
      refine r_if_eq (tgt := 64) hx hb dX12_closes_18 (by decide) h (fun h => ?_) (fun h => ?_)
      · exact r_vret hx hb hr hlocks hP hS dX12_closes_64 h
      · refine lv_aload_n hx hb dX12_closes_21 rfl (lv_at hl 0 rfl) ?_
        refine r_iconst hx hb dX12_closes_22 (by decide) h (fun z10 h => ?_)
        refine q_Vv hx hb hml hown hts hK hP hS (c_X12_settles l D G S _ xl0 z10 _ h.2) ⟨callB_of 1 hts (gw_good kw_1616) rfl rfl rfl (hts _ (List.mem_cons_of_mem _ kw_14)) (hts _ (List.mem_cons_of_mem _ kw_1613)) hd_X12_settles ⟨Nat.le_of_ble_eq_true rfl, Nat.le_of_ble_eq_true rfl⟩, (hts _ (List.mem_cons_of_mem _ kw_1615)), (hts _ (List.mem_cons_of_mem _ kp_84))⟩ h.1 (ci := 12) rfl (by decide) rfl hl.1 rfl (lv_room (Nat.le_of_ble_eq_true rfl)) dX12_closes_23 ⟨Nat.zero_le _, Nat.zero_le _⟩ (fun M11 H locs h hP hS => ?_)
        refine lv_aload_n hx hb dX12_closes_26 rfl (lv_at hl 0 rfl) ?_
        refine lv_dup hx hb dX12_closes_27 rfl ?_
        refine r_geti (C := RX12) (T := TX12) (N := 38) hx hb hts (fun w h => List.mem_cons_of_mem _ (iX12 w h)) hown hK hP rfl (by decide) rfl 16 (by decide) (hts _ (List.mem_cons_of_mem _ kw_1350)) (fun _ h9 => h9) dX12_closes_28 (by decide) h (fun z13 h => ?_)
        refine r_iconst hx hb dX12_closes_31 (by decide) h (fun z15 h => ?_)
        refine r_isub hx hb dX12_closes_32 h (fun z17 h => ?_)
        refine r_puti (C := RX12) (T := TX12) (N := 38) hx hb hts (fun w h => List.mem_cons_of_mem _ (iX12 w h)) hown hK hP tyX12 tyX12_ok nmX12 hS rfl (by decide) rfl 16 (by decide) (hts _ (List.mem_cons_of_mem _ kw_1350)) (fun _ h9 => h9) rfl (tyX12_ok 16 (by decide)) rfl rfl dX12_closes_33 (by decide) h (fun M18 H locs h hP hS => ?_)
        refine lv_aload_n hx hb dX12_closes_36 rfl (lv_at hl 0 rfl) ?_
        refine lv_dup hx hb dX12_closes_37 rfl ?_
        refine r_geti (C := RX12) (T := TX12) (N := 38) hx hb hts (fun w h => List.mem_cons_of_mem _ (iX12 w h)) hown hK hP rfl (by decide) rfl 13 (by decide) (hts _ (List.mem_cons_of_mem _ kw_1347)) (fun _ h9 => h9) dX12_closes_38 (by decide) h (fun z20 h => ?_)
        refine r_iconst hx hb dX12_closes_41 (by decide) h (fun z22 h => ?_)
        refine r_isub hx hb dX12_closes_42 h (fun z24 h => ?_)
        refine r_puti (C := RX12) (T := TX12) (N := 38) hx hb hts (fun w h => List.mem_cons_of_mem _ (iX12 w h)) hown hK hP tyX12 tyX12_ok nmX12 hS rfl (by decide) rfl 13 (by decide) (hts _ (List.mem_cons_of_mem _ kw_1347)) (fun _ h9 => h9) rfl (tyX12_ok 13 (by decide)) rfl rfl dX12_closes_43 (by decide) h (fun M25 H locs h hP hS => ?_)
        refine lv_aload_n hx hb dX12_closes_46 rfl (lv_at hl 0 rfl) ?_
        refine lv_dup hx hb dX12_closes_47 rfl ?_
        refine r_geti (C := RX12) (T := TX12) (N := 38) hx hb hts (fun w h => List.mem_cons_of_mem _ (iX12 w h)) hown hK hP rfl (by decide) rfl 8 (by decide) (hts _ (List.mem_cons_of_mem _ kw_1342)) (fun _ h9 => h9) dX12_closes_48 (by decide) h (fun z27 h => ?_)
        refine r_iconst hx hb dX12_closes_51 (by decide) h (fun z29 h => ?_)
        refine r_iadd hx hb dX12_closes_52 h (fun z31 h => ?_)
        refine r_puti (C := RX12) (T := TX12) (N := 38) hx hb hts (fun w h => List.mem_cons_of_mem _ (iX12 w h)) hown hK hP tyX12 tyX12_ok nmX12 hS rfl (by decide) rfl 8 (by decide) (hts _ (List.mem_cons_of_mem _ kw_1342)) (fun _ h9 => h9) rfl (tyX12_ok 8 (by decide)) rfl rfl dX12_closes_53 (by decide) h (fun M32 H locs h hP hS => ?_)
        refine lv_aload_n hx hb dX12_closes_56 rfl (lv_at hl 0 rfl) ?_
        refine r_iconst hx hb dX12_closes_57 (by decide) h (fun z34 h => ?_)
        refine q_Vv hx hb hml hown hts hK hP hS (c_X12_settles l D G S _ xl0 z34 _ h.2) ⟨callB_of 1 hts (gw_good kw_1616) rfl rfl rfl (hts _ (List.mem_cons_of_mem _ kw_14)) (hts _ (List.mem_cons_of_mem _ kw_1613)) hd_X12_settles ⟨Nat.le_of_ble_eq_true rfl, Nat.le_of_ble_eq_true rfl⟩, (hts _ (List.mem_cons_of_mem _ kw_1615)), (hts _ (List.mem_cons_of_mem _ kp_84))⟩ h.1 (ci := 12) rfl (by decide) rfl hl.1 rfl (lv_room (Nat.le_of_ble_eq_true rfl)) dX12_closes_58 ⟨Nat.zero_le _, Nat.zero_le _⟩ (fun M35 H locs h hP hS => ?_)
        refine lv_goto (tgt := 5) hx hb dX12_closes_61 (by decide) ?_
        exact ih xl0 _ _ _ _ hP hS (lv_sub hl [0] rfl) h
set_option maxHeartbeats 4000000 in
set_option maxRecDepth 100000 in
theorem c_X12_closes (l : Launch) (D : va_G) (G : Gt) (S : Sh) (M : Mm) (xl0 : Int) (post : Mm → Prop) (h : wp_X12_closes S M xl0 post) : Met l yX12_closes (cw_X12_closes :: gw) RM_X12_closes (va_Pc [.ref (adr G xl0)] (fun U => KN D G U ∧ Wd D G S M U.heap)) (QV D G S post) 0 0 (aG G) := by
  refine Met.ofW (cc := cX12_closes) (maxL := 1) (ret := none) (by decide) rfl ?_
  intro p e s m args below meth c s₁ B hml hv
  obtain ⟨rfl, hK, hP⟩ := hv
  have hx := B.exec
  have hb := B.bytes
  have hr := B.returns
  have hts := atoms_spec (ws := cw_X12_closes :: gw) B.pre
  have hown : s.vm.findClass RX12 = some m.cls := findClass_of_methodNamed B.named
  have hlocks := B.notSynchronized
  have hS : va_S (aG G) s.heap s.heap [] := va_S.rf
  have C : Cx p s m ([.ref (adr G xl0)] : List Value).toArray meth c D G cX12_closes 1 none (cw_X12_closes :: gw) RX12 := ⟨hx, hb, hr, hlocks, hml, hown, hts, hK⟩
  have hl := lv_entry ([.ref (adr G xl0)]) (n := 1) (Nat.le_of_ble_eq_true rfl)
  rw [lg_entry_eq]
  generalize (lg_sl ([.ref (adr G xl0)]) ++ List.replicate (1 - (lg_sl ([.ref (adr G xl0)])).length) Slot.unset).toArray = ls at hl ⊢
  have hl : lv_has ls 1 [(0, .ref (adr G xl0))] := hl
  unfold wp_X12_closes at h
  refine lv_aload_n hx hb dX12_closes_0 rfl (lv_at hl 0 rfl) ?_
  refine r_iconst hx hb dX12_closes_1 (by decide) h (fun z37 h => ?_)
  refine q_Vv hx hb hml hown hts hK hP hS (c_X12_settles l D G S _ xl0 z37 _ h.2) ⟨callB_of 1 hts (gw_good kw_1616) rfl rfl rfl (hts _ (List.mem_cons_of_mem _ kw_14)) (hts _ (List.mem_cons_of_mem _ kw_1613)) hd_X12_settles ⟨Nat.le_of_ble_eq_true rfl, Nat.le_of_ble_eq_true rfl⟩, (hts _ (List.mem_cons_of_mem _ kw_1615)), (hts _ (List.mem_cons_of_mem _ kp_84))⟩ h.1 (ci := 12) rfl (by decide) rfl hl.1 rfl (lv_room (Nat.le_of_ble_eq_true rfl)) dX12_closes_2 ⟨Nat.zero_le _, Nat.zero_le _⟩ (fun M38 H locs h hP hS => ?_)
  obtain ⟨n9, h⟩ := h
  exact t_X12_closes_5 C n9 xl0 _ _ _ _ hP hS (lv_sub hl [0] rfl) h
/-! TurningMilkModel.tested()Z -/
abbrev RM_X12_tested : Room := { frames := 9, cells := 0, slots := 0, locals := 216 }
def cw_X12_tested : Cond := Cond.code yX12_tested cX12_tested 3 (Option.some FieldType.boolean)
theorem hd_X12_tested : yX12_tested.cls ≠ "java/lang/invoke/MethodHandle" ∧ yX12_tested.cls ≠ "java/lang/invoke/VarHandle" ∧ (parseMethodDescriptor yX12_tested.desc).map (fun d => d.parameters.length) = some 0 := by decide +kernel
theorem dX12_tested_0 : decode cX12_tested 0 = .ok (.aload_n 0, 1) := by decide +kernel
theorem dX12_tested_1 : decode cX12_tested 1 = .ok (.iconst 0, 1) := by decide +kernel
theorem dX12_tested_2 : decode cX12_tested 2 = .ok (.putfield 151, 3) := by decide +kernel
theorem dX12_tested_5 : decode cX12_tested 5 = .ok (.aload_n 0, 1) := by decide +kernel
theorem dX12_tested_6 : decode cX12_tested 6 = .ok (.iconst 0, 1) := by decide +kernel
theorem dX12_tested_7 : decode cX12_tested 7 = .ok (.putfield 148, 3) := by decide +kernel
theorem dX12_tested_10 : decode cX12_tested 10 = .ok (.iconst 1, 1) := by decide +kernel
theorem dX12_tested_11 : decode cX12_tested 11 = .ok (.istore_n 1, 1) := by decide +kernel
theorem dX12_tested_12 : decode cX12_tested 12 = .ok (.iload_n 1, 1) := by decide +kernel
theorem dX12_tested_13 : decode cX12_tested 13 = .ok (.ifCond .eq 99, 3) := by decide +kernel
theorem dX12_tested_16 : decode cX12_tested 16 = .ok (.aload_n 0, 1) := by decide +kernel
theorem dX12_tested_17 : decode cX12_tested 17 = .ok (.invokevirtual 196, 3) := by decide +kernel
theorem dX12_tested_20 : decode cX12_tested 20 = .ok (.ifCond .ne 5, 3) := by decide +kernel
theorem dX12_tested_23 : decode cX12_tested 23 = .ok (.iconst 0, 1) := by decide +kernel
theorem dX12_tested_24 : decode cX12_tested 24 = .ok (.ireturn, 1) := by decide +kernel
theorem dX12_tested_25 : decode cX12_tested 25 = .ok (.aload_n 0, 1) := by decide +kernel
theorem dX12_tested_26 : decode cX12_tested 26 = .ok (.invokevirtual 199, 3) := by decide +kernel
theorem dX12_tested_29 : decode cX12_tested 29 = .ok (.aload_n 0, 1) := by decide +kernel
theorem dX12_tested_30 : decode cX12_tested 30 = .ok (.ldc2_w 202, 3) := by decide +kernel
theorem dX12_tested_33 : decode cX12_tested 33 = .ok (.invokevirtual 101, 3) := by decide +kernel
theorem dX12_tested_36 : decode cX12_tested 36 = .ok (.ifCond .ne 13, 3) := by decide +kernel
theorem dX12_tested_39 : decode cX12_tested 39 = .ok (.aload_n 0, 1) := by decide +kernel
theorem dX12_tested_40 : decode cX12_tested 40 = .ok (.ldc2_w 204, 3) := by decide +kernel
theorem dX12_tested_43 : decode cX12_tested 43 = .ok (.invokevirtual 101, 3) := by decide +kernel
theorem dX12_tested_46 : decode cX12_tested 46 = .ok (.ifCond .eq 7, 3) := by decide +kernel
theorem dX12_tested_49 : decode cX12_tested 49 = .ok (.iconst 1, 1) := by decide +kernel
theorem dX12_tested_50 : decode cX12_tested 50 = .ok (.goto 4, 3) := by decide +kernel
theorem dX12_tested_53 : decode cX12_tested 53 = .ok (.iconst 0, 1) := by decide +kernel
theorem dX12_tested_54 : decode cX12_tested 54 = .ok (.istore_n 1, 1) := by decide +kernel
theorem dX12_tested_55 : decode cX12_tested 55 = .ok (.iload_n 1, 1) := by decide +kernel
theorem dX12_tested_56 : decode cX12_tested 56 = .ok (.ifCond .eq (-44), 3) := by decide +kernel
theorem dX12_tested_59 : decode cX12_tested 59 = .ok (.aload_n 0, 1) := by decide +kernel
theorem dX12_tested_60 : decode cX12_tested 60 = .ok (.ldc2_w 202, 3) := by decide +kernel
theorem dX12_tested_63 : decode cX12_tested 63 = .ok (.invokevirtual 101, 3) := by decide +kernel
theorem dX12_tested_66 : decode cX12_tested 66 = .ok (.ifCond .eq 8, 3) := by decide +kernel
theorem dX12_tested_69 : decode cX12_tested 69 = .ok (.bipush 12, 2) := by decide +kernel
theorem dX12_tested_71 : decode cX12_tested 71 = .ok (.goto 5, 3) := by decide +kernel
theorem dX12_tested_74 : decode cX12_tested 74 = .ok (.bipush 13, 2) := by decide +kernel
theorem dX12_tested_76 : decode cX12_tested 76 = .ok (.istore_n 2, 1) := by decide +kernel
theorem dX12_tested_77 : decode cX12_tested 77 = .ok (.aload_n 0, 1) := by decide +kernel
theorem dX12_tested_78 : decode cX12_tested 78 = .ok (.invokevirtual 105, 3) := by decide +kernel
theorem dX12_tested_81 : decode cX12_tested 81 = .ok (.aload_n 0, 1) := by decide +kernel
theorem dX12_tested_82 : decode cX12_tested 82 = .ok (.iload_n 2, 1) := by decide +kernel
theorem dX12_tested_83 : decode cX12_tested 83 = .ok (.invokestatic 154, 3) := by decide +kernel
theorem dX12_tested_86 : decode cX12_tested 86 = .ok (.invokevirtual 190, 3) := by decide +kernel
theorem dX12_tested_89 : decode cX12_tested 89 = .ok (.aload_n 0, 1) := by decide +kernel
theorem dX12_tested_90 : decode cX12_tested 90 = .ok (.getfield 29, 3) := by decide +kernel
theorem dX12_tested_93 : decode cX12_tested 93 = .ok (.aload_n 0, 1) := by decide +kernel
theorem dX12_tested_94 : decode cX12_tested 94 = .ok (.getfield 151, 3) := by decide +kernel
theorem dX12_tested_97 : decode cX12_tested 97 = .ok (.iload_n 2, 1) := by decide +kernel
theorem dX12_tested_98 : decode cX12_tested 98 = .ok (.iastore, 1) := by decide +kernel
theorem dX12_tested_99 : decode cX12_tested 99 = .ok (.aload_n 0, 1) := by decide +kernel
theorem dX12_tested_100 : decode cX12_tested 100 = .ok (.dup, 1) := by decide +kernel
theorem dX12_tested_101 : decode cX12_tested 101 = .ok (.getfield 151, 3) := by decide +kernel
theorem dX12_tested_104 : decode cX12_tested 104 = .ok (.iconst 1, 1) := by decide +kernel
theorem dX12_tested_105 : decode cX12_tested 105 = .ok (.iadd, 1) := by decide +kernel
theorem dX12_tested_106 : decode cX12_tested 106 = .ok (.putfield 151, 3) := by decide +kernel
theorem dX12_tested_109 : decode cX12_tested 109 = .ok (.goto (-97), 3) := by decide +kernel
theorem dX12_tested_112 : decode cX12_tested 112 = .ok (.aload_n 0, 1) := by decide +kernel
theorem dX12_tested_113 : decode cX12_tested 113 = .ok (.invokevirtual 193, 3) := by decide +kernel
theorem dX12_tested_116 : decode cX12_tested 116 = .ok (.ifCond .eq 18, 3) := by decide +kernel
theorem dX12_tested_119 : decode cX12_tested 119 = .ok (.aload_n 0, 1) := by decide +kernel
theorem dX12_tested_120 : decode cX12_tested 120 = .ok (.invokevirtual 93, 3) := by decide +kernel
theorem dX12_tested_123 : decode cX12_tested 123 = .ok (.pop, 1) := by decide +kernel
theorem dX12_tested_124 : decode cX12_tested 124 = .ok (.aload_n 0, 1) := by decide +kernel
theorem dX12_tested_125 : decode cX12_tested 125 = .ok (.iconst 0, 1) := by decide +kernel
theorem dX12_tested_126 : decode cX12_tested 126 = .ok (.aload_n 0, 1) := by decide +kernel
theorem dX12_tested_127 : decode cX12_tested 127 = .ok (.getfield 90, 3) := by decide +kernel
theorem dX12_tested_130 : decode cX12_tested 130 = .ok (.invokevirtual 111, 3) := by decide +kernel
theorem dX12_tested_133 : decode cX12_tested 133 = .ok (.ireturn, 1) := by decide +kernel
theorem dX12_tested_134 : decode cX12_tested 134 = .ok (.aload_n 0, 1) := by decide +kernel
theorem dX12_tested_135 : decode cX12_tested 135 = .ok (.iconst 1, 1) := by decide +kernel
theorem dX12_tested_136 : decode cX12_tested 136 = .ok (.invokevirtual 190, 3) := by decide +kernel
theorem dX12_tested_139 : decode cX12_tested 139 = .ok (.iconst 1, 1) := by decide +kernel
theorem dX12_tested_140 : decode cX12_tested 140 = .ok (.ireturn, 1) := by decide +kernel
def wp_X12_tested_76 (S : Sh) (k12 : Int → Int → Mm → Prop) (post : Int → Mm → Prop) (u0 : Int) (u1 : Int) (t0 : Int) (M : Mm) : Prop := isK S u0 12 ∧ (wp_X12_passWord S M u0 <| fun M1 => wp_X12_strength S M1 t0 <| fun v3 M2 => isK S u0 12 ∧ (wp_X12_settles S M2 u0 v3 <| fun M5 => wGetR S M5 u0 12 15 fun v6 => wGet S M5 u0 12 16 fun v8 => wSt S M5 v6 14 v8 t0 fun M10 => wGet S M10 u0 12 16 fun v11 => wC 1 fun v13 => wA v11 v13 fun v15 => wPut S M10 u0 12 16 v15 fun M17 => k12 u0 u1 M17))
def wp_X12_tested_54 (S : Sh) (k12 : Int → Int → Mm → Prop) (post : Int → Mm → Prop) (u0 : Int) (t0 : Int) (M : Mm) : Prop := wIf (t0 = 0) (k12 u0 t0 M) (wC 6385252 fun v18 => isK S u0 12 ∧ (wp_X12_isWord S M u0 v18 <| fun v21 M20 => wIf (v21 = 0) (wC 13 fun v23 => wp_X12_tested_76 S k12 post u0 t0 v23 M20) (wC 12 fun v25 => wp_X12_tested_76 S k12 post u0 t0 v25 M20)))
def wp_X12_tested_49 (S : Sh) (k12 : Int → Int → Mm → Prop) (post : Int → Mm → Prop) (u0 : Int) (M : Mm) : Prop := wC 1 fun v27 => wp_X12_tested_54 S k12 post u0 v27 M
def wp_X12_tested_12 (S : Sh) (post : Int → Mm → Prop) : Nat → Int → Int → Mm → Prop
  | 0, _, _, _ => False
  | n + 1, u0, u1, M => wIf (u1 = 0) (isK S u0 12 ∧ (wp_X12_isInside S M u0 <| fun v30 M29 => wIf (v30 = 0) (wC 1 fun v32 => isK S u0 12 ∧ (wp_X12_settles S M29 u0 v32 <| fun M34 => wC 1 fun v35 => (v35 = 0 ∨ v35 = 1) ∧ post v35 M34)) (isK S u0 12 ∧ (wp_X12_see S M29 u0 <| fun v38 M37 => wC 0 fun v40 => wGet S M37 u0 12 8 fun v42 => isK S u0 12 ∧ (wp_X12_fails S M37 u0 v40 v42 <| fun v45 M44 => (v45 = 0 ∨ v45 = 1) ∧ post v45 M44))))) (isK S u0 12 ∧ (wp_X12_fact S M u0 <| fun v48 M47 => wIf (¬ v48 = 0) (isK S u0 12 ∧ (wp_X12_closes S M47 u0 <| fun M50 => wC 6385252 fun v51 => isK S u0 12 ∧ (wp_X12_isWord S M50 u0 v51 <| fun v54 M53 => wIf (¬ v54 = 0) (wp_X12_tested_49 S (fun a0 a1 M => wp_X12_tested_12 S post n a0 a1 M) post u0 M53) (wC 28530 fun v56 => isK S u0 12 ∧ (wp_X12_isWord S M53 u0 v56 <| fun v59 M58 => wIf (v59 = 0) (wC 0 fun v61 => wp_X12_tested_54 S (fun a0 a1 M => wp_X12_tested_12 S post n a0 a1 M) post u0 v61 M58) (wp_X12_tested_49 S (fun a0 a1 M => wp_X12_tested_12 S post n a0 a1 M) post u0 M58)))))) (wC 0 fun v63 => (v63 = 0 ∨ v63 = 1) ∧ post v63 M47)))
def wp_X12_tested (S : Sh) (M : Mm) (u0 : Int) (post : Int → Mm → Prop) : Prop := wC 0 fun v65 => wPut S M u0 12 16 v65 fun M67 => wC 0 fun v68 => wPut S M67 u0 12 13 v68 fun M70 => wC 1 fun v71 => ∃ n9 : Nat, wp_X12_tested_12 S post n9 u0 v71 M70
set_option maxHeartbeats 4000000 in
set_option maxRecDepth 100000 in
theorem t_X12_tested_76 {p : Program} {l : Launch} {e : Env} {s : State} {m : MethodId} {args : Array Value} {below : List Frame} {meth : Method} {c : Code} {D : va_G} {G : Gt} {S : Sh} {post : Int → Mm → Prop} {k12 : Int → Int → Mm → Prop} (C : Cx p s m args meth c D G cX12_tested 3 (some .boolean) (cw_X12_tested :: gw) RX12) (hk12 : ∀ (y0 : Int) (y1 : Int32) (M : Mm) (H : Heap) (locs : List Loc) (ls : Array Slot), Wd D G S M H → va_S (aG G) s.heap H locs → lv_has ls 3 [(0, .ref (adr G y0)), (1, .int y1)] → k12 y0 y1.toInt M → W p l e RM_X12_tested s m args below meth c H locs 0 0 (MQ below (QI D G S post) args s 0 0 (aG G)) (F0 m 12 ls [])) : ∀ (xl0 : Int) (zl1 : Int32) (zs0 : Int32) (M : Mm) (H : Heap) (locs : List Loc) (ls : Array Slot), Wd D G S M H → va_S (aG G) s.heap H locs → lv_has ls 3 [(0, .ref (adr G xl0)), (1, .int zl1)] → wp_X12_tested_76 S k12 post xl0 zl1.toInt zs0.toInt M → W p l e RM_X12_tested s m args below meth c H locs 0 0 (MQ below (QI D G S post) args s 0 0 (aG G)) (F0 m 76 ls [.int zs0]) := by
  obtain ⟨hx, hb, hr, hlocks, hml, hown, hts, hK⟩ := id C
  intro xl0 zl1 zs0 M H locs ls hP hS hl h
  unfold wp_X12_tested_76 at h
  refine lv_istore_n (lv' := [(2, .int zs0), (0, .ref (adr G xl0)), (1, .int zl1)]) hx hb dX12_tested_76 rfl hl (by decide) rfl (fun ls hl => ?_)
  refine lv_aload_n hx hb dX12_tested_77 rfl (lv_at hl 1 rfl) ?_
  refine q_Vv hx hb hml hown hts hK hP hS (c_X12_passWord l D G S _ xl0 _ h.2) ⟨callB_of 0 hts (gw_good kw_1512) rfl rfl rfl (hts _ (List.mem_cons_of_mem _ kw_14)) (hts _ (List.mem_cons_of_mem _ kw_1509)) hd_X12_passWord ⟨Nat.le_of_ble_eq_true rfl, Nat.le_of_ble_eq_true rfl⟩, (hts _ (List.mem_cons_of_mem _ kw_1511)), (hts _ (List.mem_cons_of_mem _ kp_61))⟩ h.1 (ci := 12) rfl (by decide) rfl hl.1 rfl (lv_room (Nat.le_of_ble_eq_true rfl)) dX12_tested_78 ⟨Nat.zero_le _, Nat.zero_le _⟩ (fun M1 H locs h hP hS => ?_)
  refine lv_aload_n hx hb dX12_tested_81 rfl (lv_at hl 1 rfl) ?_
  refine lv_iload_n hx hb dX12_tested_82 rfl (lv_at hl 0 rfl) ?_
  refine q_Si hx hb hml hown hts hK hP hS (c_X12_strength l D G S _ zs0 _ h) ⟨callB_of 1 hts (gw_good kw_1619) rfl rfl rfl (hts _ (List.mem_cons_of_mem _ kw_14)) (hts _ (List.mem_cons_of_mem _ kw_1617)) hd_X12_strength ⟨Nat.le_of_ble_eq_true rfl, Nat.le_of_ble_eq_true rfl⟩, (hts _ (List.mem_cons_of_mem _ kw_1618))⟩ rfl hl.1 rfl (lv_room (Nat.le_of_ble_eq_true rfl)) dX12_tested_83 ⟨Nat.zero_le _, Nat.zero_le _⟩ (fun z4 M2 H locs h hP hS => ?_)
  refine q_Vv hx hb hml hown hts hK hP hS (c_X12_settles l D G S _ xl0 z4 _ h.2) ⟨callB_of 1 hts (gw_good kw_1616) rfl rfl rfl (hts _ (List.mem_cons_of_mem _ kw_14)) (hts _ (List.mem_cons_of_mem _ kw_1613)) hd_X12_settles ⟨Nat.le_of_ble_eq_true rfl, Nat.le_of_ble_eq_true rfl⟩, (hts _ (List.mem_cons_of_mem _ kw_1615)), (hts _ (List.mem_cons_of_mem _ kp_84))⟩ h.1 (ci := 12) rfl (by decide) rfl hl.1 rfl (lv_room (Nat.le_of_ble_eq_true rfl)) dX12_tested_86 ⟨Nat.zero_le _, Nat.zero_le _⟩ (fun M5 H locs h hP hS => ?_)
  refine lv_aload_n hx hb dX12_tested_89 rfl (lv_at hl 1 rfl) ?_
  refine r_getr (C := RX12) (T := TX12) (N := 38) hx hb hts (fun w h => List.mem_cons_of_mem _ (iX12 w h)) hown hK hP rfl (by decide) rfl 15 (by decide) (hts _ (List.mem_cons_of_mem _ kw_1349)) (fun _ h9 => h9) dX12_tested_90 (by decide) h (fun x7 h => ?_)
  refine lv_aload_n hx hb dX12_tested_93 rfl (lv_at hl 1 rfl) ?_
  refine r_geti (C := RX12) (T := TX12) (N := 38) hx hb hts (fun w h => List.mem_cons_of_mem _ (iX12 w h)) hown hK hP rfl (by decide) rfl 16 (by decide) (hts _ (List.mem_cons_of_mem _ kw_1350)) (fun _ h9 => h9) dX12_tested_94 (by decide) h (fun z9 h => ?_)
  refine lv_iload_n hx hb dX12_tested_97 rfl (lv_at hl 0 rfl) ?_
  refine r_iast hx hb hK hP hS dX12_tested_98 h (fun M10 H locs h hP hS => ?_)
  refine lv_aload_n hx hb dX12_tested_99 rfl (lv_at hl 1 rfl) ?_
  refine lv_dup hx hb dX12_tested_100 rfl ?_
  refine r_geti (C := RX12) (T := TX12) (N := 38) hx hb hts (fun w h => List.mem_cons_of_mem _ (iX12 w h)) hown hK hP rfl (by decide) rfl 16 (by decide) (hts _ (List.mem_cons_of_mem _ kw_1350)) (fun _ h9 => h9) dX12_tested_101 (by decide) h (fun z12 h => ?_)
  refine r_iconst hx hb dX12_tested_104 (by decide) h (fun z14 h => ?_)
  refine r_iadd hx hb dX12_tested_105 h (fun z16 h => ?_)
  refine r_puti (C := RX12) (T := TX12) (N := 38) hx hb hts (fun w h => List.mem_cons_of_mem _ (iX12 w h)) hown hK hP tyX12 tyX12_ok nmX12 hS rfl (by decide) rfl 16 (by decide) (hts _ (List.mem_cons_of_mem _ kw_1350)) (fun _ h9 => h9) rfl (tyX12_ok 16 (by decide)) rfl rfl dX12_tested_106 (by decide) h (fun M17 H locs h hP hS => ?_)
  refine lv_goto (tgt := 12) hx hb dX12_tested_109 (by decide) ?_
  exact hk12 xl0 zl1 _ _ _ _ hP hS (lv_sub hl [1, 2] rfl) h
set_option maxHeartbeats 4000000 in
set_option maxRecDepth 100000 in
theorem t_X12_tested_54 {p : Program} {l : Launch} {e : Env} {s : State} {m : MethodId} {args : Array Value} {below : List Frame} {meth : Method} {c : Code} {D : va_G} {G : Gt} {S : Sh} {post : Int → Mm → Prop} {k12 : Int → Int → Mm → Prop} (C : Cx p s m args meth c D G cX12_tested 3 (some .boolean) (cw_X12_tested :: gw) RX12) (hk12 : ∀ (y0 : Int) (y1 : Int32) (M : Mm) (H : Heap) (locs : List Loc) (ls : Array Slot), Wd D G S M H → va_S (aG G) s.heap H locs → lv_has ls 3 [(0, .ref (adr G y0)), (1, .int y1)] → k12 y0 y1.toInt M → W p l e RM_X12_tested s m args below meth c H locs 0 0 (MQ below (QI D G S post) args s 0 0 (aG G)) (F0 m 12 ls [])) : ∀ (xl0 : Int) (zs0 : Int32) (M : Mm) (H : Heap) (locs : List Loc) (ls : Array Slot), Wd D G S M H → va_S (aG G) s.heap H locs → lv_has ls 3 [(0, .ref (adr G xl0))] → wp_X12_tested_54 S k12 post xl0 zs0.toInt M → W p l e RM_X12_tested s m args below meth c H locs 0 0 (MQ below (QI D G S post) args s 0 0 (aG G)) (F0 m 54 ls [.int zs0]) := by
  obtain ⟨hx, hb, hr, hlocks, hml, hown, hts, hK⟩ := id C
  intro xl0 zs0 M H locs ls hP hS hl h
  unfold wp_X12_tested_54 at h
  refine lv_istore_n (lv' := [(1, .int zs0), (0, .ref (adr G xl0))]) hx hb dX12_tested_54 rfl hl (by decide) rfl (fun ls hl => ?_)
  refine lv_iload_n hx hb dX12_tested_55 rfl (lv_at hl 0 rfl) ?_
  refine r_if_eq (tgt := 12) hx hb dX12_tested_56 (by decide) h (fun h => ?_) (fun h => ?_)
  · exact hk12 xl0 zs0 _ _ _ _ hP hS (lv_sub hl [1, 0] rfl) h
  · refine lv_aload_n hx hb dX12_tested_59 rfl (lv_at hl 1 rfl) ?_
    refine r_ldc2 hx hb hown (hts _ (List.mem_cons_of_mem _ kw_1624)) dX12_tested_60 (n := 6385252) (by decide) h (fun z19 h => ?_)
    refine q_Vi hx hb hml hown hts hK hP hS (c_X12_isWord l D G S _ xl0 z19 _ h.2) ⟨callB_of 1 hts (gw_good kw_1486) rfl rfl rfl (hts _ (List.mem_cons_of_mem _ kw_14)) (hts _ (List.mem_cons_of_mem _ kw_1483)) hd_X12_isWord ⟨Nat.le_of_ble_eq_true rfl, Nat.le_of_ble_eq_true rfl⟩, (hts _ (List.mem_cons_of_mem _ kw_1485)), (hts _ (List.mem_cons_of_mem _ kp_56))⟩ h.1 (ci := 12) rfl (by decide) rfl hl.1 rfl (lv_room (Nat.le_of_ble_eq_true rfl)) dX12_tested_63 ⟨Nat.zero_le _, Nat.zero_le _⟩ (fun z22 M20 H locs h hP hS => ?_)
    refine r_if_eq (tgt := 74) hx hb dX12_tested_66 (by decide) h (fun h => ?_) (fun h => ?_)
    · refine r_bipush hx hb dX12_tested_74 (by decide) h (fun z24 h => ?_)
      exact t_X12_tested_76 C hk12 xl0 zs0 z24 _ _ _ _ hP hS (lv_sub hl [1, 0] rfl) h
    · refine r_bipush hx hb dX12_tested_69 (by decide) h (fun z26 h => ?_)
      refine lv_goto (tgt := 76) hx hb dX12_tested_71 (by decide) ?_
      exact t_X12_tested_76 C hk12 xl0 zs0 z26 _ _ _ _ hP hS (lv_sub hl [1, 0] rfl) h
set_option maxHeartbeats 4000000 in
set_option maxRecDepth 100000 in
theorem t_X12_tested_49 {p : Program} {l : Launch} {e : Env} {s : State} {m : MethodId} {args : Array Value} {below : List Frame} {meth : Method} {c : Code} {D : va_G} {G : Gt} {S : Sh} {post : Int → Mm → Prop} {k12 : Int → Int → Mm → Prop} (C : Cx p s m args meth c D G cX12_tested 3 (some .boolean) (cw_X12_tested :: gw) RX12) (hk12 : ∀ (y0 : Int) (y1 : Int32) (M : Mm) (H : Heap) (locs : List Loc) (ls : Array Slot), Wd D G S M H → va_S (aG G) s.heap H locs → lv_has ls 3 [(0, .ref (adr G y0)), (1, .int y1)] → k12 y0 y1.toInt M → W p l e RM_X12_tested s m args below meth c H locs 0 0 (MQ below (QI D G S post) args s 0 0 (aG G)) (F0 m 12 ls [])) : ∀ (xl0 : Int) (M : Mm) (H : Heap) (locs : List Loc) (ls : Array Slot), Wd D G S M H → va_S (aG G) s.heap H locs → lv_has ls 3 [(0, .ref (adr G xl0))] → wp_X12_tested_49 S k12 post xl0  M → W p l e RM_X12_tested s m args below meth c H locs 0 0 (MQ below (QI D G S post) args s 0 0 (aG G)) (F0 m 49 ls []) := by
  obtain ⟨hx, hb, hr, hlocks, hml, hown, hts, hK⟩ := id C
  intro xl0 M H locs ls hP hS hl h
  unfold wp_X12_tested_49 at h
  refine r_iconst hx hb dX12_tested_49 (by decide) h (fun z28 h => ?_)
  refine lv_goto (tgt := 54) hx hb dX12_tested_50 (by decide) ?_
  exact t_X12_tested_54 C hk12 xl0 z28 _ _ _ _ hP hS (lv_sub hl [0] rfl) h
set_option maxHeartbeats 4000000 in
set_option maxRecDepth 100000 in
theorem t_X12_tested_12 {p : Program} {l : Launch} {e : Env} {s : State} {m : MethodId} {args : Array Value} {below : List Frame} {meth : Method} {c : Code} {D : va_G} {G : Gt} {S : Sh} {post : Int → Mm → Prop} (C : Cx p s m args meth c D G cX12_tested 3 (some .boolean) (cw_X12_tested :: gw) RX12) : ∀ (n : Nat) (xl0 : Int) (zl1 : Int32) (M : Mm) (H : Heap) (locs : List Loc) (ls : Array Slot), Wd D G S M H → va_S (aG G) s.heap H locs → lv_has ls 3 [(0, .ref (adr G xl0)), (1, .int zl1)] → wp_X12_tested_12 S post n xl0 zl1.toInt  M → W p l e RM_X12_tested s m args below meth c H locs 0 0 (MQ below (QI D G S post) args s 0 0 (aG G)) (F0 m 12 ls []) := by
  obtain ⟨hx, hb, hr, hlocks, hml, hown, hts, hK⟩ := id C
  intro n
  induction n with
  | zero => intro xl0 zl1 M H locs ls hP hS hl h; exact h.elim
  | succ n ih =>
    intro xl0 zl1 M H locs ls hP hS hl h
    unfold wp_X12_tested_12 at h
    refine lv_iload_n hx hb dX12_tested_12 rfl (lv_at hl 1 rfl) ?_
    refine r_if_eq (tgt := 112) hx hb dX12_tested_13 (by decide) h (fun h => ?_) (fun h => ?_)
    · refine lv_aload_n hx hb dX12_tested_112 rfl (lv_at hl 0 rfl) ?_
      refine q_Vi hx hb hml hown hts hK hP hS (c_X12_isInside l D G S _ xl0 _ h.2) ⟨callB_of 0 hts (gw_good kw_1623) rfl rfl rfl (hts _ (List.mem_cons_of_mem _ kw_14)) (hts _ (List.mem_cons_of_mem _ kw_1620)) hd_X12_isInside ⟨Nat.le_of_ble_eq_true rfl, Nat.le_of_ble_eq_true rfl⟩, (hts _ (List.mem_cons_of_mem _ kw_1622)), (hts _ (List.mem_cons_of_mem _ kp_85))⟩ h.1 (ci := 12) rfl (by decide) rfl hl.1 rfl (lv_room (Nat.le_of_ble_eq_true rfl)) dX12_tested_113 ⟨Nat.zero_le _, Nat.zero_le _⟩ (fun z31 M29 H locs h hP hS => ?_)
      refine r_if_eq (tgt := 134) hx hb dX12_tested_116 (by decide) h (fun h => ?_) (fun h => ?_)
      · refine lv_aload_n hx hb dX12_tested_134 rfl (lv_at hl 0 rfl) ?_
        refine r_iconst hx hb dX12_tested_135 (by decide) h (fun z33 h => ?_)
        refine q_Vv hx hb hml hown hts hK hP hS (c_X12_settles l D G S _ xl0 z33 _ h.2) ⟨callB_of 1 hts (gw_good kw_1616) rfl rfl rfl (hts _ (List.mem_cons_of_mem _ kw_14)) (hts _ (List.mem_cons_of_mem _ kw_1613)) hd_X12_settles ⟨Nat.le_of_ble_eq_true rfl, Nat.le_of_ble_eq_true rfl⟩, (hts _ (List.mem_cons_of_mem _ kw_1615)), (hts _ (List.mem_cons_of_mem _ kp_84))⟩ h.1 (ci := 12) rfl (by decide) rfl hl.1 rfl (lv_room (Nat.le_of_ble_eq_true rfl)) dX12_tested_136 ⟨Nat.zero_le _, Nat.zero_le _⟩ (fun M34 H locs h hP hS => ?_)
        refine r_iconst hx hb dX12_tested_139 (by decide) h (fun z36 h => ?_)
        exact r_zret hx hb hr hlocks hP hS dX12_tested_140 h
      · refine lv_aload_n hx hb dX12_tested_119 rfl (lv_at hl 0 rfl) ?_
        refine q_Vi hx hb hml hown hts hK hP hS (c_X12_see l D G S _ xl0 _ h.2) ⟨callB_of 0 hts (gw_good kw_1477) rfl rfl rfl (hts _ (List.mem_cons_of_mem _ kw_14)) (hts _ (List.mem_cons_of_mem _ kw_1474)) hd_X12_see ⟨Nat.le_of_ble_eq_true rfl, Nat.le_of_ble_eq_true rfl⟩, (hts _ (List.mem_cons_of_mem _ kw_1476)), (hts _ (List.mem_cons_of_mem _ kp_54))⟩ h.1 (ci := 12) rfl (by decide) rfl hl.1 rfl (lv_room (Nat.le_of_ble_eq_true rfl)) dX12_tested_120 ⟨Nat.zero_le _, Nat.zero_le _⟩ (fun z39 M37 H locs h hP hS => ?_)
        refine lv_pop hx hb dX12_tested_123 rfl ?_
        refine lv_aload_n hx hb dX12_tested_124 rfl (lv_at hl 0 rfl) ?_
        refine r_iconst hx hb dX12_tested_125 (by decide) h (fun z41 h => ?_)
        refine lv_aload_n hx hb dX12_tested_126 rfl (lv_at hl 0 rfl) ?_
        refine r_geti (C := RX12) (T := TX12) (N := 38) hx hb hts (fun w h => List.mem_cons_of_mem _ (iX12 w h)) hown hK hP rfl (by decide) rfl 8 (by decide) (hts _ (List.mem_cons_of_mem _ kw_1342)) (fun _ h9 => h9) dX12_tested_127 (by decide) h (fun z43 h => ?_)
        refine q_Vi hx hb hml hown hts hK hP hS (c_X12_fails l D G S _ xl0 z41 z43 _ h.2) ⟨callB_of 2 hts (gw_good kw_1500) rfl rfl rfl (hts _ (List.mem_cons_of_mem _ kw_14)) (hts _ (List.mem_cons_of_mem _ kw_1497)) hd_X12_fails ⟨Nat.le_of_ble_eq_true rfl, Nat.le_of_ble_eq_true rfl⟩, (hts _ (List.mem_cons_of_mem _ kw_1499)), (hts _ (List.mem_cons_of_mem _ kp_58))⟩ h.1 (ci := 12) rfl (by decide) rfl hl.1 rfl (lv_room (Nat.le_of_ble_eq_true rfl)) dX12_tested_130 ⟨Nat.zero_le _, Nat.zero_le _⟩ (fun z46 M44 H locs h hP hS => ?_)
        exact r_zret hx hb hr hlocks hP hS dX12_tested_133 h
    · refine lv_aload_n hx hb dX12_tested_16 rfl (lv_at hl 0 rfl) ?_
      refine q_Vi hx hb hml hown hts hK hP hS (c_X12_fact l D G S _ xl0 _ h.2) ⟨callB_of 0 hts (gw_good kw_1599) rfl rfl rfl (hts _ (List.mem_cons_of_mem _ kw_14)) (hts _ (List.mem_cons_of_mem _ kw_1596)) hd_X12_fact ⟨Nat.le_of_ble_eq_true rfl, Nat.le_of_ble_eq_true rfl⟩, (hts _ (List.mem_cons_of_mem _ kw_1598)), (hts _ (List.mem_cons_of_mem _ kp_80))⟩ h.1 (ci := 12) rfl (by decide) rfl hl.1 rfl (lv_room (Nat.le_of_ble_eq_true rfl)) dX12_tested_17 ⟨Nat.zero_le _, Nat.zero_le _⟩ (fun z49 M47 H locs h hP hS => ?_)
      refine r_if_ne (tgt := 25) hx hb dX12_tested_20 (by decide) h (fun h => ?_) (fun h => ?_)
      · refine lv_aload_n hx hb dX12_tested_25 rfl (lv_at hl 0 rfl) ?_
        refine q_Vv hx hb hml hown hts hK hP hS (c_X12_closes l D G S _ xl0 _ h.2) ⟨callB_of 0 hts (gw_good kw_1612) rfl rfl rfl (hts _ (List.mem_cons_of_mem _ kw_14)) (hts _ (List.mem_cons_of_mem _ kw_1609)) hd_X12_closes ⟨Nat.le_of_ble_eq_true rfl, Nat.le_of_ble_eq_true rfl⟩, (hts _ (List.mem_cons_of_mem _ kw_1611)), (hts _ (List.mem_cons_of_mem _ kp_83))⟩ h.1 (ci := 12) rfl (by decide) rfl hl.1 rfl (lv_room (Nat.le_of_ble_eq_true rfl)) dX12_tested_26 ⟨Nat.zero_le _, Nat.zero_le _⟩ (fun M50 H locs h hP hS => ?_)
        refine lv_aload_n hx hb dX12_tested_29 rfl (lv_at hl 0 rfl) ?_
        refine r_ldc2 hx hb hown (hts _ (List.mem_cons_of_mem _ kw_1624)) dX12_tested_30 (n := 6385252) (by decide) h (fun z52 h => ?_)
        refine q_Vi hx hb hml hown hts hK hP hS (c_X12_isWord l D G S _ xl0 z52 _ h.2) ⟨callB_of 1 hts (gw_good kw_1486) rfl rfl rfl (hts _ (List.mem_cons_of_mem _ kw_14)) (hts _ (List.mem_cons_of_mem _ kw_1483)) hd_X12_isWord ⟨Nat.le_of_ble_eq_true rfl, Nat.le_of_ble_eq_true rfl⟩, (hts _ (List.mem_cons_of_mem _ kw_1485)), (hts _ (List.mem_cons_of_mem _ kp_56))⟩ h.1 (ci := 12) rfl (by decide) rfl hl.1 rfl (lv_room (Nat.le_of_ble_eq_true rfl)) dX12_tested_33 ⟨Nat.zero_le _, Nat.zero_le _⟩ (fun z55 M53 H locs h hP hS => ?_)
        refine r_if_ne (tgt := 49) hx hb dX12_tested_36 (by decide) h (fun h => ?_) (fun h => ?_)
        · exact t_X12_tested_49 C ih xl0 _ _ _ _ hP hS (lv_sub hl [0] rfl) h
        · refine lv_aload_n hx hb dX12_tested_39 rfl (lv_at hl 0 rfl) ?_
          refine r_ldc2 hx hb hown (hts _ (List.mem_cons_of_mem _ kw_1625)) dX12_tested_40 (n := 28530) (by decide) h (fun z57 h => ?_)
          refine q_Vi hx hb hml hown hts hK hP hS (c_X12_isWord l D G S _ xl0 z57 _ h.2) ⟨callB_of 1 hts (gw_good kw_1486) rfl rfl rfl (hts _ (List.mem_cons_of_mem _ kw_14)) (hts _ (List.mem_cons_of_mem _ kw_1483)) hd_X12_isWord ⟨Nat.le_of_ble_eq_true rfl, Nat.le_of_ble_eq_true rfl⟩, (hts _ (List.mem_cons_of_mem _ kw_1485)), (hts _ (List.mem_cons_of_mem _ kp_56))⟩ h.1 (ci := 12) rfl (by decide) rfl hl.1 rfl (lv_room (Nat.le_of_ble_eq_true rfl)) dX12_tested_43 ⟨Nat.zero_le _, Nat.zero_le _⟩ (fun z60 M58 H locs h hP hS => ?_)
          refine r_if_eq (tgt := 53) hx hb dX12_tested_46 (by decide) h (fun h => ?_) (fun h => ?_)
          · refine r_iconst hx hb dX12_tested_53 (by decide) h (fun z62 h => ?_)
            exact t_X12_tested_54 C ih xl0 z62 _ _ _ _ hP hS (lv_sub hl [0] rfl) h
          · exact t_X12_tested_49 C ih xl0 _ _ _ _ hP hS (lv_sub hl [0] rfl) h
      · refine r_iconst hx hb dX12_tested_23 (by decide) h (fun z64 h => ?_)
        exact r_zret hx hb hr hlocks hP hS dX12_tested_24 h
set_option maxHeartbeats 4000000 in
set_option maxRecDepth 100000 in
theorem c_X12_tested (l : Launch) (D : va_G) (G : Gt) (S : Sh) (M : Mm) (xl0 : Int) (post : Int → Mm → Prop) (h : wp_X12_tested S M xl0 post) : Met l yX12_tested (cw_X12_tested :: gw) RM_X12_tested (va_Pc [.ref (adr G xl0)] (fun U => KN D G U ∧ Wd D G S M U.heap)) (QI D G S post) 0 0 (aG G) := by
  refine Met.ofW (cc := cX12_tested) (maxL := 3) (ret := (some .boolean)) (by decide) rfl ?_
  intro p e s m args below meth c s₁ B hml hv
  obtain ⟨rfl, hK, hP⟩ := hv
  have hx := B.exec
  have hb := B.bytes
  have hr := B.returns
  have hts := atoms_spec (ws := cw_X12_tested :: gw) B.pre
  have hown : s.vm.findClass RX12 = some m.cls := findClass_of_methodNamed B.named
  have hlocks := B.notSynchronized
  have hS : va_S (aG G) s.heap s.heap [] := va_S.rf
  have C : Cx p s m ([.ref (adr G xl0)] : List Value).toArray meth c D G cX12_tested 3 (some .boolean) (cw_X12_tested :: gw) RX12 := ⟨hx, hb, hr, hlocks, hml, hown, hts, hK⟩
  have hl := lv_entry ([.ref (adr G xl0)]) (n := 3) (Nat.le_of_ble_eq_true rfl)
  rw [lg_entry_eq]
  generalize (lg_sl ([.ref (adr G xl0)]) ++ List.replicate (3 - (lg_sl ([.ref (adr G xl0)])).length) Slot.unset).toArray = ls at hl ⊢
  have hl : lv_has ls 3 [(0, .ref (adr G xl0))] := hl
  unfold wp_X12_tested at h
  refine lv_aload_n hx hb dX12_tested_0 rfl (lv_at hl 0 rfl) ?_
  refine r_iconst hx hb dX12_tested_1 (by decide) h (fun z66 h => ?_)
  refine r_puti (C := RX12) (T := TX12) (N := 38) hx hb hts (fun w h => List.mem_cons_of_mem _ (iX12 w h)) hown hK hP tyX12 tyX12_ok nmX12 hS rfl (by decide) rfl 16 (by decide) (hts _ (List.mem_cons_of_mem _ kw_1350)) (fun _ h9 => h9) rfl (tyX12_ok 16 (by decide)) rfl rfl dX12_tested_2 (by decide) h (fun M67 H locs h hP hS => ?_)
  refine lv_aload_n hx hb dX12_tested_5 rfl (lv_at hl 0 rfl) ?_
  refine r_iconst hx hb dX12_tested_6 (by decide) h (fun z69 h => ?_)
  refine r_puti (C := RX12) (T := TX12) (N := 38) hx hb hts (fun w h => List.mem_cons_of_mem _ (iX12 w h)) hown hK hP tyX12 tyX12_ok nmX12 hS rfl (by decide) rfl 13 (by decide) (hts _ (List.mem_cons_of_mem _ kw_1347)) (fun _ h9 => h9) rfl (tyX12_ok 13 (by decide)) rfl rfl dX12_tested_7 (by decide) h (fun M70 H locs h hP hS => ?_)
  refine r_iconst hx hb dX12_tested_10 (by decide) h (fun z72 h => ?_)
  refine lv_istore_n (lv' := [(1, .int z72), (0, .ref (adr G xl0))]) hx hb dX12_tested_11 rfl hl (by decide) rfl (fun ls hl => ?_)
  obtain ⟨n9, h⟩ := h
  exact t_X12_tested_12 C n9 xl0 z72 _ _ _ _ hP hS (lv_sub hl [1, 0] rfl) h
/-! TurningMilkModel.isTurnHere()Z -/
abbrev RM_X12_isTurnHere : Room := { frames := 10, cells := 0, slots := 0, locals := 238 }
def cw_X12_isTurnHere : Cond := Cond.code yX12_isTurnHere cX12_isTurnHere 2 (Option.some FieldType.boolean)
theorem hd_X12_isTurnHere : yX12_isTurnHere.cls ≠ "java/lang/invoke/MethodHandle" ∧ yX12_isTurnHere.cls ≠ "java/lang/invoke/VarHandle" ∧ (parseMethodDescriptor yX12_isTurnHere.desc).map (fun d => d.parameters.length) = some 0 := by decide +kernel
theorem dX12_isTurnHere_0 : decode cX12_isTurnHere 0 = .ok (.aload_n 0, 1) := by decide +kernel
theorem dX12_isTurnHere_1 : decode cX12_isTurnHere 1 = .ok (.invokevirtual 105, 3) := by decide +kernel
theorem dX12_isTurnHere_4 : decode cX12_isTurnHere 4 = .ok (.bipush 48, 2) := by decide +kernel
theorem dX12_isTurnHere_6 : decode cX12_isTurnHere 6 = .ok (.aload_n 0, 1) := by decide +kernel
theorem dX12_isTurnHere_7 : decode cX12_isTurnHere 7 = .ok (.getfield 142, 3) := by decide +kernel
theorem dX12_isTurnHere_10 : decode cX12_isTurnHere 10 = .ok (.imul, 1) := by decide +kernel
theorem dX12_isTurnHere_11 : decode cX12_isTurnHere 11 = .ok (.iconst 4, 1) := by decide +kernel
theorem dX12_isTurnHere_12 : decode cX12_isTurnHere 12 = .ok (.aload_n 0, 1) := by decide +kernel
theorem dX12_isTurnHere_13 : decode cX12_isTurnHere 13 = .ok (.getfield 23, 3) := by decide +kernel
theorem dX12_isTurnHere_16 : decode cX12_isTurnHere 16 = .ok (.aload_n 0, 1) := by decide +kernel
theorem dX12_isTurnHere_17 : decode cX12_isTurnHere 17 = .ok (.getfield 142, 3) := by decide +kernel
theorem dX12_isTurnHere_20 : decode cX12_isTurnHere 20 = .ok (.iaload, 1) := by decide +kernel
theorem dX12_isTurnHere_21 : decode cX12_isTurnHere 21 = .ok (.imul, 1) := by decide +kernel
theorem dX12_isTurnHere_22 : decode cX12_isTurnHere 22 = .ok (.iadd, 1) := by decide +kernel
theorem dX12_isTurnHere_23 : decode cX12_isTurnHere 23 = .ok (.istore_n 1, 1) := by decide +kernel
theorem dX12_isTurnHere_24 : decode cX12_isTurnHere 24 = .ok (.aload_n 0, 1) := by decide +kernel
theorem dX12_isTurnHere_25 : decode cX12_isTurnHere 25 = .ok (.getfield 20, 3) := by decide +kernel
theorem dX12_isTurnHere_28 : decode cX12_isTurnHere 28 = .ok (.iload_n 1, 1) := by decide +kernel
theorem dX12_isTurnHere_29 : decode cX12_isTurnHere 29 = .ok (.aload_n 0, 1) := by decide +kernel
theorem dX12_isTurnHere_30 : decode cX12_isTurnHere 30 = .ok (.getfield 17, 3) := by decide +kernel
theorem dX12_isTurnHere_33 : decode cX12_isTurnHere 33 = .ok (.aload_n 0, 1) := by decide +kernel
theorem dX12_isTurnHere_34 : decode cX12_isTurnHere 34 = .ok (.getfield 142, 3) := by decide +kernel
theorem dX12_isTurnHere_37 : decode cX12_isTurnHere 37 = .ok (.iaload, 1) := by decide +kernel
theorem dX12_isTurnHere_38 : decode cX12_isTurnHere 38 = .ok (.iastore, 1) := by decide +kernel
theorem dX12_isTurnHere_39 : decode cX12_isTurnHere 39 = .ok (.aload_n 0, 1) := by decide +kernel
theorem dX12_isTurnHere_40 : decode cX12_isTurnHere 40 = .ok (.invokevirtual 179, 3) := by decide +kernel
theorem dX12_isTurnHere_43 : decode cX12_isTurnHere 43 = .ok (.ifCond .ne 5, 3) := by decide +kernel
theorem dX12_isTurnHere_46 : decode cX12_isTurnHere 46 = .ok (.iconst 0, 1) := by decide +kernel
theorem dX12_isTurnHere_47 : decode cX12_isTurnHere 47 = .ok (.ireturn, 1) := by decide +kernel
theorem dX12_isTurnHere_48 : decode cX12_isTurnHere 48 = .ok (.aload_n 0, 1) := by decide +kernel
theorem dX12_isTurnHere_49 : decode cX12_isTurnHere 49 = .ok (.getfield 20, 3) := by decide +kernel
theorem dX12_isTurnHere_52 : decode cX12_isTurnHere 52 = .ok (.iload_n 1, 1) := by decide +kernel
theorem dX12_isTurnHere_53 : decode cX12_isTurnHere 53 = .ok (.iconst 1, 1) := by decide +kernel
theorem dX12_isTurnHere_54 : decode cX12_isTurnHere 54 = .ok (.iadd, 1) := by decide +kernel
theorem dX12_isTurnHere_55 : decode cX12_isTurnHere 55 = .ok (.aload_n 0, 1) := by decide +kernel
theorem dX12_isTurnHere_56 : decode cX12_isTurnHere 56 = .ok (.getfield 17, 3) := by decide +kernel
theorem dX12_isTurnHere_59 : decode cX12_isTurnHere 59 = .ok (.aload_n 0, 1) := by decide +kernel
theorem dX12_isTurnHere_60 : decode cX12_isTurnHere 60 = .ok (.getfield 142, 3) := by decide +kernel
theorem dX12_isTurnHere_63 : decode cX12_isTurnHere 63 = .ok (.iaload, 1) := by decide +kernel
theorem dX12_isTurnHere_64 : decode cX12_isTurnHere 64 = .ok (.iastore, 1) := by decide +kernel
theorem dX12_isTurnHere_65 : decode cX12_isTurnHere 65 = .ok (.aload_n 0, 1) := by decide +kernel
theorem dX12_isTurnHere_66 : decode cX12_isTurnHere 66 = .ok (.getfield 20, 3) := by decide +kernel
theorem dX12_isTurnHere_69 : decode cX12_isTurnHere 69 = .ok (.iload_n 1, 1) := by decide +kernel
theorem dX12_isTurnHere_70 : decode cX12_isTurnHere 70 = .ok (.iconst 2, 1) := by decide +kernel
theorem dX12_isTurnHere_71 : decode cX12_isTurnHere 71 = .ok (.iadd, 1) := by decide +kernel
theorem dX12_isTurnHere_72 : decode cX12_isTurnHere 72 = .ok (.iconst (-1), 1) := by decide +kernel
theorem dX12_isTurnHere_73 : decode cX12_isTurnHere 73 = .ok (.iastore, 1) := by decide +kernel
theorem dX12_isTurnHere_74 : decode cX12_isTurnHere 74 = .ok (.aload_n 0, 1) := by decide +kernel
theorem dX12_isTurnHere_75 : decode cX12_isTurnHere 75 = .ok (.ldc2_w 206, 3) := by decide +kernel
theorem dX12_isTurnHere_78 : decode cX12_isTurnHere 78 = .ok (.invokevirtual 208, 3) := by decide +kernel
theorem dX12_isTurnHere_81 : decode cX12_isTurnHere 81 = .ok (.ifCond .eq 29, 3) := by decide +kernel
theorem dX12_isTurnHere_84 : decode cX12_isTurnHere 84 = .ok (.aload_n 0, 1) := by decide +kernel
theorem dX12_isTurnHere_85 : decode cX12_isTurnHere 85 = .ok (.getfield 20, 3) := by decide +kernel
theorem dX12_isTurnHere_88 : decode cX12_isTurnHere 88 = .ok (.iload_n 1, 1) := by decide +kernel
theorem dX12_isTurnHere_89 : decode cX12_isTurnHere 89 = .ok (.iconst 2, 1) := by decide +kernel
theorem dX12_isTurnHere_90 : decode cX12_isTurnHere 90 = .ok (.iadd, 1) := by decide +kernel
theorem dX12_isTurnHere_91 : decode cX12_isTurnHere 91 = .ok (.aload_n 0, 1) := by decide +kernel
theorem dX12_isTurnHere_92 : decode cX12_isTurnHere 92 = .ok (.getfield 17, 3) := by decide +kernel
theorem dX12_isTurnHere_95 : decode cX12_isTurnHere 95 = .ok (.aload_n 0, 1) := by decide +kernel
theorem dX12_isTurnHere_96 : decode cX12_isTurnHere 96 = .ok (.getfield 142, 3) := by decide +kernel
theorem dX12_isTurnHere_99 : decode cX12_isTurnHere 99 = .ok (.iaload, 1) := by decide +kernel
theorem dX12_isTurnHere_100 : decode cX12_isTurnHere 100 = .ok (.iastore, 1) := by decide +kernel
theorem dX12_isTurnHere_101 : decode cX12_isTurnHere 101 = .ok (.aload_n 0, 1) := by decide +kernel
theorem dX12_isTurnHere_102 : decode cX12_isTurnHere 102 = .ok (.invokevirtual 211, 3) := by decide +kernel
theorem dX12_isTurnHere_105 : decode cX12_isTurnHere 105 = .ok (.ifCond .ne 5, 3) := by decide +kernel
theorem dX12_isTurnHere_108 : decode cX12_isTurnHere 108 = .ok (.iconst 0, 1) := by decide +kernel
theorem dX12_isTurnHere_109 : decode cX12_isTurnHere 109 = .ok (.ireturn, 1) := by decide +kernel
theorem dX12_isTurnHere_110 : decode cX12_isTurnHere 110 = .ok (.aload_n 0, 1) := by decide +kernel
theorem dX12_isTurnHere_111 : decode cX12_isTurnHere 111 = .ok (.getfield 20, 3) := by decide +kernel
theorem dX12_isTurnHere_114 : decode cX12_isTurnHere 114 = .ok (.iload_n 1, 1) := by decide +kernel
theorem dX12_isTurnHere_115 : decode cX12_isTurnHere 115 = .ok (.iconst 3, 1) := by decide +kernel
theorem dX12_isTurnHere_116 : decode cX12_isTurnHere 116 = .ok (.iadd, 1) := by decide +kernel
theorem dX12_isTurnHere_117 : decode cX12_isTurnHere 117 = .ok (.aload_n 0, 1) := by decide +kernel
theorem dX12_isTurnHere_118 : decode cX12_isTurnHere 118 = .ok (.getfield 17, 3) := by decide +kernel
theorem dX12_isTurnHere_121 : decode cX12_isTurnHere 121 = .ok (.aload_n 0, 1) := by decide +kernel
theorem dX12_isTurnHere_122 : decode cX12_isTurnHere 122 = .ok (.getfield 142, 3) := by decide +kernel
theorem dX12_isTurnHere_125 : decode cX12_isTurnHere 125 = .ok (.iaload, 1) := by decide +kernel
theorem dX12_isTurnHere_126 : decode cX12_isTurnHere 126 = .ok (.iastore, 1) := by decide +kernel
theorem dX12_isTurnHere_127 : decode cX12_isTurnHere 127 = .ok (.aload_n 0, 1) := by decide +kernel
theorem dX12_isTurnHere_128 : decode cX12_isTurnHere 128 = .ok (.getfield 23, 3) := by decide +kernel
theorem dX12_isTurnHere_131 : decode cX12_isTurnHere 131 = .ok (.aload_n 0, 1) := by decide +kernel
theorem dX12_isTurnHere_132 : decode cX12_isTurnHere 132 = .ok (.getfield 142, 3) := by decide +kernel
theorem dX12_isTurnHere_135 : decode cX12_isTurnHere 135 = .ok (.dup2, 1) := by decide +kernel
theorem dX12_isTurnHere_136 : decode cX12_isTurnHere 136 = .ok (.iaload, 1) := by decide +kernel
theorem dX12_isTurnHere_137 : decode cX12_isTurnHere 137 = .ok (.iconst 1, 1) := by decide +kernel
theorem dX12_isTurnHere_138 : decode cX12_isTurnHere 138 = .ok (.iadd, 1) := by decide +kernel
theorem dX12_isTurnHere_139 : decode cX12_isTurnHere 139 = .ok (.iastore, 1) := by decide +kernel
theorem dX12_isTurnHere_140 : decode cX12_isTurnHere 140 = .ok (.iconst 1, 1) := by decide +kernel
theorem dX12_isTurnHere_141 : decode cX12_isTurnHere 141 = .ok (.ireturn, 1) := by decide +kernel
def wp_X12_isTurnHere_110 (S : Sh) (post : Int → Mm → Prop) (u0 : Int) (u1 : Int) (M : Mm) : Prop := wGetR S M u0 12 5 fun v1 => wC 3 fun v3 => wA u1 v3 fun v5 => wGetR S M u0 12 4 fun v7 => wGet S M u0 12 11 fun v9 => wLd S M v7 14 v9 fun v11 => wSt S M v1 14 v5 v11 fun M13 => wGetR S M13 u0 12 6 fun v14 => wGet S M13 u0 12 11 fun v16 => wLd S M13 v14 14 v16 fun v18 => wC 1 fun v20 => wA v18 v20 fun v22 => wSt S M13 v14 14 v16 v22 fun M24 => wC 1 fun v25 => (v25 = 0 ∨ v25 = 1) ∧ post v25 M24
def wp_X12_isTurnHere (S : Sh) (M : Mm) (u0 : Int) (post : Int → Mm → Prop) : Prop := isK S u0 12 ∧ (wp_X12_passWord S M u0 <| fun M27 => wC 48 fun v28 => wGet S M27 u0 12 11 fun v30 => wM v28 v30 fun v32 => wC 4 fun v34 => wGetR S M27 u0 12 6 fun v36 => wGet S M27 u0 12 11 fun v38 => wLd S M27 v36 14 v38 fun v40 => wM v34 v40 fun v42 => wA v32 v42 fun v44 => wGetR S M27 u0 12 5 fun v46 => wGetR S M27 u0 12 4 fun v48 => wGet S M27 u0 12 11 fun v50 => wLd S M27 v48 14 v50 fun v52 => wSt S M27 v46 14 v44 v52 fun M54 => isK S u0 12 ∧ (wp_X12_sum S M54 u0 <| fun v56 M55 => wIf (¬ v56 = 0) (wGetR S M55 u0 12 5 fun v58 => wC 1 fun v60 => wA v44 v60 fun v62 => wGetR S M55 u0 12 4 fun v64 => wGet S M55 u0 12 11 fun v66 => wLd S M55 v64 14 v66 fun v68 => wSt S M55 v58 14 v62 v68 fun M70 => wGetR S M70 u0 12 5 fun v71 => wC 2 fun v73 => wA v44 v73 fun v75 => wC (-1) fun v77 => wSt S M70 v71 14 v75 v77 fun M79 => wC 26982 fun v80 => isK S u0 12 ∧ (wp_X12_takesWord S M79 u0 v80 <| fun v83 M82 => wIf (v83 = 0) (wp_X12_isTurnHere_110 S post u0 v44 M82) (wGetR S M82 u0 12 5 fun v85 => wC 2 fun v87 => wA v44 v87 fun v89 => wGetR S M82 u0 12 4 fun v91 => wGet S M82 u0 12 11 fun v93 => wLd S M82 v91 14 v93 fun v95 => wSt S M82 v85 14 v89 v95 fun M97 => isK S u0 12 ∧ (wp_X12_tested S M97 u0 <| fun v99 M98 => wIf (¬ v99 = 0) (wp_X12_isTurnHere_110 S post u0 v44 M98) (wC 0 fun v101 => (v101 = 0 ∨ v101 = 1) ∧ post v101 M98))))) (wC 0 fun v103 => (v103 = 0 ∨ v103 = 1) ∧ post v103 M55)))
set_option maxHeartbeats 4000000 in
set_option maxRecDepth 100000 in
theorem t_X12_isTurnHere_110 {p : Program} {l : Launch} {e : Env} {s : State} {m : MethodId} {args : Array Value} {below : List Frame} {meth : Method} {c : Code} {D : va_G} {G : Gt} {S : Sh} {post : Int → Mm → Prop} (C : Cx p s m args meth c D G cX12_isTurnHere 2 (some .boolean) (cw_X12_isTurnHere :: gw) RX12) : ∀ (xl0 : Int) (zl1 : Int32) (M : Mm) (H : Heap) (locs : List Loc) (ls : Array Slot), Wd D G S M H → va_S (aG G) s.heap H locs → lv_has ls 2 [(0, .ref (adr G xl0)), (1, .int zl1)] → wp_X12_isTurnHere_110 S post xl0 zl1.toInt  M → W p l e RM_X12_isTurnHere s m args below meth c H locs 0 0 (MQ below (QI D G S post) args s 0 0 (aG G)) (F0 m 110 ls []) := by
  obtain ⟨hx, hb, hr, hlocks, hml, hown, hts, hK⟩ := id C
  intro xl0 zl1 M H locs ls hP hS hl h
  unfold wp_X12_isTurnHere_110 at h
  refine lv_aload_n hx hb dX12_isTurnHere_110 rfl (lv_at hl 0 rfl) ?_
  refine r_getr (C := RX12) (T := TX12) (N := 38) hx hb hts (fun w h => List.mem_cons_of_mem _ (iX12 w h)) hown hK hP rfl (by decide) rfl 5 (by decide) (hts _ (List.mem_cons_of_mem _ kw_1339)) (fun _ h9 => h9) dX12_isTurnHere_111 (by decide) h (fun x2 h => ?_)
  refine lv_iload_n hx hb dX12_isTurnHere_114 rfl (lv_at hl 1 rfl) ?_
  refine r_iconst hx hb dX12_isTurnHere_115 (by decide) h (fun z4 h => ?_)
  refine r_iadd hx hb dX12_isTurnHere_116 h (fun z6 h => ?_)
  refine lv_aload_n hx hb dX12_isTurnHere_117 rfl (lv_at hl 0 rfl) ?_
  refine r_getr (C := RX12) (T := TX12) (N := 38) hx hb hts (fun w h => List.mem_cons_of_mem _ (iX12 w h)) hown hK hP rfl (by decide) rfl 4 (by decide) (hts _ (List.mem_cons_of_mem _ kw_1338)) (fun _ h9 => h9) dX12_isTurnHere_118 (by decide) h (fun x8 h => ?_)
  refine lv_aload_n hx hb dX12_isTurnHere_121 rfl (lv_at hl 0 rfl) ?_
  refine r_geti (C := RX12) (T := TX12) (N := 38) hx hb hts (fun w h => List.mem_cons_of_mem _ (iX12 w h)) hown hK hP rfl (by decide) rfl 11 (by decide) (hts _ (List.mem_cons_of_mem _ kw_1345)) (fun _ h9 => h9) dX12_isTurnHere_122 (by decide) h (fun z10 h => ?_)
  refine r_iald hx hb hK hP dX12_isTurnHere_125 h (fun z12 h => ?_)
  refine r_iast hx hb hK hP hS dX12_isTurnHere_126 h (fun M13 H locs h hP hS => ?_)
  refine lv_aload_n hx hb dX12_isTurnHere_127 rfl (lv_at hl 0 rfl) ?_
  refine r_getr (C := RX12) (T := TX12) (N := 38) hx hb hts (fun w h => List.mem_cons_of_mem _ (iX12 w h)) hown hK hP rfl (by decide) rfl 6 (by decide) (hts _ (List.mem_cons_of_mem _ kw_1340)) (fun _ h9 => h9) dX12_isTurnHere_128 (by decide) h (fun x15 h => ?_)
  refine lv_aload_n hx hb dX12_isTurnHere_131 rfl (lv_at hl 0 rfl) ?_
  refine r_geti (C := RX12) (T := TX12) (N := 38) hx hb hts (fun w h => List.mem_cons_of_mem _ (iX12 w h)) hown hK hP rfl (by decide) rfl 11 (by decide) (hts _ (List.mem_cons_of_mem _ kw_1345)) (fun _ h9 => h9) dX12_isTurnHere_132 (by decide) h (fun z17 h => ?_)
  refine lv_dup2_11 hx hb dX12_isTurnHere_135 rfl rfl ?_
  refine r_iald hx hb hK hP dX12_isTurnHere_136 h (fun z19 h => ?_)
  refine r_iconst hx hb dX12_isTurnHere_137 (by decide) h (fun z21 h => ?_)
  refine r_iadd hx hb dX12_isTurnHere_138 h (fun z23 h => ?_)
  refine r_iast hx hb hK hP hS dX12_isTurnHere_139 h (fun M24 H locs h hP hS => ?_)
  refine r_iconst hx hb dX12_isTurnHere_140 (by decide) h (fun z26 h => ?_)
  exact r_zret hx hb hr hlocks hP hS dX12_isTurnHere_141 h
set_option maxHeartbeats 4000000 in
set_option maxRecDepth 100000 in
theorem c_X12_isTurnHere (l : Launch) (D : va_G) (G : Gt) (S : Sh) (M : Mm) (xl0 : Int) (post : Int → Mm → Prop) (h : wp_X12_isTurnHere S M xl0 post) : Met l yX12_isTurnHere (cw_X12_isTurnHere :: gw) RM_X12_isTurnHere (va_Pc [.ref (adr G xl0)] (fun U => KN D G U ∧ Wd D G S M U.heap)) (QI D G S post) 0 0 (aG G) := by
  refine Met.ofW (cc := cX12_isTurnHere) (maxL := 2) (ret := (some .boolean)) (by decide) rfl ?_
  intro p e s m args below meth c s₁ B hml hv
  obtain ⟨rfl, hK, hP⟩ := hv
  have hx := B.exec
  have hb := B.bytes
  have hr := B.returns
  have hts := atoms_spec (ws := cw_X12_isTurnHere :: gw) B.pre
  have hown : s.vm.findClass RX12 = some m.cls := findClass_of_methodNamed B.named
  have hlocks := B.notSynchronized
  have hS : va_S (aG G) s.heap s.heap [] := va_S.rf
  have C : Cx p s m ([.ref (adr G xl0)] : List Value).toArray meth c D G cX12_isTurnHere 2 (some .boolean) (cw_X12_isTurnHere :: gw) RX12 := ⟨hx, hb, hr, hlocks, hml, hown, hts, hK⟩
  have hl := lv_entry ([.ref (adr G xl0)]) (n := 2) (Nat.le_of_ble_eq_true rfl)
  rw [lg_entry_eq]
  generalize (lg_sl ([.ref (adr G xl0)]) ++ List.replicate (2 - (lg_sl ([.ref (adr G xl0)])).length) Slot.unset).toArray = ls at hl ⊢
  have hl : lv_has ls 2 [(0, .ref (adr G xl0))] := hl
  unfold wp_X12_isTurnHere at h
  refine lv_aload_n hx hb dX12_isTurnHere_0 rfl (lv_at hl 0 rfl) ?_
  refine q_Vv hx hb hml hown hts hK hP hS (c_X12_passWord l D G S _ xl0 _ h.2) ⟨callB_of 0 hts (gw_good kw_1512) rfl rfl rfl (hts _ (List.mem_cons_of_mem _ kw_14)) (hts _ (List.mem_cons_of_mem _ kw_1509)) hd_X12_passWord ⟨Nat.le_of_ble_eq_true rfl, Nat.le_of_ble_eq_true rfl⟩, (hts _ (List.mem_cons_of_mem _ kw_1511)), (hts _ (List.mem_cons_of_mem _ kp_61))⟩ h.1 (ci := 12) rfl (by decide) rfl hl.1 rfl (lv_room (Nat.le_of_ble_eq_true rfl)) dX12_isTurnHere_1 ⟨Nat.zero_le _, Nat.zero_le _⟩ (fun M27 H locs h hP hS => ?_)
  refine r_bipush hx hb dX12_isTurnHere_4 (by decide) h (fun z29 h => ?_)
  refine lv_aload_n hx hb dX12_isTurnHere_6 rfl (lv_at hl 0 rfl) ?_
  refine r_geti (C := RX12) (T := TX12) (N := 38) hx hb hts (fun w h => List.mem_cons_of_mem _ (iX12 w h)) hown hK hP rfl (by decide) rfl 11 (by decide) (hts _ (List.mem_cons_of_mem _ kw_1345)) (fun _ h9 => h9) dX12_isTurnHere_7 (by decide) h (fun z31 h => ?_)
  refine r_imul hx hb dX12_isTurnHere_10 h (fun z33 h => ?_)
  refine r_iconst hx hb dX12_isTurnHere_11 (by decide) h (fun z35 h => ?_)
  refine lv_aload_n hx hb dX12_isTurnHere_12 rfl (lv_at hl 0 rfl) ?_
  refine r_getr (C := RX12) (T := TX12) (N := 38) hx hb hts (fun w h => List.mem_cons_of_mem _ (iX12 w h)) hown hK hP rfl (by decide) rfl 6 (by decide) (hts _ (List.mem_cons_of_mem _ kw_1340)) (fun _ h9 => h9) dX12_isTurnHere_13 (by decide) h (fun x37 h => ?_)
  refine lv_aload_n hx hb dX12_isTurnHere_16 rfl (lv_at hl 0 rfl) ?_
  refine r_geti (C := RX12) (T := TX12) (N := 38) hx hb hts (fun w h => List.mem_cons_of_mem _ (iX12 w h)) hown hK hP rfl (by decide) rfl 11 (by decide) (hts _ (List.mem_cons_of_mem _ kw_1345)) (fun _ h9 => h9) dX12_isTurnHere_17 (by decide) h (fun z39 h => ?_)
  refine r_iald hx hb hK hP dX12_isTurnHere_20 h (fun z41 h => ?_)
  refine r_imul hx hb dX12_isTurnHere_21 h (fun z43 h => ?_)
  refine r_iadd hx hb dX12_isTurnHere_22 h (fun z45 h => ?_)
  refine lv_istore_n (lv' := [(1, .int z45), (0, .ref (adr G xl0))]) hx hb dX12_isTurnHere_23 rfl hl (by decide) rfl (fun ls hl => ?_)
  refine lv_aload_n hx hb dX12_isTurnHere_24 rfl (lv_at hl 1 rfl) ?_
  refine r_getr (C := RX12) (T := TX12) (N := 38) hx hb hts (fun w h => List.mem_cons_of_mem _ (iX12 w h)) hown hK hP rfl (by decide) rfl 5 (by decide) (hts _ (List.mem_cons_of_mem _ kw_1339)) (fun _ h9 => h9) dX12_isTurnHere_25 (by decide) h (fun x47 h => ?_)
  refine lv_iload_n hx hb dX12_isTurnHere_28 rfl (lv_at hl 0 rfl) ?_
  refine lv_aload_n hx hb dX12_isTurnHere_29 rfl (lv_at hl 1 rfl) ?_
  refine r_getr (C := RX12) (T := TX12) (N := 38) hx hb hts (fun w h => List.mem_cons_of_mem _ (iX12 w h)) hown hK hP rfl (by decide) rfl 4 (by decide) (hts _ (List.mem_cons_of_mem _ kw_1338)) (fun _ h9 => h9) dX12_isTurnHere_30 (by decide) h (fun x49 h => ?_)
  refine lv_aload_n hx hb dX12_isTurnHere_33 rfl (lv_at hl 1 rfl) ?_
  refine r_geti (C := RX12) (T := TX12) (N := 38) hx hb hts (fun w h => List.mem_cons_of_mem _ (iX12 w h)) hown hK hP rfl (by decide) rfl 11 (by decide) (hts _ (List.mem_cons_of_mem _ kw_1345)) (fun _ h9 => h9) dX12_isTurnHere_34 (by decide) h (fun z51 h => ?_)
  refine r_iald hx hb hK hP dX12_isTurnHere_37 h (fun z53 h => ?_)
  refine r_iast hx hb hK hP hS dX12_isTurnHere_38 h (fun M54 H locs h hP hS => ?_)
  refine lv_aload_n hx hb dX12_isTurnHere_39 rfl (lv_at hl 1 rfl) ?_
  refine q_Vi hx hb hml hown hts hK hP hS (c_X12_sum l D G S _ xl0 _ h.2) ⟨callB_of 0 hts (gw_good kw_1559) rfl rfl rfl (hts _ (List.mem_cons_of_mem _ kw_14)) (hts _ (List.mem_cons_of_mem _ kw_1556)) hd_X12_sum ⟨Nat.le_of_ble_eq_true rfl, Nat.le_of_ble_eq_true rfl⟩, (hts _ (List.mem_cons_of_mem _ kw_1558)), (hts _ (List.mem_cons_of_mem _ kp_72))⟩ h.1 (ci := 12) rfl (by decide) rfl hl.1 rfl (lv_room (Nat.le_of_ble_eq_true rfl)) dX12_isTurnHere_40 ⟨Nat.zero_le _, Nat.zero_le _⟩ (fun z57 M55 H locs h hP hS => ?_)
  refine r_if_ne (tgt := 48) hx hb dX12_isTurnHere_43 (by decide) h (fun h => ?_) (fun h => ?_)
  · refine lv_aload_n hx hb dX12_isTurnHere_48 rfl (lv_at hl 1 rfl) ?_
    refine r_getr (C := RX12) (T := TX12) (N := 38) hx hb hts (fun w h => List.mem_cons_of_mem _ (iX12 w h)) hown hK hP rfl (by decide) rfl 5 (by decide) (hts _ (List.mem_cons_of_mem _ kw_1339)) (fun _ h9 => h9) dX12_isTurnHere_49 (by decide) h (fun x59 h => ?_)
    refine lv_iload_n hx hb dX12_isTurnHere_52 rfl (lv_at hl 0 rfl) ?_
    refine r_iconst hx hb dX12_isTurnHere_53 (by decide) h (fun z61 h => ?_)
    refine r_iadd hx hb dX12_isTurnHere_54 h (fun z63 h => ?_)
    refine lv_aload_n hx hb dX12_isTurnHere_55 rfl (lv_at hl 1 rfl) ?_
    refine r_getr (C := RX12) (T := TX12) (N := 38) hx hb hts (fun w h => List.mem_cons_of_mem _ (iX12 w h)) hown hK hP rfl (by decide) rfl 4 (by decide) (hts _ (List.mem_cons_of_mem _ kw_1338)) (fun _ h9 => h9) dX12_isTurnHere_56 (by decide) h (fun x65 h => ?_)
    refine lv_aload_n hx hb dX12_isTurnHere_59 rfl (lv_at hl 1 rfl) ?_
    refine r_geti (C := RX12) (T := TX12) (N := 38) hx hb hts (fun w h => List.mem_cons_of_mem _ (iX12 w h)) hown hK hP rfl (by decide) rfl 11 (by decide) (hts _ (List.mem_cons_of_mem _ kw_1345)) (fun _ h9 => h9) dX12_isTurnHere_60 (by decide) h (fun z67 h => ?_)
    refine r_iald hx hb hK hP dX12_isTurnHere_63 h (fun z69 h => ?_)
    refine r_iast hx hb hK hP hS dX12_isTurnHere_64 h (fun M70 H locs h hP hS => ?_)
    refine lv_aload_n hx hb dX12_isTurnHere_65 rfl (lv_at hl 1 rfl) ?_
    refine r_getr (C := RX12) (T := TX12) (N := 38) hx hb hts (fun w h => List.mem_cons_of_mem _ (iX12 w h)) hown hK hP rfl (by decide) rfl 5 (by decide) (hts _ (List.mem_cons_of_mem _ kw_1339)) (fun _ h9 => h9) dX12_isTurnHere_66 (by decide) h (fun x72 h => ?_)
    refine lv_iload_n hx hb dX12_isTurnHere_69 rfl (lv_at hl 0 rfl) ?_
    refine r_iconst hx hb dX12_isTurnHere_70 (by decide) h (fun z74 h => ?_)
    refine r_iadd hx hb dX12_isTurnHere_71 h (fun z76 h => ?_)
    refine r_iconst hx hb dX12_isTurnHere_72 (by decide) h (fun z78 h => ?_)
    refine r_iast hx hb hK hP hS dX12_isTurnHere_73 h (fun M79 H locs h hP hS => ?_)
    refine lv_aload_n hx hb dX12_isTurnHere_74 rfl (lv_at hl 1 rfl) ?_
    refine r_ldc2 hx hb hown (hts _ (List.mem_cons_of_mem _ kw_1587)) dX12_isTurnHere_75 (n := 26982) (by decide) h (fun z81 h => ?_)
    refine q_Vi hx hb hml hown hts hK hP hS (c_X12_takesWord l D G S _ xl0 z81 _ h.2) ⟨callB_of 1 hts (gw_good kw_1591) rfl rfl rfl (hts _ (List.mem_cons_of_mem _ kw_14)) (hts _ (List.mem_cons_of_mem _ kw_1588)) hd_X12_takesWord ⟨Nat.le_of_ble_eq_true rfl, Nat.le_of_ble_eq_true rfl⟩, (hts _ (List.mem_cons_of_mem _ kw_1590)), (hts _ (List.mem_cons_of_mem _ kp_78))⟩ h.1 (ci := 12) rfl (by decide) rfl hl.1 rfl (lv_room (Nat.le_of_ble_eq_true rfl)) dX12_isTurnHere_78 ⟨Nat.zero_le _, Nat.zero_le _⟩ (fun z84 M82 H locs h hP hS => ?_)
    refine r_if_eq (tgt := 110) hx hb dX12_isTurnHere_81 (by decide) h (fun h => ?_) (fun h => ?_)
    · exact t_X12_isTurnHere_110 C xl0 z45 _ _ _ _ hP hS (lv_sub hl [1, 0] rfl) h
    · refine lv_aload_n hx hb dX12_isTurnHere_84 rfl (lv_at hl 1 rfl) ?_
      refine r_getr (C := RX12) (T := TX12) (N := 38) hx hb hts (fun w h => List.mem_cons_of_mem _ (iX12 w h)) hown hK hP rfl (by decide) rfl 5 (by decide) (hts _ (List.mem_cons_of_mem _ kw_1339)) (fun _ h9 => h9) dX12_isTurnHere_85 (by decide) h (fun x86 h => ?_)
      refine lv_iload_n hx hb dX12_isTurnHere_88 rfl (lv_at hl 0 rfl) ?_
      refine r_iconst hx hb dX12_isTurnHere_89 (by decide) h (fun z88 h => ?_)
      refine r_iadd hx hb dX12_isTurnHere_90 h (fun z90 h => ?_)
      refine lv_aload_n hx hb dX12_isTurnHere_91 rfl (lv_at hl 1 rfl) ?_
      refine r_getr (C := RX12) (T := TX12) (N := 38) hx hb hts (fun w h => List.mem_cons_of_mem _ (iX12 w h)) hown hK hP rfl (by decide) rfl 4 (by decide) (hts _ (List.mem_cons_of_mem _ kw_1338)) (fun _ h9 => h9) dX12_isTurnHere_92 (by decide) h (fun x92 h => ?_)
      refine lv_aload_n hx hb dX12_isTurnHere_95 rfl (lv_at hl 1 rfl) ?_
      refine r_geti (C := RX12) (T := TX12) (N := 38) hx hb hts (fun w h => List.mem_cons_of_mem _ (iX12 w h)) hown hK hP rfl (by decide) rfl 11 (by decide) (hts _ (List.mem_cons_of_mem _ kw_1345)) (fun _ h9 => h9) dX12_isTurnHere_96 (by decide) h (fun z94 h => ?_)
      refine r_iald hx hb hK hP dX12_isTurnHere_99 h (fun z96 h => ?_)
      refine r_iast hx hb hK hP hS dX12_isTurnHere_100 h (fun M97 H locs h hP hS => ?_)
      refine lv_aload_n hx hb dX12_isTurnHere_101 rfl (lv_at hl 1 rfl) ?_
      refine q_Vi hx hb hml hown hts hK hP hS (c_X12_tested l D G S _ xl0 _ h.2) ⟨callB_of 0 hts (gw_good kw_1595) rfl rfl rfl (hts _ (List.mem_cons_of_mem _ kw_14)) (hts _ (List.mem_cons_of_mem _ kw_1592)) hd_X12_tested ⟨Nat.le_of_ble_eq_true rfl, Nat.le_of_ble_eq_true rfl⟩, (hts _ (List.mem_cons_of_mem _ kw_1594)), (hts _ (List.mem_cons_of_mem _ kp_79))⟩ h.1 (ci := 12) rfl (by decide) rfl hl.1 rfl (lv_room (Nat.le_of_ble_eq_true rfl)) dX12_isTurnHere_102 ⟨Nat.zero_le _, Nat.zero_le _⟩ (fun z100 M98 H locs h hP hS => ?_)
      refine r_if_ne (tgt := 110) hx hb dX12_isTurnHere_105 (by decide) h (fun h => ?_) (fun h => ?_)
      · exact t_X12_isTurnHere_110 C xl0 z45 _ _ _ _ hP hS (lv_sub hl [1, 0] rfl) h
      · refine r_iconst hx hb dX12_isTurnHere_108 (by decide) h (fun z102 h => ?_)
        exact r_zret hx hb hr hlocks hP hS dX12_isTurnHere_109 h
  · refine r_iconst hx hb dX12_isTurnHere_46 (by decide) h (fun z104 h => ?_)
    exact r_zret hx hb hr hlocks hP hS dX12_isTurnHere_47 h
