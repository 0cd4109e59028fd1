/-! TurningMilk$Tape.isDigit(I)Z -/
abbrev RM_X7_isDigit : Room := { frames := 1, cells := 0, slots := 0, locals := 40 }
def cw_X7_isDigit : Cond := Cond.code yX7_isDigit cX7_isDigit 1 (Option.some FieldType.boolean)
theorem hd_X7_isDigit : yX7_isDigit.cls ≠ "java/lang/invoke/MethodHandle" ∧ yX7_isDigit.cls ≠ "java/lang/invoke/VarHandle" ∧ (parseMethodDescriptor yX7_isDigit.desc).map (fun d => d.parameters.length) = some 1 := by decide +kernel
theorem dX7_isDigit_0 : decode cX7_isDigit 0 = .ok (.iload_n 0, 1) := by decide +kernel
theorem dX7_isDigit_1 : decode cX7_isDigit 1 = .ok (.bipush 48, 2) := by decide +kernel
theorem dX7_isDigit_3 : decode cX7_isDigit 3 = .ok (.if_icmp .lt 13, 3) := by decide +kernel
theorem dX7_isDigit_6 : decode cX7_isDigit 6 = .ok (.iload_n 0, 1) := by decide +kernel
theorem dX7_isDigit_7 : decode cX7_isDigit 7 = .ok (.bipush 57, 2) := by decide +kernel
theorem dX7_isDigit_9 : decode cX7_isDigit 9 = .ok (.if_icmp .gt 7, 3) := by decide +kernel
theorem dX7_isDigit_12 : decode cX7_isDigit 12 = .ok (.iconst 1, 1) := by decide +kernel
theorem dX7_isDigit_13 : decode cX7_isDigit 13 = .ok (.goto 4, 3) := by decide +kernel
theorem dX7_isDigit_16 : decode cX7_isDigit 16 = .ok (.iconst 0, 1) := by decide +kernel
theorem dX7_isDigit_17 : decode cX7_isDigit 17 = .ok (.ireturn, 1) := by decide +kernel
def wp_X7_isDigit (S : Sh) (M : Mm) (u0 : Int) (post : Int → Mm → Prop) : Prop := wC 48 fun v1 => wIf (u0 < v1) (wC 0 fun v3 => (v3 = 0 ∨ v3 = 1) ∧ post v3 M) (wC 57 fun v5 => wIf (v5 < u0) (wC 0 fun v7 => (v7 = 0 ∨ v7 = 1) ∧ post v7 M) (wC 1 fun v9 => (v9 = 0 ∨ v9 = 1) ∧ post v9 M))
set_option maxHeartbeats 4000000 in
set_option maxRecDepth 100000 in
theorem c_X7_isDigit (l : Launch) (D : va_G) (G : Gt) (S : Sh) (M : Mm) (zl0 : Int32) (post : Int → Mm → Prop) (h : wp_X7_isDigit S M zl0.toInt post) : Met l yX7_isDigit (cw_X7_isDigit :: gw) RM_X7_isDigit (va_Pc [.int zl0] (fun U => KN D G U ∧ Wd D G S M U.heap)) (QI D G S post) 0 0 (aG G) := by
  refine Met.ofW (cc := cX7_isDigit) (maxL := 1) (ret := (some .boolean)) (by decide) rfl ?_
  intro p e s m args below meth c s₁ B hml hv
  obtain ⟨rfl, hK, hP⟩ := hv
  have hx := B.exec
  have hb := B.bytes
  have hr := B.returns
  have hts := atoms_spec (ws := cw_X7_isDigit :: gw) B.pre
  have hown : s.vm.findClass RX7 = some m.cls := findClass_of_methodNamed B.named
  have hlocks := B.notSynchronized
  have hS : va_S (aG G) s.heap s.heap [] := va_S.rf
  have C : Cx p s m ([.int zl0] : List Value).toArray meth c D G cX7_isDigit 1 (some .boolean) (cw_X7_isDigit :: gw) RX7 := ⟨hx, hb, hr, hlocks, hml, hown, hts, hK⟩
  have hl := lv_entry ([.int zl0]) (n := 1) (Nat.le_of_ble_eq_true rfl)
  rw [lg_entry_eq]
  generalize (lg_sl ([.int zl0]) ++ List.replicate (1 - (lg_sl ([.int zl0])).length) Slot.unset).toArray = ls at hl ⊢
  have hl : lv_has ls 1 [(0, .int zl0)] := hl
  unfold wp_X7_isDigit at h
  refine lv_iload_n hx hb dX7_isDigit_0 rfl (lv_at hl 0 rfl) ?_
  refine r_bipush hx hb dX7_isDigit_1 (by decide) h (fun z2 h => ?_)
  refine r_icmp_lt (tgt := 16) hx hb dX7_isDigit_3 (by decide) h (fun h => ?_) (fun h => ?_)
  · refine r_iconst hx hb dX7_isDigit_16 (by decide) h (fun z4 h => ?_)
    exact r_zret hx hb hr hlocks hP hS dX7_isDigit_17 h
  · refine lv_iload_n hx hb dX7_isDigit_6 rfl (lv_at hl 0 rfl) ?_
    refine r_bipush hx hb dX7_isDigit_7 (by decide) h (fun z6 h => ?_)
    refine r_icmp_gt (tgt := 16) hx hb dX7_isDigit_9 (by decide) h (fun h => ?_) (fun h => ?_)
    · refine r_iconst hx hb dX7_isDigit_16 (by decide) h (fun z8 h => ?_)
      exact r_zret hx hb hr hlocks hP hS dX7_isDigit_17 h
    · refine r_iconst hx hb dX7_isDigit_12 (by decide) h (fun z10 h => ?_)
      refine lv_goto (tgt := 17) hx hb dX7_isDigit_13 (by decide) ?_
      exact r_zret hx hb hr hlocks hP hS dX7_isDigit_17 h
/-! TurningMilk$Tape.takeNumber(II)I -/
abbrev RM_X7_takeNumber : Room := { frames := 2, cells := 0, slots := 0, locals := 61 }
def cw_X7_takeNumber : Cond := Cond.code yX7_takeNumber cX7_takeNumber 4 (Option.some FieldType.int)
theorem hd_X7_takeNumber : yX7_takeNumber.cls ≠ "java/lang/invoke/MethodHandle" ∧ yX7_takeNumber.cls ≠ "java/lang/invoke/VarHandle" ∧ (parseMethodDescriptor yX7_takeNumber.desc).map (fun d => d.parameters.length) = some 2 := by decide +kernel
theorem dX7_takeNumber_0 : decode cX7_takeNumber 0 = .ok (.aload_n 0, 1) := by decide +kernel
theorem dX7_takeNumber_1 : decode cX7_takeNumber 1 = .ok (.invokevirtual 28, 3) := by decide +kernel
theorem dX7_takeNumber_4 : decode cX7_takeNumber 4 = .ok (.invokestatic 44, 3) := by decide +kernel
theorem dX7_takeNumber_7 : decode cX7_takeNumber 7 = .ok (.ifCond .ne 11, 3) := by decide +kernel
theorem dX7_takeNumber_10 : decode cX7_takeNumber 10 = .ok (.aload_n 0, 1) := by decide +kernel
theorem dX7_takeNumber_11 : decode cX7_takeNumber 11 = .ok (.iconst 0, 1) := by decide +kernel
theorem dX7_takeNumber_12 : decode cX7_takeNumber 12 = .ok (.invokevirtual 48, 3) := by decide +kernel
theorem dX7_takeNumber_15 : decode cX7_takeNumber 15 = .ok (.pop, 1) := by decide +kernel
theorem dX7_takeNumber_16 : decode cX7_takeNumber 16 = .ok (.iconst (-1), 1) := by decide +kernel
theorem dX7_takeNumber_17 : decode cX7_takeNumber 17 = .ok (.ireturn, 1) := by decide +kernel
theorem dX7_takeNumber_18 : decode cX7_takeNumber 18 = .ok (.iconst 0, 1) := by decide +kernel
theorem dX7_takeNumber_19 : decode cX7_takeNumber 19 = .ok (.istore_n 3, 1) := by decide +kernel
theorem dX7_takeNumber_20 : decode cX7_takeNumber 20 = .ok (.aload_n 0, 1) := by decide +kernel
theorem dX7_takeNumber_21 : decode cX7_takeNumber 21 = .ok (.getfield 19, 3) := by decide +kernel
theorem dX7_takeNumber_24 : decode cX7_takeNumber 24 = .ok (.aload_n 0, 1) := by decide +kernel
theorem dX7_takeNumber_25 : decode cX7_takeNumber 25 = .ok (.getfield 15, 3) := by decide +kernel
theorem dX7_takeNumber_28 : decode cX7_takeNumber 28 = .ok (.if_icmp .ge 64, 3) := by decide +kernel
theorem dX7_takeNumber_31 : decode cX7_takeNumber 31 = .ok (.aload_n 0, 1) := by decide +kernel
theorem dX7_takeNumber_32 : decode cX7_takeNumber 32 = .ok (.aload_n 0, 1) := by decide +kernel
theorem dX7_takeNumber_33 : decode cX7_takeNumber 33 = .ok (.getfield 19, 3) := by decide +kernel
theorem dX7_takeNumber_36 : decode cX7_takeNumber 36 = .ok (.invokevirtual 32, 3) := by decide +kernel
theorem dX7_takeNumber_39 : decode cX7_takeNumber 39 = .ok (.invokestatic 44, 3) := by decide +kernel
theorem dX7_takeNumber_42 : decode cX7_takeNumber 42 = .ok (.ifCond .eq 50, 3) := by decide +kernel
theorem dX7_takeNumber_45 : decode cX7_takeNumber 45 = .ok (.aload_n 0, 1) := by decide +kernel
theorem dX7_takeNumber_46 : decode cX7_takeNumber 46 = .ok (.getfield 19, 3) := by decide +kernel
theorem dX7_takeNumber_49 : decode cX7_takeNumber 49 = .ok (.aload_n 0, 1) := by decide +kernel
theorem dX7_takeNumber_50 : decode cX7_takeNumber 50 = .ok (.getfield 22, 3) := by decide +kernel
theorem dX7_takeNumber_53 : decode cX7_takeNumber 53 = .ok (.isub, 1) := by decide +kernel
theorem dX7_takeNumber_54 : decode cX7_takeNumber 54 = .ok (.iconst 5, 1) := by decide +kernel
theorem dX7_takeNumber_55 : decode cX7_takeNumber 55 = .ok (.if_icmp .ge 22, 3) := by decide +kernel
theorem dX7_takeNumber_58 : decode cX7_takeNumber 58 = .ok (.iload_n 3, 1) := by decide +kernel
theorem dX7_takeNumber_59 : decode cX7_takeNumber 59 = .ok (.bipush 10, 2) := by decide +kernel
theorem dX7_takeNumber_61 : decode cX7_takeNumber 61 = .ok (.imul, 1) := by decide +kernel
theorem dX7_takeNumber_62 : decode cX7_takeNumber 62 = .ok (.aload_n 0, 1) := by decide +kernel
theorem dX7_takeNumber_63 : decode cX7_takeNumber 63 = .ok (.aload_n 0, 1) := by decide +kernel
theorem dX7_takeNumber_64 : decode cX7_takeNumber 64 = .ok (.getfield 19, 3) := by decide +kernel
theorem dX7_takeNumber_67 : decode cX7_takeNumber 67 = .ok (.invokevirtual 32, 3) := by decide +kernel
theorem dX7_takeNumber_70 : decode cX7_takeNumber 70 = .ok (.iadd, 1) := by decide +kernel
theorem dX7_takeNumber_71 : decode cX7_takeNumber 71 = .ok (.bipush 48, 2) := by decide +kernel
theorem dX7_takeNumber_73 : decode cX7_takeNumber 73 = .ok (.isub, 1) := by decide +kernel
theorem dX7_takeNumber_74 : decode cX7_takeNumber 74 = .ok (.goto 4, 3) := by decide +kernel
theorem dX7_takeNumber_77 : decode cX7_takeNumber 77 = .ok (.iload_n 3, 1) := by decide +kernel
theorem dX7_takeNumber_78 : decode cX7_takeNumber 78 = .ok (.istore_n 3, 1) := by decide +kernel
theorem dX7_takeNumber_79 : decode cX7_takeNumber 79 = .ok (.aload_n 0, 1) := by decide +kernel
theorem dX7_takeNumber_80 : decode cX7_takeNumber 80 = .ok (.dup, 1) := by decide +kernel
theorem dX7_takeNumber_81 : decode cX7_takeNumber 81 = .ok (.getfield 19, 3) := by decide +kernel
theorem dX7_takeNumber_84 : decode cX7_takeNumber 84 = .ok (.iconst 1, 1) := by decide +kernel
theorem dX7_takeNumber_85 : decode cX7_takeNumber 85 = .ok (.iadd, 1) := by decide +kernel
theorem dX7_takeNumber_86 : decode cX7_takeNumber 86 = .ok (.putfield 19, 3) := by decide +kernel
theorem dX7_takeNumber_89 : decode cX7_takeNumber 89 = .ok (.goto (-69), 3) := by decide +kernel
theorem dX7_takeNumber_92 : decode cX7_takeNumber 92 = .ok (.aload_n 0, 1) := by decide +kernel
theorem dX7_takeNumber_93 : decode cX7_takeNumber 93 = .ok (.getfield 19, 3) := by decide +kernel
theorem dX7_takeNumber_96 : decode cX7_takeNumber 96 = .ok (.aload_n 0, 1) := by decide +kernel
theorem dX7_takeNumber_97 : decode cX7_takeNumber 97 = .ok (.getfield 22, 3) := by decide +kernel
theorem dX7_takeNumber_100 : decode cX7_takeNumber 100 = .ok (.isub, 1) := by decide +kernel
theorem dX7_takeNumber_101 : decode cX7_takeNumber 101 = .ok (.iconst 5, 1) := by decide +kernel
theorem dX7_takeNumber_102 : decode cX7_takeNumber 102 = .ok (.if_icmp .gt 13, 3) := by decide +kernel
theorem dX7_takeNumber_105 : decode cX7_takeNumber 105 = .ok (.iload_n 3, 1) := by decide +kernel
theorem dX7_takeNumber_106 : decode cX7_takeNumber 106 = .ok (.iload_n 1, 1) := by decide +kernel
theorem dX7_takeNumber_107 : decode cX7_takeNumber 107 = .ok (.if_icmp .lt 8, 3) := by decide +kernel
theorem dX7_takeNumber_110 : decode cX7_takeNumber 110 = .ok (.iload_n 3, 1) := by decide +kernel
theorem dX7_takeNumber_111 : decode cX7_takeNumber 111 = .ok (.iload_n 2, 1) := by decide +kernel
theorem dX7_takeNumber_112 : decode cX7_takeNumber 112 = .ok (.if_icmp .le 11, 3) := by decide +kernel
theorem dX7_takeNumber_115 : decode cX7_takeNumber 115 = .ok (.aload_n 0, 1) := by decide +kernel
theorem dX7_takeNumber_116 : decode cX7_takeNumber 116 = .ok (.iconst 1, 1) := by decide +kernel
theorem dX7_takeNumber_117 : decode cX7_takeNumber 117 = .ok (.invokevirtual 48, 3) := by decide +kernel
theorem dX7_takeNumber_120 : decode cX7_takeNumber 120 = .ok (.pop, 1) := by decide +kernel
theorem dX7_takeNumber_121 : decode cX7_takeNumber 121 = .ok (.iconst (-1), 1) := by decide +kernel
theorem dX7_takeNumber_122 : decode cX7_takeNumber 122 = .ok (.ireturn, 1) := by decide +kernel
theorem dX7_takeNumber_123 : decode cX7_takeNumber 123 = .ok (.iload_n 3, 1) := by decide +kernel
theorem dX7_takeNumber_124 : decode cX7_takeNumber 124 = .ok (.ireturn, 1) := by decide +kernel
def wp_X7_takeNumber_115 (S : Sh) (post : Int → Mm → Prop) (u0 : Int) (M : Mm) : Prop := wC 1 fun v1 => isK S u0 7 ∧ (wp_X7_refuse S M u0 v1 <| fun v4 M3 => wC (-1) fun v6 => post v6 M3)
def wp_X7_takeNumber_92 (S : Sh) (post : Int → Mm → Prop) (u0 : Int) (u1 : Int) (u2 : Int) (u3 : Int) (M : Mm) : Prop := wGet S M u0 7 2 fun v8 => wGet S M u0 7 3 fun v10 => wS v8 v10 fun v12 => wC 5 fun v14 => wIf (v14 < v12) (wp_X7_takeNumber_115 S post u0 M) (wIf (u3 < u1) (wp_X7_takeNumber_115 S post u0 M) (wIf (u3 ≤ u2) (post u3 M) (wp_X7_takeNumber_115 S post u0 M)))
def wp_X7_takeNumber_78 (S : Sh) (k20 : Int → Int → Int → Int → Mm → Prop) (post : Int → Mm → Prop) (u0 : Int) (u1 : Int) (u2 : Int) (t0 : Int) (M : Mm) : Prop := wGet S M u0 7 2 fun v16 => wC 1 fun v18 => wA v16 v18 fun v20 => wPut S M u0 7 2 v20 fun M22 => k20 u0 u1 u2 t0 M22
def wp_X7_takeNumber_20 (S : Sh) (post : Int → Mm → Prop) : Nat → Int → Int → Int → Int → Mm → Prop
  | 0, _, _, _, _, _ => False
  | n + 1, u0, u1, u2, u3, M => wGet S M u0 7 2 fun v23 => wGet S M u0 7 1 fun v25 => wIf (v25 ≤ v23) (wp_X7_takeNumber_92 S post u0 u1 u2 u3 M) (wGet S M u0 7 2 fun v27 => isK S u0 7 ∧ (wp_X7_byteAt S M u0 v27 <| fun v30 M29 => wp_X7_isDigit S M29 v30 <| fun v33 M32 => wIf (v33 = 0) (wp_X7_takeNumber_92 S post u0 u1 u2 u3 M32) (wGet S M32 u0 7 2 fun v35 => wGet S M32 u0 7 3 fun v37 => wS v35 v37 fun v39 => wC 5 fun v41 => wIf (v41 ≤ v39) (wp_X7_takeNumber_78 S (fun a0 a1 a2 a3 M => wp_X7_takeNumber_20 S post n a0 a1 a2 a3 M) post u0 u1 u2 u3 M32) (wC 10 fun v43 => wM u3 v43 fun v45 => wGet S M32 u0 7 2 fun v47 => isK S u0 7 ∧ (wp_X7_byteAt S M32 u0 v47 <| fun v50 M49 => wA v45 v50 fun v52 => wC 48 fun v54 => wS v52 v54 fun v56 => wp_X7_takeNumber_78 S (fun a0 a1 a2 a3 M => wp_X7_takeNumber_20 S post n a0 a1 a2 a3 M) post u0 u1 u2 v56 M49)))))
def wp_X7_takeNumber (S : Sh) (M : Mm) (u0 : Int) (u1 : Int) (u2 : Int) (post : Int → Mm → Prop) : Prop := isK S u0 7 ∧ (wp_X7_look S M u0 <| fun v59 M58 => wp_X7_isDigit S M58 v59 <| fun v62 M61 => wIf (¬ v62 = 0) (wC 0 fun v64 => ∃ n9 : Nat, wp_X7_takeNumber_20 S post n9 u0 u1 u2 v64 M61) (wC 0 fun v66 => isK S u0 7 ∧ (wp_X7_refuse S M61 u0 v66 <| fun v69 M68 => wC (-1) fun v71 => post v71 M68)))
set_option maxHeartbeats 4000000 in
set_option maxRecDepth 100000 in
theorem t_X7_takeNumber_115 {p : Program} {l : Launch} {e : Env} {s : State} {m : MethodId} {args : Array Value} {below : List Frame} {meth : Method} {c : Code} {D : va_G} {G : Gt} {S : Sh} {post : Int → Mm → Prop} (C : Cx p s m args meth c D G cX7_takeNumber 4 (some .int) (cw_X7_takeNumber :: gw) RX7) : ∀ (xl0 : Int) (M : Mm) (H : Heap) (locs : List Loc) (ls : Array Slot), Wd D G S M H → va_S (aG G) s.heap H locs → lv_has ls 4 [(0, .ref (adr G xl0))] → wp_X7_takeNumber_115 S post xl0  M → W p l e RM_X7_takeNumber s m args below meth c H locs 0 0 (MQ below (QI D G S post) args s 0 0 (aG G)) (F0 m 115 ls []) := by
  obtain ⟨hx, hb, hr, hlocks, hml, hown, hts, hK⟩ := id C
  intro xl0 M H locs ls hP hS hl h
  unfold wp_X7_takeNumber_115 at h
  refine lv_aload_n hx hb dX7_takeNumber_115 rfl (lv_at hl 0 rfl) ?_
  refine r_iconst hx hb dX7_takeNumber_116 (by decide) h (fun z2 h => ?_)
  refine q_Vi hx hb hml hown hts hK hP hS (c_X7_refuse l D G S _ xl0 z2 _ h.2) ⟨callB_of 1 hts (gw_good kw_657) rfl rfl rfl (hts _ (List.mem_cons_of_mem _ kw_2)) (hts _ (List.mem_cons_of_mem _ kw_673)) hd_X7_refuse ⟨Nat.le_of_ble_eq_true rfl, Nat.le_of_ble_eq_true rfl⟩, (hts _ (List.mem_cons_of_mem _ kw_655)), (hts _ (List.mem_cons_of_mem _ kw_656))⟩ h.1 (ci := 7) rfl (by decide) rfl hl.1 rfl (lv_room (Nat.le_of_ble_eq_true rfl)) dX7_takeNumber_117 ⟨Nat.zero_le _, Nat.zero_le _⟩ (fun z5 M3 H locs h hP hS => ?_)
  refine lv_pop hx hb dX7_takeNumber_120 rfl ?_
  refine r_iconst hx hb dX7_takeNumber_121 (by decide) h (fun z7 h => ?_)
  exact r_iret hx hb hr hlocks hP hS dX7_takeNumber_122 h
set_option maxHeartbeats 4000000 in
set_option maxRecDepth 100000 in
theorem t_X7_takeNumber_92 {p : Program} {l : Launch} {e : Env} {s : State} {m : MethodId} {args : Array Value} {below : List Frame} {meth : Method} {c : Code} {D : va_G} {G : Gt} {S : Sh} {post : Int → Mm → Prop} (C : Cx p s m args meth c D G cX7_takeNumber 4 (some .int) (cw_X7_takeNumber :: gw) RX7) : ∀ (xl0 : Int) (zl1 : Int32) (zl2 : Int32) (zl3 : Int32) (M : Mm) (H : Heap) (locs : List Loc) (ls : Array Slot), Wd D G S M H → va_S (aG G) s.heap H locs → lv_has ls 4 [(0, .ref (adr G xl0)), (1, .int zl1), (2, .int zl2), (3, .int zl3)] → wp_X7_takeNumber_92 S post xl0 zl1.toInt zl2.toInt zl3.toInt  M → W p l e RM_X7_takeNumber s m args below meth c H locs 0 0 (MQ below (QI D G S post) args s 0 0 (aG G)) (F0 m 92 ls []) := by
  obtain ⟨hx, hb, hr, hlocks, hml, hown, hts, hK⟩ := id C
  intro xl0 zl1 zl2 zl3 M H locs ls hP hS hl h
  unfold wp_X7_takeNumber_92 at h
  refine lv_aload_n hx hb dX7_takeNumber_92 rfl (lv_at hl 0 rfl) ?_
  refine r_geti (C := RX7) (T := TX7) (N := 5) hx hb hts (fun w h => List.mem_cons_of_mem _ (iX7 w h)) hown hK hP rfl (by decide) rfl 2 (by decide) (hts _ (List.mem_cons_of_mem _ kw_39)) (fun _ h9 => h9) dX7_takeNumber_93 (by decide) h (fun z9 h => ?_)
  refine lv_aload_n hx hb dX7_takeNumber_96 rfl (lv_at hl 0 rfl) ?_
  refine r_geti (C := RX7) (T := TX7) (N := 5) hx hb hts (fun w h => List.mem_cons_of_mem _ (iX7 w h)) hown hK hP rfl (by decide) rfl 3 (by decide) (hts _ (List.mem_cons_of_mem _ kw_40)) (fun _ h9 => h9) dX7_takeNumber_97 (by decide) h (fun z11 h => ?_)
  refine r_isub hx hb dX7_takeNumber_100 h (fun z13 h => ?_)
  refine r_iconst hx hb dX7_takeNumber_101 (by decide) h (fun z15 h => ?_)
  refine r_icmp_gt (tgt := 115) hx hb dX7_takeNumber_102 (by decide) h (fun h => ?_) (fun h => ?_)
  · exact t_X7_takeNumber_115 C xl0 _ _ _ _ hP hS (lv_sub hl [0] rfl) h
  · refine lv_iload_n hx hb dX7_takeNumber_105 rfl (lv_at hl 3 rfl) ?_
    refine lv_iload_n hx hb dX7_takeNumber_106 rfl (lv_at hl 1 rfl) ?_
    refine r_icmp_lt (tgt := 115) hx hb dX7_takeNumber_107 (by decide) h (fun h => ?_) (fun h => ?_)
    · exact t_X7_takeNumber_115 C xl0 _ _ _ _ hP hS (lv_sub hl [0] rfl) h
    · refine lv_iload_n hx hb dX7_takeNumber_110 rfl (lv_at hl 3 rfl) ?_
      refine lv_iload_n hx hb dX7_takeNumber_111 rfl (lv_at hl 2 rfl) ?_
      refine r_icmp_le (tgt := 123) hx hb dX7_takeNumber_112 (by decide) h (fun h => ?_) (fun h => ?_)
      · refine lv_iload_n hx hb dX7_takeNumber_123 rfl (lv_at hl 3 rfl) ?_
        exact r_iret hx hb hr hlocks hP hS dX7_takeNumber_124 h
      · exact t_X7_takeNumber_115 C xl0 _ _ _ _ hP hS (lv_sub hl [0] rfl) h
set_option maxHeartbeats 4000000 in
set_option maxRecDepth 100000 in
theorem t_X7_takeNumber_78 {p : Program} {l : Launch} {e : Env} {s : State} {m : MethodId} {args : Array Value} {below : List Frame} {meth : Method} {c : Code} {D : va_G} {G : Gt} {S : Sh} {post : Int → Mm → Prop} {k20 : Int → Int → Int → Int → Mm → Prop} (C : Cx p s m args meth c D G cX7_takeNumber 4 (some .int) (cw_X7_takeNumber :: gw) RX7) (hk20 : ∀ (y0 : Int) (y1 : Int32) (y2 : Int32) (y3 : Int32) (M : Mm) (H : Heap) (locs : List Loc) (ls : Array Slot), Wd D G S M H → va_S (aG G) s.heap H locs → lv_has ls 4 [(0, .ref (adr G y0)), (1, .int y1), (2, .int y2), (3, .int y3)] → k20 y0 y1.toInt y2.toInt y3.toInt M → W p l e RM_X7_takeNumber s m args below meth c H locs 0 0 (MQ below (QI D G S post) args s 0 0 (aG G)) (F0 m 20 ls [])) : ∀ (xl0 : Int) (zl1 : Int32) (zl2 : Int32) (zs0 : Int32) (M : Mm) (H : Heap) (locs : List Loc) (ls : Array Slot), Wd D G S M H → va_S (aG G) s.heap H locs → lv_has ls 4 [(0, .ref (adr G xl0)), (1, .int zl1), (2, .int zl2)] → wp_X7_takeNumber_78 S k20 post xl0 zl1.toInt zl2.toInt zs0.toInt M → W p l e RM_X7_takeNumber s m args below meth c H locs 0 0 (MQ below (QI D G S post) args s 0 0 (aG G)) (F0 m 78 ls [.int zs0]) := by
  obtain ⟨hx, hb, hr, hlocks, hml, hown, hts, hK⟩ := id C
  intro xl0 zl1 zl2 zs0 M H locs ls hP hS hl h
  unfold wp_X7_takeNumber_78 at h
  refine lv_istore_n (lv' := [(3, .int zs0), (0, .ref (adr G xl0)), (1, .int zl1), (2, .int zl2)]) hx hb dX7_takeNumber_78 rfl hl (by decide) rfl (fun ls hl => ?_)
  refine lv_aload_n hx hb dX7_takeNumber_79 rfl (lv_at hl 1 rfl) ?_
  refine lv_dup hx hb dX7_takeNumber_80 rfl ?_
  refine r_geti (C := RX7) (T := TX7) (N := 5) hx hb hts (fun w h => List.mem_cons_of_mem _ (iX7 w h)) hown hK hP rfl (by decide) rfl 2 (by decide) (hts _ (List.mem_cons_of_mem _ kw_39)) (fun _ h9 => h9) dX7_takeNumber_81 (by decide) h (fun z17 h => ?_)
  refine r_iconst hx hb dX7_takeNumber_84 (by decide) h (fun z19 h => ?_)
  refine r_iadd hx hb dX7_takeNumber_85 h (fun z21 h => ?_)
  refine r_puti (C := RX7) (T := TX7) (N := 5) hx hb hts (fun w h => List.mem_cons_of_mem _ (iX7 w h)) hown hK hP tyX7 tyX7_ok nmX7 hS rfl (by decide) rfl 2 (by decide) (hts _ (List.mem_cons_of_mem _ kw_39)) (fun _ h9 => h9) rfl (tyX7_ok 2 (by decide)) rfl rfl dX7_takeNumber_86 (by decide) h (fun M22 H locs h hP hS => ?_)
  refine lv_goto (tgt := 20) hx hb dX7_takeNumber_89 (by decide) ?_
  exact hk20 xl0 zl1 zl2 zs0 _ _ _ _ hP hS (lv_sub hl [1, 2, 3, 0] rfl) h
set_option maxHeartbeats 4000000 in
set_option maxRecDepth 100000 in
theorem t_X7_takeNumber_20 {p : Program} {l : Launch} {e : Env} {s : State} {m : MethodId} {args : Array Value} {below : List Frame} {meth : Method} {c : Code} {D : va_G} {G : Gt} {S : Sh} {post : Int → Mm → Prop} (C : Cx p s m args meth c D G cX7_takeNumber 4 (some .int) (cw_X7_takeNumber :: gw) RX7) : ∀ (n : Nat) (xl0 : Int) (zl1 : Int32) (zl2 : Int32) (zl3 : Int32) (M : Mm) (H : Heap) (locs : List Loc) (ls : Array Slot), Wd D G S M H → va_S (aG G) s.heap H locs → lv_has ls 4 [(0, .ref (adr G xl0)), (1, .int zl1), (2, .int zl2), (3, .int zl3)] → wp_X7_takeNumber_20 S post n xl0 zl1.toInt zl2.toInt zl3.toInt  M → W p l e RM_X7_takeNumber s m args below meth c H locs 0 0 (MQ below (QI D G S post) args s 0 0 (aG G)) (F0 m 20 ls []) := by
  obtain ⟨hx, hb, hr, hlocks, hml, hown, hts, hK⟩ := id C
  intro n
  induction n with
  | zero => intro xl0 zl1 zl2 zl3 M H locs ls hP hS hl h; exact h.elim
  | succ n ih =>
    intro xl0 zl1 zl2 zl3 M H locs ls hP hS hl h
    unfold wp_X7_takeNumber_20 at h
    refine lv_aload_n hx hb dX7_takeNumber_20 rfl (lv_at hl 0 rfl) ?_
    refine r_geti (C := RX7) (T := TX7) (N := 5) hx hb hts (fun w h => List.mem_cons_of_mem _ (iX7 w h)) hown hK hP rfl (by decide) rfl 2 (by decide) (hts _ (List.mem_cons_of_mem _ kw_39)) (fun _ h9 => h9) dX7_takeNumber_21 (by decide) h (fun z24 h => ?_)
    refine lv_aload_n hx hb dX7_takeNumber_24 rfl (lv_at hl 0 rfl) ?_
    refine r_geti (C := RX7) (T := TX7) (N := 5) hx hb hts (fun w h => List.mem_cons_of_mem _ (iX7 w h)) hown hK hP rfl (by decide) rfl 1 (by decide) (hts _ (List.mem_cons_of_mem _ kw_37)) (fun _ h9 => h9) dX7_takeNumber_25 (by decide) h (fun z26 h => ?_)
    refine r_icmp_ge (tgt := 92) hx hb dX7_takeNumber_28 (by decide) h (fun h => ?_) (fun h => ?_)
    · exact t_X7_takeNumber_92 C xl0 zl1 zl2 zl3 _ _ _ _ hP hS (lv_sub hl [0, 1, 2, 3] rfl) h
    · refine lv_aload_n hx hb dX7_takeNumber_31 rfl (lv_at hl 0 rfl) ?_
      refine lv_aload_n hx hb dX7_takeNumber_32 rfl (lv_at hl 0 rfl) ?_
      refine r_geti (C := RX7) (T := TX7) (N := 5) hx hb hts (fun w h => List.mem_cons_of_mem _ (iX7 w h)) hown hK hP rfl (by decide) rfl 2 (by decide) (hts _ (List.mem_cons_of_mem _ kw_39)) (fun _ h9 => h9) dX7_takeNumber_33 (by decide) h (fun z28 h => ?_)
      refine q_Vi hx hb hml hown hts hK hP hS (c_X7_byteAt l D G S _ xl0 z28 _ h.2) ⟨callB_of 1 hts (gw_good kw_615) rfl rfl rfl (hts _ (List.mem_cons_of_mem _ kw_2)) (hts _ (List.mem_cons_of_mem _ kw_612)) hd_X7_byteAt ⟨Nat.le_of_ble_eq_true rfl, Nat.le_of_ble_eq_true rfl⟩, (hts _ (List.mem_cons_of_mem _ kw_614)), (hts _ (List.mem_cons_of_mem _ kp_2))⟩ h.1 (ci := 7) rfl (by decide) rfl hl.1 rfl (lv_room (Nat.le_of_ble_eq_true rfl)) dX7_takeNumber_36 ⟨Nat.zero_le _, Nat.zero_le _⟩ (fun z31 M29 H locs h hP hS => ?_)
      refine q_Si hx hb hml hown hts hK hP hS (c_X7_isDigit l D G S _ z31 _ h) ⟨callB_of 1 hts (gw_good kw_672) rfl rfl rfl (hts _ (List.mem_cons_of_mem _ kw_2)) (hts _ (List.mem_cons_of_mem _ kw_670)) hd_X7_isDigit ⟨Nat.le_of_ble_eq_true rfl, Nat.le_of_ble_eq_true rfl⟩, (hts _ (List.mem_cons_of_mem _ kw_671))⟩ rfl hl.1 rfl (lv_room (Nat.le_of_ble_eq_true rfl)) dX7_takeNumber_39 ⟨Nat.zero_le _, Nat.zero_le _⟩ (fun z34 M32 H locs h hP hS => ?_)
      refine r_if_eq (tgt := 92) hx hb dX7_takeNumber_42 (by decide) h (fun h => ?_) (fun h => ?_)
      · exact t_X7_takeNumber_92 C xl0 zl1 zl2 zl3 _ _ _ _ hP hS (lv_sub hl [0, 1, 2, 3] rfl) h
      · refine lv_aload_n hx hb dX7_takeNumber_45 rfl (lv_at hl 0 rfl) ?_
        refine r_geti (C := RX7) (T := TX7) (N := 5) hx hb hts (fun w h => List.mem_cons_of_mem _ (iX7 w h)) hown hK hP rfl (by decide) rfl 2 (by decide) (hts _ (List.mem_cons_of_mem _ kw_39)) (fun _ h9 => h9) dX7_takeNumber_46 (by decide) h (fun z36 h => ?_)
        refine lv_aload_n hx hb dX7_takeNumber_49 rfl (lv_at hl 0 rfl) ?_
        refine r_geti (C := RX7) (T := TX7) (N := 5) hx hb hts (fun w h => List.mem_cons_of_mem _ (iX7 w h)) hown hK hP rfl (by decide) rfl 3 (by decide) (hts _ (List.mem_cons_of_mem _ kw_40)) (fun _ h9 => h9) dX7_takeNumber_50 (by decide) h (fun z38 h => ?_)
        refine r_isub hx hb dX7_takeNumber_53 h (fun z40 h => ?_)
        refine r_iconst hx hb dX7_takeNumber_54 (by decide) h (fun z42 h => ?_)
        refine r_icmp_ge (tgt := 77) hx hb dX7_takeNumber_55 (by decide) h (fun h => ?_) (fun h => ?_)
        · refine lv_iload_n hx hb dX7_takeNumber_77 rfl (lv_at hl 3 rfl) ?_
          exact t_X7_takeNumber_78 C ih xl0 zl1 zl2 zl3 _ _ _ _ hP hS (lv_sub hl [0, 1, 2] rfl) h
        · refine lv_iload_n hx hb dX7_takeNumber_58 rfl (lv_at hl 3 rfl) ?_
          refine r_bipush hx hb dX7_takeNumber_59 (by decide) h (fun z44 h => ?_)
          refine r_imul hx hb dX7_takeNumber_61 h (fun z46 h => ?_)
          refine lv_aload_n hx hb dX7_takeNumber_62 rfl (lv_at hl 0 rfl) ?_
          refine lv_aload_n hx hb dX7_takeNumber_63 rfl (lv_at hl 0 rfl) ?_
          refine r_geti (C := RX7) (T := TX7) (N := 5) hx hb hts (fun w h => List.mem_cons_of_mem _ (iX7 w h)) hown hK hP rfl (by decide) rfl 2 (by decide) (hts _ (List.mem_cons_of_mem _ kw_39)) (fun _ h9 => h9) dX7_takeNumber_64 (by decide) h (fun z48 h => ?_)
          refine q_Vi hx hb hml hown hts hK hP hS (c_X7_byteAt l D G S _ xl0 z48 _ h.2) ⟨callB_of 1 hts (gw_good kw_615) rfl rfl rfl (hts _ (List.mem_cons_of_mem _ kw_2)) (hts _ (List.mem_cons_of_mem _ kw_612)) hd_X7_byteAt ⟨Nat.le_of_ble_eq_true rfl, Nat.le_of_ble_eq_true rfl⟩, (hts _ (List.mem_cons_of_mem _ kw_614)), (hts _ (List.mem_cons_of_mem _ kp_2))⟩ h.1 (ci := 7) rfl (by decide) rfl hl.1 rfl (lv_room (Nat.le_of_ble_eq_true rfl)) dX7_takeNumber_67 ⟨Nat.zero_le _, Nat.zero_le _⟩ (fun z51 M49 H locs h hP hS => ?_)
          refine r_iadd hx hb dX7_takeNumber_70 h (fun z53 h => ?_)
          refine r_bipush hx hb dX7_takeNumber_71 (by decide) h (fun z55 h => ?_)
          refine r_isub hx hb dX7_takeNumber_73 h (fun z57 h => ?_)
          refine lv_goto (tgt := 78) hx hb dX7_takeNumber_74 (by decide) ?_
          exact t_X7_takeNumber_78 C ih xl0 zl1 zl2 z57 _ _ _ _ hP hS (lv_sub hl [0, 1, 2] rfl) h
set_option maxHeartbeats 4000000 in
set_option maxRecDepth 100000 in
theorem c_X7_takeNumber (l : Launch) (D : va_G) (G : Gt) (S : Sh) (M : Mm) (xl0 : Int) (zl1 : Int32) (zl2 : Int32) (post : Int → Mm → Prop) (h : wp_X7_takeNumber S M xl0 zl1.toInt zl2.toInt post) : Met l yX7_takeNumber (cw_X7_takeNumber :: gw) RM_X7_takeNumber (va_Pc [.ref (adr G xl0), .int zl1, .int zl2] (fun U => KN D G U ∧ Wd D G S M U.heap)) (QI D G S post) 0 0 (aG G) := by
  refine Met.ofW (cc := cX7_takeNumber) (maxL := 4) (ret := (some .int)) (by decide) rfl ?_
  intro p e s m args below meth c s₁ B hml hv
  obtain ⟨rfl, hK, hP⟩ := hv
  have hx := B.exec
  have hb := B.bytes
  have hr := B.returns
  have hts := atoms_spec (ws := cw_X7_takeNumber :: gw) B.pre
  have hown : s.vm.findClass RX7 = some m.cls := findClass_of_methodNamed B.named
  have hlocks := B.notSynchronized
  have hS : va_S (aG G) s.heap s.heap [] := va_S.rf
  have C : Cx p s m ([.ref (adr G xl0), .int zl1, .int zl2] : List Value).toArray meth c D G cX7_takeNumber 4 (some .int) (cw_X7_takeNumber :: gw) RX7 := ⟨hx, hb, hr, hlocks, hml, hown, hts, hK⟩
  have hl := lv_entry ([.ref (adr G xl0), .int zl1, .int zl2]) (n := 4) (Nat.le_of_ble_eq_true rfl)
  rw [lg_entry_eq]
  generalize (lg_sl ([.ref (adr G xl0), .int zl1, .int zl2]) ++ List.replicate (4 - (lg_sl ([.ref (adr G xl0), .int zl1, .int zl2])).length) Slot.unset).toArray = ls at hl ⊢
  have hl : lv_has ls 4 [(0, .ref (adr G xl0)), (1, .int zl1), (2, .int zl2)] := hl
  unfold wp_X7_takeNumber at h
  refine lv_aload_n hx hb dX7_takeNumber_0 rfl (lv_at hl 0 rfl) ?_
  refine q_Vi hx hb hml hown hts hK hP hS (c_X7_look l D G S _ xl0 _ h.2) ⟨callB_of 0 hts (gw_good kw_601) rfl rfl rfl (hts _ (List.mem_cons_of_mem _ kw_2)) (hts _ (List.mem_cons_of_mem _ kw_598)) hd_X7_look ⟨Nat.le_of_ble_eq_true rfl, Nat.le_of_ble_eq_true rfl⟩, (hts _ (List.mem_cons_of_mem _ kw_599)), (hts _ (List.mem_cons_of_mem _ kw_600))⟩ h.1 (ci := 7) rfl (by decide) rfl hl.1 rfl (lv_room (Nat.le_of_ble_eq_true rfl)) dX7_takeNumber_1 ⟨Nat.zero_le _, Nat.zero_le _⟩ (fun z60 M58 H locs h hP hS => ?_)
  refine q_Si hx hb hml hown hts hK hP hS (c_X7_isDigit l D G S _ z60 _ h) ⟨callB_of 1 hts (gw_good kw_672) rfl rfl rfl (hts _ (List.mem_cons_of_mem _ kw_2)) (hts _ (List.mem_cons_of_mem _ kw_670)) hd_X7_isDigit ⟨Nat.le_of_ble_eq_true rfl, Nat.le_of_ble_eq_true rfl⟩, (hts _ (List.mem_cons_of_mem _ kw_671))⟩ rfl hl.1 rfl (lv_room (Nat.le_of_ble_eq_true rfl)) dX7_takeNumber_4 ⟨Nat.zero_le _, Nat.zero_le _⟩ (fun z63 M61 H locs h hP hS => ?_)
  refine r_if_ne (tgt := 18) hx hb dX7_takeNumber_7 (by decide) h (fun h => ?_) (fun h => ?_)
  · refine r_iconst hx hb dX7_takeNumber_18 (by decide) h (fun z65 h => ?_)
    refine lv_istore_n (lv' := [(3, .int z65), (0, .ref (adr G xl0)), (1, .int zl1), (2, .int zl2)]) hx hb dX7_takeNumber_19 rfl hl (by decide) rfl (fun ls hl => ?_)
    obtain ⟨n9, h⟩ := h
    exact t_X7_takeNumber_20 C n9 xl0 zl1 zl2 z65 _ _ _ _ hP hS (lv_sub hl [1, 2, 3, 0] rfl) h
  · refine lv_aload_n hx hb dX7_takeNumber_10 rfl (lv_at hl 0 rfl) ?_
    refine r_iconst hx hb dX7_takeNumber_11 (by decide) h (fun z67 h => ?_)
    refine q_Vi hx hb hml hown hts hK hP hS (c_X7_refuse l D G S _ xl0 z67 _ h.2) ⟨callB_of 1 hts (gw_good kw_657) rfl rfl rfl (hts _ (List.mem_cons_of_mem _ kw_2)) (hts _ (List.mem_cons_of_mem _ kw_673)) hd_X7_refuse ⟨Nat.le_of_ble_eq_true rfl, Nat.le_of_ble_eq_true rfl⟩, (hts _ (List.mem_cons_of_mem _ kw_655)), (hts _ (List.mem_cons_of_mem _ kw_656))⟩ h.1 (ci := 7) rfl (by decide) rfl hl.1 rfl (lv_room (Nat.le_of_ble_eq_true rfl)) dX7_takeNumber_12 ⟨Nat.zero_le _, Nat.zero_le _⟩ (fun z70 M68 H locs h hP hS => ?_)
    refine lv_pop hx hb dX7_takeNumber_15 rfl ?_
    refine r_iconst hx hb dX7_takeNumber_16 (by decide) h (fun z72 h => ?_)
    exact r_iret hx hb hr hlocks hP hS dX7_takeNumber_17 h
/-! TurningMilk$DairyReader.readDairy()Z -/
abbrev RM_X0_readDairy : Room := { frames := 3, cells := 0, slots := 0, locals := 84 }
def cw_X0_readDairy : Cond := Cond.code yX0_readDairy cX0_readDairy 4 (Option.some FieldType.boolean)
theorem hd_X0_readDairy : yX0_readDairy.cls ≠ "java/lang/invoke/MethodHandle" ∧ yX0_readDairy.cls ≠ "java/lang/invoke/VarHandle" ∧ (parseMethodDescriptor yX0_readDairy.desc).map (fun d => d.parameters.length) = some 0 := by decide +kernel
theorem dX0_readDairy_0 : decode cX0_readDairy 0 = .ok (.aload_n 0, 1) := by decide +kernel
theorem dX0_readDairy_1 : decode cX0_readDairy 1 = .ok (.getfield 25, 3) := by decide +kernel
theorem dX0_readDairy_4 : decode cX0_readDairy 4 = .ok (.iconst 2, 1) := by decide +kernel
theorem dX0_readDairy_5 : decode cX0_readDairy 5 = .ok (.bipush 6, 2) := by decide +kernel
theorem dX0_readDairy_7 : decode cX0_readDairy 7 = .ok (.invokevirtual 117, 3) := by decide +kernel
theorem dX0_readDairy_10 : decode cX0_readDairy 10 = .ok (.istore_n 1, 1) := by decide +kernel
theorem dX0_readDairy_11 : decode cX0_readDairy 11 = .ok (.iload_n 1, 1) := by decide +kernel
theorem dX0_readDairy_12 : decode cX0_readDairy 12 = .ok (.iconst (-1), 1) := by decide +kernel
theorem dX0_readDairy_13 : decode cX0_readDairy 13 = .ok (.if_icmp .ne 7, 3) := by decide +kernel
theorem dX0_readDairy_16 : decode cX0_readDairy 16 = .ok (.iconst (-1), 1) := by decide +kernel
theorem dX0_readDairy_17 : decode cX0_readDairy 17 = .ok (.goto 13, 3) := by decide +kernel
theorem dX0_readDairy_20 : decode cX0_readDairy 20 = .ok (.aload_n 0, 1) := by decide +kernel
theorem dX0_readDairy_21 : decode cX0_readDairy 21 = .ok (.getfield 25, 3) := by decide +kernel
theorem dX0_readDairy_24 : decode cX0_readDairy 24 = .ok (.iconst 0, 1) := by decide +kernel
theorem dX0_readDairy_25 : decode cX0_readDairy 25 = .ok (.bipush 9, 2) := by decide +kernel
theorem dX0_readDairy_27 : decode cX0_readDairy 27 = .ok (.invokevirtual 117, 3) := by decide +kernel
theorem dX0_readDairy_30 : decode cX0_readDairy 30 = .ok (.istore_n 2, 1) := by decide +kernel
theorem dX0_readDairy_31 : decode cX0_readDairy 31 = .ok (.iload_n 2, 1) := by decide +kernel
theorem dX0_readDairy_32 : decode cX0_readDairy 32 = .ok (.iconst (-1), 1) := by decide +kernel
theorem dX0_readDairy_33 : decode cX0_readDairy 33 = .ok (.if_icmp .ne 7, 3) := by decide +kernel
theorem dX0_readDairy_36 : decode cX0_readDairy 36 = .ok (.iconst (-1), 1) := by decide +kernel
theorem dX0_readDairy_37 : decode cX0_readDairy 37 = .ok (.goto 14, 3) := by decide +kernel
theorem dX0_readDairy_40 : decode cX0_readDairy 40 = .ok (.aload_n 0, 1) := by decide +kernel
theorem dX0_readDairy_41 : decode cX0_readDairy 41 = .ok (.getfield 25, 3) := by decide +kernel
theorem dX0_readDairy_44 : decode cX0_readDairy 44 = .ok (.bipush 10, 2) := by decide +kernel
theorem dX0_readDairy_46 : decode cX0_readDairy 46 = .ok (.bipush 99, 2) := by decide +kernel
theorem dX0_readDairy_48 : decode cX0_readDairy 48 = .ok (.invokevirtual 117, 3) := by decide +kernel
theorem dX0_readDairy_51 : decode cX0_readDairy 51 = .ok (.istore_n 3, 1) := by decide +kernel
theorem dX0_readDairy_52 : decode cX0_readDairy 52 = .ok (.iload_n 3, 1) := by decide +kernel
theorem dX0_readDairy_53 : decode cX0_readDairy 53 = .ok (.iconst (-1), 1) := by decide +kernel
theorem dX0_readDairy_54 : decode cX0_readDairy 54 = .ok (.if_icmp .ne 5, 3) := by decide +kernel
theorem dX0_readDairy_57 : decode cX0_readDairy 57 = .ok (.iconst 0, 1) := by decide +kernel
theorem dX0_readDairy_58 : decode cX0_readDairy 58 = .ok (.ireturn, 1) := by decide +kernel
theorem dX0_readDairy_59 : decode cX0_readDairy 59 = .ok (.aload_n 0, 1) := by decide +kernel
theorem dX0_readDairy_60 : decode cX0_readDairy 60 = .ok (.getfield 12, 3) := by decide +kernel
theorem dX0_readDairy_63 : decode cX0_readDairy 63 = .ok (.iload_n 1, 1) := by decide +kernel
theorem dX0_readDairy_64 : decode cX0_readDairy 64 = .ok (.putfield 121, 3) := by decide +kernel
theorem dX0_readDairy_67 : decode cX0_readDairy 67 = .ok (.aload_n 0, 1) := by decide +kernel
theorem dX0_readDairy_68 : decode cX0_readDairy 68 = .ok (.getfield 12, 3) := by decide +kernel
theorem dX0_readDairy_71 : decode cX0_readDairy 71 = .ok (.iload_n 2, 1) := by decide +kernel
theorem dX0_readDairy_72 : decode cX0_readDairy 72 = .ok (.putfield 124, 3) := by decide +kernel
theorem dX0_readDairy_75 : decode cX0_readDairy 75 = .ok (.aload_n 0, 1) := by decide +kernel
theorem dX0_readDairy_76 : decode cX0_readDairy 76 = .ok (.getfield 12, 3) := by decide +kernel
theorem dX0_readDairy_79 : decode cX0_readDairy 79 = .ok (.iload_n 3, 1) := by decide +kernel
theorem dX0_readDairy_80 : decode cX0_readDairy 80 = .ok (.putfield 127, 3) := by decide +kernel
theorem dX0_readDairy_83 : decode cX0_readDairy 83 = .ok (.iconst 1, 1) := by decide +kernel
theorem dX0_readDairy_84 : decode cX0_readDairy 84 = .ok (.ireturn, 1) := by decide +kernel
def wp_X0_readDairy_51 (S : Sh) (post : Int → Mm → Prop) (u0 : Int) (u1 : Int) (u2 : Int) (t0 : Int) (M : Mm) : Prop := wC (-1) fun v1 => wIf (¬ t0 = v1) (wGetR S M u0 0 1 fun v3 => wPut S M v3 8 0 u1 fun M5 => wGetR S M5 u0 0 1 fun v6 => wPut S M5 v6 8 1 u2 fun M8 => wGetR S M8 u0 0 1 fun v9 => wPut S M8 v9 8 2 t0 fun M11 => wC 1 fun v12 => (v12 = 0 ∨ v12 = 1) ∧ post v12 M11) (wC 0 fun v14 => (v14 = 0 ∨ v14 = 1) ∧ post v14 M)
def wp_X0_readDairy_30 (S : Sh) (post : Int → Mm → Prop) (u0 : Int) (u1 : Int) (t0 : Int) (M : Mm) : Prop := wC (-1) fun v16 => wIf (¬ t0 = v16) (wGetR S M u0 0 0 fun v18 => wC 10 fun v20 => wC 99 fun v22 => isK S v18 7 ∧ (wp_X7_takeNumber S M v18 v20 v22 <| fun v25 M24 => wp_X0_readDairy_51 S post u0 u1 t0 v25 M24)) (wC (-1) fun v27 => wp_X0_readDairy_51 S post u0 u1 t0 v27 M)
def wp_X0_readDairy (S : Sh) (M : Mm) (u0 : Int) (post : Int → Mm → Prop) : Prop := wGetR S M u0 0 0 fun v29 => wC 2 fun v31 => wC 6 fun v33 => isK S v29 7 ∧ (wp_X7_takeNumber S M v29 v31 v33 <| fun v36 M35 => wC (-1) fun v38 => wIf (¬ v36 = v38) (wGetR S M35 u0 0 0 fun v40 => wC 0 fun v42 => wC 9 fun v44 => isK S v40 7 ∧ (wp_X7_takeNumber S M35 v40 v42 v44 <| fun v47 M46 => wp_X0_readDairy_30 S post u0 v36 v47 M46)) (wC (-1) fun v49 => wp_X0_readDairy_30 S post u0 v36 v49 M35))
set_option maxHeartbeats 4000000 in
set_option maxRecDepth 100000 in
theorem t_X0_readDairy_51 {p : Program} {l : Launch} {e : Env} {s : State} {m : MethodId} {args : Array Value} {below : List Frame} {meth : Method} {c : Code} {D : va_G} {G : Gt} {S : Sh} {post : Int → Mm → Prop} (C : Cx p s m args meth c D G cX0_readDairy 4 (some .boolean) (cw_X0_readDairy :: gw) RX0) : ∀ (xl0 : Int) (zl1 : Int32) (zl2 : Int32) (zs0 : Int32) (M : Mm) (H : Heap) (locs : List Loc) (ls : Array Slot), Wd D G S M H → va_S (aG G) s.heap H locs → lv_has ls 4 [(0, .ref (adr G xl0)), (1, .int zl1), (2, .int zl2)] → wp_X0_readDairy_51 S post xl0 zl1.toInt zl2.toInt zs0.toInt M → W p l e RM_X0_readDairy s m args below meth c H locs 0 0 (MQ below (QI D G S post) args s 0 0 (aG G)) (F0 m 51 ls [.int zs0]) := by
  obtain ⟨hx, hb, hr, hlocks, hml, hown, hts, hK⟩ := id C
  intro xl0 zl1 zl2 zs0 M H locs ls hP hS hl h
  unfold wp_X0_readDairy_51 at h
  refine lv_istore_n (lv' := [(3, .int zs0), (0, .ref (adr G xl0)), (1, .int zl1), (2, .int zl2)]) hx hb dX0_readDairy_51 rfl hl (by decide) rfl (fun ls hl => ?_)
  refine lv_iload_n hx hb dX0_readDairy_52 rfl (lv_at hl 0 rfl) ?_
  refine r_iconst hx hb dX0_readDairy_53 (by decide) h (fun z2 h => ?_)
  refine r_icmp_ne (tgt := 59) hx hb dX0_readDairy_54 (by decide) h (fun h => ?_) (fun h => ?_)
  · refine lv_aload_n hx hb dX0_readDairy_59 rfl (lv_at hl 1 rfl) ?_
    refine r_getr (C := RX0) (T := TX0) (N := 3) hx hb hts (fun w h => List.mem_cons_of_mem _ (iX0 w h)) hown hK hP rfl (by decide) rfl 1 (by decide) (hts _ (List.mem_cons_of_mem _ kw_290)) (fun _ h9 => h9) dX0_readDairy_60 (by decide) h (fun x4 h => ?_)
    refine lv_iload_n hx hb dX0_readDairy_63 rfl (lv_at hl 2 rfl) ?_
    refine r_putiN (C := RX8) (T := TX8) (N := 19) hx hb hts (fun w h => List.mem_cons_of_mem _ (iX8 w h)) hown hK hP tyX8 tyX8_ok nmX8 hS rfl (by decide) rfl 0 (by decide) (nw_3 hK) (fun _ h9 => h9) rfl (tyX8_ok 0 (by decide)) rfl rfl dX0_readDairy_64 (by decide) h (fun M5 H locs h hP hS => ?_)
    refine lv_aload_n hx hb dX0_readDairy_67 rfl (lv_at hl 1 rfl) ?_
    refine r_getr (C := RX0) (T := TX0) (N := 3) hx hb hts (fun w h => List.mem_cons_of_mem _ (iX0 w h)) hown hK hP rfl (by decide) rfl 1 (by decide) (hts _ (List.mem_cons_of_mem _ kw_290)) (fun _ h9 => h9) dX0_readDairy_68 (by decide) h (fun x7 h => ?_)
    refine lv_iload_n hx hb dX0_readDairy_71 rfl (lv_at hl 3 rfl) ?_
    refine r_putiN (C := RX8) (T := TX8) (N := 19) hx hb hts (fun w h => List.mem_cons_of_mem _ (iX8 w h)) hown hK hP tyX8 tyX8_ok nmX8 hS rfl (by decide) rfl 1 (by decide) (nw_6 hK) (fun _ h9 => h9) rfl (tyX8_ok 1 (by decide)) rfl rfl dX0_readDairy_72 (by decide) h (fun M8 H locs h hP hS => ?_)
    refine lv_aload_n hx hb dX0_readDairy_75 rfl (lv_at hl 1 rfl) ?_
    refine r_getr (C := RX0) (T := TX0) (N := 3) hx hb hts (fun w h => List.mem_cons_of_mem _ (iX0 w h)) hown hK hP rfl (by decide) rfl 1 (by decide) (hts _ (List.mem_cons_of_mem _ kw_290)) (fun _ h9 => h9) dX0_readDairy_76 (by decide) h (fun x10 h => ?_)
    refine lv_iload_n hx hb dX0_readDairy_79 rfl (lv_at hl 0 rfl) ?_
    refine r_putiN (C := RX8) (T := TX8) (N := 19) hx hb hts (fun w h => List.mem_cons_of_mem _ (iX8 w h)) hown hK hP tyX8 tyX8_ok nmX8 hS rfl (by decide) rfl 2 (by decide) (nw_9 hK) (fun _ h9 => h9) rfl (tyX8_ok 2 (by decide)) rfl rfl dX0_readDairy_80 (by decide) h (fun M11 H locs h hP hS => ?_)
    refine r_iconst hx hb dX0_readDairy_83 (by decide) h (fun z13 h => ?_)
    exact r_zret hx hb hr hlocks hP hS dX0_readDairy_84 h
  · refine r_iconst hx hb dX0_readDairy_57 (by decide) h (fun z15 h => ?_)
    exact r_zret hx hb hr hlocks hP hS dX0_readDairy_58 h
set_option maxHeartbeats 4000000 in
set_option maxRecDepth 100000 in
theorem t_X0_readDairy_30 {p : Program} {l : Launch} {e : Env} {s : State} {m : MethodId} {args : Array Value} {below : List Frame} {meth : Method} {c : Code} {D : va_G} {G : Gt} {S : Sh} {post : Int → Mm → Prop} (C : Cx p s m args meth c D G cX0_readDairy 4 (some .boolean) (cw_X0_readDairy :: gw) RX0) : ∀ (xl0 : Int) (zl1 : Int32) (zs0 : Int32) (M : Mm) (H : Heap) (locs : List Loc) (ls : Array Slot), Wd D G S M H → va_S (aG G) s.heap H locs → lv_has ls 4 [(0, .ref (adr G xl0)), (1, .int zl1)] → wp_X0_readDairy_30 S post xl0 zl1.toInt zs0.toInt M → W p l e RM_X0_readDairy s m args below meth c H locs 0 0 (MQ below (QI D G S post) args s 0 0 (aG G)) (F0 m 30 ls [.int zs0]) := by
  obtain ⟨hx, hb, hr, hlocks, hml, hown, hts, hK⟩ := id C
  intro xl0 zl1 zs0 M H locs ls hP hS hl h
  unfold wp_X0_readDairy_30 at h
  refine lv_istore_n (lv' := [(2, .int zs0), (0, .ref (adr G xl0)), (1, .int zl1)]) hx hb dX0_readDairy_30 rfl hl (by decide) rfl (fun ls hl => ?_)
  refine lv_iload_n hx hb dX0_readDairy_31 rfl (lv_at hl 0 rfl) ?_
  refine r_iconst hx hb dX0_readDairy_32 (by decide) h (fun z17 h => ?_)
  refine r_icmp_ne (tgt := 40) hx hb dX0_readDairy_33 (by decide) h (fun h => ?_) (fun h => ?_)
  · refine lv_aload_n hx hb dX0_readDairy_40 rfl (lv_at hl 1 rfl) ?_
    refine r_getr (C := RX0) (T := TX0) (N := 3) hx hb hts (fun w h => List.mem_cons_of_mem _ (iX0 w h)) hown hK hP rfl (by decide) rfl 0 (by decide) (hts _ (List.mem_cons_of_mem _ kw_289)) (fun _ h9 => h9) dX0_readDairy_41 (by decide) h (fun x19 h => ?_)
    refine r_bipush hx hb dX0_readDairy_44 (by decide) h (fun z21 h => ?_)
    refine r_bipush hx hb dX0_readDairy_46 (by decide) h (fun z23 h => ?_)
    refine q_Vi hx hb hml hown hts hK hP hS (c_X7_takeNumber l D G S _ x19 z21 z23 _ h.2) ⟨callB_of 2 hts (gw_good kw_669) rfl rfl rfl (hts _ (List.mem_cons_of_mem _ kw_2)) (hts _ (List.mem_cons_of_mem _ kw_666)) hd_X7_takeNumber ⟨Nat.le_of_ble_eq_true rfl, Nat.le_of_ble_eq_true rfl⟩, (hts _ (List.mem_cons_of_mem _ kw_667)), (hts _ (List.mem_cons_of_mem _ kw_668))⟩ h.1 (ci := 7) rfl (by decide) rfl hl.1 rfl (lv_room (Nat.le_of_ble_eq_true rfl)) dX0_readDairy_48 ⟨Nat.zero_le _, Nat.zero_le _⟩ (fun z26 M24 H locs h hP hS => ?_)
    exact t_X0_readDairy_51 C xl0 zl1 zs0 z26 _ _ _ _ hP hS (lv_sub hl [1, 2, 0] rfl) h
  · refine r_iconst hx hb dX0_readDairy_36 (by decide) h (fun z28 h => ?_)
    refine lv_goto (tgt := 51) hx hb dX0_readDairy_37 (by decide) ?_
    exact t_X0_readDairy_51 C xl0 zl1 zs0 z28 _ _ _ _ hP hS (lv_sub hl [1, 2, 0] rfl) h
set_option maxHeartbeats 4000000 in
set_option maxRecDepth 100000 in
theorem c_X0_readDairy (l : Launch) (D : va_G) (G : Gt) (S : Sh) (M : Mm) (xl0 : Int) (post : Int → Mm → Prop) (h : wp_X0_readDairy S M xl0 post) : Met l yX0_readDairy (cw_X0_readDairy :: gw) RM_X0_readDairy (va_Pc [.ref (adr G xl0)] (fun U => KN D G U ∧ Wd D G S M U.heap)) (QI D G S post) 0 0 (aG G) := by
  refine Met.ofW (cc := cX0_readDairy) (maxL := 4) (ret := (some .boolean)) (by decide) rfl ?_
  intro p e s m args below meth c s₁ B hml hv
  obtain ⟨rfl, hK, hP⟩ := hv
  have hx := B.exec
  have hb := B.bytes
  have hr := B.returns
  have hts := atoms_spec (ws := cw_X0_readDairy :: gw) B.pre
  have hown : s.vm.findClass RX0 = some m.cls := findClass_of_methodNamed B.named
  have hlocks := B.notSynchronized
  have hS : va_S (aG G) s.heap s.heap [] := va_S.rf
  have C : Cx p s m ([.ref (adr G xl0)] : List Value).toArray meth c D G cX0_readDairy 4 (some .boolean) (cw_X0_readDairy :: gw) RX0 := ⟨hx, hb, hr, hlocks, hml, hown, hts, hK⟩
  have hl := lv_entry ([.ref (adr G xl0)]) (n := 4) (Nat.le_of_ble_eq_true rfl)
  rw [lg_entry_eq]
  generalize (lg_sl ([.ref (adr G xl0)]) ++ List.replicate (4 - (lg_sl ([.ref (adr G xl0)])).length) Slot.unset).toArray = ls at hl ⊢
  have hl : lv_has ls 4 [(0, .ref (adr G xl0))] := hl
  unfold wp_X0_readDairy at h
  refine lv_aload_n hx hb dX0_readDairy_0 rfl (lv_at hl 0 rfl) ?_
  refine r_getr (C := RX0) (T := TX0) (N := 3) hx hb hts (fun w h => List.mem_cons_of_mem _ (iX0 w h)) hown hK hP rfl (by decide) rfl 0 (by decide) (hts _ (List.mem_cons_of_mem _ kw_289)) (fun _ h9 => h9) dX0_readDairy_1 (by decide) h (fun x30 h => ?_)
  refine r_iconst hx hb dX0_readDairy_4 (by decide) h (fun z32 h => ?_)
  refine r_bipush hx hb dX0_readDairy_5 (by decide) h (fun z34 h => ?_)
  refine q_Vi hx hb hml hown hts hK hP hS (c_X7_takeNumber l D G S _ x30 z32 z34 _ h.2) ⟨callB_of 2 hts (gw_good kw_669) rfl rfl rfl (hts _ (List.mem_cons_of_mem _ kw_2)) (hts _ (List.mem_cons_of_mem _ kw_666)) hd_X7_takeNumber ⟨Nat.le_of_ble_eq_true rfl, Nat.le_of_ble_eq_true rfl⟩, (hts _ (List.mem_cons_of_mem _ kw_667)), (hts _ (List.mem_cons_of_mem _ kw_668))⟩ h.1 (ci := 7) rfl (by decide) rfl hl.1 rfl (lv_room (Nat.le_of_ble_eq_true rfl)) dX0_readDairy_7 ⟨Nat.zero_le _, Nat.zero_le _⟩ (fun z37 M35 H locs h hP hS => ?_)
  refine lv_istore_n (lv' := [(1, .int z37), (0, .ref (adr G xl0))]) hx hb dX0_readDairy_10 rfl hl (by decide) rfl (fun ls hl => ?_)
  refine lv_iload_n hx hb dX0_readDairy_11 rfl (lv_at hl 0 rfl) ?_
  refine r_iconst hx hb dX0_readDairy_12 (by decide) h (fun z39 h => ?_)
  refine r_icmp_ne (tgt := 20) hx hb dX0_readDairy_13 (by decide) h (fun h => ?_) (fun h => ?_)
  · refine lv_aload_n hx hb dX0_readDairy_20 rfl (lv_at hl 1 rfl) ?_
    refine r_getr (C := RX0) (T := TX0) (N := 3) hx hb hts (fun w h => List.mem_cons_of_mem _ (iX0 w h)) hown hK hP rfl (by decide) rfl 0 (by decide) (hts _ (List.mem_cons_of_mem _ kw_289)) (fun _ h9 => h9) dX0_readDairy_21 (by decide) h (fun x41 h => ?_)
    refine r_iconst hx hb dX0_readDairy_24 (by decide) h (fun z43 h => ?_)
    refine r_bipush hx hb dX0_readDairy_25 (by decide) h (fun z45 h => ?_)
    refine q_Vi hx hb hml hown hts hK hP hS (c_X7_takeNumber l D G S _ x41 z43 z45 _ h.2) ⟨callB_of 2 hts (gw_good kw_669) rfl rfl rfl (hts _ (List.mem_cons_of_mem _ kw_2)) (hts _ (List.mem_cons_of_mem _ kw_666)) hd_X7_takeNumber ⟨Nat.le_of_ble_eq_true rfl, Nat.le_of_ble_eq_true rfl⟩, (hts _ (List.mem_cons_of_mem _ kw_667)), (hts _ (List.mem_cons_of_mem _ kw_668))⟩ h.1 (ci := 7) rfl (by decide) rfl hl.1 rfl (lv_room (Nat.le_of_ble_eq_true rfl)) dX0_readDairy_27 ⟨Nat.zero_le _, Nat.zero_le _⟩ (fun z48 M46 H locs h hP hS => ?_)
    exact t_X0_readDairy_30 C xl0 z37 z48 _ _ _ _ hP hS (lv_sub hl [1, 0] rfl) h
  · refine r_iconst hx hb dX0_readDairy_16 (by decide) h (fun z50 h => ?_)
    refine lv_goto (tgt := 30) hx hb dX0_readDairy_17 (by decide) ?_
    exact t_X0_readDairy_30 C xl0 z37 z50 _ _ _ _ hP hS (lv_sub hl [1, 0] rfl) h
/-! TurningMilk$DairyReader.takePlace()I -/
abbrev RM_X0_takePlace : Room := { frames := 3, cells := 0, slots := 0, locals := 84 }
def cw_X0_takePlace : Cond := Cond.code yX0_takePlace cX0_takePlace 1 (Option.some FieldType.int)
theorem hd_X0_takePlace : yX0_takePlace.cls ≠ "java/lang/invoke/MethodHandle" ∧ yX0_takePlace.cls ≠ "java/lang/invoke/VarHandle" ∧ (parseMethodDescriptor yX0_takePlace.desc).map (fun d => d.parameters.length) = some 0 := by decide +kernel
theorem dX0_takePlace_0 : decode cX0_takePlace 0 = .ok (.aload_n 0, 1) := by decide +kernel
theorem dX0_takePlace_1 : decode cX0_takePlace 1 = .ok (.getfield 25, 3) := by decide +kernel
theorem dX0_takePlace_4 : decode cX0_takePlace 4 = .ok (.iconst 0, 1) := by decide +kernel
theorem dX0_takePlace_5 : decode cX0_takePlace 5 = .ok (.aload_n 0, 1) := by decide +kernel
theorem dX0_takePlace_6 : decode cX0_takePlace 6 = .ok (.getfield 12, 3) := by decide +kernel
theorem dX0_takePlace_9 : decode cX0_takePlace 9 = .ok (.getfield 121, 3) := by decide +kernel
theorem dX0_takePlace_12 : decode cX0_takePlace 12 = .ok (.iconst 1, 1) := by decide +kernel
theorem dX0_takePlace_13 : decode cX0_takePlace 13 = .ok (.isub, 1) := by decide +kernel
theorem dX0_takePlace_14 : decode cX0_takePlace 14 = .ok (.invokevirtual 117, 3) := by decide +kernel
theorem dX0_takePlace_17 : decode cX0_takePlace 17 = .ok (.ireturn, 1) := by decide +kernel
def wp_X0_takePlace (S : Sh) (M : Mm) (u0 : Int) (post : Int → Mm → Prop) : Prop := wGetR S M u0 0 0 fun v1 => wC 0 fun v3 => wGetR S M u0 0 1 fun v5 => wGet S M v5 8 0 fun v7 => wC 1 fun v9 => wS v7 v9 fun v11 => isK S v1 7 ∧ (wp_X7_takeNumber S M v1 v3 v11 <| fun v14 M13 => post v14 M13)
set_option maxHeartbeats 4000000 in
set_option maxRecDepth 100000 in
theorem c_X0_takePlace (l : Launch) (D : va_G) (G : Gt) (S : Sh) (M : Mm) (xl0 : Int) (post : Int → Mm → Prop) (h : wp_X0_takePlace S M xl0 post) : Met l yX0_takePlace (cw_X0_takePlace :: gw) RM_X0_takePlace (va_Pc [.ref (adr G xl0)] (fun U => KN D G U ∧ Wd D G S M U.heap)) (QI D G S post) 0 0 (aG G) := by
  refine Met.ofW (cc := cX0_takePlace) (maxL := 1) (ret := (some .int)) (by decide) rfl ?_
  intro p e s m args below meth c s₁ B hml hv
  obtain ⟨rfl, hK, hP⟩ := hv
  have hx := B.exec
  have hb := B.bytes
  have hr := B.returns
  have hts := atoms_spec (ws := cw_X0_takePlace :: gw) B.pre
  have hown : s.vm.findClass RX0 = some m.cls := findClass_of_methodNamed B.named
  have hlocks := B.notSynchronized
  have hS : va_S (aG G) s.heap s.heap [] := va_S.rf
  have C : Cx p s m ([.ref (adr G xl0)] : List Value).toArray meth c D G cX0_takePlace 1 (some .int) (cw_X0_takePlace :: gw) RX0 := ⟨hx, hb, hr, hlocks, hml, hown, hts, hK⟩
  have hl := lv_entry ([.ref (adr G xl0)]) (n := 1) (Nat.le_of_ble_eq_true rfl)
  rw [lg_entry_eq]
  generalize (lg_sl ([.ref (adr G xl0)]) ++ List.replicate (1 - (lg_sl ([.ref (adr G xl0)])).length) Slot.unset).toArray = ls at hl ⊢
  have hl : lv_has ls 1 [(0, .ref (adr G xl0))] := hl
  unfold wp_X0_takePlace at h
  refine lv_aload_n hx hb dX0_takePlace_0 rfl (lv_at hl 0 rfl) ?_
  refine r_getr (C := RX0) (T := TX0) (N := 3) hx hb hts (fun w h => List.mem_cons_of_mem _ (iX0 w h)) hown hK hP rfl (by decide) rfl 0 (by decide) (hts _ (List.mem_cons_of_mem _ kw_289)) (fun _ h9 => h9) dX0_takePlace_1 (by decide) h (fun x2 h => ?_)
  refine r_iconst hx hb dX0_takePlace_4 (by decide) h (fun z4 h => ?_)
  refine lv_aload_n hx hb dX0_takePlace_5 rfl (lv_at hl 0 rfl) ?_
  refine r_getr (C := RX0) (T := TX0) (N := 3) hx hb hts (fun w h => List.mem_cons_of_mem _ (iX0 w h)) hown hK hP rfl (by decide) rfl 1 (by decide) (hts _ (List.mem_cons_of_mem _ kw_290)) (fun _ h9 => h9) dX0_takePlace_6 (by decide) h (fun x6 h => ?_)
  refine r_getiN (C := RX8) (T := TX8) (N := 19) hx hb hts (fun w h => List.mem_cons_of_mem _ (iX8 w h)) hown hK hP rfl (by decide) rfl 0 (by decide) (nw_3 hK) (fun _ h9 => h9) dX0_takePlace_9 (by decide) h (fun z8 h => ?_)
  refine r_iconst hx hb dX0_takePlace_12 (by decide) h (fun z10 h => ?_)
  refine r_isub hx hb dX0_takePlace_13 h (fun z12 h => ?_)
  refine q_Vi hx hb hml hown hts hK hP hS (c_X7_takeNumber l D G S _ x2 z4 z12 _ h.2) ⟨callB_of 2 hts (gw_good kw_669) rfl rfl rfl (hts _ (List.mem_cons_of_mem _ kw_2)) (hts _ (List.mem_cons_of_mem _ kw_666)) hd_X7_takeNumber ⟨Nat.le_of_ble_eq_true rfl, Nat.le_of_ble_eq_true rfl⟩, (hts _ (List.mem_cons_of_mem _ kw_667)), (hts _ (List.mem_cons_of_mem _ kw_668))⟩ h.1 (ci := 7) rfl (by decide) rfl hl.1 rfl (lv_room (Nat.le_of_ble_eq_true rfl)) dX0_takePlace_14 ⟨Nat.zero_le _, Nat.zero_le _⟩ (fun z15 M13 H locs h hP hS => ?_)
  exact r_iret hx hb hr hlocks hP hS dX0_takePlace_17 h
/-! TurningMilk$Told.pair(II)I -/
abbrev RM_X8_pair : Room := { frames := 1, cells := 0, slots := 0, locals := 40 }
def cw_X8_pair : Cond := Cond.code yX8_pair cX8_pair 2 (Option.some FieldType.int)
theorem hd_X8_pair : yX8_pair.cls ≠ "java/lang/invoke/MethodHandle" ∧ yX8_pair.cls ≠ "java/lang/invoke/VarHandle" ∧ (parseMethodDescriptor yX8_pair.desc).map (fun d => d.parameters.length) = some 2 := by decide +kernel
theorem dX8_pair_0 : decode cX8_pair 0 = .ok (.iload_n 0, 1) := by decide +kernel
theorem dX8_pair_1 : decode cX8_pair 1 = .ok (.bipush 6, 2) := by decide +kernel
theorem dX8_pair_3 : decode cX8_pair 3 = .ok (.imul, 1) := by decide +kernel
theorem dX8_pair_4 : decode cX8_pair 4 = .ok (.iload_n 1, 1) := by decide +kernel
theorem dX8_pair_5 : decode cX8_pair 5 = .ok (.iadd, 1) := by decide +kernel
theorem dX8_pair_6 : decode cX8_pair 6 = .ok (.ireturn, 1) := by decide +kernel
def wp_X8_pair (S : Sh) (M : Mm) (u0 : Int) (u1 : Int) (post : Int → Mm → Prop) : Prop := wC 6 fun v1 => wM u0 v1 fun v3 => wA v3 u1 fun v5 => post v5 M
set_option maxHeartbeats 4000000 in
set_option maxRecDepth 100000 in
theorem c_X8_pair (l : Launch) (D : va_G) (G : Gt) (S : Sh) (M : Mm) (zl0 : Int32) (zl1 : Int32) (post : Int → Mm → Prop) (h : wp_X8_pair S M zl0.toInt zl1.toInt post) : Met l yX8_pair (cw_X8_pair :: gw) RM_X8_pair (va_Pc [.int zl0, .int zl1] (fun U => KN D G U ∧ Wd D G S M U.heap)) (QI D G S post) 0 0 (aG G) := by
  refine Met.ofW (cc := cX8_pair) (maxL := 2) (ret := (some .int)) (by decide) rfl ?_
  intro p e s m args below meth c s₁ B hml hv
  obtain ⟨rfl, hK, hP⟩ := hv
  have hx := B.exec
  have hb := B.bytes
  have hr := B.returns
  have hts := atoms_spec (ws := cw_X8_pair :: gw) B.pre
  have hown : s.vm.findClass RX8 = some m.cls := findClass_of_methodNamed B.named
  have hlocks := B.notSynchronized
  have hS : va_S (aG G) s.heap s.heap [] := va_S.rf
  have C : Cx p s m ([.int zl0, .int zl1] : List Value).toArray meth c D G cX8_pair 2 (some .int) (cw_X8_pair :: gw) RX8 := ⟨hx, hb, hr, hlocks, hml, hown, hts, hK⟩
  have hl := lv_entry ([.int zl0, .int zl1]) (n := 2) (Nat.le_of_ble_eq_true rfl)
  rw [lg_entry_eq]
  generalize (lg_sl ([.int zl0, .int zl1]) ++ List.replicate (2 - (lg_sl ([.int zl0, .int zl1])).length) Slot.unset).toArray = ls at hl ⊢
  have hl : lv_has ls 2 [(0, .int zl0), (1, .int zl1)] := hl
  unfold wp_X8_pair at h
  refine lv_iload_n hx hb dX8_pair_0 rfl (lv_at hl 0 rfl) ?_
  refine r_bipush hx hb dX8_pair_1 (by decide) h (fun z2 h => ?_)
  refine r_imul hx hb dX8_pair_3 h (fun z4 h => ?_)
  refine lv_iload_n hx hb dX8_pair_4 rfl (lv_at hl 1 rfl) ?_
  refine r_iadd hx hb dX8_pair_5 h (fun z6 h => ?_)
  exact r_iret hx hb hr hlocks hP hS dX8_pair_6 h
/-! TurningMilk$Told.roadHours(II)I -/
abbrev RM_X8_roadHours : Room := { frames := 2, cells := 0, slots := 0, locals := 61 }
def cw_X8_roadHours : Cond := Cond.code yX8_roadHours cX8_roadHours 3 (Option.some FieldType.int)
theorem hd_X8_roadHours : yX8_roadHours.cls ≠ "java/lang/invoke/MethodHandle" ∧ yX8_roadHours.cls ≠ "java/lang/invoke/VarHandle" ∧ (parseMethodDescriptor yX8_roadHours.desc).map (fun d => d.parameters.length) = some 2 := by decide +kernel
theorem dX8_roadHours_0 : decode cX8_roadHours 0 = .ok (.aload_n 0, 1) := by decide +kernel
theorem dX8_roadHours_1 : decode cX8_roadHours 1 = .ok (.getfield 9, 3) := by decide +kernel
theorem dX8_roadHours_4 : decode cX8_roadHours 4 = .ok (.iload_n 1, 1) := by decide +kernel
theorem dX8_roadHours_5 : decode cX8_roadHours 5 = .ok (.iload_n 2, 1) := by decide +kernel
theorem dX8_roadHours_6 : decode cX8_roadHours 6 = .ok (.invokestatic 82, 3) := by decide +kernel
theorem dX8_roadHours_9 : decode cX8_roadHours 9 = .ok (.iaload, 1) := by decide +kernel
theorem dX8_roadHours_10 : decode cX8_roadHours 10 = .ok (.ireturn, 1) := by decide +kernel
def wp_X8_roadHours (S : Sh) (M : Mm) (u0 : Int) (u1 : Int) (u2 : Int) (post : Int → Mm → Prop) : Prop := wGetR S M u0 8 8 fun v1 => wp_X8_pair S M u1 u2 <| fun v4 M3 => wLd S M3 v1 14 v4 fun v6 => post v6 M3
set_option maxHeartbeats 4000000 in
set_option maxRecDepth 100000 in
theorem c_X8_roadHours (l : Launch) (D : va_G) (G : Gt) (S : Sh) (M : Mm) (xl0 : Int) (zl1 : Int32) (zl2 : Int32) (post : Int → Mm → Prop) (h : wp_X8_roadHours S M xl0 zl1.toInt zl2.toInt post) : Met l yX8_roadHours (cw_X8_roadHours :: gw) RM_X8_roadHours (va_Pc [.ref (adr G xl0), .int zl1, .int zl2] (fun U => KN D G U ∧ Wd D G S M U.heap)) (QI D G S post) 0 0 (aG G) := by
  refine Met.ofW (cc := cX8_roadHours) (maxL := 3) (ret := (some .int)) (by decide) rfl ?_
  intro p e s m args below meth c s₁ B hml hv
  obtain ⟨rfl, hK, hP⟩ := hv
  have hx := B.exec
  have hb := B.bytes
  have hr := B.returns
  have hts := atoms_spec (ws := cw_X8_roadHours :: gw) B.pre
  have hown : s.vm.findClass RX8 = some m.cls := findClass_of_methodNamed B.named
  have hlocks := B.notSynchronized
  have hS : va_S (aG G) s.heap s.heap [] := va_S.rf
  have C : Cx p s m ([.ref (adr G xl0), .int zl1, .int zl2] : List Value).toArray meth c D G cX8_roadHours 3 (some .int) (cw_X8_roadHours :: gw) RX8 := ⟨hx, hb, hr, hlocks, hml, hown, hts, hK⟩
  have hl := lv_entry ([.ref (adr G xl0), .int zl1, .int zl2]) (n := 3) (Nat.le_of_ble_eq_true rfl)
  rw [lg_entry_eq]
  generalize (lg_sl ([.ref (adr G xl0), .int zl1, .int zl2]) ++ List.replicate (3 - (lg_sl ([.ref (adr G xl0), .int zl1, .int zl2])).length) Slot.unset).toArray = ls at hl ⊢
  have hl : lv_has ls 3 [(0, .ref (adr G xl0)), (1, .int zl1), (2, .int zl2)] := hl
  unfold wp_X8_roadHours at h
  refine lv_aload_n hx hb dX8_roadHours_0 rfl (lv_at hl 0 rfl) ?_
  refine r_getr (C := RX8) (T := TX8) (N := 19) hx hb hts (fun w h => List.mem_cons_of_mem _ (iX8 w h)) hown hK hP rfl (by decide) rfl 8 (by decide) (hts _ (List.mem_cons_of_mem _ kw_99)) (fun _ h9 => h9) dX8_roadHours_1 (by decide) h (fun x2 h => ?_)
  refine lv_iload_n hx hb dX8_roadHours_4 rfl (lv_at hl 1 rfl) ?_
  refine lv_iload_n hx hb dX8_roadHours_5 rfl (lv_at hl 2 rfl) ?_
  refine q_Si hx hb hml hown hts hK hP hS (c_X8_pair l D G S _ zl1 zl2 _ h) ⟨callB_of 2 hts (gw_good kw_688) rfl rfl rfl (hts _ (List.mem_cons_of_mem _ kw_4)) (hts _ (List.mem_cons_of_mem _ kw_686)) hd_X8_pair ⟨Nat.le_of_ble_eq_true rfl, Nat.le_of_ble_eq_true rfl⟩, (hts _ (List.mem_cons_of_mem _ kw_687))⟩ rfl hl.1 rfl (lv_room (Nat.le_of_ble_eq_true rfl)) dX8_roadHours_6 ⟨Nat.zero_le _, Nat.zero_le _⟩ (fun z5 M3 H locs h hP hS => ?_)
  refine r_iald hx hb hK hP dX8_roadHours_9 h (fun z7 h => ?_)
  exact r_iret hx hb hr hlocks hP hS dX8_roadHours_10 h
/-! TurningMilk$Told.addRoad(III)V -/
abbrev RM_X8_addRoad : Room := { frames := 2, cells := 0, slots := 0, locals := 61 }
def cw_X8_addRoad : Cond := Cond.code yX8_addRoad cX8_addRoad 4 (Option.none : Option FieldType)
theorem hd_X8_addRoad : yX8_addRoad.cls ≠ "java/lang/invoke/MethodHandle" ∧ yX8_addRoad.cls ≠ "java/lang/invoke/VarHandle" ∧ (parseMethodDescriptor yX8_addRoad.desc).map (fun d => d.parameters.length) = some 3 := by decide +kernel
theorem dX8_addRoad_0 : decode cX8_addRoad 0 = .ok (.aload_n 0, 1) := by decide +kernel
theorem dX8_addRoad_1 : decode cX8_addRoad 1 = .ok (.getfield 9, 3) := by decide +kernel
theorem dX8_addRoad_4 : decode cX8_addRoad 4 = .ok (.iload_n 1, 1) := by decide +kernel
theorem dX8_addRoad_5 : decode cX8_addRoad 5 = .ok (.iload_n 2, 1) := by decide +kernel
theorem dX8_addRoad_6 : decode cX8_addRoad 6 = .ok (.invokestatic 82, 3) := by decide +kernel
theorem dX8_addRoad_9 : decode cX8_addRoad 9 = .ok (.iload_n 3, 1) := by decide +kernel
theorem dX8_addRoad_10 : decode cX8_addRoad 10 = .ok (.iastore, 1) := by decide +kernel
theorem dX8_addRoad_11 : decode cX8_addRoad 11 = .ok (.aload_n 0, 1) := by decide +kernel
theorem dX8_addRoad_12 : decode cX8_addRoad 12 = .ok (.getfield 9, 3) := by decide +kernel
theorem dX8_addRoad_15 : decode cX8_addRoad 15 = .ok (.iload_n 2, 1) := by decide +kernel
theorem dX8_addRoad_16 : decode cX8_addRoad 16 = .ok (.iload_n 1, 1) := by decide +kernel
theorem dX8_addRoad_17 : decode cX8_addRoad 17 = .ok (.invokestatic 82, 3) := by decide +kernel
theorem dX8_addRoad_20 : decode cX8_addRoad 20 = .ok (.iload_n 3, 1) := by decide +kernel
theorem dX8_addRoad_21 : decode cX8_addRoad 21 = .ok (.iastore, 1) := by decide +kernel
theorem dX8_addRoad_22 : decode cX8_addRoad 22 = .ok (.aload_n 0, 1) := by decide +kernel
theorem dX8_addRoad_23 : decode cX8_addRoad 23 = .ok (.dup, 1) := by decide +kernel
theorem dX8_addRoad_24 : decode cX8_addRoad 24 = .ok (.getfield 55, 3) := by decide +kernel
theorem dX8_addRoad_27 : decode cX8_addRoad 27 = .ok (.iconst 1, 1) := by decide +kernel
theorem dX8_addRoad_28 : decode cX8_addRoad 28 = .ok (.iadd, 1) := by decide +kernel
theorem dX8_addRoad_29 : decode cX8_addRoad 29 = .ok (.putfield 55, 3) := by decide +kernel
theorem dX8_addRoad_32 : decode cX8_addRoad 32 = .ok (.return_, 1) := by decide +kernel
def wp_X8_addRoad (S : Sh) (M : Mm) (u0 : Int) (u1 : Int) (u2 : Int) (u3 : Int) (post : Mm → Prop) : Prop := wGetR S M u0 8 8 fun v1 => wp_X8_pair S M u1 u2 <| fun v4 M3 => wSt S M3 v1 14 v4 u3 fun M6 => wGetR S M6 u0 8 8 fun v7 => wp_X8_pair S M6 u2 u1 <| fun v10 M9 => wSt S M9 v7 14 v10 u3 fun M12 => wGet S M12 u0 8 3 fun v13 => wC 1 fun v15 => wA v13 v15 fun v17 => wPut S M12 u0 8 3 v17 fun M19 => post M19
set_option maxHeartbeats 4000000 in
set_option maxRecDepth 100000 in
theorem c_X8_addRoad (l : Launch) (D : va_G) (G : Gt) (S : Sh) (M : Mm) (xl0 : Int) (zl1 : Int32) (zl2 : Int32) (zl3 : Int32) (post : Mm → Prop) (h : wp_X8_addRoad S M xl0 zl1.toInt zl2.toInt zl3.toInt post) : Met l yX8_addRoad (cw_X8_addRoad :: gw) RM_X8_addRoad (va_Pc [.ref (adr G xl0), .int zl1, .int zl2, .int zl3] (fun U => KN D G U ∧ Wd D G S M U.heap)) (QV D G S post) 0 0 (aG G) := by
  refine Met.ofW (cc := cX8_addRoad) (maxL := 4) (ret := none) (by decide) rfl ?_
  intro p e s m args below meth c s₁ B hml hv
  obtain ⟨rfl, hK, hP⟩ := hv
  have hx := B.exec
  have hb := B.bytes
  have hr := B.returns
  have hts := atoms_spec (ws := cw_X8_addRoad :: gw) B.pre
  have hown : s.vm.findClass RX8 = some m.cls := findClass_of_methodNamed B.named
  have hlocks := B.notSynchronized
  have hS : va_S (aG G) s.heap s.heap [] := va_S.rf
  have C : Cx p s m ([.ref (adr G xl0), .int zl1, .int zl2, .int zl3] : List Value).toArray meth c D G cX8_addRoad 4 none (cw_X8_addRoad :: gw) RX8 := ⟨hx, hb, hr, hlocks, hml, hown, hts, hK⟩
  have hl := lv_entry ([.ref (adr G xl0), .int zl1, .int zl2, .int zl3]) (n := 4) (Nat.le_of_ble_eq_true rfl)
  rw [lg_entry_eq]
  generalize (lg_sl ([.ref (adr G xl0), .int zl1, .int zl2, .int zl3]) ++ List.replicate (4 - (lg_sl ([.ref (adr G xl0), .int zl1, .int zl2, .int zl3])).length) Slot.unset).toArray = ls at hl ⊢
  have hl : lv_has ls 4 [(0, .ref (adr G xl0)), (1, .int zl1), (2, .int zl2), (3, .int zl3)] := hl
  unfold wp_X8_addRoad at h
  refine lv_aload_n hx hb dX8_addRoad_0 rfl (lv_at hl 0 rfl) ?_
  refine r_getr (C := RX8) (T := TX8) (N := 19) hx hb hts (fun w h => List.mem_cons_of_mem _ (iX8 w h)) hown hK hP rfl (by decide) rfl 8 (by decide) (hts _ (List.mem_cons_of_mem _ kw_99)) (fun _ h9 => h9) dX8_addRoad_1 (by decide) h (fun x2 h => ?_)
  refine lv_iload_n hx hb dX8_addRoad_4 rfl (lv_at hl 1 rfl) ?_
  refine lv_iload_n hx hb dX8_addRoad_5 rfl (lv_at hl 2 rfl) ?_
  refine q_Si hx hb hml hown hts hK hP hS (c_X8_pair l D G S _ zl1 zl2 _ h) ⟨callB_of 2 hts (gw_good kw_688) rfl rfl rfl (hts _ (List.mem_cons_of_mem _ kw_4)) (hts _ (List.mem_cons_of_mem _ kw_686)) hd_X8_pair ⟨Nat.le_of_ble_eq_true rfl, Nat.le_of_ble_eq_true rfl⟩, (hts _ (List.mem_cons_of_mem _ kw_687))⟩ rfl hl.1 rfl (lv_room (Nat.le_of_ble_eq_true rfl)) dX8_addRoad_6 ⟨Nat.zero_le _, Nat.zero_le _⟩ (fun z5 M3 H locs h hP hS => ?_)
  refine lv_iload_n hx hb dX8_addRoad_9 rfl (lv_at hl 3 rfl) ?_
  refine r_iast hx hb hK hP hS dX8_addRoad_10 h (fun M6 H locs h hP hS => ?_)
  refine lv_aload_n hx hb dX8_addRoad_11 rfl (lv_at hl 0 rfl) ?_
  refine r_getr (C := RX8) (T := TX8) (N := 19) hx hb hts (fun w h => List.mem_cons_of_mem _ (iX8 w h)) hown hK hP rfl (by decide) rfl 8 (by decide) (hts _ (List.mem_cons_of_mem _ kw_99)) (fun _ h9 => h9) dX8_addRoad_12 (by decide) h (fun x8 h => ?_)
  refine lv_iload_n hx hb dX8_addRoad_15 rfl (lv_at hl 2 rfl) ?_
  refine lv_iload_n hx hb dX8_addRoad_16 rfl (lv_at hl 1 rfl) ?_
  refine q_Si hx hb hml hown hts hK hP hS (c_X8_pair l D G S _ zl2 zl1 _ h) ⟨callB_of 2 hts (gw_good kw_688) rfl rfl rfl (hts _ (List.mem_cons_of_mem _ kw_4)) (hts _ (List.mem_cons_of_mem _ kw_686)) hd_X8_pair ⟨Nat.le_of_ble_eq_true rfl, Nat.le_of_ble_eq_true rfl⟩, (hts _ (List.mem_cons_of_mem _ kw_687))⟩ rfl hl.1 rfl (lv_room (Nat.le_of_ble_eq_true rfl)) dX8_addRoad_17 ⟨Nat.zero_le _, Nat.zero_le _⟩ (fun z11 M9 H locs h hP hS => ?_)
  refine lv_iload_n hx hb dX8_addRoad_20 rfl (lv_at hl 3 rfl) ?_
  refine r_iast hx hb hK hP hS dX8_addRoad_21 h (fun M12 H locs h hP hS => ?_)
  refine lv_aload_n hx hb dX8_addRoad_22 rfl (lv_at hl 0 rfl) ?_
  refine lv_dup hx hb dX8_addRoad_23 rfl ?_
  refine r_geti (C := RX8) (T := TX8) (N := 19) hx hb hts (fun w h => List.mem_cons_of_mem _ (iX8 w h)) hown hK hP rfl (by decide) rfl 3 (by decide) (hts _ (List.mem_cons_of_mem _ kw_79)) (fun _ h9 => h9) dX8_addRoad_24 (by decide) h (fun z14 h => ?_)
  refine r_iconst hx hb dX8_addRoad_27 (by decide) h (fun z16 h => ?_)
  refine r_iadd hx hb dX8_addRoad_28 h (fun z18 h => ?_)
  refine r_puti (C := RX8) (T := TX8) (N := 19) hx hb hts (fun w h => List.mem_cons_of_mem _ (iX8 w h)) hown hK hP tyX8 tyX8_ok nmX8 hS rfl (by decide) rfl 3 (by decide) (hts _ (List.mem_cons_of_mem _ kw_79)) (fun _ h9 => h9) rfl (tyX8_ok 3 (by decide)) rfl rfl dX8_addRoad_29 (by decide) h (fun M19 H locs h hP hS => ?_)
  exact r_vret hx hb hr hlocks hP hS dX8_addRoad_32 h
/-! TurningMilk$DairyReader.readRoad()Z -/
abbrev RM_X0_readRoad : Room := { frames := 4, cells := 0, slots := 0, locals := 104 }
def cw_X0_readRoad : Cond := Cond.code yX0_readRoad cX0_readRoad 4 (Option.some FieldType.boolean)
theorem hd_X0_readRoad : yX0_readRoad.cls ≠ "java/lang/invoke/MethodHandle" ∧ yX0_readRoad.cls ≠ "java/lang/invoke/VarHandle" ∧ (parseMethodDescriptor yX0_readRoad.desc).map (fun d => d.parameters.length) = some 0 := by decide +kernel
theorem dX0_readRoad_0 : decode cX0_readRoad 0 = .ok (.aload_n 0, 1) := by decide +kernel
theorem dX0_readRoad_1 : decode cX0_readRoad 1 = .ok (.invokevirtual 130, 3) := by decide +kernel
theorem dX0_readRoad_4 : decode cX0_readRoad 4 = .ok (.istore_n 1, 1) := by decide +kernel
theorem dX0_readRoad_5 : decode cX0_readRoad 5 = .ok (.iload_n 1, 1) := by decide +kernel
theorem dX0_readRoad_6 : decode cX0_readRoad 6 = .ok (.iconst (-1), 1) := by decide +kernel
theorem dX0_readRoad_7 : decode cX0_readRoad 7 = .ok (.if_icmp .ne 7, 3) := by decide +kernel
theorem dX0_readRoad_10 : decode cX0_readRoad 10 = .ok (.iconst (-1), 1) := by decide +kernel
theorem dX0_readRoad_11 : decode cX0_readRoad 11 = .ok (.goto 7, 3) := by decide +kernel
theorem dX0_readRoad_14 : decode cX0_readRoad 14 = .ok (.aload_n 0, 1) := by decide +kernel
theorem dX0_readRoad_15 : decode cX0_readRoad 15 = .ok (.invokevirtual 130, 3) := by decide +kernel
theorem dX0_readRoad_18 : decode cX0_readRoad 18 = .ok (.istore_n 2, 1) := by decide +kernel
theorem dX0_readRoad_19 : decode cX0_readRoad 19 = .ok (.iload_n 2, 1) := by decide +kernel
theorem dX0_readRoad_20 : decode cX0_readRoad 20 = .ok (.iconst (-1), 1) := by decide +kernel
theorem dX0_readRoad_21 : decode cX0_readRoad 21 = .ok (.if_icmp .ne 5, 3) := by decide +kernel
theorem dX0_readRoad_24 : decode cX0_readRoad 24 = .ok (.iconst 0, 1) := by decide +kernel
theorem dX0_readRoad_25 : decode cX0_readRoad 25 = .ok (.ireturn, 1) := by decide +kernel
theorem dX0_readRoad_26 : decode cX0_readRoad 26 = .ok (.iload_n 2, 1) := by decide +kernel
theorem dX0_readRoad_27 : decode cX0_readRoad 27 = .ok (.iload_n 1, 1) := by decide +kernel
theorem dX0_readRoad_28 : decode cX0_readRoad 28 = .ok (.if_icmp .eq 15, 3) := by decide +kernel
theorem dX0_readRoad_31 : decode cX0_readRoad 31 = .ok (.aload_n 0, 1) := by decide +kernel
theorem dX0_readRoad_32 : decode cX0_readRoad 32 = .ok (.getfield 12, 3) := by decide +kernel
theorem dX0_readRoad_35 : decode cX0_readRoad 35 = .ok (.iload_n 1, 1) := by decide +kernel
theorem dX0_readRoad_36 : decode cX0_readRoad 36 = .ok (.iload_n 2, 1) := by decide +kernel
theorem dX0_readRoad_37 : decode cX0_readRoad 37 = .ok (.invokevirtual 133, 3) := by decide +kernel
theorem dX0_readRoad_40 : decode cX0_readRoad 40 = .ok (.ifCond .le 12, 3) := by decide +kernel
theorem dX0_readRoad_43 : decode cX0_readRoad 43 = .ok (.aload_n 0, 1) := by decide +kernel
theorem dX0_readRoad_44 : decode cX0_readRoad 44 = .ok (.getfield 25, 3) := by decide +kernel
theorem dX0_readRoad_47 : decode cX0_readRoad 47 = .ok (.iconst 1, 1) := by decide +kernel
theorem dX0_readRoad_48 : decode cX0_readRoad 48 = .ok (.invokevirtual 53, 3) := by decide +kernel
theorem dX0_readRoad_51 : decode cX0_readRoad 51 = .ok (.ireturn, 1) := by decide +kernel
theorem dX0_readRoad_52 : decode cX0_readRoad 52 = .ok (.aload_n 0, 1) := by decide +kernel
theorem dX0_readRoad_53 : decode cX0_readRoad 53 = .ok (.getfield 25, 3) := by decide +kernel
theorem dX0_readRoad_56 : decode cX0_readRoad 56 = .ok (.iconst 1, 1) := by decide +kernel
theorem dX0_readRoad_57 : decode cX0_readRoad 57 = .ok (.iconst 5, 1) := by decide +kernel
theorem dX0_readRoad_58 : decode cX0_readRoad 58 = .ok (.invokevirtual 117, 3) := by decide +kernel
theorem dX0_readRoad_61 : decode cX0_readRoad 61 = .ok (.istore_n 3, 1) := by decide +kernel
theorem dX0_readRoad_62 : decode cX0_readRoad 62 = .ok (.iload_n 3, 1) := by decide +kernel
theorem dX0_readRoad_63 : decode cX0_readRoad 63 = .ok (.iconst (-1), 1) := by decide +kernel
theorem dX0_readRoad_64 : decode cX0_readRoad 64 = .ok (.if_icmp .ne 5, 3) := by decide +kernel
theorem dX0_readRoad_67 : decode cX0_readRoad 67 = .ok (.iconst 0, 1) := by decide +kernel
theorem dX0_readRoad_68 : decode cX0_readRoad 68 = .ok (.ireturn, 1) := by decide +kernel
theorem dX0_readRoad_69 : decode cX0_readRoad 69 = .ok (.aload_n 0, 1) := by decide +kernel
theorem dX0_readRoad_70 : decode cX0_readRoad 70 = .ok (.getfield 12, 3) := by decide +kernel
theorem dX0_readRoad_73 : decode cX0_readRoad 73 = .ok (.iload_n 1, 1) := by decide +kernel
theorem dX0_readRoad_74 : decode cX0_readRoad 74 = .ok (.iload_n 2, 1) := by decide +kernel
theorem dX0_readRoad_75 : decode cX0_readRoad 75 = .ok (.iload_n 3, 1) := by decide +kernel
theorem dX0_readRoad_76 : decode cX0_readRoad 76 = .ok (.invokevirtual 136, 3) := by decide +kernel
theorem dX0_readRoad_79 : decode cX0_readRoad 79 = .ok (.iconst 1, 1) := by decide +kernel
theorem dX0_readRoad_80 : decode cX0_readRoad 80 = .ok (.ireturn, 1) := by decide +kernel
def wp_X0_readRoad_43 (S : Sh) (post : Int → Mm → Prop) (u0 : Int) (M : Mm) : Prop := wGetR S M u0 0 0 fun v1 => wC 1 fun v3 => isK S v1 7 ∧ (wp_X7_refuse S M v1 v3 <| fun v6 M5 => (v6 = 0 ∨ v6 = 1) ∧ post v6 M5)
def wp_X0_readRoad_18 (S : Sh) (post : Int → Mm → Prop) (u0 : Int) (u1 : Int) (t0 : Int) (M : Mm) : Prop := wC (-1) fun v8 => wIf (¬ t0 = v8) (wIf (t0 = u1) (wp_X0_readRoad_43 S post u0 M) (wGetR S M u0 0 1 fun v10 => isK S v10 8 ∧ (wp_X8_roadHours S M v10 u1 t0 <| fun v13 M12 => wIf (v13 ≤ 0) (wGetR S M12 u0 0 0 fun v15 => wC 1 fun v17 => wC 5 fun v19 => isK S v15 7 ∧ (wp_X7_takeNumber S M12 v15 v17 v19 <| fun v22 M21 => wC (-1) fun v24 => wIf (¬ v22 = v24) (wGetR S M21 u0 0 1 fun v26 => isK S v26 8 ∧ (wp_X8_addRoad S M21 v26 u1 t0 v22 <| fun M28 => wC 1 fun v29 => (v29 = 0 ∨ v29 = 1) ∧ post v29 M28)) (wC 0 fun v31 => (v31 = 0 ∨ v31 = 1) ∧ post v31 M21))) (wp_X0_readRoad_43 S post u0 M12)))) (wC 0 fun v33 => (v33 = 0 ∨ v33 = 1) ∧ post v33 M)
def wp_X0_readRoad (S : Sh) (M : Mm) (u0 : Int) (post : Int → Mm → Prop) : Prop := isK S u0 0 ∧ (wp_X0_takePlace S M u0 <| fun v36 M35 => wC (-1) fun v38 => wIf (¬ v36 = v38) (isK S u0 0 ∧ (wp_X0_takePlace S M35 u0 <| fun v41 M40 => wp_X0_readRoad_18 S post u0 v36 v41 M40)) (wC (-1) fun v43 => wp_X0_readRoad_18 S post u0 v36 v43 M35))
set_option maxHeartbeats 4000000 in
set_option maxRecDepth 100000 in
theorem t_X0_readRoad_43 {p : Program} {l : Launch} {e : Env} {s : State} {m : MethodId} {args : Array Value} {below : List Frame} {meth : Method} {c : Code} {D : va_G} {G : Gt} {S : Sh} {post : Int → Mm → Prop} (C : Cx p s m args meth c D G cX0_readRoad 4 (some .boolean) (cw_X0_readRoad :: gw) RX0) : ∀ (xl0 : Int) (M : Mm) (H : Heap) (locs : List Loc) (ls : Array Slot), Wd D G S M H → va_S (aG G) s.heap H locs → lv_has ls 4 [(0, .ref (adr G xl0))] → wp_X0_readRoad_43 S post xl0  M → W p l e RM_X0_readRoad s m args below meth c H locs 0 0 (MQ below (QI D G S post) args s 0 0 (aG G)) (F0 m 43 ls []) := by
  obtain ⟨hx, hb, hr, hlocks, hml, hown, hts, hK⟩ := id C
  intro xl0 M H locs ls hP hS hl h
  unfold wp_X0_readRoad_43 at h
  refine lv_aload_n hx hb dX0_readRoad_43 rfl (lv_at hl 0 rfl) ?_
  refine r_getr (C := RX0) (T := TX0) (N := 3) hx hb hts (fun w h => List.mem_cons_of_mem _ (iX0 w h)) hown hK hP rfl (by decide) rfl 0 (by decide) (hts _ (List.mem_cons_of_mem _ kw_289)) (fun _ h9 => h9) dX0_readRoad_44 (by decide) h (fun x2 h => ?_)
  refine r_iconst hx hb dX0_readRoad_47 (by decide) h (fun z4 h => ?_)
  refine q_Vi hx hb hml hown hts hK hP hS (c_X7_refuse l D G S _ x2 z4 _ h.2) ⟨callB_of 1 hts (gw_good kw_657) rfl rfl rfl (hts _ (List.mem_cons_of_mem _ kw_2)) (hts _ (List.mem_cons_of_mem _ kw_654)) hd_X7_refuse ⟨Nat.le_of_ble_eq_true rfl, Nat.le_of_ble_eq_true rfl⟩, (hts _ (List.mem_cons_of_mem _ kw_655)), (hts _ (List.mem_cons_of_mem _ kw_656))⟩ h.1 (ci := 7) rfl (by decide) rfl hl.1 rfl (lv_room (Nat.le_of_ble_eq_true rfl)) dX0_readRoad_48 ⟨Nat.zero_le _, Nat.zero_le _⟩ (fun z7 M5 H locs h hP hS => ?_)
  exact r_zret hx hb hr hlocks hP hS dX0_readRoad_51 h
set_option maxHeartbeats 4000000 in
set_option maxRecDepth 100000 in
theorem t_X0_readRoad_18 {p : Program} {l : Launch} {e : Env} {s : State} {m : MethodId} {args : Array Value} {below : List Frame} {meth : Method} {c : Code} {D : va_G} {G : Gt} {S : Sh} {post : Int → Mm → Prop} (C : Cx p s m args meth c D G cX0_readRoad 4 (some .boolean) (cw_X0_readRoad :: gw) RX0) : ∀ (xl0 : Int) (zl1 : Int32) (zs0 : Int32) (M : Mm) (H : Heap) (locs : List Loc) (ls : Array Slot), Wd D G S M H → va_S (aG G) s.heap H locs → lv_has ls 4 [(0, .ref (adr G xl0)), (1, .int zl1)] → wp_X0_readRoad_18 S post xl0 zl1.toInt zs0.toInt M → W p l e RM_X0_readRoad s m args below meth c H locs 0 0 (MQ below (QI D G S post) args s 0 0 (aG G)) (F0 m 18 ls [.int zs0]) := by
  obtain ⟨hx, hb, hr, hlocks, hml, hown, hts, hK⟩ := id C
  intro xl0 zl1 zs0 M H locs ls hP hS hl h
  unfold wp_X0_readRoad_18 at h
  refine lv_istore_n (lv' := [(2, .int zs0), (0, .ref (adr G xl0)), (1, .int zl1)]) hx hb dX0_readRoad_18 rfl hl (by decide) rfl (fun ls hl => ?_)
  refine lv_iload_n hx hb dX0_readRoad_19 rfl (lv_at hl 0 rfl) ?_
  refine r_iconst hx hb dX0_readRoad_20 (by decide) h (fun z9 h => ?_)
  refine r_icmp_ne (tgt := 26) hx hb dX0_readRoad_21 (by decide) h (fun h => ?_) (fun h => ?_)
  · refine lv_iload_n hx hb dX0_readRoad_26 rfl (lv_at hl 0 rfl) ?_
    refine lv_iload_n hx hb dX0_readRoad_27 rfl (lv_at hl 2 rfl) ?_
    refine r_icmp_eq (tgt := 43) hx hb dX0_readRoad_28 (by decide) h (fun h => ?_) (fun h => ?_)
    · exact t_X0_readRoad_43 C xl0 _ _ _ _ hP hS (lv_sub hl [1] rfl) h
    · refine lv_aload_n hx hb dX0_readRoad_31 rfl (lv_at hl 1 rfl) ?_
      refine r_getr (C := RX0) (T := TX0) (N := 3) hx hb hts (fun w h => List.mem_cons_of_mem _ (iX0 w h)) hown hK hP rfl (by decide) rfl 1 (by decide) (hts _ (List.mem_cons_of_mem _ kw_290)) (fun _ h9 => h9) dX0_readRoad_32 (by decide) h (fun x11 h => ?_)
      refine lv_iload_n hx hb dX0_readRoad_35 rfl (lv_at hl 2 rfl) ?_
      refine lv_iload_n hx hb dX0_readRoad_36 rfl (lv_at hl 0 rfl) ?_
      refine q_Vi hx hb hml hown hts hK hP hS (c_X8_roadHours l D G S _ x11 zl1 zs0 _ h.2) ⟨callB_of 2 hts (gw_good kw_685) rfl rfl rfl (hts _ (List.mem_cons_of_mem _ kw_4)) (hts _ (List.mem_cons_of_mem _ kw_682)) hd_X8_roadHours ⟨Nat.le_of_ble_eq_true rfl, Nat.le_of_ble_eq_true rfl⟩, (hts _ (List.mem_cons_of_mem _ kw_683)), (hts _ (List.mem_cons_of_mem _ kw_684))⟩ h.1 (ci := 8) rfl (by decide) rfl hl.1 rfl (lv_room (Nat.le_of_ble_eq_true rfl)) dX0_readRoad_37 ⟨Nat.zero_le _, Nat.zero_le _⟩ (fun z14 M12 H locs h hP hS => ?_)
      refine r_if_le (tgt := 52) hx hb dX0_readRoad_40 (by decide) h (fun h => ?_) (fun h => ?_)
      · refine lv_aload_n hx hb dX0_readRoad_52 rfl (lv_at hl 1 rfl) ?_
        refine r_getr (C := RX0) (T := TX0) (N := 3) hx hb hts (fun w h => List.mem_cons_of_mem _ (iX0 w h)) hown hK hP rfl (by decide) rfl 0 (by decide) (hts _ (List.mem_cons_of_mem _ kw_289)) (fun _ h9 => h9) dX0_readRoad_53 (by decide) h (fun x16 h => ?_)
        refine r_iconst hx hb dX0_readRoad_56 (by decide) h (fun z18 h => ?_)
        refine r_iconst hx hb dX0_readRoad_57 (by decide) h (fun z20 h => ?_)
        refine q_Vi hx hb hml hown hts hK hP hS (c_X7_takeNumber l D G S _ x16 z18 z20 _ h.2) ⟨callB_of 2 hts (gw_good kw_669) rfl rfl rfl (hts _ (List.mem_cons_of_mem _ kw_2)) (hts _ (List.mem_cons_of_mem _ kw_666)) hd_X7_takeNumber ⟨Nat.le_of_ble_eq_true rfl, Nat.le_of_ble_eq_true rfl⟩, (hts _ (List.mem_cons_of_mem _ kw_667)), (hts _ (List.mem_cons_of_mem _ kw_668))⟩ h.1 (ci := 7) rfl (by decide) rfl hl.1 rfl (lv_room (Nat.le_of_ble_eq_true rfl)) dX0_readRoad_58 ⟨Nat.zero_le _, Nat.zero_le _⟩ (fun z23 M21 H locs h hP hS => ?_)
        refine lv_istore_n (lv' := [(3, .int z23), (2, .int zs0), (0, .ref (adr G xl0)), (1, .int zl1)]) hx hb dX0_readRoad_61 rfl hl (by decide) rfl (fun ls hl => ?_)
        refine lv_iload_n hx hb dX0_readRoad_62 rfl (lv_at hl 0 rfl) ?_
        refine r_iconst hx hb dX0_readRoad_63 (by decide) h (fun z25 h => ?_)
        refine r_icmp_ne (tgt := 69) hx hb dX0_readRoad_64 (by decide) h (fun h => ?_) (fun h => ?_)
        · refine lv_aload_n hx hb dX0_readRoad_69 rfl (lv_at hl 2 rfl) ?_
          refine r_getr (C := RX0) (T := TX0) (N := 3) hx hb hts (fun w h => List.mem_cons_of_mem _ (iX0 w h)) hown hK hP rfl (by decide) rfl 1 (by decide) (hts _ (List.mem_cons_of_mem _ kw_290)) (fun _ h9 => h9) dX0_readRoad_70 (by decide) h (fun x27 h => ?_)
          refine lv_iload_n hx hb dX0_readRoad_73 rfl (lv_at hl 3 rfl) ?_
          refine lv_iload_n hx hb dX0_readRoad_74 rfl (lv_at hl 1 rfl) ?_
          refine lv_iload_n hx hb dX0_readRoad_75 rfl (lv_at hl 0 rfl) ?_
          refine q_Vv hx hb hml hown hts hK hP hS (c_X8_addRoad l D G S _ x27 zl1 zs0 z23 _ h.2) ⟨callB_of 3 hts (gw_good kw_692) rfl rfl rfl (hts _ (List.mem_cons_of_mem _ kw_4)) (hts _ (List.mem_cons_of_mem _ kw_689)) hd_X8_addRoad ⟨Nat.le_of_ble_eq_true rfl, Nat.le_of_ble_eq_true rfl⟩, (hts _ (List.mem_cons_of_mem _ kw_690)), (hts _ (List.mem_cons_of_mem _ kw_691))⟩ h.1 (ci := 8) rfl (by decide) rfl hl.1 rfl (lv_room (Nat.le_of_ble_eq_true rfl)) dX0_readRoad_76 ⟨Nat.zero_le _, Nat.zero_le _⟩ (fun M28 H locs h hP hS => ?_)
          refine r_iconst hx hb dX0_readRoad_79 (by decide) h (fun z30 h => ?_)
          exact r_zret hx hb hr hlocks hP hS dX0_readRoad_80 h
        · refine r_iconst hx hb dX0_readRoad_67 (by decide) h (fun z32 h => ?_)
          exact r_zret hx hb hr hlocks hP hS dX0_readRoad_68 h
      · exact t_X0_readRoad_43 C xl0 _ _ _ _ hP hS (lv_sub hl [1] rfl) h
  · refine r_iconst hx hb dX0_readRoad_24 (by decide) h (fun z34 h => ?_)
    exact r_zret hx hb hr hlocks hP hS dX0_readRoad_25 h
set_option maxHeartbeats 4000000 in
set_option maxRecDepth 100000 in
theorem c_X0_readRoad (l : Launch) (D : va_G) (G : Gt) (S : Sh) (M : Mm) (xl0 : Int) (post : Int → Mm → Prop) (h : wp_X0_readRoad S M xl0 post) : Met l yX0_readRoad (cw_X0_readRoad :: gw) RM_X0_readRoad (va_Pc [.ref (adr G xl0)] (fun U => KN D G U ∧ Wd D G S M U.heap)) (QI D G S post) 0 0 (aG G) := by
  refine Met.ofW (cc := cX0_readRoad) (maxL := 4) (ret := (some .boolean)) (by decide) rfl ?_
  intro p e s m args below meth c s₁ B hml hv
  obtain ⟨rfl, hK, hP⟩ := hv
  have hx := B.exec
  have hb := B.bytes
  have hr := B.returns
  have hts := atoms_spec (ws := cw_X0_readRoad :: gw) B.pre
  have hown : s.vm.findClass RX0 = some m.cls := findClass_of_methodNamed B.named
  have hlocks := B.notSynchronized
  have hS : va_S (aG G) s.heap s.heap [] := va_S.rf
  have C : Cx p s m ([.ref (adr G xl0)] : List Value).toArray meth c D G cX0_readRoad 4 (some .boolean) (cw_X0_readRoad :: gw) RX0 := ⟨hx, hb, hr, hlocks, hml, hown, hts, hK⟩
  have hl := lv_entry ([.ref (adr G xl0)]) (n := 4) (Nat.le_of_ble_eq_true rfl)
  rw [lg_entry_eq]
  generalize (lg_sl ([.ref (adr G xl0)]) ++ List.replicate (4 - (lg_sl ([.ref (adr G xl0)])).length) Slot.unset).toArray = ls at hl ⊢
  have hl : lv_has ls 4 [(0, .ref (adr G xl0))] := hl
  unfold wp_X0_readRoad at h
  refine lv_aload_n hx hb dX0_readRoad_0 rfl (lv_at hl 0 rfl) ?_
  refine q_Vi hx hb hml hown hts hK hP hS (c_X0_takePlace l D G S _ xl0 _ h.2) ⟨callB_of 0 hts (gw_good kw_681) rfl rfl rfl (hts _ (List.mem_cons_of_mem _ kw_7)) (hts _ (List.mem_cons_of_mem _ kw_678)) hd_X0_takePlace ⟨Nat.le_of_ble_eq_true rfl, Nat.le_of_ble_eq_true rfl⟩, (hts _ (List.mem_cons_of_mem _ kw_680)), (hts _ (List.mem_cons_of_mem _ kp_6))⟩ h.1 (ci := 0) rfl (by decide) rfl hl.1 rfl (lv_room (Nat.le_of_ble_eq_true rfl)) dX0_readRoad_1 ⟨Nat.zero_le _, Nat.zero_le _⟩ (fun z37 M35 H locs h hP hS => ?_)
  refine lv_istore_n (lv' := [(1, .int z37), (0, .ref (adr G xl0))]) hx hb dX0_readRoad_4 rfl hl (by decide) rfl (fun ls hl => ?_)
  refine lv_iload_n hx hb dX0_readRoad_5 rfl (lv_at hl 0 rfl) ?_
  refine r_iconst hx hb dX0_readRoad_6 (by decide) h (fun z39 h => ?_)
  refine r_icmp_ne (tgt := 14) hx hb dX0_readRoad_7 (by decide) h (fun h => ?_) (fun h => ?_)
  · refine lv_aload_n hx hb dX0_readRoad_14 rfl (lv_at hl 1 rfl) ?_
    refine q_Vi hx hb hml hown hts hK hP hS (c_X0_takePlace l D G S _ xl0 _ h.2) ⟨callB_of 0 hts (gw_good kw_681) rfl rfl rfl (hts _ (List.mem_cons_of_mem _ kw_7)) (hts _ (List.mem_cons_of_mem _ kw_678)) hd_X0_takePlace ⟨Nat.le_of_ble_eq_true rfl, Nat.le_of_ble_eq_true rfl⟩, (hts _ (List.mem_cons_of_mem _ kw_680)), (hts _ (List.mem_cons_of_mem _ kp_6))⟩ h.1 (ci := 0) rfl (by decide) rfl hl.1 rfl (lv_room (Nat.le_of_ble_eq_true rfl)) dX0_readRoad_15 ⟨Nat.zero_le _, Nat.zero_le _⟩ (fun z42 M40 H locs h hP hS => ?_)
    exact t_X0_readRoad_18 C xl0 z37 z42 _ _ _ _ hP hS (lv_sub hl [1, 0] rfl) h
  · refine r_iconst hx hb dX0_readRoad_10 (by decide) h (fun z44 h => ?_)
    refine lv_goto (tgt := 18) hx hb dX0_readRoad_11 (by decide) ?_
    exact t_X0_readRoad_18 C xl0 z37 z44 _ _ _ _ hP hS (lv_sub hl [1, 0] rfl) h
/-! TurningMilk$DairyReader.readHand()Z -/
abbrev RM_X0_readHand : Room := { frames := 4, cells := 0, slots := 0, locals := 104 }
def cw_X0_readHand : Cond := Cond.code yX0_readHand cX0_readHand 4 (Option.some FieldType.boolean)
theorem hd_X0_readHand : yX0_readHand.cls ≠ "java/lang/invoke/MethodHandle" ∧ yX0_readHand.cls ≠ "java/lang/invoke/VarHandle" ∧ (parseMethodDescriptor yX0_readHand.desc).map (fun d => d.parameters.length) = some 0 := by decide +kernel
theorem dX0_readHand_0 : decode cX0_readHand 0 = .ok (.aload_n 0, 1) := by decide +kernel
theorem dX0_readHand_1 : decode cX0_readHand 1 = .ok (.invokevirtual 130, 3) := by decide +kernel
theorem dX0_readHand_4 : decode cX0_readHand 4 = .ok (.istore_n 1, 1) := by decide +kernel
theorem dX0_readHand_5 : decode cX0_readHand 5 = .ok (.iload_n 1, 1) := by decide +kernel
theorem dX0_readHand_6 : decode cX0_readHand 6 = .ok (.iconst (-1), 1) := by decide +kernel
theorem dX0_readHand_7 : decode cX0_readHand 7 = .ok (.if_icmp .ne 7, 3) := by decide +kernel
theorem dX0_readHand_10 : decode cX0_readHand 10 = .ok (.iconst (-1), 1) := by decide +kernel
theorem dX0_readHand_11 : decode cX0_readHand 11 = .ok (.goto 13, 3) := by decide +kernel
theorem dX0_readHand_14 : decode cX0_readHand 14 = .ok (.aload_n 0, 1) := by decide +kernel
theorem dX0_readHand_15 : decode cX0_readHand 15 = .ok (.getfield 25, 3) := by decide +kernel
theorem dX0_readHand_18 : decode cX0_readHand 18 = .ok (.iconst 0, 1) := by decide +kernel
theorem dX0_readHand_19 : decode cX0_readHand 19 = .ok (.bipush 20, 2) := by decide +kernel
theorem dX0_readHand_21 : decode cX0_readHand 21 = .ok (.invokevirtual 117, 3) := by decide +kernel
theorem dX0_readHand_24 : decode cX0_readHand 24 = .ok (.istore_n 2, 1) := by decide +kernel
theorem dX0_readHand_25 : decode cX0_readHand 25 = .ok (.iload_n 2, 1) := by decide +kernel
theorem dX0_readHand_26 : decode cX0_readHand 26 = .ok (.iconst (-1), 1) := by decide +kernel
theorem dX0_readHand_27 : decode cX0_readHand 27 = .ok (.if_icmp .ne 7, 3) := by decide +kernel
theorem dX0_readHand_30 : decode cX0_readHand 30 = .ok (.iconst (-1), 1) := by decide +kernel
theorem dX0_readHand_31 : decode cX0_readHand 31 = .ok (.goto 12, 3) := by decide +kernel
theorem dX0_readHand_34 : decode cX0_readHand 34 = .ok (.aload_n 0, 1) := by decide +kernel
theorem dX0_readHand_35 : decode cX0_readHand 35 = .ok (.getfield 25, 3) := by decide +kernel
theorem dX0_readHand_38 : decode cX0_readHand 38 = .ok (.iconst 0, 1) := by decide +kernel
theorem dX0_readHand_39 : decode cX0_readHand 39 = .ok (.iconst 5, 1) := by decide +kernel
theorem dX0_readHand_40 : decode cX0_readHand 40 = .ok (.invokevirtual 117, 3) := by decide +kernel
theorem dX0_readHand_43 : decode cX0_readHand 43 = .ok (.istore_n 3, 1) := by decide +kernel
theorem dX0_readHand_44 : decode cX0_readHand 44 = .ok (.iload_n 3, 1) := by decide +kernel
theorem dX0_readHand_45 : decode cX0_readHand 45 = .ok (.iconst (-1), 1) := by decide +kernel
theorem dX0_readHand_46 : decode cX0_readHand 46 = .ok (.if_icmp .ne 5, 3) := by decide +kernel
theorem dX0_readHand_49 : decode cX0_readHand 49 = .ok (.iconst 0, 1) := by decide +kernel
theorem dX0_readHand_50 : decode cX0_readHand 50 = .ok (.ireturn, 1) := by decide +kernel
theorem dX0_readHand_51 : decode cX0_readHand 51 = .ok (.aload_n 0, 1) := by decide +kernel
theorem dX0_readHand_52 : decode cX0_readHand 52 = .ok (.getfield 21, 3) := by decide +kernel
theorem dX0_readHand_55 : decode cX0_readHand 55 = .ok (.getfield 140, 3) := by decide +kernel
theorem dX0_readHand_58 : decode cX0_readHand 58 = .ok (.aload_n 0, 1) := by decide +kernel
theorem dX0_readHand_59 : decode cX0_readHand 59 = .ok (.getfield 12, 3) := by decide +kernel
theorem dX0_readHand_62 : decode cX0_readHand 62 = .ok (.getfield 80, 3) := by decide +kernel
theorem dX0_readHand_65 : decode cX0_readHand 65 = .ok (.iload_n 1, 1) := by decide +kernel
theorem dX0_readHand_66 : decode cX0_readHand 66 = .ok (.iastore, 1) := by decide +kernel
theorem dX0_readHand_67 : decode cX0_readHand 67 = .ok (.aload_n 0, 1) := by decide +kernel
theorem dX0_readHand_68 : decode cX0_readHand 68 = .ok (.getfield 12, 3) := by decide +kernel
theorem dX0_readHand_71 : decode cX0_readHand 71 = .ok (.getfield 144, 3) := by decide +kernel
theorem dX0_readHand_74 : decode cX0_readHand 74 = .ok (.aload_n 0, 1) := by decide +kernel
theorem dX0_readHand_75 : decode cX0_readHand 75 = .ok (.getfield 12, 3) := by decide +kernel
theorem dX0_readHand_78 : decode cX0_readHand 78 = .ok (.getfield 80, 3) := by decide +kernel
theorem dX0_readHand_81 : decode cX0_readHand 81 = .ok (.iload_n 2, 1) := by decide +kernel
theorem dX0_readHand_82 : decode cX0_readHand 82 = .ok (.iastore, 1) := by decide +kernel
theorem dX0_readHand_83 : decode cX0_readHand 83 = .ok (.aload_n 0, 1) := by decide +kernel
theorem dX0_readHand_84 : decode cX0_readHand 84 = .ok (.getfield 12, 3) := by decide +kernel
theorem dX0_readHand_87 : decode cX0_readHand 87 = .ok (.getfield 147, 3) := by decide +kernel
theorem dX0_readHand_90 : decode cX0_readHand 90 = .ok (.aload_n 0, 1) := by decide +kernel
theorem dX0_readHand_91 : decode cX0_readHand 91 = .ok (.getfield 12, 3) := by decide +kernel
theorem dX0_readHand_94 : decode cX0_readHand 94 = .ok (.getfield 80, 3) := by decide +kernel
theorem dX0_readHand_97 : decode cX0_readHand 97 = .ok (.iload_n 3, 1) := by decide +kernel
theorem dX0_readHand_98 : decode cX0_readHand 98 = .ok (.iastore, 1) := by decide +kernel
theorem dX0_readHand_99 : decode cX0_readHand 99 = .ok (.aload_n 0, 1) := by decide +kernel
theorem dX0_readHand_100 : decode cX0_readHand 100 = .ok (.getfield 12, 3) := by decide +kernel
theorem dX0_readHand_103 : decode cX0_readHand 103 = .ok (.dup, 1) := by decide +kernel
theorem dX0_readHand_104 : decode cX0_readHand 104 = .ok (.getfield 80, 3) := by decide +kernel
theorem dX0_readHand_107 : decode cX0_readHand 107 = .ok (.iconst 1, 1) := by decide +kernel
theorem dX0_readHand_108 : decode cX0_readHand 108 = .ok (.iadd, 1) := by decide +kernel
theorem dX0_readHand_109 : decode cX0_readHand 109 = .ok (.putfield 80, 3) := by decide +kernel
theorem dX0_readHand_112 : decode cX0_readHand 112 = .ok (.iconst 1, 1) := by decide +kernel
theorem dX0_readHand_113 : decode cX0_readHand 113 = .ok (.ireturn, 1) := by decide +kernel
def wp_X0_readHand_43 (S : Sh) (post : Int → Mm → Prop) (u0 : Int) (u1 : Int) (u2 : Int) (t0 : Int) (M : Mm) : Prop := wC (-1) fun v1 => wIf (¬ t0 = v1) (wGetR S M u0 0 2 fun v3 => wGetR S M v3 5 2 fun v5 => wGetR S M u0 0 1 fun v7 => wGet S M v7 8 4 fun v9 => wSt S M v5 14 v9 u1 fun M11 => wGetR S M11 u0 0 1 fun v12 => wGetR S M11 v12 8 10 fun v14 => wGetR S M11 u0 0 1 fun v16 => wGet S M11 v16 8 4 fun v18 => wSt S M11 v14 14 v18 u2 fun M20 => wGetR S M20 u0 0 1 fun v21 => wGetR S M20 v21 8 11 fun v23 => wGetR S M20 u0 0 1 fun v25 => wGet S M20 v25 8 4 fun v27 => wSt S M20 v23 14 v27 t0 fun M29 => wGetR S M29 u0 0 1 fun v30 => wGet S M29 v30 8 4 fun v32 => wC 1 fun v34 => wA v32 v34 fun v36 => wPut S M29 v30 8 4 v36 fun M38 => wC 1 fun v39 => (v39 = 0 ∨ v39 = 1) ∧ post v39 M38) (wC 0 fun v41 => (v41 = 0 ∨ v41 = 1) ∧ post v41 M)
def wp_X0_readHand_24 (S : Sh) (post : Int → Mm → Prop) (u0 : Int) (u1 : Int) (t0 : Int) (M : Mm) : Prop := wC (-1) fun v43 => wIf (¬ t0 = v43) (wGetR S M u0 0 0 fun v45 => wC 0 fun v47 => wC 5 fun v49 => isK S v45 7 ∧ (wp_X7_takeNumber S M v45 v47 v49 <| fun v52 M51 => wp_X0_readHand_43 S post u0 u1 t0 v52 M51)) (wC (-1) fun v54 => wp_X0_readHand_43 S post u0 u1 t0 v54 M)
def wp_X0_readHand (S : Sh) (M : Mm) (u0 : Int) (post : Int → Mm → Prop) : Prop := isK S u0 0 ∧ (wp_X0_takePlace S M u0 <| fun v57 M56 => wC (-1) fun v59 => wIf (¬ v57 = v59) (wGetR S M56 u0 0 0 fun v61 => wC 0 fun v63 => wC 20 fun v65 => isK S v61 7 ∧ (wp_X7_takeNumber S M56 v61 v63 v65 <| fun v68 M67 => wp_X0_readHand_24 S post u0 v57 v68 M67)) (wC (-1) fun v70 => wp_X0_readHand_24 S post u0 v57 v70 M56))
set_option maxHeartbeats 4000000 in
set_option maxRecDepth 100000 in
theorem t_X0_readHand_43 {p : Program} {l : Launch} {e : Env} {s : State} {m : MethodId} {args : Array Value} {below : List Frame} {meth : Method} {c : Code} {D : va_G} {G : Gt} {S : Sh} {post : Int → Mm → Prop} (C : Cx p s m args meth c D G cX0_readHand 4 (some .boolean) (cw_X0_readHand :: gw) RX0) : ∀ (xl0 : Int) (zl1 : Int32) (zl2 : Int32) (zs0 : Int32) (M : Mm) (H : Heap) (locs : List Loc) (ls : Array Slot), Wd D G S M H → va_S (aG G) s.heap H locs → lv_has ls 4 [(0, .ref (adr G xl0)), (1, .int zl1), (2, .int zl2)] → wp_X0_readHand_43 S post xl0 zl1.toInt zl2.toInt zs0.toInt M → W p l e RM_X0_readHand s m args below meth c H locs 0 0 (MQ below (QI D G S post) args s 0 0 (aG G)) (F0 m 43 ls [.int zs0]) := by
  obtain ⟨hx, hb, hr, hlocks, hml, hown, hts, hK⟩ := id C
  intro xl0 zl1 zl2 zs0 M H locs ls hP hS hl h
  unfold wp_X0_readHand_43 at h
  refine lv_istore_n (lv' := [(3, .int zs0), (0, .ref (adr G xl0)), (1, .int zl1), (2, .int zl2)]) hx hb dX0_readHand_43 rfl hl (by decide) rfl (fun ls hl => ?_)
  refine lv_iload_n hx hb dX0_readHand_44 rfl (lv_at hl 0 rfl) ?_
  refine r_iconst hx hb dX0_readHand_45 (by decide) h (fun z2 h => ?_)
  refine r_icmp_ne (tgt := 51) hx hb dX0_readHand_46 (by decide) h (fun h => ?_) (fun h => ?_)
  · refine lv_aload_n hx hb dX0_readHand_51 rfl (lv_at hl 1 rfl) ?_
    refine r_getr (C := RX0) (T := TX0) (N := 3) hx hb hts (fun w h => List.mem_cons_of_mem _ (iX0 w h)) hown hK hP rfl (by decide) rfl 2 (by decide) (hts _ (List.mem_cons_of_mem _ kw_292)) (fun _ h9 => h9) dX0_readHand_52 (by decide) h (fun x4 h => ?_)
    refine r_getrN (C := RX5) (T := TX5) (N := 9) hx hb hts (fun w h => List.mem_cons_of_mem _ (iX5 w h)) hown hK hP rfl (by decide) rfl 2 (by decide) (nw_51 hK) (fun _ h9 => h9) dX0_readHand_55 (by decide) h (fun x6 h => ?_)
    refine lv_aload_n hx hb dX0_readHand_58 rfl (lv_at hl 1 rfl) ?_
    refine r_getr (C := RX0) (T := TX0) (N := 3) hx hb hts (fun w h => List.mem_cons_of_mem _ (iX0 w h)) hown hK hP rfl (by decide) rfl 1 (by decide) (hts _ (List.mem_cons_of_mem _ kw_290)) (fun _ h9 => h9) dX0_readHand_59 (by decide) h (fun x8 h => ?_)
    refine r_getiN (C := RX8) (T := TX8) (N := 19) hx hb hts (fun w h => List.mem_cons_of_mem _ (iX8 w h)) hown hK hP rfl (by decide) rfl 4 (by decide) (nw_14 hK) (fun _ h9 => h9) dX0_readHand_62 (by decide) h (fun z10 h => ?_)
    refine lv_iload_n hx hb dX0_readHand_65 rfl (lv_at hl 2 rfl) ?_
    refine r_iast hx hb hK hP hS dX0_readHand_66 h (fun M11 H locs h hP hS => ?_)
    refine lv_aload_n hx hb dX0_readHand_67 rfl (lv_at hl 1 rfl) ?_
    refine r_getr (C := RX0) (T := TX0) (N := 3) hx hb hts (fun w h => List.mem_cons_of_mem _ (iX0 w h)) hown hK hP rfl (by decide) rfl 1 (by decide) (hts _ (List.mem_cons_of_mem _ kw_290)) (fun _ h9 => h9) dX0_readHand_68 (by decide) h (fun x13 h => ?_)
    refine r_getrN (C := RX8) (T := TX8) (N := 19) hx hb hts (fun w h => List.mem_cons_of_mem _ (iX8 w h)) hown hK hP rfl (by decide) rfl 10 (by decide) (nw_28 hK) (fun _ h9 => h9) dX0_readHand_71 (by decide) h (fun x15 h => ?_)
    refine lv_aload_n hx hb dX0_readHand_74 rfl (lv_at hl 1 rfl) ?_
    refine r_getr (C := RX0) (T := TX0) (N := 3) hx hb hts (fun w h => List.mem_cons_of_mem _ (iX0 w h)) hown hK hP rfl (by decide) rfl 1 (by decide) (hts _ (List.mem_cons_of_mem _ kw_290)) (fun _ h9 => h9) dX0_readHand_75 (by decide) h (fun x17 h => ?_)
    refine r_getiN (C := RX8) (T := TX8) (N := 19) hx hb hts (fun w h => List.mem_cons_of_mem _ (iX8 w h)) hown hK hP rfl (by decide) rfl 4 (by decide) (nw_14 hK) (fun _ h9 => h9) dX0_readHand_78 (by decide) h (fun z19 h => ?_)
    refine lv_iload_n hx hb dX0_readHand_81 rfl (lv_at hl 3 rfl) ?_
    refine r_iast hx hb hK hP hS dX0_readHand_82 h (fun M20 H locs h hP hS => ?_)
    refine lv_aload_n hx hb dX0_readHand_83 rfl (lv_at hl 1 rfl) ?_
    refine r_getr (C := RX0) (T := TX0) (N := 3) hx hb hts (fun w h => List.mem_cons_of_mem _ (iX0 w h)) hown hK hP rfl (by decide) rfl 1 (by decide) (hts _ (List.mem_cons_of_mem _ kw_290)) (fun _ h9 => h9) dX0_readHand_84 (by decide) h (fun x22 h => ?_)
    refine r_getrN (C := RX8) (T := TX8) (N := 19) hx hb hts (fun w h => List.mem_cons_of_mem _ (iX8 w h)) hown hK hP rfl (by decide) rfl 11 (by decide) (nw_32 hK) (fun _ h9 => h9) dX0_readHand_87 (by decide) h (fun x24 h => ?_)
    refine lv_aload_n hx hb dX0_readHand_90 rfl (lv_at hl 1 rfl) ?_
    refine r_getr (C := RX0) (T := TX0) (N := 3) hx hb hts (fun w h => List.mem_cons_of_mem _ (iX0 w h)) hown hK hP rfl (by decide) rfl 1 (by decide) (hts _ (List.mem_cons_of_mem _ kw_290)) (fun _ h9 => h9) dX0_readHand_91 (by decide) h (fun x26 h => ?_)
    refine r_getiN (C := RX8) (T := TX8) (N := 19) hx hb hts (fun w h => List.mem_cons_of_mem _ (iX8 w h)) hown hK hP rfl (by decide) rfl 4 (by decide) (nw_14 hK) (fun _ h9 => h9) dX0_readHand_94 (by decide) h (fun z28 h => ?_)
    refine lv_iload_n hx hb dX0_readHand_97 rfl (lv_at hl 0 rfl) ?_
    refine r_iast hx hb hK hP hS dX0_readHand_98 h (fun M29 H locs h hP hS => ?_)
    refine lv_aload_n hx hb dX0_readHand_99 rfl (lv_at hl 1 rfl) ?_
    refine r_getr (C := RX0) (T := TX0) (N := 3) hx hb hts (fun w h => List.mem_cons_of_mem _ (iX0 w h)) hown hK hP rfl (by decide) rfl 1 (by decide) (hts _ (List.mem_cons_of_mem _ kw_290)) (fun _ h9 => h9) dX0_readHand_100 (by decide) h (fun x31 h => ?_)
    refine lv_dup hx hb dX0_readHand_103 rfl ?_
    refine r_getiN (C := RX8) (T := TX8) (N := 19) hx hb hts (fun w h => List.mem_cons_of_mem _ (iX8 w h)) hown hK hP rfl (by decide) rfl 4 (by decide) (nw_14 hK) (fun _ h9 => h9) dX0_readHand_104 (by decide) h (fun z33 h => ?_)
    refine r_iconst hx hb dX0_readHand_107 (by decide) h (fun z35 h => ?_)
    refine r_iadd hx hb dX0_readHand_108 h (fun z37 h => ?_)
    refine r_putiN (C := RX8) (T := TX8) (N := 19) hx hb hts (fun w h => List.mem_cons_of_mem _ (iX8 w h)) hown hK hP tyX8 tyX8_ok nmX8 hS rfl (by decide) rfl 4 (by decide) (nw_14 hK) (fun _ h9 => h9) rfl (tyX8_ok 4 (by decide)) rfl rfl dX0_readHand_109 (by decide) h (fun M38 H locs h hP hS => ?_)
    refine r_iconst hx hb dX0_readHand_112 (by decide) h (fun z40 h => ?_)
    exact r_zret hx hb hr hlocks hP hS dX0_readHand_113 h
  · refine r_iconst hx hb dX0_readHand_49 (by decide) h (fun z42 h => ?_)
    exact r_zret hx hb hr hlocks hP hS dX0_readHand_50 h
set_option maxHeartbeats 4000000 in
set_option maxRecDepth 100000 in
theorem t_X0_readHand_24 {p : Program} {l : Launch} {e : Env} {s : State} {m : MethodId} {args : Array Value} {below : List Frame} {meth : Method} {c : Code} {D : va_G} {G : Gt} {S : Sh} {post : Int → Mm → Prop} (C : Cx p s m args meth c D G cX0_readHand 4 (some .boolean) (cw_X0_readHand :: gw) RX0) : ∀ (xl0 : Int) (zl1 : Int32) (zs0 : Int32) (M : Mm) (H : Heap) (locs : List Loc) (ls : Array Slot), Wd D G S M H → va_S (aG G) s.heap H locs → lv_has ls 4 [(0, .ref (adr G xl0)), (1, .int zl1)] → wp_X0_readHand_24 S post xl0 zl1.toInt zs0.toInt M → W p l e RM_X0_readHand s m args below meth c H locs 0 0 (MQ below (QI D G S post) args s 0 0 (aG G)) (F0 m 24 ls [.int zs0]) := by
  obtain ⟨hx, hb, hr, hlocks, hml, hown, hts, hK⟩ := id C
  intro xl0 zl1 zs0 M H locs ls hP hS hl h
  unfold wp_X0_readHand_24 at h
  refine lv_istore_n (lv' := [(2, .int zs0), (0, .ref (adr G xl0)), (1, .int zl1)]) hx hb dX0_readHand_24 rfl hl (by decide) rfl (fun ls hl => ?_)
  refine lv_iload_n hx hb dX0_readHand_25 rfl (lv_at hl 0 rfl) ?_
  refine r_iconst hx hb dX0_readHand_26 (by decide) h (fun z44 h => ?_)
  refine r_icmp_ne (tgt := 34) hx hb dX0_readHand_27 (by decide) h (fun h => ?_) (fun h => ?_)
  · refine lv_aload_n hx hb dX0_readHand_34 rfl (lv_at hl 1 rfl) ?_
    refine r_getr (C := RX0) (T := TX0) (N := 3) hx hb hts (fun w h => List.mem_cons_of_mem _ (iX0 w h)) hown hK hP rfl (by decide) rfl 0 (by decide) (hts _ (List.mem_cons_of_mem _ kw_289)) (fun _ h9 => h9) dX0_readHand_35 (by decide) h (fun x46 h => ?_)
    refine r_iconst hx hb dX0_readHand_38 (by decide) h (fun z48 h => ?_)
    refine r_iconst hx hb dX0_readHand_39 (by decide) h (fun z50 h => ?_)
    refine q_Vi hx hb hml hown hts hK hP hS (c_X7_takeNumber l D G S _ x46 z48 z50 _ h.2) ⟨callB_of 2 hts (gw_good kw_669) rfl rfl rfl (hts _ (List.mem_cons_of_mem _ kw_2)) (hts _ (List.mem_cons_of_mem _ kw_666)) hd_X7_takeNumber ⟨Nat.le_of_ble_eq_true rfl, Nat.le_of_ble_eq_true rfl⟩, (hts _ (List.mem_cons_of_mem _ kw_667)), (hts _ (List.mem_cons_of_mem _ kw_668))⟩ h.1 (ci := 7) rfl (by decide) rfl hl.1 rfl (lv_room (Nat.le_of_ble_eq_true rfl)) dX0_readHand_40 ⟨Nat.zero_le _, Nat.zero_le _⟩ (fun z53 M51 H locs h hP hS => ?_)
    exact t_X0_readHand_43 C xl0 zl1 zs0 z53 _ _ _ _ hP hS (lv_sub hl [1, 2, 0] rfl) h
  · refine r_iconst hx hb dX0_readHand_30 (by decide) h (fun z55 h => ?_)
    refine lv_goto (tgt := 43) hx hb dX0_readHand_31 (by decide) ?_
    exact t_X0_readHand_43 C xl0 zl1 zs0 z55 _ _ _ _ hP hS (lv_sub hl [1, 2, 0] rfl) h
set_option maxHeartbeats 4000000 in
set_option maxRecDepth 100000 in
theorem c_X0_readHand (l : Launch) (D : va_G) (G : Gt) (S : Sh) (M : Mm) (xl0 : Int) (post : Int → Mm → Prop) (h : wp_X0_readHand S M xl0 post) : Met l yX0_readHand (cw_X0_readHand :: gw) RM_X0_readHand (va_Pc [.ref (adr G xl0)] (fun U => KN D G U ∧ Wd D G S M U.heap)) (QI D G S post) 0 0 (aG G) := by
  refine Met.ofW (cc := cX0_readHand) (maxL := 4) (ret := (some .boolean)) (by decide) rfl ?_
  intro p e s m args below meth c s₁ B hml hv
  obtain ⟨rfl, hK, hP⟩ := hv
  have hx := B.exec
  have hb := B.bytes
  have hr := B.returns
  have hts := atoms_spec (ws := cw_X0_readHand :: gw) B.pre
  have hown : s.vm.findClass RX0 = some m.cls := findClass_of_methodNamed B.named
  have hlocks := B.notSynchronized
  have hS : va_S (aG G) s.heap s.heap [] := va_S.rf
  have C : Cx p s m ([.ref (adr G xl0)] : List Value).toArray meth c D G cX0_readHand 4 (some .boolean) (cw_X0_readHand :: gw) RX0 := ⟨hx, hb, hr, hlocks, hml, hown, hts, hK⟩
  have hl := lv_entry ([.ref (adr G xl0)]) (n := 4) (Nat.le_of_ble_eq_true rfl)
  rw [lg_entry_eq]
  generalize (lg_sl ([.ref (adr G xl0)]) ++ List.replicate (4 - (lg_sl ([.ref (adr G xl0)])).length) Slot.unset).toArray = ls at hl ⊢
  have hl : lv_has ls 4 [(0, .ref (adr G xl0))] := hl
  unfold wp_X0_readHand at h
  refine lv_aload_n hx hb dX0_readHand_0 rfl (lv_at hl 0 rfl) ?_
  refine q_Vi hx hb hml hown hts hK hP hS (c_X0_takePlace l D G S _ xl0 _ h.2) ⟨callB_of 0 hts (gw_good kw_681) rfl rfl rfl (hts _ (List.mem_cons_of_mem _ kw_7)) (hts _ (List.mem_cons_of_mem _ kw_678)) hd_X0_takePlace ⟨Nat.le_of_ble_eq_true rfl, Nat.le_of_ble_eq_true rfl⟩, (hts _ (List.mem_cons_of_mem _ kw_680)), (hts _ (List.mem_cons_of_mem _ kp_6))⟩ h.1 (ci := 0) rfl (by decide) rfl hl.1 rfl (lv_room (Nat.le_of_ble_eq_true rfl)) dX0_readHand_1 ⟨Nat.zero_le _, Nat.zero_le _⟩ (fun z58 M56 H locs h hP hS => ?_)
  refine lv_istore_n (lv' := [(1, .int z58), (0, .ref (adr G xl0))]) hx hb dX0_readHand_4 rfl hl (by decide) rfl (fun ls hl => ?_)
  refine lv_iload_n hx hb dX0_readHand_5 rfl (lv_at hl 0 rfl) ?_
  refine r_iconst hx hb dX0_readHand_6 (by decide) h (fun z60 h => ?_)
  refine r_icmp_ne (tgt := 14) hx hb dX0_readHand_7 (by decide) h (fun h => ?_) (fun h => ?_)
  · refine lv_aload_n hx hb dX0_readHand_14 rfl (lv_at hl 1 rfl) ?_
    refine r_getr (C := RX0) (T := TX0) (N := 3) hx hb hts (fun w h => List.mem_cons_of_mem _ (iX0 w h)) hown hK hP rfl (by decide) rfl 0 (by decide) (hts _ (List.mem_cons_of_mem _ kw_289)) (fun _ h9 => h9) dX0_readHand_15 (by decide) h (fun x62 h => ?_)
    refine r_iconst hx hb dX0_readHand_18 (by decide) h (fun z64 h => ?_)
    refine r_bipush hx hb dX0_readHand_19 (by decide) h (fun z66 h => ?_)
    refine q_Vi hx hb hml hown hts hK hP hS (c_X7_takeNumber l D G S _ x62 z64 z66 _ h.2) ⟨callB_of 2 hts (gw_good kw_669) rfl rfl rfl (hts _ (List.mem_cons_of_mem _ kw_2)) (hts _ (List.mem_cons_of_mem _ kw_666)) hd_X7_takeNumber ⟨Nat.le_of_ble_eq_true rfl, Nat.le_of_ble_eq_true rfl⟩, (hts _ (List.mem_cons_of_mem _ kw_667)), (hts _ (List.mem_cons_of_mem _ kw_668))⟩ h.1 (ci := 7) rfl (by decide) rfl hl.1 rfl (lv_room (Nat.le_of_ble_eq_true rfl)) dX0_readHand_21 ⟨Nat.zero_le _, Nat.zero_le _⟩ (fun z69 M67 H locs h hP hS => ?_)
    exact t_X0_readHand_24 C xl0 z58 z69 _ _ _ _ hP hS (lv_sub hl [1, 0] rfl) h
  · refine r_iconst hx hb dX0_readHand_10 (by decide) h (fun z71 h => ?_)
    refine lv_goto (tgt := 24) hx hb dX0_readHand_11 (by decide) ?_
    exact t_X0_readHand_24 C xl0 z58 z71 _ _ _ _ hP hS (lv_sub hl [1, 0] rfl) h
/-! TurningMilk$DairyReader.readJug()Z -/
abbrev RM_X0_readJug : Room := { frames := 4, cells := 0, slots := 0, locals := 104 }
def cw_X0_readJug : Cond := Cond.code yX0_readJug cX0_readJug 3 (Option.some FieldType.boolean)
theorem hd_X0_readJug : yX0_readJug.cls ≠ "java/lang/invoke/MethodHandle" ∧ yX0_readJug.cls ≠ "java/lang/invoke/VarHandle" ∧ (parseMethodDescriptor yX0_readJug.desc).map (fun d => d.parameters.length) = some 0 := by decide +kernel
theorem dX0_readJug_0 : decode cX0_readJug 0 = .ok (.aload_n 0, 1) := by decide +kernel
theorem dX0_readJug_1 : decode cX0_readJug 1 = .ok (.invokevirtual 130, 3) := by decide +kernel
theorem dX0_readJug_4 : decode cX0_readJug 4 = .ok (.istore_n 1, 1) := by decide +kernel
theorem dX0_readJug_5 : decode cX0_readJug 5 = .ok (.iload_n 1, 1) := by decide +kernel
theorem dX0_readJug_6 : decode cX0_readJug 6 = .ok (.iconst (-1), 1) := by decide +kernel
theorem dX0_readJug_7 : decode cX0_readJug 7 = .ok (.if_icmp .ne 7, 3) := by decide +kernel
theorem dX0_readJug_10 : decode cX0_readJug 10 = .ok (.iconst (-1), 1) := by decide +kernel
theorem dX0_readJug_11 : decode cX0_readJug 11 = .ok (.goto 13, 3) := by decide +kernel
theorem dX0_readJug_14 : decode cX0_readJug 14 = .ok (.aload_n 0, 1) := by decide +kernel
theorem dX0_readJug_15 : decode cX0_readJug 15 = .ok (.getfield 25, 3) := by decide +kernel
theorem dX0_readJug_18 : decode cX0_readJug 18 = .ok (.iconst 0, 1) := by decide +kernel
theorem dX0_readJug_19 : decode cX0_readJug 19 = .ok (.bipush 99, 2) := by decide +kernel
theorem dX0_readJug_21 : decode cX0_readJug 21 = .ok (.invokevirtual 117, 3) := by decide +kernel
theorem dX0_readJug_24 : decode cX0_readJug 24 = .ok (.istore_n 2, 1) := by decide +kernel
theorem dX0_readJug_25 : decode cX0_readJug 25 = .ok (.iload_n 2, 1) := by decide +kernel
theorem dX0_readJug_26 : decode cX0_readJug 26 = .ok (.iconst (-1), 1) := by decide +kernel
theorem dX0_readJug_27 : decode cX0_readJug 27 = .ok (.if_icmp .ne 5, 3) := by decide +kernel
theorem dX0_readJug_30 : decode cX0_readJug 30 = .ok (.iconst 0, 1) := by decide +kernel
theorem dX0_readJug_31 : decode cX0_readJug 31 = .ok (.ireturn, 1) := by decide +kernel
theorem dX0_readJug_32 : decode cX0_readJug 32 = .ok (.aload_n 0, 1) := by decide +kernel
theorem dX0_readJug_33 : decode cX0_readJug 33 = .ok (.getfield 21, 3) := by decide +kernel
theorem dX0_readJug_36 : decode cX0_readJug 36 = .ok (.getfield 150, 3) := by decide +kernel
theorem dX0_readJug_39 : decode cX0_readJug 39 = .ok (.aload_n 0, 1) := by decide +kernel
theorem dX0_readJug_40 : decode cX0_readJug 40 = .ok (.getfield 12, 3) := by decide +kernel
theorem dX0_readJug_43 : decode cX0_readJug 43 = .ok (.getfield 83, 3) := by decide +kernel
theorem dX0_readJug_46 : decode cX0_readJug 46 = .ok (.iload_n 1, 1) := by decide +kernel
theorem dX0_readJug_47 : decode cX0_readJug 47 = .ok (.iastore, 1) := by decide +kernel
theorem dX0_readJug_48 : decode cX0_readJug 48 = .ok (.aload_n 0, 1) := by decide +kernel
theorem dX0_readJug_49 : decode cX0_readJug 49 = .ok (.getfield 21, 3) := by decide +kernel
theorem dX0_readJug_52 : decode cX0_readJug 52 = .ok (.getfield 153, 3) := by decide +kernel
theorem dX0_readJug_55 : decode cX0_readJug 55 = .ok (.aload_n 0, 1) := by decide +kernel
theorem dX0_readJug_56 : decode cX0_readJug 56 = .ok (.getfield 12, 3) := by decide +kernel
theorem dX0_readJug_59 : decode cX0_readJug 59 = .ok (.getfield 83, 3) := by decide +kernel
theorem dX0_readJug_62 : decode cX0_readJug 62 = .ok (.iload_n 2, 1) := by decide +kernel
theorem dX0_readJug_63 : decode cX0_readJug 63 = .ok (.iastore, 1) := by decide +kernel
theorem dX0_readJug_64 : decode cX0_readJug 64 = .ok (.aload_n 0, 1) := by decide +kernel
theorem dX0_readJug_65 : decode cX0_readJug 65 = .ok (.getfield 12, 3) := by decide +kernel
theorem dX0_readJug_68 : decode cX0_readJug 68 = .ok (.dup, 1) := by decide +kernel
theorem dX0_readJug_69 : decode cX0_readJug 69 = .ok (.getfield 83, 3) := by decide +kernel
theorem dX0_readJug_72 : decode cX0_readJug 72 = .ok (.iconst 1, 1) := by decide +kernel
theorem dX0_readJug_73 : decode cX0_readJug 73 = .ok (.iadd, 1) := by decide +kernel
theorem dX0_readJug_74 : decode cX0_readJug 74 = .ok (.putfield 83, 3) := by decide +kernel
theorem dX0_readJug_77 : decode cX0_readJug 77 = .ok (.iconst 1, 1) := by decide +kernel
theorem dX0_readJug_78 : decode cX0_readJug 78 = .ok (.ireturn, 1) := by decide +kernel
def wp_X0_readJug_24 (S : Sh) (post : Int → Mm → Prop) (u0 : Int) (u1 : Int) (t0 : Int) (M : Mm) : Prop := wC (-1) fun v1 => wIf (¬ t0 = v1) (wGetR S M u0 0 2 fun v3 => wGetR S M v3 5 5 fun v5 => wGetR S M u0 0 1 fun v7 => wGet S M v7 8 5 fun v9 => wSt S M v5 14 v9 u1 fun M11 => wGetR S M11 u0 0 2 fun v12 => wGetR S M11 v12 5 7 fun v14 => wGetR S M11 u0 0 1 fun v16 => wGet S M11 v16 8 5 fun v18 => wSt S M11 v14 14 v18 t0 fun M20 => wGetR S M20 u0 0 1 fun v21 => wGet S M20 v21 8 5 fun v23 => wC 1 fun v25 => wA v23 v25 fun v27 => wPut S M20 v21 8 5 v27 fun M29 => wC 1 fun v30 => (v30 = 0 ∨ v30 = 1) ∧ post v30 M29) (wC 0 fun v32 => (v32 = 0 ∨ v32 = 1) ∧ post v32 M)
def wp_X0_readJug (S : Sh) (M : Mm) (u0 : Int) (post : Int → Mm → Prop) : Prop := isK S u0 0 ∧ (wp_X0_takePlace S M u0 <| fun v35 M34 => wC (-1) fun v37 => wIf (¬ v35 = v37) (wGetR S M34 u0 0 0 fun v39 => wC 0 fun v41 => wC 99 fun v43 => isK S v39 7 ∧ (wp_X7_takeNumber S M34 v39 v41 v43 <| fun v46 M45 => wp_X0_readJug_24 S post u0 v35 v46 M45)) (wC (-1) fun v48 => wp_X0_readJug_24 S post u0 v35 v48 M34))
set_option maxHeartbeats 4000000 in
set_option maxRecDepth 100000 in
theorem t_X0_readJug_24 {p : Program} {l : Launch} {e : Env} {s : State} {m : MethodId} {args : Array Value} {below : List Frame} {meth : Method} {c : Code} {D : va_G} {G : Gt} {S : Sh} {post : Int → Mm → Prop} (C : Cx p s m args meth c D G cX0_readJug 3 (some .boolean) (cw_X0_readJug :: gw) RX0) : ∀ (xl0 : Int) (zl1 : Int32) (zs0 : Int32) (M : Mm) (H : Heap) (locs : List Loc) (ls : Array Slot), Wd D G S M H → va_S (aG G) s.heap H locs → lv_has ls 3 [(0, .ref (adr G xl0)), (1, .int zl1)] → wp_X0_readJug_24 S post xl0 zl1.toInt zs0.toInt M → W p l e RM_X0_readJug s m args below meth c H locs 0 0 (MQ below (QI D G S post) args s 0 0 (aG G)) (F0 m 24 ls [.int zs0]) := by
  obtain ⟨hx, hb, hr, hlocks, hml, hown, hts, hK⟩ := id C
  intro xl0 zl1 zs0 M H locs ls hP hS hl h
  unfold wp_X0_readJug_24 at h
  refine lv_istore_n (lv' := [(2, .int zs0), (0, .ref (adr G xl0)), (1, .int zl1)]) hx hb dX0_readJug_24 rfl hl (by decide) rfl (fun ls hl => ?_)
  refine lv_iload_n hx hb dX0_readJug_25 rfl (lv_at hl 0 rfl) ?_
  refine r_iconst hx hb dX0_readJug_26 (by decide) h (fun z2 h => ?_)
  refine r_icmp_ne (tgt := 32) hx hb dX0_readJug_27 (by decide) h (fun h => ?_) (fun h => ?_)
  · refine lv_aload_n hx hb dX0_readJug_32 rfl (lv_at hl 1 rfl) ?_
    refine r_getr (C := RX0) (T := TX0) (N := 3) hx hb hts (fun w h => List.mem_cons_of_mem _ (iX0 w h)) hown hK hP rfl (by decide) rfl 2 (by decide) (hts _ (List.mem_cons_of_mem _ kw_292)) (fun _ h9 => h9) dX0_readJug_33 (by decide) h (fun x4 h => ?_)
    refine r_getrN (C := RX5) (T := TX5) (N := 9) hx hb hts (fun w h => List.mem_cons_of_mem _ (iX5 w h)) hown hK hP rfl (by decide) rfl 5 (by decide) (nw_59 hK) (fun _ h9 => h9) dX0_readJug_36 (by decide) h (fun x6 h => ?_)
    refine lv_aload_n hx hb dX0_readJug_39 rfl (lv_at hl 1 rfl) ?_
    refine r_getr (C := RX0) (T := TX0) (N := 3) hx hb hts (fun w h => List.mem_cons_of_mem _ (iX0 w h)) hown hK hP rfl (by decide) rfl 1 (by decide) (hts _ (List.mem_cons_of_mem _ kw_290)) (fun _ h9 => h9) dX0_readJug_40 (by decide) h (fun x8 h => ?_)
    refine r_getiN (C := RX8) (T := TX8) (N := 19) hx hb hts (fun w h => List.mem_cons_of_mem _ (iX8 w h)) hown hK hP rfl (by decide) rfl 5 (by decide) (nw_21 hK) (fun _ h9 => h9) dX0_readJug_43 (by decide) h (fun z10 h => ?_)
    refine lv_iload_n hx hb dX0_readJug_46 rfl (lv_at hl 2 rfl) ?_
    refine r_iast hx hb hK hP hS dX0_readJug_47 h (fun M11 H locs h hP hS => ?_)
    refine lv_aload_n hx hb dX0_readJug_48 rfl (lv_at hl 1 rfl) ?_
    refine r_getr (C := RX0) (T := TX0) (N := 3) hx hb hts (fun w h => List.mem_cons_of_mem _ (iX0 w h)) hown hK hP rfl (by decide) rfl 2 (by decide) (hts _ (List.mem_cons_of_mem _ kw_292)) (fun _ h9 => h9) dX0_readJug_49 (by decide) h (fun x13 h => ?_)
    refine r_getrN (C := RX5) (T := TX5) (N := 9) hx hb hts (fun w h => List.mem_cons_of_mem _ (iX5 w h)) hown hK hP rfl (by decide) rfl 7 (by decide) (nw_66 hK) (fun _ h9 => h9) dX0_readJug_52 (by decide) h (fun x15 h => ?_)
    refine lv_aload_n hx hb dX0_readJug_55 rfl (lv_at hl 1 rfl) ?_
    refine r_getr (C := RX0) (T := TX0) (N := 3) hx hb hts (fun w h => List.mem_cons_of_mem _ (iX0 w h)) hown hK hP rfl (by decide) rfl 1 (by decide) (hts _ (List.mem_cons_of_mem _ kw_290)) (fun _ h9 => h9) dX0_readJug_56 (by decide) h (fun x17 h => ?_)
    refine r_getiN (C := RX8) (T := TX8) (N := 19) hx hb hts (fun w h => List.mem_cons_of_mem _ (iX8 w h)) hown hK hP rfl (by decide) rfl 5 (by decide) (nw_21 hK) (fun _ h9 => h9) dX0_readJug_59 (by decide) h (fun z19 h => ?_)
    refine lv_iload_n hx hb dX0_readJug_62 rfl (lv_at hl 0 rfl) ?_
    refine r_iast hx hb hK hP hS dX0_readJug_63 h (fun M20 H locs h hP hS => ?_)
    refine lv_aload_n hx hb dX0_readJug_64 rfl (lv_at hl 1 rfl) ?_
    refine r_getr (C := RX0) (T := TX0) (N := 3) hx hb hts (fun w h => List.mem_cons_of_mem _ (iX0 w h)) hown hK hP rfl (by decide) rfl 1 (by decide) (hts _ (List.mem_cons_of_mem _ kw_290)) (fun _ h9 => h9) dX0_readJug_65 (by decide) h (fun x22 h => ?_)
    refine lv_dup hx hb dX0_readJug_68 rfl ?_
    refine r_getiN (C := RX8) (T := TX8) (N := 19) hx hb hts (fun w h => List.mem_cons_of_mem _ (iX8 w h)) hown hK hP rfl (by decide) rfl 5 (by decide) (nw_21 hK) (fun _ h9 => h9) dX0_readJug_69 (by decide) h (fun z24 h => ?_)
    refine r_iconst hx hb dX0_readJug_72 (by decide) h (fun z26 h => ?_)
    refine r_iadd hx hb dX0_readJug_73 h (fun z28 h => ?_)
    refine r_putiN (C := RX8) (T := TX8) (N := 19) hx hb hts (fun w h => List.mem_cons_of_mem _ (iX8 w h)) hown hK hP tyX8 tyX8_ok nmX8 hS rfl (by decide) rfl 5 (by decide) (nw_21 hK) (fun _ h9 => h9) rfl (tyX8_ok 5 (by decide)) rfl rfl dX0_readJug_74 (by decide) h (fun M29 H locs h hP hS => ?_)
    refine r_iconst hx hb dX0_readJug_77 (by decide) h (fun z31 h => ?_)
    exact r_zret hx hb hr hlocks hP hS dX0_readJug_78 h
  · refine r_iconst hx hb dX0_readJug_30 (by decide) h (fun z33 h => ?_)
    exact r_zret hx hb hr hlocks hP hS dX0_readJug_31 h
set_option maxHeartbeats 4000000 in
set_option maxRecDepth 100000 in
theorem c_X0_readJug (l : Launch) (D : va_G) (G : Gt) (S : Sh) (M : Mm) (xl0 : Int) (post : Int → Mm → Prop) (h : wp_X0_readJug S M xl0 post) : Met l yX0_readJug (cw_X0_readJug :: gw) RM_X0_readJug (va_Pc [.ref (adr G xl0)] (fun U => KN D G U ∧ Wd D G S M U.heap)) (QI D G S post) 0 0 (aG G) := by
  refine Met.ofW (cc := cX0_readJug) (maxL := 3) (ret := (some .boolean)) (by decide) rfl ?_
  intro p e s m args below meth c s₁ B hml hv
  obtain ⟨rfl, hK, hP⟩ := hv
  have hx := B.exec
  have hb := B.bytes
  have hr := B.returns
  have hts := atoms_spec (ws := cw_X0_readJug :: gw) B.pre
  have hown : s.vm.findClass RX0 = some m.cls := findClass_of_methodNamed B.named
  have hlocks := B.notSynchronized
  have hS : va_S (aG G) s.heap s.heap [] := va_S.rf
  have C : Cx p s m ([.ref (adr G xl0)] : List Value).toArray meth c D G cX0_readJug 3 (some .boolean) (cw_X0_readJug :: gw) RX0 := ⟨hx, hb, hr, hlocks, hml, hown, hts, hK⟩
  have hl := lv_entry ([.ref (adr G xl0)]) (n := 3) (Nat.le_of_ble_eq_true rfl)
  rw [lg_entry_eq]
  generalize (lg_sl ([.ref (adr G xl0)]) ++ List.replicate (3 - (lg_sl ([.ref (adr G xl0)])).length) Slot.unset).toArray = ls at hl ⊢
  have hl : lv_has ls 3 [(0, .ref (adr G xl0))] := hl
  unfold wp_X0_readJug at h
  refine lv_aload_n hx hb dX0_readJug_0 rfl (lv_at hl 0 rfl) ?_
  refine q_Vi hx hb hml hown hts hK hP hS (c_X0_takePlace l D G S _ xl0 _ h.2) ⟨callB_of 0 hts (gw_good kw_681) rfl rfl rfl (hts _ (List.mem_cons_of_mem _ kw_7)) (hts _ (List.mem_cons_of_mem _ kw_678)) hd_X0_takePlace ⟨Nat.le_of_ble_eq_true rfl, Nat.le_of_ble_eq_true rfl⟩, (hts _ (List.mem_cons_of_mem _ kw_680)), (hts _ (List.mem_cons_of_mem _ kp_6))⟩ h.1 (ci := 0) rfl (by decide) rfl hl.1 rfl (lv_room (Nat.le_of_ble_eq_true rfl)) dX0_readJug_1 ⟨Nat.zero_le _, Nat.zero_le _⟩ (fun z36 M34 H locs h hP hS => ?_)
  refine lv_istore_n (lv' := [(1, .int z36), (0, .ref (adr G xl0))]) hx hb dX0_readJug_4 rfl hl (by decide) rfl (fun ls hl => ?_)
  refine lv_iload_n hx hb dX0_readJug_5 rfl (lv_at hl 0 rfl) ?_
  refine r_iconst hx hb dX0_readJug_6 (by decide) h (fun z38 h => ?_)
  refine r_icmp_ne (tgt := 14) hx hb dX0_readJug_7 (by decide) h (fun h => ?_) (fun h => ?_)
  · refine lv_aload_n hx hb dX0_readJug_14 rfl (lv_at hl 1 rfl) ?_
    refine r_getr (C := RX0) (T := TX0) (N := 3) hx hb hts (fun w h => List.mem_cons_of_mem _ (iX0 w h)) hown hK hP rfl (by decide) rfl 0 (by decide) (hts _ (List.mem_cons_of_mem _ kw_289)) (fun _ h9 => h9) dX0_readJug_15 (by decide) h (fun x40 h => ?_)
    refine r_iconst hx hb dX0_readJug_18 (by decide) h (fun z42 h => ?_)
    refine r_bipush hx hb dX0_readJug_19 (by decide) h (fun z44 h => ?_)
    refine q_Vi hx hb hml hown hts hK hP hS (c_X7_takeNumber l D G S _ x40 z42 z44 _ h.2) ⟨callB_of 2 hts (gw_good kw_669) rfl rfl rfl (hts _ (List.mem_cons_of_mem _ kw_2)) (hts _ (List.mem_cons_of_mem _ kw_666)) hd_X7_takeNumber ⟨Nat.le_of_ble_eq_true rfl, Nat.le_of_ble_eq_true rfl⟩, (hts _ (List.mem_cons_of_mem _ kw_667)), (hts _ (List.mem_cons_of_mem _ kw_668))⟩ h.1 (ci := 7) rfl (by decide) rfl hl.1 rfl (lv_room (Nat.le_of_ble_eq_true rfl)) dX0_readJug_21 ⟨Nat.zero_le _, Nat.zero_le _⟩ (fun z47 M45 H locs h hP hS => ?_)
    exact t_X0_readJug_24 C xl0 z36 z47 _ _ _ _ hP hS (lv_sub hl [1, 0] rfl) h
  · refine r_iconst hx hb dX0_readJug_10 (by decide) h (fun z49 h => ?_)
    refine lv_goto (tgt := 24) hx hb dX0_readJug_11 (by decide) ?_
    exact t_X0_readJug_24 C xl0 z36 z49 _ _ _ _ hP hS (lv_sub hl [1, 0] rfl) h
/-! TurningMilk$DairyReader.readHeat()Z -/
abbrev RM_X0_readHeat : Room := { frames := 3, cells := 0, slots := 0, locals := 84 }
def cw_X0_readHeat : Cond := Cond.code yX0_readHeat cX0_readHeat 4 (Option.some FieldType.boolean)
theorem hd_X0_readHeat : yX0_readHeat.cls ≠ "java/lang/invoke/MethodHandle" ∧ yX0_readHeat.cls ≠ "java/lang/invoke/VarHandle" ∧ (parseMethodDescriptor yX0_readHeat.desc).map (fun d => d.parameters.length) = some 0 := by decide +kernel
theorem dX0_readHeat_0 : decode cX0_readHeat 0 = .ok (.aload_n 0, 1) := by decide +kernel
theorem dX0_readHeat_1 : decode cX0_readHeat 1 = .ok (.getfield 25, 3) := by decide +kernel
theorem dX0_readHeat_4 : decode cX0_readHeat 4 = .ok (.iconst 0, 1) := by decide +kernel
theorem dX0_readHeat_5 : decode cX0_readHeat 5 = .ok (.bipush 99, 2) := by decide +kernel
theorem dX0_readHeat_7 : decode cX0_readHeat 7 = .ok (.invokevirtual 117, 3) := by decide +kernel
theorem dX0_readHeat_10 : decode cX0_readHeat 10 = .ok (.istore_n 1, 1) := by decide +kernel
theorem dX0_readHeat_11 : decode cX0_readHeat 11 = .ok (.iload_n 1, 1) := by decide +kernel
theorem dX0_readHeat_12 : decode cX0_readHeat 12 = .ok (.iconst (-1), 1) := by decide +kernel
theorem dX0_readHeat_13 : decode cX0_readHeat 13 = .ok (.if_icmp .ne 7, 3) := by decide +kernel
theorem dX0_readHeat_16 : decode cX0_readHeat 16 = .ok (.iconst (-1), 1) := by decide +kernel
theorem dX0_readHeat_17 : decode cX0_readHeat 17 = .ok (.goto 13, 3) := by decide +kernel
theorem dX0_readHeat_20 : decode cX0_readHeat 20 = .ok (.aload_n 0, 1) := by decide +kernel
theorem dX0_readHeat_21 : decode cX0_readHeat 21 = .ok (.getfield 25, 3) := by decide +kernel
theorem dX0_readHeat_24 : decode cX0_readHeat 24 = .ok (.iload_n 1, 1) := by decide +kernel
theorem dX0_readHeat_25 : decode cX0_readHeat 25 = .ok (.bipush 99, 2) := by decide +kernel
theorem dX0_readHeat_27 : decode cX0_readHeat 27 = .ok (.invokevirtual 117, 3) := by decide +kernel
theorem dX0_readHeat_30 : decode cX0_readHeat 30 = .ok (.istore_n 2, 1) := by decide +kernel
theorem dX0_readHeat_31 : decode cX0_readHeat 31 = .ok (.iload_n 2, 1) := by decide +kernel
theorem dX0_readHeat_32 : decode cX0_readHeat 32 = .ok (.iconst (-1), 1) := by decide +kernel
theorem dX0_readHeat_33 : decode cX0_readHeat 33 = .ok (.if_icmp .ne 7, 3) := by decide +kernel
theorem dX0_readHeat_36 : decode cX0_readHeat 36 = .ok (.iconst (-1), 1) := by decide +kernel
theorem dX0_readHeat_37 : decode cX0_readHeat 37 = .ok (.goto 12, 3) := by decide +kernel
theorem dX0_readHeat_40 : decode cX0_readHeat 40 = .ok (.aload_n 0, 1) := by decide +kernel
theorem dX0_readHeat_41 : decode cX0_readHeat 41 = .ok (.getfield 25, 3) := by decide +kernel
theorem dX0_readHeat_44 : decode cX0_readHeat 44 = .ok (.iconst 1, 1) := by decide +kernel
theorem dX0_readHeat_45 : decode cX0_readHeat 45 = .ok (.iconst 5, 1) := by decide +kernel
theorem dX0_readHeat_46 : decode cX0_readHeat 46 = .ok (.invokevirtual 117, 3) := by decide +kernel
theorem dX0_readHeat_49 : decode cX0_readHeat 49 = .ok (.istore_n 3, 1) := by decide +kernel
theorem dX0_readHeat_50 : decode cX0_readHeat 50 = .ok (.iload_n 3, 1) := by decide +kernel
theorem dX0_readHeat_51 : decode cX0_readHeat 51 = .ok (.iconst (-1), 1) := by decide +kernel
theorem dX0_readHeat_52 : decode cX0_readHeat 52 = .ok (.if_icmp .ne 5, 3) := by decide +kernel
theorem dX0_readHeat_55 : decode cX0_readHeat 55 = .ok (.iconst 0, 1) := by decide +kernel
theorem dX0_readHeat_56 : decode cX0_readHeat 56 = .ok (.ireturn, 1) := by decide +kernel
theorem dX0_readHeat_57 : decode cX0_readHeat 57 = .ok (.aload_n 0, 1) := by decide +kernel
theorem dX0_readHeat_58 : decode cX0_readHeat 58 = .ok (.getfield 12, 3) := by decide +kernel
theorem dX0_readHeat_61 : decode cX0_readHeat 61 = .ok (.getfield 156, 3) := by decide +kernel
theorem dX0_readHeat_64 : decode cX0_readHeat 64 = .ok (.aload_n 0, 1) := by decide +kernel
theorem dX0_readHeat_65 : decode cX0_readHeat 65 = .ok (.getfield 12, 3) := by decide +kernel
theorem dX0_readHeat_68 : decode cX0_readHeat 68 = .ok (.getfield 86, 3) := by decide +kernel
theorem dX0_readHeat_71 : decode cX0_readHeat 71 = .ok (.iload_n 1, 1) := by decide +kernel
theorem dX0_readHeat_72 : decode cX0_readHeat 72 = .ok (.iastore, 1) := by decide +kernel
theorem dX0_readHeat_73 : decode cX0_readHeat 73 = .ok (.aload_n 0, 1) := by decide +kernel
theorem dX0_readHeat_74 : decode cX0_readHeat 74 = .ok (.getfield 12, 3) := by decide +kernel
theorem dX0_readHeat_77 : decode cX0_readHeat 77 = .ok (.getfield 159, 3) := by decide +kernel
theorem dX0_readHeat_80 : decode cX0_readHeat 80 = .ok (.aload_n 0, 1) := by decide +kernel
theorem dX0_readHeat_81 : decode cX0_readHeat 81 = .ok (.getfield 12, 3) := by decide +kernel
theorem dX0_readHeat_84 : decode cX0_readHeat 84 = .ok (.getfield 86, 3) := by decide +kernel
theorem dX0_readHeat_87 : decode cX0_readHeat 87 = .ok (.iload_n 2, 1) := by decide +kernel
theorem dX0_readHeat_88 : decode cX0_readHeat 88 = .ok (.iastore, 1) := by decide +kernel
theorem dX0_readHeat_89 : decode cX0_readHeat 89 = .ok (.aload_n 0, 1) := by decide +kernel
theorem dX0_readHeat_90 : decode cX0_readHeat 90 = .ok (.getfield 12, 3) := by decide +kernel
theorem dX0_readHeat_93 : decode cX0_readHeat 93 = .ok (.getfield 162, 3) := by decide +kernel
theorem dX0_readHeat_96 : decode cX0_readHeat 96 = .ok (.aload_n 0, 1) := by decide +kernel
theorem dX0_readHeat_97 : decode cX0_readHeat 97 = .ok (.getfield 12, 3) := by decide +kernel
theorem dX0_readHeat_100 : decode cX0_readHeat 100 = .ok (.getfield 86, 3) := by decide +kernel
theorem dX0_readHeat_103 : decode cX0_readHeat 103 = .ok (.iload_n 3, 1) := by decide +kernel
theorem dX0_readHeat_104 : decode cX0_readHeat 104 = .ok (.iastore, 1) := by decide +kernel
theorem dX0_readHeat_105 : decode cX0_readHeat 105 = .ok (.aload_n 0, 1) := by decide +kernel
theorem dX0_readHeat_106 : decode cX0_readHeat 106 = .ok (.getfield 12, 3) := by decide +kernel
theorem dX0_readHeat_109 : decode cX0_readHeat 109 = .ok (.dup, 1) := by decide +kernel
theorem dX0_readHeat_110 : decode cX0_readHeat 110 = .ok (.getfield 86, 3) := by decide +kernel
theorem dX0_readHeat_113 : decode cX0_readHeat 113 = .ok (.iconst 1, 1) := by decide +kernel
theorem dX0_readHeat_114 : decode cX0_readHeat 114 = .ok (.iadd, 1) := by decide +kernel
theorem dX0_readHeat_115 : decode cX0_readHeat 115 = .ok (.putfield 86, 3) := by decide +kernel
theorem dX0_readHeat_118 : decode cX0_readHeat 118 = .ok (.iconst 1, 1) := by decide +kernel
theorem dX0_readHeat_119 : decode cX0_readHeat 119 = .ok (.ireturn, 1) := by decide +kernel
def wp_X0_readHeat_49 (S : Sh) (post : Int → Mm → Prop) (u0 : Int) (u1 : Int) (u2 : Int) (t0 : Int) (M : Mm) : Prop := wC (-1) fun v1 => wIf (¬ t0 = v1) (wGetR S M u0 0 1 fun v3 => wGetR S M v3 8 12 fun v5 => wGetR S M u0 0 1 fun v7 => wGet S M v7 8 6 fun v9 => wSt S M v5 14 v9 u1 fun M11 => wGetR S M11 u0 0 1 fun v12 => wGetR S M11 v12 8 13 fun v14 => wGetR S M11 u0 0 1 fun v16 => wGet S M11 v16 8 6 fun v18 => wSt S M11 v14 14 v18 u2 fun M20 => wGetR S M20 u0 0 1 fun v21 => wGetR S M20 v21 8 14 fun v23 => wGetR S M20 u0 0 1 fun v25 => wGet S M20 v25 8 6 fun v27 => wSt S M20 v23 14 v27 t0 fun M29 => wGetR S M29 u0 0 1 fun v30 => wGet S M29 v30 8 6 fun v32 => wC 1 fun v34 => wA v32 v34 fun v36 => wPut S M29 v30 8 6 v36 fun M38 => wC 1 fun v39 => (v39 = 0 ∨ v39 = 1) ∧ post v39 M38) (wC 0 fun v41 => (v41 = 0 ∨ v41 = 1) ∧ post v41 M)
def wp_X0_readHeat_30 (S : Sh) (post : Int → Mm → Prop) (u0 : Int) (u1 : Int) (t0 : Int) (M : Mm) : Prop := wC (-1) fun v43 => wIf (¬ t0 = v43) (wGetR S M u0 0 0 fun v45 => wC 1 fun v47 => wC 5 fun v49 => isK S v45 7 ∧ (wp_X7_takeNumber S M v45 v47 v49 <| fun v52 M51 => wp_X0_readHeat_49 S post u0 u1 t0 v52 M51)) (wC (-1) fun v54 => wp_X0_readHeat_49 S post u0 u1 t0 v54 M)
def wp_X0_readHeat (S : Sh) (M : Mm) (u0 : Int) (post : Int → Mm → Prop) : Prop := wGetR S M u0 0 0 fun v56 => wC 0 fun v58 => wC 99 fun v60 => isK S v56 7 ∧ (wp_X7_takeNumber S M v56 v58 v60 <| fun v63 M62 => wC (-1) fun v65 => wIf (¬ v63 = v65) (wGetR S M62 u0 0 0 fun v67 => wC 99 fun v69 => isK S v67 7 ∧ (wp_X7_takeNumber S M62 v67 v63 v69 <| fun v72 M71 => wp_X0_readHeat_30 S post u0 v63 v72 M71)) (wC (-1) fun v74 => wp_X0_readHeat_30 S post u0 v63 v74 M62))
set_option maxHeartbeats 4000000 in
set_option maxRecDepth 100000 in
theorem t_X0_readHeat_49 {p : Program} {l : Launch} {e : Env} {s : State} {m : MethodId} {args : Array Value} {below : List Frame} {meth : Method} {c : Code} {D : va_G} {G : Gt} {S : Sh} {post : Int → Mm → Prop} (C : Cx p s m args meth c D G cX0_readHeat 4 (some .boolean) (cw_X0_readHeat :: gw) RX0) : ∀ (xl0 : Int) (zl1 : Int32) (zl2 : Int32) (zs0 : Int32) (M : Mm) (H : Heap) (locs : List Loc) (ls : Array Slot), Wd D G S M H → va_S (aG G) s.heap H locs → lv_has ls 4 [(0, .ref (adr G xl0)), (1, .int zl1), (2, .int zl2)] → wp_X0_readHeat_49 S post xl0 zl1.toInt zl2.toInt zs0.toInt M → W p l e RM_X0_readHeat s m args below meth c H locs 0 0 (MQ below (QI D G S post) args s 0 0 (aG G)) (F0 m 49 ls [.int zs0]) := by
  obtain ⟨hx, hb, hr, hlocks, hml, hown, hts, hK⟩ := id C
  intro xl0 zl1 zl2 zs0 M H locs ls hP hS hl h
  unfold wp_X0_readHeat_49 at h
  refine lv_istore_n (lv' := [(3, .int zs0), (0, .ref (adr G xl0)), (1, .int zl1), (2, .int zl2)]) hx hb dX0_readHeat_49 rfl hl (by decide) rfl (fun ls hl => ?_)
  refine lv_iload_n hx hb dX0_readHeat_50 rfl (lv_at hl 0 rfl) ?_
  refine r_iconst hx hb dX0_readHeat_51 (by decide) h (fun z2 h => ?_)
  refine r_icmp_ne (tgt := 57) hx hb dX0_readHeat_52 (by decide) h (fun h => ?_) (fun h => ?_)
  · refine lv_aload_n hx hb dX0_readHeat_57 rfl (lv_at hl 1 rfl) ?_
    refine r_getr (C := RX0) (T := TX0) (N := 3) hx hb hts (fun w h => List.mem_cons_of_mem _ (iX0 w h)) hown hK hP rfl (by decide) rfl 1 (by decide) (hts _ (List.mem_cons_of_mem _ kw_290)) (fun _ h9 => h9) dX0_readHeat_58 (by decide) h (fun x4 h => ?_)
    refine r_getrN (C := RX8) (T := TX8) (N := 19) hx hb hts (fun w h => List.mem_cons_of_mem _ (iX8 w h)) hown hK hP rfl (by decide) rfl 12 (by decide) (nw_34 hK) (fun _ h9 => h9) dX0_readHeat_61 (by decide) h (fun x6 h => ?_)
    refine lv_aload_n hx hb dX0_readHeat_64 rfl (lv_at hl 1 rfl) ?_
    refine r_getr (C := RX0) (T := TX0) (N := 3) hx hb hts (fun w h => List.mem_cons_of_mem _ (iX0 w h)) hown hK hP rfl (by decide) rfl 1 (by decide) (hts _ (List.mem_cons_of_mem _ kw_290)) (fun _ h9 => h9) dX0_readHeat_65 (by decide) h (fun x8 h => ?_)
    refine r_getiN (C := RX8) (T := TX8) (N := 19) hx hb hts (fun w h => List.mem_cons_of_mem _ (iX8 w h)) hown hK hP rfl (by decide) rfl 6 (by decide) (nw_22 hK) (fun _ h9 => h9) dX0_readHeat_68 (by decide) h (fun z10 h => ?_)
    refine lv_iload_n hx hb dX0_readHeat_71 rfl (lv_at hl 2 rfl) ?_
    refine r_iast hx hb hK hP hS dX0_readHeat_72 h (fun M11 H locs h hP hS => ?_)
    refine lv_aload_n hx hb dX0_readHeat_73 rfl (lv_at hl 1 rfl) ?_
    refine r_getr (C := RX0) (T := TX0) (N := 3) hx hb hts (fun w h => List.mem_cons_of_mem _ (iX0 w h)) hown hK hP rfl (by decide) rfl 1 (by decide) (hts _ (List.mem_cons_of_mem _ kw_290)) (fun _ h9 => h9) dX0_readHeat_74 (by decide) h (fun x13 h => ?_)
    refine r_getrN (C := RX8) (T := TX8) (N := 19) hx hb hts (fun w h => List.mem_cons_of_mem _ (iX8 w h)) hown hK hP rfl (by decide) rfl 13 (by decide) (nw_35 hK) (fun _ h9 => h9) dX0_readHeat_77 (by decide) h (fun x15 h => ?_)
    refine lv_aload_n hx hb dX0_readHeat_80 rfl (lv_at hl 1 rfl) ?_
    refine r_getr (C := RX0) (T := TX0) (N := 3) hx hb hts (fun w h => List.mem_cons_of_mem _ (iX0 w h)) hown hK hP rfl (by decide) rfl 1 (by decide) (hts _ (List.mem_cons_of_mem _ kw_290)) (fun _ h9 => h9) dX0_readHeat_81 (by decide) h (fun x17 h => ?_)
    refine r_getiN (C := RX8) (T := TX8) (N := 19) hx hb hts (fun w h => List.mem_cons_of_mem _ (iX8 w h)) hown hK hP rfl (by decide) rfl 6 (by decide) (nw_22 hK) (fun _ h9 => h9) dX0_readHeat_84 (by decide) h (fun z19 h => ?_)
    refine lv_iload_n hx hb dX0_readHeat_87 rfl (lv_at hl 3 rfl) ?_
    refine r_iast hx hb hK hP hS dX0_readHeat_88 h (fun M20 H locs h hP hS => ?_)
    refine lv_aload_n hx hb dX0_readHeat_89 rfl (lv_at hl 1 rfl) ?_
    refine r_getr (C := RX0) (T := TX0) (N := 3) hx hb hts (fun w h => List.mem_cons_of_mem _ (iX0 w h)) hown hK hP rfl (by decide) rfl 1 (by decide) (hts _ (List.mem_cons_of_mem _ kw_290)) (fun _ h9 => h9) dX0_readHeat_90 (by decide) h (fun x22 h => ?_)
    refine r_getrN (C := RX8) (T := TX8) (N := 19) hx hb hts (fun w h => List.mem_cons_of_mem _ (iX8 w h)) hown hK hP rfl (by decide) rfl 14 (by decide) (nw_36 hK) (fun _ h9 => h9) dX0_readHeat_93 (by decide) h (fun x24 h => ?_)
    refine lv_aload_n hx hb dX0_readHeat_96 rfl (lv_at hl 1 rfl) ?_
    refine r_getr (C := RX0) (T := TX0) (N := 3) hx hb hts (fun w h => List.mem_cons_of_mem _ (iX0 w h)) hown hK hP rfl (by decide) rfl 1 (by decide) (hts _ (List.mem_cons_of_mem _ kw_290)) (fun _ h9 => h9) dX0_readHeat_97 (by decide) h (fun x26 h => ?_)
    refine r_getiN (C := RX8) (T := TX8) (N := 19) hx hb hts (fun w h => List.mem_cons_of_mem _ (iX8 w h)) hown hK hP rfl (by decide) rfl 6 (by decide) (nw_22 hK) (fun _ h9 => h9) dX0_readHeat_100 (by decide) h (fun z28 h => ?_)
    refine lv_iload_n hx hb dX0_readHeat_103 rfl (lv_at hl 0 rfl) ?_
    refine r_iast hx hb hK hP hS dX0_readHeat_104 h (fun M29 H locs h hP hS => ?_)
    refine lv_aload_n hx hb dX0_readHeat_105 rfl (lv_at hl 1 rfl) ?_
    refine r_getr (C := RX0) (T := TX0) (N := 3) hx hb hts (fun w h => List.mem_cons_of_mem _ (iX0 w h)) hown hK hP rfl (by decide) rfl 1 (by decide) (hts _ (List.mem_cons_of_mem _ kw_290)) (fun _ h9 => h9) dX0_readHeat_106 (by decide) h (fun x31 h => ?_)
    refine lv_dup hx hb dX0_readHeat_109 rfl ?_
    refine r_getiN (C := RX8) (T := TX8) (N := 19) hx hb hts (fun w h => List.mem_cons_of_mem _ (iX8 w h)) hown hK hP rfl (by decide) rfl 6 (by decide) (nw_22 hK) (fun _ h9 => h9) dX0_readHeat_110 (by decide) h (fun z33 h => ?_)
    refine r_iconst hx hb dX0_readHeat_113 (by decide) h (fun z35 h => ?_)
    refine r_iadd hx hb dX0_readHeat_114 h (fun z37 h => ?_)
    refine r_putiN (C := RX8) (T := TX8) (N := 19) hx hb hts (fun w h => List.mem_cons_of_mem _ (iX8 w h)) hown hK hP tyX8 tyX8_ok nmX8 hS rfl (by decide) rfl 6 (by decide) (nw_22 hK) (fun _ h9 => h9) rfl (tyX8_ok 6 (by decide)) rfl rfl dX0_readHeat_115 (by decide) h (fun M38 H locs h hP hS => ?_)
    refine r_iconst hx hb dX0_readHeat_118 (by decide) h (fun z40 h => ?_)
    exact r_zret hx hb hr hlocks hP hS dX0_readHeat_119 h
  · refine r_iconst hx hb dX0_readHeat_55 (by decide) h (fun z42 h => ?_)
    exact r_zret hx hb hr hlocks hP hS dX0_readHeat_56 h
set_option maxHeartbeats 4000000 in
set_option maxRecDepth 100000 in
theorem t_X0_readHeat_30 {p : Program} {l : Launch} {e : Env} {s : State} {m : MethodId} {args : Array Value} {below : List Frame} {meth : Method} {c : Code} {D : va_G} {G : Gt} {S : Sh} {post : Int → Mm → Prop} (C : Cx p s m args meth c D G cX0_readHeat 4 (some .boolean) (cw_X0_readHeat :: gw) RX0) : ∀ (xl0 : Int) (zl1 : Int32) (zs0 : Int32) (M : Mm) (H : Heap) (locs : List Loc) (ls : Array Slot), Wd D G S M H → va_S (aG G) s.heap H locs → lv_has ls 4 [(0, .ref (adr G xl0)), (1, .int zl1)] → wp_X0_readHeat_30 S post xl0 zl1.toInt zs0.toInt M → W p l e RM_X0_readHeat s m args below meth c H locs 0 0 (MQ below (QI D G S post) args s 0 0 (aG G)) (F0 m 30 ls [.int zs0]) := by
  obtain ⟨hx, hb, hr, hlocks, hml, hown, hts, hK⟩ := id C
  intro xl0 zl1 zs0 M H locs ls hP hS hl h
  unfold wp_X0_readHeat_30 at h
  refine lv_istore_n (lv' := [(2, .int zs0), (0, .ref (adr G xl0)), (1, .int zl1)]) hx hb dX0_readHeat_30 rfl hl (by decide) rfl (fun ls hl => ?_)
  refine lv_iload_n hx hb dX0_readHeat_31 rfl (lv_at hl 0 rfl) ?_
  refine r_iconst hx hb dX0_readHeat_32 (by decide) h (fun z44 h => ?_)
  refine r_icmp_ne (tgt := 40) hx hb dX0_readHeat_33 (by decide) h (fun h => ?_) (fun h => ?_)
  · refine lv_aload_n hx hb dX0_readHeat_40 rfl (lv_at hl 1 rfl) ?_
    refine r_getr (C := RX0) (T := TX0) (N := 3) hx hb hts (fun w h => List.mem_cons_of_mem _ (iX0 w h)) hown hK hP rfl (by decide) rfl 0 (by decide) (hts _ (List.mem_cons_of_mem _ kw_289)) (fun _ h9 => h9) dX0_readHeat_41 (by decide) h (fun x46 h => ?_)
    refine r_iconst hx hb dX0_readHeat_44 (by decide) h (fun z48 h => ?_)
    refine r_iconst hx hb dX0_readHeat_45 (by decide) h (fun z50 h => ?_)
    refine q_Vi hx hb hml hown hts hK hP hS (c_X7_takeNumber l D G S _ x46 z48 z50 _ h.2) ⟨callB_of 2 hts (gw_good kw_669) rfl rfl rfl (hts _ (List.mem_cons_of_mem _ kw_2)) (hts _ (List.mem_cons_of_mem _ kw_666)) hd_X7_takeNumber ⟨Nat.le_of_ble_eq_true rfl, Nat.le_of_ble_eq_true rfl⟩, (hts _ (List.mem_cons_of_mem _ kw_667)), (hts _ (List.mem_cons_of_mem _ kw_668))⟩ h.1 (ci := 7) rfl (by decide) rfl hl.1 rfl (lv_room (Nat.le_of_ble_eq_true rfl)) dX0_readHeat_46 ⟨Nat.zero_le _, Nat.zero_le _⟩ (fun z53 M51 H locs h hP hS => ?_)
    exact t_X0_readHeat_49 C xl0 zl1 zs0 z53 _ _ _ _ hP hS (lv_sub hl [1, 2, 0] rfl) h
  · refine r_iconst hx hb dX0_readHeat_36 (by decide) h (fun z55 h => ?_)
    refine lv_goto (tgt := 49) hx hb dX0_readHeat_37 (by decide) ?_
    exact t_X0_readHeat_49 C xl0 zl1 zs0 z55 _ _ _ _ hP hS (lv_sub hl [1, 2, 0] rfl) h
set_option maxHeartbeats 4000000 in
set_option maxRecDepth 100000 in
theorem c_X0_readHeat (l : Launch) (D : va_G) (G : Gt) (S : Sh) (M : Mm) (xl0 : Int) (post : Int → Mm → Prop) (h : wp_X0_readHeat S M xl0 post) : Met l yX0_readHeat (cw_X0_readHeat :: gw) RM_X0_readHeat (va_Pc [.ref (adr G xl0)] (fun U => KN D G U ∧ Wd D G S M U.heap)) (QI D G S post) 0 0 (aG G) := by
  refine Met.ofW (cc := cX0_readHeat) (maxL := 4) (ret := (some .boolean)) (by decide) rfl ?_
  intro p e s m args below meth c s₁ B hml hv
  obtain ⟨rfl, hK, hP⟩ := hv
  have hx := B.exec
  have hb := B.bytes
  have hr := B.returns
  have hts := atoms_spec (ws := cw_X0_readHeat :: gw) B.pre
  have hown : s.vm.findClass RX0 = some m.cls := findClass_of_methodNamed B.named
  have hlocks := B.notSynchronized
  have hS : va_S (aG G) s.heap s.heap [] := va_S.rf
  have C : Cx p s m ([.ref (adr G xl0)] : List Value).toArray meth c D G cX0_readHeat 4 (some .boolean) (cw_X0_readHeat :: gw) RX0 := ⟨hx, hb, hr, hlocks, hml, hown, hts, hK⟩
  have hl := lv_entry ([.ref (adr G xl0)]) (n := 4) (Nat.le_of_ble_eq_true rfl)
  rw [lg_entry_eq]
  generalize (lg_sl ([.ref (adr G xl0)]) ++ List.replicate (4 - (lg_sl ([.ref (adr G xl0)])).length) Slot.unset).toArray = ls at hl ⊢
  have hl : lv_has ls 4 [(0, .ref (adr G xl0))] := hl
  unfold wp_X0_readHeat at h
  refine lv_aload_n hx hb dX0_readHeat_0 rfl (lv_at hl 0 rfl) ?_
  refine r_getr (C := RX0) (T := TX0) (N := 3) hx hb hts (fun w h => List.mem_cons_of_mem _ (iX0 w h)) hown hK hP rfl (by decide) rfl 0 (by decide) (hts _ (List.mem_cons_of_mem _ kw_289)) (fun _ h9 => h9) dX0_readHeat_1 (by decide) h (fun x57 h => ?_)
  refine r_iconst hx hb dX0_readHeat_4 (by decide) h (fun z59 h => ?_)
  refine r_bipush hx hb dX0_readHeat_5 (by decide) h (fun z61 h => ?_)
  refine q_Vi hx hb hml hown hts hK hP hS (c_X7_takeNumber l D G S _ x57 z59 z61 _ h.2) ⟨callB_of 2 hts (gw_good kw_669) rfl rfl rfl (hts _ (List.mem_cons_of_mem _ kw_2)) (hts _ (List.mem_cons_of_mem _ kw_666)) hd_X7_takeNumber ⟨Nat.le_of_ble_eq_true rfl, Nat.le_of_ble_eq_true rfl⟩, (hts _ (List.mem_cons_of_mem _ kw_667)), (hts _ (List.mem_cons_of_mem _ kw_668))⟩ h.1 (ci := 7) rfl (by decide) rfl hl.1 rfl (lv_room (Nat.le_of_ble_eq_true rfl)) dX0_readHeat_7 ⟨Nat.zero_le _, Nat.zero_le _⟩ (fun z64 M62 H locs h hP hS => ?_)
  refine lv_istore_n (lv' := [(1, .int z64), (0, .ref (adr G xl0))]) hx hb dX0_readHeat_10 rfl hl (by decide) rfl (fun ls hl => ?_)
  refine lv_iload_n hx hb dX0_readHeat_11 rfl (lv_at hl 0 rfl) ?_
  refine r_iconst hx hb dX0_readHeat_12 (by decide) h (fun z66 h => ?_)
  refine r_icmp_ne (tgt := 20) hx hb dX0_readHeat_13 (by decide) h (fun h => ?_) (fun h => ?_)
  · refine lv_aload_n hx hb dX0_readHeat_20 rfl (lv_at hl 1 rfl) ?_
    refine r_getr (C := RX0) (T := TX0) (N := 3) hx hb hts (fun w h => List.mem_cons_of_mem _ (iX0 w h)) hown hK hP rfl (by decide) rfl 0 (by decide) (hts _ (List.mem_cons_of_mem _ kw_289)) (fun _ h9 => h9) dX0_readHeat_21 (by decide) h (fun x68 h => ?_)
    refine lv_iload_n hx hb dX0_readHeat_24 rfl (lv_at hl 0 rfl) ?_
    refine r_bipush hx hb dX0_readHeat_25 (by decide) h (fun z70 h => ?_)
    refine q_Vi hx hb hml hown hts hK hP hS (c_X7_takeNumber l D G S _ x68 z64 z70 _ h.2) ⟨callB_of 2 hts (gw_good kw_669) rfl rfl rfl (hts _ (List.mem_cons_of_mem _ kw_2)) (hts _ (List.mem_cons_of_mem _ kw_666)) hd_X7_takeNumber ⟨Nat.le_of_ble_eq_true rfl, Nat.le_of_ble_eq_true rfl⟩, (hts _ (List.mem_cons_of_mem _ kw_667)), (hts _ (List.mem_cons_of_mem _ kw_668))⟩ h.1 (ci := 7) rfl (by decide) rfl hl.1 rfl (lv_room (Nat.le_of_ble_eq_true rfl)) dX0_readHeat_27 ⟨Nat.zero_le _, Nat.zero_le _⟩ (fun z73 M71 H locs h hP hS => ?_)
    exact t_X0_readHeat_30 C xl0 z64 z73 _ _ _ _ hP hS (lv_sub hl [1, 0] rfl) h
  · refine r_iconst hx hb dX0_readHeat_16 (by decide) h (fun z75 h => ?_)
    refine lv_goto (tgt := 30) hx hb dX0_readHeat_17 (by decide) ?_
    exact t_X0_readHeat_30 C xl0 z64 z75 _ _ _ _ hP hS (lv_sub hl [1, 0] rfl) h
