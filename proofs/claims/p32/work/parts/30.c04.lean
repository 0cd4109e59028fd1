/-! TurningMilk$RuleReader.endsHere()Z -/
abbrev RM_X3_endsHere : Room := { frames := 3, cells := 0, slots := 0, locals := 80 }
def cw_X3_endsHere : Cond := Cond.code yX3_endsHere cX3_endsHere 2 (Option.some FieldType.boolean)
theorem hd_X3_endsHere : yX3_endsHere.cls ≠ "java/lang/invoke/MethodHandle" ∧ yX3_endsHere.cls ≠ "java/lang/invoke/VarHandle" ∧ (parseMethodDescriptor yX3_endsHere.desc).map (fun d => d.parameters.length) = some 0 := by decide +kernel
theorem dX3_endsHere_0 : decode cX3_endsHere 0 = .ok (.aload_n 0, 1) := by decide +kernel
theorem dX3_endsHere_1 : decode cX3_endsHere 1 = .ok (.getfield 70, 3) := by decide +kernel
theorem dX3_endsHere_4 : decode cX3_endsHere 4 = .ok (.ifCond .eq 17, 3) := by decide +kernel
theorem dX3_endsHere_7 : decode cX3_endsHere 7 = .ok (.aload_n 0, 1) := by decide +kernel
theorem dX3_endsHere_8 : decode cX3_endsHere 8 = .ok (.getfield 67, 3) := by decide +kernel
theorem dX3_endsHere_11 : decode cX3_endsHere 11 = .ok (.ifCond .ne 14, 3) := by decide +kernel
theorem dX3_endsHere_14 : decode cX3_endsHere 14 = .ok (.aload_n 0, 1) := by decide +kernel
theorem dX3_endsHere_15 : decode cX3_endsHere 15 = .ok (.invokevirtual 110, 3) := by decide +kernel
theorem dX3_endsHere_18 : decode cX3_endsHere 18 = .ok (.ifCond .eq 7, 3) := by decide +kernel
theorem dX3_endsHere_21 : decode cX3_endsHere 21 = .ok (.iconst 1, 1) := by decide +kernel
theorem dX3_endsHere_22 : decode cX3_endsHere 22 = .ok (.goto 4, 3) := by decide +kernel
theorem dX3_endsHere_25 : decode cX3_endsHere 25 = .ok (.iconst 0, 1) := by decide +kernel
theorem dX3_endsHere_26 : decode cX3_endsHere 26 = .ok (.istore_n 1, 1) := by decide +kernel
theorem dX3_endsHere_27 : decode cX3_endsHere 27 = .ok (.iload_n 1, 1) := by decide +kernel
theorem dX3_endsHere_28 : decode cX3_endsHere 28 = .ok (.ifCond .eq 29, 3) := by decide +kernel
theorem dX3_endsHere_31 : decode cX3_endsHere 31 = .ok (.aload_n 0, 1) := by decide +kernel
theorem dX3_endsHere_32 : decode cX3_endsHere 32 = .ok (.getfield 18, 3) := by decide +kernel
theorem dX3_endsHere_35 : decode cX3_endsHere 35 = .ok (.invokevirtual 44, 3) := by decide +kernel
theorem dX3_endsHere_38 : decode cX3_endsHere 38 = .ok (.ifCond .ne 15, 3) := by decide +kernel
theorem dX3_endsHere_41 : decode cX3_endsHere 41 = .ok (.aload_n 0, 1) := by decide +kernel
theorem dX3_endsHere_42 : decode cX3_endsHere 42 = .ok (.getfield 18, 3) := by decide +kernel
theorem dX3_endsHere_45 : decode cX3_endsHere 45 = .ok (.invokevirtual 116, 3) := by decide +kernel
theorem dX3_endsHere_48 : decode cX3_endsHere 48 = .ok (.bipush 59, 2) := by decide +kernel
theorem dX3_endsHere_50 : decode cX3_endsHere 50 = .ok (.if_icmp .ne 7, 3) := by decide +kernel
theorem dX3_endsHere_53 : decode cX3_endsHere 53 = .ok (.iconst 1, 1) := by decide +kernel
theorem dX3_endsHere_54 : decode cX3_endsHere 54 = .ok (.goto 4, 3) := by decide +kernel
theorem dX3_endsHere_57 : decode cX3_endsHere 57 = .ok (.iconst 0, 1) := by decide +kernel
theorem dX3_endsHere_58 : decode cX3_endsHere 58 = .ok (.ireturn, 1) := by decide +kernel
def wp_X3_endsHere_53 (S : Sh) (post : Int → Mm → Prop) (M : Mm) : Prop := wC 1 fun v1 => (v1 = 0 ∨ v1 = 1) ∧ post v1 M
def wp_X3_endsHere_26 (S : Sh) (post : Int → Mm → Prop) (u0 : Int) (t0 : Int) (M : Mm) : Prop := wIf (t0 = 0) (wC 0 fun v3 => (v3 = 0 ∨ v3 = 1) ∧ post v3 M) (wGetR S M u0 3 0 fun v5 => isK S v5 7 ∧ (wp_X7_isAtEnd S M v5 <| fun v8 M7 => wIf (¬ v8 = 0) (wp_X3_endsHere_53 S post M7) (wGetR S M7 u0 3 0 fun v10 => isK S v10 7 ∧ (wp_X7_look S M7 v10 <| fun v13 M12 => wC 59 fun v15 => wIf (¬ v13 = v15) (wC 0 fun v17 => (v17 = 0 ∨ v17 = 1) ∧ post v17 M12) (wp_X3_endsHere_53 S post M12)))))
def wp_X3_endsHere_21 (S : Sh) (post : Int → Mm → Prop) (u0 : Int) (M : Mm) : Prop := wC 1 fun v19 => wp_X3_endsHere_26 S post u0 v19 M
def wp_X3_endsHere_25 (S : Sh) (post : Int → Mm → Prop) (u0 : Int) (M : Mm) : Prop := wC 0 fun v21 => wp_X3_endsHere_26 S post u0 v21 M
def wp_X3_endsHere (S : Sh) (M : Mm) (u0 : Int) (post : Int → Mm → Prop) : Prop := wGet S M u0 3 8 fun v23 => wIf (v23 = 0) (wp_X3_endsHere_21 S post u0 M) (wGet S M u0 3 7 fun v25 => wIf (¬ v25 = 0) (wp_X3_endsHere_25 S post u0 M) (isK S u0 3 ∧ (wp_X3_isFactWhole S M u0 <| fun v28 M27 => wIf (v28 = 0) (wp_X3_endsHere_25 S post u0 M27) (wp_X3_endsHere_21 S post u0 M27))))
set_option maxHeartbeats 4000000 in
set_option maxRecDepth 100000 in
theorem t_X3_endsHere_53 {p : Program} {l : Launch} {e : Env} {s : State} {m : MethodId} {args : Array Value} {below : List Frame} {meth : Method} {c : Code} {D : va_G} {G : Gt} {S : Sh} {post : Int → Mm → Prop} (C : Cx p s m args meth c D G cX3_endsHere 2 (some .boolean) (cw_X3_endsHere :: gw) RX3) : ∀ (M : Mm) (H : Heap) (locs : List Loc) (ls : Array Slot), Wd D G S M H → va_S (aG G) s.heap H locs → lv_has ls 2 [] → wp_X3_endsHere_53 S post  M → W p l e RM_X3_endsHere s m args below meth c H locs 0 0 (MQ below (QI D G S post) args s 0 0 (aG G)) (F0 m 53 ls []) := by
  obtain ⟨hx, hb, hr, hlocks, hml, hown, hts, hK⟩ := id C
  intro  M H locs ls hP hS hl h
  unfold wp_X3_endsHere_53 at h
  refine r_iconst hx hb dX3_endsHere_53 (by decide) h (fun z2 h => ?_)
  refine lv_goto (tgt := 58) hx hb dX3_endsHere_54 (by decide) ?_
  exact r_zret hx hb hr hlocks hP hS dX3_endsHere_58 h
set_option maxHeartbeats 4000000 in
set_option maxRecDepth 100000 in
theorem t_X3_endsHere_26 {p : Program} {l : Launch} {e : Env} {s : State} {m : MethodId} {args : Array Value} {below : List Frame} {meth : Method} {c : Code} {D : va_G} {G : Gt} {S : Sh} {post : Int → Mm → Prop} (C : Cx p s m args meth c D G cX3_endsHere 2 (some .boolean) (cw_X3_endsHere :: gw) RX3) : ∀ (xl0 : Int) (zs0 : Int32) (M : Mm) (H : Heap) (locs : List Loc) (ls : Array Slot), Wd D G S M H → va_S (aG G) s.heap H locs → lv_has ls 2 [(0, .ref (adr G xl0))] → wp_X3_endsHere_26 S post xl0 zs0.toInt M → W p l e RM_X3_endsHere s m args below meth c H locs 0 0 (MQ below (QI D G S post) args s 0 0 (aG G)) (F0 m 26 ls [.int zs0]) := by
  obtain ⟨hx, hb, hr, hlocks, hml, hown, hts, hK⟩ := id C
  intro xl0 zs0 M H locs ls hP hS hl h
  unfold wp_X3_endsHere_26 at h
  refine lv_istore_n (lv' := [(1, .int zs0), (0, .ref (adr G xl0))]) hx hb dX3_endsHere_26 rfl hl (by decide) rfl (fun ls hl => ?_)
  refine lv_iload_n hx hb dX3_endsHere_27 rfl (lv_at hl 0 rfl) ?_
  refine r_if_eq (tgt := 57) hx hb dX3_endsHere_28 (by decide) h (fun h => ?_) (fun h => ?_)
  · refine r_iconst hx hb dX3_endsHere_57 (by decide) h (fun z4 h => ?_)
    exact r_zret hx hb hr hlocks hP hS dX3_endsHere_58 h
  · refine lv_aload_n hx hb dX3_endsHere_31 rfl (lv_at hl 1 rfl) ?_
    refine r_getr (C := RX3) (T := TX3) (N := 9) hx hb hts (fun w h => List.mem_cons_of_mem _ (iX3 w h)) hown hK hP rfl (by decide) rfl 0 (by decide) (hts _ (List.mem_cons_of_mem _ kw_307)) (fun _ h9 => h9) dX3_endsHere_32 (by decide) h (fun x6 h => ?_)
    refine q_Vi hx hb hml hown hts hK hP hS (c_X7_isAtEnd l D G S _ x6 _ h.2) ⟨callB_of 0 hts (gw_good kw_712) rfl rfl rfl (hts _ (List.mem_cons_of_mem _ kw_2)) (hts _ (List.mem_cons_of_mem _ kw_808)) hd_X7_isAtEnd ⟨Nat.le_of_ble_eq_true rfl, Nat.le_of_ble_eq_true rfl⟩, (hts _ (List.mem_cons_of_mem _ kw_710)), (hts _ (List.mem_cons_of_mem _ kw_711))⟩ h.1 (ci := 7) rfl (by decide) rfl hl.1 rfl (lv_room (Nat.le_of_ble_eq_true rfl)) dX3_endsHere_35 ⟨Nat.zero_le _, Nat.zero_le _⟩ (fun z9 M7 H locs h hP hS => ?_)
    refine r_if_ne (tgt := 53) hx hb dX3_endsHere_38 (by decide) h (fun h => ?_) (fun h => ?_)
    · exact t_X3_endsHere_53 C _ _ _ _ hP hS (lv_sub hl [] rfl) h
    · refine lv_aload_n hx hb dX3_endsHere_41 rfl (lv_at hl 1 rfl) ?_
      refine r_getr (C := RX3) (T := TX3) (N := 9) hx hb hts (fun w h => List.mem_cons_of_mem _ (iX3 w h)) hown hK hP rfl (by decide) rfl 0 (by decide) (hts _ (List.mem_cons_of_mem _ kw_307)) (fun _ h9 => h9) dX3_endsHere_42 (by decide) h (fun x11 h => ?_)
      refine q_Vi hx hb hml hown hts hK hP hS (c_X7_look l D G S _ x11 _ h.2) ⟨callB_of 0 hts (gw_good kw_601) rfl rfl rfl (hts _ (List.mem_cons_of_mem _ kw_2)) (hts _ (List.mem_cons_of_mem _ kw_809)) hd_X7_look ⟨Nat.le_of_ble_eq_true rfl, Nat.le_of_ble_eq_true rfl⟩, (hts _ (List.mem_cons_of_mem _ kw_599)), (hts _ (List.mem_cons_of_mem _ kw_600))⟩ h.1 (ci := 7) rfl (by decide) rfl hl.1 rfl (lv_room (Nat.le_of_ble_eq_true rfl)) dX3_endsHere_45 ⟨Nat.zero_le _, Nat.zero_le _⟩ (fun z14 M12 H locs h hP hS => ?_)
      refine r_bipush hx hb dX3_endsHere_48 (by decide) h (fun z16 h => ?_)
      refine r_icmp_ne (tgt := 57) hx hb dX3_endsHere_50 (by decide) h (fun h => ?_) (fun h => ?_)
      · refine r_iconst hx hb dX3_endsHere_57 (by decide) h (fun z18 h => ?_)
        exact r_zret hx hb hr hlocks hP hS dX3_endsHere_58 h
      · exact t_X3_endsHere_53 C _ _ _ _ hP hS (lv_sub hl [] rfl) h
set_option maxHeartbeats 4000000 in
set_option maxRecDepth 100000 in
theorem t_X3_endsHere_21 {p : Program} {l : Launch} {e : Env} {s : State} {m : MethodId} {args : Array Value} {below : List Frame} {meth : Method} {c : Code} {D : va_G} {G : Gt} {S : Sh} {post : Int → Mm → Prop} (C : Cx p s m args meth c D G cX3_endsHere 2 (some .boolean) (cw_X3_endsHere :: gw) RX3) : ∀ (xl0 : Int) (M : Mm) (H : Heap) (locs : List Loc) (ls : Array Slot), Wd D G S M H → va_S (aG G) s.heap H locs → lv_has ls 2 [(0, .ref (adr G xl0))] → wp_X3_endsHere_21 S post xl0  M → W p l e RM_X3_endsHere s m args below meth c H locs 0 0 (MQ below (QI D G S post) args s 0 0 (aG G)) (F0 m 21 ls []) := by
  obtain ⟨hx, hb, hr, hlocks, hml, hown, hts, hK⟩ := id C
  intro xl0 M H locs ls hP hS hl h
  unfold wp_X3_endsHere_21 at h
  refine r_iconst hx hb dX3_endsHere_21 (by decide) h (fun z20 h => ?_)
  refine lv_goto (tgt := 26) hx hb dX3_endsHere_22 (by decide) ?_
  exact t_X3_endsHere_26 C xl0 z20 _ _ _ _ hP hS (lv_sub hl [0] rfl) h
set_option maxHeartbeats 4000000 in
set_option maxRecDepth 100000 in
theorem t_X3_endsHere_25 {p : Program} {l : Launch} {e : Env} {s : State} {m : MethodId} {args : Array Value} {below : List Frame} {meth : Method} {c : Code} {D : va_G} {G : Gt} {S : Sh} {post : Int → Mm → Prop} (C : Cx p s m args meth c D G cX3_endsHere 2 (some .boolean) (cw_X3_endsHere :: gw) RX3) : ∀ (xl0 : Int) (M : Mm) (H : Heap) (locs : List Loc) (ls : Array Slot), Wd D G S M H → va_S (aG G) s.heap H locs → lv_has ls 2 [(0, .ref (adr G xl0))] → wp_X3_endsHere_25 S post xl0  M → W p l e RM_X3_endsHere s m args below meth c H locs 0 0 (MQ below (QI D G S post) args s 0 0 (aG G)) (F0 m 25 ls []) := by
  obtain ⟨hx, hb, hr, hlocks, hml, hown, hts, hK⟩ := id C
  intro xl0 M H locs ls hP hS hl h
  unfold wp_X3_endsHere_25 at h
  refine r_iconst hx hb dX3_endsHere_25 (by decide) h (fun z22 h => ?_)
  exact t_X3_endsHere_26 C xl0 z22 _ _ _ _ hP hS (lv_sub hl [0] rfl) h
set_option maxHeartbeats 4000000 in
set_option maxRecDepth 100000 in
theorem c_X3_endsHere (l : Launch) (D : va_G) (G : Gt) (S : Sh) (M : Mm) (xl0 : Int) (post : Int → Mm → Prop) (h : wp_X3_endsHere S M xl0 post) : Met l yX3_endsHere (cw_X3_endsHere :: gw) RM_X3_endsHere (va_Pc [.ref (adr G xl0)] (fun U => KN D G U ∧ Wd D G S M U.heap)) (QI D G S post) 0 0 (aG G) := by
  refine Met.ofW (cc := cX3_endsHere) (maxL := 2) (ret := (some .boolean)) (by decide) rfl ?_
  intro p e s m args below meth c s₁ B hml hv
  obtain ⟨rfl, hK, hP⟩ := hv
  have hx := B.exec
  have hb := B.bytes
  have hr := B.returns
  have hts := atoms_spec (ws := cw_X3_endsHere :: gw) B.pre
  have hown : s.vm.findClass RX3 = some m.cls := findClass_of_methodNamed B.named
  have hlocks := B.notSynchronized
  have hS : va_S (aG G) s.heap s.heap [] := va_S.rf
  have C : Cx p s m ([.ref (adr G xl0)] : List Value).toArray meth c D G cX3_endsHere 2 (some .boolean) (cw_X3_endsHere :: gw) RX3 := ⟨hx, hb, hr, hlocks, hml, hown, hts, hK⟩
  have hl := lv_entry ([.ref (adr G xl0)]) (n := 2) (Nat.le_of_ble_eq_true rfl)
  rw [lg_entry_eq]
  generalize (lg_sl ([.ref (adr G xl0)]) ++ List.replicate (2 - (lg_sl ([.ref (adr G xl0)])).length) Slot.unset).toArray = ls at hl ⊢
  have hl : lv_has ls 2 [(0, .ref (adr G xl0))] := hl
  unfold wp_X3_endsHere at h
  refine lv_aload_n hx hb dX3_endsHere_0 rfl (lv_at hl 0 rfl) ?_
  refine r_geti (C := RX3) (T := TX3) (N := 9) hx hb hts (fun w h => List.mem_cons_of_mem _ (iX3 w h)) hown hK hP rfl (by decide) rfl 8 (by decide) (hts _ (List.mem_cons_of_mem _ kw_315)) (fun _ h9 => h9) dX3_endsHere_1 (by decide) h (fun z24 h => ?_)
  refine r_if_eq (tgt := 21) hx hb dX3_endsHere_4 (by decide) h (fun h => ?_) (fun h => ?_)
  · exact t_X3_endsHere_21 C xl0 _ _ _ _ hP hS (lv_sub hl [0] rfl) h
  · refine lv_aload_n hx hb dX3_endsHere_7 rfl (lv_at hl 0 rfl) ?_
    refine r_geti (C := RX3) (T := TX3) (N := 9) hx hb hts (fun w h => List.mem_cons_of_mem _ (iX3 w h)) hown hK hP rfl (by decide) rfl 7 (by decide) (hts _ (List.mem_cons_of_mem _ kw_314)) (fun _ h9 => h9) dX3_endsHere_8 (by decide) h (fun z26 h => ?_)
    refine r_if_ne (tgt := 25) hx hb dX3_endsHere_11 (by decide) h (fun h => ?_) (fun h => ?_)
    · exact t_X3_endsHere_25 C xl0 _ _ _ _ hP hS (lv_sub hl [0] rfl) h
    · refine lv_aload_n hx hb dX3_endsHere_14 rfl (lv_at hl 0 rfl) ?_
      refine q_Vi hx hb hml hown hts hK hP hS (c_X3_isFactWhole l D G S _ xl0 _ h.2) ⟨callB_of 0 hts (gw_good kw_791) rfl rfl rfl (hts _ (List.mem_cons_of_mem _ kw_8)) (hts _ (List.mem_cons_of_mem _ kw_788)) hd_X3_isFactWhole ⟨Nat.le_of_ble_eq_true rfl, Nat.le_of_ble_eq_true rfl⟩, (hts _ (List.mem_cons_of_mem _ kw_790)), (hts _ (List.mem_cons_of_mem _ kp_16))⟩ h.1 (ci := 3) rfl (by decide) rfl hl.1 rfl (lv_room (Nat.le_of_ble_eq_true rfl)) dX3_endsHere_15 ⟨Nat.zero_le _, Nat.zero_le _⟩ (fun z29 M27 H locs h hP hS => ?_)
      refine r_if_eq (tgt := 25) hx hb dX3_endsHere_18 (by decide) h (fun h => ?_) (fun h => ?_)
      · exact t_X3_endsHere_25 C xl0 _ _ _ _ hP hS (lv_sub hl [0] rfl) h
      · exact t_X3_endsHere_21 C xl0 _ _ _ _ hP hS (lv_sub hl [0] rfl) h
/-! TurningMilk$RuleReader.takeArithmetic()I -/
abbrev RM_X3_takeArithmetic : Room := { frames := 3, cells := 0, slots := 0, locals := 81 }
def cw_X3_takeArithmetic : Cond := Cond.code yX3_takeArithmetic cX3_takeArithmetic 1 (Option.some FieldType.int)
theorem hd_X3_takeArithmetic : yX3_takeArithmetic.cls ≠ "java/lang/invoke/MethodHandle" ∧ yX3_takeArithmetic.cls ≠ "java/lang/invoke/VarHandle" ∧ (parseMethodDescriptor yX3_takeArithmetic.desc).map (fun d => d.parameters.length) = some 0 := by decide +kernel
theorem dX3_takeArithmetic_0 : decode cX3_takeArithmetic 0 = .ok (.aload_n 0, 1) := by decide +kernel
theorem dX3_takeArithmetic_1 : decode cX3_takeArithmetic 1 = .ok (.getfield 18, 3) := by decide +kernel
theorem dX3_takeArithmetic_4 : decode cX3_takeArithmetic 4 = .ok (.bipush 42, 2) := by decide +kernel
theorem dX3_takeArithmetic_6 : decode cX3_takeArithmetic 6 = .ok (.invokevirtual 48, 3) := by decide +kernel
theorem dX3_takeArithmetic_9 : decode cX3_takeArithmetic 9 = .ok (.ifCond .eq 6, 3) := by decide +kernel
theorem dX3_takeArithmetic_12 : decode cX3_takeArithmetic 12 = .ok (.bipush (-12), 2) := by decide +kernel
theorem dX3_takeArithmetic_14 : decode cX3_takeArithmetic 14 = .ok (.ireturn, 1) := by decide +kernel
theorem dX3_takeArithmetic_15 : decode cX3_takeArithmetic 15 = .ok (.aload_n 0, 1) := by decide +kernel
theorem dX3_takeArithmetic_16 : decode cX3_takeArithmetic 16 = .ok (.getfield 18, 3) := by decide +kernel
theorem dX3_takeArithmetic_19 : decode cX3_takeArithmetic 19 = .ok (.bipush 47, 2) := by decide +kernel
theorem dX3_takeArithmetic_21 : decode cX3_takeArithmetic 21 = .ok (.invokevirtual 48, 3) := by decide +kernel
theorem dX3_takeArithmetic_24 : decode cX3_takeArithmetic 24 = .ok (.ifCond .eq 6, 3) := by decide +kernel
theorem dX3_takeArithmetic_27 : decode cX3_takeArithmetic 27 = .ok (.bipush (-13), 2) := by decide +kernel
theorem dX3_takeArithmetic_29 : decode cX3_takeArithmetic 29 = .ok (.ireturn, 1) := by decide +kernel
theorem dX3_takeArithmetic_30 : decode cX3_takeArithmetic 30 = .ok (.aload_n 0, 1) := by decide +kernel
theorem dX3_takeArithmetic_31 : decode cX3_takeArithmetic 31 = .ok (.getfield 18, 3) := by decide +kernel
theorem dX3_takeArithmetic_34 : decode cX3_takeArithmetic 34 = .ok (.bipush 37, 2) := by decide +kernel
theorem dX3_takeArithmetic_36 : decode cX3_takeArithmetic 36 = .ok (.invokevirtual 48, 3) := by decide +kernel
theorem dX3_takeArithmetic_39 : decode cX3_takeArithmetic 39 = .ok (.ifCond .eq 6, 3) := by decide +kernel
theorem dX3_takeArithmetic_42 : decode cX3_takeArithmetic 42 = .ok (.bipush (-14), 2) := by decide +kernel
theorem dX3_takeArithmetic_44 : decode cX3_takeArithmetic 44 = .ok (.ireturn, 1) := by decide +kernel
theorem dX3_takeArithmetic_45 : decode cX3_takeArithmetic 45 = .ok (.aload_n 0, 1) := by decide +kernel
theorem dX3_takeArithmetic_46 : decode cX3_takeArithmetic 46 = .ok (.getfield 18, 3) := by decide +kernel
theorem dX3_takeArithmetic_49 : decode cX3_takeArithmetic 49 = .ok (.bipush 43, 2) := by decide +kernel
theorem dX3_takeArithmetic_51 : decode cX3_takeArithmetic 51 = .ok (.invokevirtual 48, 3) := by decide +kernel
theorem dX3_takeArithmetic_54 : decode cX3_takeArithmetic 54 = .ok (.ifCond .eq 6, 3) := by decide +kernel
theorem dX3_takeArithmetic_57 : decode cX3_takeArithmetic 57 = .ok (.bipush (-15), 2) := by decide +kernel
theorem dX3_takeArithmetic_59 : decode cX3_takeArithmetic 59 = .ok (.ireturn, 1) := by decide +kernel
theorem dX3_takeArithmetic_60 : decode cX3_takeArithmetic 60 = .ok (.aload_n 0, 1) := by decide +kernel
theorem dX3_takeArithmetic_61 : decode cX3_takeArithmetic 61 = .ok (.getfield 18, 3) := by decide +kernel
theorem dX3_takeArithmetic_64 : decode cX3_takeArithmetic 64 = .ok (.bipush 45, 2) := by decide +kernel
theorem dX3_takeArithmetic_66 : decode cX3_takeArithmetic 66 = .ok (.invokevirtual 48, 3) := by decide +kernel
theorem dX3_takeArithmetic_69 : decode cX3_takeArithmetic 69 = .ok (.ifCond .eq 8, 3) := by decide +kernel
theorem dX3_takeArithmetic_72 : decode cX3_takeArithmetic 72 = .ok (.bipush (-16), 2) := by decide +kernel
theorem dX3_takeArithmetic_74 : decode cX3_takeArithmetic 74 = .ok (.goto 4, 3) := by decide +kernel
theorem dX3_takeArithmetic_77 : decode cX3_takeArithmetic 77 = .ok (.iconst 0, 1) := by decide +kernel
theorem dX3_takeArithmetic_78 : decode cX3_takeArithmetic 78 = .ok (.ireturn, 1) := by decide +kernel
def wp_X3_takeArithmetic (S : Sh) (M : Mm) (u0 : Int) (post : Int → Mm → Prop) : Prop := wGetR S M u0 3 0 fun v1 => wC 42 fun v3 => isK S v1 7 ∧ (wp_X7_takesSign S M v1 v3 <| fun v6 M5 => wIf (v6 = 0) (wGetR S M5 u0 3 0 fun v8 => wC 47 fun v10 => isK S v8 7 ∧ (wp_X7_takesSign S M5 v8 v10 <| fun v13 M12 => wIf (v13 = 0) (wGetR S M12 u0 3 0 fun v15 => wC 37 fun v17 => isK S v15 7 ∧ (wp_X7_takesSign S M12 v15 v17 <| fun v20 M19 => wIf (v20 = 0) (wGetR S M19 u0 3 0 fun v22 => wC 43 fun v24 => isK S v22 7 ∧ (wp_X7_takesSign S M19 v22 v24 <| fun v27 M26 => wIf (v27 = 0) (wGetR S M26 u0 3 0 fun v29 => wC 45 fun v31 => isK S v29 7 ∧ (wp_X7_takesSign S M26 v29 v31 <| fun v34 M33 => wIf (v34 = 0) (wC 0 fun v36 => post v36 M33) (wC (-16) fun v38 => post v38 M33))) (wC (-15) fun v40 => post v40 M26))) (wC (-14) fun v42 => post v42 M19))) (wC (-13) fun v44 => post v44 M12))) (wC (-12) fun v46 => post v46 M5))
set_option maxHeartbeats 4000000 in
set_option maxRecDepth 100000 in
theorem c_X3_takeArithmetic (l : Launch) (D : va_G) (G : Gt) (S : Sh) (M : Mm) (xl0 : Int) (post : Int → Mm → Prop) (h : wp_X3_takeArithmetic S M xl0 post) : Met l yX3_takeArithmetic (cw_X3_takeArithmetic :: gw) RM_X3_takeArithmetic (va_Pc [.ref (adr G xl0)] (fun U => KN D G U ∧ Wd D G S M U.heap)) (QI D G S post) 0 0 (aG G) := by
  refine Met.ofW (cc := cX3_takeArithmetic) (maxL := 1) (ret := (some .int)) (by decide) rfl ?_
  intro p e s m args below meth c s₁ B hml hv
  obtain ⟨rfl, hK, hP⟩ := hv
  have hx := B.exec
  have hb := B.bytes
  have hr := B.returns
  have hts := atoms_spec (ws := cw_X3_takeArithmetic :: gw) B.pre
  have hown : s.vm.findClass RX3 = some m.cls := findClass_of_methodNamed B.named
  have hlocks := B.notSynchronized
  have hS : va_S (aG G) s.heap s.heap [] := va_S.rf
  have C : Cx p s m ([.ref (adr G xl0)] : List Value).toArray meth c D G cX3_takeArithmetic 1 (some .int) (cw_X3_takeArithmetic :: gw) RX3 := ⟨hx, hb, hr, hlocks, hml, hown, hts, hK⟩
  have hl := lv_entry ([.ref (adr G xl0)]) (n := 1) (Nat.le_of_ble_eq_true rfl)
  rw [lg_entry_eq]
  generalize (lg_sl ([.ref (adr G xl0)]) ++ List.replicate (1 - (lg_sl ([.ref (adr G xl0)])).length) Slot.unset).toArray = ls at hl ⊢
  have hl : lv_has ls 1 [(0, .ref (adr G xl0))] := hl
  unfold wp_X3_takeArithmetic at h
  refine lv_aload_n hx hb dX3_takeArithmetic_0 rfl (lv_at hl 0 rfl) ?_
  refine r_getr (C := RX3) (T := TX3) (N := 9) hx hb hts (fun w h => List.mem_cons_of_mem _ (iX3 w h)) hown hK hP rfl (by decide) rfl 0 (by decide) (hts _ (List.mem_cons_of_mem _ kw_307)) (fun _ h9 => h9) dX3_takeArithmetic_1 (by decide) h (fun x2 h => ?_)
  refine r_bipush hx hb dX3_takeArithmetic_4 (by decide) h (fun z4 h => ?_)
  refine q_Vi hx hb hml hown hts hK hP hS (c_X7_takesSign l D G S _ x2 z4 _ h.2) ⟨callB_of 1 hts (gw_good kw_724) rfl rfl rfl (hts _ (List.mem_cons_of_mem _ kw_2)) (hts _ (List.mem_cons_of_mem _ kw_792)) hd_X7_takesSign ⟨Nat.le_of_ble_eq_true rfl, Nat.le_of_ble_eq_true rfl⟩, (hts _ (List.mem_cons_of_mem _ kw_722)), (hts _ (List.mem_cons_of_mem _ kw_723))⟩ h.1 (ci := 7) rfl (by decide) rfl hl.1 rfl (lv_room (Nat.le_of_ble_eq_true rfl)) dX3_takeArithmetic_6 ⟨Nat.zero_le _, Nat.zero_le _⟩ (fun z7 M5 H locs h hP hS => ?_)
  refine r_if_eq (tgt := 15) hx hb dX3_takeArithmetic_9 (by decide) h (fun h => ?_) (fun h => ?_)
  · refine lv_aload_n hx hb dX3_takeArithmetic_15 rfl (lv_at hl 0 rfl) ?_
    refine r_getr (C := RX3) (T := TX3) (N := 9) hx hb hts (fun w h => List.mem_cons_of_mem _ (iX3 w h)) hown hK hP rfl (by decide) rfl 0 (by decide) (hts _ (List.mem_cons_of_mem _ kw_307)) (fun _ h9 => h9) dX3_takeArithmetic_16 (by decide) h (fun x9 h => ?_)
    refine r_bipush hx hb dX3_takeArithmetic_19 (by decide) h (fun z11 h => ?_)
    refine q_Vi hx hb hml hown hts hK hP hS (c_X7_takesSign l D G S _ x9 z11 _ h.2) ⟨callB_of 1 hts (gw_good kw_724) rfl rfl rfl (hts _ (List.mem_cons_of_mem _ kw_2)) (hts _ (List.mem_cons_of_mem _ kw_792)) hd_X7_takesSign ⟨Nat.le_of_ble_eq_true rfl, Nat.le_of_ble_eq_true rfl⟩, (hts _ (List.mem_cons_of_mem _ kw_722)), (hts _ (List.mem_cons_of_mem _ kw_723))⟩ h.1 (ci := 7) rfl (by decide) rfl hl.1 rfl (lv_room (Nat.le_of_ble_eq_true rfl)) dX3_takeArithmetic_21 ⟨Nat.zero_le _, Nat.zero_le _⟩ (fun z14 M12 H locs h hP hS => ?_)
    refine r_if_eq (tgt := 30) hx hb dX3_takeArithmetic_24 (by decide) h (fun h => ?_) (fun h => ?_)
    · refine lv_aload_n hx hb dX3_takeArithmetic_30 rfl (lv_at hl 0 rfl) ?_
      refine r_getr (C := RX3) (T := TX3) (N := 9) hx hb hts (fun w h => List.mem_cons_of_mem _ (iX3 w h)) hown hK hP rfl (by decide) rfl 0 (by decide) (hts _ (List.mem_cons_of_mem _ kw_307)) (fun _ h9 => h9) dX3_takeArithmetic_31 (by decide) h (fun x16 h => ?_)
      refine r_bipush hx hb dX3_takeArithmetic_34 (by decide) h (fun z18 h => ?_)
      refine q_Vi hx hb hml hown hts hK hP hS (c_X7_takesSign l D G S _ x16 z18 _ h.2) ⟨callB_of 1 hts (gw_good kw_724) rfl rfl rfl (hts _ (List.mem_cons_of_mem _ kw_2)) (hts _ (List.mem_cons_of_mem _ kw_792)) hd_X7_takesSign ⟨Nat.le_of_ble_eq_true rfl, Nat.le_of_ble_eq_true rfl⟩, (hts _ (List.mem_cons_of_mem _ kw_722)), (hts _ (List.mem_cons_of_mem _ kw_723))⟩ h.1 (ci := 7) rfl (by decide) rfl hl.1 rfl (lv_room (Nat.le_of_ble_eq_true rfl)) dX3_takeArithmetic_36 ⟨Nat.zero_le _, Nat.zero_le _⟩ (fun z21 M19 H locs h hP hS => ?_)
      refine r_if_eq (tgt := 45) hx hb dX3_takeArithmetic_39 (by decide) h (fun h => ?_) (fun h => ?_)
      · refine lv_aload_n hx hb dX3_takeArithmetic_45 rfl (lv_at hl 0 rfl) ?_
        refine r_getr (C := RX3) (T := TX3) (N := 9) hx hb hts (fun w h => List.mem_cons_of_mem _ (iX3 w h)) hown hK hP rfl (by decide) rfl 0 (by decide) (hts _ (List.mem_cons_of_mem _ kw_307)) (fun _ h9 => h9) dX3_takeArithmetic_46 (by decide) h (fun x23 h => ?_)
        refine r_bipush hx hb dX3_takeArithmetic_49 (by decide) h (fun z25 h => ?_)
        refine q_Vi hx hb hml hown hts hK hP hS (c_X7_takesSign l D G S _ x23 z25 _ h.2) ⟨callB_of 1 hts (gw_good kw_724) rfl rfl rfl (hts _ (List.mem_cons_of_mem _ kw_2)) (hts _ (List.mem_cons_of_mem _ kw_792)) hd_X7_takesSign ⟨Nat.le_of_ble_eq_true rfl, Nat.le_of_ble_eq_true rfl⟩, (hts _ (List.mem_cons_of_mem _ kw_722)), (hts _ (List.mem_cons_of_mem _ kw_723))⟩ h.1 (ci := 7) rfl (by decide) rfl hl.1 rfl (lv_room (Nat.le_of_ble_eq_true rfl)) dX3_takeArithmetic_51 ⟨Nat.zero_le _, Nat.zero_le _⟩ (fun z28 M26 H locs h hP hS => ?_)
        refine r_if_eq (tgt := 60) hx hb dX3_takeArithmetic_54 (by decide) h (fun h => ?_) (fun h => ?_)
        · refine lv_aload_n hx hb dX3_takeArithmetic_60 rfl (lv_at hl 0 rfl) ?_
          refine r_getr (C := RX3) (T := TX3) (N := 9) hx hb hts (fun w h => List.mem_cons_of_mem _ (iX3 w h)) hown hK hP rfl (by decide) rfl 0 (by decide) (hts _ (List.mem_cons_of_mem _ kw_307)) (fun _ h9 => h9) dX3_takeArithmetic_61 (by decide) h (fun x30 h => ?_)
          refine r_bipush hx hb dX3_takeArithmetic_64 (by decide) h (fun z32 h => ?_)
          refine q_Vi hx hb hml hown hts hK hP hS (c_X7_takesSign l D G S _ x30 z32 _ h.2) ⟨callB_of 1 hts (gw_good kw_724) rfl rfl rfl (hts _ (List.mem_cons_of_mem _ kw_2)) (hts _ (List.mem_cons_of_mem _ kw_792)) hd_X7_takesSign ⟨Nat.le_of_ble_eq_true rfl, Nat.le_of_ble_eq_true rfl⟩, (hts _ (List.mem_cons_of_mem _ kw_722)), (hts _ (List.mem_cons_of_mem _ kw_723))⟩ h.1 (ci := 7) rfl (by decide) rfl hl.1 rfl (lv_room (Nat.le_of_ble_eq_true rfl)) dX3_takeArithmetic_66 ⟨Nat.zero_le _, Nat.zero_le _⟩ (fun z35 M33 H locs h hP hS => ?_)
          refine r_if_eq (tgt := 77) hx hb dX3_takeArithmetic_69 (by decide) h (fun h => ?_) (fun h => ?_)
          · refine r_iconst hx hb dX3_takeArithmetic_77 (by decide) h (fun z37 h => ?_)
            exact r_iret hx hb hr hlocks hP hS dX3_takeArithmetic_78 h
          · refine r_bipush hx hb dX3_takeArithmetic_72 (by decide) h (fun z39 h => ?_)
            refine lv_goto (tgt := 78) hx hb dX3_takeArithmetic_74 (by decide) ?_
            exact r_iret hx hb hr hlocks hP hS dX3_takeArithmetic_78 h
        · refine r_bipush hx hb dX3_takeArithmetic_57 (by decide) h (fun z41 h => ?_)
          exact r_iret hx hb hr hlocks hP hS dX3_takeArithmetic_59 h
      · refine r_bipush hx hb dX3_takeArithmetic_42 (by decide) h (fun z43 h => ?_)
        exact r_iret hx hb hr hlocks hP hS dX3_takeArithmetic_44 h
    · refine r_bipush hx hb dX3_takeArithmetic_27 (by decide) h (fun z45 h => ?_)
      exact r_iret hx hb hr hlocks hP hS dX3_takeArithmetic_29 h
  · refine r_bipush hx hb dX3_takeArithmetic_12 (by decide) h (fun z47 h => ?_)
    exact r_iret hx hb hr hlocks hP hS dX3_takeArithmetic_14 h
/-! TurningMilk$RuleReader.push(I)V -/
abbrev RM_X3_push : Room := { frames := 1, cells := 0, slots := 0, locals := 40 }
def cw_X3_push : Cond := Cond.code yX3_push cX3_push 2 (Option.none : Option FieldType)
theorem hd_X3_push : yX3_push.cls ≠ "java/lang/invoke/MethodHandle" ∧ yX3_push.cls ≠ "java/lang/invoke/VarHandle" ∧ (parseMethodDescriptor yX3_push.desc).map (fun d => d.parameters.length) = some 1 := by decide +kernel
theorem dX3_push_0 : decode cX3_push 0 = .ok (.aload_n 0, 1) := by decide +kernel
theorem dX3_push_1 : decode cX3_push 1 = .ok (.getfield 61, 3) := by decide +kernel
theorem dX3_push_4 : decode cX3_push 4 = .ok (.sipush 400, 3) := by decide +kernel
theorem dX3_push_7 : decode cX3_push 7 = .ok (.if_icmp .ge 23, 3) := by decide +kernel
theorem dX3_push_10 : decode cX3_push 10 = .ok (.aload_n 0, 1) := by decide +kernel
theorem dX3_push_11 : decode cX3_push 11 = .ok (.getfield 15, 3) := by decide +kernel
theorem dX3_push_14 : decode cX3_push 14 = .ok (.aload_n 0, 1) := by decide +kernel
theorem dX3_push_15 : decode cX3_push 15 = .ok (.getfield 61, 3) := by decide +kernel
theorem dX3_push_18 : decode cX3_push 18 = .ok (.iload_n 1, 1) := by decide +kernel
theorem dX3_push_19 : decode cX3_push 19 = .ok (.iastore, 1) := by decide +kernel
theorem dX3_push_20 : decode cX3_push 20 = .ok (.aload_n 0, 1) := by decide +kernel
theorem dX3_push_21 : decode cX3_push 21 = .ok (.dup, 1) := by decide +kernel
theorem dX3_push_22 : decode cX3_push 22 = .ok (.getfield 61, 3) := by decide +kernel
theorem dX3_push_25 : decode cX3_push 25 = .ok (.iconst 1, 1) := by decide +kernel
theorem dX3_push_26 : decode cX3_push 26 = .ok (.iadd, 1) := by decide +kernel
theorem dX3_push_27 : decode cX3_push 27 = .ok (.putfield 61, 3) := by decide +kernel
theorem dX3_push_30 : decode cX3_push 30 = .ok (.return_, 1) := by decide +kernel
def wp_X3_push (S : Sh) (M : Mm) (u0 : Int) (u1 : Int) (post : Mm → Prop) : Prop := wGet S M u0 3 5 fun v1 => wC 400 fun v3 => wIf (v3 ≤ v1) (post M) (wGetR S M u0 3 4 fun v5 => wGet S M u0 3 5 fun v7 => wSt S M v5 14 v7 u1 fun M9 => wGet S M9 u0 3 5 fun v10 => wC 1 fun v12 => wA v10 v12 fun v14 => wPut S M9 u0 3 5 v14 fun M16 => post M16)
set_option maxHeartbeats 4000000 in
set_option maxRecDepth 100000 in
theorem c_X3_push (l : Launch) (D : va_G) (G : Gt) (S : Sh) (M : Mm) (xl0 : Int) (zl1 : Int32) (post : Mm → Prop) (h : wp_X3_push S M xl0 zl1.toInt post) : Met l yX3_push (cw_X3_push :: gw) RM_X3_push (va_Pc [.ref (adr G xl0), .int zl1] (fun U => KN D G U ∧ Wd D G S M U.heap)) (QV D G S post) 0 0 (aG G) := by
  refine Met.ofW (cc := cX3_push) (maxL := 2) (ret := none) (by decide) rfl ?_
  intro p e s m args below meth c s₁ B hml hv
  obtain ⟨rfl, hK, hP⟩ := hv
  have hx := B.exec
  have hb := B.bytes
  have hr := B.returns
  have hts := atoms_spec (ws := cw_X3_push :: gw) B.pre
  have hown : s.vm.findClass RX3 = some m.cls := findClass_of_methodNamed B.named
  have hlocks := B.notSynchronized
  have hS : va_S (aG G) s.heap s.heap [] := va_S.rf
  have C : Cx p s m ([.ref (adr G xl0), .int zl1] : List Value).toArray meth c D G cX3_push 2 none (cw_X3_push :: gw) RX3 := ⟨hx, hb, hr, hlocks, hml, hown, hts, hK⟩
  have hl := lv_entry ([.ref (adr G xl0), .int zl1]) (n := 2) (Nat.le_of_ble_eq_true rfl)
  rw [lg_entry_eq]
  generalize (lg_sl ([.ref (adr G xl0), .int zl1]) ++ List.replicate (2 - (lg_sl ([.ref (adr G xl0), .int zl1])).length) Slot.unset).toArray = ls at hl ⊢
  have hl : lv_has ls 2 [(0, .ref (adr G xl0)), (1, .int zl1)] := hl
  unfold wp_X3_push at h
  refine lv_aload_n hx hb dX3_push_0 rfl (lv_at hl 0 rfl) ?_
  refine r_geti (C := RX3) (T := TX3) (N := 9) hx hb hts (fun w h => List.mem_cons_of_mem _ (iX3 w h)) hown hK hP rfl (by decide) rfl 5 (by decide) (hts _ (List.mem_cons_of_mem _ kw_312)) (fun _ h9 => h9) dX3_push_1 (by decide) h (fun z2 h => ?_)
  refine r_sipush hx hb dX3_push_4 (by decide) h (fun z4 h => ?_)
  refine r_icmp_ge (tgt := 30) hx hb dX3_push_7 (by decide) h (fun h => ?_) (fun h => ?_)
  · exact r_vret hx hb hr hlocks hP hS dX3_push_30 h
  · refine lv_aload_n hx hb dX3_push_10 rfl (lv_at hl 0 rfl) ?_
    refine r_getr (C := RX3) (T := TX3) (N := 9) hx hb hts (fun w h => List.mem_cons_of_mem _ (iX3 w h)) hown hK hP rfl (by decide) rfl 4 (by decide) (hts _ (List.mem_cons_of_mem _ kw_311)) (fun _ h9 => h9) dX3_push_11 (by decide) h (fun x6 h => ?_)
    refine lv_aload_n hx hb dX3_push_14 rfl (lv_at hl 0 rfl) ?_
    refine r_geti (C := RX3) (T := TX3) (N := 9) hx hb hts (fun w h => List.mem_cons_of_mem _ (iX3 w h)) hown hK hP rfl (by decide) rfl 5 (by decide) (hts _ (List.mem_cons_of_mem _ kw_312)) (fun _ h9 => h9) dX3_push_15 (by decide) h (fun z8 h => ?_)
    refine lv_iload_n hx hb dX3_push_18 rfl (lv_at hl 1 rfl) ?_
    refine r_iast hx hb hK hP hS dX3_push_19 h (fun M9 H locs h hP hS => ?_)
    refine lv_aload_n hx hb dX3_push_20 rfl (lv_at hl 0 rfl) ?_
    refine lv_dup hx hb dX3_push_21 rfl ?_
    refine r_geti (C := RX3) (T := TX3) (N := 9) hx hb hts (fun w h => List.mem_cons_of_mem _ (iX3 w h)) hown hK hP rfl (by decide) rfl 5 (by decide) (hts _ (List.mem_cons_of_mem _ kw_312)) (fun _ h9 => h9) dX3_push_22 (by decide) h (fun z11 h => ?_)
    refine r_iconst hx hb dX3_push_25 (by decide) h (fun z13 h => ?_)
    refine r_iadd hx hb dX3_push_26 h (fun z15 h => ?_)
    refine r_puti (C := RX3) (T := TX3) (N := 9) hx hb hts (fun w h => List.mem_cons_of_mem _ (iX3 w h)) hown hK hP tyX3 tyX3_ok nmX3 hS rfl (by decide) rfl 5 (by decide) (hts _ (List.mem_cons_of_mem _ kw_312)) (fun _ h9 => h9) rfl (tyX3_ok 5 (by decide)) rfl rfl dX3_push_27 (by decide) h (fun M16 H locs h hP hS => ?_)
    exact r_vret hx hb hr hlocks hP hS dX3_push_30 h
/-! TurningMilk$RuleReader.pileUp(I)V -/
abbrev RM_X3_pileUp : Room := { frames := 3, cells := 0, slots := 0, locals := 83 }
def cw_X3_pileUp : Cond := Cond.code yX3_pileUp cX3_pileUp 2 (Option.none : Option FieldType)
theorem hd_X3_pileUp : yX3_pileUp.cls ≠ "java/lang/invoke/MethodHandle" ∧ yX3_pileUp.cls ≠ "java/lang/invoke/VarHandle" ∧ (parseMethodDescriptor yX3_pileUp.desc).map (fun d => d.parameters.length) = some 1 := by decide +kernel
theorem dX3_pileUp_0 : decode cX3_pileUp 0 = .ok (.aload_n 0, 1) := by decide +kernel
theorem dX3_pileUp_1 : decode cX3_pileUp 1 = .ok (.iload_n 1, 1) := by decide +kernel
theorem dX3_pileUp_2 : decode cX3_pileUp 2 = .ok (.invokestatic 151, 3) := by decide +kernel
theorem dX3_pileUp_5 : decode cX3_pileUp 5 = .ok (.invokevirtual 82, 3) := by decide +kernel
theorem dX3_pileUp_8 : decode cX3_pileUp 8 = .ok (.aload_n 0, 1) := by decide +kernel
theorem dX3_pileUp_9 : decode cX3_pileUp 9 = .ok (.iload_n 1, 1) := by decide +kernel
theorem dX3_pileUp_10 : decode cX3_pileUp 10 = .ok (.invokevirtual 148, 3) := by decide +kernel
theorem dX3_pileUp_13 : decode cX3_pileUp 13 = .ok (.return_, 1) := by decide +kernel
def wp_X3_pileUp (S : Sh) (M : Mm) (u0 : Int) (u1 : Int) (post : Mm → Prop) : Prop := wp_X3_bindingOf S M u1 <| fun v2 M1 => isK S u0 3 ∧ (wp_X3_unpile S M1 u0 v2 <| fun M4 => isK S u0 3 ∧ (wp_X3_push S M4 u0 u1 <| fun M5 => post M5))
set_option maxHeartbeats 4000000 in
set_option maxRecDepth 100000 in
theorem c_X3_pileUp (l : Launch) (D : va_G) (G : Gt) (S : Sh) (M : Mm) (xl0 : Int) (zl1 : Int32) (post : Mm → Prop) (h : wp_X3_pileUp S M xl0 zl1.toInt post) : Met l yX3_pileUp (cw_X3_pileUp :: gw) RM_X3_pileUp (va_Pc [.ref (adr G xl0), .int zl1] (fun U => KN D G U ∧ Wd D G S M U.heap)) (QV D G S post) 0 0 (aG G) := by
  refine Met.ofW (cc := cX3_pileUp) (maxL := 2) (ret := none) (by decide) rfl ?_
  intro p e s m args below meth c s₁ B hml hv
  obtain ⟨rfl, hK, hP⟩ := hv
  have hx := B.exec
  have hb := B.bytes
  have hr := B.returns
  have hts := atoms_spec (ws := cw_X3_pileUp :: gw) B.pre
  have hown : s.vm.findClass RX3 = some m.cls := findClass_of_methodNamed B.named
  have hlocks := B.notSynchronized
  have hS : va_S (aG G) s.heap s.heap [] := va_S.rf
  have C : Cx p s m ([.ref (adr G xl0), .int zl1] : List Value).toArray meth c D G cX3_pileUp 2 none (cw_X3_pileUp :: gw) RX3 := ⟨hx, hb, hr, hlocks, hml, hown, hts, hK⟩
  have hl := lv_entry ([.ref (adr G xl0), .int zl1]) (n := 2) (Nat.le_of_ble_eq_true rfl)
  rw [lg_entry_eq]
  generalize (lg_sl ([.ref (adr G xl0), .int zl1]) ++ List.replicate (2 - (lg_sl ([.ref (adr G xl0), .int zl1])).length) Slot.unset).toArray = ls at hl ⊢
  have hl : lv_has ls 2 [(0, .ref (adr G xl0)), (1, .int zl1)] := hl
  unfold wp_X3_pileUp at h
  refine lv_aload_n hx hb dX3_pileUp_0 rfl (lv_at hl 0 rfl) ?_
  refine lv_iload_n hx hb dX3_pileUp_1 rfl (lv_at hl 1 rfl) ?_
  refine q_Si hx hb hml hown hts hK hP hS (c_X3_bindingOf l D G S _ zl1 _ h) ⟨callB_of 1 hts (gw_good kw_799) rfl rfl rfl (hts _ (List.mem_cons_of_mem _ kw_8)) (hts _ (List.mem_cons_of_mem _ kw_797)) hd_X3_bindingOf ⟨Nat.le_of_ble_eq_true rfl, Nat.le_of_ble_eq_true rfl⟩, (hts _ (List.mem_cons_of_mem _ kw_798))⟩ rfl hl.1 rfl (lv_room (Nat.le_of_ble_eq_true rfl)) dX3_pileUp_2 ⟨Nat.zero_le _, Nat.zero_le _⟩ (fun z3 M1 H locs h hP hS => ?_)
  refine q_Vv hx hb hml hown hts hK hP hS (c_X3_unpile l D G S _ xl0 z3 _ h.2) ⟨callB_of 1 hts (gw_good kw_796) rfl rfl rfl (hts _ (List.mem_cons_of_mem _ kw_8)) (hts _ (List.mem_cons_of_mem _ kw_793)) hd_X3_unpile ⟨Nat.le_of_ble_eq_true rfl, Nat.le_of_ble_eq_true rfl⟩, (hts _ (List.mem_cons_of_mem _ kw_795)), (hts _ (List.mem_cons_of_mem _ kp_17))⟩ h.1 (ci := 3) rfl (by decide) rfl hl.1 rfl (lv_room (Nat.le_of_ble_eq_true rfl)) dX3_pileUp_5 ⟨Nat.zero_le _, Nat.zero_le _⟩ (fun M4 H locs h hP hS => ?_)
  refine lv_aload_n hx hb dX3_pileUp_8 rfl (lv_at hl 0 rfl) ?_
  refine lv_iload_n hx hb dX3_pileUp_9 rfl (lv_at hl 1 rfl) ?_
  refine q_Vv hx hb hml hown hts hK hP hS (c_X3_push l D G S _ xl0 zl1 _ h.2) ⟨callB_of 1 hts (gw_good kw_825) rfl rfl rfl (hts _ (List.mem_cons_of_mem _ kw_8)) (hts _ (List.mem_cons_of_mem _ kw_822)) hd_X3_push ⟨Nat.le_of_ble_eq_true rfl, Nat.le_of_ble_eq_true rfl⟩, (hts _ (List.mem_cons_of_mem _ kw_824)), (hts _ (List.mem_cons_of_mem _ kp_23))⟩ h.1 (ci := 3) rfl (by decide) rfl hl.1 rfl (lv_room (Nat.le_of_ble_eq_true rfl)) dX3_pileUp_10 ⟨Nat.zero_le _, Nat.zero_le _⟩ (fun M5 H locs h hP hS => ?_)
  exact r_vret hx hb hr hlocks hP hS dX3_pileUp_13 h
/-! TurningMilk$RuleReader.beginFact()Z -/
abbrev RM_X3_beginFact : Room := { frames := 7, cells := 0, slots := 0, locals := 304 }
def cw_X3_beginFact : Cond := Cond.code yX3_beginFact cX3_beginFact 3 (Option.some FieldType.boolean)
theorem hd_X3_beginFact : yX3_beginFact.cls ≠ "java/lang/invoke/MethodHandle" ∧ yX3_beginFact.cls ≠ "java/lang/invoke/VarHandle" ∧ (parseMethodDescriptor yX3_beginFact.desc).map (fun d => d.parameters.length) = some 0 := by decide +kernel
theorem dX3_beginFact_0 : decode cX3_beginFact 0 = .ok (.aload_n 0, 1) := by decide +kernel
theorem dX3_beginFact_1 : decode cX3_beginFact 1 = .ok (.iconst 1, 1) := by decide +kernel
theorem dX3_beginFact_2 : decode cX3_beginFact 2 = .ok (.putfield 70, 3) := by decide +kernel
theorem dX3_beginFact_5 : decode cX3_beginFact 5 = .ok (.iconst 0, 1) := by decide +kernel
theorem dX3_beginFact_6 : decode cX3_beginFact 6 = .ok (.istore_n 1, 1) := by decide +kernel
theorem dX3_beginFact_7 : decode cX3_beginFact 7 = .ok (.iload_n 1, 1) := by decide +kernel
theorem dX3_beginFact_8 : decode cX3_beginFact 8 = .ok (.bipush 10, 2) := by decide +kernel
theorem dX3_beginFact_10 : decode cX3_beginFact 10 = .ok (.if_icmp .gt 98, 3) := by decide +kernel
theorem dX3_beginFact_13 : decode cX3_beginFact 13 = .ok (.aload_n 0, 1) := by decide +kernel
theorem dX3_beginFact_14 : decode cX3_beginFact 14 = .ok (.getfield 18, 3) := by decide +kernel
theorem dX3_beginFact_17 : decode cX3_beginFact 17 = .ok (.bipush 91, 2) := by decide +kernel
theorem dX3_beginFact_19 : decode cX3_beginFact 19 = .ok (.invokevirtual 48, 3) := by decide +kernel
theorem dX3_beginFact_22 : decode cX3_beginFact 22 = .ok (.istore_n 2, 1) := by decide +kernel
theorem dX3_beginFact_23 : decode cX3_beginFact 23 = .ok (.iload_n 2, 1) := by decide +kernel
theorem dX3_beginFact_24 : decode cX3_beginFact 24 = .ok (.ifCond .ne 17, 3) := by decide +kernel
theorem dX3_beginFact_27 : decode cX3_beginFact 27 = .ok (.aload_n 0, 1) := by decide +kernel
theorem dX3_beginFact_28 : decode cX3_beginFact 28 = .ok (.getfield 18, 3) := by decide +kernel
theorem dX3_beginFact_31 : decode cX3_beginFact 31 = .ok (.ldc 146, 2) := by decide +kernel
theorem dX3_beginFact_33 : decode cX3_beginFact 33 = .ok (.invokevirtual 57, 3) := by decide +kernel
theorem dX3_beginFact_36 : decode cX3_beginFact 36 = .ok (.ifCond .ne 5, 3) := by decide +kernel
theorem dX3_beginFact_39 : decode cX3_beginFact 39 = .ok (.iconst 1, 1) := by decide +kernel
theorem dX3_beginFact_40 : decode cX3_beginFact 40 = .ok (.ireturn, 1) := by decide +kernel
theorem dX3_beginFact_41 : decode cX3_beginFact 41 = .ok (.aload_n 0, 1) := by decide +kernel
theorem dX3_beginFact_42 : decode cX3_beginFact 42 = .ok (.getfield 64, 3) := by decide +kernel
theorem dX3_beginFact_45 : decode cX3_beginFact 45 = .ok (.bipush 10, 2) := by decide +kernel
theorem dX3_beginFact_47 : decode cX3_beginFact 47 = .ok (.if_icmp .lt 12, 3) := by decide +kernel
theorem dX3_beginFact_50 : decode cX3_beginFact 50 = .ok (.aload_n 0, 1) := by decide +kernel
theorem dX3_beginFact_51 : decode cX3_beginFact 51 = .ok (.getfield 18, 3) := by decide +kernel
theorem dX3_beginFact_54 : decode cX3_beginFact 54 = .ok (.iconst 2, 1) := by decide +kernel
theorem dX3_beginFact_55 : decode cX3_beginFact 55 = .ok (.invokevirtual 52, 3) := by decide +kernel
theorem dX3_beginFact_58 : decode cX3_beginFact 58 = .ok (.ireturn, 1) := by decide +kernel
theorem dX3_beginFact_59 : decode cX3_beginFact 59 = .ok (.aload_n 0, 1) := by decide +kernel
theorem dX3_beginFact_60 : decode cX3_beginFact 60 = .ok (.dup, 1) := by decide +kernel
theorem dX3_beginFact_61 : decode cX3_beginFact 61 = .ok (.getfield 64, 3) := by decide +kernel
theorem dX3_beginFact_64 : decode cX3_beginFact 64 = .ok (.iconst 1, 1) := by decide +kernel
theorem dX3_beginFact_65 : decode cX3_beginFact 65 = .ok (.iadd, 1) := by decide +kernel
theorem dX3_beginFact_66 : decode cX3_beginFact 66 = .ok (.putfield 64, 3) := by decide +kernel
theorem dX3_beginFact_69 : decode cX3_beginFact 69 = .ok (.aload_n 0, 1) := by decide +kernel
theorem dX3_beginFact_70 : decode cX3_beginFact 70 = .ok (.dup, 1) := by decide +kernel
theorem dX3_beginFact_71 : decode cX3_beginFact 71 = .ok (.getfield 67, 3) := by decide +kernel
theorem dX3_beginFact_74 : decode cX3_beginFact 74 = .ok (.iload_n 2, 1) := by decide +kernel
theorem dX3_beginFact_75 : decode cX3_beginFact 75 = .ok (.ifCond .eq 7, 3) := by decide +kernel
theorem dX3_beginFact_78 : decode cX3_beginFact 78 = .ok (.iconst 1, 1) := by decide +kernel
theorem dX3_beginFact_79 : decode cX3_beginFact 79 = .ok (.goto 4, 3) := by decide +kernel
theorem dX3_beginFact_82 : decode cX3_beginFact 82 = .ok (.iconst 0, 1) := by decide +kernel
theorem dX3_beginFact_83 : decode cX3_beginFact 83 = .ok (.iadd, 1) := by decide +kernel
theorem dX3_beginFact_84 : decode cX3_beginFact 84 = .ok (.putfield 67, 3) := by decide +kernel
theorem dX3_beginFact_87 : decode cX3_beginFact 87 = .ok (.aload_n 0, 1) := by decide +kernel
theorem dX3_beginFact_88 : decode cX3_beginFact 88 = .ok (.iload_n 2, 1) := by decide +kernel
theorem dX3_beginFact_89 : decode cX3_beginFact 89 = .ok (.ifCond .eq 8, 3) := by decide +kernel
theorem dX3_beginFact_92 : decode cX3_beginFact 92 = .ok (.bipush (-27), 2) := by decide +kernel
theorem dX3_beginFact_94 : decode cX3_beginFact 94 = .ok (.goto 5, 3) := by decide +kernel
theorem dX3_beginFact_97 : decode cX3_beginFact 97 = .ok (.bipush (-22), 2) := by decide +kernel
theorem dX3_beginFact_99 : decode cX3_beginFact 99 = .ok (.invokevirtual 148, 3) := by decide +kernel
theorem dX3_beginFact_102 : decode cX3_beginFact 102 = .ok (.iinc 1 1, 3) := by decide +kernel
theorem dX3_beginFact_105 : decode cX3_beginFact 105 = .ok (.goto (-98), 3) := by decide +kernel
theorem dX3_beginFact_108 : decode cX3_beginFact 108 = .ok (.iconst 0, 1) := by decide +kernel
theorem dX3_beginFact_109 : decode cX3_beginFact 109 = .ok (.ireturn, 1) := by decide +kernel
def wp_X3_beginFact_99 (S : Sh) (k7 : Int → Int → Mm → Prop) (post : Int → Mm → Prop) (u0 : Int) (u1 : Int) (t0 : Int) (t1 : Int) (M : Mm) : Prop := isK S t0 3 ∧ (wp_X3_push S M t0 t1 <| fun M1 => wA u1 1 fun v2 => k7 u0 v2 M1)
def wp_X3_beginFact_83 (S : Sh) (k7 : Int → Int → Mm → Prop) (post : Int → Mm → Prop) (u0 : Int) (u1 : Int) (u2 : Int) (t0 : Int) (t1 : Int) (t2 : Int) (M : Mm) : Prop := wA t1 t2 fun v4 => wPut S M t0 3 7 v4 fun M6 => wIf (u2 = 0) (wC (-22) fun v7 => wp_X3_beginFact_99 S k7 post u0 u1 u0 v7 M6) (wC (-27) fun v9 => wp_X3_beginFact_99 S k7 post u0 u1 u0 v9 M6)
def wp_X3_beginFact_41 (S : Sh) (k7 : Int → Int → Mm → Prop) (post : Int → Mm → Prop) (u0 : Int) (u1 : Int) (u2 : Int) (M : Mm) : Prop := wGet S M u0 3 6 fun v11 => wC 10 fun v13 => wIf (v11 < v13) (wGet S M u0 3 6 fun v15 => wC 1 fun v17 => wA v15 v17 fun v19 => wPut S M u0 3 6 v19 fun M21 => wGet S M21 u0 3 7 fun v22 => wIf (u2 = 0) (wC 0 fun v24 => wp_X3_beginFact_83 S k7 post u0 u1 u2 u0 v22 v24 M21) (wC 1 fun v26 => wp_X3_beginFact_83 S k7 post u0 u1 u2 u0 v22 v26 M21)) (wGetR S M u0 3 0 fun v28 => wC 2 fun v30 => isK S v28 7 ∧ (wp_X7_refuse S M v28 v30 <| fun v33 M32 => (v33 = 0 ∨ v33 = 1) ∧ post v33 M32))
def wp_X3_beginFact_7 (S : Sh) (post : Int → Mm → Prop) : Nat → Int → Int → Mm → Prop
  | 0, _, _, _ => False
  | n + 1, u0, u1, M => wC 10 fun v35 => wIf (v35 < u1) (wC 0 fun v37 => (v37 = 0 ∨ v37 = 1) ∧ post v37 M) (wGetR S M u0 3 0 fun v39 => wC 91 fun v41 => isK S v39 7 ∧ (wp_X7_takesSign S M v39 v41 <| fun v44 M43 => wIf (¬ v44 = 0) (wp_X3_beginFact_41 S (fun a0 a1 M => wp_X3_beginFact_7 S post n a0 a1 M) post u0 u1 v44 M43) (wGetR S M43 u0 3 0 fun v46 => wC (-17) fun v48 => isK S v46 7 ∧ (wp_X7_takesWord S M43 v46 v48 <| fun v51 M50 => wIf (¬ v51 = 0) (wp_X3_beginFact_41 S (fun a0 a1 M => wp_X3_beginFact_7 S post n a0 a1 M) post u0 u1 v44 M50) (wC 1 fun v53 => (v53 = 0 ∨ v53 = 1) ∧ post v53 M50)))))
def wp_X3_beginFact (S : Sh) (M : Mm) (u0 : Int) (post : Int → Mm → Prop) : Prop := wC 1 fun v55 => wPut S M u0 3 8 v55 fun M57 => wC 0 fun v58 => ∃ n9 : Nat, wp_X3_beginFact_7 S post n9 u0 v58 M57
set_option maxHeartbeats 4000000 in
set_option maxRecDepth 100000 in
theorem t_X3_beginFact_99 {p : Program} {l : Launch} {e : Env} {s : State} {m : MethodId} {args : Array Value} {below : List Frame} {meth : Method} {c : Code} {D : va_G} {G : Gt} {S : Sh} {post : Int → Mm → Prop} {k7 : Int → Int → Mm → Prop} (C : Cx p s m args meth c D G cX3_beginFact 3 (some .boolean) (cw_X3_beginFact :: gw) RX3) (hk7 : ∀ (y0 : Int) (y1 : Int32) (M : Mm) (H : Heap) (locs : List Loc) (ls : Array Slot), Wd D G S M H → va_S (aG G) s.heap H locs → lv_has ls 3 [(0, .ref (adr G y0)), (1, .int y1)] → k7 y0 y1.toInt M → W p l e RM_X3_beginFact s m args below meth c H locs 0 0 (MQ below (QI D G S post) args s 0 0 (aG G)) (F0 m 7 ls [])) : ∀ (xl0 : Int) (zl1 : Int32) (xs0 : Int) (zs1 : Int32) (M : Mm) (H : Heap) (locs : List Loc) (ls : Array Slot), Wd D G S M H → va_S (aG G) s.heap H locs → lv_has ls 3 [(0, .ref (adr G xl0)), (1, .int zl1)] → wp_X3_beginFact_99 S k7 post xl0 zl1.toInt xs0 zs1.toInt M → W p l e RM_X3_beginFact s m args below meth c H locs 0 0 (MQ below (QI D G S post) args s 0 0 (aG G)) (F0 m 99 ls [.int zs1, .ref (adr G xs0)]) := by
  obtain ⟨hx, hb, hr, hlocks, hml, hown, hts, hK⟩ := id C
  intro xl0 zl1 xs0 zs1 M H locs ls hP hS hl h
  unfold wp_X3_beginFact_99 at h
  refine q_Vv hx hb hml hown hts hK hP hS (c_X3_push l D G S _ xs0 zs1 _ h.2) ⟨callB_of 1 hts (gw_good kw_825) rfl rfl rfl (hts _ (List.mem_cons_of_mem _ kw_8)) (hts _ (List.mem_cons_of_mem _ kw_822)) hd_X3_push ⟨Nat.le_of_ble_eq_true rfl, Nat.le_of_ble_eq_true rfl⟩, (hts _ (List.mem_cons_of_mem _ kw_824)), (hts _ (List.mem_cons_of_mem _ kp_23))⟩ h.1 (ci := 3) rfl (by decide) rfl hl.1 rfl (lv_room (Nat.le_of_ble_eq_true rfl)) dX3_beginFact_99 ⟨Nat.zero_le _, Nat.zero_le _⟩ (fun M1 H locs h hP hS => ?_)
  refine r_iinc hx hb (fun z3 => [(1, .int z3), (0, .ref (adr G xl0))]) dX3_beginFact_102 (by decide) hl (k := 1) rfl (by decide) (fun _ => rfl) h (fun z3 ls hl h => ?_)
  refine lv_goto (tgt := 7) hx hb dX3_beginFact_105 (by decide) ?_
  exact hk7 xl0 z3 _ _ _ _ hP hS (lv_sub hl [1, 0] rfl) h
set_option maxHeartbeats 4000000 in
set_option maxRecDepth 100000 in
theorem t_X3_beginFact_83 {p : Program} {l : Launch} {e : Env} {s : State} {m : MethodId} {args : Array Value} {below : List Frame} {meth : Method} {c : Code} {D : va_G} {G : Gt} {S : Sh} {post : Int → Mm → Prop} {k7 : Int → Int → Mm → Prop} (C : Cx p s m args meth c D G cX3_beginFact 3 (some .boolean) (cw_X3_beginFact :: gw) RX3) (hk7 : ∀ (y0 : Int) (y1 : Int32) (M : Mm) (H : Heap) (locs : List Loc) (ls : Array Slot), Wd D G S M H → va_S (aG G) s.heap H locs → lv_has ls 3 [(0, .ref (adr G y0)), (1, .int y1)] → k7 y0 y1.toInt M → W p l e RM_X3_beginFact s m args below meth c H locs 0 0 (MQ below (QI D G S post) args s 0 0 (aG G)) (F0 m 7 ls [])) : ∀ (xl0 : Int) (zl1 : Int32) (zl2 : Int32) (xs0 : Int) (zs1 : Int32) (zs2 : Int32) (M : Mm) (H : Heap) (locs : List Loc) (ls : Array Slot), Wd D G S M H → va_S (aG G) s.heap H locs → lv_has ls 3 [(0, .ref (adr G xl0)), (1, .int zl1), (2, .int zl2)] → wp_X3_beginFact_83 S k7 post xl0 zl1.toInt zl2.toInt xs0 zs1.toInt zs2.toInt M → W p l e RM_X3_beginFact s m args below meth c H locs 0 0 (MQ below (QI D G S post) args s 0 0 (aG G)) (F0 m 83 ls [.int zs2, .int zs1, .ref (adr G xs0)]) := by
  obtain ⟨hx, hb, hr, hlocks, hml, hown, hts, hK⟩ := id C
  intro xl0 zl1 zl2 xs0 zs1 zs2 M H locs ls hP hS hl h
  unfold wp_X3_beginFact_83 at h
  refine r_iadd hx hb dX3_beginFact_83 h (fun z5 h => ?_)
  refine r_puti (C := RX3) (T := TX3) (N := 9) hx hb hts (fun w h => List.mem_cons_of_mem _ (iX3 w h)) hown hK hP tyX3 tyX3_ok nmX3 hS rfl (by decide) rfl 7 (by decide) (hts _ (List.mem_cons_of_mem _ kw_314)) (fun _ h9 => h9) rfl (tyX3_ok 7 (by decide)) rfl rfl dX3_beginFact_84 (by decide) h (fun M6 H locs h hP hS => ?_)
  refine lv_aload_n hx hb dX3_beginFact_87 rfl (lv_at hl 0 rfl) ?_
  refine lv_iload_n hx hb dX3_beginFact_88 rfl (lv_at hl 2 rfl) ?_
  refine r_if_eq (tgt := 97) hx hb dX3_beginFact_89 (by decide) h (fun h => ?_) (fun h => ?_)
  · refine r_bipush hx hb dX3_beginFact_97 (by decide) h (fun z8 h => ?_)
    exact t_X3_beginFact_99 C hk7 xl0 zl1 xl0 z8 _ _ _ _ hP hS (lv_sub hl [0, 1] rfl) h
  · refine r_bipush hx hb dX3_beginFact_92 (by decide) h (fun z10 h => ?_)
    refine lv_goto (tgt := 99) hx hb dX3_beginFact_94 (by decide) ?_
    exact t_X3_beginFact_99 C hk7 xl0 zl1 xl0 z10 _ _ _ _ hP hS (lv_sub hl [0, 1] rfl) h
set_option maxHeartbeats 4000000 in
set_option maxRecDepth 100000 in
theorem t_X3_beginFact_41 {p : Program} {l : Launch} {e : Env} {s : State} {m : MethodId} {args : Array Value} {below : List Frame} {meth : Method} {c : Code} {D : va_G} {G : Gt} {S : Sh} {post : Int → Mm → Prop} {k7 : Int → Int → Mm → Prop} (C : Cx p s m args meth c D G cX3_beginFact 3 (some .boolean) (cw_X3_beginFact :: gw) RX3) (hk7 : ∀ (y0 : Int) (y1 : Int32) (M : Mm) (H : Heap) (locs : List Loc) (ls : Array Slot), Wd D G S M H → va_S (aG G) s.heap H locs → lv_has ls 3 [(0, .ref (adr G y0)), (1, .int y1)] → k7 y0 y1.toInt M → W p l e RM_X3_beginFact s m args below meth c H locs 0 0 (MQ below (QI D G S post) args s 0 0 (aG G)) (F0 m 7 ls [])) : ∀ (xl0 : Int) (zl1 : Int32) (zl2 : Int32) (M : Mm) (H : Heap) (locs : List Loc) (ls : Array Slot), Wd D G S M H → va_S (aG G) s.heap H locs → lv_has ls 3 [(0, .ref (adr G xl0)), (1, .int zl1), (2, .int zl2)] → wp_X3_beginFact_41 S k7 post xl0 zl1.toInt zl2.toInt  M → W p l e RM_X3_beginFact s m args below meth c H locs 0 0 (MQ below (QI D G S post) args s 0 0 (aG G)) (F0 m 41 ls []) := by
  obtain ⟨hx, hb, hr, hlocks, hml, hown, hts, hK⟩ := id C
  intro xl0 zl1 zl2 M H locs ls hP hS hl h
  unfold wp_X3_beginFact_41 at h
  refine lv_aload_n hx hb dX3_beginFact_41 rfl (lv_at hl 0 rfl) ?_
  refine r_geti (C := RX3) (T := TX3) (N := 9) hx hb hts (fun w h => List.mem_cons_of_mem _ (iX3 w h)) hown hK hP rfl (by decide) rfl 6 (by decide) (hts _ (List.mem_cons_of_mem _ kw_313)) (fun _ h9 => h9) dX3_beginFact_42 (by decide) h (fun z12 h => ?_)
  refine r_bipush hx hb dX3_beginFact_45 (by decide) h (fun z14 h => ?_)
  refine r_icmp_lt (tgt := 59) hx hb dX3_beginFact_47 (by decide) h (fun h => ?_) (fun h => ?_)
  · refine lv_aload_n hx hb dX3_beginFact_59 rfl (lv_at hl 0 rfl) ?_
    refine lv_dup hx hb dX3_beginFact_60 rfl ?_
    refine r_geti (C := RX3) (T := TX3) (N := 9) hx hb hts (fun w h => List.mem_cons_of_mem _ (iX3 w h)) hown hK hP rfl (by decide) rfl 6 (by decide) (hts _ (List.mem_cons_of_mem _ kw_313)) (fun _ h9 => h9) dX3_beginFact_61 (by decide) h (fun z16 h => ?_)
    refine r_iconst hx hb dX3_beginFact_64 (by decide) h (fun z18 h => ?_)
    refine r_iadd hx hb dX3_beginFact_65 h (fun z20 h => ?_)
    refine r_puti (C := RX3) (T := TX3) (N := 9) hx hb hts (fun w h => List.mem_cons_of_mem _ (iX3 w h)) hown hK hP tyX3 tyX3_ok nmX3 hS rfl (by decide) rfl 6 (by decide) (hts _ (List.mem_cons_of_mem _ kw_313)) (fun _ h9 => h9) rfl (tyX3_ok 6 (by decide)) rfl rfl dX3_beginFact_66 (by decide) h (fun M21 H locs h hP hS => ?_)
    refine lv_aload_n hx hb dX3_beginFact_69 rfl (lv_at hl 0 rfl) ?_
    refine lv_dup hx hb dX3_beginFact_70 rfl ?_
    refine r_geti (C := RX3) (T := TX3) (N := 9) hx hb hts (fun w h => List.mem_cons_of_mem _ (iX3 w h)) hown hK hP rfl (by decide) rfl 7 (by decide) (hts _ (List.mem_cons_of_mem _ kw_314)) (fun _ h9 => h9) dX3_beginFact_71 (by decide) h (fun z23 h => ?_)
    refine lv_iload_n hx hb dX3_beginFact_74 rfl (lv_at hl 2 rfl) ?_
    refine r_if_eq (tgt := 82) hx hb dX3_beginFact_75 (by decide) h (fun h => ?_) (fun h => ?_)
    · refine r_iconst hx hb dX3_beginFact_82 (by decide) h (fun z25 h => ?_)
      exact t_X3_beginFact_83 C hk7 xl0 zl1 zl2 xl0 z23 z25 _ _ _ _ hP hS (lv_sub hl [0, 1, 2] rfl) h
    · refine r_iconst hx hb dX3_beginFact_78 (by decide) h (fun z27 h => ?_)
      refine lv_goto (tgt := 83) hx hb dX3_beginFact_79 (by decide) ?_
      exact t_X3_beginFact_83 C hk7 xl0 zl1 zl2 xl0 z23 z27 _ _ _ _ hP hS (lv_sub hl [0, 1, 2] rfl) h
  · refine lv_aload_n hx hb dX3_beginFact_50 rfl (lv_at hl 0 rfl) ?_
    refine r_getr (C := RX3) (T := TX3) (N := 9) hx hb hts (fun w h => List.mem_cons_of_mem _ (iX3 w h)) hown hK hP rfl (by decide) rfl 0 (by decide) (hts _ (List.mem_cons_of_mem _ kw_307)) (fun _ h9 => h9) dX3_beginFact_51 (by decide) h (fun x29 h => ?_)
    refine r_iconst hx hb dX3_beginFact_54 (by decide) h (fun z31 h => ?_)
    refine q_Vi hx hb hml hown hts hK hP hS (c_X7_refuse l D G S _ x29 z31 _ h.2) ⟨callB_of 1 hts (gw_good kw_657) rfl rfl rfl (hts _ (List.mem_cons_of_mem _ kw_2)) (hts _ (List.mem_cons_of_mem _ kw_752)) hd_X7_refuse ⟨Nat.le_of_ble_eq_true rfl, Nat.le_of_ble_eq_true rfl⟩, (hts _ (List.mem_cons_of_mem _ kw_655)), (hts _ (List.mem_cons_of_mem _ kw_656))⟩ h.1 (ci := 7) rfl (by decide) rfl hl.1 rfl (lv_room (Nat.le_of_ble_eq_true rfl)) dX3_beginFact_55 ⟨Nat.zero_le _, Nat.zero_le _⟩ (fun z34 M32 H locs h hP hS => ?_)
    exact r_zret hx hb hr hlocks hP hS dX3_beginFact_58 h
set_option maxHeartbeats 4000000 in
set_option maxRecDepth 100000 in
theorem t_X3_beginFact_7 {p : Program} {l : Launch} {e : Env} {s : State} {m : MethodId} {args : Array Value} {below : List Frame} {meth : Method} {c : Code} {D : va_G} {G : Gt} {S : Sh} {post : Int → Mm → Prop} (C : Cx p s m args meth c D G cX3_beginFact 3 (some .boolean) (cw_X3_beginFact :: gw) RX3) : ∀ (n : Nat) (xl0 : Int) (zl1 : Int32) (M : Mm) (H : Heap) (locs : List Loc) (ls : Array Slot), Wd D G S M H → va_S (aG G) s.heap H locs → lv_has ls 3 [(0, .ref (adr G xl0)), (1, .int zl1)] → wp_X3_beginFact_7 S post n xl0 zl1.toInt  M → W p l e RM_X3_beginFact s m args below meth c H locs 0 0 (MQ below (QI D G S post) args s 0 0 (aG G)) (F0 m 7 ls []) := by
  obtain ⟨hx, hb, hr, hlocks, hml, hown, hts, hK⟩ := id C
  intro n
  induction n with
  | zero => intro xl0 zl1 M H locs ls hP hS hl h; exact h.elim
  | succ n ih =>
    intro xl0 zl1 M H locs ls hP hS hl h
    unfold wp_X3_beginFact_7 at h
    refine lv_iload_n hx hb dX3_beginFact_7 rfl (lv_at hl 1 rfl) ?_
    refine r_bipush hx hb dX3_beginFact_8 (by decide) h (fun z36 h => ?_)
    refine r_icmp_gt (tgt := 108) hx hb dX3_beginFact_10 (by decide) h (fun h => ?_) (fun h => ?_)
    · refine r_iconst hx hb dX3_beginFact_108 (by decide) h (fun z38 h => ?_)
      exact r_zret hx hb hr hlocks hP hS dX3_beginFact_109 h
    · refine lv_aload_n hx hb dX3_beginFact_13 rfl (lv_at hl 0 rfl) ?_
      refine r_getr (C := RX3) (T := TX3) (N := 9) hx hb hts (fun w h => List.mem_cons_of_mem _ (iX3 w h)) hown hK hP rfl (by decide) rfl 0 (by decide) (hts _ (List.mem_cons_of_mem _ kw_307)) (fun _ h9 => h9) dX3_beginFact_14 (by decide) h (fun x40 h => ?_)
      refine r_bipush hx hb dX3_beginFact_17 (by decide) h (fun z42 h => ?_)
      refine q_Vi hx hb hml hown hts hK hP hS (c_X7_takesSign l D G S _ x40 z42 _ h.2) ⟨callB_of 1 hts (gw_good kw_724) rfl rfl rfl (hts _ (List.mem_cons_of_mem _ kw_2)) (hts _ (List.mem_cons_of_mem _ kw_792)) hd_X7_takesSign ⟨Nat.le_of_ble_eq_true rfl, Nat.le_of_ble_eq_true rfl⟩, (hts _ (List.mem_cons_of_mem _ kw_722)), (hts _ (List.mem_cons_of_mem _ kw_723))⟩ h.1 (ci := 7) rfl (by decide) rfl hl.1 rfl (lv_room (Nat.le_of_ble_eq_true rfl)) dX3_beginFact_19 ⟨Nat.zero_le _, Nat.zero_le _⟩ (fun z45 M43 H locs h hP hS => ?_)
      refine lv_istore_n (lv' := [(2, .int z45), (0, .ref (adr G xl0)), (1, .int zl1)]) hx hb dX3_beginFact_22 rfl hl (by decide) rfl (fun ls hl => ?_)
      refine lv_iload_n hx hb dX3_beginFact_23 rfl (lv_at hl 0 rfl) ?_
      refine r_if_ne (tgt := 41) hx hb dX3_beginFact_24 (by decide) h (fun h => ?_) (fun h => ?_)
      · exact t_X3_beginFact_41 C ih xl0 zl1 z45 _ _ _ _ hP hS (lv_sub hl [1, 2, 0] rfl) h
      · refine lv_aload_n hx hb dX3_beginFact_27 rfl (lv_at hl 1 rfl) ?_
        refine r_getr (C := RX3) (T := TX3) (N := 9) hx hb hts (fun w h => List.mem_cons_of_mem _ (iX3 w h)) hown hK hP rfl (by decide) rfl 0 (by decide) (hts _ (List.mem_cons_of_mem _ kw_307)) (fun _ h9 => h9) dX3_beginFact_28 (by decide) h (fun x47 h => ?_)
        refine r_lds hx hb hK hown (k := 14) (List.mem_of_getElem? (i := 18) rfl) dX3_beginFact_31 (n := (-17)) (by decide) h (fun x49 h => ?_)
        refine q_Vi hx hb hml hown hts hK hP hS (c_X7_takesWord l D G S _ x47 x49 _ h.2) ⟨callB_of 1 hts (gw_good kw_597) rfl rfl rfl (hts _ (List.mem_cons_of_mem _ kw_2)) (hts _ (List.mem_cons_of_mem _ kw_751)) hd_X7_takesWord ⟨Nat.le_of_ble_eq_true rfl, Nat.le_of_ble_eq_true rfl⟩, (hts _ (List.mem_cons_of_mem _ kw_595)), (hts _ (List.mem_cons_of_mem _ kw_596))⟩ h.1 (ci := 7) rfl (by decide) rfl hl.1 rfl (lv_room (Nat.le_of_ble_eq_true rfl)) dX3_beginFact_33 ⟨Nat.zero_le _, Nat.zero_le _⟩ (fun z52 M50 H locs h hP hS => ?_)
        refine r_if_ne (tgt := 41) hx hb dX3_beginFact_36 (by decide) h (fun h => ?_) (fun h => ?_)
        · exact t_X3_beginFact_41 C ih xl0 zl1 z45 _ _ _ _ hP hS (lv_sub hl [1, 2, 0] rfl) h
        · refine r_iconst hx hb dX3_beginFact_39 (by decide) h (fun z54 h => ?_)
          exact r_zret hx hb hr hlocks hP hS dX3_beginFact_40 h
set_option maxHeartbeats 4000000 in
set_option maxRecDepth 100000 in
theorem c_X3_beginFact (l : Launch) (D : va_G) (G : Gt) (S : Sh) (M : Mm) (xl0 : Int) (post : Int → Mm → Prop) (h : wp_X3_beginFact S M xl0 post) : Met l yX3_beginFact (cw_X3_beginFact :: gw) RM_X3_beginFact (va_Pc [.ref (adr G xl0)] (fun U => KN D G U ∧ Wd D G S M U.heap)) (QI D G S post) 0 0 (aG G) := by
  refine Met.ofW (cc := cX3_beginFact) (maxL := 3) (ret := (some .boolean)) (by decide) rfl ?_
  intro p e s m args below meth c s₁ B hml hv
  obtain ⟨rfl, hK, hP⟩ := hv
  have hx := B.exec
  have hb := B.bytes
  have hr := B.returns
  have hts := atoms_spec (ws := cw_X3_beginFact :: gw) B.pre
  have hown : s.vm.findClass RX3 = some m.cls := findClass_of_methodNamed B.named
  have hlocks := B.notSynchronized
  have hS : va_S (aG G) s.heap s.heap [] := va_S.rf
  have C : Cx p s m ([.ref (adr G xl0)] : List Value).toArray meth c D G cX3_beginFact 3 (some .boolean) (cw_X3_beginFact :: gw) RX3 := ⟨hx, hb, hr, hlocks, hml, hown, hts, hK⟩
  have hl := lv_entry ([.ref (adr G xl0)]) (n := 3) (Nat.le_of_ble_eq_true rfl)
  rw [lg_entry_eq]
  generalize (lg_sl ([.ref (adr G xl0)]) ++ List.replicate (3 - (lg_sl ([.ref (adr G xl0)])).length) Slot.unset).toArray = ls at hl ⊢
  have hl : lv_has ls 3 [(0, .ref (adr G xl0))] := hl
  unfold wp_X3_beginFact at h
  refine lv_aload_n hx hb dX3_beginFact_0 rfl (lv_at hl 0 rfl) ?_
  refine r_iconst hx hb dX3_beginFact_1 (by decide) h (fun z56 h => ?_)
  refine r_puti (C := RX3) (T := TX3) (N := 9) hx hb hts (fun w h => List.mem_cons_of_mem _ (iX3 w h)) hown hK hP tyX3 tyX3_ok nmX3 hS rfl (by decide) rfl 8 (by decide) (hts _ (List.mem_cons_of_mem _ kw_315)) (fun _ h9 => h9) rfl (tyX3_ok 8 (by decide)) rfl rfl dX3_beginFact_2 (by decide) h (fun M57 H locs h hP hS => ?_)
  refine r_iconst hx hb dX3_beginFact_5 (by decide) h (fun z59 h => ?_)
  refine lv_istore_n (lv' := [(1, .int z59), (0, .ref (adr G xl0))]) hx hb dX3_beginFact_6 rfl hl (by decide) rfl (fun ls hl => ?_)
  obtain ⟨n9, h⟩ := h
  exact t_X3_beginFact_7 C n9 xl0 z59 _ _ _ _ hP hS (lv_sub hl [1, 0] rfl) h
/-! TurningMilk$RuleReader.readIf()Z -/
abbrev RM_X3_readIf : Room := { frames := 8, cells := 0, slots := 0, locals := 326 }
def cw_X3_readIf : Cond := Cond.code yX3_readIf cX3_readIf 1 (Option.some FieldType.boolean)
theorem hd_X3_readIf : yX3_readIf.cls ≠ "java/lang/invoke/MethodHandle" ∧ yX3_readIf.cls ≠ "java/lang/invoke/VarHandle" ∧ (parseMethodDescriptor yX3_readIf.desc).map (fun d => d.parameters.length) = some 0 := by decide +kernel
theorem dX3_readIf_0 : decode cX3_readIf 0 = .ok (.aload_n 0, 1) := by decide +kernel
theorem dX3_readIf_1 : decode cX3_readIf 1 = .ok (.getfield 18, 3) := by decide +kernel
theorem dX3_readIf_4 : decode cX3_readIf 4 = .ok (.ldc 138, 2) := by decide +kernel
theorem dX3_readIf_6 : decode cX3_readIf 6 = .ok (.invokevirtual 57, 3) := by decide +kernel
theorem dX3_readIf_9 : decode cX3_readIf 9 = .ok (.ifCond .ne 12, 3) := by decide +kernel
theorem dX3_readIf_12 : decode cX3_readIf 12 = .ok (.aload_n 0, 1) := by decide +kernel
theorem dX3_readIf_13 : decode cX3_readIf 13 = .ok (.getfield 18, 3) := by decide +kernel
theorem dX3_readIf_16 : decode cX3_readIf 16 = .ok (.iconst 0, 1) := by decide +kernel
theorem dX3_readIf_17 : decode cX3_readIf 17 = .ok (.invokevirtual 52, 3) := by decide +kernel
theorem dX3_readIf_20 : decode cX3_readIf 20 = .ok (.ireturn, 1) := by decide +kernel
theorem dX3_readIf_21 : decode cX3_readIf 21 = .ok (.aload_n 0, 1) := by decide +kernel
theorem dX3_readIf_22 : decode cX3_readIf 22 = .ok (.iconst 0, 1) := by decide +kernel
theorem dX3_readIf_23 : decode cX3_readIf 23 = .ok (.invokevirtual 82, 3) := by decide +kernel
theorem dX3_readIf_26 : decode cX3_readIf 26 = .ok (.aload_n 0, 1) := by decide +kernel
theorem dX3_readIf_27 : decode cX3_readIf 27 = .ok (.invokevirtual 135, 3) := by decide +kernel
theorem dX3_readIf_30 : decode cX3_readIf 30 = .ok (.ireturn, 1) := by decide +kernel
def wp_X3_readIf (S : Sh) (M : Mm) (u0 : Int) (post : Int → Mm → Prop) : Prop := wGetR S M u0 3 0 fun v1 => wC (-16) fun v3 => isK S v1 7 ∧ (wp_X7_takesWord S M v1 v3 <| fun v6 M5 => wIf (¬ v6 = 0) (wC 0 fun v8 => isK S u0 3 ∧ (wp_X3_unpile S M5 u0 v8 <| fun M10 => isK S u0 3 ∧ (wp_X3_beginFact S M10 u0 <| fun v12 M11 => (v12 = 0 ∨ v12 = 1) ∧ post v12 M11))) (wGetR S M5 u0 3 0 fun v14 => wC 0 fun v16 => isK S v14 7 ∧ (wp_X7_refuse S M5 v14 v16 <| fun v19 M18 => (v19 = 0 ∨ v19 = 1) ∧ post v19 M18)))
set_option maxHeartbeats 4000000 in
set_option maxRecDepth 100000 in
theorem c_X3_readIf (l : Launch) (D : va_G) (G : Gt) (S : Sh) (M : Mm) (xl0 : Int) (post : Int → Mm → Prop) (h : wp_X3_readIf S M xl0 post) : Met l yX3_readIf (cw_X3_readIf :: gw) RM_X3_readIf (va_Pc [.ref (adr G xl0)] (fun U => KN D G U ∧ Wd D G S M U.heap)) (QI D G S post) 0 0 (aG G) := by
  refine Met.ofW (cc := cX3_readIf) (maxL := 1) (ret := (some .boolean)) (by decide) rfl ?_
  intro p e s m args below meth c s₁ B hml hv
  obtain ⟨rfl, hK, hP⟩ := hv
  have hx := B.exec
  have hb := B.bytes
  have hr := B.returns
  have hts := atoms_spec (ws := cw_X3_readIf :: gw) B.pre
  have hown : s.vm.findClass RX3 = some m.cls := findClass_of_methodNamed B.named
  have hlocks := B.notSynchronized
  have hS : va_S (aG G) s.heap s.heap [] := va_S.rf
  have C : Cx p s m ([.ref (adr G xl0)] : List Value).toArray meth c D G cX3_readIf 1 (some .boolean) (cw_X3_readIf :: gw) RX3 := ⟨hx, hb, hr, hlocks, hml, hown, hts, hK⟩
  have hl := lv_entry ([.ref (adr G xl0)]) (n := 1) (Nat.le_of_ble_eq_true rfl)
  rw [lg_entry_eq]
  generalize (lg_sl ([.ref (adr G xl0)]) ++ List.replicate (1 - (lg_sl ([.ref (adr G xl0)])).length) Slot.unset).toArray = ls at hl ⊢
  have hl : lv_has ls 1 [(0, .ref (adr G xl0))] := hl
  unfold wp_X3_readIf at h
  refine lv_aload_n hx hb dX3_readIf_0 rfl (lv_at hl 0 rfl) ?_
  refine r_getr (C := RX3) (T := TX3) (N := 9) hx hb hts (fun w h => List.mem_cons_of_mem _ (iX3 w h)) hown hK hP rfl (by decide) rfl 0 (by decide) (hts _ (List.mem_cons_of_mem _ kw_307)) (fun _ h9 => h9) dX3_readIf_1 (by decide) h (fun x2 h => ?_)
  refine r_lds hx hb hK hown (k := 13) (List.mem_of_getElem? (i := 17) rfl) dX3_readIf_4 (n := (-16)) (by decide) h (fun x4 h => ?_)
  refine q_Vi hx hb hml hown hts hK hP hS (c_X7_takesWord l D G S _ x2 x4 _ h.2) ⟨callB_of 1 hts (gw_good kw_597) rfl rfl rfl (hts _ (List.mem_cons_of_mem _ kw_2)) (hts _ (List.mem_cons_of_mem _ kw_751)) hd_X7_takesWord ⟨Nat.le_of_ble_eq_true rfl, Nat.le_of_ble_eq_true rfl⟩, (hts _ (List.mem_cons_of_mem _ kw_595)), (hts _ (List.mem_cons_of_mem _ kw_596))⟩ h.1 (ci := 7) rfl (by decide) rfl hl.1 rfl (lv_room (Nat.le_of_ble_eq_true rfl)) dX3_readIf_6 ⟨Nat.zero_le _, Nat.zero_le _⟩ (fun z7 M5 H locs h hP hS => ?_)
  refine r_if_ne (tgt := 21) hx hb dX3_readIf_9 (by decide) h (fun h => ?_) (fun h => ?_)
  · refine lv_aload_n hx hb dX3_readIf_21 rfl (lv_at hl 0 rfl) ?_
    refine r_iconst hx hb dX3_readIf_22 (by decide) h (fun z9 h => ?_)
    refine q_Vv hx hb hml hown hts hK hP hS (c_X3_unpile l D G S _ xl0 z9 _ h.2) ⟨callB_of 1 hts (gw_good kw_796) rfl rfl rfl (hts _ (List.mem_cons_of_mem _ kw_8)) (hts _ (List.mem_cons_of_mem _ kw_793)) hd_X3_unpile ⟨Nat.le_of_ble_eq_true rfl, Nat.le_of_ble_eq_true rfl⟩, (hts _ (List.mem_cons_of_mem _ kw_795)), (hts _ (List.mem_cons_of_mem _ kp_17))⟩ h.1 (ci := 3) rfl (by decide) rfl hl.1 rfl (lv_room (Nat.le_of_ble_eq_true rfl)) dX3_readIf_23 ⟨Nat.zero_le _, Nat.zero_le _⟩ (fun M10 H locs h hP hS => ?_)
    refine lv_aload_n hx hb dX3_readIf_26 rfl (lv_at hl 0 rfl) ?_
    refine q_Vi hx hb hml hown hts hK hP hS (c_X3_beginFact l D G S _ xl0 _ h.2) ⟨callB_of 0 hts (gw_good kw_834) rfl rfl rfl (hts _ (List.mem_cons_of_mem _ kw_8)) (hts _ (List.mem_cons_of_mem _ kw_831)) hd_X3_beginFact ⟨Nat.le_of_ble_eq_true rfl, Nat.le_of_ble_eq_true rfl⟩, (hts _ (List.mem_cons_of_mem _ kw_833)), (hts _ (List.mem_cons_of_mem _ kp_25))⟩ h.1 (ci := 3) rfl (by decide) rfl hl.1 rfl (lv_room (Nat.le_of_ble_eq_true rfl)) dX3_readIf_27 ⟨Nat.zero_le _, Nat.zero_le _⟩ (fun z13 M11 H locs h hP hS => ?_)
    exact r_zret hx hb hr hlocks hP hS dX3_readIf_30 h
  · refine lv_aload_n hx hb dX3_readIf_12 rfl (lv_at hl 0 rfl) ?_
    refine r_getr (C := RX3) (T := TX3) (N := 9) hx hb hts (fun w h => List.mem_cons_of_mem _ (iX3 w h)) hown hK hP rfl (by decide) rfl 0 (by decide) (hts _ (List.mem_cons_of_mem _ kw_307)) (fun _ h9 => h9) dX3_readIf_13 (by decide) h (fun x15 h => ?_)
    refine r_iconst hx hb dX3_readIf_16 (by decide) h (fun z17 h => ?_)
    refine q_Vi hx hb hml hown hts hK hP hS (c_X7_refuse l D G S _ x15 z17 _ h.2) ⟨callB_of 1 hts (gw_good kw_657) rfl rfl rfl (hts _ (List.mem_cons_of_mem _ kw_2)) (hts _ (List.mem_cons_of_mem _ kw_752)) hd_X7_refuse ⟨Nat.le_of_ble_eq_true rfl, Nat.le_of_ble_eq_true rfl⟩, (hts _ (List.mem_cons_of_mem _ kw_655)), (hts _ (List.mem_cons_of_mem _ kw_656))⟩ h.1 (ci := 7) rfl (by decide) rfl hl.1 rfl (lv_room (Nat.le_of_ble_eq_true rfl)) dX3_readIf_17 ⟨Nat.zero_le _, Nat.zero_le _⟩ (fun z20 M18 H locs h hP hS => ?_)
    exact r_zret hx hb hr hlocks hP hS dX3_readIf_20 h
/-! TurningMilk$Tape.continuesWith(C)Z -/
abbrev RM_X7_continuesWith : Room := { frames := 2, cells := 0, slots := 0, locals := 61 }
def cw_X7_continuesWith : Cond := Cond.code yX7_continuesWith cX7_continuesWith 2 (Option.some FieldType.boolean)
theorem hd_X7_continuesWith : yX7_continuesWith.cls ≠ "java/lang/invoke/MethodHandle" ∧ yX7_continuesWith.cls ≠ "java/lang/invoke/VarHandle" ∧ (parseMethodDescriptor yX7_continuesWith.desc).map (fun d => d.parameters.length) = some 1 := by decide +kernel
theorem dX7_continuesWith_0 : decode cX7_continuesWith 0 = .ok (.aload_n 0, 1) := by decide +kernel
theorem dX7_continuesWith_1 : decode cX7_continuesWith 1 = .ok (.aload_n 0, 1) := by decide +kernel
theorem dX7_continuesWith_2 : decode cX7_continuesWith 2 = .ok (.getfield 19, 3) := by decide +kernel
theorem dX7_continuesWith_5 : decode cX7_continuesWith 5 = .ok (.invokevirtual 32, 3) := by decide +kernel
theorem dX7_continuesWith_8 : decode cX7_continuesWith 8 = .ok (.iload_n 1, 1) := by decide +kernel
theorem dX7_continuesWith_9 : decode cX7_continuesWith 9 = .ok (.if_icmp .eq 5, 3) := by decide +kernel
theorem dX7_continuesWith_12 : decode cX7_continuesWith 12 = .ok (.iconst 0, 1) := by decide +kernel
theorem dX7_continuesWith_13 : decode cX7_continuesWith 13 = .ok (.ireturn, 1) := by decide +kernel
theorem dX7_continuesWith_14 : decode cX7_continuesWith 14 = .ok (.aload_n 0, 1) := by decide +kernel
theorem dX7_continuesWith_15 : decode cX7_continuesWith 15 = .ok (.dup, 1) := by decide +kernel
theorem dX7_continuesWith_16 : decode cX7_continuesWith 16 = .ok (.getfield 19, 3) := by decide +kernel
theorem dX7_continuesWith_19 : decode cX7_continuesWith 19 = .ok (.iconst 1, 1) := by decide +kernel
theorem dX7_continuesWith_20 : decode cX7_continuesWith 20 = .ok (.iadd, 1) := by decide +kernel
theorem dX7_continuesWith_21 : decode cX7_continuesWith 21 = .ok (.putfield 19, 3) := by decide +kernel
theorem dX7_continuesWith_24 : decode cX7_continuesWith 24 = .ok (.iconst 1, 1) := by decide +kernel
theorem dX7_continuesWith_25 : decode cX7_continuesWith 25 = .ok (.ireturn, 1) := by decide +kernel
def wp_X7_continuesWith (S : Sh) (M : Mm) (u0 : Int) (u1 : Int) (post : Int → Mm → Prop) : Prop := wGet S M u0 7 2 fun v1 => isK S u0 7 ∧ (wp_X7_byteAt S M u0 v1 <| fun v4 M3 => wIf (v4 = u1) (wGet S M3 u0 7 2 fun v6 => wC 1 fun v8 => wA v6 v8 fun v10 => wPut S M3 u0 7 2 v10 fun M12 => wC 1 fun v13 => (v13 = 0 ∨ v13 = 1) ∧ post v13 M12) (wC 0 fun v15 => (v15 = 0 ∨ v15 = 1) ∧ post v15 M3))
set_option maxHeartbeats 4000000 in
set_option maxRecDepth 100000 in
theorem c_X7_continuesWith (l : Launch) (D : va_G) (G : Gt) (S : Sh) (M : Mm) (xl0 : Int) (zl1 : Int32) (post : Int → Mm → Prop) (h : wp_X7_continuesWith S M xl0 zl1.toInt post) : Met l yX7_continuesWith (cw_X7_continuesWith :: gw) RM_X7_continuesWith (va_Pc [.ref (adr G xl0), .int zl1] (fun U => KN D G U ∧ Wd D G S M U.heap)) (QI D G S post) 0 0 (aG G) := by
  refine Met.ofW (cc := cX7_continuesWith) (maxL := 2) (ret := (some .boolean)) (by decide) rfl ?_
  intro p e s m args below meth c s₁ B hml hv
  obtain ⟨rfl, hK, hP⟩ := hv
  have hx := B.exec
  have hb := B.bytes
  have hr := B.returns
  have hts := atoms_spec (ws := cw_X7_continuesWith :: gw) B.pre
  have hown : s.vm.findClass RX7 = some m.cls := findClass_of_methodNamed B.named
  have hlocks := B.notSynchronized
  have hS : va_S (aG G) s.heap s.heap [] := va_S.rf
  have C : Cx p s m ([.ref (adr G xl0), .int zl1] : List Value).toArray meth c D G cX7_continuesWith 2 (some .boolean) (cw_X7_continuesWith :: gw) RX7 := ⟨hx, hb, hr, hlocks, hml, hown, hts, hK⟩
  have hl := lv_entry ([.ref (adr G xl0), .int zl1]) (n := 2) (Nat.le_of_ble_eq_true rfl)
  rw [lg_entry_eq]
  generalize (lg_sl ([.ref (adr G xl0), .int zl1]) ++ List.replicate (2 - (lg_sl ([.ref (adr G xl0), .int zl1])).length) Slot.unset).toArray = ls at hl ⊢
  have hl : lv_has ls 2 [(0, .ref (adr G xl0)), (1, .int zl1)] := hl
  unfold wp_X7_continuesWith at h
  refine lv_aload_n hx hb dX7_continuesWith_0 rfl (lv_at hl 0 rfl) ?_
  refine lv_aload_n hx hb dX7_continuesWith_1 rfl (lv_at hl 0 rfl) ?_
  refine r_geti (C := RX7) (T := TX7) (N := 5) hx hb hts (fun w h => List.mem_cons_of_mem _ (iX7 w h)) hown hK hP rfl (by decide) rfl 2 (by decide) (hts _ (List.mem_cons_of_mem _ kw_39)) (fun _ h9 => h9) dX7_continuesWith_2 (by decide) h (fun z2 h => ?_)
  refine q_Vi hx hb hml hown hts hK hP hS (c_X7_byteAt l D G S _ xl0 z2 _ h.2) ⟨callB_of 1 hts (gw_good kw_615) rfl rfl rfl (hts _ (List.mem_cons_of_mem _ kw_2)) (hts _ (List.mem_cons_of_mem _ kw_612)) hd_X7_byteAt ⟨Nat.le_of_ble_eq_true rfl, Nat.le_of_ble_eq_true rfl⟩, (hts _ (List.mem_cons_of_mem _ kw_614)), (hts _ (List.mem_cons_of_mem _ kp_2))⟩ h.1 (ci := 7) rfl (by decide) rfl hl.1 rfl (lv_room (Nat.le_of_ble_eq_true rfl)) dX7_continuesWith_5 ⟨Nat.zero_le _, Nat.zero_le _⟩ (fun z5 M3 H locs h hP hS => ?_)
  refine lv_iload_n hx hb dX7_continuesWith_8 rfl (lv_at hl 1 rfl) ?_
  refine r_icmp_eq (tgt := 14) hx hb dX7_continuesWith_9 (by decide) h (fun h => ?_) (fun h => ?_)
  · refine lv_aload_n hx hb dX7_continuesWith_14 rfl (lv_at hl 0 rfl) ?_
    refine lv_dup hx hb dX7_continuesWith_15 rfl ?_
    refine r_geti (C := RX7) (T := TX7) (N := 5) hx hb hts (fun w h => List.mem_cons_of_mem _ (iX7 w h)) hown hK hP rfl (by decide) rfl 2 (by decide) (hts _ (List.mem_cons_of_mem _ kw_39)) (fun _ h9 => h9) dX7_continuesWith_16 (by decide) h (fun z7 h => ?_)
    refine r_iconst hx hb dX7_continuesWith_19 (by decide) h (fun z9 h => ?_)
    refine r_iadd hx hb dX7_continuesWith_20 h (fun z11 h => ?_)
    refine r_puti (C := RX7) (T := TX7) (N := 5) hx hb hts (fun w h => List.mem_cons_of_mem _ (iX7 w h)) hown hK hP tyX7 tyX7_ok nmX7 hS rfl (by decide) rfl 2 (by decide) (hts _ (List.mem_cons_of_mem _ kw_39)) (fun _ h9 => h9) rfl (tyX7_ok 2 (by decide)) rfl rfl dX7_continuesWith_21 (by decide) h (fun M12 H locs h hP hS => ?_)
    refine r_iconst hx hb dX7_continuesWith_24 (by decide) h (fun z14 h => ?_)
    exact r_zret hx hb hr hlocks hP hS dX7_continuesWith_25 h
  · refine r_iconst hx hb dX7_continuesWith_12 (by decide) h (fun z16 h => ?_)
    exact r_zret hx hb hr hlocks hP hS dX7_continuesWith_13 h
/-! TurningMilk$RuleReader.takeComparison()I -/
abbrev RM_X3_takeComparison : Room := { frames := 3, cells := 0, slots := 0, locals := 82 }
def cw_X3_takeComparison : Cond := Cond.code yX3_takeComparison cX3_takeComparison 1 (Option.some FieldType.int)
theorem hd_X3_takeComparison : yX3_takeComparison.cls ≠ "java/lang/invoke/MethodHandle" ∧ yX3_takeComparison.cls ≠ "java/lang/invoke/VarHandle" ∧ (parseMethodDescriptor yX3_takeComparison.desc).map (fun d => d.parameters.length) = some 0 := by decide +kernel
theorem dX3_takeComparison_0 : decode cX3_takeComparison 0 = .ok (.aload_n 0, 1) := by decide +kernel
theorem dX3_takeComparison_1 : decode cX3_takeComparison 1 = .ok (.getfield 18, 3) := by decide +kernel
theorem dX3_takeComparison_4 : decode cX3_takeComparison 4 = .ok (.bipush 61, 2) := by decide +kernel
theorem dX3_takeComparison_6 : decode cX3_takeComparison 6 = .ok (.invokevirtual 48, 3) := by decide +kernel
theorem dX3_takeComparison_9 : decode cX3_takeComparison 9 = .ok (.ifCond .eq 6, 3) := by decide +kernel
theorem dX3_takeComparison_12 : decode cX3_takeComparison 12 = .ok (.bipush (-19), 2) := by decide +kernel
theorem dX3_takeComparison_14 : decode cX3_takeComparison 14 = .ok (.ireturn, 1) := by decide +kernel
theorem dX3_takeComparison_15 : decode cX3_takeComparison 15 = .ok (.aload_n 0, 1) := by decide +kernel
theorem dX3_takeComparison_16 : decode cX3_takeComparison 16 = .ok (.getfield 18, 3) := by decide +kernel
theorem dX3_takeComparison_19 : decode cX3_takeComparison 19 = .ok (.bipush 60, 2) := by decide +kernel
theorem dX3_takeComparison_21 : decode cX3_takeComparison 21 = .ok (.invokevirtual 48, 3) := by decide +kernel
theorem dX3_takeComparison_24 : decode cX3_takeComparison 24 = .ok (.ifCond .eq 23, 3) := by decide +kernel
theorem dX3_takeComparison_27 : decode cX3_takeComparison 27 = .ok (.aload_n 0, 1) := by decide +kernel
theorem dX3_takeComparison_28 : decode cX3_takeComparison 28 = .ok (.getfield 18, 3) := by decide +kernel
theorem dX3_takeComparison_31 : decode cX3_takeComparison 31 = .ok (.bipush 61, 2) := by decide +kernel
theorem dX3_takeComparison_33 : decode cX3_takeComparison 33 = .ok (.invokevirtual 143, 3) := by decide +kernel
theorem dX3_takeComparison_36 : decode cX3_takeComparison 36 = .ok (.ifCond .eq 8, 3) := by decide +kernel
theorem dX3_takeComparison_39 : decode cX3_takeComparison 39 = .ok (.bipush (-18), 2) := by decide +kernel
theorem dX3_takeComparison_41 : decode cX3_takeComparison 41 = .ok (.goto 5, 3) := by decide +kernel
theorem dX3_takeComparison_44 : decode cX3_takeComparison 44 = .ok (.bipush (-17), 2) := by decide +kernel
theorem dX3_takeComparison_46 : decode cX3_takeComparison 46 = .ok (.ireturn, 1) := by decide +kernel
theorem dX3_takeComparison_47 : decode cX3_takeComparison 47 = .ok (.aload_n 0, 1) := by decide +kernel
theorem dX3_takeComparison_48 : decode cX3_takeComparison 48 = .ok (.getfield 18, 3) := by decide +kernel
theorem dX3_takeComparison_51 : decode cX3_takeComparison 51 = .ok (.bipush 62, 2) := by decide +kernel
theorem dX3_takeComparison_53 : decode cX3_takeComparison 53 = .ok (.invokevirtual 48, 3) := by decide +kernel
theorem dX3_takeComparison_56 : decode cX3_takeComparison 56 = .ok (.ifCond .eq 23, 3) := by decide +kernel
theorem dX3_takeComparison_59 : decode cX3_takeComparison 59 = .ok (.aload_n 0, 1) := by decide +kernel
theorem dX3_takeComparison_60 : decode cX3_takeComparison 60 = .ok (.getfield 18, 3) := by decide +kernel
theorem dX3_takeComparison_63 : decode cX3_takeComparison 63 = .ok (.bipush 61, 2) := by decide +kernel
theorem dX3_takeComparison_65 : decode cX3_takeComparison 65 = .ok (.invokevirtual 143, 3) := by decide +kernel
theorem dX3_takeComparison_68 : decode cX3_takeComparison 68 = .ok (.ifCond .eq 8, 3) := by decide +kernel
theorem dX3_takeComparison_71 : decode cX3_takeComparison 71 = .ok (.bipush (-20), 2) := by decide +kernel
theorem dX3_takeComparison_73 : decode cX3_takeComparison 73 = .ok (.goto 5, 3) := by decide +kernel
theorem dX3_takeComparison_76 : decode cX3_takeComparison 76 = .ok (.bipush (-21), 2) := by decide +kernel
theorem dX3_takeComparison_78 : decode cX3_takeComparison 78 = .ok (.ireturn, 1) := by decide +kernel
theorem dX3_takeComparison_79 : decode cX3_takeComparison 79 = .ok (.iconst 0, 1) := by decide +kernel
theorem dX3_takeComparison_80 : decode cX3_takeComparison 80 = .ok (.ireturn, 1) := by decide +kernel
def wp_X3_takeComparison (S : Sh) (M : Mm) (u0 : Int) (post : Int → Mm → Prop) : Prop := wGetR S M u0 3 0 fun v1 => wC 61 fun v3 => isK S v1 7 ∧ (wp_X7_takesSign S M v1 v3 <| fun v6 M5 => wIf (v6 = 0) (wGetR S M5 u0 3 0 fun v8 => wC 60 fun v10 => isK S v8 7 ∧ (wp_X7_takesSign S M5 v8 v10 <| fun v13 M12 => wIf (v13 = 0) (wGetR S M12 u0 3 0 fun v15 => wC 62 fun v17 => isK S v15 7 ∧ (wp_X7_takesSign S M12 v15 v17 <| fun v20 M19 => wIf (v20 = 0) (wC 0 fun v22 => post v22 M19) (wGetR S M19 u0 3 0 fun v24 => wC 61 fun v26 => isK S v24 7 ∧ (wp_X7_continuesWith S M19 v24 v26 <| fun v29 M28 => wIf (v29 = 0) (wC (-21) fun v31 => post v31 M28) (wC (-20) fun v33 => post v33 M28))))) (wGetR S M12 u0 3 0 fun v35 => wC 61 fun v37 => isK S v35 7 ∧ (wp_X7_continuesWith S M12 v35 v37 <| fun v40 M39 => wIf (v40 = 0) (wC (-17) fun v42 => post v42 M39) (wC (-18) fun v44 => post v44 M39))))) (wC (-19) fun v46 => post v46 M5))
set_option maxHeartbeats 4000000 in
set_option maxRecDepth 100000 in
theorem c_X3_takeComparison (l : Launch) (D : va_G) (G : Gt) (S : Sh) (M : Mm) (xl0 : Int) (post : Int → Mm → Prop) (h : wp_X3_takeComparison S M xl0 post) : Met l yX3_takeComparison (cw_X3_takeComparison :: gw) RM_X3_takeComparison (va_Pc [.ref (adr G xl0)] (fun U => KN D G U ∧ Wd D G S M U.heap)) (QI D G S post) 0 0 (aG G) := by
  refine Met.ofW (cc := cX3_takeComparison) (maxL := 1) (ret := (some .int)) (by decide) rfl ?_
  intro p e s m args below meth c s₁ B hml hv
  obtain ⟨rfl, hK, hP⟩ := hv
  have hx := B.exec
  have hb := B.bytes
  have hr := B.returns
  have hts := atoms_spec (ws := cw_X3_takeComparison :: gw) B.pre
  have hown : s.vm.findClass RX3 = some m.cls := findClass_of_methodNamed B.named
  have hlocks := B.notSynchronized
  have hS : va_S (aG G) s.heap s.heap [] := va_S.rf
  have C : Cx p s m ([.ref (adr G xl0)] : List Value).toArray meth c D G cX3_takeComparison 1 (some .int) (cw_X3_takeComparison :: gw) RX3 := ⟨hx, hb, hr, hlocks, hml, hown, hts, hK⟩
  have hl := lv_entry ([.ref (adr G xl0)]) (n := 1) (Nat.le_of_ble_eq_true rfl)
  rw [lg_entry_eq]
  generalize (lg_sl ([.ref (adr G xl0)]) ++ List.replicate (1 - (lg_sl ([.ref (adr G xl0)])).length) Slot.unset).toArray = ls at hl ⊢
  have hl : lv_has ls 1 [(0, .ref (adr G xl0))] := hl
  unfold wp_X3_takeComparison at h
  refine lv_aload_n hx hb dX3_takeComparison_0 rfl (lv_at hl 0 rfl) ?_
  refine r_getr (C := RX3) (T := TX3) (N := 9) hx hb hts (fun w h => List.mem_cons_of_mem _ (iX3 w h)) hown hK hP rfl (by decide) rfl 0 (by decide) (hts _ (List.mem_cons_of_mem _ kw_307)) (fun _ h9 => h9) dX3_takeComparison_1 (by decide) h (fun x2 h => ?_)
  refine r_bipush hx hb dX3_takeComparison_4 (by decide) h (fun z4 h => ?_)
  refine q_Vi hx hb hml hown hts hK hP hS (c_X7_takesSign l D G S _ x2 z4 _ h.2) ⟨callB_of 1 hts (gw_good kw_724) rfl rfl rfl (hts _ (List.mem_cons_of_mem _ kw_2)) (hts _ (List.mem_cons_of_mem _ kw_792)) hd_X7_takesSign ⟨Nat.le_of_ble_eq_true rfl, Nat.le_of_ble_eq_true rfl⟩, (hts _ (List.mem_cons_of_mem _ kw_722)), (hts _ (List.mem_cons_of_mem _ kw_723))⟩ h.1 (ci := 7) rfl (by decide) rfl hl.1 rfl (lv_room (Nat.le_of_ble_eq_true rfl)) dX3_takeComparison_6 ⟨Nat.zero_le _, Nat.zero_le _⟩ (fun z7 M5 H locs h hP hS => ?_)
  refine r_if_eq (tgt := 15) hx hb dX3_takeComparison_9 (by decide) h (fun h => ?_) (fun h => ?_)
  · refine lv_aload_n hx hb dX3_takeComparison_15 rfl (lv_at hl 0 rfl) ?_
    refine r_getr (C := RX3) (T := TX3) (N := 9) hx hb hts (fun w h => List.mem_cons_of_mem _ (iX3 w h)) hown hK hP rfl (by decide) rfl 0 (by decide) (hts _ (List.mem_cons_of_mem _ kw_307)) (fun _ h9 => h9) dX3_takeComparison_16 (by decide) h (fun x9 h => ?_)
    refine r_bipush hx hb dX3_takeComparison_19 (by decide) h (fun z11 h => ?_)
    refine q_Vi hx hb hml hown hts hK hP hS (c_X7_takesSign l D G S _ x9 z11 _ h.2) ⟨callB_of 1 hts (gw_good kw_724) rfl rfl rfl (hts _ (List.mem_cons_of_mem _ kw_2)) (hts _ (List.mem_cons_of_mem _ kw_792)) hd_X7_takesSign ⟨Nat.le_of_ble_eq_true rfl, Nat.le_of_ble_eq_true rfl⟩, (hts _ (List.mem_cons_of_mem _ kw_722)), (hts _ (List.mem_cons_of_mem _ kw_723))⟩ h.1 (ci := 7) rfl (by decide) rfl hl.1 rfl (lv_room (Nat.le_of_ble_eq_true rfl)) dX3_takeComparison_21 ⟨Nat.zero_le _, Nat.zero_le _⟩ (fun z14 M12 H locs h hP hS => ?_)
    refine r_if_eq (tgt := 47) hx hb dX3_takeComparison_24 (by decide) h (fun h => ?_) (fun h => ?_)
    · refine lv_aload_n hx hb dX3_takeComparison_47 rfl (lv_at hl 0 rfl) ?_
      refine r_getr (C := RX3) (T := TX3) (N := 9) hx hb hts (fun w h => List.mem_cons_of_mem _ (iX3 w h)) hown hK hP rfl (by decide) rfl 0 (by decide) (hts _ (List.mem_cons_of_mem _ kw_307)) (fun _ h9 => h9) dX3_takeComparison_48 (by decide) h (fun x16 h => ?_)
      refine r_bipush hx hb dX3_takeComparison_51 (by decide) h (fun z18 h => ?_)
      refine q_Vi hx hb hml hown hts hK hP hS (c_X7_takesSign l D G S _ x16 z18 _ h.2) ⟨callB_of 1 hts (gw_good kw_724) rfl rfl rfl (hts _ (List.mem_cons_of_mem _ kw_2)) (hts _ (List.mem_cons_of_mem _ kw_792)) hd_X7_takesSign ⟨Nat.le_of_ble_eq_true rfl, Nat.le_of_ble_eq_true rfl⟩, (hts _ (List.mem_cons_of_mem _ kw_722)), (hts _ (List.mem_cons_of_mem _ kw_723))⟩ h.1 (ci := 7) rfl (by decide) rfl hl.1 rfl (lv_room (Nat.le_of_ble_eq_true rfl)) dX3_takeComparison_53 ⟨Nat.zero_le _, Nat.zero_le _⟩ (fun z21 M19 H locs h hP hS => ?_)
      refine r_if_eq (tgt := 79) hx hb dX3_takeComparison_56 (by decide) h (fun h => ?_) (fun h => ?_)
      · refine r_iconst hx hb dX3_takeComparison_79 (by decide) h (fun z23 h => ?_)
        exact r_iret hx hb hr hlocks hP hS dX3_takeComparison_80 h
      · refine lv_aload_n hx hb dX3_takeComparison_59 rfl (lv_at hl 0 rfl) ?_
        refine r_getr (C := RX3) (T := TX3) (N := 9) hx hb hts (fun w h => List.mem_cons_of_mem _ (iX3 w h)) hown hK hP rfl (by decide) rfl 0 (by decide) (hts _ (List.mem_cons_of_mem _ kw_307)) (fun _ h9 => h9) dX3_takeComparison_60 (by decide) h (fun x25 h => ?_)
        refine r_bipush hx hb dX3_takeComparison_63 (by decide) h (fun z27 h => ?_)
        refine q_Vi hx hb hml hown hts hK hP hS (c_X7_continuesWith l D G S _ x25 z27 _ h.2) ⟨callB_of 1 hts (gw_good kw_847) rfl rfl rfl (hts _ (List.mem_cons_of_mem _ kw_2)) (hts _ (List.mem_cons_of_mem _ kw_844)) hd_X7_continuesWith ⟨Nat.le_of_ble_eq_true rfl, Nat.le_of_ble_eq_true rfl⟩, (hts _ (List.mem_cons_of_mem _ kw_845)), (hts _ (List.mem_cons_of_mem _ kw_846))⟩ h.1 (ci := 7) rfl (by decide) rfl hl.1 rfl (lv_room (Nat.le_of_ble_eq_true rfl)) dX3_takeComparison_65 ⟨Nat.zero_le _, Nat.zero_le _⟩ (fun z30 M28 H locs h hP hS => ?_)
        refine r_if_eq (tgt := 76) hx hb dX3_takeComparison_68 (by decide) h (fun h => ?_) (fun h => ?_)
        · refine r_bipush hx hb dX3_takeComparison_76 (by decide) h (fun z32 h => ?_)
          exact r_iret hx hb hr hlocks hP hS dX3_takeComparison_78 h
        · refine r_bipush hx hb dX3_takeComparison_71 (by decide) h (fun z34 h => ?_)
          refine lv_goto (tgt := 78) hx hb dX3_takeComparison_73 (by decide) ?_
          exact r_iret hx hb hr hlocks hP hS dX3_takeComparison_78 h
    · refine lv_aload_n hx hb dX3_takeComparison_27 rfl (lv_at hl 0 rfl) ?_
      refine r_getr (C := RX3) (T := TX3) (N := 9) hx hb hts (fun w h => List.mem_cons_of_mem _ (iX3 w h)) hown hK hP rfl (by decide) rfl 0 (by decide) (hts _ (List.mem_cons_of_mem _ kw_307)) (fun _ h9 => h9) dX3_takeComparison_28 (by decide) h (fun x36 h => ?_)
      refine r_bipush hx hb dX3_takeComparison_31 (by decide) h (fun z38 h => ?_)
      refine q_Vi hx hb hml hown hts hK hP hS (c_X7_continuesWith l D G S _ x36 z38 _ h.2) ⟨callB_of 1 hts (gw_good kw_847) rfl rfl rfl (hts _ (List.mem_cons_of_mem _ kw_2)) (hts _ (List.mem_cons_of_mem _ kw_844)) hd_X7_continuesWith ⟨Nat.le_of_ble_eq_true rfl, Nat.le_of_ble_eq_true rfl⟩, (hts _ (List.mem_cons_of_mem _ kw_845)), (hts _ (List.mem_cons_of_mem _ kw_846))⟩ h.1 (ci := 7) rfl (by decide) rfl hl.1 rfl (lv_room (Nat.le_of_ble_eq_true rfl)) dX3_takeComparison_33 ⟨Nat.zero_le _, Nat.zero_le _⟩ (fun z41 M39 H locs h hP hS => ?_)
      refine r_if_eq (tgt := 44) hx hb dX3_takeComparison_36 (by decide) h (fun h => ?_) (fun h => ?_)
      · refine r_bipush hx hb dX3_takeComparison_44 (by decide) h (fun z43 h => ?_)
        exact r_iret hx hb hr hlocks hP hS dX3_takeComparison_46 h
      · refine r_bipush hx hb dX3_takeComparison_39 (by decide) h (fun z45 h => ?_)
        refine lv_goto (tgt := 46) hx hb dX3_takeComparison_41 (by decide) ?_
        exact r_iret hx hb hr hlocks hP hS dX3_takeComparison_46 h
  · refine r_bipush hx hb dX3_takeComparison_12 (by decide) h (fun z47 h => ?_)
    exact r_iret hx hb hr hlocks hP hS dX3_takeComparison_14 h
/-! TurningMilk$RuleReader.readComparison()Z -/
abbrev RM_X3_readComparison : Room := { frames := 4, cells := 0, slots := 0, locals := 104 }
def cw_X3_readComparison : Cond := Cond.code yX3_readComparison cX3_readComparison 2 (Option.some FieldType.boolean)
theorem hd_X3_readComparison : yX3_readComparison.cls ≠ "java/lang/invoke/MethodHandle" ∧ yX3_readComparison.cls ≠ "java/lang/invoke/VarHandle" ∧ (parseMethodDescriptor yX3_readComparison.desc).map (fun d => d.parameters.length) = some 0 := by decide +kernel
theorem dX3_readComparison_0 : decode cX3_readComparison 0 = .ok (.aload_n 0, 1) := by decide +kernel
theorem dX3_readComparison_1 : decode cX3_readComparison 1 = .ok (.invokevirtual 140, 3) := by decide +kernel
theorem dX3_readComparison_4 : decode cX3_readComparison 4 = .ok (.istore_n 1, 1) := by decide +kernel
theorem dX3_readComparison_5 : decode cX3_readComparison 5 = .ok (.iload_n 1, 1) := by decide +kernel
theorem dX3_readComparison_6 : decode cX3_readComparison 6 = .ok (.ifCond .ne 12, 3) := by decide +kernel
theorem dX3_readComparison_9 : decode cX3_readComparison 9 = .ok (.aload_n 0, 1) := by decide +kernel
theorem dX3_readComparison_10 : decode cX3_readComparison 10 = .ok (.getfield 18, 3) := by decide +kernel
theorem dX3_readComparison_13 : decode cX3_readComparison 13 = .ok (.iconst 0, 1) := by decide +kernel
theorem dX3_readComparison_14 : decode cX3_readComparison 14 = .ok (.invokevirtual 52, 3) := by decide +kernel
theorem dX3_readComparison_17 : decode cX3_readComparison 17 = .ok (.ireturn, 1) := by decide +kernel
theorem dX3_readComparison_18 : decode cX3_readComparison 18 = .ok (.aload_n 0, 1) := by decide +kernel
theorem dX3_readComparison_19 : decode cX3_readComparison 19 = .ok (.getfield 32, 3) := by decide +kernel
theorem dX3_readComparison_22 : decode cX3_readComparison 22 = .ok (.bipush 60, 2) := by decide +kernel
theorem dX3_readComparison_24 : decode cX3_readComparison 24 = .ok (.if_icmp .lt 12, 3) := by decide +kernel
theorem dX3_readComparison_27 : decode cX3_readComparison 27 = .ok (.aload_n 0, 1) := by decide +kernel
theorem dX3_readComparison_28 : decode cX3_readComparison 28 = .ok (.getfield 18, 3) := by decide +kernel
theorem dX3_readComparison_31 : decode cX3_readComparison 31 = .ok (.iconst 3, 1) := by decide +kernel
theorem dX3_readComparison_32 : decode cX3_readComparison 32 = .ok (.invokevirtual 52, 3) := by decide +kernel
theorem dX3_readComparison_35 : decode cX3_readComparison 35 = .ok (.ireturn, 1) := by decide +kernel
theorem dX3_readComparison_36 : decode cX3_readComparison 36 = .ok (.aload_n 0, 1) := by decide +kernel
theorem dX3_readComparison_37 : decode cX3_readComparison 37 = .ok (.dup, 1) := by decide +kernel
theorem dX3_readComparison_38 : decode cX3_readComparison 38 = .ok (.getfield 32, 3) := by decide +kernel
theorem dX3_readComparison_41 : decode cX3_readComparison 41 = .ok (.iconst 1, 1) := by decide +kernel
theorem dX3_readComparison_42 : decode cX3_readComparison 42 = .ok (.iadd, 1) := by decide +kernel
theorem dX3_readComparison_43 : decode cX3_readComparison 43 = .ok (.putfield 32, 3) := by decide +kernel
theorem dX3_readComparison_46 : decode cX3_readComparison 46 = .ok (.aload_n 0, 1) := by decide +kernel
theorem dX3_readComparison_47 : decode cX3_readComparison 47 = .ok (.iload_n 1, 1) := by decide +kernel
theorem dX3_readComparison_48 : decode cX3_readComparison 48 = .ok (.invokevirtual 122, 3) := by decide +kernel
theorem dX3_readComparison_51 : decode cX3_readComparison 51 = .ok (.aload_n 0, 1) := by decide +kernel
theorem dX3_readComparison_52 : decode cX3_readComparison 52 = .ok (.iconst 2, 1) := by decide +kernel
theorem dX3_readComparison_53 : decode cX3_readComparison 53 = .ok (.putfield 70, 3) := by decide +kernel
theorem dX3_readComparison_56 : decode cX3_readComparison 56 = .ok (.iconst 1, 1) := by decide +kernel
theorem dX3_readComparison_57 : decode cX3_readComparison 57 = .ok (.ireturn, 1) := by decide +kernel
def wp_X3_readComparison (S : Sh) (M : Mm) (u0 : Int) (post : Int → Mm → Prop) : Prop := isK S u0 3 ∧ (wp_X3_takeComparison S M u0 <| fun v2 M1 => wIf (¬ v2 = 0) (wGet S M1 u0 3 3 fun v4 => wC 60 fun v6 => wIf (v4 < v6) (wGet S M1 u0 3 3 fun v8 => wC 1 fun v10 => wA v8 v10 fun v12 => wPut S M1 u0 3 3 v12 fun M14 => isK S u0 3 ∧ (wp_X3_pileUp S M14 u0 v2 <| fun M15 => wC 2 fun v16 => wPut S M15 u0 3 8 v16 fun M18 => wC 1 fun v19 => (v19 = 0 ∨ v19 = 1) ∧ post v19 M18)) (wGetR S M1 u0 3 0 fun v21 => wC 3 fun v23 => isK S v21 7 ∧ (wp_X7_refuse S M1 v21 v23 <| fun v26 M25 => (v26 = 0 ∨ v26 = 1) ∧ post v26 M25))) (wGetR S M1 u0 3 0 fun v28 => wC 0 fun v30 => isK S v28 7 ∧ (wp_X7_refuse S M1 v28 v30 <| fun v33 M32 => (v33 = 0 ∨ v33 = 1) ∧ post v33 M32)))
set_option maxHeartbeats 4000000 in
set_option maxRecDepth 100000 in
theorem c_X3_readComparison (l : Launch) (D : va_G) (G : Gt) (S : Sh) (M : Mm) (xl0 : Int) (post : Int → Mm → Prop) (h : wp_X3_readComparison S M xl0 post) : Met l yX3_readComparison (cw_X3_readComparison :: gw) RM_X3_readComparison (va_Pc [.ref (adr G xl0)] (fun U => KN D G U ∧ Wd D G S M U.heap)) (QI D G S post) 0 0 (aG G) := by
  refine Met.ofW (cc := cX3_readComparison) (maxL := 2) (ret := (some .boolean)) (by decide) rfl ?_
  intro p e s m args below meth c s₁ B hml hv
  obtain ⟨rfl, hK, hP⟩ := hv
  have hx := B.exec
  have hb := B.bytes
  have hr := B.returns
  have hts := atoms_spec (ws := cw_X3_readComparison :: gw) B.pre
  have hown : s.vm.findClass RX3 = some m.cls := findClass_of_methodNamed B.named
  have hlocks := B.notSynchronized
  have hS : va_S (aG G) s.heap s.heap [] := va_S.rf
  have C : Cx p s m ([.ref (adr G xl0)] : List Value).toArray meth c D G cX3_readComparison 2 (some .boolean) (cw_X3_readComparison :: gw) RX3 := ⟨hx, hb, hr, hlocks, hml, hown, hts, hK⟩
  have hl := lv_entry ([.ref (adr G xl0)]) (n := 2) (Nat.le_of_ble_eq_true rfl)
  rw [lg_entry_eq]
  generalize (lg_sl ([.ref (adr G xl0)]) ++ List.replicate (2 - (lg_sl ([.ref (adr G xl0)])).length) Slot.unset).toArray = ls at hl ⊢
  have hl : lv_has ls 2 [(0, .ref (adr G xl0))] := hl
  unfold wp_X3_readComparison at h
  refine lv_aload_n hx hb dX3_readComparison_0 rfl (lv_at hl 0 rfl) ?_
  refine q_Vi hx hb hml hown hts hK hP hS (c_X3_takeComparison l D G S _ xl0 _ h.2) ⟨callB_of 0 hts (gw_good kw_843) rfl rfl rfl (hts _ (List.mem_cons_of_mem _ kw_8)) (hts _ (List.mem_cons_of_mem _ kw_840)) hd_X3_takeComparison ⟨Nat.le_of_ble_eq_true rfl, Nat.le_of_ble_eq_true rfl⟩, (hts _ (List.mem_cons_of_mem _ kw_842)), (hts _ (List.mem_cons_of_mem _ kp_27))⟩ h.1 (ci := 3) rfl (by decide) rfl hl.1 rfl (lv_room (Nat.le_of_ble_eq_true rfl)) dX3_readComparison_1 ⟨Nat.zero_le _, Nat.zero_le _⟩ (fun z3 M1 H locs h hP hS => ?_)
  refine lv_istore_n (lv' := [(1, .int z3), (0, .ref (adr G xl0))]) hx hb dX3_readComparison_4 rfl hl (by decide) rfl (fun ls hl => ?_)
  refine lv_iload_n hx hb dX3_readComparison_5 rfl (lv_at hl 0 rfl) ?_
  refine r_if_ne (tgt := 18) hx hb dX3_readComparison_6 (by decide) h (fun h => ?_) (fun h => ?_)
  · refine lv_aload_n hx hb dX3_readComparison_18 rfl (lv_at hl 1 rfl) ?_
    refine r_geti (C := RX3) (T := TX3) (N := 9) hx hb hts (fun w h => List.mem_cons_of_mem _ (iX3 w h)) hown hK hP rfl (by decide) rfl 3 (by decide) (hts _ (List.mem_cons_of_mem _ kw_310)) (fun _ h9 => h9) dX3_readComparison_19 (by decide) h (fun z5 h => ?_)
    refine r_bipush hx hb dX3_readComparison_22 (by decide) h (fun z7 h => ?_)
    refine r_icmp_lt (tgt := 36) hx hb dX3_readComparison_24 (by decide) h (fun h => ?_) (fun h => ?_)
    · refine lv_aload_n hx hb dX3_readComparison_36 rfl (lv_at hl 1 rfl) ?_
      refine lv_dup hx hb dX3_readComparison_37 rfl ?_
      refine r_geti (C := RX3) (T := TX3) (N := 9) hx hb hts (fun w h => List.mem_cons_of_mem _ (iX3 w h)) hown hK hP rfl (by decide) rfl 3 (by decide) (hts _ (List.mem_cons_of_mem _ kw_310)) (fun _ h9 => h9) dX3_readComparison_38 (by decide) h (fun z9 h => ?_)
      refine r_iconst hx hb dX3_readComparison_41 (by decide) h (fun z11 h => ?_)
      refine r_iadd hx hb dX3_readComparison_42 h (fun z13 h => ?_)
      refine r_puti (C := RX3) (T := TX3) (N := 9) hx hb hts (fun w h => List.mem_cons_of_mem _ (iX3 w h)) hown hK hP tyX3 tyX3_ok nmX3 hS rfl (by decide) rfl 3 (by decide) (hts _ (List.mem_cons_of_mem _ kw_310)) (fun _ h9 => h9) rfl (tyX3_ok 3 (by decide)) rfl rfl dX3_readComparison_43 (by decide) h (fun M14 H locs h hP hS => ?_)
      refine lv_aload_n hx hb dX3_readComparison_46 rfl (lv_at hl 1 rfl) ?_
      refine lv_iload_n hx hb dX3_readComparison_47 rfl (lv_at hl 0 rfl) ?_
      refine q_Vv hx hb hml hown hts hK hP hS (c_X3_pileUp l D G S _ xl0 z3 _ h.2) ⟨callB_of 1 hts (gw_good kw_821) rfl rfl rfl (hts _ (List.mem_cons_of_mem _ kw_8)) (hts _ (List.mem_cons_of_mem _ kw_818)) hd_X3_pileUp ⟨Nat.le_of_ble_eq_true rfl, Nat.le_of_ble_eq_true rfl⟩, (hts _ (List.mem_cons_of_mem _ kw_820)), (hts _ (List.mem_cons_of_mem _ kp_22))⟩ h.1 (ci := 3) rfl (by decide) rfl hl.1 rfl (lv_room (Nat.le_of_ble_eq_true rfl)) dX3_readComparison_48 ⟨Nat.zero_le _, Nat.zero_le _⟩ (fun M15 H locs h hP hS => ?_)
      refine lv_aload_n hx hb dX3_readComparison_51 rfl (lv_at hl 1 rfl) ?_
      refine r_iconst hx hb dX3_readComparison_52 (by decide) h (fun z17 h => ?_)
      refine r_puti (C := RX3) (T := TX3) (N := 9) hx hb hts (fun w h => List.mem_cons_of_mem _ (iX3 w h)) hown hK hP tyX3 tyX3_ok nmX3 hS rfl (by decide) rfl 8 (by decide) (hts _ (List.mem_cons_of_mem _ kw_315)) (fun _ h9 => h9) rfl (tyX3_ok 8 (by decide)) rfl rfl dX3_readComparison_53 (by decide) h (fun M18 H locs h hP hS => ?_)
      refine r_iconst hx hb dX3_readComparison_56 (by decide) h (fun z20 h => ?_)
      exact r_zret hx hb hr hlocks hP hS dX3_readComparison_57 h
    · refine lv_aload_n hx hb dX3_readComparison_27 rfl (lv_at hl 1 rfl) ?_
      refine r_getr (C := RX3) (T := TX3) (N := 9) hx hb hts (fun w h => List.mem_cons_of_mem _ (iX3 w h)) hown hK hP rfl (by decide) rfl 0 (by decide) (hts _ (List.mem_cons_of_mem _ kw_307)) (fun _ h9 => h9) dX3_readComparison_28 (by decide) h (fun x22 h => ?_)
      refine r_iconst hx hb dX3_readComparison_31 (by decide) h (fun z24 h => ?_)
      refine q_Vi hx hb hml hown hts hK hP hS (c_X7_refuse l D G S _ x22 z24 _ h.2) ⟨callB_of 1 hts (gw_good kw_657) rfl rfl rfl (hts _ (List.mem_cons_of_mem _ kw_2)) (hts _ (List.mem_cons_of_mem _ kw_752)) hd_X7_refuse ⟨Nat.le_of_ble_eq_true rfl, Nat.le_of_ble_eq_true rfl⟩, (hts _ (List.mem_cons_of_mem _ kw_655)), (hts _ (List.mem_cons_of_mem _ kw_656))⟩ h.1 (ci := 7) rfl (by decide) rfl hl.1 rfl (lv_room (Nat.le_of_ble_eq_true rfl)) dX3_readComparison_32 ⟨Nat.zero_le _, Nat.zero_le _⟩ (fun z27 M25 H locs h hP hS => ?_)
      exact r_zret hx hb hr hlocks hP hS dX3_readComparison_35 h
  · refine lv_aload_n hx hb dX3_readComparison_9 rfl (lv_at hl 1 rfl) ?_
    refine r_getr (C := RX3) (T := TX3) (N := 9) hx hb hts (fun w h => List.mem_cons_of_mem _ (iX3 w h)) hown hK hP rfl (by decide) rfl 0 (by decide) (hts _ (List.mem_cons_of_mem _ kw_307)) (fun _ h9 => h9) dX3_readComparison_10 (by decide) h (fun x29 h => ?_)
    refine r_iconst hx hb dX3_readComparison_13 (by decide) h (fun z31 h => ?_)
    refine q_Vi hx hb hml hown hts hK hP hS (c_X7_refuse l D G S _ x29 z31 _ h.2) ⟨callB_of 1 hts (gw_good kw_657) rfl rfl rfl (hts _ (List.mem_cons_of_mem _ kw_2)) (hts _ (List.mem_cons_of_mem _ kw_752)) hd_X7_refuse ⟨Nat.le_of_ble_eq_true rfl, Nat.le_of_ble_eq_true rfl⟩, (hts _ (List.mem_cons_of_mem _ kw_655)), (hts _ (List.mem_cons_of_mem _ kw_656))⟩ h.1 (ci := 7) rfl (by decide) rfl hl.1 rfl (lv_room (Nat.le_of_ble_eq_true rfl)) dX3_readComparison_14 ⟨Nat.zero_le _, Nat.zero_le _⟩ (fun z34 M32 H locs h hP hS => ?_)
    exact r_zret hx hb hr hlocks hP hS dX3_readComparison_17 h
/-! TurningMilk$RuleReader.readJoint()Z -/
abbrev RM_X3_readJoint : Room := { frames := 9, cells := 0, slots := 0, locals := 346 }
def cw_X3_readJoint : Cond := Cond.code yX3_readJoint cX3_readJoint 2 (Option.some FieldType.boolean)
theorem hd_X3_readJoint : yX3_readJoint.cls ≠ "java/lang/invoke/MethodHandle" ∧ yX3_readJoint.cls ≠ "java/lang/invoke/VarHandle" ∧ (parseMethodDescriptor yX3_readJoint.desc).map (fun d => d.parameters.length) = some 0 := by decide +kernel
theorem dX3_readJoint_0 : decode cX3_readJoint 0 = .ok (.aload_n 0, 1) := by decide +kernel
theorem dX3_readJoint_1 : decode cX3_readJoint 1 = .ok (.getfield 70, 3) := by decide +kernel
theorem dX3_readJoint_4 : decode cX3_readJoint 4 = .ok (.iconst 3, 1) := by decide +kernel
theorem dX3_readJoint_5 : decode cX3_readJoint 5 = .ok (.if_icmp .ne 7, 3) := by decide +kernel
theorem dX3_readJoint_8 : decode cX3_readJoint 8 = .ok (.iconst 0, 1) := by decide +kernel
theorem dX3_readJoint_9 : decode cX3_readJoint 9 = .ok (.goto 7, 3) := by decide +kernel
theorem dX3_readJoint_12 : decode cX3_readJoint 12 = .ok (.aload_n 0, 1) := by decide +kernel
theorem dX3_readJoint_13 : decode cX3_readJoint 13 = .ok (.invokevirtual 119, 3) := by decide +kernel
theorem dX3_readJoint_16 : decode cX3_readJoint 16 = .ok (.istore_n 1, 1) := by decide +kernel
theorem dX3_readJoint_17 : decode cX3_readJoint 17 = .ok (.iload_n 1, 1) := by decide +kernel
theorem dX3_readJoint_18 : decode cX3_readJoint 18 = .ok (.ifCond .eq 10, 3) := by decide +kernel
theorem dX3_readJoint_21 : decode cX3_readJoint 21 = .ok (.aload_n 0, 1) := by decide +kernel
theorem dX3_readJoint_22 : decode cX3_readJoint 22 = .ok (.iload_n 1, 1) := by decide +kernel
theorem dX3_readJoint_23 : decode cX3_readJoint 23 = .ok (.invokevirtual 122, 3) := by decide +kernel
theorem dX3_readJoint_26 : decode cX3_readJoint 26 = .ok (.iconst 1, 1) := by decide +kernel
theorem dX3_readJoint_27 : decode cX3_readJoint 27 = .ok (.ireturn, 1) := by decide +kernel
theorem dX3_readJoint_28 : decode cX3_readJoint 28 = .ok (.aload_n 0, 1) := by decide +kernel
theorem dX3_readJoint_29 : decode cX3_readJoint 29 = .ok (.getfield 70, 3) := by decide +kernel
theorem dX3_readJoint_32 : decode cX3_readJoint 32 = .ok (.ifCond .ne 8, 3) := by decide +kernel
theorem dX3_readJoint_35 : decode cX3_readJoint 35 = .ok (.aload_n 0, 1) := by decide +kernel
theorem dX3_readJoint_36 : decode cX3_readJoint 36 = .ok (.invokevirtual 125, 3) := by decide +kernel
theorem dX3_readJoint_39 : decode cX3_readJoint 39 = .ok (.ireturn, 1) := by decide +kernel
theorem dX3_readJoint_40 : decode cX3_readJoint 40 = .ok (.aload_n 0, 1) := by decide +kernel
theorem dX3_readJoint_41 : decode cX3_readJoint 41 = .ok (.getfield 70, 3) := by decide +kernel
theorem dX3_readJoint_44 : decode cX3_readJoint 44 = .ok (.iconst 1, 1) := by decide +kernel
theorem dX3_readJoint_45 : decode cX3_readJoint 45 = .ok (.if_icmp .ne 8, 3) := by decide +kernel
theorem dX3_readJoint_48 : decode cX3_readJoint 48 = .ok (.aload_n 0, 1) := by decide +kernel
theorem dX3_readJoint_49 : decode cX3_readJoint 49 = .ok (.invokevirtual 128, 3) := by decide +kernel
theorem dX3_readJoint_52 : decode cX3_readJoint 52 = .ok (.ireturn, 1) := by decide +kernel
theorem dX3_readJoint_53 : decode cX3_readJoint 53 = .ok (.aload_n 0, 1) := by decide +kernel
theorem dX3_readJoint_54 : decode cX3_readJoint 54 = .ok (.getfield 18, 3) := by decide +kernel
theorem dX3_readJoint_57 : decode cX3_readJoint 57 = .ok (.ldc 131, 2) := by decide +kernel
theorem dX3_readJoint_59 : decode cX3_readJoint 59 = .ok (.invokevirtual 57, 3) := by decide +kernel
theorem dX3_readJoint_62 : decode cX3_readJoint 62 = .ok (.ifCond .eq 8, 3) := by decide +kernel
theorem dX3_readJoint_65 : decode cX3_readJoint 65 = .ok (.bipush (-23), 2) := by decide +kernel
theorem dX3_readJoint_67 : decode cX3_readJoint 67 = .ok (.goto 21, 3) := by decide +kernel
theorem dX3_readJoint_70 : decode cX3_readJoint 70 = .ok (.aload_n 0, 1) := by decide +kernel
theorem dX3_readJoint_71 : decode cX3_readJoint 71 = .ok (.getfield 18, 3) := by decide +kernel
theorem dX3_readJoint_74 : decode cX3_readJoint 74 = .ok (.ldc 133, 2) := by decide +kernel
theorem dX3_readJoint_76 : decode cX3_readJoint 76 = .ok (.invokevirtual 57, 3) := by decide +kernel
theorem dX3_readJoint_79 : decode cX3_readJoint 79 = .ok (.ifCond .eq 8, 3) := by decide +kernel
theorem dX3_readJoint_82 : decode cX3_readJoint 82 = .ok (.bipush (-24), 2) := by decide +kernel
theorem dX3_readJoint_84 : decode cX3_readJoint 84 = .ok (.goto 4, 3) := by decide +kernel
theorem dX3_readJoint_87 : decode cX3_readJoint 87 = .ok (.iconst 0, 1) := by decide +kernel
theorem dX3_readJoint_88 : decode cX3_readJoint 88 = .ok (.istore_n 1, 1) := by decide +kernel
theorem dX3_readJoint_89 : decode cX3_readJoint 89 = .ok (.iload_n 1, 1) := by decide +kernel
theorem dX3_readJoint_90 : decode cX3_readJoint 90 = .ok (.ifCond .ne 12, 3) := by decide +kernel
theorem dX3_readJoint_93 : decode cX3_readJoint 93 = .ok (.aload_n 0, 1) := by decide +kernel
theorem dX3_readJoint_94 : decode cX3_readJoint 94 = .ok (.getfield 18, 3) := by decide +kernel
theorem dX3_readJoint_97 : decode cX3_readJoint 97 = .ok (.iconst 0, 1) := by decide +kernel
theorem dX3_readJoint_98 : decode cX3_readJoint 98 = .ok (.invokevirtual 52, 3) := by decide +kernel
theorem dX3_readJoint_101 : decode cX3_readJoint 101 = .ok (.ireturn, 1) := by decide +kernel
theorem dX3_readJoint_102 : decode cX3_readJoint 102 = .ok (.aload_n 0, 1) := by decide +kernel
theorem dX3_readJoint_103 : decode cX3_readJoint 103 = .ok (.iload_n 1, 1) := by decide +kernel
theorem dX3_readJoint_104 : decode cX3_readJoint 104 = .ok (.invokevirtual 122, 3) := by decide +kernel
theorem dX3_readJoint_107 : decode cX3_readJoint 107 = .ok (.aload_n 0, 1) := by decide +kernel
theorem dX3_readJoint_108 : decode cX3_readJoint 108 = .ok (.invokevirtual 135, 3) := by decide +kernel
theorem dX3_readJoint_111 : decode cX3_readJoint 111 = .ok (.ireturn, 1) := by decide +kernel
def wp_X3_readJoint_88 (S : Sh) (post : Int → Mm → Prop) (u0 : Int) (t0 : Int) (M : Mm) : Prop := wIf (¬ t0 = 0) (isK S u0 3 ∧ (wp_X3_pileUp S M u0 t0 <| fun M1 => isK S u0 3 ∧ (wp_X3_beginFact S M1 u0 <| fun v3 M2 => (v3 = 0 ∨ v3 = 1) ∧ post v3 M2))) (wGetR S M u0 3 0 fun v5 => wC 0 fun v7 => isK S v5 7 ∧ (wp_X7_refuse S M v5 v7 <| fun v10 M9 => (v10 = 0 ∨ v10 = 1) ∧ post v10 M9))
def wp_X3_readJoint_16 (S : Sh) (post : Int → Mm → Prop) (u0 : Int) (t0 : Int) (M : Mm) : Prop := wIf (t0 = 0) (wGet S M u0 3 8 fun v12 => wIf (¬ v12 = 0) (wGet S M u0 3 8 fun v14 => wC 1 fun v16 => wIf (¬ v14 = v16) (wGetR S M u0 3 0 fun v18 => wC (-18) fun v20 => isK S v18 7 ∧ (wp_X7_takesWord S M v18 v20 <| fun v23 M22 => wIf (v23 = 0) (wGetR S M22 u0 3 0 fun v25 => wC (-19) fun v27 => isK S v25 7 ∧ (wp_X7_takesWord S M22 v25 v27 <| fun v30 M29 => wIf (v30 = 0) (wC 0 fun v32 => wp_X3_readJoint_88 S post u0 v32 M29) (wC (-24) fun v34 => wp_X3_readJoint_88 S post u0 v34 M29))) (wC (-23) fun v36 => wp_X3_readJoint_88 S post u0 v36 M22))) (isK S u0 3 ∧ (wp_X3_readComparison S M u0 <| fun v39 M38 => (v39 = 0 ∨ v39 = 1) ∧ post v39 M38))) (isK S u0 3 ∧ (wp_X3_readIf S M u0 <| fun v42 M41 => (v42 = 0 ∨ v42 = 1) ∧ post v42 M41))) (isK S u0 3 ∧ (wp_X3_pileUp S M u0 t0 <| fun M44 => wC 1 fun v45 => (v45 = 0 ∨ v45 = 1) ∧ post v45 M44))
def wp_X3_readJoint (S : Sh) (M : Mm) (u0 : Int) (post : Int → Mm → Prop) : Prop := wGet S M u0 3 8 fun v47 => wC 3 fun v49 => wIf (¬ v47 = v49) (isK S u0 3 ∧ (wp_X3_takeArithmetic S M u0 <| fun v52 M51 => wp_X3_readJoint_16 S post u0 v52 M51)) (wC 0 fun v54 => wp_X3_readJoint_16 S post u0 v54 M)
set_option maxHeartbeats 4000000 in
set_option maxRecDepth 100000 in
theorem t_X3_readJoint_88 {p : Program} {l : Launch} {e : Env} {s : State} {m : MethodId} {args : Array Value} {below : List Frame} {meth : Method} {c : Code} {D : va_G} {G : Gt} {S : Sh} {post : Int → Mm → Prop} (C : Cx p s m args meth c D G cX3_readJoint 2 (some .boolean) (cw_X3_readJoint :: gw) RX3) : ∀ (xl0 : Int) (zs0 : Int32) (M : Mm) (H : Heap) (locs : List Loc) (ls : Array Slot), Wd D G S M H → va_S (aG G) s.heap H locs → lv_has ls 2 [(0, .ref (adr G xl0))] → wp_X3_readJoint_88 S post xl0 zs0.toInt M → W p l e RM_X3_readJoint s m args below meth c H locs 0 0 (MQ below (QI D G S post) args s 0 0 (aG G)) (F0 m 88 ls [.int zs0]) := by
  obtain ⟨hx, hb, hr, hlocks, hml, hown, hts, hK⟩ := id C
  intro xl0 zs0 M H locs ls hP hS hl h
  unfold wp_X3_readJoint_88 at h
  refine lv_istore_n (lv' := [(1, .int zs0), (0, .ref (adr G xl0))]) hx hb dX3_readJoint_88 rfl hl (by decide) rfl (fun ls hl => ?_)
  refine lv_iload_n hx hb dX3_readJoint_89 rfl (lv_at hl 0 rfl) ?_
  refine r_if_ne (tgt := 102) hx hb dX3_readJoint_90 (by decide) h (fun h => ?_) (fun h => ?_)
  · refine lv_aload_n hx hb dX3_readJoint_102 rfl (lv_at hl 1 rfl) ?_
    refine lv_iload_n hx hb dX3_readJoint_103 rfl (lv_at hl 0 rfl) ?_
    refine q_Vv hx hb hml hown hts hK hP hS (c_X3_pileUp l D G S _ xl0 zs0 _ h.2) ⟨callB_of 1 hts (gw_good kw_821) rfl rfl rfl (hts _ (List.mem_cons_of_mem _ kw_8)) (hts _ (List.mem_cons_of_mem _ kw_818)) hd_X3_pileUp ⟨Nat.le_of_ble_eq_true rfl, Nat.le_of_ble_eq_true rfl⟩, (hts _ (List.mem_cons_of_mem _ kw_820)), (hts _ (List.mem_cons_of_mem _ kp_22))⟩ h.1 (ci := 3) rfl (by decide) rfl hl.1 rfl (lv_room (Nat.le_of_ble_eq_true rfl)) dX3_readJoint_104 ⟨Nat.zero_le _, Nat.zero_le _⟩ (fun M1 H locs h hP hS => ?_)
    refine lv_aload_n hx hb dX3_readJoint_107 rfl (lv_at hl 1 rfl) ?_
    refine q_Vi hx hb hml hown hts hK hP hS (c_X3_beginFact l D G S _ xl0 _ h.2) ⟨callB_of 0 hts (gw_good kw_834) rfl rfl rfl (hts _ (List.mem_cons_of_mem _ kw_8)) (hts _ (List.mem_cons_of_mem _ kw_831)) hd_X3_beginFact ⟨Nat.le_of_ble_eq_true rfl, Nat.le_of_ble_eq_true rfl⟩, (hts _ (List.mem_cons_of_mem _ kw_833)), (hts _ (List.mem_cons_of_mem _ kp_25))⟩ h.1 (ci := 3) rfl (by decide) rfl hl.1 rfl (lv_room (Nat.le_of_ble_eq_true rfl)) dX3_readJoint_108 ⟨Nat.zero_le _, Nat.zero_le _⟩ (fun z4 M2 H locs h hP hS => ?_)
    exact r_zret hx hb hr hlocks hP hS dX3_readJoint_111 h
  · refine lv_aload_n hx hb dX3_readJoint_93 rfl (lv_at hl 1 rfl) ?_
    refine r_getr (C := RX3) (T := TX3) (N := 9) hx hb hts (fun w h => List.mem_cons_of_mem _ (iX3 w h)) hown hK hP rfl (by decide) rfl 0 (by decide) (hts _ (List.mem_cons_of_mem _ kw_307)) (fun _ h9 => h9) dX3_readJoint_94 (by decide) h (fun x6 h => ?_)
    refine r_iconst hx hb dX3_readJoint_97 (by decide) h (fun z8 h => ?_)
    refine q_Vi hx hb hml hown hts hK hP hS (c_X7_refuse l D G S _ x6 z8 _ h.2) ⟨callB_of 1 hts (gw_good kw_657) rfl rfl rfl (hts _ (List.mem_cons_of_mem _ kw_2)) (hts _ (List.mem_cons_of_mem _ kw_752)) hd_X7_refuse ⟨Nat.le_of_ble_eq_true rfl, Nat.le_of_ble_eq_true rfl⟩, (hts _ (List.mem_cons_of_mem _ kw_655)), (hts _ (List.mem_cons_of_mem _ kw_656))⟩ h.1 (ci := 7) rfl (by decide) rfl hl.1 rfl (lv_room (Nat.le_of_ble_eq_true rfl)) dX3_readJoint_98 ⟨Nat.zero_le _, Nat.zero_le _⟩ (fun z11 M9 H locs h hP hS => ?_)
    exact r_zret hx hb hr hlocks hP hS dX3_readJoint_101 h
set_option maxHeartbeats 4000000 in
set_option maxRecDepth 100000 in
theorem t_X3_readJoint_16 {p : Program} {l : Launch} {e : Env} {s : State} {m : MethodId} {args : Array Value} {below : List Frame} {meth : Method} {c : Code} {D : va_G} {G : Gt} {S : Sh} {post : Int → Mm → Prop} (C : Cx p s m args meth c D G cX3_readJoint 2 (some .boolean) (cw_X3_readJoint :: gw) RX3) : ∀ (xl0 : Int) (zs0 : Int32) (M : Mm) (H : Heap) (locs : List Loc) (ls : Array Slot), Wd D G S M H → va_S (aG G) s.heap H locs → lv_has ls 2 [(0, .ref (adr G xl0))] → wp_X3_readJoint_16 S post xl0 zs0.toInt M → W p l e RM_X3_readJoint s m args below meth c H locs 0 0 (MQ below (QI D G S post) args s 0 0 (aG G)) (F0 m 16 ls [.int zs0]) := by
  obtain ⟨hx, hb, hr, hlocks, hml, hown, hts, hK⟩ := id C
  intro xl0 zs0 M H locs ls hP hS hl h
  unfold wp_X3_readJoint_16 at h
  refine lv_istore_n (lv' := [(1, .int zs0), (0, .ref (adr G xl0))]) hx hb dX3_readJoint_16 rfl hl (by decide) rfl (fun ls hl => ?_)
  refine lv_iload_n hx hb dX3_readJoint_17 rfl (lv_at hl 0 rfl) ?_
  refine r_if_eq (tgt := 28) hx hb dX3_readJoint_18 (by decide) h (fun h => ?_) (fun h => ?_)
  · refine lv_aload_n hx hb dX3_readJoint_28 rfl (lv_at hl 1 rfl) ?_
    refine r_geti (C := RX3) (T := TX3) (N := 9) hx hb hts (fun w h => List.mem_cons_of_mem _ (iX3 w h)) hown hK hP rfl (by decide) rfl 8 (by decide) (hts _ (List.mem_cons_of_mem _ kw_315)) (fun _ h9 => h9) dX3_readJoint_29 (by decide) h (fun z13 h => ?_)
    refine r_if_ne (tgt := 40) hx hb dX3_readJoint_32 (by decide) h (fun h => ?_) (fun h => ?_)
    · refine lv_aload_n hx hb dX3_readJoint_40 rfl (lv_at hl 1 rfl) ?_
      refine r_geti (C := RX3) (T := TX3) (N := 9) hx hb hts (fun w h => List.mem_cons_of_mem _ (iX3 w h)) hown hK hP rfl (by decide) rfl 8 (by decide) (hts _ (List.mem_cons_of_mem _ kw_315)) (fun _ h9 => h9) dX3_readJoint_41 (by decide) h (fun z15 h => ?_)
      refine r_iconst hx hb dX3_readJoint_44 (by decide) h (fun z17 h => ?_)
      refine r_icmp_ne (tgt := 53) hx hb dX3_readJoint_45 (by decide) h (fun h => ?_) (fun h => ?_)
      · refine lv_aload_n hx hb dX3_readJoint_53 rfl (lv_at hl 1 rfl) ?_
        refine r_getr (C := RX3) (T := TX3) (N := 9) hx hb hts (fun w h => List.mem_cons_of_mem _ (iX3 w h)) hown hK hP rfl (by decide) rfl 0 (by decide) (hts _ (List.mem_cons_of_mem _ kw_307)) (fun _ h9 => h9) dX3_readJoint_54 (by decide) h (fun x19 h => ?_)
        refine r_lds hx hb hK hown (k := 15) (List.mem_of_getElem? (i := 19) rfl) dX3_readJoint_57 (n := (-18)) (by decide) h (fun x21 h => ?_)
        refine q_Vi hx hb hml hown hts hK hP hS (c_X7_takesWord l D G S _ x19 x21 _ h.2) ⟨callB_of 1 hts (gw_good kw_597) rfl rfl rfl (hts _ (List.mem_cons_of_mem _ kw_2)) (hts _ (List.mem_cons_of_mem _ kw_751)) hd_X7_takesWord ⟨Nat.le_of_ble_eq_true rfl, Nat.le_of_ble_eq_true rfl⟩, (hts _ (List.mem_cons_of_mem _ kw_595)), (hts _ (List.mem_cons_of_mem _ kw_596))⟩ h.1 (ci := 7) rfl (by decide) rfl hl.1 rfl (lv_room (Nat.le_of_ble_eq_true rfl)) dX3_readJoint_59 ⟨Nat.zero_le _, Nat.zero_le _⟩ (fun z24 M22 H locs h hP hS => ?_)
        refine r_if_eq (tgt := 70) hx hb dX3_readJoint_62 (by decide) h (fun h => ?_) (fun h => ?_)
        · refine lv_aload_n hx hb dX3_readJoint_70 rfl (lv_at hl 1 rfl) ?_
          refine r_getr (C := RX3) (T := TX3) (N := 9) hx hb hts (fun w h => List.mem_cons_of_mem _ (iX3 w h)) hown hK hP rfl (by decide) rfl 0 (by decide) (hts _ (List.mem_cons_of_mem _ kw_307)) (fun _ h9 => h9) dX3_readJoint_71 (by decide) h (fun x26 h => ?_)
          refine r_lds hx hb hK hown (k := 16) (List.mem_of_getElem? (i := 20) rfl) dX3_readJoint_74 (n := (-19)) (by decide) h (fun x28 h => ?_)
          refine q_Vi hx hb hml hown hts hK hP hS (c_X7_takesWord l D G S _ x26 x28 _ h.2) ⟨callB_of 1 hts (gw_good kw_597) rfl rfl rfl (hts _ (List.mem_cons_of_mem _ kw_2)) (hts _ (List.mem_cons_of_mem _ kw_751)) hd_X7_takesWord ⟨Nat.le_of_ble_eq_true rfl, Nat.le_of_ble_eq_true rfl⟩, (hts _ (List.mem_cons_of_mem _ kw_595)), (hts _ (List.mem_cons_of_mem _ kw_596))⟩ h.1 (ci := 7) rfl (by decide) rfl hl.1 rfl (lv_room (Nat.le_of_ble_eq_true rfl)) dX3_readJoint_76 ⟨Nat.zero_le _, Nat.zero_le _⟩ (fun z31 M29 H locs h hP hS => ?_)
          refine r_if_eq (tgt := 87) hx hb dX3_readJoint_79 (by decide) h (fun h => ?_) (fun h => ?_)
          · refine r_iconst hx hb dX3_readJoint_87 (by decide) h (fun z33 h => ?_)
            exact t_X3_readJoint_88 C xl0 z33 _ _ _ _ hP hS (lv_sub hl [1] rfl) h
          · refine r_bipush hx hb dX3_readJoint_82 (by decide) h (fun z35 h => ?_)
            refine lv_goto (tgt := 88) hx hb dX3_readJoint_84 (by decide) ?_
            exact t_X3_readJoint_88 C xl0 z35 _ _ _ _ hP hS (lv_sub hl [1] rfl) h
        · refine r_bipush hx hb dX3_readJoint_65 (by decide) h (fun z37 h => ?_)
          refine lv_goto (tgt := 88) hx hb dX3_readJoint_67 (by decide) ?_
          exact t_X3_readJoint_88 C xl0 z37 _ _ _ _ hP hS (lv_sub hl [1] rfl) h
      · refine lv_aload_n hx hb dX3_readJoint_48 rfl (lv_at hl 1 rfl) ?_
        refine q_Vi hx hb hml hown hts hK hP hS (c_X3_readComparison l D G S _ xl0 _ h.2) ⟨callB_of 0 hts (gw_good kw_839) rfl rfl rfl (hts _ (List.mem_cons_of_mem _ kw_8)) (hts _ (List.mem_cons_of_mem _ kw_836)) hd_X3_readComparison ⟨Nat.le_of_ble_eq_true rfl, Nat.le_of_ble_eq_true rfl⟩, (hts _ (List.mem_cons_of_mem _ kw_838)), (hts _ (List.mem_cons_of_mem _ kp_26))⟩ h.1 (ci := 3) rfl (by decide) rfl hl.1 rfl (lv_room (Nat.le_of_ble_eq_true rfl)) dX3_readJoint_49 ⟨Nat.zero_le _, Nat.zero_le _⟩ (fun z40 M38 H locs h hP hS => ?_)
        exact r_zret hx hb hr hlocks hP hS dX3_readJoint_52 h
    · refine lv_aload_n hx hb dX3_readJoint_35 rfl (lv_at hl 1 rfl) ?_
      refine q_Vi hx hb hml hown hts hK hP hS (c_X3_readIf l D G S _ xl0 _ h.2) ⟨callB_of 0 hts (gw_good kw_829) rfl rfl rfl (hts _ (List.mem_cons_of_mem _ kw_8)) (hts _ (List.mem_cons_of_mem _ kw_826)) hd_X3_readIf ⟨Nat.le_of_ble_eq_true rfl, Nat.le_of_ble_eq_true rfl⟩, (hts _ (List.mem_cons_of_mem _ kw_828)), (hts _ (List.mem_cons_of_mem _ kp_24))⟩ h.1 (ci := 3) rfl (by decide) rfl hl.1 rfl (lv_room (Nat.le_of_ble_eq_true rfl)) dX3_readJoint_36 ⟨Nat.zero_le _, Nat.zero_le _⟩ (fun z43 M41 H locs h hP hS => ?_)
      exact r_zret hx hb hr hlocks hP hS dX3_readJoint_39 h
  · refine lv_aload_n hx hb dX3_readJoint_21 rfl (lv_at hl 1 rfl) ?_
    refine lv_iload_n hx hb dX3_readJoint_22 rfl (lv_at hl 0 rfl) ?_
    refine q_Vv hx hb hml hown hts hK hP hS (c_X3_pileUp l D G S _ xl0 zs0 _ h.2) ⟨callB_of 1 hts (gw_good kw_821) rfl rfl rfl (hts _ (List.mem_cons_of_mem _ kw_8)) (hts _ (List.mem_cons_of_mem _ kw_818)) hd_X3_pileUp ⟨Nat.le_of_ble_eq_true rfl, Nat.le_of_ble_eq_true rfl⟩, (hts _ (List.mem_cons_of_mem _ kw_820)), (hts _ (List.mem_cons_of_mem _ kp_22))⟩ h.1 (ci := 3) rfl (by decide) rfl hl.1 rfl (lv_room (Nat.le_of_ble_eq_true rfl)) dX3_readJoint_23 ⟨Nat.zero_le _, Nat.zero_le _⟩ (fun M44 H locs h hP hS => ?_)
    refine r_iconst hx hb dX3_readJoint_26 (by decide) h (fun z46 h => ?_)
    exact r_zret hx hb hr hlocks hP hS dX3_readJoint_27 h
set_option maxHeartbeats 4000000 in
set_option maxRecDepth 100000 in
theorem c_X3_readJoint (l : Launch) (D : va_G) (G : Gt) (S : Sh) (M : Mm) (xl0 : Int) (post : Int → Mm → Prop) (h : wp_X3_readJoint S M xl0 post) : Met l yX3_readJoint (cw_X3_readJoint :: gw) RM_X3_readJoint (va_Pc [.ref (adr G xl0)] (fun U => KN D G U ∧ Wd D G S M U.heap)) (QI D G S post) 0 0 (aG G) := by
  refine Met.ofW (cc := cX3_readJoint) (maxL := 2) (ret := (some .boolean)) (by decide) rfl ?_
  intro p e s m args below meth c s₁ B hml hv
  obtain ⟨rfl, hK, hP⟩ := hv
  have hx := B.exec
  have hb := B.bytes
  have hr := B.returns
  have hts := atoms_spec (ws := cw_X3_readJoint :: gw) B.pre
  have hown : s.vm.findClass RX3 = some m.cls := findClass_of_methodNamed B.named
  have hlocks := B.notSynchronized
  have hS : va_S (aG G) s.heap s.heap [] := va_S.rf
  have C : Cx p s m ([.ref (adr G xl0)] : List Value).toArray meth c D G cX3_readJoint 2 (some .boolean) (cw_X3_readJoint :: gw) RX3 := ⟨hx, hb, hr, hlocks, hml, hown, hts, hK⟩
  have hl := lv_entry ([.ref (adr G xl0)]) (n := 2) (Nat.le_of_ble_eq_true rfl)
  rw [lg_entry_eq]
  generalize (lg_sl ([.ref (adr G xl0)]) ++ List.replicate (2 - (lg_sl ([.ref (adr G xl0)])).length) Slot.unset).toArray = ls at hl ⊢
  have hl : lv_has ls 2 [(0, .ref (adr G xl0))] := hl
  unfold wp_X3_readJoint at h
  refine lv_aload_n hx hb dX3_readJoint_0 rfl (lv_at hl 0 rfl) ?_
  refine r_geti (C := RX3) (T := TX3) (N := 9) hx hb hts (fun w h => List.mem_cons_of_mem _ (iX3 w h)) hown hK hP rfl (by decide) rfl 8 (by decide) (hts _ (List.mem_cons_of_mem _ kw_315)) (fun _ h9 => h9) dX3_readJoint_1 (by decide) h (fun z48 h => ?_)
  refine r_iconst hx hb dX3_readJoint_4 (by decide) h (fun z50 h => ?_)
  refine r_icmp_ne (tgt := 12) hx hb dX3_readJoint_5 (by decide) h (fun h => ?_) (fun h => ?_)
  · refine lv_aload_n hx hb dX3_readJoint_12 rfl (lv_at hl 0 rfl) ?_
    refine q_Vi hx hb hml hown hts hK hP hS (c_X3_takeArithmetic l D G S _ xl0 _ h.2) ⟨callB_of 0 hts (gw_good kw_817) rfl rfl rfl (hts _ (List.mem_cons_of_mem _ kw_8)) (hts _ (List.mem_cons_of_mem _ kw_814)) hd_X3_takeArithmetic ⟨Nat.le_of_ble_eq_true rfl, Nat.le_of_ble_eq_true rfl⟩, (hts _ (List.mem_cons_of_mem _ kw_816)), (hts _ (List.mem_cons_of_mem _ kp_21))⟩ h.1 (ci := 3) rfl (by decide) rfl hl.1 rfl (lv_room (Nat.le_of_ble_eq_true rfl)) dX3_readJoint_13 ⟨Nat.zero_le _, Nat.zero_le _⟩ (fun z53 M51 H locs h hP hS => ?_)
    exact t_X3_readJoint_16 C xl0 z53 _ _ _ _ hP hS (lv_sub hl [0] rfl) h
  · refine r_iconst hx hb dX3_readJoint_8 (by decide) h (fun z55 h => ?_)
    refine lv_goto (tgt := 16) hx hb dX3_readJoint_9 (by decide) ?_
    exact t_X3_readJoint_16 C xl0 z55 _ _ _ _ hP hS (lv_sub hl [0] rfl) h
