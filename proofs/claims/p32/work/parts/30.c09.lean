/-! TurningMilk$Told.wayHours(II)I -/
abbrev RM_X8_wayHours : Room := { frames := 2, cells := 0, slots := 0, locals := 61 }
def cw_X8_wayHours : Cond := Cond.code yX8_wayHours cX8_wayHours 3 (Option.some FieldType.int)
theorem hd_X8_wayHours : yX8_wayHours.cls ≠ "java/lang/invoke/MethodHandle" ∧ yX8_wayHours.cls ≠ "java/lang/invoke/VarHandle" ∧ (parseMethodDescriptor yX8_wayHours.desc).map (fun d => d.parameters.length) = some 2 := by decide +kernel
theorem dX8_wayHours_0 : decode cX8_wayHours 0 = .ok (.aload_n 0, 1) := by decide +kernel
theorem dX8_wayHours_1 : decode cX8_wayHours 1 = .ok (.getfield 15, 3) := by decide +kernel
theorem dX8_wayHours_4 : decode cX8_wayHours 4 = .ok (.iload_n 1, 1) := by decide +kernel
theorem dX8_wayHours_5 : decode cX8_wayHours 5 = .ok (.iload_n 2, 1) := by decide +kernel
theorem dX8_wayHours_6 : decode cX8_wayHours 6 = .ok (.invokestatic 82, 3) := by decide +kernel
theorem dX8_wayHours_9 : decode cX8_wayHours 9 = .ok (.iaload, 1) := by decide +kernel
theorem dX8_wayHours_10 : decode cX8_wayHours 10 = .ok (.ireturn, 1) := by decide +kernel
def wp_X8_wayHours (S : Sh) (M : Mm) (u0 : Int) (u1 : Int) (u2 : Int) (post : Int → Mm → Prop) : Prop := wGetR S M u0 8 9 fun v1 => wp_X8_pair S M u1 u2 <| fun v4 M3 => wLd S M3 v1 14 v4 fun v6 => post v6 M3
set_option maxHeartbeats 4000000 in
set_option maxRecDepth 100000 in
theorem c_X8_wayHours (l : Launch) (D : va_G) (G : Gt) (S : Sh) (M : Mm) (xl0 : Int) (zl1 : Int32) (zl2 : Int32) (post : Int → Mm → Prop) (h : wp_X8_wayHours S M xl0 zl1.toInt zl2.toInt post) : Met l yX8_wayHours (cw_X8_wayHours :: gw) RM_X8_wayHours (va_Pc [.ref (adr G xl0), .int zl1, .int zl2] (fun U => KN D G U ∧ Wd D G S M U.heap)) (QI D G S post) 0 0 (aG G) := by
  refine Met.ofW (cc := cX8_wayHours) (maxL := 3) (ret := (some .int)) (by decide) rfl ?_
  intro p e s m args below meth c s₁ B hml hv
  obtain ⟨rfl, hK, hP⟩ := hv
  have hx := B.exec
  have hb := B.bytes
  have hr := B.returns
  have hts := atoms_spec (ws := cw_X8_wayHours :: gw) B.pre
  have hown : s.vm.findClass RX8 = some m.cls := findClass_of_methodNamed B.named
  have hlocks := B.notSynchronized
  have hS : va_S (aG G) s.heap s.heap [] := va_S.rf
  have C : Cx p s m ([.ref (adr G xl0), .int zl1, .int zl2] : List Value).toArray meth c D G cX8_wayHours 3 (some .int) (cw_X8_wayHours :: gw) RX8 := ⟨hx, hb, hr, hlocks, hml, hown, hts, hK⟩
  have hl := lv_entry ([.ref (adr G xl0), .int zl1, .int zl2]) (n := 3) (Nat.le_of_ble_eq_true rfl)
  rw [lg_entry_eq]
  generalize (lg_sl ([.ref (adr G xl0), .int zl1, .int zl2]) ++ List.replicate (3 - (lg_sl ([.ref (adr G xl0), .int zl1, .int zl2])).length) Slot.unset).toArray = ls at hl ⊢
  have hl : lv_has ls 3 [(0, .ref (adr G xl0)), (1, .int zl1), (2, .int zl2)] := hl
  unfold wp_X8_wayHours at h
  refine lv_aload_n hx hb dX8_wayHours_0 rfl (lv_at hl 0 rfl) ?_
  refine r_getr (C := RX8) (T := TX8) (N := 19) hx hb hts (fun w h => List.mem_cons_of_mem _ (iX8 w h)) hown hK hP rfl (by decide) rfl 9 (by decide) (hts _ (List.mem_cons_of_mem _ kw_100)) (fun _ h9 => h9) dX8_wayHours_1 (by decide) h (fun x2 h => ?_)
  refine lv_iload_n hx hb dX8_wayHours_4 rfl (lv_at hl 1 rfl) ?_
  refine lv_iload_n hx hb dX8_wayHours_5 rfl (lv_at hl 2 rfl) ?_
  refine q_Si hx hb hml hown hts hK hP hS (c_X8_pair l D G S _ zl1 zl2 _ h) ⟨callB_of 2 hts (gw_good kw_688) rfl rfl rfl (hts _ (List.mem_cons_of_mem _ kw_4)) (hts _ (List.mem_cons_of_mem _ kw_686)) hd_X8_pair ⟨Nat.le_of_ble_eq_true rfl, Nat.le_of_ble_eq_true rfl⟩, (hts _ (List.mem_cons_of_mem _ kw_687))⟩ rfl hl.1 rfl (lv_room (Nat.le_of_ble_eq_true rfl)) dX8_wayHours_6 ⟨Nat.zero_le _, Nat.zero_le _⟩ (fun z5 M3 H locs h hP hS => ?_)
  refine r_iald hx hb hK hP dX8_wayHours_9 h (fun z7 h => ?_)
  exact r_iret hx hb hr hlocks hP hS dX8_wayHours_10 h
/-! TurningMilk$Told.nextPlace(II)I -/
abbrev RM_X8_nextPlace : Room := { frames := 3, cells := 0, slots := 0, locals := 83 }
def cw_X8_nextPlace : Cond := Cond.code yX8_nextPlace cX8_nextPlace 5 (Option.some FieldType.int)
theorem hd_X8_nextPlace : yX8_nextPlace.cls ≠ "java/lang/invoke/MethodHandle" ∧ yX8_nextPlace.cls ≠ "java/lang/invoke/VarHandle" ∧ (parseMethodDescriptor yX8_nextPlace.desc).map (fun d => d.parameters.length) = some 2 := by decide +kernel
theorem dX8_nextPlace_0 : decode cX8_nextPlace 0 = .ok (.iconst 0, 1) := by decide +kernel
theorem dX8_nextPlace_1 : decode cX8_nextPlace 1 = .ok (.istore_n 3, 1) := by decide +kernel
theorem dX8_nextPlace_2 : decode cX8_nextPlace 2 = .ok (.iload_n 3, 1) := by decide +kernel
theorem dX8_nextPlace_3 : decode cX8_nextPlace 3 = .ok (.aload_n 0, 1) := by decide +kernel
theorem dX8_nextPlace_4 : decode cX8_nextPlace 4 = .ok (.getfield 45, 3) := by decide +kernel
theorem dX8_nextPlace_7 : decode cX8_nextPlace 7 = .ok (.if_icmp .ge 42, 3) := by decide +kernel
theorem dX8_nextPlace_10 : decode cX8_nextPlace 10 = .ok (.aload_n 0, 1) := by decide +kernel
theorem dX8_nextPlace_11 : decode cX8_nextPlace 11 = .ok (.iload_n 1, 1) := by decide +kernel
theorem dX8_nextPlace_12 : decode cX8_nextPlace 12 = .ok (.iload_n 3, 1) := by decide +kernel
theorem dX8_nextPlace_13 : decode cX8_nextPlace 13 = .ok (.invokevirtual 86, 3) := by decide +kernel
theorem dX8_nextPlace_16 : decode cX8_nextPlace 16 = .ok (.istore 4, 2) := by decide +kernel
theorem dX8_nextPlace_18 : decode cX8_nextPlace 18 = .ok (.iload 4, 2) := by decide +kernel
theorem dX8_nextPlace_20 : decode cX8_nextPlace 20 = .ok (.ifCond .le 23, 3) := by decide +kernel
theorem dX8_nextPlace_23 : decode cX8_nextPlace 23 = .ok (.iload 4, 2) := by decide +kernel
theorem dX8_nextPlace_25 : decode cX8_nextPlace 25 = .ok (.aload_n 0, 1) := by decide +kernel
theorem dX8_nextPlace_26 : decode cX8_nextPlace 26 = .ok (.iload_n 3, 1) := by decide +kernel
theorem dX8_nextPlace_27 : decode cX8_nextPlace 27 = .ok (.iload_n 2, 1) := by decide +kernel
theorem dX8_nextPlace_28 : decode cX8_nextPlace 28 = .ok (.invokevirtual 94, 3) := by decide +kernel
theorem dX8_nextPlace_31 : decode cX8_nextPlace 31 = .ok (.iadd, 1) := by decide +kernel
theorem dX8_nextPlace_32 : decode cX8_nextPlace 32 = .ok (.aload_n 0, 1) := by decide +kernel
theorem dX8_nextPlace_33 : decode cX8_nextPlace 33 = .ok (.iload_n 1, 1) := by decide +kernel
theorem dX8_nextPlace_34 : decode cX8_nextPlace 34 = .ok (.iload_n 2, 1) := by decide +kernel
theorem dX8_nextPlace_35 : decode cX8_nextPlace 35 = .ok (.invokevirtual 94, 3) := by decide +kernel
theorem dX8_nextPlace_38 : decode cX8_nextPlace 38 = .ok (.if_icmp .ne 5, 3) := by decide +kernel
theorem dX8_nextPlace_41 : decode cX8_nextPlace 41 = .ok (.iload_n 3, 1) := by decide +kernel
theorem dX8_nextPlace_42 : decode cX8_nextPlace 42 = .ok (.ireturn, 1) := by decide +kernel
theorem dX8_nextPlace_43 : decode cX8_nextPlace 43 = .ok (.iinc 3 1, 3) := by decide +kernel
theorem dX8_nextPlace_46 : decode cX8_nextPlace 46 = .ok (.goto (-44), 3) := by decide +kernel
theorem dX8_nextPlace_49 : decode cX8_nextPlace 49 = .ok (.iconst (-1), 1) := by decide +kernel
theorem dX8_nextPlace_50 : decode cX8_nextPlace 50 = .ok (.ireturn, 1) := by decide +kernel
def wp_X8_nextPlace_43 (S : Sh) (k2 : Int → Int → Int → Int → Mm → Prop) (post : Int → Mm → Prop) (u0 : Int) (u1 : Int) (u2 : Int) (u3 : Int) (M : Mm) : Prop := wA u3 1 fun v1 => k2 u0 u1 u2 v1 M
def wp_X8_nextPlace_2 (S : Sh) (post : Int → Mm → Prop) : Nat → Int → Int → Int → Int → Mm → Prop
  | 0, _, _, _, _, _ => False
  | n + 1, u0, u1, u2, u3, M => wGet S M u0 8 0 fun v3 => wIf (v3 ≤ u3) (wC (-1) fun v5 => post v5 M) (isK S u0 8 ∧ (wp_X8_roadHours S M u0 u1 u3 <| fun v8 M7 => wIf (v8 ≤ 0) (wp_X8_nextPlace_43 S (fun a0 a1 a2 a3 M => wp_X8_nextPlace_2 S post n a0 a1 a2 a3 M) post u0 u1 u2 u3 M7) (isK S u0 8 ∧ (wp_X8_wayHours S M7 u0 u3 u2 <| fun v11 M10 => wA v8 v11 fun v13 => isK S u0 8 ∧ (wp_X8_wayHours S M10 u0 u1 u2 <| fun v16 M15 => wIf (¬ v13 = v16) (wp_X8_nextPlace_43 S (fun a0 a1 a2 a3 M => wp_X8_nextPlace_2 S post n a0 a1 a2 a3 M) post u0 u1 u2 u3 M15) (post u3 M15))))))
def wp_X8_nextPlace (S : Sh) (M : Mm) (u0 : Int) (u1 : Int) (u2 : Int) (post : Int → Mm → Prop) : Prop := wC 0 fun v18 => ∃ n9 : Nat, wp_X8_nextPlace_2 S post n9 u0 u1 u2 v18 M
set_option maxHeartbeats 4000000 in
set_option maxRecDepth 100000 in
theorem t_X8_nextPlace_43 {p : Program} {l : Launch} {e : Env} {s : State} {m : MethodId} {args : Array Value} {below : List Frame} {meth : Method} {c : Code} {D : va_G} {G : Gt} {S : Sh} {post : Int → Mm → Prop} {k2 : Int → Int → Int → Int → Mm → Prop} (C : Cx p s m args meth c D G cX8_nextPlace 5 (some .int) (cw_X8_nextPlace :: gw) RX8) (hk2 : ∀ (y0 : Int) (y1 : Int32) (y2 : Int32) (y3 : Int32) (M : Mm) (H : Heap) (locs : List Loc) (ls : Array Slot), Wd D G S M H → va_S (aG G) s.heap H locs → lv_has ls 5 [(0, .ref (adr G y0)), (1, .int y1), (2, .int y2), (3, .int y3)] → k2 y0 y1.toInt y2.toInt y3.toInt M → W p l e RM_X8_nextPlace s m args below meth c H locs 0 0 (MQ below (QI D G S post) args s 0 0 (aG G)) (F0 m 2 ls [])) : ∀ (xl0 : Int) (zl1 : Int32) (zl2 : Int32) (zl3 : Int32) (M : Mm) (H : Heap) (locs : List Loc) (ls : Array Slot), Wd D G S M H → va_S (aG G) s.heap H locs → lv_has ls 5 [(0, .ref (adr G xl0)), (1, .int zl1), (2, .int zl2), (3, .int zl3)] → wp_X8_nextPlace_43 S k2 post xl0 zl1.toInt zl2.toInt zl3.toInt  M → W p l e RM_X8_nextPlace s m args below meth c H locs 0 0 (MQ below (QI D G S post) args s 0 0 (aG G)) (F0 m 43 ls []) := by
  obtain ⟨hx, hb, hr, hlocks, hml, hown, hts, hK⟩ := id C
  intro xl0 zl1 zl2 zl3 M H locs ls hP hS hl h
  unfold wp_X8_nextPlace_43 at h
  refine r_iinc hx hb (fun z2 => [(3, .int z2), (0, .ref (adr G xl0)), (1, .int zl1), (2, .int zl2)]) dX8_nextPlace_43 (by decide) hl (k := 3) rfl (by decide) (fun _ => rfl) h (fun z2 ls hl h => ?_)
  refine lv_goto (tgt := 2) hx hb dX8_nextPlace_46 (by decide) ?_
  exact hk2 xl0 zl1 zl2 z2 _ _ _ _ hP hS (lv_sub hl [1, 2, 3, 0] rfl) h
set_option maxHeartbeats 4000000 in
set_option maxRecDepth 100000 in
theorem t_X8_nextPlace_2 {p : Program} {l : Launch} {e : Env} {s : State} {m : MethodId} {args : Array Value} {below : List Frame} {meth : Method} {c : Code} {D : va_G} {G : Gt} {S : Sh} {post : Int → Mm → Prop} (C : Cx p s m args meth c D G cX8_nextPlace 5 (some .int) (cw_X8_nextPlace :: gw) RX8) : ∀ (n : Nat) (xl0 : Int) (zl1 : Int32) (zl2 : Int32) (zl3 : Int32) (M : Mm) (H : Heap) (locs : List Loc) (ls : Array Slot), Wd D G S M H → va_S (aG G) s.heap H locs → lv_has ls 5 [(0, .ref (adr G xl0)), (1, .int zl1), (2, .int zl2), (3, .int zl3)] → wp_X8_nextPlace_2 S post n xl0 zl1.toInt zl2.toInt zl3.toInt  M → W p l e RM_X8_nextPlace s m args below meth c H locs 0 0 (MQ below (QI D G S post) args s 0 0 (aG G)) (F0 m 2 ls []) := by
  obtain ⟨hx, hb, hr, hlocks, hml, hown, hts, hK⟩ := id C
  intro n
  induction n with
  | zero => intro xl0 zl1 zl2 zl3 M H locs ls hP hS hl h; exact h.elim
  | succ n ih =>
    intro xl0 zl1 zl2 zl3 M H locs ls hP hS hl h
    unfold wp_X8_nextPlace_2 at h
    refine lv_iload_n hx hb dX8_nextPlace_2 rfl (lv_at hl 3 rfl) ?_
    refine lv_aload_n hx hb dX8_nextPlace_3 rfl (lv_at hl 0 rfl) ?_
    refine r_geti (C := RX8) (T := TX8) (N := 19) hx hb hts (fun w h => List.mem_cons_of_mem _ (iX8 w h)) hown hK hP rfl (by decide) rfl 0 (by decide) (hts _ (List.mem_cons_of_mem _ kw_67)) (fun _ h9 => h9) dX8_nextPlace_4 (by decide) h (fun z4 h => ?_)
    refine r_icmp_ge (tgt := 49) hx hb dX8_nextPlace_7 (by decide) h (fun h => ?_) (fun h => ?_)
    · refine r_iconst hx hb dX8_nextPlace_49 (by decide) h (fun z6 h => ?_)
      exact r_iret hx hb hr hlocks hP hS dX8_nextPlace_50 h
    · refine lv_aload_n hx hb dX8_nextPlace_10 rfl (lv_at hl 0 rfl) ?_
      refine lv_iload_n hx hb dX8_nextPlace_11 rfl (lv_at hl 1 rfl) ?_
      refine lv_iload_n hx hb dX8_nextPlace_12 rfl (lv_at hl 3 rfl) ?_
      refine q_Vi hx hb hml hown hts hK hP hS (c_X8_roadHours l D G S _ xl0 zl1 zl3 _ h.2) ⟨callB_of 2 hts (gw_good kw_685) rfl rfl rfl (hts _ (List.mem_cons_of_mem _ kw_4)) (hts _ (List.mem_cons_of_mem _ kw_717)) hd_X8_roadHours ⟨Nat.le_of_ble_eq_true rfl, Nat.le_of_ble_eq_true rfl⟩, (hts _ (List.mem_cons_of_mem _ kw_683)), (hts _ (List.mem_cons_of_mem _ kw_684))⟩ h.1 (ci := 8) rfl (by decide) rfl hl.1 rfl (lv_room (Nat.le_of_ble_eq_true rfl)) dX8_nextPlace_13 ⟨Nat.zero_le _, Nat.zero_le _⟩ (fun z9 M7 H locs h hP hS => ?_)
      refine lv_istore (lv' := [(4, .int z9), (0, .ref (adr G xl0)), (1, .int zl1), (2, .int zl2), (3, .int zl3)]) hx hb dX8_nextPlace_16 hl (by decide) rfl (fun ls hl => ?_)
      refine lv_iload hx hb dX8_nextPlace_18 (lv_at hl 0 rfl) ?_
      refine r_if_le (tgt := 43) hx hb dX8_nextPlace_20 (by decide) h (fun h => ?_) (fun h => ?_)
      · exact t_X8_nextPlace_43 C ih xl0 zl1 zl2 zl3 _ _ _ _ hP hS (lv_sub hl [1, 2, 3, 4] rfl) h
      · refine lv_iload hx hb dX8_nextPlace_23 (lv_at hl 0 rfl) ?_
        refine lv_aload_n hx hb dX8_nextPlace_25 rfl (lv_at hl 1 rfl) ?_
        refine lv_iload_n hx hb dX8_nextPlace_26 rfl (lv_at hl 4 rfl) ?_
        refine lv_iload_n hx hb dX8_nextPlace_27 rfl (lv_at hl 3 rfl) ?_
        refine q_Vi hx hb hml hown hts hK hP hS (c_X8_wayHours l D G S _ xl0 zl3 zl2 _ h.2) ⟨callB_of 2 hts (gw_good kw_1073) rfl rfl rfl (hts _ (List.mem_cons_of_mem _ kw_4)) (hts _ (List.mem_cons_of_mem _ kw_1078)) hd_X8_wayHours ⟨Nat.le_of_ble_eq_true rfl, Nat.le_of_ble_eq_true rfl⟩, (hts _ (List.mem_cons_of_mem _ kw_1071)), (hts _ (List.mem_cons_of_mem _ kw_1072))⟩ h.1 (ci := 8) rfl (by decide) rfl hl.1 rfl (lv_room (Nat.le_of_ble_eq_true rfl)) dX8_nextPlace_28 ⟨Nat.zero_le _, Nat.zero_le _⟩ (fun z12 M10 H locs h hP hS => ?_)
        refine r_iadd hx hb dX8_nextPlace_31 h (fun z14 h => ?_)
        refine lv_aload_n hx hb dX8_nextPlace_32 rfl (lv_at hl 1 rfl) ?_
        refine lv_iload_n hx hb dX8_nextPlace_33 rfl (lv_at hl 2 rfl) ?_
        refine lv_iload_n hx hb dX8_nextPlace_34 rfl (lv_at hl 3 rfl) ?_
        refine q_Vi hx hb hml hown hts hK hP hS (c_X8_wayHours l D G S _ xl0 zl1 zl2 _ h.2) ⟨callB_of 2 hts (gw_good kw_1073) rfl rfl rfl (hts _ (List.mem_cons_of_mem _ kw_4)) (hts _ (List.mem_cons_of_mem _ kw_1078)) hd_X8_wayHours ⟨Nat.le_of_ble_eq_true rfl, Nat.le_of_ble_eq_true rfl⟩, (hts _ (List.mem_cons_of_mem _ kw_1071)), (hts _ (List.mem_cons_of_mem _ kw_1072))⟩ h.1 (ci := 8) rfl (by decide) rfl hl.1 rfl (lv_room (Nat.le_of_ble_eq_true rfl)) dX8_nextPlace_35 ⟨Nat.zero_le _, Nat.zero_le _⟩ (fun z17 M15 H locs h hP hS => ?_)
        refine r_icmp_ne (tgt := 43) hx hb dX8_nextPlace_38 (by decide) h (fun h => ?_) (fun h => ?_)
        · exact t_X8_nextPlace_43 C ih xl0 zl1 zl2 zl3 _ _ _ _ hP hS (lv_sub hl [1, 2, 3, 4] rfl) h
        · refine lv_iload_n hx hb dX8_nextPlace_41 rfl (lv_at hl 4 rfl) ?_
          exact r_iret hx hb hr hlocks hP hS dX8_nextPlace_42 h
set_option maxHeartbeats 4000000 in
set_option maxRecDepth 100000 in
theorem c_X8_nextPlace (l : Launch) (D : va_G) (G : Gt) (S : Sh) (M : Mm) (xl0 : Int) (zl1 : Int32) (zl2 : Int32) (post : Int → Mm → Prop) (h : wp_X8_nextPlace S M xl0 zl1.toInt zl2.toInt post) : Met l yX8_nextPlace (cw_X8_nextPlace :: gw) RM_X8_nextPlace (va_Pc [.ref (adr G xl0), .int zl1, .int zl2] (fun U => KN D G U ∧ Wd D G S M U.heap)) (QI D G S post) 0 0 (aG G) := by
  refine Met.ofW (cc := cX8_nextPlace) (maxL := 5) (ret := (some .int)) (by decide) rfl ?_
  intro p e s m args below meth c s₁ B hml hv
  obtain ⟨rfl, hK, hP⟩ := hv
  have hx := B.exec
  have hb := B.bytes
  have hr := B.returns
  have hts := atoms_spec (ws := cw_X8_nextPlace :: gw) B.pre
  have hown : s.vm.findClass RX8 = some m.cls := findClass_of_methodNamed B.named
  have hlocks := B.notSynchronized
  have hS : va_S (aG G) s.heap s.heap [] := va_S.rf
  have C : Cx p s m ([.ref (adr G xl0), .int zl1, .int zl2] : List Value).toArray meth c D G cX8_nextPlace 5 (some .int) (cw_X8_nextPlace :: gw) RX8 := ⟨hx, hb, hr, hlocks, hml, hown, hts, hK⟩
  have hl := lv_entry ([.ref (adr G xl0), .int zl1, .int zl2]) (n := 5) (Nat.le_of_ble_eq_true rfl)
  rw [lg_entry_eq]
  generalize (lg_sl ([.ref (adr G xl0), .int zl1, .int zl2]) ++ List.replicate (5 - (lg_sl ([.ref (adr G xl0), .int zl1, .int zl2])).length) Slot.unset).toArray = ls at hl ⊢
  have hl : lv_has ls 5 [(0, .ref (adr G xl0)), (1, .int zl1), (2, .int zl2)] := hl
  unfold wp_X8_nextPlace at h
  refine r_iconst hx hb dX8_nextPlace_0 (by decide) h (fun z19 h => ?_)
  refine lv_istore_n (lv' := [(3, .int z19), (0, .ref (adr G xl0)), (1, .int zl1), (2, .int zl2)]) hx hb dX8_nextPlace_1 rfl hl (by decide) rfl (fun ls hl => ?_)
  obtain ⟨n9, h⟩ := h
  exact t_X8_nextPlace_2 C n9 xl0 zl1 zl2 z19 _ _ _ _ hP hS (lv_sub hl [1, 2, 3, 0] rfl) h
/-! TurningMilk.way(III)I -/
abbrev RM_X11_way : Room := { frames := 4, cells := 0, slots := 0, locals := 107 }
def cw_X11_way : Cond := Cond.code yX11_way cX11_way 4 (Option.some FieldType.int)
theorem hd_X11_way : yX11_way.cls ≠ "java/lang/invoke/MethodHandle" ∧ yX11_way.cls ≠ "java/lang/invoke/VarHandle" ∧ (parseMethodDescriptor yX11_way.desc).map (fun d => d.parameters.length) = some 3 := by decide +kernel
theorem dX11_way_0 : decode cX11_way 0 = .ok (.aload_n 0, 1) := by decide +kernel
theorem dX11_way_1 : decode cX11_way 1 = .ok (.iload_n 1, 1) := by decide +kernel
theorem dX11_way_2 : decode cX11_way 2 = .ok (.invokevirtual 275, 3) := by decide +kernel
theorem dX11_way_5 : decode cX11_way 5 = .ok (.ifCond .eq 20, 3) := by decide +kernel
theorem dX11_way_8 : decode cX11_way 8 = .ok (.aload_n 0, 1) := by decide +kernel
theorem dX11_way_9 : decode cX11_way 9 = .ok (.iload_n 2, 1) := by decide +kernel
theorem dX11_way_10 : decode cX11_way 10 = .ok (.invokevirtual 275, 3) := by decide +kernel
theorem dX11_way_13 : decode cX11_way 13 = .ok (.ifCond .eq 12, 3) := by decide +kernel
theorem dX11_way_16 : decode cX11_way 16 = .ok (.iload_n 3, 1) := by decide +kernel
theorem dX11_way_17 : decode cX11_way 17 = .ok (.ifCond .lt 8, 3) := by decide +kernel
theorem dX11_way_20 : decode cX11_way 20 = .ok (.iload_n 3, 1) := by decide +kernel
theorem dX11_way_21 : decode cX11_way 21 = .ok (.iconst 1, 1) := by decide +kernel
theorem dX11_way_22 : decode cX11_way 22 = .ok (.if_icmp .le 6, 3) := by decide +kernel
theorem dX11_way_25 : decode cX11_way 25 = .ok (.bipush (-3), 2) := by decide +kernel
theorem dX11_way_27 : decode cX11_way 27 = .ok (.ireturn, 1) := by decide +kernel
theorem dX11_way_28 : decode cX11_way 28 = .ok (.aload_n 0, 1) := by decide +kernel
theorem dX11_way_29 : decode cX11_way 29 = .ok (.getfield 19, 3) := by decide +kernel
theorem dX11_way_32 : decode cX11_way 32 = .ok (.getfield 57, 3) := by decide +kernel
theorem dX11_way_35 : decode cX11_way 35 = .ok (.iload_n 1, 1) := by decide +kernel
theorem dX11_way_36 : decode cX11_way 36 = .ok (.iload_n 2, 1) := by decide +kernel
theorem dX11_way_37 : decode cX11_way 37 = .ok (.invokevirtual 293, 3) := by decide +kernel
theorem dX11_way_40 : decode cX11_way 40 = .ok (.ifCond .ne 6, 3) := by decide +kernel
theorem dX11_way_43 : decode cX11_way 43 = .ok (.bipush (-2), 2) := by decide +kernel
theorem dX11_way_45 : decode cX11_way 45 = .ok (.ireturn, 1) := by decide +kernel
theorem dX11_way_46 : decode cX11_way 46 = .ok (.iload_n 3, 1) := by decide +kernel
theorem dX11_way_47 : decode cX11_way 47 = .ok (.ifCond .ne 18, 3) := by decide +kernel
theorem dX11_way_50 : decode cX11_way 50 = .ok (.aload_n 0, 1) := by decide +kernel
theorem dX11_way_51 : decode cX11_way 51 = .ok (.getfield 19, 3) := by decide +kernel
theorem dX11_way_54 : decode cX11_way 54 = .ok (.getfield 57, 3) := by decide +kernel
theorem dX11_way_57 : decode cX11_way 57 = .ok (.iload_n 1, 1) := by decide +kernel
theorem dX11_way_58 : decode cX11_way 58 = .ok (.iload_n 2, 1) := by decide +kernel
theorem dX11_way_59 : decode cX11_way 59 = .ok (.invokevirtual 296, 3) := by decide +kernel
theorem dX11_way_62 : decode cX11_way 62 = .ok (.goto 15, 3) := by decide +kernel
theorem dX11_way_65 : decode cX11_way 65 = .ok (.aload_n 0, 1) := by decide +kernel
theorem dX11_way_66 : decode cX11_way 66 = .ok (.getfield 19, 3) := by decide +kernel
theorem dX11_way_69 : decode cX11_way 69 = .ok (.getfield 57, 3) := by decide +kernel
theorem dX11_way_72 : decode cX11_way 72 = .ok (.iload_n 1, 1) := by decide +kernel
theorem dX11_way_73 : decode cX11_way 73 = .ok (.iload_n 2, 1) := by decide +kernel
theorem dX11_way_74 : decode cX11_way 74 = .ok (.invokevirtual 299, 3) := by decide +kernel
theorem dX11_way_77 : decode cX11_way 77 = .ok (.ireturn, 1) := by decide +kernel
def wp_X11_way (S : Sh) (M : Mm) (u0 : Int) (u1 : Int) (u2 : Int) (u3 : Int) (post : Int → Mm → Prop) : Prop := isK S u0 11 ∧ (wp_X11_isPlace S M u0 u1 <| fun v2 M1 => wIf (v2 = 0) (wC (-3) fun v4 => post v4 M1) (isK S u0 11 ∧ (wp_X11_isPlace S M1 u0 u2 <| fun v7 M6 => wIf (v7 = 0) (wC (-3) fun v9 => post v9 M6) (wIf (u3 < 0) (wC (-3) fun v11 => post v11 M6) (wC 1 fun v13 => wIf (u3 ≤ v13) (wGetR S M6 u0 11 1 fun v15 => wGetR S M6 v15 4 0 fun v17 => isK S v17 8 ∧ (wp_X8_hasWay S M6 v17 u1 u2 <| fun v20 M19 => wIf (¬ v20 = 0) (wIf (¬ u3 = 0) (wGetR S M19 u0 11 1 fun v22 => wGetR S M19 v22 4 0 fun v24 => isK S v24 8 ∧ (wp_X8_nextPlace S M19 v24 u1 u2 <| fun v27 M26 => post v27 M26)) (wGetR S M19 u0 11 1 fun v29 => wGetR S M19 v29 4 0 fun v31 => isK S v31 8 ∧ (wp_X8_wayHours S M19 v31 u1 u2 <| fun v34 M33 => post v34 M33))) (wC (-2) fun v36 => post v36 M19))) (wC (-3) fun v38 => post v38 M6))))))
set_option maxHeartbeats 4000000 in
set_option maxRecDepth 100000 in
theorem c_X11_way (l : Launch) (D : va_G) (G : Gt) (S : Sh) (M : Mm) (xl0 : Int) (zl1 : Int32) (zl2 : Int32) (zl3 : Int32) (post : Int → Mm → Prop) (h : wp_X11_way S M xl0 zl1.toInt zl2.toInt zl3.toInt post) : Met l yX11_way (cw_X11_way :: gw) RM_X11_way (va_Pc [.ref (adr G xl0), .int zl1, .int zl2, .int zl3] (fun U => KN D G U ∧ Wd D G S M U.heap)) (QI D G S post) 0 0 (aG G) := by
  refine Met.ofW (cc := cX11_way) (maxL := 4) (ret := (some .int)) (by decide) rfl ?_
  intro p e s m args below meth c s₁ B hml hv
  obtain ⟨rfl, hK, hP⟩ := hv
  have hx := B.exec
  have hb := B.bytes
  have hr := B.returns
  have hts := atoms_spec (ws := cw_X11_way :: gw) B.pre
  have hown : s.vm.findClass RX11 = some m.cls := findClass_of_methodNamed B.named
  have hlocks := B.notSynchronized
  have hS : va_S (aG G) s.heap s.heap [] := va_S.rf
  have C : Cx p s m ([.ref (adr G xl0), .int zl1, .int zl2, .int zl3] : List Value).toArray meth c D G cX11_way 4 (some .int) (cw_X11_way :: gw) RX11 := ⟨hx, hb, hr, hlocks, hml, hown, hts, hK⟩
  have hl := lv_entry ([.ref (adr G xl0), .int zl1, .int zl2, .int zl3]) (n := 4) (Nat.le_of_ble_eq_true rfl)
  rw [lg_entry_eq]
  generalize (lg_sl ([.ref (adr G xl0), .int zl1, .int zl2, .int zl3]) ++ List.replicate (4 - (lg_sl ([.ref (adr G xl0), .int zl1, .int zl2, .int zl3])).length) Slot.unset).toArray = ls at hl ⊢
  have hl : lv_has ls 4 [(0, .ref (adr G xl0)), (1, .int zl1), (2, .int zl2), (3, .int zl3)] := hl
  unfold wp_X11_way at h
  refine lv_aload_n hx hb dX11_way_0 rfl (lv_at hl 0 rfl) ?_
  refine lv_iload_n hx hb dX11_way_1 rfl (lv_at hl 1 rfl) ?_
  refine q_Vi hx hb hml hown hts hK hP hS (c_X11_isPlace l D G S _ xl0 zl1 _ h.2) ⟨callB_of 1 hts (gw_good kw_1035) rfl rfl rfl (hts _ (List.mem_cons_of_mem _ kw_1)) (hts _ (List.mem_cons_of_mem _ kw_1032)) hd_X11_isPlace ⟨Nat.le_of_ble_eq_true rfl, Nat.le_of_ble_eq_true rfl⟩, (hts _ (List.mem_cons_of_mem _ kw_1034)), (hts _ (List.mem_cons_of_mem _ kp_38))⟩ h.1 (ci := 11) rfl (by decide) rfl hl.1 rfl (lv_room (Nat.le_of_ble_eq_true rfl)) dX11_way_2 ⟨Nat.zero_le _, Nat.zero_le _⟩ (fun z3 M1 H locs h hP hS => ?_)
  refine r_if_eq (tgt := 25) hx hb dX11_way_5 (by decide) h (fun h => ?_) (fun h => ?_)
  · refine r_bipush hx hb dX11_way_25 (by decide) h (fun z5 h => ?_)
    exact r_iret hx hb hr hlocks hP hS dX11_way_27 h
  · refine lv_aload_n hx hb dX11_way_8 rfl (lv_at hl 0 rfl) ?_
    refine lv_iload_n hx hb dX11_way_9 rfl (lv_at hl 2 rfl) ?_
    refine q_Vi hx hb hml hown hts hK hP hS (c_X11_isPlace l D G S _ xl0 zl2 _ h.2) ⟨callB_of 1 hts (gw_good kw_1035) rfl rfl rfl (hts _ (List.mem_cons_of_mem _ kw_1)) (hts _ (List.mem_cons_of_mem _ kw_1032)) hd_X11_isPlace ⟨Nat.le_of_ble_eq_true rfl, Nat.le_of_ble_eq_true rfl⟩, (hts _ (List.mem_cons_of_mem _ kw_1034)), (hts _ (List.mem_cons_of_mem _ kp_38))⟩ h.1 (ci := 11) rfl (by decide) rfl hl.1 rfl (lv_room (Nat.le_of_ble_eq_true rfl)) dX11_way_10 ⟨Nat.zero_le _, Nat.zero_le _⟩ (fun z8 M6 H locs h hP hS => ?_)
    refine r_if_eq (tgt := 25) hx hb dX11_way_13 (by decide) h (fun h => ?_) (fun h => ?_)
    · refine r_bipush hx hb dX11_way_25 (by decide) h (fun z10 h => ?_)
      exact r_iret hx hb hr hlocks hP hS dX11_way_27 h
    · refine lv_iload_n hx hb dX11_way_16 rfl (lv_at hl 3 rfl) ?_
      refine r_if_lt (tgt := 25) hx hb dX11_way_17 (by decide) h (fun h => ?_) (fun h => ?_)
      · refine r_bipush hx hb dX11_way_25 (by decide) h (fun z12 h => ?_)
        exact r_iret hx hb hr hlocks hP hS dX11_way_27 h
      · refine lv_iload_n hx hb dX11_way_20 rfl (lv_at hl 3 rfl) ?_
        refine r_iconst hx hb dX11_way_21 (by decide) h (fun z14 h => ?_)
        refine r_icmp_le (tgt := 28) hx hb dX11_way_22 (by decide) h (fun h => ?_) (fun h => ?_)
        · refine lv_aload_n hx hb dX11_way_28 rfl (lv_at hl 0 rfl) ?_
          refine r_getr (C := RX11) (T := TX11) (N := 16) hx hb hts (fun w h => List.mem_cons_of_mem _ (iX11 w h)) hown hK hP rfl (by decide) rfl 1 (by decide) (hts _ (List.mem_cons_of_mem _ kw_492)) (fun _ h9 => h9) dX11_way_29 (by decide) h (fun x16 h => ?_)
          refine r_getrN (C := RX4) (T := TX4) (N := 10) hx hb hts (fun w h => List.mem_cons_of_mem _ (iX4 w h)) hown hK hP rfl (by decide) rfl 0 (by decide) (nw_70 hK) (fun _ h9 => h9) dX11_way_32 (by decide) h (fun x18 h => ?_)
          refine lv_iload_n hx hb dX11_way_35 rfl (lv_at hl 1 rfl) ?_
          refine lv_iload_n hx hb dX11_way_36 rfl (lv_at hl 2 rfl) ?_
          refine q_Vi hx hb hml hown hts hK hP hS (c_X8_hasWay l D G S _ x18 zl1 zl2 _ h.2) ⟨callB_of 2 hts (gw_good kw_1069) rfl rfl rfl (hts _ (List.mem_cons_of_mem _ kw_4)) (hts _ (List.mem_cons_of_mem _ kw_1066)) hd_X8_hasWay ⟨Nat.le_of_ble_eq_true rfl, Nat.le_of_ble_eq_true rfl⟩, (hts _ (List.mem_cons_of_mem _ kw_1067)), (hts _ (List.mem_cons_of_mem _ kw_1068))⟩ h.1 (ci := 8) rfl (by decide) rfl hl.1 rfl (lv_room (Nat.le_of_ble_eq_true rfl)) dX11_way_37 ⟨Nat.zero_le _, Nat.zero_le _⟩ (fun z21 M19 H locs h hP hS => ?_)
          refine r_if_ne (tgt := 46) hx hb dX11_way_40 (by decide) h (fun h => ?_) (fun h => ?_)
          · refine lv_iload_n hx hb dX11_way_46 rfl (lv_at hl 3 rfl) ?_
            refine r_if_ne (tgt := 65) hx hb dX11_way_47 (by decide) h (fun h => ?_) (fun h => ?_)
            · refine lv_aload_n hx hb dX11_way_65 rfl (lv_at hl 0 rfl) ?_
              refine r_getr (C := RX11) (T := TX11) (N := 16) hx hb hts (fun w h => List.mem_cons_of_mem _ (iX11 w h)) hown hK hP rfl (by decide) rfl 1 (by decide) (hts _ (List.mem_cons_of_mem _ kw_492)) (fun _ h9 => h9) dX11_way_66 (by decide) h (fun x23 h => ?_)
              refine r_getrN (C := RX4) (T := TX4) (N := 10) hx hb hts (fun w h => List.mem_cons_of_mem _ (iX4 w h)) hown hK hP rfl (by decide) rfl 0 (by decide) (nw_70 hK) (fun _ h9 => h9) dX11_way_69 (by decide) h (fun x25 h => ?_)
              refine lv_iload_n hx hb dX11_way_72 rfl (lv_at hl 1 rfl) ?_
              refine lv_iload_n hx hb dX11_way_73 rfl (lv_at hl 2 rfl) ?_
              refine q_Vi hx hb hml hown hts hK hP hS (c_X8_nextPlace l D G S _ x25 zl1 zl2 _ h.2) ⟨callB_of 2 hts (gw_good kw_1077) rfl rfl rfl (hts _ (List.mem_cons_of_mem _ kw_4)) (hts _ (List.mem_cons_of_mem _ kw_1074)) hd_X8_nextPlace ⟨Nat.le_of_ble_eq_true rfl, Nat.le_of_ble_eq_true rfl⟩, (hts _ (List.mem_cons_of_mem _ kw_1075)), (hts _ (List.mem_cons_of_mem _ kw_1076))⟩ h.1 (ci := 8) rfl (by decide) rfl hl.1 rfl (lv_room (Nat.le_of_ble_eq_true rfl)) dX11_way_74 ⟨Nat.zero_le _, Nat.zero_le _⟩ (fun z28 M26 H locs h hP hS => ?_)
              exact r_iret hx hb hr hlocks hP hS dX11_way_77 h
            · refine lv_aload_n hx hb dX11_way_50 rfl (lv_at hl 0 rfl) ?_
              refine r_getr (C := RX11) (T := TX11) (N := 16) hx hb hts (fun w h => List.mem_cons_of_mem _ (iX11 w h)) hown hK hP rfl (by decide) rfl 1 (by decide) (hts _ (List.mem_cons_of_mem _ kw_492)) (fun _ h9 => h9) dX11_way_51 (by decide) h (fun x30 h => ?_)
              refine r_getrN (C := RX4) (T := TX4) (N := 10) hx hb hts (fun w h => List.mem_cons_of_mem _ (iX4 w h)) hown hK hP rfl (by decide) rfl 0 (by decide) (nw_70 hK) (fun _ h9 => h9) dX11_way_54 (by decide) h (fun x32 h => ?_)
              refine lv_iload_n hx hb dX11_way_57 rfl (lv_at hl 1 rfl) ?_
              refine lv_iload_n hx hb dX11_way_58 rfl (lv_at hl 2 rfl) ?_
              refine q_Vi hx hb hml hown hts hK hP hS (c_X8_wayHours l D G S _ x32 zl1 zl2 _ h.2) ⟨callB_of 2 hts (gw_good kw_1073) rfl rfl rfl (hts _ (List.mem_cons_of_mem _ kw_4)) (hts _ (List.mem_cons_of_mem _ kw_1070)) hd_X8_wayHours ⟨Nat.le_of_ble_eq_true rfl, Nat.le_of_ble_eq_true rfl⟩, (hts _ (List.mem_cons_of_mem _ kw_1071)), (hts _ (List.mem_cons_of_mem _ kw_1072))⟩ h.1 (ci := 8) rfl (by decide) rfl hl.1 rfl (lv_room (Nat.le_of_ble_eq_true rfl)) dX11_way_59 ⟨Nat.zero_le _, Nat.zero_le _⟩ (fun z35 M33 H locs h hP hS => ?_)
              refine lv_goto (tgt := 77) hx hb dX11_way_62 (by decide) ?_
              exact r_iret hx hb hr hlocks hP hS dX11_way_77 h
          · refine r_bipush hx hb dX11_way_43 (by decide) h (fun z37 h => ?_)
            exact r_iret hx hb hr hlocks hP hS dX11_way_45 h
        · refine r_bipush hx hb dX11_way_25 (by decide) h (fun z39 h => ?_)
          exact r_iret hx hb hr hlocks hP hS dX11_way_27 h
/-! TurningMilk.isStandingJug(I)Z -/
abbrev RM_X11_isStandingJug : Room := { frames := 2, cells := 0, slots := 0, locals := 61 }
def cw_X11_isStandingJug : Cond := Cond.code yX11_isStandingJug cX11_isStandingJug 2 (Option.some FieldType.boolean)
theorem hd_X11_isStandingJug : yX11_isStandingJug.cls ≠ "java/lang/invoke/MethodHandle" ∧ yX11_isStandingJug.cls ≠ "java/lang/invoke/VarHandle" ∧ (parseMethodDescriptor yX11_isStandingJug.desc).map (fun d => d.parameters.length) = some 1 := by decide +kernel
theorem dX11_isStandingJug_0 : decode cX11_isStandingJug 0 = .ok (.aload_n 0, 1) := by decide +kernel
theorem dX11_isStandingJug_1 : decode cX11_isStandingJug 1 = .ok (.iload_n 1, 1) := by decide +kernel
theorem dX11_isStandingJug_2 : decode cX11_isStandingJug 2 = .ok (.invokevirtual 175, 3) := by decide +kernel
theorem dX11_isStandingJug_5 : decode cX11_isStandingJug 5 = .ok (.ifCond .eq 21, 3) := by decide +kernel
theorem dX11_isStandingJug_8 : decode cX11_isStandingJug 8 = .ok (.aload_n 0, 1) := by decide +kernel
theorem dX11_isStandingJug_9 : decode cX11_isStandingJug 9 = .ok (.getfield 19, 3) := by decide +kernel
theorem dX11_isStandingJug_12 : decode cX11_isStandingJug 12 = .ok (.getfield 133, 3) := by decide +kernel
theorem dX11_isStandingJug_15 : decode cX11_isStandingJug 15 = .ok (.iload_n 1, 1) := by decide +kernel
theorem dX11_isStandingJug_16 : decode cX11_isStandingJug 16 = .ok (.invokevirtual 178, 3) := by decide +kernel
theorem dX11_isStandingJug_19 : decode cX11_isStandingJug 19 = .ok (.ifCond .eq 7, 3) := by decide +kernel
theorem dX11_isStandingJug_22 : decode cX11_isStandingJug 22 = .ok (.iconst 1, 1) := by decide +kernel
theorem dX11_isStandingJug_23 : decode cX11_isStandingJug 23 = .ok (.goto 4, 3) := by decide +kernel
theorem dX11_isStandingJug_26 : decode cX11_isStandingJug 26 = .ok (.iconst 0, 1) := by decide +kernel
theorem dX11_isStandingJug_27 : decode cX11_isStandingJug 27 = .ok (.ireturn, 1) := by decide +kernel
def wp_X11_isStandingJug (S : Sh) (M : Mm) (u0 : Int) (u1 : Int) (post : Int → Mm → Prop) : Prop := isK S u0 11 ∧ (wp_X11_isJug S M u0 u1 <| fun v2 M1 => wIf (v2 = 0) (wC 0 fun v4 => (v4 = 0 ∨ v4 = 1) ∧ post v4 M1) (wGetR S M1 u0 11 1 fun v6 => wGetR S M1 v6 4 1 fun v8 => isK S v8 5 ∧ (wp_X5_stands S M1 v8 u1 <| fun v11 M10 => wIf (v11 = 0) (wC 0 fun v13 => (v13 = 0 ∨ v13 = 1) ∧ post v13 M10) (wC 1 fun v15 => (v15 = 0 ∨ v15 = 1) ∧ post v15 M10))))
set_option maxHeartbeats 4000000 in
set_option maxRecDepth 100000 in
theorem c_X11_isStandingJug (l : Launch) (D : va_G) (G : Gt) (S : Sh) (M : Mm) (xl0 : Int) (zl1 : Int32) (post : Int → Mm → Prop) (h : wp_X11_isStandingJug S M xl0 zl1.toInt post) : Met l yX11_isStandingJug (cw_X11_isStandingJug :: gw) RM_X11_isStandingJug (va_Pc [.ref (adr G xl0), .int zl1] (fun U => KN D G U ∧ Wd D G S M U.heap)) (QI D G S post) 0 0 (aG G) := by
  refine Met.ofW (cc := cX11_isStandingJug) (maxL := 2) (ret := (some .boolean)) (by decide) rfl ?_
  intro p e s m args below meth c s₁ B hml hv
  obtain ⟨rfl, hK, hP⟩ := hv
  have hx := B.exec
  have hb := B.bytes
  have hr := B.returns
  have hts := atoms_spec (ws := cw_X11_isStandingJug :: gw) B.pre
  have hown : s.vm.findClass RX11 = some m.cls := findClass_of_methodNamed B.named
  have hlocks := B.notSynchronized
  have hS : va_S (aG G) s.heap s.heap [] := va_S.rf
  have C : Cx p s m ([.ref (adr G xl0), .int zl1] : List Value).toArray meth c D G cX11_isStandingJug 2 (some .boolean) (cw_X11_isStandingJug :: gw) RX11 := ⟨hx, hb, hr, hlocks, hml, hown, hts, hK⟩
  have hl := lv_entry ([.ref (adr G xl0), .int zl1]) (n := 2) (Nat.le_of_ble_eq_true rfl)
  rw [lg_entry_eq]
  generalize (lg_sl ([.ref (adr G xl0), .int zl1]) ++ List.replicate (2 - (lg_sl ([.ref (adr G xl0), .int zl1])).length) Slot.unset).toArray = ls at hl ⊢
  have hl : lv_has ls 2 [(0, .ref (adr G xl0)), (1, .int zl1)] := hl
  unfold wp_X11_isStandingJug at h
  refine lv_aload_n hx hb dX11_isStandingJug_0 rfl (lv_at hl 0 rfl) ?_
  refine lv_iload_n hx hb dX11_isStandingJug_1 rfl (lv_at hl 1 rfl) ?_
  refine q_Vi hx hb hml hown hts hK hP hS (c_X11_isJug l D G S _ xl0 zl1 _ h.2) ⟨callB_of 1 hts (gw_good kw_893) rfl rfl rfl (hts _ (List.mem_cons_of_mem _ kw_1)) (hts _ (List.mem_cons_of_mem _ kw_890)) hd_X11_isJug ⟨Nat.le_of_ble_eq_true rfl, Nat.le_of_ble_eq_true rfl⟩, (hts _ (List.mem_cons_of_mem _ kw_892)), (hts _ (List.mem_cons_of_mem _ kp_30))⟩ h.1 (ci := 11) rfl (by decide) rfl hl.1 rfl (lv_room (Nat.le_of_ble_eq_true rfl)) dX11_isStandingJug_2 ⟨Nat.zero_le _, Nat.zero_le _⟩ (fun z3 M1 H locs h hP hS => ?_)
  refine r_if_eq (tgt := 26) hx hb dX11_isStandingJug_5 (by decide) h (fun h => ?_) (fun h => ?_)
  · refine r_iconst hx hb dX11_isStandingJug_26 (by decide) h (fun z5 h => ?_)
    exact r_zret hx hb hr hlocks hP hS dX11_isStandingJug_27 h
  · refine lv_aload_n hx hb dX11_isStandingJug_8 rfl (lv_at hl 0 rfl) ?_
    refine r_getr (C := RX11) (T := TX11) (N := 16) hx hb hts (fun w h => List.mem_cons_of_mem _ (iX11 w h)) hown hK hP rfl (by decide) rfl 1 (by decide) (hts _ (List.mem_cons_of_mem _ kw_492)) (fun _ h9 => h9) dX11_isStandingJug_9 (by decide) h (fun x7 h => ?_)
    refine r_getrN (C := RX4) (T := TX4) (N := 10) hx hb hts (fun w h => List.mem_cons_of_mem _ (iX4 w h)) hown hK hP rfl (by decide) rfl 1 (by decide) (nw_73 hK) (fun _ h9 => h9) dX11_isStandingJug_12 (by decide) h (fun x9 h => ?_)
    refine lv_iload_n hx hb dX11_isStandingJug_15 rfl (lv_at hl 1 rfl) ?_
    refine q_Vi hx hb hml hown hts hK hP hS (c_X5_stands l D G S _ x9 zl1 _ h.2) ⟨callB_of 1 hts (gw_good kw_934) rfl rfl rfl (hts _ (List.mem_cons_of_mem _ kw_5)) (hts _ (List.mem_cons_of_mem _ kw_1087)) hd_X5_stands ⟨Nat.le_of_ble_eq_true rfl, Nat.le_of_ble_eq_true rfl⟩, (hts _ (List.mem_cons_of_mem _ kw_932)), (hts _ (List.mem_cons_of_mem _ kw_933))⟩ h.1 (ci := 5) rfl (by decide) rfl hl.1 rfl (lv_room (Nat.le_of_ble_eq_true rfl)) dX11_isStandingJug_16 ⟨Nat.zero_le _, Nat.zero_le _⟩ (fun z12 M10 H locs h hP hS => ?_)
    refine r_if_eq (tgt := 26) hx hb dX11_isStandingJug_19 (by decide) h (fun h => ?_) (fun h => ?_)
    · refine r_iconst hx hb dX11_isStandingJug_26 (by decide) h (fun z14 h => ?_)
      exact r_zret hx hb hr hlocks hP hS dX11_isStandingJug_27 h
    · refine r_iconst hx hb dX11_isStandingJug_22 (by decide) h (fun z16 h => ?_)
      refine lv_goto (tgt := 27) hx hb dX11_isStandingJug_23 (by decide) ?_
      exact r_zret hx hb hr hlocks hP hS dX11_isStandingJug_27 h
/-! TurningMilk$Turning.suppose(IIII)V -/
abbrev RM_X10_suppose : Room := { frames := 1, cells := 0, slots := 0, locals := 40 }
def cw_X10_suppose : Cond := Cond.code yX10_suppose cX10_suppose 5 (Option.none : Option FieldType)
theorem hd_X10_suppose : yX10_suppose.cls ≠ "java/lang/invoke/MethodHandle" ∧ yX10_suppose.cls ≠ "java/lang/invoke/VarHandle" ∧ (parseMethodDescriptor yX10_suppose.desc).map (fun d => d.parameters.length) = some 4 := by decide +kernel
theorem dX10_suppose_0 : decode cX10_suppose 0 = .ok (.aload_n 0, 1) := by decide +kernel
theorem dX10_suppose_1 : decode cX10_suppose 1 = .ok (.iload_n 1, 1) := by decide +kernel
theorem dX10_suppose_2 : decode cX10_suppose 2 = .ok (.putfield 46, 3) := by decide +kernel
theorem dX10_suppose_5 : decode cX10_suppose 5 = .ok (.aload_n 0, 1) := by decide +kernel
theorem dX10_suppose_6 : decode cX10_suppose 6 = .ok (.iload_n 2, 1) := by decide +kernel
theorem dX10_suppose_7 : decode cX10_suppose 7 = .ok (.putfield 55, 3) := by decide +kernel
theorem dX10_suppose_10 : decode cX10_suppose 10 = .ok (.aload_n 0, 1) := by decide +kernel
theorem dX10_suppose_11 : decode cX10_suppose 11 = .ok (.iload_n 3, 1) := by decide +kernel
theorem dX10_suppose_12 : decode cX10_suppose 12 = .ok (.putfield 57, 3) := by decide +kernel
theorem dX10_suppose_15 : decode cX10_suppose 15 = .ok (.aload_n 0, 1) := by decide +kernel
theorem dX10_suppose_16 : decode cX10_suppose 16 = .ok (.iconst 0, 1) := by decide +kernel
theorem dX10_suppose_17 : decode cX10_suppose 17 = .ok (.putfield 53, 3) := by decide +kernel
theorem dX10_suppose_20 : decode cX10_suppose 20 = .ok (.aload_n 0, 1) := by decide +kernel
theorem dX10_suppose_21 : decode cX10_suppose 21 = .ok (.iload 4, 2) := by decide +kernel
theorem dX10_suppose_23 : decode cX10_suppose 23 = .ok (.putfield 61, 3) := by decide +kernel
theorem dX10_suppose_26 : decode cX10_suppose 26 = .ok (.aload_n 0, 1) := by decide +kernel
theorem dX10_suppose_27 : decode cX10_suppose 27 = .ok (.iconst 0, 1) := by decide +kernel
theorem dX10_suppose_28 : decode cX10_suppose 28 = .ok (.putfield 63, 3) := by decide +kernel
theorem dX10_suppose_31 : decode cX10_suppose 31 = .ok (.aload_n 0, 1) := by decide +kernel
theorem dX10_suppose_32 : decode cX10_suppose 32 = .ok (.iconst 1, 1) := by decide +kernel
theorem dX10_suppose_33 : decode cX10_suppose 33 = .ok (.putfield 65, 3) := by decide +kernel
theorem dX10_suppose_36 : decode cX10_suppose 36 = .ok (.return_, 1) := by decide +kernel
def wp_X10_suppose (S : Sh) (M : Mm) (u0 : Int) (u1 : Int) (u2 : Int) (u3 : Int) (u4 : Int) (post : Mm → Prop) : Prop := wPut S M u0 10 4 u1 fun M1 => wPut S M1 u0 10 5 u2 fun M2 => wPut S M2 u0 10 6 u3 fun M3 => wC 0 fun v4 => wPut S M3 u0 10 7 v4 fun M6 => wPut S M6 u0 10 8 u4 fun M7 => wC 0 fun v8 => wPut S M7 u0 10 10 v8 fun M10 => wC 1 fun v11 => wPut S M10 u0 10 11 v11 fun M13 => post M13
set_option maxHeartbeats 4000000 in
set_option maxRecDepth 100000 in
theorem c_X10_suppose (l : Launch) (D : va_G) (G : Gt) (S : Sh) (M : Mm) (xl0 : Int) (zl1 : Int32) (zl2 : Int32) (zl3 : Int32) (zl4 : Int32) (post : Mm → Prop) (h : wp_X10_suppose S M xl0 zl1.toInt zl2.toInt zl3.toInt zl4.toInt post) : Met l yX10_suppose (cw_X10_suppose :: gw) RM_X10_suppose (va_Pc [.ref (adr G xl0), .int zl1, .int zl2, .int zl3, .int zl4] (fun U => KN D G U ∧ Wd D G S M U.heap)) (QV D G S post) 0 0 (aG G) := by
  refine Met.ofW (cc := cX10_suppose) (maxL := 5) (ret := none) (by decide) rfl ?_
  intro p e s m args below meth c s₁ B hml hv
  obtain ⟨rfl, hK, hP⟩ := hv
  have hx := B.exec
  have hb := B.bytes
  have hr := B.returns
  have hts := atoms_spec (ws := cw_X10_suppose :: gw) B.pre
  have hown : s.vm.findClass RX10 = some m.cls := findClass_of_methodNamed B.named
  have hlocks := B.notSynchronized
  have hS : va_S (aG G) s.heap s.heap [] := va_S.rf
  have C : Cx p s m ([.ref (adr G xl0), .int zl1, .int zl2, .int zl3, .int zl4] : List Value).toArray meth c D G cX10_suppose 5 none (cw_X10_suppose :: gw) RX10 := ⟨hx, hb, hr, hlocks, hml, hown, hts, hK⟩
  have hl := lv_entry ([.ref (adr G xl0), .int zl1, .int zl2, .int zl3, .int zl4]) (n := 5) (Nat.le_of_ble_eq_true rfl)
  rw [lg_entry_eq]
  generalize (lg_sl ([.ref (adr G xl0), .int zl1, .int zl2, .int zl3, .int zl4]) ++ List.replicate (5 - (lg_sl ([.ref (adr G xl0), .int zl1, .int zl2, .int zl3, .int zl4])).length) Slot.unset).toArray = ls at hl ⊢
  have hl : lv_has ls 5 [(0, .ref (adr G xl0)), (1, .int zl1), (2, .int zl2), (3, .int zl3), (4, .int zl4)] := hl
  unfold wp_X10_suppose at h
  refine lv_aload_n hx hb dX10_suppose_0 rfl (lv_at hl 0 rfl) ?_
  refine lv_iload_n hx hb dX10_suppose_1 rfl (lv_at hl 1 rfl) ?_
  refine r_puti (C := RX10) (T := TX10) (N := 12) hx hb hts (fun w h => List.mem_cons_of_mem _ (iX10 w h)) hown hK hP tyX10 tyX10_ok nmX10 hS rfl (by decide) rfl 4 (by decide) (hts _ (List.mem_cons_of_mem _ kw_351)) (fun _ h9 => h9) rfl (tyX10_ok 4 (by decide)) rfl rfl dX10_suppose_2 (by decide) h (fun M1 H locs h hP hS => ?_)
  refine lv_aload_n hx hb dX10_suppose_5 rfl (lv_at hl 0 rfl) ?_
  refine lv_iload_n hx hb dX10_suppose_6 rfl (lv_at hl 2 rfl) ?_
  refine r_puti (C := RX10) (T := TX10) (N := 12) hx hb hts (fun w h => List.mem_cons_of_mem _ (iX10 w h)) hown hK hP tyX10 tyX10_ok nmX10 hS rfl (by decide) rfl 5 (by decide) (hts _ (List.mem_cons_of_mem _ kw_352)) (fun _ h9 => h9) rfl (tyX10_ok 5 (by decide)) rfl rfl dX10_suppose_7 (by decide) h (fun M2 H locs h hP hS => ?_)
  refine lv_aload_n hx hb dX10_suppose_10 rfl (lv_at hl 0 rfl) ?_
  refine lv_iload_n hx hb dX10_suppose_11 rfl (lv_at hl 3 rfl) ?_
  refine r_puti (C := RX10) (T := TX10) (N := 12) hx hb hts (fun w h => List.mem_cons_of_mem _ (iX10 w h)) hown hK hP tyX10 tyX10_ok nmX10 hS rfl (by decide) rfl 6 (by decide) (hts _ (List.mem_cons_of_mem _ kw_354)) (fun _ h9 => h9) rfl (tyX10_ok 6 (by decide)) rfl rfl dX10_suppose_12 (by decide) h (fun M3 H locs h hP hS => ?_)
  refine lv_aload_n hx hb dX10_suppose_15 rfl (lv_at hl 0 rfl) ?_
  refine r_iconst hx hb dX10_suppose_16 (by decide) h (fun z5 h => ?_)
  refine r_puti (C := RX10) (T := TX10) (N := 12) hx hb hts (fun w h => List.mem_cons_of_mem _ (iX10 w h)) hown hK hP tyX10 tyX10_ok nmX10 hS rfl (by decide) rfl 7 (by decide) (hts _ (List.mem_cons_of_mem _ kw_358)) (fun _ h9 => h9) rfl (tyX10_ok 7 (by decide)) rfl rfl dX10_suppose_17 (by decide) h (fun M6 H locs h hP hS => ?_)
  refine lv_aload_n hx hb dX10_suppose_20 rfl (lv_at hl 0 rfl) ?_
  refine lv_iload hx hb dX10_suppose_21 (lv_at hl 4 rfl) ?_
  refine r_puti (C := RX10) (T := TX10) (N := 12) hx hb hts (fun w h => List.mem_cons_of_mem _ (iX10 w h)) hown hK hP tyX10 tyX10_ok nmX10 hS rfl (by decide) rfl 8 (by decide) (hts _ (List.mem_cons_of_mem _ kw_359)) (fun _ h9 => h9) rfl (tyX10_ok 8 (by decide)) rfl rfl dX10_suppose_23 (by decide) h (fun M7 H locs h hP hS => ?_)
  refine lv_aload_n hx hb dX10_suppose_26 rfl (lv_at hl 0 rfl) ?_
  refine r_iconst hx hb dX10_suppose_27 (by decide) h (fun z9 h => ?_)
  refine r_puti (C := RX10) (T := TX10) (N := 12) hx hb hts (fun w h => List.mem_cons_of_mem _ (iX10 w h)) hown hK hP tyX10 tyX10_ok nmX10 hS rfl (by decide) rfl 10 (by decide) (hts _ (List.mem_cons_of_mem _ kw_362)) (fun _ h9 => h9) rfl (tyX10_ok 10 (by decide)) rfl rfl dX10_suppose_28 (by decide) h (fun M10 H locs h hP hS => ?_)
  refine lv_aload_n hx hb dX10_suppose_31 rfl (lv_at hl 0 rfl) ?_
  refine r_iconst hx hb dX10_suppose_32 (by decide) h (fun z12 h => ?_)
  refine r_puti (C := RX10) (T := TX10) (N := 12) hx hb hts (fun w h => List.mem_cons_of_mem _ (iX10 w h)) hown hK hP tyX10 tyX10_ok nmX10 hS rfl (by decide) rfl 11 (by decide) (hts _ (List.mem_cons_of_mem _ kw_365)) (fun _ h9 => h9) rfl (tyX10_ok 11 (by decide)) rfl rfl dX10_suppose_33 (by decide) h (fun M13 H locs h hP hS => ?_)
  exact r_vret hx hb hr hlocks hP hS dX10_suppose_36 h
/-! TurningMilk$Turning.holdFor(I)V -/
abbrev RM_X10_holdFor : Room := { frames := 4, cells := 0, slots := 0, locals := 107 }
def cw_X10_holdFor : Cond := Cond.code yX10_holdFor cX10_holdFor 3 (Option.none : Option FieldType)
theorem hd_X10_holdFor : yX10_holdFor.cls ≠ "java/lang/invoke/MethodHandle" ∧ yX10_holdFor.cls ≠ "java/lang/invoke/VarHandle" ∧ (parseMethodDescriptor yX10_holdFor.desc).map (fun d => d.parameters.length) = some 1 := by decide +kernel
theorem dX10_holdFor_0 : decode cX10_holdFor 0 = .ok (.iconst 0, 1) := by decide +kernel
theorem dX10_holdFor_1 : decode cX10_holdFor 1 = .ok (.istore_n 2, 1) := by decide +kernel
theorem dX10_holdFor_2 : decode cX10_holdFor 2 = .ok (.iload_n 2, 1) := by decide +kernel
theorem dX10_holdFor_3 : decode cX10_holdFor 3 = .ok (.iload_n 1, 1) := by decide +kernel
theorem dX10_holdFor_4 : decode cX10_holdFor 4 = .ok (.if_icmp .ge 70, 3) := by decide +kernel
theorem dX10_holdFor_7 : decode cX10_holdFor 7 = .ok (.aload_n 0, 1) := by decide +kernel
theorem dX10_holdFor_8 : decode cX10_holdFor 8 = .ok (.sipush 999, 3) := by decide +kernel
theorem dX10_holdFor_11 : decode cX10_holdFor 11 = .ok (.aload_n 0, 1) := by decide +kernel
theorem dX10_holdFor_12 : decode cX10_holdFor 12 = .ok (.getfield 57, 3) := by decide +kernel
theorem dX10_holdFor_15 : decode cX10_holdFor 15 = .ok (.aload_n 0, 1) := by decide +kernel
theorem dX10_holdFor_16 : decode cX10_holdFor 16 = .ok (.invokevirtual 93, 3) := by decide +kernel
theorem dX10_holdFor_19 : decode cX10_holdFor 19 = .ok (.iadd, 1) := by decide +kernel
theorem dX10_holdFor_20 : decode cX10_holdFor 20 = .ok (.invokestatic 97, 3) := by decide +kernel
theorem dX10_holdFor_23 : decode cX10_holdFor 23 = .ok (.putfield 57, 3) := by decide +kernel
theorem dX10_holdFor_26 : decode cX10_holdFor 26 = .ok (.aload_n 0, 1) := by decide +kernel
theorem dX10_holdFor_27 : decode cX10_holdFor 27 = .ok (.bipush 99, 2) := by decide +kernel
theorem dX10_holdFor_29 : decode cX10_holdFor 29 = .ok (.aload_n 0, 1) := by decide +kernel
theorem dX10_holdFor_30 : decode cX10_holdFor 30 = .ok (.getfield 53, 3) := by decide +kernel
theorem dX10_holdFor_33 : decode cX10_holdFor 33 = .ok (.aload_n 0, 1) := by decide +kernel
theorem dX10_holdFor_34 : decode cX10_holdFor 34 = .ok (.getfield 22, 3) := by decide +kernel
theorem dX10_holdFor_37 : decode cX10_holdFor 37 = .ok (.getfield 103, 3) := by decide +kernel
theorem dX10_holdFor_40 : decode cX10_holdFor 40 = .ok (.aload_n 0, 1) := by decide +kernel
theorem dX10_holdFor_41 : decode cX10_holdFor 41 = .ok (.getfield 46, 3) := by decide +kernel
theorem dX10_holdFor_44 : decode cX10_holdFor 44 = .ok (.iaload, 1) := by decide +kernel
theorem dX10_holdFor_45 : decode cX10_holdFor 45 = .ok (.iadd, 1) := by decide +kernel
theorem dX10_holdFor_46 : decode cX10_holdFor 46 = .ok (.invokestatic 97, 3) := by decide +kernel
theorem dX10_holdFor_49 : decode cX10_holdFor 49 = .ok (.putfield 53, 3) := by decide +kernel
theorem dX10_holdFor_52 : decode cX10_holdFor 52 = .ok (.aload_n 0, 1) := by decide +kernel
theorem dX10_holdFor_53 : decode cX10_holdFor 53 = .ok (.sipush 999, 3) := by decide +kernel
theorem dX10_holdFor_56 : decode cX10_holdFor 56 = .ok (.aload_n 0, 1) := by decide +kernel
theorem dX10_holdFor_57 : decode cX10_holdFor 57 = .ok (.getfield 61, 3) := by decide +kernel
theorem dX10_holdFor_60 : decode cX10_holdFor 60 = .ok (.iconst 1, 1) := by decide +kernel
theorem dX10_holdFor_61 : decode cX10_holdFor 61 = .ok (.iadd, 1) := by decide +kernel
theorem dX10_holdFor_62 : decode cX10_holdFor 62 = .ok (.invokestatic 97, 3) := by decide +kernel
theorem dX10_holdFor_65 : decode cX10_holdFor 65 = .ok (.putfield 61, 3) := by decide +kernel
theorem dX10_holdFor_68 : decode cX10_holdFor 68 = .ok (.iinc 2 1, 3) := by decide +kernel
theorem dX10_holdFor_71 : decode cX10_holdFor 71 = .ok (.goto (-69), 3) := by decide +kernel
theorem dX10_holdFor_74 : decode cX10_holdFor 74 = .ok (.return_, 1) := by decide +kernel
def wp_X10_holdFor_2 (S : Sh) (post : Mm → Prop) : Nat → Int → Int → Int → Mm → Prop
  | 0, _, _, _, _ => False
  | n + 1, u0, u1, u2, M => wIf (u1 ≤ u2) (post M) (wC 999 fun v1 => wGet S M u0 10 6 fun v3 => isK S u0 10 ∧ (wp_X10_turns S M u0 <| fun v6 M5 => wA v3 v6 fun v8 => wO min v1 v8 fun v10 => wPut S M5 u0 10 6 v10 fun M12 => wC 99 fun v13 => wGet S M12 u0 10 7 fun v15 => wGetR S M12 u0 10 0 fun v17 => wGetR S M12 v17 8 11 fun v19 => wGet S M12 u0 10 4 fun v21 => wLd S M12 v19 14 v21 fun v23 => wA v15 v23 fun v25 => wO min v13 v25 fun v27 => wPut S M12 u0 10 7 v27 fun M29 => wC 999 fun v30 => wGet S M29 u0 10 8 fun v32 => wC 1 fun v34 => wA v32 v34 fun v36 => wO min v30 v36 fun v38 => wPut S M29 u0 10 8 v38 fun M40 => wA u2 1 fun v41 => wp_X10_holdFor_2 S post n u0 u1 v41 M40))
def wp_X10_holdFor (S : Sh) (M : Mm) (u0 : Int) (u1 : Int) (post : Mm → Prop) : Prop := wC 0 fun v43 => ∃ n9 : Nat, wp_X10_holdFor_2 S post n9 u0 u1 v43 M
set_option maxHeartbeats 4000000 in
set_option maxRecDepth 100000 in
theorem t_X10_holdFor_2 {p : Program} {l : Launch} {e : Env} {s : State} {m : MethodId} {args : Array Value} {below : List Frame} {meth : Method} {c : Code} {D : va_G} {G : Gt} {S : Sh} {post : Mm → Prop} (C : Cx p s m args meth c D G cX10_holdFor 3 none (cw_X10_holdFor :: gw) RX10) : ∀ (n : Nat) (xl0 : Int) (zl1 : Int32) (zl2 : Int32) (M : Mm) (H : Heap) (locs : List Loc) (ls : Array Slot), Wd D G S M H → va_S (aG G) s.heap H locs → lv_has ls 3 [(0, .ref (adr G xl0)), (1, .int zl1), (2, .int zl2)] → wp_X10_holdFor_2 S post n xl0 zl1.toInt zl2.toInt  M → W p l e RM_X10_holdFor s m args below meth c H locs 0 0 (MQ below (QV D G S post) args s 0 0 (aG G)) (F0 m 2 ls []) := by
  obtain ⟨hx, hb, hr, hlocks, hml, hown, hts, hK⟩ := id C
  intro n
  induction n with
  | zero => intro xl0 zl1 zl2 M H locs ls hP hS hl h; exact h.elim
  | succ n ih =>
    intro xl0 zl1 zl2 M H locs ls hP hS hl h
    unfold wp_X10_holdFor_2 at h
    refine lv_iload_n hx hb dX10_holdFor_2 rfl (lv_at hl 2 rfl) ?_
    refine lv_iload_n hx hb dX10_holdFor_3 rfl (lv_at hl 1 rfl) ?_
    refine r_icmp_ge (tgt := 74) hx hb dX10_holdFor_4 (by decide) h (fun h => ?_) (fun h => ?_)
    · exact r_vret hx hb hr hlocks hP hS dX10_holdFor_74 h
    · refine lv_aload_n hx hb dX10_holdFor_7 rfl (lv_at hl 0 rfl) ?_
      refine r_sipush hx hb dX10_holdFor_8 (by decide) h (fun z2 h => ?_)
      refine lv_aload_n hx hb dX10_holdFor_11 rfl (lv_at hl 0 rfl) ?_
      refine r_geti (C := RX10) (T := TX10) (N := 12) hx hb hts (fun w h => List.mem_cons_of_mem _ (iX10 w h)) hown hK hP rfl (by decide) rfl 6 (by decide) (hts _ (List.mem_cons_of_mem _ kw_354)) (fun _ h9 => h9) dX10_holdFor_12 (by decide) h (fun z4 h => ?_)
      refine lv_aload_n hx hb dX10_holdFor_15 rfl (lv_at hl 0 rfl) ?_
      refine q_Vi hx hb hml hown hts hK hP hS (c_X10_turns l D G S _ xl0 _ h.2) ⟨callB_of 0 hts (gw_good kw_966) rfl rfl rfl (hts _ (List.mem_cons_of_mem _ kw_9)) (hts _ (List.mem_cons_of_mem _ kw_1096)) hd_X10_turns ⟨Nat.le_of_ble_eq_true rfl, Nat.le_of_ble_eq_true rfl⟩, (hts _ (List.mem_cons_of_mem _ kw_964)), (hts _ (List.mem_cons_of_mem _ kw_965))⟩ h.1 (ci := 10) rfl (by decide) rfl hl.1 rfl (lv_room (Nat.le_of_ble_eq_true rfl)) dX10_holdFor_16 ⟨Nat.zero_le _, Nat.zero_le _⟩ (fun z7 M5 H locs h hP hS => ?_)
      refine r_iadd hx hb dX10_holdFor_19 h (fun z9 h => ?_)
      refine r_mmin hx hb (hml.trans hl.1.symm) hown (hts _ (List.mem_cons_of_mem _ kw_1097)) (hts _ (List.mem_cons_of_mem _ kw_719)) (hts _ (List.mem_cons_of_mem _ kw_19)) (hts _ (List.mem_cons_of_mem _ kw_720)) (Nat.le_of_ble_eq_true rfl) (Nat.le_of_ble_eq_true rfl) (Nat.zero_le _) (Nat.zero_le _) dX10_holdFor_20 h (fun z11 h => ?_)
      refine r_puti (C := RX10) (T := TX10) (N := 12) hx hb hts (fun w h => List.mem_cons_of_mem _ (iX10 w h)) hown hK hP tyX10 tyX10_ok nmX10 hS rfl (by decide) rfl 6 (by decide) (hts _ (List.mem_cons_of_mem _ kw_354)) (fun _ h9 => h9) rfl (tyX10_ok 6 (by decide)) rfl rfl dX10_holdFor_23 (by decide) h (fun M12 H locs h hP hS => ?_)
      refine lv_aload_n hx hb dX10_holdFor_26 rfl (lv_at hl 0 rfl) ?_
      refine r_bipush hx hb dX10_holdFor_27 (by decide) h (fun z14 h => ?_)
      refine lv_aload_n hx hb dX10_holdFor_29 rfl (lv_at hl 0 rfl) ?_
      refine r_geti (C := RX10) (T := TX10) (N := 12) hx hb hts (fun w h => List.mem_cons_of_mem _ (iX10 w h)) hown hK hP rfl (by decide) rfl 7 (by decide) (hts _ (List.mem_cons_of_mem _ kw_358)) (fun _ h9 => h9) dX10_holdFor_30 (by decide) h (fun z16 h => ?_)
      refine lv_aload_n hx hb dX10_holdFor_33 rfl (lv_at hl 0 rfl) ?_
      refine r_getr (C := RX10) (T := TX10) (N := 12) hx hb hts (fun w h => List.mem_cons_of_mem _ (iX10 w h)) hown hK hP rfl (by decide) rfl 0 (by decide) (hts _ (List.mem_cons_of_mem _ kw_344)) (fun _ h9 => h9) dX10_holdFor_34 (by decide) h (fun x18 h => ?_)
      refine r_getrN (C := RX8) (T := TX8) (N := 19) hx hb hts (fun w h => List.mem_cons_of_mem _ (iX8 w h)) hown hK hP rfl (by decide) rfl 11 (by decide) (nw_31 hK) (fun _ h9 => h9) dX10_holdFor_37 (by decide) h (fun x20 h => ?_)
      refine lv_aload_n hx hb dX10_holdFor_40 rfl (lv_at hl 0 rfl) ?_
      refine r_geti (C := RX10) (T := TX10) (N := 12) hx hb hts (fun w h => List.mem_cons_of_mem _ (iX10 w h)) hown hK hP rfl (by decide) rfl 4 (by decide) (hts _ (List.mem_cons_of_mem _ kw_351)) (fun _ h9 => h9) dX10_holdFor_41 (by decide) h (fun z22 h => ?_)
      refine r_iald hx hb hK hP dX10_holdFor_44 h (fun z24 h => ?_)
      refine r_iadd hx hb dX10_holdFor_45 h (fun z26 h => ?_)
      refine r_mmin hx hb (hml.trans hl.1.symm) hown (hts _ (List.mem_cons_of_mem _ kw_1097)) (hts _ (List.mem_cons_of_mem _ kw_719)) (hts _ (List.mem_cons_of_mem _ kw_19)) (hts _ (List.mem_cons_of_mem _ kw_720)) (Nat.le_of_ble_eq_true rfl) (Nat.le_of_ble_eq_true rfl) (Nat.zero_le _) (Nat.zero_le _) dX10_holdFor_46 h (fun z28 h => ?_)
      refine r_puti (C := RX10) (T := TX10) (N := 12) hx hb hts (fun w h => List.mem_cons_of_mem _ (iX10 w h)) hown hK hP tyX10 tyX10_ok nmX10 hS rfl (by decide) rfl 7 (by decide) (hts _ (List.mem_cons_of_mem _ kw_358)) (fun _ h9 => h9) rfl (tyX10_ok 7 (by decide)) rfl rfl dX10_holdFor_49 (by decide) h (fun M29 H locs h hP hS => ?_)
      refine lv_aload_n hx hb dX10_holdFor_52 rfl (lv_at hl 0 rfl) ?_
      refine r_sipush hx hb dX10_holdFor_53 (by decide) h (fun z31 h => ?_)
      refine lv_aload_n hx hb dX10_holdFor_56 rfl (lv_at hl 0 rfl) ?_
      refine r_geti (C := RX10) (T := TX10) (N := 12) hx hb hts (fun w h => List.mem_cons_of_mem _ (iX10 w h)) hown hK hP rfl (by decide) rfl 8 (by decide) (hts _ (List.mem_cons_of_mem _ kw_359)) (fun _ h9 => h9) dX10_holdFor_57 (by decide) h (fun z33 h => ?_)
      refine r_iconst hx hb dX10_holdFor_60 (by decide) h (fun z35 h => ?_)
      refine r_iadd hx hb dX10_holdFor_61 h (fun z37 h => ?_)
      refine r_mmin hx hb (hml.trans hl.1.symm) hown (hts _ (List.mem_cons_of_mem _ kw_1097)) (hts _ (List.mem_cons_of_mem _ kw_719)) (hts _ (List.mem_cons_of_mem _ kw_19)) (hts _ (List.mem_cons_of_mem _ kw_720)) (Nat.le_of_ble_eq_true rfl) (Nat.le_of_ble_eq_true rfl) (Nat.zero_le _) (Nat.zero_le _) dX10_holdFor_62 h (fun z39 h => ?_)
      refine r_puti (C := RX10) (T := TX10) (N := 12) hx hb hts (fun w h => List.mem_cons_of_mem _ (iX10 w h)) hown hK hP tyX10 tyX10_ok nmX10 hS rfl (by decide) rfl 8 (by decide) (hts _ (List.mem_cons_of_mem _ kw_359)) (fun _ h9 => h9) rfl (tyX10_ok 8 (by decide)) rfl rfl dX10_holdFor_65 (by decide) h (fun M40 H locs h hP hS => ?_)
      refine r_iinc hx hb (fun z42 => [(2, .int z42), (0, .ref (adr G xl0)), (1, .int zl1)]) dX10_holdFor_68 (by decide) hl (k := 2) rfl (by decide) (fun _ => rfl) h (fun z42 ls hl h => ?_)
      refine lv_goto (tgt := 2) hx hb dX10_holdFor_71 (by decide) ?_
      exact ih xl0 zl1 z42 _ _ _ _ hP hS (lv_sub hl [1, 2, 0] rfl) h
set_option maxHeartbeats 4000000 in
set_option maxRecDepth 100000 in
theorem c_X10_holdFor (l : Launch) (D : va_G) (G : Gt) (S : Sh) (M : Mm) (xl0 : Int) (zl1 : Int32) (post : Mm → Prop) (h : wp_X10_holdFor S M xl0 zl1.toInt post) : Met l yX10_holdFor (cw_X10_holdFor :: gw) RM_X10_holdFor (va_Pc [.ref (adr G xl0), .int zl1] (fun U => KN D G U ∧ Wd D G S M U.heap)) (QV D G S post) 0 0 (aG G) := by
  refine Met.ofW (cc := cX10_holdFor) (maxL := 3) (ret := none) (by decide) rfl ?_
  intro p e s m args below meth c s₁ B hml hv
  obtain ⟨rfl, hK, hP⟩ := hv
  have hx := B.exec
  have hb := B.bytes
  have hr := B.returns
  have hts := atoms_spec (ws := cw_X10_holdFor :: gw) B.pre
  have hown : s.vm.findClass RX10 = some m.cls := findClass_of_methodNamed B.named
  have hlocks := B.notSynchronized
  have hS : va_S (aG G) s.heap s.heap [] := va_S.rf
  have C : Cx p s m ([.ref (adr G xl0), .int zl1] : List Value).toArray meth c D G cX10_holdFor 3 none (cw_X10_holdFor :: gw) RX10 := ⟨hx, hb, hr, hlocks, hml, hown, hts, hK⟩
  have hl := lv_entry ([.ref (adr G xl0), .int zl1]) (n := 3) (Nat.le_of_ble_eq_true rfl)
  rw [lg_entry_eq]
  generalize (lg_sl ([.ref (adr G xl0), .int zl1]) ++ List.replicate (3 - (lg_sl ([.ref (adr G xl0), .int zl1])).length) Slot.unset).toArray = ls at hl ⊢
  have hl : lv_has ls 3 [(0, .ref (adr G xl0)), (1, .int zl1)] := hl
  unfold wp_X10_holdFor at h
  refine r_iconst hx hb dX10_holdFor_0 (by decide) h (fun z44 h => ?_)
  refine lv_istore_n (lv' := [(2, .int z44), (0, .ref (adr G xl0)), (1, .int zl1)]) hx hb dX10_holdFor_1 rfl hl (by decide) rfl (fun ls hl => ?_)
  obtain ⟨n9, h⟩ := h
  exact t_X10_holdFor_2 C n9 xl0 zl1 z44 _ _ _ _ hP hS (lv_sub hl [1, 2, 0] rfl) h
/-! TurningMilk.brings(III)I -/
abbrev RM_X11_brings : Room := { frames := 5, cells := 0, slots := 0, locals := 129 }
def cw_X11_brings : Cond := Cond.code yX11_brings cX11_brings 5 (Option.some FieldType.int)
theorem hd_X11_brings : yX11_brings.cls ≠ "java/lang/invoke/MethodHandle" ∧ yX11_brings.cls ≠ "java/lang/invoke/VarHandle" ∧ (parseMethodDescriptor yX11_brings.desc).map (fun d => d.parameters.length) = some 3 := by decide +kernel
theorem dX11_brings_0 : decode cX11_brings 0 = .ok (.aload_n 0, 1) := by decide +kernel
theorem dX11_brings_1 : decode cX11_brings 1 = .ok (.iload_n 1, 1) := by decide +kernel
theorem dX11_brings_2 : decode cX11_brings 2 = .ok (.invokevirtual 181, 3) := by decide +kernel
theorem dX11_brings_5 : decode cX11_brings 5 = .ok (.ifCond .eq 19, 3) := by decide +kernel
theorem dX11_brings_8 : decode cX11_brings 8 = .ok (.aload_n 0, 1) := by decide +kernel
theorem dX11_brings_9 : decode cX11_brings 9 = .ok (.iload_n 2, 1) := by decide +kernel
theorem dX11_brings_10 : decode cX11_brings 10 = .ok (.invokevirtual 302, 3) := by decide +kernel
theorem dX11_brings_13 : decode cX11_brings 13 = .ok (.ifCond .eq 11, 3) := by decide +kernel
theorem dX11_brings_16 : decode cX11_brings 16 = .ok (.aload_n 0, 1) := by decide +kernel
theorem dX11_brings_17 : decode cX11_brings 17 = .ok (.iload_n 3, 1) := by decide +kernel
theorem dX11_brings_18 : decode cX11_brings 18 = .ok (.invokevirtual 275, 3) := by decide +kernel
theorem dX11_brings_21 : decode cX11_brings 21 = .ok (.ifCond .ne 5, 3) := by decide +kernel
theorem dX11_brings_24 : decode cX11_brings 24 = .ok (.iconst (-1), 1) := by decide +kernel
theorem dX11_brings_25 : decode cX11_brings 25 = .ok (.ireturn, 1) := by decide +kernel
theorem dX11_brings_26 : decode cX11_brings 26 = .ok (.aload_n 0, 1) := by decide +kernel
theorem dX11_brings_27 : decode cX11_brings 27 = .ok (.getfield 19, 3) := by decide +kernel
theorem dX11_brings_30 : decode cX11_brings 30 = .ok (.getfield 133, 3) := by decide +kernel
theorem dX11_brings_33 : decode cX11_brings 33 = .ok (.getfield 203, 3) := by decide +kernel
theorem dX11_brings_36 : decode cX11_brings 36 = .ok (.iload_n 2, 1) := by decide +kernel
theorem dX11_brings_37 : decode cX11_brings 37 = .ok (.iaload, 1) := by decide +kernel
theorem dX11_brings_38 : decode cX11_brings 38 = .ok (.istore 4, 2) := by decide +kernel
theorem dX11_brings_40 : decode cX11_brings 40 = .ok (.aload_n 0, 1) := by decide +kernel
theorem dX11_brings_41 : decode cX11_brings 41 = .ok (.getfield 19, 3) := by decide +kernel
theorem dX11_brings_44 : decode cX11_brings 44 = .ok (.getfield 57, 3) := by decide +kernel
theorem dX11_brings_47 : decode cX11_brings 47 = .ok (.iload 4, 2) := by decide +kernel
theorem dX11_brings_49 : decode cX11_brings 49 = .ok (.iload_n 3, 1) := by decide +kernel
theorem dX11_brings_50 : decode cX11_brings 50 = .ok (.invokevirtual 293, 3) := by decide +kernel
theorem dX11_brings_53 : decode cX11_brings 53 = .ok (.ifCond .ne 6, 3) := by decide +kernel
theorem dX11_brings_56 : decode cX11_brings 56 = .ok (.bipush (-2), 2) := by decide +kernel
theorem dX11_brings_58 : decode cX11_brings 58 = .ok (.ireturn, 1) := by decide +kernel
theorem dX11_brings_59 : decode cX11_brings 59 = .ok (.aload_n 0, 1) := by decide +kernel
theorem dX11_brings_60 : decode cX11_brings 60 = .ok (.getfield 64, 3) := by decide +kernel
theorem dX11_brings_63 : decode cX11_brings 63 = .ok (.iload_n 1, 1) := by decide +kernel
theorem dX11_brings_64 : decode cX11_brings 64 = .ok (.iload_n 2, 1) := by decide +kernel
theorem dX11_brings_65 : decode cX11_brings 65 = .ok (.aload_n 0, 1) := by decide +kernel
theorem dX11_brings_66 : decode cX11_brings 66 = .ok (.getfield 19, 3) := by decide +kernel
theorem dX11_brings_69 : decode cX11_brings 69 = .ok (.getfield 133, 3) := by decide +kernel
theorem dX11_brings_72 : decode cX11_brings 72 = .ok (.getfield 209, 3) := by decide +kernel
theorem dX11_brings_75 : decode cX11_brings 75 = .ok (.iload_n 2, 1) := by decide +kernel
theorem dX11_brings_76 : decode cX11_brings 76 = .ok (.iaload, 1) := by decide +kernel
theorem dX11_brings_77 : decode cX11_brings 77 = .ok (.aload_n 0, 1) := by decide +kernel
theorem dX11_brings_78 : decode cX11_brings 78 = .ok (.getfield 19, 3) := by decide +kernel
theorem dX11_brings_81 : decode cX11_brings 81 = .ok (.getfield 133, 3) := by decide +kernel
theorem dX11_brings_84 : decode cX11_brings 84 = .ok (.getfield 252, 3) := by decide +kernel
theorem dX11_brings_87 : decode cX11_brings 87 = .ok (.invokevirtual 305, 3) := by decide +kernel
theorem dX11_brings_90 : decode cX11_brings 90 = .ok (.aload_n 0, 1) := by decide +kernel
theorem dX11_brings_91 : decode cX11_brings 91 = .ok (.getfield 64, 3) := by decide +kernel
theorem dX11_brings_94 : decode cX11_brings 94 = .ok (.iconst 1, 1) := by decide +kernel
theorem dX11_brings_95 : decode cX11_brings 95 = .ok (.putfield 309, 3) := by decide +kernel
theorem dX11_brings_98 : decode cX11_brings 98 = .ok (.aload_n 0, 1) := by decide +kernel
theorem dX11_brings_99 : decode cX11_brings 99 = .ok (.getfield 64, 3) := by decide +kernel
theorem dX11_brings_102 : decode cX11_brings 102 = .ok (.aload_n 0, 1) := by decide +kernel
theorem dX11_brings_103 : decode cX11_brings 103 = .ok (.getfield 19, 3) := by decide +kernel
theorem dX11_brings_106 : decode cX11_brings 106 = .ok (.getfield 57, 3) := by decide +kernel
theorem dX11_brings_109 : decode cX11_brings 109 = .ok (.iload 4, 2) := by decide +kernel
theorem dX11_brings_111 : decode cX11_brings 111 = .ok (.iload_n 3, 1) := by decide +kernel
theorem dX11_brings_112 : decode cX11_brings 112 = .ok (.invokevirtual 296, 3) := by decide +kernel
theorem dX11_brings_115 : decode cX11_brings 115 = .ok (.invokevirtual 312, 3) := by decide +kernel
theorem dX11_brings_118 : decode cX11_brings 118 = .ok (.aload_n 0, 1) := by decide +kernel
theorem dX11_brings_119 : decode cX11_brings 119 = .ok (.getfield 64, 3) := by decide +kernel
theorem dX11_brings_122 : decode cX11_brings 122 = .ok (.getfield 315, 3) := by decide +kernel
theorem dX11_brings_125 : decode cX11_brings 125 = .ok (.ireturn, 1) := by decide +kernel
def wp_X11_brings (S : Sh) (M : Mm) (u0 : Int) (u1 : Int) (u2 : Int) (u3 : Int) (post : Int → Mm → Prop) : Prop := isK S u0 11 ∧ (wp_X11_isHand S M u0 u1 <| fun v2 M1 => wIf (v2 = 0) (wC (-1) fun v4 => post v4 M1) (isK S u0 11 ∧ (wp_X11_isStandingJug S M1 u0 u2 <| fun v7 M6 => wIf (v7 = 0) (wC (-1) fun v9 => post v9 M6) (isK S u0 11 ∧ (wp_X11_isPlace S M6 u0 u3 <| fun v12 M11 => wIf (¬ v12 = 0) (wGetR S M11 u0 11 1 fun v14 => wGetR S M11 v14 4 1 fun v16 => wGetR S M11 v16 5 5 fun v18 => wLd S M11 v18 14 u2 fun v20 => wGetR S M11 u0 11 1 fun v22 => wGetR S M11 v22 4 0 fun v24 => isK S v24 8 ∧ (wp_X8_hasWay S M11 v24 v20 u3 <| fun v27 M26 => wIf (¬ v27 = 0) (wGetR S M26 u0 11 10 fun v29 => wGetR S M26 u0 11 1 fun v31 => wGetR S M26 v31 4 1 fun v33 => wGetR S M26 v33 5 7 fun v35 => wLd S M26 v35 14 u2 fun v37 => wGetR S M26 u0 11 1 fun v39 => wGetR S M26 v39 4 1 fun v41 => wGet S M26 v41 5 0 fun v43 => isK S v29 10 ∧ (wp_X10_suppose S M26 v29 u1 u2 v37 v43 <| fun M45 => wGetR S M45 u0 11 10 fun v46 => wC 1 fun v48 => wPut S M45 v46 10 10 v48 fun M50 => wGetR S M50 u0 11 10 fun v51 => wGetR S M50 u0 11 1 fun v53 => wGetR S M50 v53 4 0 fun v55 => isK S v55 8 ∧ (wp_X8_wayHours S M50 v55 v20 u3 <| fun v58 M57 => isK S v51 10 ∧ (wp_X10_holdFor S M57 v51 v58 <| fun M60 => wGetR S M60 u0 11 10 fun v61 => wGet S M60 v61 10 6 fun v63 => post v63 M60)))) (wC (-2) fun v65 => post v65 M26))) (wC (-1) fun v67 => post v67 M11))))))
set_option maxHeartbeats 4000000 in
set_option maxRecDepth 100000 in
theorem c_X11_brings (l : Launch) (D : va_G) (G : Gt) (S : Sh) (M : Mm) (xl0 : Int) (zl1 : Int32) (zl2 : Int32) (zl3 : Int32) (post : Int → Mm → Prop) (h : wp_X11_brings S M xl0 zl1.toInt zl2.toInt zl3.toInt post) : Met l yX11_brings (cw_X11_brings :: gw) RM_X11_brings (va_Pc [.ref (adr G xl0), .int zl1, .int zl2, .int zl3] (fun U => KN D G U ∧ Wd D G S M U.heap)) (QI D G S post) 0 0 (aG G) := by
  refine Met.ofW (cc := cX11_brings) (maxL := 5) (ret := (some .int)) (by decide) rfl ?_
  intro p e s m args below meth c s₁ B hml hv
  obtain ⟨rfl, hK, hP⟩ := hv
  have hx := B.exec
  have hb := B.bytes
  have hr := B.returns
  have hts := atoms_spec (ws := cw_X11_brings :: gw) B.pre
  have hown : s.vm.findClass RX11 = some m.cls := findClass_of_methodNamed B.named
  have hlocks := B.notSynchronized
  have hS : va_S (aG G) s.heap s.heap [] := va_S.rf
  have C : Cx p s m ([.ref (adr G xl0), .int zl1, .int zl2, .int zl3] : List Value).toArray meth c D G cX11_brings 5 (some .int) (cw_X11_brings :: gw) RX11 := ⟨hx, hb, hr, hlocks, hml, hown, hts, hK⟩
  have hl := lv_entry ([.ref (adr G xl0), .int zl1, .int zl2, .int zl3]) (n := 5) (Nat.le_of_ble_eq_true rfl)
  rw [lg_entry_eq]
  generalize (lg_sl ([.ref (adr G xl0), .int zl1, .int zl2, .int zl3]) ++ List.replicate (5 - (lg_sl ([.ref (adr G xl0), .int zl1, .int zl2, .int zl3])).length) Slot.unset).toArray = ls at hl ⊢
  have hl : lv_has ls 5 [(0, .ref (adr G xl0)), (1, .int zl1), (2, .int zl2), (3, .int zl3)] := hl
  unfold wp_X11_brings at h
  refine lv_aload_n hx hb dX11_brings_0 rfl (lv_at hl 0 rfl) ?_
  refine lv_iload_n hx hb dX11_brings_1 rfl (lv_at hl 1 rfl) ?_
  refine q_Vi hx hb hml hown hts hK hP hS (c_X11_isHand l D G S _ xl0 zl1 _ h.2) ⟨callB_of 1 hts (gw_good kw_881) rfl rfl rfl (hts _ (List.mem_cons_of_mem _ kw_1)) (hts _ (List.mem_cons_of_mem _ kw_878)) hd_X11_isHand ⟨Nat.le_of_ble_eq_true rfl, Nat.le_of_ble_eq_true rfl⟩, (hts _ (List.mem_cons_of_mem _ kw_880)), (hts _ (List.mem_cons_of_mem _ kp_29))⟩ h.1 (ci := 11) rfl (by decide) rfl hl.1 rfl (lv_room (Nat.le_of_ble_eq_true rfl)) dX11_brings_2 ⟨Nat.zero_le _, Nat.zero_le _⟩ (fun z3 M1 H locs h hP hS => ?_)
  refine r_if_eq (tgt := 24) hx hb dX11_brings_5 (by decide) h (fun h => ?_) (fun h => ?_)
  · refine r_iconst hx hb dX11_brings_24 (by decide) h (fun z5 h => ?_)
    exact r_iret hx hb hr hlocks hP hS dX11_brings_25 h
  · refine lv_aload_n hx hb dX11_brings_8 rfl (lv_at hl 0 rfl) ?_
    refine lv_iload_n hx hb dX11_brings_9 rfl (lv_at hl 2 rfl) ?_
    refine q_Vi hx hb hml hown hts hK hP hS (c_X11_isStandingJug l D G S _ xl0 zl2 _ h.2) ⟨callB_of 1 hts (gw_good kw_1086) rfl rfl rfl (hts _ (List.mem_cons_of_mem _ kw_1)) (hts _ (List.mem_cons_of_mem _ kw_1083)) hd_X11_isStandingJug ⟨Nat.le_of_ble_eq_true rfl, Nat.le_of_ble_eq_true rfl⟩, (hts _ (List.mem_cons_of_mem _ kw_1085)), (hts _ (List.mem_cons_of_mem _ kp_39))⟩ h.1 (ci := 11) rfl (by decide) rfl hl.1 rfl (lv_room (Nat.le_of_ble_eq_true rfl)) dX11_brings_10 ⟨Nat.zero_le _, Nat.zero_le _⟩ (fun z8 M6 H locs h hP hS => ?_)
    refine r_if_eq (tgt := 24) hx hb dX11_brings_13 (by decide) h (fun h => ?_) (fun h => ?_)
    · refine r_iconst hx hb dX11_brings_24 (by decide) h (fun z10 h => ?_)
      exact r_iret hx hb hr hlocks hP hS dX11_brings_25 h
    · refine lv_aload_n hx hb dX11_brings_16 rfl (lv_at hl 0 rfl) ?_
      refine lv_iload_n hx hb dX11_brings_17 rfl (lv_at hl 3 rfl) ?_
      refine q_Vi hx hb hml hown hts hK hP hS (c_X11_isPlace l D G S _ xl0 zl3 _ h.2) ⟨callB_of 1 hts (gw_good kw_1035) rfl rfl rfl (hts _ (List.mem_cons_of_mem _ kw_1)) (hts _ (List.mem_cons_of_mem _ kw_1032)) hd_X11_isPlace ⟨Nat.le_of_ble_eq_true rfl, Nat.le_of_ble_eq_true rfl⟩, (hts _ (List.mem_cons_of_mem _ kw_1034)), (hts _ (List.mem_cons_of_mem _ kp_38))⟩ h.1 (ci := 11) rfl (by decide) rfl hl.1 rfl (lv_room (Nat.le_of_ble_eq_true rfl)) dX11_brings_18 ⟨Nat.zero_le _, Nat.zero_le _⟩ (fun z13 M11 H locs h hP hS => ?_)
      refine r_if_ne (tgt := 26) hx hb dX11_brings_21 (by decide) h (fun h => ?_) (fun h => ?_)
      · refine lv_aload_n hx hb dX11_brings_26 rfl (lv_at hl 0 rfl) ?_
        refine r_getr (C := RX11) (T := TX11) (N := 16) hx hb hts (fun w h => List.mem_cons_of_mem _ (iX11 w h)) hown hK hP rfl (by decide) rfl 1 (by decide) (hts _ (List.mem_cons_of_mem _ kw_492)) (fun _ h9 => h9) dX11_brings_27 (by decide) h (fun x15 h => ?_)
        refine r_getrN (C := RX4) (T := TX4) (N := 10) hx hb hts (fun w h => List.mem_cons_of_mem _ (iX4 w h)) hown hK hP rfl (by decide) rfl 1 (by decide) (nw_73 hK) (fun _ h9 => h9) dX11_brings_30 (by decide) h (fun x17 h => ?_)
        refine r_getrN (C := RX5) (T := TX5) (N := 9) hx hb hts (fun w h => List.mem_cons_of_mem _ (iX5 w h)) hown hK hP rfl (by decide) rfl 5 (by decide) (nw_60 hK) (fun _ h9 => h9) dX11_brings_33 (by decide) h (fun x19 h => ?_)
        refine lv_iload_n hx hb dX11_brings_36 rfl (lv_at hl 2 rfl) ?_
        refine r_iald hx hb hK hP dX11_brings_37 h (fun z21 h => ?_)
        refine lv_istore (lv' := [(4, .int z21), (0, .ref (adr G xl0)), (1, .int zl1), (2, .int zl2), (3, .int zl3)]) hx hb dX11_brings_38 hl (by decide) rfl (fun ls hl => ?_)
        refine lv_aload_n hx hb dX11_brings_40 rfl (lv_at hl 1 rfl) ?_
        refine r_getr (C := RX11) (T := TX11) (N := 16) hx hb hts (fun w h => List.mem_cons_of_mem _ (iX11 w h)) hown hK hP rfl (by decide) rfl 1 (by decide) (hts _ (List.mem_cons_of_mem _ kw_492)) (fun _ h9 => h9) dX11_brings_41 (by decide) h (fun x23 h => ?_)
        refine r_getrN (C := RX4) (T := TX4) (N := 10) hx hb hts (fun w h => List.mem_cons_of_mem _ (iX4 w h)) hown hK hP rfl (by decide) rfl 0 (by decide) (nw_70 hK) (fun _ h9 => h9) dX11_brings_44 (by decide) h (fun x25 h => ?_)
        refine lv_iload hx hb dX11_brings_47 (lv_at hl 0 rfl) ?_
        refine lv_iload_n hx hb dX11_brings_49 rfl (lv_at hl 4 rfl) ?_
        refine q_Vi hx hb hml hown hts hK hP hS (c_X8_hasWay l D G S _ x25 z21 zl3 _ h.2) ⟨callB_of 2 hts (gw_good kw_1069) rfl rfl rfl (hts _ (List.mem_cons_of_mem _ kw_4)) (hts _ (List.mem_cons_of_mem _ kw_1066)) hd_X8_hasWay ⟨Nat.le_of_ble_eq_true rfl, Nat.le_of_ble_eq_true rfl⟩, (hts _ (List.mem_cons_of_mem _ kw_1067)), (hts _ (List.mem_cons_of_mem _ kw_1068))⟩ h.1 (ci := 8) rfl (by decide) rfl hl.1 rfl (lv_room (Nat.le_of_ble_eq_true rfl)) dX11_brings_50 ⟨Nat.zero_le _, Nat.zero_le _⟩ (fun z28 M26 H locs h hP hS => ?_)
        refine r_if_ne (tgt := 59) hx hb dX11_brings_53 (by decide) h (fun h => ?_) (fun h => ?_)
        · refine lv_aload_n hx hb dX11_brings_59 rfl (lv_at hl 1 rfl) ?_
          refine r_getr (C := RX11) (T := TX11) (N := 16) hx hb hts (fun w h => List.mem_cons_of_mem _ (iX11 w h)) hown hK hP rfl (by decide) rfl 10 (by decide) (hts _ (List.mem_cons_of_mem _ kw_501)) (fun _ h9 => h9) dX11_brings_60 (by decide) h (fun x30 h => ?_)
          refine lv_iload_n hx hb dX11_brings_63 rfl (lv_at hl 2 rfl) ?_
          refine lv_iload_n hx hb dX11_brings_64 rfl (lv_at hl 3 rfl) ?_
          refine lv_aload_n hx hb dX11_brings_65 rfl (lv_at hl 1 rfl) ?_
          refine r_getr (C := RX11) (T := TX11) (N := 16) hx hb hts (fun w h => List.mem_cons_of_mem _ (iX11 w h)) hown hK hP rfl (by decide) rfl 1 (by decide) (hts _ (List.mem_cons_of_mem _ kw_492)) (fun _ h9 => h9) dX11_brings_66 (by decide) h (fun x32 h => ?_)
          refine r_getrN (C := RX4) (T := TX4) (N := 10) hx hb hts (fun w h => List.mem_cons_of_mem _ (iX4 w h)) hown hK hP rfl (by decide) rfl 1 (by decide) (nw_73 hK) (fun _ h9 => h9) dX11_brings_69 (by decide) h (fun x34 h => ?_)
          refine r_getrN (C := RX5) (T := TX5) (N := 9) hx hb hts (fun w h => List.mem_cons_of_mem _ (iX5 w h)) hown hK hP rfl (by decide) rfl 7 (by decide) (nw_67 hK) (fun _ h9 => h9) dX11_brings_72 (by decide) h (fun x36 h => ?_)
          refine lv_iload_n hx hb dX11_brings_75 rfl (lv_at hl 3 rfl) ?_
          refine r_iald hx hb hK hP dX11_brings_76 h (fun z38 h => ?_)
          refine lv_aload_n hx hb dX11_brings_77 rfl (lv_at hl 1 rfl) ?_
          refine r_getr (C := RX11) (T := TX11) (N := 16) hx hb hts (fun w h => List.mem_cons_of_mem _ (iX11 w h)) hown hK hP rfl (by decide) rfl 1 (by decide) (hts _ (List.mem_cons_of_mem _ kw_492)) (fun _ h9 => h9) dX11_brings_78 (by decide) h (fun x40 h => ?_)
          refine r_getrN (C := RX4) (T := TX4) (N := 10) hx hb hts (fun w h => List.mem_cons_of_mem _ (iX4 w h)) hown hK hP rfl (by decide) rfl 1 (by decide) (nw_73 hK) (fun _ h9 => h9) dX11_brings_81 (by decide) h (fun x42 h => ?_)
          refine r_getiN (C := RX5) (T := TX5) (N := 9) hx hb hts (fun w h => List.mem_cons_of_mem _ (iX5 w h)) hown hK hP rfl (by decide) rfl 0 (by decide) (nw_49 hK) (fun _ h9 => h9) dX11_brings_84 (by decide) h (fun z44 h => ?_)
          refine q_Vv hx hb hml hown hts hK hP hS (c_X10_suppose l D G S _ x30 zl1 zl2 z38 z44 _ h.2) ⟨callB_of 4 hts (gw_good kw_1091) rfl rfl rfl (hts _ (List.mem_cons_of_mem _ kw_9)) (hts _ (List.mem_cons_of_mem _ kw_1088)) hd_X10_suppose ⟨Nat.le_of_ble_eq_true rfl, Nat.le_of_ble_eq_true rfl⟩, (hts _ (List.mem_cons_of_mem _ kw_1089)), (hts _ (List.mem_cons_of_mem _ kw_1090))⟩ h.1 (ci := 10) rfl (by decide) rfl hl.1 rfl (lv_room (Nat.le_of_ble_eq_true rfl)) dX11_brings_87 ⟨Nat.zero_le _, Nat.zero_le _⟩ (fun M45 H locs h hP hS => ?_)
          refine lv_aload_n hx hb dX11_brings_90 rfl (lv_at hl 1 rfl) ?_
          refine r_getr (C := RX11) (T := TX11) (N := 16) hx hb hts (fun w h => List.mem_cons_of_mem _ (iX11 w h)) hown hK hP rfl (by decide) rfl 10 (by decide) (hts _ (List.mem_cons_of_mem _ kw_501)) (fun _ h9 => h9) dX11_brings_91 (by decide) h (fun x47 h => ?_)
          refine r_iconst hx hb dX11_brings_94 (by decide) h (fun z49 h => ?_)
          refine r_putiN (C := RX10) (T := TX10) (N := 12) hx hb hts (fun w h => List.mem_cons_of_mem _ (iX10 w h)) hown hK hP tyX10 tyX10_ok nmX10 hS rfl (by decide) rfl 10 (by decide) (nw_96 hK) (fun _ h9 => h9) rfl (tyX10_ok 10 (by decide)) rfl rfl dX11_brings_95 (by decide) h (fun M50 H locs h hP hS => ?_)
          refine lv_aload_n hx hb dX11_brings_98 rfl (lv_at hl 1 rfl) ?_
          refine r_getr (C := RX11) (T := TX11) (N := 16) hx hb hts (fun w h => List.mem_cons_of_mem _ (iX11 w h)) hown hK hP rfl (by decide) rfl 10 (by decide) (hts _ (List.mem_cons_of_mem _ kw_501)) (fun _ h9 => h9) dX11_brings_99 (by decide) h (fun x52 h => ?_)
          refine lv_aload_n hx hb dX11_brings_102 rfl (lv_at hl 1 rfl) ?_
          refine r_getr (C := RX11) (T := TX11) (N := 16) hx hb hts (fun w h => List.mem_cons_of_mem _ (iX11 w h)) hown hK hP rfl (by decide) rfl 1 (by decide) (hts _ (List.mem_cons_of_mem _ kw_492)) (fun _ h9 => h9) dX11_brings_103 (by decide) h (fun x54 h => ?_)
          refine r_getrN (C := RX4) (T := TX4) (N := 10) hx hb hts (fun w h => List.mem_cons_of_mem _ (iX4 w h)) hown hK hP rfl (by decide) rfl 0 (by decide) (nw_70 hK) (fun _ h9 => h9) dX11_brings_106 (by decide) h (fun x56 h => ?_)
          refine lv_iload hx hb dX11_brings_109 (lv_at hl 0 rfl) ?_
          refine lv_iload_n hx hb dX11_brings_111 rfl (lv_at hl 4 rfl) ?_
          refine q_Vi hx hb hml hown hts hK hP hS (c_X8_wayHours l D G S _ x56 z21 zl3 _ h.2) ⟨callB_of 2 hts (gw_good kw_1073) rfl rfl rfl (hts _ (List.mem_cons_of_mem _ kw_4)) (hts _ (List.mem_cons_of_mem _ kw_1070)) hd_X8_wayHours ⟨Nat.le_of_ble_eq_true rfl, Nat.le_of_ble_eq_true rfl⟩, (hts _ (List.mem_cons_of_mem _ kw_1071)), (hts _ (List.mem_cons_of_mem _ kw_1072))⟩ h.1 (ci := 8) rfl (by decide) rfl hl.1 rfl (lv_room (Nat.le_of_ble_eq_true rfl)) dX11_brings_112 ⟨Nat.zero_le _, Nat.zero_le _⟩ (fun z59 M57 H locs h hP hS => ?_)
          refine q_Vv hx hb hml hown hts hK hP hS (c_X10_holdFor l D G S _ x52 z59 _ h.2) ⟨callB_of 1 hts (gw_good kw_1095) rfl rfl rfl (hts _ (List.mem_cons_of_mem _ kw_9)) (hts _ (List.mem_cons_of_mem _ kw_1092)) hd_X10_holdFor ⟨Nat.le_of_ble_eq_true rfl, Nat.le_of_ble_eq_true rfl⟩, (hts _ (List.mem_cons_of_mem _ kw_1093)), (hts _ (List.mem_cons_of_mem _ kw_1094))⟩ h.1 (ci := 10) rfl (by decide) rfl hl.1 rfl (lv_room (Nat.le_of_ble_eq_true rfl)) dX11_brings_115 ⟨Nat.zero_le _, Nat.zero_le _⟩ (fun M60 H locs h hP hS => ?_)
          refine lv_aload_n hx hb dX11_brings_118 rfl (lv_at hl 1 rfl) ?_
          refine r_getr (C := RX11) (T := TX11) (N := 16) hx hb hts (fun w h => List.mem_cons_of_mem _ (iX11 w h)) hown hK hP rfl (by decide) rfl 10 (by decide) (hts _ (List.mem_cons_of_mem _ kw_501)) (fun _ h9 => h9) dX11_brings_119 (by decide) h (fun x62 h => ?_)
          refine r_getiN (C := RX10) (T := TX10) (N := 12) hx hb hts (fun w h => List.mem_cons_of_mem _ (iX10 w h)) hown hK hP rfl (by decide) rfl 6 (by decide) (nw_92 hK) (fun _ h9 => h9) dX11_brings_122 (by decide) h (fun z64 h => ?_)
          exact r_iret hx hb hr hlocks hP hS dX11_brings_125 h
        · refine r_bipush hx hb dX11_brings_56 (by decide) h (fun z66 h => ?_)
          exact r_iret hx hb hr hlocks hP hS dX11_brings_58 h
      · refine r_iconst hx hb dX11_brings_24 (by decide) h (fun z68 h => ?_)
        exact r_iret hx hb hr hlocks hP hS dX11_brings_25 h
/-! TurningMilk.isTurned(I)Z -/
abbrev RM_X11_isTurned : Room := { frames := 1, cells := 0, slots := 0, locals := 40 }
def cw_X11_isTurned : Cond := Cond.code yX11_isTurned cX11_isTurned 1 (Option.some FieldType.boolean)
theorem hd_X11_isTurned : yX11_isTurned.cls ≠ "java/lang/invoke/MethodHandle" ∧ yX11_isTurned.cls ≠ "java/lang/invoke/VarHandle" ∧ (parseMethodDescriptor yX11_isTurned.desc).map (fun d => d.parameters.length) = some 1 := by decide +kernel
theorem dX11_isTurned_0 : decode cX11_isTurned 0 = .ok (.iload_n 0, 1) := by decide +kernel
theorem dX11_isTurned_1 : decode cX11_isTurned 1 = .ok (.ifCond .lt 14, 3) := by decide +kernel
theorem dX11_isTurned_4 : decode cX11_isTurned 4 = .ok (.iload_n 0, 1) := by decide +kernel
theorem dX11_isTurned_5 : decode cX11_isTurned 5 = .ok (.sipush 999, 3) := by decide +kernel
theorem dX11_isTurned_8 : decode cX11_isTurned 8 = .ok (.if_icmp .gt 7, 3) := by decide +kernel
theorem dX11_isTurned_11 : decode cX11_isTurned 11 = .ok (.iconst 1, 1) := by decide +kernel
theorem dX11_isTurned_12 : decode cX11_isTurned 12 = .ok (.goto 4, 3) := by decide +kernel
theorem dX11_isTurned_15 : decode cX11_isTurned 15 = .ok (.iconst 0, 1) := by decide +kernel
theorem dX11_isTurned_16 : decode cX11_isTurned 16 = .ok (.ireturn, 1) := by decide +kernel
def wp_X11_isTurned (S : Sh) (M : Mm) (u0 : Int) (post : Int → Mm → Prop) : Prop := wIf (u0 < 0) (wC 0 fun v1 => (v1 = 0 ∨ v1 = 1) ∧ post v1 M) (wC 999 fun v3 => wIf (v3 < u0) (wC 0 fun v5 => (v5 = 0 ∨ v5 = 1) ∧ post v5 M) (wC 1 fun v7 => (v7 = 0 ∨ v7 = 1) ∧ post v7 M))
set_option maxHeartbeats 4000000 in
set_option maxRecDepth 100000 in
theorem c_X11_isTurned (l : Launch) (D : va_G) (G : Gt) (S : Sh) (M : Mm) (zl0 : Int32) (post : Int → Mm → Prop) (h : wp_X11_isTurned S M zl0.toInt post) : Met l yX11_isTurned (cw_X11_isTurned :: gw) RM_X11_isTurned (va_Pc [.int zl0] (fun U => KN D G U ∧ Wd D G S M U.heap)) (QI D G S post) 0 0 (aG G) := by
  refine Met.ofW (cc := cX11_isTurned) (maxL := 1) (ret := (some .boolean)) (by decide) rfl ?_
  intro p e s m args below meth c s₁ B hml hv
  obtain ⟨rfl, hK, hP⟩ := hv
  have hx := B.exec
  have hb := B.bytes
  have hr := B.returns
  have hts := atoms_spec (ws := cw_X11_isTurned :: gw) B.pre
  have hown : s.vm.findClass RX11 = some m.cls := findClass_of_methodNamed B.named
  have hlocks := B.notSynchronized
  have hS : va_S (aG G) s.heap s.heap [] := va_S.rf
  have C : Cx p s m ([.int zl0] : List Value).toArray meth c D G cX11_isTurned 1 (some .boolean) (cw_X11_isTurned :: gw) RX11 := ⟨hx, hb, hr, hlocks, hml, hown, hts, hK⟩
  have hl := lv_entry ([.int zl0]) (n := 1) (Nat.le_of_ble_eq_true rfl)
  rw [lg_entry_eq]
  generalize (lg_sl ([.int zl0]) ++ List.replicate (1 - (lg_sl ([.int zl0])).length) Slot.unset).toArray = ls at hl ⊢
  have hl : lv_has ls 1 [(0, .int zl0)] := hl
  unfold wp_X11_isTurned at h
  refine lv_iload_n hx hb dX11_isTurned_0 rfl (lv_at hl 0 rfl) ?_
  refine r_if_lt (tgt := 15) hx hb dX11_isTurned_1 (by decide) h (fun h => ?_) (fun h => ?_)
  · refine r_iconst hx hb dX11_isTurned_15 (by decide) h (fun z2 h => ?_)
    exact r_zret hx hb hr hlocks hP hS dX11_isTurned_16 h
  · refine lv_iload_n hx hb dX11_isTurned_4 rfl (lv_at hl 0 rfl) ?_
    refine r_sipush hx hb dX11_isTurned_5 (by decide) h (fun z4 h => ?_)
    refine r_icmp_gt (tgt := 15) hx hb dX11_isTurned_8 (by decide) h (fun h => ?_) (fun h => ?_)
    · refine r_iconst hx hb dX11_isTurned_15 (by decide) h (fun z6 h => ?_)
      exact r_zret hx hb hr hlocks hP hS dX11_isTurned_16 h
    · refine r_iconst hx hb dX11_isTurned_11 (by decide) h (fun z8 h => ?_)
      refine lv_goto (tgt := 16) hx hb dX11_isTurned_12 (by decide) ?_
      exact r_zret hx hb hr hlocks hP hS dX11_isTurned_16 h
/-! TurningMilk$Relay.setOut(IIII)V -/
abbrev RM_X2_setOut : Room := { frames := 4, cells := 0, slots := 0, locals := 107 }
def cw_X2_setOut : Cond := Cond.code yX2_setOut cX2_setOut 8 (Option.none : Option FieldType)
theorem hd_X2_setOut : yX2_setOut.cls ≠ "java/lang/invoke/MethodHandle" ∧ yX2_setOut.cls ≠ "java/lang/invoke/VarHandle" ∧ (parseMethodDescriptor yX2_setOut.desc).map (fun d => d.parameters.length) = some 4 := by decide +kernel
theorem dX2_setOut_0 : decode cX2_setOut 0 = .ok (.aload_n 0, 1) := by decide +kernel
theorem dX2_setOut_1 : decode cX2_setOut 1 = .ok (.iload_n 1, 1) := by decide +kernel
theorem dX2_setOut_2 : decode cX2_setOut 2 = .ok (.putfield 35, 3) := by decide +kernel
theorem dX2_setOut_5 : decode cX2_setOut 5 = .ok (.aload_n 0, 1) := by decide +kernel
theorem dX2_setOut_6 : decode cX2_setOut 6 = .ok (.iconst 0, 1) := by decide +kernel
theorem dX2_setOut_7 : decode cX2_setOut 7 = .ok (.putfield 39, 3) := by decide +kernel
theorem dX2_setOut_10 : decode cX2_setOut 10 = .ok (.iload_n 2, 1) := by decide +kernel
theorem dX2_setOut_11 : decode cX2_setOut 11 = .ok (.istore 5, 2) := by decide +kernel
theorem dX2_setOut_13 : decode cX2_setOut 13 = .ok (.iload 4, 2) := by decide +kernel
theorem dX2_setOut_15 : decode cX2_setOut 15 = .ok (.istore 6, 2) := by decide +kernel
theorem dX2_setOut_17 : decode cX2_setOut 17 = .ok (.aload_n 0, 1) := by decide +kernel
theorem dX2_setOut_18 : decode cX2_setOut 18 = .ok (.getfield 39, 3) := by decide +kernel
theorem dX2_setOut_21 : decode cX2_setOut 21 = .ok (.iconst 5, 1) := by decide +kernel
theorem dX2_setOut_22 : decode cX2_setOut 22 = .ok (.if_icmp .ge 96, 3) := by decide +kernel
theorem dX2_setOut_25 : decode cX2_setOut 25 = .ok (.iload 5, 2) := by decide +kernel
theorem dX2_setOut_27 : decode cX2_setOut 27 = .ok (.iload_n 3, 1) := by decide +kernel
theorem dX2_setOut_28 : decode cX2_setOut 28 = .ok (.if_icmp .eq 90, 3) := by decide +kernel
theorem dX2_setOut_31 : decode cX2_setOut 31 = .ok (.aload_n 0, 1) := by decide +kernel
theorem dX2_setOut_32 : decode cX2_setOut 32 = .ok (.getfield 34, 3) := by decide +kernel
theorem dX2_setOut_35 : decode cX2_setOut 35 = .ok (.iload 5, 2) := by decide +kernel
theorem dX2_setOut_37 : decode cX2_setOut 37 = .ok (.iload_n 3, 1) := by decide +kernel
theorem dX2_setOut_38 : decode cX2_setOut 38 = .ok (.invokevirtual 42, 3) := by decide +kernel
theorem dX2_setOut_41 : decode cX2_setOut 41 = .ok (.istore 7, 2) := by decide +kernel
theorem dX2_setOut_43 : decode cX2_setOut 43 = .ok (.iload 7, 2) := by decide +kernel
theorem dX2_setOut_45 : decode cX2_setOut 45 = .ok (.iconst (-1), 1) := by decide +kernel
theorem dX2_setOut_46 : decode cX2_setOut 46 = .ok (.if_icmp .ne 4, 3) := by decide +kernel
theorem dX2_setOut_49 : decode cX2_setOut 49 = .ok (.return_, 1) := by decide +kernel
theorem dX2_setOut_50 : decode cX2_setOut 50 = .ok (.aload_n 0, 1) := by decide +kernel
theorem dX2_setOut_51 : decode cX2_setOut 51 = .ok (.getfield 11, 3) := by decide +kernel
theorem dX2_setOut_54 : decode cX2_setOut 54 = .ok (.aload_n 0, 1) := by decide +kernel
theorem dX2_setOut_55 : decode cX2_setOut 55 = .ok (.getfield 39, 3) := by decide +kernel
theorem dX2_setOut_58 : decode cX2_setOut 58 = .ok (.aload_n 0, 1) := by decide +kernel
theorem dX2_setOut_59 : decode cX2_setOut 59 = .ok (.getfield 34, 3) := by decide +kernel
theorem dX2_setOut_62 : decode cX2_setOut 62 = .ok (.iload 5, 2) := by decide +kernel
theorem dX2_setOut_64 : decode cX2_setOut 64 = .ok (.iload 7, 2) := by decide +kernel
theorem dX2_setOut_66 : decode cX2_setOut 66 = .ok (.invokevirtual 48, 3) := by decide +kernel
theorem dX2_setOut_69 : decode cX2_setOut 69 = .ok (.iastore, 1) := by decide +kernel
theorem dX2_setOut_70 : decode cX2_setOut 70 = .ok (.aload_n 0, 1) := by decide +kernel
theorem dX2_setOut_71 : decode cX2_setOut 71 = .ok (.getfield 15, 3) := by decide +kernel
theorem dX2_setOut_74 : decode cX2_setOut 74 = .ok (.aload_n 0, 1) := by decide +kernel
theorem dX2_setOut_75 : decode cX2_setOut 75 = .ok (.getfield 39, 3) := by decide +kernel
theorem dX2_setOut_78 : decode cX2_setOut 78 = .ok (.sipush 999, 3) := by decide +kernel
theorem dX2_setOut_81 : decode cX2_setOut 81 = .ok (.iload 6, 2) := by decide +kernel
theorem dX2_setOut_83 : decode cX2_setOut 83 = .ok (.invokestatic 51, 3) := by decide +kernel
theorem dX2_setOut_86 : decode cX2_setOut 86 = .ok (.iastore, 1) := by decide +kernel
theorem dX2_setOut_87 : decode cX2_setOut 87 = .ok (.iload 6, 2) := by decide +kernel
theorem dX2_setOut_89 : decode cX2_setOut 89 = .ok (.aload_n 0, 1) := by decide +kernel
theorem dX2_setOut_90 : decode cX2_setOut 90 = .ok (.getfield 11, 3) := by decide +kernel
theorem dX2_setOut_93 : decode cX2_setOut 93 = .ok (.aload_n 0, 1) := by decide +kernel
theorem dX2_setOut_94 : decode cX2_setOut 94 = .ok (.getfield 39, 3) := by decide +kernel
theorem dX2_setOut_97 : decode cX2_setOut 97 = .ok (.iaload, 1) := by decide +kernel
theorem dX2_setOut_98 : decode cX2_setOut 98 = .ok (.iadd, 1) := by decide +kernel
theorem dX2_setOut_99 : decode cX2_setOut 99 = .ok (.istore 6, 2) := by decide +kernel
theorem dX2_setOut_101 : decode cX2_setOut 101 = .ok (.iload 7, 2) := by decide +kernel
theorem dX2_setOut_103 : decode cX2_setOut 103 = .ok (.istore 5, 2) := by decide +kernel
theorem dX2_setOut_105 : decode cX2_setOut 105 = .ok (.aload_n 0, 1) := by decide +kernel
theorem dX2_setOut_106 : decode cX2_setOut 106 = .ok (.dup, 1) := by decide +kernel
theorem dX2_setOut_107 : decode cX2_setOut 107 = .ok (.getfield 39, 3) := by decide +kernel
theorem dX2_setOut_110 : decode cX2_setOut 110 = .ok (.iconst 1, 1) := by decide +kernel
theorem dX2_setOut_111 : decode cX2_setOut 111 = .ok (.iadd, 1) := by decide +kernel
theorem dX2_setOut_112 : decode cX2_setOut 112 = .ok (.putfield 39, 3) := by decide +kernel
theorem dX2_setOut_115 : decode cX2_setOut 115 = .ok (.goto (-98), 3) := by decide +kernel
theorem dX2_setOut_118 : decode cX2_setOut 118 = .ok (.return_, 1) := by decide +kernel
def wp_X2_setOut_17 (S : Sh) (post : Mm → Prop) : Nat → Int → Int → Int → Int → Mm → Prop
  | 0, _, _, _, _, _ => False
  | n + 1, u0, u3, u5, u6, M => wGet S M u0 2 6 fun v1 => wC 5 fun v3 => wIf (v3 ≤ v1) (post M) (wIf (u5 = u3) (post M) (wGetR S M u0 2 1 fun v5 => isK S v5 8 ∧ (wp_X8_nextPlace S M v5 u5 u3 <| fun v8 M7 => wC (-1) fun v10 => wIf (¬ v8 = v10) (wGetR S M7 u0 2 2 fun v12 => wGet S M7 u0 2 6 fun v14 => wGetR S M7 u0 2 1 fun v16 => isK S v16 8 ∧ (wp_X8_roadHours S M7 v16 u5 v8 <| fun v19 M18 => wSt S M18 v12 14 v14 v19 fun M21 => wGetR S M21 u0 2 3 fun v22 => wGet S M21 u0 2 6 fun v24 => wC 999 fun v26 => wO min v26 u6 fun v28 => wSt S M21 v22 14 v24 v28 fun M30 => wGetR S M30 u0 2 2 fun v31 => wGet S M30 u0 2 6 fun v33 => wLd S M30 v31 14 v33 fun v35 => wA u6 v35 fun v37 => wGet S M30 u0 2 6 fun v39 => wC 1 fun v41 => wA v39 v41 fun v43 => wPut S M30 u0 2 6 v43 fun M45 => wp_X2_setOut_17 S post n u0 u3 v8 v37 M45)) (post M7))))
def wp_X2_setOut (S : Sh) (M : Mm) (u0 : Int) (u1 : Int) (u2 : Int) (u3 : Int) (u4 : Int) (post : Mm → Prop) : Prop := wPut S M u0 2 7 u1 fun M46 => wC 0 fun v47 => wPut S M46 u0 2 6 v47 fun M49 => ∃ n9 : Nat, wp_X2_setOut_17 S post n9 u0 u3 u2 u4 M49
set_option maxHeartbeats 4000000 in
set_option maxRecDepth 100000 in
theorem t_X2_setOut_17 {p : Program} {l : Launch} {e : Env} {s : State} {m : MethodId} {args : Array Value} {below : List Frame} {meth : Method} {c : Code} {D : va_G} {G : Gt} {S : Sh} {post : Mm → Prop} (C : Cx p s m args meth c D G cX2_setOut 8 none (cw_X2_setOut :: gw) RX2) : ∀ (n : Nat) (xl0 : Int) (zl3 : Int32) (zl5 : Int32) (zl6 : Int32) (M : Mm) (H : Heap) (locs : List Loc) (ls : Array Slot), Wd D G S M H → va_S (aG G) s.heap H locs → lv_has ls 8 [(0, .ref (adr G xl0)), (3, .int zl3), (5, .int zl5), (6, .int zl6)] → wp_X2_setOut_17 S post n xl0 zl3.toInt zl5.toInt zl6.toInt  M → W p l e RM_X2_setOut s m args below meth c H locs 0 0 (MQ below (QV D G S post) args s 0 0 (aG G)) (F0 m 17 ls []) := by
  obtain ⟨hx, hb, hr, hlocks, hml, hown, hts, hK⟩ := id C
  intro n
  induction n with
  | zero => intro xl0 zl3 zl5 zl6 M H locs ls hP hS hl h; exact h.elim
  | succ n ih =>
    intro xl0 zl3 zl5 zl6 M H locs ls hP hS hl h
    unfold wp_X2_setOut_17 at h
    refine lv_aload_n hx hb dX2_setOut_17 rfl (lv_at hl 0 rfl) ?_
    refine r_geti (C := RX2) (T := TX2) (N := 11) hx hb hts (fun w h => List.mem_cons_of_mem _ (iX2 w h)) hown hK hP rfl (by decide) rfl 6 (by decide) (hts _ (List.mem_cons_of_mem _ kw_421)) (fun _ h9 => h9) dX2_setOut_18 (by decide) h (fun z2 h => ?_)
    refine r_iconst hx hb dX2_setOut_21 (by decide) h (fun z4 h => ?_)
    refine r_icmp_ge (tgt := 118) hx hb dX2_setOut_22 (by decide) h (fun h => ?_) (fun h => ?_)
    · exact r_vret hx hb hr hlocks hP hS dX2_setOut_118 h
    · refine lv_iload hx hb dX2_setOut_25 (lv_at hl 2 rfl) ?_
      refine lv_iload_n hx hb dX2_setOut_27 rfl (lv_at hl 1 rfl) ?_
      refine r_icmp_eq (tgt := 118) hx hb dX2_setOut_28 (by decide) h (fun h => ?_) (fun h => ?_)
      · exact r_vret hx hb hr hlocks hP hS dX2_setOut_118 h
      · refine lv_aload_n hx hb dX2_setOut_31 rfl (lv_at hl 0 rfl) ?_
        refine r_getr (C := RX2) (T := TX2) (N := 11) hx hb hts (fun w h => List.mem_cons_of_mem _ (iX2 w h)) hown hK hP rfl (by decide) rfl 1 (by decide) (hts _ (List.mem_cons_of_mem _ kw_416)) (fun _ h9 => h9) dX2_setOut_32 (by decide) h (fun x6 h => ?_)
        refine lv_iload hx hb dX2_setOut_35 (lv_at hl 2 rfl) ?_
        refine lv_iload_n hx hb dX2_setOut_37 rfl (lv_at hl 1 rfl) ?_
        refine q_Vi hx hb hml hown hts hK hP hS (c_X8_nextPlace l D G S _ x6 zl5 zl3 _ h.2) ⟨callB_of 2 hts (gw_good kw_1077) rfl rfl rfl (hts _ (List.mem_cons_of_mem _ kw_4)) (hts _ (List.mem_cons_of_mem _ kw_1109)) hd_X8_nextPlace ⟨Nat.le_of_ble_eq_true rfl, Nat.le_of_ble_eq_true rfl⟩, (hts _ (List.mem_cons_of_mem _ kw_1075)), (hts _ (List.mem_cons_of_mem _ kw_1076))⟩ h.1 (ci := 8) rfl (by decide) rfl hl.1 rfl (lv_room (Nat.le_of_ble_eq_true rfl)) dX2_setOut_38 ⟨Nat.zero_le _, Nat.zero_le _⟩ (fun z9 M7 H locs h hP hS => ?_)
        refine lv_istore (lv' := [(7, .int z9), (0, .ref (adr G xl0)), (3, .int zl3), (5, .int zl5), (6, .int zl6)]) hx hb dX2_setOut_41 hl (by decide) rfl (fun ls hl => ?_)
        refine lv_iload hx hb dX2_setOut_43 (lv_at hl 0 rfl) ?_
        refine r_iconst hx hb dX2_setOut_45 (by decide) h (fun z11 h => ?_)
        refine r_icmp_ne (tgt := 50) hx hb dX2_setOut_46 (by decide) h (fun h => ?_) (fun h => ?_)
        · refine lv_aload_n hx hb dX2_setOut_50 rfl (lv_at hl 1 rfl) ?_
          refine r_getr (C := RX2) (T := TX2) (N := 11) hx hb hts (fun w h => List.mem_cons_of_mem _ (iX2 w h)) hown hK hP rfl (by decide) rfl 2 (by decide) (hts _ (List.mem_cons_of_mem _ kw_417)) (fun _ h9 => h9) dX2_setOut_51 (by decide) h (fun x13 h => ?_)
          refine lv_aload_n hx hb dX2_setOut_54 rfl (lv_at hl 1 rfl) ?_
          refine r_geti (C := RX2) (T := TX2) (N := 11) hx hb hts (fun w h => List.mem_cons_of_mem _ (iX2 w h)) hown hK hP rfl (by decide) rfl 6 (by decide) (hts _ (List.mem_cons_of_mem _ kw_421)) (fun _ h9 => h9) dX2_setOut_55 (by decide) h (fun z15 h => ?_)
          refine lv_aload_n hx hb dX2_setOut_58 rfl (lv_at hl 1 rfl) ?_
          refine r_getr (C := RX2) (T := TX2) (N := 11) hx hb hts (fun w h => List.mem_cons_of_mem _ (iX2 w h)) hown hK hP rfl (by decide) rfl 1 (by decide) (hts _ (List.mem_cons_of_mem _ kw_416)) (fun _ h9 => h9) dX2_setOut_59 (by decide) h (fun x17 h => ?_)
          refine lv_iload hx hb dX2_setOut_62 (lv_at hl 3 rfl) ?_
          refine lv_iload hx hb dX2_setOut_64 (lv_at hl 0 rfl) ?_
          refine q_Vi hx hb hml hown hts hK hP hS (c_X8_roadHours l D G S _ x17 zl5 z9 _ h.2) ⟨callB_of 2 hts (gw_good kw_685) rfl rfl rfl (hts _ (List.mem_cons_of_mem _ kw_4)) (hts _ (List.mem_cons_of_mem _ kw_1110)) hd_X8_roadHours ⟨Nat.le_of_ble_eq_true rfl, Nat.le_of_ble_eq_true rfl⟩, (hts _ (List.mem_cons_of_mem _ kw_683)), (hts _ (List.mem_cons_of_mem _ kw_684))⟩ h.1 (ci := 8) rfl (by decide) rfl hl.1 rfl (lv_room (Nat.le_of_ble_eq_true rfl)) dX2_setOut_66 ⟨Nat.zero_le _, Nat.zero_le _⟩ (fun z20 M18 H locs h hP hS => ?_)
          refine r_iast hx hb hK hP hS dX2_setOut_69 h (fun M21 H locs h hP hS => ?_)
          refine lv_aload_n hx hb dX2_setOut_70 rfl (lv_at hl 1 rfl) ?_
          refine r_getr (C := RX2) (T := TX2) (N := 11) hx hb hts (fun w h => List.mem_cons_of_mem _ (iX2 w h)) hown hK hP rfl (by decide) rfl 3 (by decide) (hts _ (List.mem_cons_of_mem _ kw_418)) (fun _ h9 => h9) dX2_setOut_71 (by decide) h (fun x23 h => ?_)
          refine lv_aload_n hx hb dX2_setOut_74 rfl (lv_at hl 1 rfl) ?_
          refine r_geti (C := RX2) (T := TX2) (N := 11) hx hb hts (fun w h => List.mem_cons_of_mem _ (iX2 w h)) hown hK hP rfl (by decide) rfl 6 (by decide) (hts _ (List.mem_cons_of_mem _ kw_421)) (fun _ h9 => h9) dX2_setOut_75 (by decide) h (fun z25 h => ?_)
          refine r_sipush hx hb dX2_setOut_78 (by decide) h (fun z27 h => ?_)
          refine lv_iload hx hb dX2_setOut_81 (lv_at hl 4 rfl) ?_
          refine r_mmin hx hb (hml.trans hl.1.symm) hown (hts _ (List.mem_cons_of_mem _ kw_1111)) (hts _ (List.mem_cons_of_mem _ kw_719)) (hts _ (List.mem_cons_of_mem _ kw_19)) (hts _ (List.mem_cons_of_mem _ kw_720)) (Nat.le_of_ble_eq_true rfl) (Nat.le_of_ble_eq_true rfl) (Nat.zero_le _) (Nat.zero_le _) dX2_setOut_83 h (fun z29 h => ?_)
          refine r_iast hx hb hK hP hS dX2_setOut_86 h (fun M30 H locs h hP hS => ?_)
          refine lv_iload hx hb dX2_setOut_87 (lv_at hl 4 rfl) ?_
          refine lv_aload_n hx hb dX2_setOut_89 rfl (lv_at hl 1 rfl) ?_
          refine r_getr (C := RX2) (T := TX2) (N := 11) hx hb hts (fun w h => List.mem_cons_of_mem _ (iX2 w h)) hown hK hP rfl (by decide) rfl 2 (by decide) (hts _ (List.mem_cons_of_mem _ kw_417)) (fun _ h9 => h9) dX2_setOut_90 (by decide) h (fun x32 h => ?_)
          refine lv_aload_n hx hb dX2_setOut_93 rfl (lv_at hl 1 rfl) ?_
          refine r_geti (C := RX2) (T := TX2) (N := 11) hx hb hts (fun w h => List.mem_cons_of_mem _ (iX2 w h)) hown hK hP rfl (by decide) rfl 6 (by decide) (hts _ (List.mem_cons_of_mem _ kw_421)) (fun _ h9 => h9) dX2_setOut_94 (by decide) h (fun z34 h => ?_)
          refine r_iald hx hb hK hP dX2_setOut_97 h (fun z36 h => ?_)
          refine r_iadd hx hb dX2_setOut_98 h (fun z38 h => ?_)
          refine lv_istore (lv' := [(6, .int z38), (7, .int z9), (0, .ref (adr G xl0)), (3, .int zl3), (5, .int zl5)]) hx hb dX2_setOut_99 hl (by decide) rfl (fun ls hl => ?_)
          refine lv_iload hx hb dX2_setOut_101 (lv_at hl 1 rfl) ?_
          refine lv_istore (lv' := [(5, .int z9), (6, .int z38), (7, .int z9), (0, .ref (adr G xl0)), (3, .int zl3)]) hx hb dX2_setOut_103 hl (by decide) rfl (fun ls hl => ?_)
          refine lv_aload_n hx hb dX2_setOut_105 rfl (lv_at hl 3 rfl) ?_
          refine lv_dup hx hb dX2_setOut_106 rfl ?_
          refine r_geti (C := RX2) (T := TX2) (N := 11) hx hb hts (fun w h => List.mem_cons_of_mem _ (iX2 w h)) hown hK hP rfl (by decide) rfl 6 (by decide) (hts _ (List.mem_cons_of_mem _ kw_421)) (fun _ h9 => h9) dX2_setOut_107 (by decide) h (fun z40 h => ?_)
          refine r_iconst hx hb dX2_setOut_110 (by decide) h (fun z42 h => ?_)
          refine r_iadd hx hb dX2_setOut_111 h (fun z44 h => ?_)
          refine r_puti (C := RX2) (T := TX2) (N := 11) hx hb hts (fun w h => List.mem_cons_of_mem _ (iX2 w h)) hown hK hP tyX2 tyX2_ok nmX2 hS rfl (by decide) rfl 6 (by decide) (hts _ (List.mem_cons_of_mem _ kw_421)) (fun _ h9 => h9) rfl (tyX2_ok 6 (by decide)) rfl rfl dX2_setOut_112 (by decide) h (fun M45 H locs h hP hS => ?_)
          refine lv_goto (tgt := 17) hx hb dX2_setOut_115 (by decide) ?_
          exact ih xl0 zl3 z9 z38 _ _ _ _ hP hS (lv_sub hl [3, 4, 0, 1] rfl) h
        · exact r_vret hx hb hr hlocks hP hS dX2_setOut_49 h
set_option maxHeartbeats 4000000 in
set_option maxRecDepth 100000 in
theorem c_X2_setOut (l : Launch) (D : va_G) (G : Gt) (S : Sh) (M : Mm) (xl0 : Int) (zl1 : Int32) (zl2 : Int32) (zl3 : Int32) (zl4 : Int32) (post : Mm → Prop) (h : wp_X2_setOut S M xl0 zl1.toInt zl2.toInt zl3.toInt zl4.toInt post) : Met l yX2_setOut (cw_X2_setOut :: gw) RM_X2_setOut (va_Pc [.ref (adr G xl0), .int zl1, .int zl2, .int zl3, .int zl4] (fun U => KN D G U ∧ Wd D G S M U.heap)) (QV D G S post) 0 0 (aG G) := by
  refine Met.ofW (cc := cX2_setOut) (maxL := 8) (ret := none) (by decide) rfl ?_
  intro p e s m args below meth c s₁ B hml hv
  obtain ⟨rfl, hK, hP⟩ := hv
  have hx := B.exec
  have hb := B.bytes
  have hr := B.returns
  have hts := atoms_spec (ws := cw_X2_setOut :: gw) B.pre
  have hown : s.vm.findClass RX2 = some m.cls := findClass_of_methodNamed B.named
  have hlocks := B.notSynchronized
  have hS : va_S (aG G) s.heap s.heap [] := va_S.rf
  have C : Cx p s m ([.ref (adr G xl0), .int zl1, .int zl2, .int zl3, .int zl4] : List Value).toArray meth c D G cX2_setOut 8 none (cw_X2_setOut :: gw) RX2 := ⟨hx, hb, hr, hlocks, hml, hown, hts, hK⟩
  have hl := lv_entry ([.ref (adr G xl0), .int zl1, .int zl2, .int zl3, .int zl4]) (n := 8) (Nat.le_of_ble_eq_true rfl)
  rw [lg_entry_eq]
  generalize (lg_sl ([.ref (adr G xl0), .int zl1, .int zl2, .int zl3, .int zl4]) ++ List.replicate (8 - (lg_sl ([.ref (adr G xl0), .int zl1, .int zl2, .int zl3, .int zl4])).length) Slot.unset).toArray = ls at hl ⊢
  have hl : lv_has ls 8 [(0, .ref (adr G xl0)), (1, .int zl1), (2, .int zl2), (3, .int zl3), (4, .int zl4)] := hl
  unfold wp_X2_setOut at h
  refine lv_aload_n hx hb dX2_setOut_0 rfl (lv_at hl 0 rfl) ?_
  refine lv_iload_n hx hb dX2_setOut_1 rfl (lv_at hl 1 rfl) ?_
  refine r_puti (C := RX2) (T := TX2) (N := 11) hx hb hts (fun w h => List.mem_cons_of_mem _ (iX2 w h)) hown hK hP tyX2 tyX2_ok nmX2 hS rfl (by decide) rfl 7 (by decide) (hts _ (List.mem_cons_of_mem _ kw_422)) (fun _ h9 => h9) rfl (tyX2_ok 7 (by decide)) rfl rfl dX2_setOut_2 (by decide) h (fun M46 H locs h hP hS => ?_)
  refine lv_aload_n hx hb dX2_setOut_5 rfl (lv_at hl 0 rfl) ?_
  refine r_iconst hx hb dX2_setOut_6 (by decide) h (fun z48 h => ?_)
  refine r_puti (C := RX2) (T := TX2) (N := 11) hx hb hts (fun w h => List.mem_cons_of_mem _ (iX2 w h)) hown hK hP tyX2 tyX2_ok nmX2 hS rfl (by decide) rfl 6 (by decide) (hts _ (List.mem_cons_of_mem _ kw_421)) (fun _ h9 => h9) rfl (tyX2_ok 6 (by decide)) rfl rfl dX2_setOut_7 (by decide) h (fun M49 H locs h hP hS => ?_)
  refine lv_iload_n hx hb dX2_setOut_10 rfl (lv_at hl 2 rfl) ?_
  refine lv_istore (lv' := [(5, .int zl2), (0, .ref (adr G xl0)), (1, .int zl1), (2, .int zl2), (3, .int zl3), (4, .int zl4)]) hx hb dX2_setOut_11 hl (by decide) rfl (fun ls hl => ?_)
  refine lv_iload hx hb dX2_setOut_13 (lv_at hl 5 rfl) ?_
  refine lv_istore (lv' := [(6, .int zl4), (5, .int zl2), (0, .ref (adr G xl0)), (1, .int zl1), (2, .int zl2), (3, .int zl3), (4, .int zl4)]) hx hb dX2_setOut_15 hl (by decide) rfl (fun ls hl => ?_)
  obtain ⟨n9, h⟩ := h
  exact t_X2_setOut_17 C n9 xl0 zl3 zl2 zl4 _ _ _ _ hP hS (lv_sub hl [2, 5, 1, 0] rfl) h
/-! TurningMilk$Relay.carried(III)I -/
abbrev RM_X2_carried : Room := { frames := 5, cells := 0, slots := 0, locals := 129 }
def cw_X2_carried : Cond := Cond.code yX2_carried cX2_carried 4 (Option.some FieldType.int)
theorem hd_X2_carried : yX2_carried.cls ≠ "java/lang/invoke/MethodHandle" ∧ yX2_carried.cls ≠ "java/lang/invoke/VarHandle" ∧ (parseMethodDescriptor yX2_carried.desc).map (fun d => d.parameters.length) = some 3 := by decide +kernel
theorem dX2_carried_0 : decode cX2_carried 0 = .ok (.aload_n 0, 1) := by decide +kernel
theorem dX2_carried_1 : decode cX2_carried 1 = .ok (.getfield 24, 3) := by decide +kernel
theorem dX2_carried_4 : decode cX2_carried 4 = .ok (.iload_n 2, 1) := by decide +kernel
theorem dX2_carried_5 : decode cX2_carried 5 = .ok (.aload_n 0, 1) := by decide +kernel
theorem dX2_carried_6 : decode cX2_carried 6 = .ok (.getfield 35, 3) := by decide +kernel
theorem dX2_carried_9 : decode cX2_carried 9 = .ok (.iload_n 3, 1) := by decide +kernel
theorem dX2_carried_10 : decode cX2_carried 10 = .ok (.aload_n 0, 1) := by decide +kernel
theorem dX2_carried_11 : decode cX2_carried 11 = .ok (.getfield 15, 3) := by decide +kernel
theorem dX2_carried_14 : decode cX2_carried 14 = .ok (.iload_n 1, 1) := by decide +kernel
theorem dX2_carried_15 : decode cX2_carried 15 = .ok (.iaload, 1) := by decide +kernel
theorem dX2_carried_16 : decode cX2_carried 16 = .ok (.invokevirtual 75, 3) := by decide +kernel
theorem dX2_carried_19 : decode cX2_carried 19 = .ok (.aload_n 0, 1) := by decide +kernel
theorem dX2_carried_20 : decode cX2_carried 20 = .ok (.getfield 24, 3) := by decide +kernel
theorem dX2_carried_23 : decode cX2_carried 23 = .ok (.iconst 1, 1) := by decide +kernel
theorem dX2_carried_24 : decode cX2_carried 24 = .ok (.putfield 79, 3) := by decide +kernel
theorem dX2_carried_27 : decode cX2_carried 27 = .ok (.aload_n 0, 1) := by decide +kernel
theorem dX2_carried_28 : decode cX2_carried 28 = .ok (.getfield 24, 3) := by decide +kernel
theorem dX2_carried_31 : decode cX2_carried 31 = .ok (.aload_n 0, 1) := by decide +kernel
theorem dX2_carried_32 : decode cX2_carried 32 = .ok (.getfield 11, 3) := by decide +kernel
theorem dX2_carried_35 : decode cX2_carried 35 = .ok (.iload_n 1, 1) := by decide +kernel
theorem dX2_carried_36 : decode cX2_carried 36 = .ok (.iaload, 1) := by decide +kernel
theorem dX2_carried_37 : decode cX2_carried 37 = .ok (.invokevirtual 82, 3) := by decide +kernel
theorem dX2_carried_40 : decode cX2_carried 40 = .ok (.aload_n 0, 1) := by decide +kernel
theorem dX2_carried_41 : decode cX2_carried 41 = .ok (.getfield 24, 3) := by decide +kernel
theorem dX2_carried_44 : decode cX2_carried 44 = .ok (.getfield 86, 3) := by decide +kernel
theorem dX2_carried_47 : decode cX2_carried 47 = .ok (.ireturn, 1) := by decide +kernel
def wp_X2_carried (S : Sh) (M : Mm) (u0 : Int) (u1 : Int) (u2 : Int) (u3 : Int) (post : Int → Mm → Prop) : Prop := wGetR S M u0 2 0 fun v1 => wGet S M u0 2 7 fun v3 => wGetR S M u0 2 3 fun v5 => wLd S M v5 14 u1 fun v7 => isK S v1 10 ∧ (wp_X10_suppose S M v1 u2 v3 u3 v7 <| fun M9 => wGetR S M9 u0 2 0 fun v10 => wC 1 fun v12 => wPut S M9 v10 10 10 v12 fun M14 => wGetR S M14 u0 2 0 fun v15 => wGetR S M14 u0 2 2 fun v17 => wLd S M14 v17 14 u1 fun v19 => isK S v15 10 ∧ (wp_X10_holdFor S M14 v15 v19 <| fun M21 => wGetR S M21 u0 2 0 fun v22 => wGet S M21 v22 10 6 fun v24 => post v24 M21))
set_option maxHeartbeats 4000000 in
set_option maxRecDepth 100000 in
theorem c_X2_carried (l : Launch) (D : va_G) (G : Gt) (S : Sh) (M : Mm) (xl0 : Int) (zl1 : Int32) (zl2 : Int32) (zl3 : Int32) (post : Int → Mm → Prop) (h : wp_X2_carried S M xl0 zl1.toInt zl2.toInt zl3.toInt post) : Met l yX2_carried (cw_X2_carried :: gw) RM_X2_carried (va_Pc [.ref (adr G xl0), .int zl1, .int zl2, .int zl3] (fun U => KN D G U ∧ Wd D G S M U.heap)) (QI D G S post) 0 0 (aG G) := by
  refine Met.ofW (cc := cX2_carried) (maxL := 4) (ret := (some .int)) (by decide) rfl ?_
  intro p e s m args below meth c s₁ B hml hv
  obtain ⟨rfl, hK, hP⟩ := hv
  have hx := B.exec
  have hb := B.bytes
  have hr := B.returns
  have hts := atoms_spec (ws := cw_X2_carried :: gw) B.pre
  have hown : s.vm.findClass RX2 = some m.cls := findClass_of_methodNamed B.named
  have hlocks := B.notSynchronized
  have hS : va_S (aG G) s.heap s.heap [] := va_S.rf
  have C : Cx p s m ([.ref (adr G xl0), .int zl1, .int zl2, .int zl3] : List Value).toArray meth c D G cX2_carried 4 (some .int) (cw_X2_carried :: gw) RX2 := ⟨hx, hb, hr, hlocks, hml, hown, hts, hK⟩
  have hl := lv_entry ([.ref (adr G xl0), .int zl1, .int zl2, .int zl3]) (n := 4) (Nat.le_of_ble_eq_true rfl)
  rw [lg_entry_eq]
  generalize (lg_sl ([.ref (adr G xl0), .int zl1, .int zl2, .int zl3]) ++ List.replicate (4 - (lg_sl ([.ref (adr G xl0), .int zl1, .int zl2, .int zl3])).length) Slot.unset).toArray = ls at hl ⊢
  have hl : lv_has ls 4 [(0, .ref (adr G xl0)), (1, .int zl1), (2, .int zl2), (3, .int zl3)] := hl
  unfold wp_X2_carried at h
  refine lv_aload_n hx hb dX2_carried_0 rfl (lv_at hl 0 rfl) ?_
  refine r_getr (C := RX2) (T := TX2) (N := 11) hx hb hts (fun w h => List.mem_cons_of_mem _ (iX2 w h)) hown hK hP rfl (by decide) rfl 0 (by decide) (hts _ (List.mem_cons_of_mem _ kw_415)) (fun _ h9 => h9) dX2_carried_1 (by decide) h (fun x2 h => ?_)
  refine lv_iload_n hx hb dX2_carried_4 rfl (lv_at hl 2 rfl) ?_
  refine lv_aload_n hx hb dX2_carried_5 rfl (lv_at hl 0 rfl) ?_
  refine r_geti (C := RX2) (T := TX2) (N := 11) hx hb hts (fun w h => List.mem_cons_of_mem _ (iX2 w h)) hown hK hP rfl (by decide) rfl 7 (by decide) (hts _ (List.mem_cons_of_mem _ kw_422)) (fun _ h9 => h9) dX2_carried_6 (by decide) h (fun z4 h => ?_)
  refine lv_iload_n hx hb dX2_carried_9 rfl (lv_at hl 3 rfl) ?_
  refine lv_aload_n hx hb dX2_carried_10 rfl (lv_at hl 0 rfl) ?_
  refine r_getr (C := RX2) (T := TX2) (N := 11) hx hb hts (fun w h => List.mem_cons_of_mem _ (iX2 w h)) hown hK hP rfl (by decide) rfl 3 (by decide) (hts _ (List.mem_cons_of_mem _ kw_418)) (fun _ h9 => h9) dX2_carried_11 (by decide) h (fun x6 h => ?_)
  refine lv_iload_n hx hb dX2_carried_14 rfl (lv_at hl 1 rfl) ?_
  refine r_iald hx hb hK hP dX2_carried_15 h (fun z8 h => ?_)
  refine q_Vv hx hb hml hown hts hK hP hS (c_X10_suppose l D G S _ x2 zl2 z4 zl3 z8 _ h.2) ⟨callB_of 4 hts (gw_good kw_1091) rfl rfl rfl (hts _ (List.mem_cons_of_mem _ kw_9)) (hts _ (List.mem_cons_of_mem _ kw_1130)) hd_X10_suppose ⟨Nat.le_of_ble_eq_true rfl, Nat.le_of_ble_eq_true rfl⟩, (hts _ (List.mem_cons_of_mem _ kw_1089)), (hts _ (List.mem_cons_of_mem _ kw_1090))⟩ h.1 (ci := 10) rfl (by decide) rfl hl.1 rfl (lv_room (Nat.le_of_ble_eq_true rfl)) dX2_carried_16 ⟨Nat.zero_le _, Nat.zero_le _⟩ (fun M9 H locs h hP hS => ?_)
  refine lv_aload_n hx hb dX2_carried_19 rfl (lv_at hl 0 rfl) ?_
  refine r_getr (C := RX2) (T := TX2) (N := 11) hx hb hts (fun w h => List.mem_cons_of_mem _ (iX2 w h)) hown hK hP rfl (by decide) rfl 0 (by decide) (hts _ (List.mem_cons_of_mem _ kw_415)) (fun _ h9 => h9) dX2_carried_20 (by decide) h (fun x11 h => ?_)
  refine r_iconst hx hb dX2_carried_23 (by decide) h (fun z13 h => ?_)
  refine r_putiN (C := RX10) (T := TX10) (N := 12) hx hb hts (fun w h => List.mem_cons_of_mem _ (iX10 w h)) hown hK hP tyX10 tyX10_ok nmX10 hS rfl (by decide) rfl 10 (by decide) (nw_95 hK) (fun _ h9 => h9) rfl (tyX10_ok 10 (by decide)) rfl rfl dX2_carried_24 (by decide) h (fun M14 H locs h hP hS => ?_)
  refine lv_aload_n hx hb dX2_carried_27 rfl (lv_at hl 0 rfl) ?_
  refine r_getr (C := RX2) (T := TX2) (N := 11) hx hb hts (fun w h => List.mem_cons_of_mem _ (iX2 w h)) hown hK hP rfl (by decide) rfl 0 (by decide) (hts _ (List.mem_cons_of_mem _ kw_415)) (fun _ h9 => h9) dX2_carried_28 (by decide) h (fun x16 h => ?_)
  refine lv_aload_n hx hb dX2_carried_31 rfl (lv_at hl 0 rfl) ?_
  refine r_getr (C := RX2) (T := TX2) (N := 11) hx hb hts (fun w h => List.mem_cons_of_mem _ (iX2 w h)) hown hK hP rfl (by decide) rfl 2 (by decide) (hts _ (List.mem_cons_of_mem _ kw_417)) (fun _ h9 => h9) dX2_carried_32 (by decide) h (fun x18 h => ?_)
  refine lv_iload_n hx hb dX2_carried_35 rfl (lv_at hl 1 rfl) ?_
  refine r_iald hx hb hK hP dX2_carried_36 h (fun z20 h => ?_)
  refine q_Vv hx hb hml hown hts hK hP hS (c_X10_holdFor l D G S _ x16 z20 _ h.2) ⟨callB_of 1 hts (gw_good kw_1095) rfl rfl rfl (hts _ (List.mem_cons_of_mem _ kw_9)) (hts _ (List.mem_cons_of_mem _ kw_1131)) hd_X10_holdFor ⟨Nat.le_of_ble_eq_true rfl, Nat.le_of_ble_eq_true rfl⟩, (hts _ (List.mem_cons_of_mem _ kw_1093)), (hts _ (List.mem_cons_of_mem _ kw_1094))⟩ h.1 (ci := 10) rfl (by decide) rfl hl.1 rfl (lv_room (Nat.le_of_ble_eq_true rfl)) dX2_carried_37 ⟨Nat.zero_le _, Nat.zero_le _⟩ (fun M21 H locs h hP hS => ?_)
  refine lv_aload_n hx hb dX2_carried_40 rfl (lv_at hl 0 rfl) ?_
  refine r_getr (C := RX2) (T := TX2) (N := 11) hx hb hts (fun w h => List.mem_cons_of_mem _ (iX2 w h)) hown hK hP rfl (by decide) rfl 0 (by decide) (hts _ (List.mem_cons_of_mem _ kw_415)) (fun _ h9 => h9) dX2_carried_41 (by decide) h (fun x23 h => ?_)
  refine r_getiN (C := RX10) (T := TX10) (N := 12) hx hb hts (fun w h => List.mem_cons_of_mem _ (iX10 w h)) hown hK hP rfl (by decide) rfl 6 (by decide) (nw_91 hK) (fun _ h9 => h9) dX2_carried_44 (by decide) h (fun z25 h => ?_)
  exact r_iret hx hb hr hlocks hP hS dX2_carried_47 h
/-! visit, 0 deep -/
abbrev RM_X2_visit_d0 : Room := { frames := 6, cells := 0, slots := 0, locals := 152 }
def cw_X2_visit_d0 : Cond := Cond.code yX2_visit cX2_visit 8 (Option.none : Option FieldType)
theorem hd_X2_visit_d0 : yX2_visit.cls ≠ "java/lang/invoke/MethodHandle" ∧ yX2_visit.cls ≠ "java/lang/invoke/VarHandle" ∧ (parseMethodDescriptor yX2_visit.desc).map (fun d => d.parameters.length) = some 2 := by decide +kernel
theorem dX2_visit_0 : decode cX2_visit 0 = .ok (.iload_n 1, 1) := by decide +kernel
theorem dX2_visit_1 : decode cX2_visit 1 = .ok (.sipush 1000, 3) := by decide +kernel
theorem dX2_visit_4 : decode cX2_visit 4 = .ok (.imul, 1) := by decide +kernel
theorem dX2_visit_5 : decode cX2_visit 5 = .ok (.iload_n 2, 1) := by decide +kernel
theorem dX2_visit_6 : decode cX2_visit 6 = .ok (.iadd, 1) := by decide +kernel
theorem dX2_visit_7 : decode cX2_visit 7 = .ok (.istore_n 3, 1) := by decide +kernel
theorem dX2_visit_8 : decode cX2_visit 8 = .ok (.iload_n 1, 1) := by decide +kernel
theorem dX2_visit_9 : decode cX2_visit 9 = .ok (.iconst 5, 1) := by decide +kernel
theorem dX2_visit_10 : decode cX2_visit 10 = .ok (.if_icmp .gt 13, 3) := by decide +kernel
theorem dX2_visit_13 : decode cX2_visit 13 = .ok (.aload_n 0, 1) := by decide +kernel
theorem dX2_visit_14 : decode cX2_visit 14 = .ok (.getfield 18, 3) := by decide +kernel
theorem dX2_visit_17 : decode cX2_visit 17 = .ok (.iload_n 3, 1) := by decide +kernel
theorem dX2_visit_18 : decode cX2_visit 18 = .ok (.iaload, 1) := by decide +kernel
theorem dX2_visit_19 : decode cX2_visit 19 = .ok (.iconst (-1), 1) := by decide +kernel
theorem dX2_visit_20 : decode cX2_visit 20 = .ok (.if_icmp .eq 4, 3) := by decide +kernel
theorem dX2_visit_23 : decode cX2_visit 23 = .ok (.return_, 1) := by decide +kernel
theorem dX2_visit_24 : decode cX2_visit 24 = .ok (.iload_n 1, 1) := by decide +kernel
theorem dX2_visit_25 : decode cX2_visit 25 = .ok (.aload_n 0, 1) := by decide +kernel
theorem dX2_visit_26 : decode cX2_visit 26 = .ok (.getfield 39, 3) := by decide +kernel
theorem dX2_visit_29 : decode cX2_visit 29 = .ok (.if_icmp .lt 38, 3) := by decide +kernel
theorem dX2_visit_32 : decode cX2_visit 32 = .ok (.aload_n 0, 1) := by decide +kernel
theorem dX2_visit_33 : decode cX2_visit 33 = .ok (.getfield 18, 3) := by decide +kernel
theorem dX2_visit_36 : decode cX2_visit 36 = .ok (.iload_n 3, 1) := by decide +kernel
theorem dX2_visit_37 : decode cX2_visit 37 = .ok (.aload_n 0, 1) := by decide +kernel
theorem dX2_visit_38 : decode cX2_visit 38 = .ok (.getfield 59, 3) := by decide +kernel
theorem dX2_visit_41 : decode cX2_visit 41 = .ok (.iload_n 2, 1) := by decide +kernel
theorem dX2_visit_42 : decode cX2_visit 42 = .ok (.if_icmp .gt 15, 3) := by decide +kernel
theorem dX2_visit_45 : decode cX2_visit 45 = .ok (.iload_n 2, 1) := by decide +kernel
theorem dX2_visit_46 : decode cX2_visit 46 = .ok (.aload_n 0, 1) := by decide +kernel
theorem dX2_visit_47 : decode cX2_visit 47 = .ok (.getfield 62, 3) := by decide +kernel
theorem dX2_visit_50 : decode cX2_visit 50 = .ok (.if_icmp .gt 7, 3) := by decide +kernel
theorem dX2_visit_53 : decode cX2_visit 53 = .ok (.iconst 1, 1) := by decide +kernel
theorem dX2_visit_54 : decode cX2_visit 54 = .ok (.goto 4, 3) := by decide +kernel
theorem dX2_visit_57 : decode cX2_visit 57 = .ok (.iconst 0, 1) := by decide +kernel
theorem dX2_visit_58 : decode cX2_visit 58 = .ok (.iastore, 1) := by decide +kernel
theorem dX2_visit_59 : decode cX2_visit 59 = .ok (.aload_n 0, 1) := by decide +kernel
theorem dX2_visit_60 : decode cX2_visit 60 = .ok (.getfield 21, 3) := by decide +kernel
theorem dX2_visit_63 : decode cX2_visit 63 = .ok (.iload_n 3, 1) := by decide +kernel
theorem dX2_visit_64 : decode cX2_visit 64 = .ok (.iload_n 2, 1) := by decide +kernel
theorem dX2_visit_65 : decode cX2_visit 65 = .ok (.iastore, 1) := by decide +kernel
theorem dX2_visit_66 : decode cX2_visit 66 = .ok (.return_, 1) := by decide +kernel
theorem dX2_visit_67 : decode cX2_visit 67 = .ok (.iconst 0, 1) := by decide +kernel
theorem dX2_visit_68 : decode cX2_visit 68 = .ok (.istore 4, 2) := by decide +kernel
theorem dX2_visit_70 : decode cX2_visit 70 = .ok (.sipush 999, 3) := by decide +kernel
theorem dX2_visit_73 : decode cX2_visit 73 = .ok (.istore 5, 2) := by decide +kernel
theorem dX2_visit_75 : decode cX2_visit 75 = .ok (.iconst 0, 1) := by decide +kernel
theorem dX2_visit_76 : decode cX2_visit 76 = .ok (.istore 6, 2) := by decide +kernel
theorem dX2_visit_78 : decode cX2_visit 78 = .ok (.iload 6, 2) := by decide +kernel
theorem dX2_visit_80 : decode cX2_visit 80 = .ok (.aload_n 0, 1) := by decide +kernel
theorem dX2_visit_81 : decode cX2_visit 81 = .ok (.getfield 34, 3) := by decide +kernel
theorem dX2_visit_84 : decode cX2_visit 84 = .ok (.getfield 89, 3) := by decide +kernel
theorem dX2_visit_87 : decode cX2_visit 87 = .ok (.if_icmp .ge 70, 3) := by decide +kernel
theorem dX2_visit_90 : decode cX2_visit 90 = .ok (.aload_n 0, 1) := by decide +kernel
theorem dX2_visit_91 : decode cX2_visit 91 = .ok (.iload_n 1, 1) := by decide +kernel
theorem dX2_visit_92 : decode cX2_visit 92 = .ok (.iload 6, 2) := by decide +kernel
theorem dX2_visit_94 : decode cX2_visit 94 = .ok (.iload_n 2, 1) := by decide +kernel
theorem dX2_visit_95 : decode cX2_visit 95 = .ok (.invokevirtual 92, 3) := by decide +kernel
theorem dX2_visit_98 : decode cX2_visit 98 = .ok (.istore 7, 2) := by decide +kernel
theorem dX2_visit_100 : decode cX2_visit 100 = .ok (.aload_n 0, 1) := by decide +kernel
theorem dX2_visit_101 : decode cX2_visit 101 = .ok (.iload_n 1, 1) := by decide +kernel
theorem dX2_visit_102 : decode cX2_visit 102 = .ok (.iconst 1, 1) := by decide +kernel
theorem dX2_visit_103 : decode cX2_visit 103 = .ok (.iadd, 1) := by decide +kernel
theorem dX2_visit_104 : decode cX2_visit 104 = .ok (.iload 7, 2) := by decide +kernel
theorem dX2_visit_106 : decode cX2_visit 106 = .ok (.invokevirtual 71, 3) := by decide +kernel
theorem dX2_visit_109 : decode cX2_visit 109 = .ok (.iload 4, 2) := by decide +kernel
theorem dX2_visit_111 : decode cX2_visit 111 = .ok (.aload_n 0, 1) := by decide +kernel
theorem dX2_visit_112 : decode cX2_visit 112 = .ok (.getfield 18, 3) := by decide +kernel
theorem dX2_visit_115 : decode cX2_visit 115 = .ok (.iload_n 1, 1) := by decide +kernel
theorem dX2_visit_116 : decode cX2_visit 116 = .ok (.iconst 1, 1) := by decide +kernel
theorem dX2_visit_117 : decode cX2_visit 117 = .ok (.iadd, 1) := by decide +kernel
theorem dX2_visit_118 : decode cX2_visit 118 = .ok (.sipush 1000, 3) := by decide +kernel
theorem dX2_visit_121 : decode cX2_visit 121 = .ok (.imul, 1) := by decide +kernel
theorem dX2_visit_122 : decode cX2_visit 122 = .ok (.iload 7, 2) := by decide +kernel
theorem dX2_visit_124 : decode cX2_visit 124 = .ok (.iadd, 1) := by decide +kernel
theorem dX2_visit_125 : decode cX2_visit 125 = .ok (.iaload, 1) := by decide +kernel
theorem dX2_visit_126 : decode cX2_visit 126 = .ok (.iadd, 1) := by decide +kernel
theorem dX2_visit_127 : decode cX2_visit 127 = .ok (.istore 4, 2) := by decide +kernel
theorem dX2_visit_129 : decode cX2_visit 129 = .ok (.iload 5, 2) := by decide +kernel
theorem dX2_visit_131 : decode cX2_visit 131 = .ok (.aload_n 0, 1) := by decide +kernel
theorem dX2_visit_132 : decode cX2_visit 132 = .ok (.getfield 21, 3) := by decide +kernel
theorem dX2_visit_135 : decode cX2_visit 135 = .ok (.iload_n 1, 1) := by decide +kernel
theorem dX2_visit_136 : decode cX2_visit 136 = .ok (.iconst 1, 1) := by decide +kernel
theorem dX2_visit_137 : decode cX2_visit 137 = .ok (.iadd, 1) := by decide +kernel
theorem dX2_visit_138 : decode cX2_visit 138 = .ok (.sipush 1000, 3) := by decide +kernel
theorem dX2_visit_141 : decode cX2_visit 141 = .ok (.imul, 1) := by decide +kernel
theorem dX2_visit_142 : decode cX2_visit 142 = .ok (.iload 7, 2) := by decide +kernel
theorem dX2_visit_144 : decode cX2_visit 144 = .ok (.iadd, 1) := by decide +kernel
theorem dX2_visit_145 : decode cX2_visit 145 = .ok (.iaload, 1) := by decide +kernel
theorem dX2_visit_146 : decode cX2_visit 146 = .ok (.invokestatic 51, 3) := by decide +kernel
theorem dX2_visit_149 : decode cX2_visit 149 = .ok (.istore 5, 2) := by decide +kernel
theorem dX2_visit_151 : decode cX2_visit 151 = .ok (.iinc 6 1, 3) := by decide +kernel
theorem dX2_visit_154 : decode cX2_visit 154 = .ok (.goto (-76), 3) := by decide +kernel
theorem dX2_visit_157 : decode cX2_visit 157 = .ok (.aload_n 0, 1) := by decide +kernel
theorem dX2_visit_158 : decode cX2_visit 158 = .ok (.getfield 18, 3) := by decide +kernel
theorem dX2_visit_161 : decode cX2_visit 161 = .ok (.iload_n 3, 1) := by decide +kernel
theorem dX2_visit_162 : decode cX2_visit 162 = .ok (.iload 4, 2) := by decide +kernel
theorem dX2_visit_164 : decode cX2_visit 164 = .ok (.iastore, 1) := by decide +kernel
theorem dX2_visit_165 : decode cX2_visit 165 = .ok (.aload_n 0, 1) := by decide +kernel
theorem dX2_visit_166 : decode cX2_visit 166 = .ok (.getfield 21, 3) := by decide +kernel
theorem dX2_visit_169 : decode cX2_visit 169 = .ok (.iload_n 3, 1) := by decide +kernel
theorem dX2_visit_170 : decode cX2_visit 170 = .ok (.iload 5, 2) := by decide +kernel
theorem dX2_visit_172 : decode cX2_visit 172 = .ok (.iastore, 1) := by decide +kernel
theorem dX2_visit_173 : decode cX2_visit 173 = .ok (.return_, 1) := by decide +kernel
def wp_X2_visit_d0_78 (S : Sh) (post : Mm → Prop) : Nat → Int → Int → Int → Int → Int → Int → Int → Mm → Prop
  | 0, _, _, _, _, _, _, _, _ => False
  | n + 1, u0, u1, u2, u3, u4, u5, u6, M => wGetR S M u0 2 1 fun v1 => wGet S M v1 8 4 fun v3 => wIf (v3 ≤ u6) (wGetR S M u0 2 4 fun v5 => wSt S M v5 14 u3 u4 fun M7 => wGetR S M7 u0 2 5 fun v8 => wSt S M7 v8 14 u3 u5 fun M10 => post M10) (isK S u0 2 ∧ (wp_X2_carried S M u0 u1 u6 u2 <| fun v12 M11 => wC 1 fun v14 => wA u1 v14 fun v16 => False))
def wp_X2_visit_d0_58 (S : Sh) (post : Mm → Prop) (u0 : Int) (u2 : Int) (u3 : Int) (t0 : Int) (t1 : Int) (t2 : Int) (M : Mm) : Prop := wSt S M t0 14 t1 t2 fun M18 => wGetR S M18 u0 2 5 fun v19 => wSt S M18 v19 14 u3 u2 fun M21 => post M21
def wp_X2_visit_d0_57 (S : Sh) (post : Mm → Prop) (u0 : Int) (u2 : Int) (u3 : Int) (t0 : Int) (t1 : Int) (M : Mm) : Prop := wC 0 fun v22 => wp_X2_visit_d0_58 S post u0 u2 u3 t0 t1 v22 M
def wp_X2_visit_d0 (S : Sh) (M : Mm) (u0 : Int) (u1 : Int) (u2 : Int) (post : Mm → Prop) : Prop := wC 1000 fun v24 => wM u1 v24 fun v26 => wA v26 u2 fun v28 => wC 5 fun v30 => wIf (v30 < u1) (post M) (wGetR S M u0 2 4 fun v32 => wLd S M v32 14 v28 fun v34 => wC (-1) fun v36 => wIf (v34 = v36) (wGet S M u0 2 6 fun v38 => wIf (u1 < v38) (wC 0 fun v40 => wC 999 fun v42 => wC 0 fun v44 => ∃ n9 : Nat, wp_X2_visit_d0_78 S post n9 u0 u1 u2 v28 v40 v42 v44 M) (wGetR S M u0 2 4 fun v46 => wGet S M u0 2 9 fun v48 => wIf (u2 < v48) (wp_X2_visit_d0_57 S post u0 u2 v28 v46 v28 M) (wGet S M u0 2 10 fun v50 => wIf (v50 < u2) (wp_X2_visit_d0_57 S post u0 u2 v28 v46 v28 M) (wC 1 fun v52 => wp_X2_visit_d0_58 S post u0 u2 v28 v46 v28 v52 M)))) (post M))
set_option maxHeartbeats 4000000 in
set_option maxRecDepth 100000 in
theorem t_X2_visit_d0_78 {p : Program} {l : Launch} {e : Env} {s : State} {m : MethodId} {args : Array Value} {below : List Frame} {meth : Method} {c : Code} {D : va_G} {G : Gt} {S : Sh} {post : Mm → Prop} (C : Cx p s m args meth c D G cX2_visit 8 none (cw_X2_visit_d0 :: gw) RX2) : ∀ (n : Nat) (xl0 : Int) (zl1 : Int32) (zl2 : Int32) (zl3 : Int32) (zl4 : Int32) (zl5 : Int32) (zl6 : Int32) (M : Mm) (H : Heap) (locs : List Loc) (ls : Array Slot), Wd D G S M H → va_S (aG G) s.heap H locs → lv_has ls 8 [(0, .ref (adr G xl0)), (1, .int zl1), (2, .int zl2), (3, .int zl3), (4, .int zl4), (5, .int zl5), (6, .int zl6)] → wp_X2_visit_d0_78 S post n xl0 zl1.toInt zl2.toInt zl3.toInt zl4.toInt zl5.toInt zl6.toInt  M → W p l e RM_X2_visit_d0 s m args below meth c H locs 0 0 (MQ below (QV D G S post) args s 0 0 (aG G)) (F0 m 78 ls []) := by
  obtain ⟨hx, hb, hr, hlocks, hml, hown, hts, hK⟩ := id C
  intro n
  induction n with
  | zero => intro xl0 zl1 zl2 zl3 zl4 zl5 zl6 M H locs ls hP hS hl h; exact h.elim
  | succ n ih =>
    intro xl0 zl1 zl2 zl3 zl4 zl5 zl6 M H locs ls hP hS hl h
    unfold wp_X2_visit_d0_78 at h
    refine lv_iload hx hb dX2_visit_78 (lv_at hl 6 rfl) ?_
    refine lv_aload_n hx hb dX2_visit_80 rfl (lv_at hl 0 rfl) ?_
    refine r_getr (C := RX2) (T := TX2) (N := 11) hx hb hts (fun w h => List.mem_cons_of_mem _ (iX2 w h)) hown hK hP rfl (by decide) rfl 1 (by decide) (hts _ (List.mem_cons_of_mem _ kw_416)) (fun _ h9 => h9) dX2_visit_81 (by decide) h (fun x2 h => ?_)
    refine r_getiN (C := RX8) (T := TX8) (N := 19) hx hb hts (fun w h => List.mem_cons_of_mem _ (iX8 w h)) hown hK hP rfl (by decide) rfl 4 (by decide) (nw_15 hK) (fun _ h9 => h9) dX2_visit_84 (by decide) h (fun z4 h => ?_)
    refine r_icmp_ge (tgt := 157) hx hb dX2_visit_87 (by decide) h (fun h => ?_) (fun h => ?_)
    · refine lv_aload_n hx hb dX2_visit_157 rfl (lv_at hl 0 rfl) ?_
      refine r_getr (C := RX2) (T := TX2) (N := 11) hx hb hts (fun w h => List.mem_cons_of_mem _ (iX2 w h)) hown hK hP rfl (by decide) rfl 4 (by decide) (hts _ (List.mem_cons_of_mem _ kw_419)) (fun _ h9 => h9) dX2_visit_158 (by decide) h (fun x6 h => ?_)
      refine lv_iload_n hx hb dX2_visit_161 rfl (lv_at hl 3 rfl) ?_
      refine lv_iload hx hb dX2_visit_162 (lv_at hl 4 rfl) ?_
      refine r_iast hx hb hK hP hS dX2_visit_164 h (fun M7 H locs h hP hS => ?_)
      refine lv_aload_n hx hb dX2_visit_165 rfl (lv_at hl 0 rfl) ?_
      refine r_getr (C := RX2) (T := TX2) (N := 11) hx hb hts (fun w h => List.mem_cons_of_mem _ (iX2 w h)) hown hK hP rfl (by decide) rfl 5 (by decide) (hts _ (List.mem_cons_of_mem _ kw_420)) (fun _ h9 => h9) dX2_visit_166 (by decide) h (fun x9 h => ?_)
      refine lv_iload_n hx hb dX2_visit_169 rfl (lv_at hl 3 rfl) ?_
      refine lv_iload hx hb dX2_visit_170 (lv_at hl 5 rfl) ?_
      refine r_iast hx hb hK hP hS dX2_visit_172 h (fun M10 H locs h hP hS => ?_)
      exact r_vret hx hb hr hlocks hP hS dX2_visit_173 h
    · refine lv_aload_n hx hb dX2_visit_90 rfl (lv_at hl 0 rfl) ?_
      refine lv_iload_n hx hb dX2_visit_91 rfl (lv_at hl 1 rfl) ?_
      refine lv_iload hx hb dX2_visit_92 (lv_at hl 6 rfl) ?_
      refine lv_iload_n hx hb dX2_visit_94 rfl (lv_at hl 2 rfl) ?_
      refine q_Vi hx hb hml hown hts hK hP hS (c_X2_carried l D G S _ xl0 zl1 zl6 zl2 _ h.2) ⟨callB_of 3 hts (gw_good kw_1129) rfl rfl rfl (hts _ (List.mem_cons_of_mem _ kw_11)) (hts _ (List.mem_cons_of_mem _ kw_1126)) hd_X2_carried ⟨Nat.le_of_ble_eq_true rfl, Nat.le_of_ble_eq_true rfl⟩, (hts _ (List.mem_cons_of_mem _ kw_1128)), (hts _ (List.mem_cons_of_mem _ kp_41))⟩ h.1 (ci := 2) rfl (by decide) rfl hl.1 rfl (lv_room (Nat.le_of_ble_eq_true rfl)) dX2_visit_95 ⟨Nat.zero_le _, Nat.zero_le _⟩ (fun z13 M11 H locs h hP hS => ?_)
      refine lv_istore (lv' := [(7, .int z13), (0, .ref (adr G xl0)), (1, .int zl1), (2, .int zl2), (3, .int zl3), (4, .int zl4), (5, .int zl5), (6, .int zl6)]) hx hb dX2_visit_98 hl (by decide) rfl (fun ls hl => ?_)
      refine lv_aload_n hx hb dX2_visit_100 rfl (lv_at hl 1 rfl) ?_
      refine lv_iload_n hx hb dX2_visit_101 rfl (lv_at hl 2 rfl) ?_
      refine r_iconst hx hb dX2_visit_102 (by decide) h (fun z15 h => ?_)
      refine r_iadd hx hb dX2_visit_103 h (fun z17 h => ?_)
      refine lv_iload hx hb dX2_visit_104 (lv_at hl 0 rfl) ?_
      exact False.elim h
set_option maxHeartbeats 4000000 in
set_option maxRecDepth 100000 in
theorem t_X2_visit_d0_58 {p : Program} {l : Launch} {e : Env} {s : State} {m : MethodId} {args : Array Value} {below : List Frame} {meth : Method} {c : Code} {D : va_G} {G : Gt} {S : Sh} {post : Mm → Prop} (C : Cx p s m args meth c D G cX2_visit 8 none (cw_X2_visit_d0 :: gw) RX2) : ∀ (xl0 : Int) (zl2 : Int32) (zl3 : Int32) (xs0 : Int) (zs1 : Int32) (zs2 : Int32) (M : Mm) (H : Heap) (locs : List Loc) (ls : Array Slot), Wd D G S M H → va_S (aG G) s.heap H locs → lv_has ls 8 [(0, .ref (adr G xl0)), (2, .int zl2), (3, .int zl3)] → wp_X2_visit_d0_58 S post xl0 zl2.toInt zl3.toInt xs0 zs1.toInt zs2.toInt M → W p l e RM_X2_visit_d0 s m args below meth c H locs 0 0 (MQ below (QV D G S post) args s 0 0 (aG G)) (F0 m 58 ls [.int zs2, .int zs1, .ref (adr G xs0)]) := by
  obtain ⟨hx, hb, hr, hlocks, hml, hown, hts, hK⟩ := id C
  intro xl0 zl2 zl3 xs0 zs1 zs2 M H locs ls hP hS hl h
  unfold wp_X2_visit_d0_58 at h
  refine r_iast hx hb hK hP hS dX2_visit_58 h (fun M18 H locs h hP hS => ?_)
  refine lv_aload_n hx hb dX2_visit_59 rfl (lv_at hl 0 rfl) ?_
  refine r_getr (C := RX2) (T := TX2) (N := 11) hx hb hts (fun w h => List.mem_cons_of_mem _ (iX2 w h)) hown hK hP rfl (by decide) rfl 5 (by decide) (hts _ (List.mem_cons_of_mem _ kw_420)) (fun _ h9 => h9) dX2_visit_60 (by decide) h (fun x20 h => ?_)
  refine lv_iload_n hx hb dX2_visit_63 rfl (lv_at hl 2 rfl) ?_
  refine lv_iload_n hx hb dX2_visit_64 rfl (lv_at hl 1 rfl) ?_
  refine r_iast hx hb hK hP hS dX2_visit_65 h (fun M21 H locs h hP hS => ?_)
  exact r_vret hx hb hr hlocks hP hS dX2_visit_66 h
set_option maxHeartbeats 4000000 in
set_option maxRecDepth 100000 in
theorem t_X2_visit_d0_57 {p : Program} {l : Launch} {e : Env} {s : State} {m : MethodId} {args : Array Value} {below : List Frame} {meth : Method} {c : Code} {D : va_G} {G : Gt} {S : Sh} {post : Mm → Prop} (C : Cx p s m args meth c D G cX2_visit 8 none (cw_X2_visit_d0 :: gw) RX2) : ∀ (xl0 : Int) (zl2 : Int32) (zl3 : Int32) (xs0 : Int) (zs1 : Int32) (M : Mm) (H : Heap) (locs : List Loc) (ls : Array Slot), Wd D G S M H → va_S (aG G) s.heap H locs → lv_has ls 8 [(0, .ref (adr G xl0)), (2, .int zl2), (3, .int zl3)] → wp_X2_visit_d0_57 S post xl0 zl2.toInt zl3.toInt xs0 zs1.toInt M → W p l e RM_X2_visit_d0 s m args below meth c H locs 0 0 (MQ below (QV D G S post) args s 0 0 (aG G)) (F0 m 57 ls [.int zs1, .ref (adr G xs0)]) := by
  obtain ⟨hx, hb, hr, hlocks, hml, hown, hts, hK⟩ := id C
  intro xl0 zl2 zl3 xs0 zs1 M H locs ls hP hS hl h
  unfold wp_X2_visit_d0_57 at h
  refine r_iconst hx hb dX2_visit_57 (by decide) h (fun z23 h => ?_)
  exact t_X2_visit_d0_58 C xl0 zl2 zl3 xs0 zs1 z23 _ _ _ _ hP hS (lv_sub hl [0, 1, 2] rfl) h
set_option maxHeartbeats 4000000 in
set_option maxRecDepth 100000 in
theorem c_X2_visit_d0 (l : Launch) (D : va_G) (G : Gt) (S : Sh) (M : Mm) (xl0 : Int) (zl1 : Int32) (zl2 : Int32) (post : Mm → Prop) (h : wp_X2_visit_d0 S M xl0 zl1.toInt zl2.toInt post) : Met l yX2_visit (cw_X2_visit_d0 :: gw) RM_X2_visit_d0 (va_Pc [.ref (adr G xl0), .int zl1, .int zl2] (fun U => KN D G U ∧ Wd D G S M U.heap)) (QV D G S post) 0 0 (aG G) := by
  refine Met.ofW (cc := cX2_visit) (maxL := 8) (ret := none) (by decide) rfl ?_
  intro p e s m args below meth c s₁ B hml hv
  obtain ⟨rfl, hK, hP⟩ := hv
  have hx := B.exec
  have hb := B.bytes
  have hr := B.returns
  have hts := atoms_spec (ws := cw_X2_visit_d0 :: gw) B.pre
  have hown : s.vm.findClass RX2 = some m.cls := findClass_of_methodNamed B.named
  have hlocks := B.notSynchronized
  have hS : va_S (aG G) s.heap s.heap [] := va_S.rf
  have C : Cx p s m ([.ref (adr G xl0), .int zl1, .int zl2] : List Value).toArray meth c D G cX2_visit 8 none (cw_X2_visit_d0 :: gw) RX2 := ⟨hx, hb, hr, hlocks, hml, hown, hts, hK⟩
  have hl := lv_entry ([.ref (adr G xl0), .int zl1, .int zl2]) (n := 8) (Nat.le_of_ble_eq_true rfl)
  rw [lg_entry_eq]
  generalize (lg_sl ([.ref (adr G xl0), .int zl1, .int zl2]) ++ List.replicate (8 - (lg_sl ([.ref (adr G xl0), .int zl1, .int zl2])).length) Slot.unset).toArray = ls at hl ⊢
  have hl : lv_has ls 8 [(0, .ref (adr G xl0)), (1, .int zl1), (2, .int zl2)] := hl
  unfold wp_X2_visit_d0 at h
  refine lv_iload_n hx hb dX2_visit_0 rfl (lv_at hl 1 rfl) ?_
  refine r_sipush hx hb dX2_visit_1 (by decide) h (fun z25 h => ?_)
  refine r_imul hx hb dX2_visit_4 h (fun z27 h => ?_)
  refine lv_iload_n hx hb dX2_visit_5 rfl (lv_at hl 2 rfl) ?_
  refine r_iadd hx hb dX2_visit_6 h (fun z29 h => ?_)
  refine lv_istore_n (lv' := [(3, .int z29), (0, .ref (adr G xl0)), (1, .int zl1), (2, .int zl2)]) hx hb dX2_visit_7 rfl hl (by decide) rfl (fun ls hl => ?_)
  refine lv_iload_n hx hb dX2_visit_8 rfl (lv_at hl 2 rfl) ?_
  refine r_iconst hx hb dX2_visit_9 (by decide) h (fun z31 h => ?_)
  refine r_icmp_gt (tgt := 23) hx hb dX2_visit_10 (by decide) h (fun h => ?_) (fun h => ?_)
  · exact r_vret hx hb hr hlocks hP hS dX2_visit_23 h
  · refine lv_aload_n hx hb dX2_visit_13 rfl (lv_at hl 1 rfl) ?_
    refine r_getr (C := RX2) (T := TX2) (N := 11) hx hb hts (fun w h => List.mem_cons_of_mem _ (iX2 w h)) hown hK hP rfl (by decide) rfl 4 (by decide) (hts _ (List.mem_cons_of_mem _ kw_419)) (fun _ h9 => h9) dX2_visit_14 (by decide) h (fun x33 h => ?_)
    refine lv_iload_n hx hb dX2_visit_17 rfl (lv_at hl 0 rfl) ?_
    refine r_iald hx hb hK hP dX2_visit_18 h (fun z35 h => ?_)
    refine r_iconst hx hb dX2_visit_19 (by decide) h (fun z37 h => ?_)
    refine r_icmp_eq (tgt := 24) hx hb dX2_visit_20 (by decide) h (fun h => ?_) (fun h => ?_)
    · refine lv_iload_n hx hb dX2_visit_24 rfl (lv_at hl 2 rfl) ?_
      refine lv_aload_n hx hb dX2_visit_25 rfl (lv_at hl 1 rfl) ?_
      refine r_geti (C := RX2) (T := TX2) (N := 11) hx hb hts (fun w h => List.mem_cons_of_mem _ (iX2 w h)) hown hK hP rfl (by decide) rfl 6 (by decide) (hts _ (List.mem_cons_of_mem _ kw_421)) (fun _ h9 => h9) dX2_visit_26 (by decide) h (fun z39 h => ?_)
      refine r_icmp_lt (tgt := 67) hx hb dX2_visit_29 (by decide) h (fun h => ?_) (fun h => ?_)
      · refine r_iconst hx hb dX2_visit_67 (by decide) h (fun z41 h => ?_)
        refine lv_istore (lv' := [(4, .int z41), (3, .int z29), (0, .ref (adr G xl0)), (1, .int zl1), (2, .int zl2)]) hx hb dX2_visit_68 hl (by decide) rfl (fun ls hl => ?_)
        refine r_sipush hx hb dX2_visit_70 (by decide) h (fun z43 h => ?_)
        refine lv_istore (lv' := [(5, .int z43), (4, .int z41), (3, .int z29), (0, .ref (adr G xl0)), (1, .int zl1), (2, .int zl2)]) hx hb dX2_visit_73 hl (by decide) rfl (fun ls hl => ?_)
        refine r_iconst hx hb dX2_visit_75 (by decide) h (fun z45 h => ?_)
        refine lv_istore (lv' := [(6, .int z45), (5, .int z43), (4, .int z41), (3, .int z29), (0, .ref (adr G xl0)), (1, .int zl1), (2, .int zl2)]) hx hb dX2_visit_76 hl (by decide) rfl (fun ls hl => ?_)
        obtain ⟨n9, h⟩ := h
        exact t_X2_visit_d0_78 C n9 xl0 zl1 zl2 z29 z41 z43 z45 _ _ _ _ hP hS (lv_sub hl [4, 5, 6, 3, 2, 1, 0] rfl) h
      · refine lv_aload_n hx hb dX2_visit_32 rfl (lv_at hl 1 rfl) ?_
        refine r_getr (C := RX2) (T := TX2) (N := 11) hx hb hts (fun w h => List.mem_cons_of_mem _ (iX2 w h)) hown hK hP rfl (by decide) rfl 4 (by decide) (hts _ (List.mem_cons_of_mem _ kw_419)) (fun _ h9 => h9) dX2_visit_33 (by decide) h (fun x47 h => ?_)
        refine lv_iload_n hx hb dX2_visit_36 rfl (lv_at hl 0 rfl) ?_
        refine lv_aload_n hx hb dX2_visit_37 rfl (lv_at hl 1 rfl) ?_
        refine r_geti (C := RX2) (T := TX2) (N := 11) hx hb hts (fun w h => List.mem_cons_of_mem _ (iX2 w h)) hown hK hP rfl (by decide) rfl 9 (by decide) (hts _ (List.mem_cons_of_mem _ kw_424)) (fun _ h9 => h9) dX2_visit_38 (by decide) h (fun z49 h => ?_)
        refine lv_iload_n hx hb dX2_visit_41 rfl (lv_at hl 3 rfl) ?_
        refine r_icmp_gt (tgt := 57) hx hb dX2_visit_42 (by decide) h (fun h => ?_) (fun h => ?_)
        · exact t_X2_visit_d0_57 C xl0 zl2 z29 x47 z29 _ _ _ _ hP hS (lv_sub hl [1, 3, 0] rfl) h
        · refine lv_iload_n hx hb dX2_visit_45 rfl (lv_at hl 3 rfl) ?_
          refine lv_aload_n hx hb dX2_visit_46 rfl (lv_at hl 1 rfl) ?_
          refine r_geti (C := RX2) (T := TX2) (N := 11) hx hb hts (fun w h => List.mem_cons_of_mem _ (iX2 w h)) hown hK hP rfl (by decide) rfl 10 (by decide) (hts _ (List.mem_cons_of_mem _ kw_425)) (fun _ h9 => h9) dX2_visit_47 (by decide) h (fun z51 h => ?_)
          refine r_icmp_gt (tgt := 57) hx hb dX2_visit_50 (by decide) h (fun h => ?_) (fun h => ?_)
          · exact t_X2_visit_d0_57 C xl0 zl2 z29 x47 z29 _ _ _ _ hP hS (lv_sub hl [1, 3, 0] rfl) h
          · refine r_iconst hx hb dX2_visit_53 (by decide) h (fun z53 h => ?_)
            refine lv_goto (tgt := 58) hx hb dX2_visit_54 (by decide) ?_
            exact t_X2_visit_d0_58 C xl0 zl2 z29 x47 z29 z53 _ _ _ _ hP hS (lv_sub hl [1, 3, 0] rfl) h
    · exact r_vret hx hb hr hlocks hP hS dX2_visit_23 h
/-! visit, 1 deep -/
abbrev RM_X2_visit_d1 : Room := { frames := 7, cells := 0, slots := 0, locals := 179 }
def cw_X2_visit_d1 : Cond := Cond.code yX2_visit cX2_visit 8 (Option.none : Option FieldType)
theorem hd_X2_visit_d1 : yX2_visit.cls ≠ "java/lang/invoke/MethodHandle" ∧ yX2_visit.cls ≠ "java/lang/invoke/VarHandle" ∧ (parseMethodDescriptor yX2_visit.desc).map (fun d => d.parameters.length) = some 2 := by decide +kernel
def wp_X2_visit_d1_78 (S : Sh) (post : Mm → Prop) : Nat → Int → Int → Int → Int → Int → Int → Int → Mm → Prop
  | 0, _, _, _, _, _, _, _, _ => False
  | n + 1, u0, u1, u2, u3, u4, u5, u6, M => wGetR S M u0 2 1 fun v1 => wGet S M v1 8 4 fun v3 => wIf (v3 ≤ u6) (wGetR S M u0 2 4 fun v5 => wSt S M v5 14 u3 u4 fun M7 => wGetR S M7 u0 2 5 fun v8 => wSt S M7 v8 14 u3 u5 fun M10 => post M10) (isK S u0 2 ∧ (wp_X2_carried S M u0 u1 u6 u2 <| fun v12 M11 => wC 1 fun v14 => wA u1 v14 fun v16 => isK S u0 2 ∧ (wp_X2_visit_d0 S M11 u0 v16 v12 <| fun M18 => wGetR S M18 u0 2 4 fun v19 => wC 1 fun v21 => wA u1 v21 fun v23 => wC 1000 fun v25 => wM v23 v25 fun v27 => wA v27 v12 fun v29 => wLd S M18 v19 14 v29 fun v31 => wA u4 v31 fun v33 => wGetR S M18 u0 2 5 fun v35 => wC 1 fun v37 => wA u1 v37 fun v39 => wC 1000 fun v41 => wM v39 v41 fun v43 => wA v43 v12 fun v45 => wLd S M18 v35 14 v45 fun v47 => wO min u5 v47 fun v49 => wA u6 1 fun v51 => wp_X2_visit_d1_78 S post n u0 u1 u2 u3 v33 v49 v51 M18)))
def wp_X2_visit_d1_58 (S : Sh) (post : Mm → Prop) (u0 : Int) (u2 : Int) (u3 : Int) (t0 : Int) (t1 : Int) (t2 : Int) (M : Mm) : Prop := wSt S M t0 14 t1 t2 fun M53 => wGetR S M53 u0 2 5 fun v54 => wSt S M53 v54 14 u3 u2 fun M56 => post M56
def wp_X2_visit_d1_57 (S : Sh) (post : Mm → Prop) (u0 : Int) (u2 : Int) (u3 : Int) (t0 : Int) (t1 : Int) (M : Mm) : Prop := wC 0 fun v57 => wp_X2_visit_d1_58 S post u0 u2 u3 t0 t1 v57 M
def wp_X2_visit_d1 (S : Sh) (M : Mm) (u0 : Int) (u1 : Int) (u2 : Int) (post : Mm → Prop) : Prop := wC 1000 fun v59 => wM u1 v59 fun v61 => wA v61 u2 fun v63 => wC 5 fun v65 => wIf (v65 < u1) (post M) (wGetR S M u0 2 4 fun v67 => wLd S M v67 14 v63 fun v69 => wC (-1) fun v71 => wIf (v69 = v71) (wGet S M u0 2 6 fun v73 => wIf (u1 < v73) (wC 0 fun v75 => wC 999 fun v77 => wC 0 fun v79 => ∃ n9 : Nat, wp_X2_visit_d1_78 S post n9 u0 u1 u2 v63 v75 v77 v79 M) (wGetR S M u0 2 4 fun v81 => wGet S M u0 2 9 fun v83 => wIf (u2 < v83) (wp_X2_visit_d1_57 S post u0 u2 v63 v81 v63 M) (wGet S M u0 2 10 fun v85 => wIf (v85 < u2) (wp_X2_visit_d1_57 S post u0 u2 v63 v81 v63 M) (wC 1 fun v87 => wp_X2_visit_d1_58 S post u0 u2 v63 v81 v63 v87 M)))) (post M))
set_option maxHeartbeats 4000000 in
set_option maxRecDepth 100000 in
theorem t_X2_visit_d1_78 {p : Program} {l : Launch} {e : Env} {s : State} {m : MethodId} {args : Array Value} {below : List Frame} {meth : Method} {c : Code} {D : va_G} {G : Gt} {S : Sh} {post : Mm → Prop} (C : Cx p s m args meth c D G cX2_visit 8 none (cw_X2_visit_d1 :: gw) RX2) : ∀ (n : Nat) (xl0 : Int) (zl1 : Int32) (zl2 : Int32) (zl3 : Int32) (zl4 : Int32) (zl5 : Int32) (zl6 : Int32) (M : Mm) (H : Heap) (locs : List Loc) (ls : Array Slot), Wd D G S M H → va_S (aG G) s.heap H locs → lv_has ls 8 [(0, .ref (adr G xl0)), (1, .int zl1), (2, .int zl2), (3, .int zl3), (4, .int zl4), (5, .int zl5), (6, .int zl6)] → wp_X2_visit_d1_78 S post n xl0 zl1.toInt zl2.toInt zl3.toInt zl4.toInt zl5.toInt zl6.toInt  M → W p l e RM_X2_visit_d1 s m args below meth c H locs 0 0 (MQ below (QV D G S post) args s 0 0 (aG G)) (F0 m 78 ls []) := by
  obtain ⟨hx, hb, hr, hlocks, hml, hown, hts, hK⟩ := id C
  intro n
  induction n with
  | zero => intro xl0 zl1 zl2 zl3 zl4 zl5 zl6 M H locs ls hP hS hl h; exact h.elim
  | succ n ih =>
    intro xl0 zl1 zl2 zl3 zl4 zl5 zl6 M H locs ls hP hS hl h
    unfold wp_X2_visit_d1_78 at h
    refine lv_iload hx hb dX2_visit_78 (lv_at hl 6 rfl) ?_
    refine lv_aload_n hx hb dX2_visit_80 rfl (lv_at hl 0 rfl) ?_
    refine r_getr (C := RX2) (T := TX2) (N := 11) hx hb hts (fun w h => List.mem_cons_of_mem _ (iX2 w h)) hown hK hP rfl (by decide) rfl 1 (by decide) (hts _ (List.mem_cons_of_mem _ kw_416)) (fun _ h9 => h9) dX2_visit_81 (by decide) h (fun x2 h => ?_)
    refine r_getiN (C := RX8) (T := TX8) (N := 19) hx hb hts (fun w h => List.mem_cons_of_mem _ (iX8 w h)) hown hK hP rfl (by decide) rfl 4 (by decide) (nw_15 hK) (fun _ h9 => h9) dX2_visit_84 (by decide) h (fun z4 h => ?_)
    refine r_icmp_ge (tgt := 157) hx hb dX2_visit_87 (by decide) h (fun h => ?_) (fun h => ?_)
    · refine lv_aload_n hx hb dX2_visit_157 rfl (lv_at hl 0 rfl) ?_
      refine r_getr (C := RX2) (T := TX2) (N := 11) hx hb hts (fun w h => List.mem_cons_of_mem _ (iX2 w h)) hown hK hP rfl (by decide) rfl 4 (by decide) (hts _ (List.mem_cons_of_mem _ kw_419)) (fun _ h9 => h9) dX2_visit_158 (by decide) h (fun x6 h => ?_)
      refine lv_iload_n hx hb dX2_visit_161 rfl (lv_at hl 3 rfl) ?_
      refine lv_iload hx hb dX2_visit_162 (lv_at hl 4 rfl) ?_
      refine r_iast hx hb hK hP hS dX2_visit_164 h (fun M7 H locs h hP hS => ?_)
      refine lv_aload_n hx hb dX2_visit_165 rfl (lv_at hl 0 rfl) ?_
      refine r_getr (C := RX2) (T := TX2) (N := 11) hx hb hts (fun w h => List.mem_cons_of_mem _ (iX2 w h)) hown hK hP rfl (by decide) rfl 5 (by decide) (hts _ (List.mem_cons_of_mem _ kw_420)) (fun _ h9 => h9) dX2_visit_166 (by decide) h (fun x9 h => ?_)
      refine lv_iload_n hx hb dX2_visit_169 rfl (lv_at hl 3 rfl) ?_
      refine lv_iload hx hb dX2_visit_170 (lv_at hl 5 rfl) ?_
      refine r_iast hx hb hK hP hS dX2_visit_172 h (fun M10 H locs h hP hS => ?_)
      exact r_vret hx hb hr hlocks hP hS dX2_visit_173 h
    · refine lv_aload_n hx hb dX2_visit_90 rfl (lv_at hl 0 rfl) ?_
      refine lv_iload_n hx hb dX2_visit_91 rfl (lv_at hl 1 rfl) ?_
      refine lv_iload hx hb dX2_visit_92 (lv_at hl 6 rfl) ?_
      refine lv_iload_n hx hb dX2_visit_94 rfl (lv_at hl 2 rfl) ?_
      refine q_Vi hx hb hml hown hts hK hP hS (c_X2_carried l D G S _ xl0 zl1 zl6 zl2 _ h.2) ⟨callB_of 3 hts (gw_good kw_1129) rfl rfl rfl (hts _ (List.mem_cons_of_mem _ kw_11)) (hts _ (List.mem_cons_of_mem _ kw_1126)) hd_X2_carried ⟨Nat.le_of_ble_eq_true rfl, Nat.le_of_ble_eq_true rfl⟩, (hts _ (List.mem_cons_of_mem _ kw_1128)), (hts _ (List.mem_cons_of_mem _ kp_41))⟩ h.1 (ci := 2) rfl (by decide) rfl hl.1 rfl (lv_room (Nat.le_of_ble_eq_true rfl)) dX2_visit_95 ⟨Nat.zero_le _, Nat.zero_le _⟩ (fun z13 M11 H locs h hP hS => ?_)
      refine lv_istore (lv' := [(7, .int z13), (0, .ref (adr G xl0)), (1, .int zl1), (2, .int zl2), (3, .int zl3), (4, .int zl4), (5, .int zl5), (6, .int zl6)]) hx hb dX2_visit_98 hl (by decide) rfl (fun ls hl => ?_)
      refine lv_aload_n hx hb dX2_visit_100 rfl (lv_at hl 1 rfl) ?_
      refine lv_iload_n hx hb dX2_visit_101 rfl (lv_at hl 2 rfl) ?_
      refine r_iconst hx hb dX2_visit_102 (by decide) h (fun z15 h => ?_)
      refine r_iadd hx hb dX2_visit_103 h (fun z17 h => ?_)
      refine lv_iload hx hb dX2_visit_104 (lv_at hl 0 rfl) ?_
      refine q_Vv hx hb hml hown hts hK hP hS (c_X2_visit_d0 l D G S _ xl0 z17 z13 _ h.2) ⟨callB_of 2 hts (gw_good kw_1125) rfl rfl rfl (hts _ (List.mem_cons_of_mem _ kw_11)) (hts _ (List.mem_cons_of_mem _ kw_1122)) hd_X2_visit_d0 ⟨Nat.le_of_ble_eq_true rfl, Nat.le_of_ble_eq_true rfl⟩, (hts _ (List.mem_cons_of_mem _ kw_1124)), (hts _ (List.mem_cons_of_mem _ kp_40))⟩ h.1 (ci := 2) rfl (by decide) rfl hl.1 rfl (lv_room (Nat.le_of_ble_eq_true rfl)) dX2_visit_106 ⟨Nat.zero_le _, Nat.zero_le _⟩ (fun M18 H locs h hP hS => ?_)
      refine lv_iload hx hb dX2_visit_109 (lv_at hl 5 rfl) ?_
      refine lv_aload_n hx hb dX2_visit_111 rfl (lv_at hl 1 rfl) ?_
      refine r_getr (C := RX2) (T := TX2) (N := 11) hx hb hts (fun w h => List.mem_cons_of_mem _ (iX2 w h)) hown hK hP rfl (by decide) rfl 4 (by decide) (hts _ (List.mem_cons_of_mem _ kw_419)) (fun _ h9 => h9) dX2_visit_112 (by decide) h (fun x20 h => ?_)
      refine lv_iload_n hx hb dX2_visit_115 rfl (lv_at hl 2 rfl) ?_
      refine r_iconst hx hb dX2_visit_116 (by decide) h (fun z22 h => ?_)
      refine r_iadd hx hb dX2_visit_117 h (fun z24 h => ?_)
      refine r_sipush hx hb dX2_visit_118 (by decide) h (fun z26 h => ?_)
      refine r_imul hx hb dX2_visit_121 h (fun z28 h => ?_)
      refine lv_iload hx hb dX2_visit_122 (lv_at hl 0 rfl) ?_
      refine r_iadd hx hb dX2_visit_124 h (fun z30 h => ?_)
      refine r_iald hx hb hK hP dX2_visit_125 h (fun z32 h => ?_)
      refine r_iadd hx hb dX2_visit_126 h (fun z34 h => ?_)
      refine lv_istore (lv' := [(4, .int z34), (7, .int z13), (0, .ref (adr G xl0)), (1, .int zl1), (2, .int zl2), (3, .int zl3), (5, .int zl5), (6, .int zl6)]) hx hb dX2_visit_127 hl (by decide) rfl (fun ls hl => ?_)
      refine lv_iload hx hb dX2_visit_129 (lv_at hl 6 rfl) ?_
      refine lv_aload_n hx hb dX2_visit_131 rfl (lv_at hl 2 rfl) ?_
      refine r_getr (C := RX2) (T := TX2) (N := 11) hx hb hts (fun w h => List.mem_cons_of_mem _ (iX2 w h)) hown hK hP rfl (by decide) rfl 5 (by decide) (hts _ (List.mem_cons_of_mem _ kw_420)) (fun _ h9 => h9) dX2_visit_132 (by decide) h (fun x36 h => ?_)
      refine lv_iload_n hx hb dX2_visit_135 rfl (lv_at hl 3 rfl) ?_
      refine r_iconst hx hb dX2_visit_136 (by decide) h (fun z38 h => ?_)
      refine r_iadd hx hb dX2_visit_137 h (fun z40 h => ?_)
      refine r_sipush hx hb dX2_visit_138 (by decide) h (fun z42 h => ?_)
      refine r_imul hx hb dX2_visit_141 h (fun z44 h => ?_)
      refine lv_iload hx hb dX2_visit_142 (lv_at hl 1 rfl) ?_
      refine r_iadd hx hb dX2_visit_144 h (fun z46 h => ?_)
      refine r_iald hx hb hK hP dX2_visit_145 h (fun z48 h => ?_)
      refine r_mmin hx hb (hml.trans hl.1.symm) hown (hts _ (List.mem_cons_of_mem _ kw_1111)) (hts _ (List.mem_cons_of_mem _ kw_719)) (hts _ (List.mem_cons_of_mem _ kw_19)) (hts _ (List.mem_cons_of_mem _ kw_720)) (Nat.le_of_ble_eq_true rfl) (Nat.le_of_ble_eq_true rfl) (Nat.zero_le _) (Nat.zero_le _) dX2_visit_146 h (fun z50 h => ?_)
      refine lv_istore (lv' := [(5, .int z50), (4, .int z34), (7, .int z13), (0, .ref (adr G xl0)), (1, .int zl1), (2, .int zl2), (3, .int zl3), (6, .int zl6)]) hx hb dX2_visit_149 hl (by decide) rfl (fun ls hl => ?_)
      refine r_iinc hx hb (fun z52 => [(6, .int z52), (5, .int z50), (4, .int z34), (7, .int z13), (0, .ref (adr G xl0)), (1, .int zl1), (2, .int zl2), (3, .int zl3)]) dX2_visit_151 (by decide) hl (k := 7) rfl (by decide) (fun _ => rfl) h (fun z52 ls hl h => ?_)
      refine lv_goto (tgt := 78) hx hb dX2_visit_154 (by decide) ?_
      exact ih xl0 zl1 zl2 zl3 z34 z50 z52 _ _ _ _ hP hS (lv_sub hl [4, 5, 6, 7, 2, 1, 0] rfl) h
set_option maxHeartbeats 4000000 in
set_option maxRecDepth 100000 in
theorem t_X2_visit_d1_58 {p : Program} {l : Launch} {e : Env} {s : State} {m : MethodId} {args : Array Value} {below : List Frame} {meth : Method} {c : Code} {D : va_G} {G : Gt} {S : Sh} {post : Mm → Prop} (C : Cx p s m args meth c D G cX2_visit 8 none (cw_X2_visit_d1 :: gw) RX2) : ∀ (xl0 : Int) (zl2 : Int32) (zl3 : Int32) (xs0 : Int) (zs1 : Int32) (zs2 : Int32) (M : Mm) (H : Heap) (locs : List Loc) (ls : Array Slot), Wd D G S M H → va_S (aG G) s.heap H locs → lv_has ls 8 [(0, .ref (adr G xl0)), (2, .int zl2), (3, .int zl3)] → wp_X2_visit_d1_58 S post xl0 zl2.toInt zl3.toInt xs0 zs1.toInt zs2.toInt M → W p l e RM_X2_visit_d1 s m args below meth c H locs 0 0 (MQ below (QV D G S post) args s 0 0 (aG G)) (F0 m 58 ls [.int zs2, .int zs1, .ref (adr G xs0)]) := by
  obtain ⟨hx, hb, hr, hlocks, hml, hown, hts, hK⟩ := id C
  intro xl0 zl2 zl3 xs0 zs1 zs2 M H locs ls hP hS hl h
  unfold wp_X2_visit_d1_58 at h
  refine r_iast hx hb hK hP hS dX2_visit_58 h (fun M53 H locs h hP hS => ?_)
  refine lv_aload_n hx hb dX2_visit_59 rfl (lv_at hl 0 rfl) ?_
  refine r_getr (C := RX2) (T := TX2) (N := 11) hx hb hts (fun w h => List.mem_cons_of_mem _ (iX2 w h)) hown hK hP rfl (by decide) rfl 5 (by decide) (hts _ (List.mem_cons_of_mem _ kw_420)) (fun _ h9 => h9) dX2_visit_60 (by decide) h (fun x55 h => ?_)
  refine lv_iload_n hx hb dX2_visit_63 rfl (lv_at hl 2 rfl) ?_
  refine lv_iload_n hx hb dX2_visit_64 rfl (lv_at hl 1 rfl) ?_
  refine r_iast hx hb hK hP hS dX2_visit_65 h (fun M56 H locs h hP hS => ?_)
  exact r_vret hx hb hr hlocks hP hS dX2_visit_66 h
set_option maxHeartbeats 4000000 in
set_option maxRecDepth 100000 in
theorem t_X2_visit_d1_57 {p : Program} {l : Launch} {e : Env} {s : State} {m : MethodId} {args : Array Value} {below : List Frame} {meth : Method} {c : Code} {D : va_G} {G : Gt} {S : Sh} {post : Mm → Prop} (C : Cx p s m args meth c D G cX2_visit 8 none (cw_X2_visit_d1 :: gw) RX2) : ∀ (xl0 : Int) (zl2 : Int32) (zl3 : Int32) (xs0 : Int) (zs1 : Int32) (M : Mm) (H : Heap) (locs : List Loc) (ls : Array Slot), Wd D G S M H → va_S (aG G) s.heap H locs → lv_has ls 8 [(0, .ref (adr G xl0)), (2, .int zl2), (3, .int zl3)] → wp_X2_visit_d1_57 S post xl0 zl2.toInt zl3.toInt xs0 zs1.toInt M → W p l e RM_X2_visit_d1 s m args below meth c H locs 0 0 (MQ below (QV D G S post) args s 0 0 (aG G)) (F0 m 57 ls [.int zs1, .ref (adr G xs0)]) := by
  obtain ⟨hx, hb, hr, hlocks, hml, hown, hts, hK⟩ := id C
  intro xl0 zl2 zl3 xs0 zs1 M H locs ls hP hS hl h
  unfold wp_X2_visit_d1_57 at h
  refine r_iconst hx hb dX2_visit_57 (by decide) h (fun z58 h => ?_)
  exact t_X2_visit_d1_58 C xl0 zl2 zl3 xs0 zs1 z58 _ _ _ _ hP hS (lv_sub hl [0, 1, 2] rfl) h
set_option maxHeartbeats 4000000 in
set_option maxRecDepth 100000 in
theorem c_X2_visit_d1 (l : Launch) (D : va_G) (G : Gt) (S : Sh) (M : Mm) (xl0 : Int) (zl1 : Int32) (zl2 : Int32) (post : Mm → Prop) (h : wp_X2_visit_d1 S M xl0 zl1.toInt zl2.toInt post) : Met l yX2_visit (cw_X2_visit_d1 :: gw) RM_X2_visit_d1 (va_Pc [.ref (adr G xl0), .int zl1, .int zl2] (fun U => KN D G U ∧ Wd D G S M U.heap)) (QV D G S post) 0 0 (aG G) := by
  refine Met.ofW (cc := cX2_visit) (maxL := 8) (ret := none) (by decide) rfl ?_
  intro p e s m args below meth c s₁ B hml hv
  obtain ⟨rfl, hK, hP⟩ := hv
  have hx := B.exec
  have hb := B.bytes
  have hr := B.returns
  have hts := atoms_spec (ws := cw_X2_visit_d1 :: gw) B.pre
  have hown : s.vm.findClass RX2 = some m.cls := findClass_of_methodNamed B.named
  have hlocks := B.notSynchronized
  have hS : va_S (aG G) s.heap s.heap [] := va_S.rf
  have C : Cx p s m ([.ref (adr G xl0), .int zl1, .int zl2] : List Value).toArray meth c D G cX2_visit 8 none (cw_X2_visit_d1 :: gw) RX2 := ⟨hx, hb, hr, hlocks, hml, hown, hts, hK⟩
  have hl := lv_entry ([.ref (adr G xl0), .int zl1, .int zl2]) (n := 8) (Nat.le_of_ble_eq_true rfl)
  rw [lg_entry_eq]
  generalize (lg_sl ([.ref (adr G xl0), .int zl1, .int zl2]) ++ List.replicate (8 - (lg_sl ([.ref (adr G xl0), .int zl1, .int zl2])).length) Slot.unset).toArray = ls at hl ⊢
  have hl : lv_has ls 8 [(0, .ref (adr G xl0)), (1, .int zl1), (2, .int zl2)] := hl
  unfold wp_X2_visit_d1 at h
  refine lv_iload_n hx hb dX2_visit_0 rfl (lv_at hl 1 rfl) ?_
  refine r_sipush hx hb dX2_visit_1 (by decide) h (fun z60 h => ?_)
  refine r_imul hx hb dX2_visit_4 h (fun z62 h => ?_)
  refine lv_iload_n hx hb dX2_visit_5 rfl (lv_at hl 2 rfl) ?_
  refine r_iadd hx hb dX2_visit_6 h (fun z64 h => ?_)
  refine lv_istore_n (lv' := [(3, .int z64), (0, .ref (adr G xl0)), (1, .int zl1), (2, .int zl2)]) hx hb dX2_visit_7 rfl hl (by decide) rfl (fun ls hl => ?_)
  refine lv_iload_n hx hb dX2_visit_8 rfl (lv_at hl 2 rfl) ?_
  refine r_iconst hx hb dX2_visit_9 (by decide) h (fun z66 h => ?_)
  refine r_icmp_gt (tgt := 23) hx hb dX2_visit_10 (by decide) h (fun h => ?_) (fun h => ?_)
  · exact r_vret hx hb hr hlocks hP hS dX2_visit_23 h
  · refine lv_aload_n hx hb dX2_visit_13 rfl (lv_at hl 1 rfl) ?_
    refine r_getr (C := RX2) (T := TX2) (N := 11) hx hb hts (fun w h => List.mem_cons_of_mem _ (iX2 w h)) hown hK hP rfl (by decide) rfl 4 (by decide) (hts _ (List.mem_cons_of_mem _ kw_419)) (fun _ h9 => h9) dX2_visit_14 (by decide) h (fun x68 h => ?_)
    refine lv_iload_n hx hb dX2_visit_17 rfl (lv_at hl 0 rfl) ?_
    refine r_iald hx hb hK hP dX2_visit_18 h (fun z70 h => ?_)
    refine r_iconst hx hb dX2_visit_19 (by decide) h (fun z72 h => ?_)
    refine r_icmp_eq (tgt := 24) hx hb dX2_visit_20 (by decide) h (fun h => ?_) (fun h => ?_)
    · refine lv_iload_n hx hb dX2_visit_24 rfl (lv_at hl 2 rfl) ?_
      refine lv_aload_n hx hb dX2_visit_25 rfl (lv_at hl 1 rfl) ?_
      refine r_geti (C := RX2) (T := TX2) (N := 11) hx hb hts (fun w h => List.mem_cons_of_mem _ (iX2 w h)) hown hK hP rfl (by decide) rfl 6 (by decide) (hts _ (List.mem_cons_of_mem _ kw_421)) (fun _ h9 => h9) dX2_visit_26 (by decide) h (fun z74 h => ?_)
      refine r_icmp_lt (tgt := 67) hx hb dX2_visit_29 (by decide) h (fun h => ?_) (fun h => ?_)
      · refine r_iconst hx hb dX2_visit_67 (by decide) h (fun z76 h => ?_)
        refine lv_istore (lv' := [(4, .int z76), (3, .int z64), (0, .ref (adr G xl0)), (1, .int zl1), (2, .int zl2)]) hx hb dX2_visit_68 hl (by decide) rfl (fun ls hl => ?_)
        refine r_sipush hx hb dX2_visit_70 (by decide) h (fun z78 h => ?_)
        refine lv_istore (lv' := [(5, .int z78), (4, .int z76), (3, .int z64), (0, .ref (adr G xl0)), (1, .int zl1), (2, .int zl2)]) hx hb dX2_visit_73 hl (by decide) rfl (fun ls hl => ?_)
        refine r_iconst hx hb dX2_visit_75 (by decide) h (fun z80 h => ?_)
        refine lv_istore (lv' := [(6, .int z80), (5, .int z78), (4, .int z76), (3, .int z64), (0, .ref (adr G xl0)), (1, .int zl1), (2, .int zl2)]) hx hb dX2_visit_76 hl (by decide) rfl (fun ls hl => ?_)
        obtain ⟨n9, h⟩ := h
        exact t_X2_visit_d1_78 C n9 xl0 zl1 zl2 z64 z76 z78 z80 _ _ _ _ hP hS (lv_sub hl [4, 5, 6, 3, 2, 1, 0] rfl) h
      · refine lv_aload_n hx hb dX2_visit_32 rfl (lv_at hl 1 rfl) ?_
        refine r_getr (C := RX2) (T := TX2) (N := 11) hx hb hts (fun w h => List.mem_cons_of_mem _ (iX2 w h)) hown hK hP rfl (by decide) rfl 4 (by decide) (hts _ (List.mem_cons_of_mem _ kw_419)) (fun _ h9 => h9) dX2_visit_33 (by decide) h (fun x82 h => ?_)
        refine lv_iload_n hx hb dX2_visit_36 rfl (lv_at hl 0 rfl) ?_
        refine lv_aload_n hx hb dX2_visit_37 rfl (lv_at hl 1 rfl) ?_
        refine r_geti (C := RX2) (T := TX2) (N := 11) hx hb hts (fun w h => List.mem_cons_of_mem _ (iX2 w h)) hown hK hP rfl (by decide) rfl 9 (by decide) (hts _ (List.mem_cons_of_mem _ kw_424)) (fun _ h9 => h9) dX2_visit_38 (by decide) h (fun z84 h => ?_)
        refine lv_iload_n hx hb dX2_visit_41 rfl (lv_at hl 3 rfl) ?_
        refine r_icmp_gt (tgt := 57) hx hb dX2_visit_42 (by decide) h (fun h => ?_) (fun h => ?_)
        · exact t_X2_visit_d1_57 C xl0 zl2 z64 x82 z64 _ _ _ _ hP hS (lv_sub hl [1, 3, 0] rfl) h
        · refine lv_iload_n hx hb dX2_visit_45 rfl (lv_at hl 3 rfl) ?_
          refine lv_aload_n hx hb dX2_visit_46 rfl (lv_at hl 1 rfl) ?_
          refine r_geti (C := RX2) (T := TX2) (N := 11) hx hb hts (fun w h => List.mem_cons_of_mem _ (iX2 w h)) hown hK hP rfl (by decide) rfl 10 (by decide) (hts _ (List.mem_cons_of_mem _ kw_425)) (fun _ h9 => h9) dX2_visit_47 (by decide) h (fun z86 h => ?_)
          refine r_icmp_gt (tgt := 57) hx hb dX2_visit_50 (by decide) h (fun h => ?_) (fun h => ?_)
          · exact t_X2_visit_d1_57 C xl0 zl2 z64 x82 z64 _ _ _ _ hP hS (lv_sub hl [1, 3, 0] rfl) h
          · refine r_iconst hx hb dX2_visit_53 (by decide) h (fun z88 h => ?_)
            refine lv_goto (tgt := 58) hx hb dX2_visit_54 (by decide) ?_
            exact t_X2_visit_d1_58 C xl0 zl2 z64 x82 z64 z88 _ _ _ _ hP hS (lv_sub hl [1, 3, 0] rfl) h
    · exact r_vret hx hb hr hlocks hP hS dX2_visit_23 h
/-! visit, 2 deep -/
abbrev RM_X2_visit_d2 : Room := { frames := 8, cells := 0, slots := 0, locals := 206 }
def cw_X2_visit_d2 : Cond := Cond.code yX2_visit cX2_visit 8 (Option.none : Option FieldType)
theorem hd_X2_visit_d2 : yX2_visit.cls ≠ "java/lang/invoke/MethodHandle" ∧ yX2_visit.cls ≠ "java/lang/invoke/VarHandle" ∧ (parseMethodDescriptor yX2_visit.desc).map (fun d => d.parameters.length) = some 2 := by decide +kernel
def wp_X2_visit_d2_78 (S : Sh) (post : Mm → Prop) : Nat → Int → Int → Int → Int → Int → Int → Int → Mm → Prop
  | 0, _, _, _, _, _, _, _, _ => False
  | n + 1, u0, u1, u2, u3, u4, u5, u6, M => wGetR S M u0 2 1 fun v1 => wGet S M v1 8 4 fun v3 => wIf (v3 ≤ u6) (wGetR S M u0 2 4 fun v5 => wSt S M v5 14 u3 u4 fun M7 => wGetR S M7 u0 2 5 fun v8 => wSt S M7 v8 14 u3 u5 fun M10 => post M10) (isK S u0 2 ∧ (wp_X2_carried S M u0 u1 u6 u2 <| fun v12 M11 => wC 1 fun v14 => wA u1 v14 fun v16 => isK S u0 2 ∧ (wp_X2_visit_d1 S M11 u0 v16 v12 <| fun M18 => wGetR S M18 u0 2 4 fun v19 => wC 1 fun v21 => wA u1 v21 fun v23 => wC 1000 fun v25 => wM v23 v25 fun v27 => wA v27 v12 fun v29 => wLd S M18 v19 14 v29 fun v31 => wA u4 v31 fun v33 => wGetR S M18 u0 2 5 fun v35 => wC 1 fun v37 => wA u1 v37 fun v39 => wC 1000 fun v41 => wM v39 v41 fun v43 => wA v43 v12 fun v45 => wLd S M18 v35 14 v45 fun v47 => wO min u5 v47 fun v49 => wA u6 1 fun v51 => wp_X2_visit_d2_78 S post n u0 u1 u2 u3 v33 v49 v51 M18)))
def wp_X2_visit_d2_58 (S : Sh) (post : Mm → Prop) (u0 : Int) (u2 : Int) (u3 : Int) (t0 : Int) (t1 : Int) (t2 : Int) (M : Mm) : Prop := wSt S M t0 14 t1 t2 fun M53 => wGetR S M53 u0 2 5 fun v54 => wSt S M53 v54 14 u3 u2 fun M56 => post M56
def wp_X2_visit_d2_57 (S : Sh) (post : Mm → Prop) (u0 : Int) (u2 : Int) (u3 : Int) (t0 : Int) (t1 : Int) (M : Mm) : Prop := wC 0 fun v57 => wp_X2_visit_d2_58 S post u0 u2 u3 t0 t1 v57 M
def wp_X2_visit_d2 (S : Sh) (M : Mm) (u0 : Int) (u1 : Int) (u2 : Int) (post : Mm → Prop) : Prop := wC 1000 fun v59 => wM u1 v59 fun v61 => wA v61 u2 fun v63 => wC 5 fun v65 => wIf (v65 < u1) (post M) (wGetR S M u0 2 4 fun v67 => wLd S M v67 14 v63 fun v69 => wC (-1) fun v71 => wIf (v69 = v71) (wGet S M u0 2 6 fun v73 => wIf (u1 < v73) (wC 0 fun v75 => wC 999 fun v77 => wC 0 fun v79 => ∃ n9 : Nat, wp_X2_visit_d2_78 S post n9 u0 u1 u2 v63 v75 v77 v79 M) (wGetR S M u0 2 4 fun v81 => wGet S M u0 2 9 fun v83 => wIf (u2 < v83) (wp_X2_visit_d2_57 S post u0 u2 v63 v81 v63 M) (wGet S M u0 2 10 fun v85 => wIf (v85 < u2) (wp_X2_visit_d2_57 S post u0 u2 v63 v81 v63 M) (wC 1 fun v87 => wp_X2_visit_d2_58 S post u0 u2 v63 v81 v63 v87 M)))) (post M))
set_option maxHeartbeats 4000000 in
set_option maxRecDepth 100000 in
theorem t_X2_visit_d2_78 {p : Program} {l : Launch} {e : Env} {s : State} {m : MethodId} {args : Array Value} {below : List Frame} {meth : Method} {c : Code} {D : va_G} {G : Gt} {S : Sh} {post : Mm → Prop} (C : Cx p s m args meth c D G cX2_visit 8 none (cw_X2_visit_d2 :: gw) RX2) : ∀ (n : Nat) (xl0 : Int) (zl1 : Int32) (zl2 : Int32) (zl3 : Int32) (zl4 : Int32) (zl5 : Int32) (zl6 : Int32) (M : Mm) (H : Heap) (locs : List Loc) (ls : Array Slot), Wd D G S M H → va_S (aG G) s.heap H locs → lv_has ls 8 [(0, .ref (adr G xl0)), (1, .int zl1), (2, .int zl2), (3, .int zl3), (4, .int zl4), (5, .int zl5), (6, .int zl6)] → wp_X2_visit_d2_78 S post n xl0 zl1.toInt zl2.toInt zl3.toInt zl4.toInt zl5.toInt zl6.toInt  M → W p l e RM_X2_visit_d2 s m args below meth c H locs 0 0 (MQ below (QV D G S post) args s 0 0 (aG G)) (F0 m 78 ls []) := by
  obtain ⟨hx, hb, hr, hlocks, hml, hown, hts, hK⟩ := id C
  intro n
  induction n with
  | zero => intro xl0 zl1 zl2 zl3 zl4 zl5 zl6 M H locs ls hP hS hl h; exact h.elim
  | succ n ih =>
    intro xl0 zl1 zl2 zl3 zl4 zl5 zl6 M H locs ls hP hS hl h
    unfold wp_X2_visit_d2_78 at h
    refine lv_iload hx hb dX2_visit_78 (lv_at hl 6 rfl) ?_
    refine lv_aload_n hx hb dX2_visit_80 rfl (lv_at hl 0 rfl) ?_
    refine r_getr (C := RX2) (T := TX2) (N := 11) hx hb hts (fun w h => List.mem_cons_of_mem _ (iX2 w h)) hown hK hP rfl (by decide) rfl 1 (by decide) (hts _ (List.mem_cons_of_mem _ kw_416)) (fun _ h9 => h9) dX2_visit_81 (by decide) h (fun x2 h => ?_)
    refine r_getiN (C := RX8) (T := TX8) (N := 19) hx hb hts (fun w h => List.mem_cons_of_mem _ (iX8 w h)) hown hK hP rfl (by decide) rfl 4 (by decide) (nw_15 hK) (fun _ h9 => h9) dX2_visit_84 (by decide) h (fun z4 h => ?_)
    refine r_icmp_ge (tgt := 157) hx hb dX2_visit_87 (by decide) h (fun h => ?_) (fun h => ?_)
    · refine lv_aload_n hx hb dX2_visit_157 rfl (lv_at hl 0 rfl) ?_
      refine r_getr (C := RX2) (T := TX2) (N := 11) hx hb hts (fun w h => List.mem_cons_of_mem _ (iX2 w h)) hown hK hP rfl (by decide) rfl 4 (by decide) (hts _ (List.mem_cons_of_mem _ kw_419)) (fun _ h9 => h9) dX2_visit_158 (by decide) h (fun x6 h => ?_)
      refine lv_iload_n hx hb dX2_visit_161 rfl (lv_at hl 3 rfl) ?_
      refine lv_iload hx hb dX2_visit_162 (lv_at hl 4 rfl) ?_
      refine r_iast hx hb hK hP hS dX2_visit_164 h (fun M7 H locs h hP hS => ?_)
      refine lv_aload_n hx hb dX2_visit_165 rfl (lv_at hl 0 rfl) ?_
      refine r_getr (C := RX2) (T := TX2) (N := 11) hx hb hts (fun w h => List.mem_cons_of_mem _ (iX2 w h)) hown hK hP rfl (by decide) rfl 5 (by decide) (hts _ (List.mem_cons_of_mem _ kw_420)) (fun _ h9 => h9) dX2_visit_166 (by decide) h (fun x9 h => ?_)
      refine lv_iload_n hx hb dX2_visit_169 rfl (lv_at hl 3 rfl) ?_
      refine lv_iload hx hb dX2_visit_170 (lv_at hl 5 rfl) ?_
      refine r_iast hx hb hK hP hS dX2_visit_172 h (fun M10 H locs h hP hS => ?_)
      exact r_vret hx hb hr hlocks hP hS dX2_visit_173 h
    · refine lv_aload_n hx hb dX2_visit_90 rfl (lv_at hl 0 rfl) ?_
      refine lv_iload_n hx hb dX2_visit_91 rfl (lv_at hl 1 rfl) ?_
      refine lv_iload hx hb dX2_visit_92 (lv_at hl 6 rfl) ?_
      refine lv_iload_n hx hb dX2_visit_94 rfl (lv_at hl 2 rfl) ?_
      refine q_Vi hx hb hml hown hts hK hP hS (c_X2_carried l D G S _ xl0 zl1 zl6 zl2 _ h.2) ⟨callB_of 3 hts (gw_good kw_1129) rfl rfl rfl (hts _ (List.mem_cons_of_mem _ kw_11)) (hts _ (List.mem_cons_of_mem _ kw_1126)) hd_X2_carried ⟨Nat.le_of_ble_eq_true rfl, Nat.le_of_ble_eq_true rfl⟩, (hts _ (List.mem_cons_of_mem _ kw_1128)), (hts _ (List.mem_cons_of_mem _ kp_41))⟩ h.1 (ci := 2) rfl (by decide) rfl hl.1 rfl (lv_room (Nat.le_of_ble_eq_true rfl)) dX2_visit_95 ⟨Nat.zero_le _, Nat.zero_le _⟩ (fun z13 M11 H locs h hP hS => ?_)
      refine lv_istore (lv' := [(7, .int z13), (0, .ref (adr G xl0)), (1, .int zl1), (2, .int zl2), (3, .int zl3), (4, .int zl4), (5, .int zl5), (6, .int zl6)]) hx hb dX2_visit_98 hl (by decide) rfl (fun ls hl => ?_)
      refine lv_aload_n hx hb dX2_visit_100 rfl (lv_at hl 1 rfl) ?_
      refine lv_iload_n hx hb dX2_visit_101 rfl (lv_at hl 2 rfl) ?_
      refine r_iconst hx hb dX2_visit_102 (by decide) h (fun z15 h => ?_)
      refine r_iadd hx hb dX2_visit_103 h (fun z17 h => ?_)
      refine lv_iload hx hb dX2_visit_104 (lv_at hl 0 rfl) ?_
      refine q_Vv hx hb hml hown hts hK hP hS (c_X2_visit_d1 l D G S _ xl0 z17 z13 _ h.2) ⟨callB_of 2 hts (gw_good kw_1125) rfl rfl rfl (hts _ (List.mem_cons_of_mem _ kw_11)) (hts _ (List.mem_cons_of_mem _ kw_1122)) hd_X2_visit_d1 ⟨Nat.le_of_ble_eq_true rfl, Nat.le_of_ble_eq_true rfl⟩, (hts _ (List.mem_cons_of_mem _ kw_1124)), (hts _ (List.mem_cons_of_mem _ kp_40))⟩ h.1 (ci := 2) rfl (by decide) rfl hl.1 rfl (lv_room (Nat.le_of_ble_eq_true rfl)) dX2_visit_106 ⟨Nat.zero_le _, Nat.zero_le _⟩ (fun M18 H locs h hP hS => ?_)
      refine lv_iload hx hb dX2_visit_109 (lv_at hl 5 rfl) ?_
      refine lv_aload_n hx hb dX2_visit_111 rfl (lv_at hl 1 rfl) ?_
      refine r_getr (C := RX2) (T := TX2) (N := 11) hx hb hts (fun w h => List.mem_cons_of_mem _ (iX2 w h)) hown hK hP rfl (by decide) rfl 4 (by decide) (hts _ (List.mem_cons_of_mem _ kw_419)) (fun _ h9 => h9) dX2_visit_112 (by decide) h (fun x20 h => ?_)
      refine lv_iload_n hx hb dX2_visit_115 rfl (lv_at hl 2 rfl) ?_
      refine r_iconst hx hb dX2_visit_116 (by decide) h (fun z22 h => ?_)
      refine r_iadd hx hb dX2_visit_117 h (fun z24 h => ?_)
      refine r_sipush hx hb dX2_visit_118 (by decide) h (fun z26 h => ?_)
      refine r_imul hx hb dX2_visit_121 h (fun z28 h => ?_)
      refine lv_iload hx hb dX2_visit_122 (lv_at hl 0 rfl) ?_
      refine r_iadd hx hb dX2_visit_124 h (fun z30 h => ?_)
      refine r_iald hx hb hK hP dX2_visit_125 h (fun z32 h => ?_)
      refine r_iadd hx hb dX2_visit_126 h (fun z34 h => ?_)
      refine lv_istore (lv' := [(4, .int z34), (7, .int z13), (0, .ref (adr G xl0)), (1, .int zl1), (2, .int zl2), (3, .int zl3), (5, .int zl5), (6, .int zl6)]) hx hb dX2_visit_127 hl (by decide) rfl (fun ls hl => ?_)
      refine lv_iload hx hb dX2_visit_129 (lv_at hl 6 rfl) ?_
      refine lv_aload_n hx hb dX2_visit_131 rfl (lv_at hl 2 rfl) ?_
      refine r_getr (C := RX2) (T := TX2) (N := 11) hx hb hts (fun w h => List.mem_cons_of_mem _ (iX2 w h)) hown hK hP rfl (by decide) rfl 5 (by decide) (hts _ (List.mem_cons_of_mem _ kw_420)) (fun _ h9 => h9) dX2_visit_132 (by decide) h (fun x36 h => ?_)
      refine lv_iload_n hx hb dX2_visit_135 rfl (lv_at hl 3 rfl) ?_
      refine r_iconst hx hb dX2_visit_136 (by decide) h (fun z38 h => ?_)
      refine r_iadd hx hb dX2_visit_137 h (fun z40 h => ?_)
      refine r_sipush hx hb dX2_visit_138 (by decide) h (fun z42 h => ?_)
      refine r_imul hx hb dX2_visit_141 h (fun z44 h => ?_)
      refine lv_iload hx hb dX2_visit_142 (lv_at hl 1 rfl) ?_
      refine r_iadd hx hb dX2_visit_144 h (fun z46 h => ?_)
      refine r_iald hx hb hK hP dX2_visit_145 h (fun z48 h => ?_)
      refine r_mmin hx hb (hml.trans hl.1.symm) hown (hts _ (List.mem_cons_of_mem _ kw_1111)) (hts _ (List.mem_cons_of_mem _ kw_719)) (hts _ (List.mem_cons_of_mem _ kw_19)) (hts _ (List.mem_cons_of_mem _ kw_720)) (Nat.le_of_ble_eq_true rfl) (Nat.le_of_ble_eq_true rfl) (Nat.zero_le _) (Nat.zero_le _) dX2_visit_146 h (fun z50 h => ?_)
      refine lv_istore (lv' := [(5, .int z50), (4, .int z34), (7, .int z13), (0, .ref (adr G xl0)), (1, .int zl1), (2, .int zl2), (3, .int zl3), (6, .int zl6)]) hx hb dX2_visit_149 hl (by decide) rfl (fun ls hl => ?_)
      refine r_iinc hx hb (fun z52 => [(6, .int z52), (5, .int z50), (4, .int z34), (7, .int z13), (0, .ref (adr G xl0)), (1, .int zl1), (2, .int zl2), (3, .int zl3)]) dX2_visit_151 (by decide) hl (k := 7) rfl (by decide) (fun _ => rfl) h (fun z52 ls hl h => ?_)
      refine lv_goto (tgt := 78) hx hb dX2_visit_154 (by decide) ?_
      exact ih xl0 zl1 zl2 zl3 z34 z50 z52 _ _ _ _ hP hS (lv_sub hl [4, 5, 6, 7, 2, 1, 0] rfl) h
set_option maxHeartbeats 4000000 in
set_option maxRecDepth 100000 in
theorem t_X2_visit_d2_58 {p : Program} {l : Launch} {e : Env} {s : State} {m : MethodId} {args : Array Value} {below : List Frame} {meth : Method} {c : Code} {D : va_G} {G : Gt} {S : Sh} {post : Mm → Prop} (C : Cx p s m args meth c D G cX2_visit 8 none (cw_X2_visit_d2 :: gw) RX2) : ∀ (xl0 : Int) (zl2 : Int32) (zl3 : Int32) (xs0 : Int) (zs1 : Int32) (zs2 : Int32) (M : Mm) (H : Heap) (locs : List Loc) (ls : Array Slot), Wd D G S M H → va_S (aG G) s.heap H locs → lv_has ls 8 [(0, .ref (adr G xl0)), (2, .int zl2), (3, .int zl3)] → wp_X2_visit_d2_58 S post xl0 zl2.toInt zl3.toInt xs0 zs1.toInt zs2.toInt M → W p l e RM_X2_visit_d2 s m args below meth c H locs 0 0 (MQ below (QV D G S post) args s 0 0 (aG G)) (F0 m 58 ls [.int zs2, .int zs1, .ref (adr G xs0)]) := by
  obtain ⟨hx, hb, hr, hlocks, hml, hown, hts, hK⟩ := id C
  intro xl0 zl2 zl3 xs0 zs1 zs2 M H locs ls hP hS hl h
  unfold wp_X2_visit_d2_58 at h
  refine r_iast hx hb hK hP hS dX2_visit_58 h (fun M53 H locs h hP hS => ?_)
  refine lv_aload_n hx hb dX2_visit_59 rfl (lv_at hl 0 rfl) ?_
  refine r_getr (C := RX2) (T := TX2) (N := 11) hx hb hts (fun w h => List.mem_cons_of_mem _ (iX2 w h)) hown hK hP rfl (by decide) rfl 5 (by decide) (hts _ (List.mem_cons_of_mem _ kw_420)) (fun _ h9 => h9) dX2_visit_60 (by decide) h (fun x55 h => ?_)
  refine lv_iload_n hx hb dX2_visit_63 rfl (lv_at hl 2 rfl) ?_
  refine lv_iload_n hx hb dX2_visit_64 rfl (lv_at hl 1 rfl) ?_
  refine r_iast hx hb hK hP hS dX2_visit_65 h (fun M56 H locs h hP hS => ?_)
  exact r_vret hx hb hr hlocks hP hS dX2_visit_66 h
set_option maxHeartbeats 4000000 in
set_option maxRecDepth 100000 in
theorem t_X2_visit_d2_57 {p : Program} {l : Launch} {e : Env} {s : State} {m : MethodId} {args : Array Value} {below : List Frame} {meth : Method} {c : Code} {D : va_G} {G : Gt} {S : Sh} {post : Mm → Prop} (C : Cx p s m args meth c D G cX2_visit 8 none (cw_X2_visit_d2 :: gw) RX2) : ∀ (xl0 : Int) (zl2 : Int32) (zl3 : Int32) (xs0 : Int) (zs1 : Int32) (M : Mm) (H : Heap) (locs : List Loc) (ls : Array Slot), Wd D G S M H → va_S (aG G) s.heap H locs → lv_has ls 8 [(0, .ref (adr G xl0)), (2, .int zl2), (3, .int zl3)] → wp_X2_visit_d2_57 S post xl0 zl2.toInt zl3.toInt xs0 zs1.toInt M → W p l e RM_X2_visit_d2 s m args below meth c H locs 0 0 (MQ below (QV D G S post) args s 0 0 (aG G)) (F0 m 57 ls [.int zs1, .ref (adr G xs0)]) := by
  obtain ⟨hx, hb, hr, hlocks, hml, hown, hts, hK⟩ := id C
  intro xl0 zl2 zl3 xs0 zs1 M H locs ls hP hS hl h
  unfold wp_X2_visit_d2_57 at h
  refine r_iconst hx hb dX2_visit_57 (by decide) h (fun z58 h => ?_)
  exact t_X2_visit_d2_58 C xl0 zl2 zl3 xs0 zs1 z58 _ _ _ _ hP hS (lv_sub hl [0, 1, 2] rfl) h
set_option maxHeartbeats 4000000 in
set_option maxRecDepth 100000 in
theorem c_X2_visit_d2 (l : Launch) (D : va_G) (G : Gt) (S : Sh) (M : Mm) (xl0 : Int) (zl1 : Int32) (zl2 : Int32) (post : Mm → Prop) (h : wp_X2_visit_d2 S M xl0 zl1.toInt zl2.toInt post) : Met l yX2_visit (cw_X2_visit_d2 :: gw) RM_X2_visit_d2 (va_Pc [.ref (adr G xl0), .int zl1, .int zl2] (fun U => KN D G U ∧ Wd D G S M U.heap)) (QV D G S post) 0 0 (aG G) := by
  refine Met.ofW (cc := cX2_visit) (maxL := 8) (ret := none) (by decide) rfl ?_
  intro p e s m args below meth c s₁ B hml hv
  obtain ⟨rfl, hK, hP⟩ := hv
  have hx := B.exec
  have hb := B.bytes
  have hr := B.returns
  have hts := atoms_spec (ws := cw_X2_visit_d2 :: gw) B.pre
  have hown : s.vm.findClass RX2 = some m.cls := findClass_of_methodNamed B.named
  have hlocks := B.notSynchronized
  have hS : va_S (aG G) s.heap s.heap [] := va_S.rf
  have C : Cx p s m ([.ref (adr G xl0), .int zl1, .int zl2] : List Value).toArray meth c D G cX2_visit 8 none (cw_X2_visit_d2 :: gw) RX2 := ⟨hx, hb, hr, hlocks, hml, hown, hts, hK⟩
  have hl := lv_entry ([.ref (adr G xl0), .int zl1, .int zl2]) (n := 8) (Nat.le_of_ble_eq_true rfl)
  rw [lg_entry_eq]
  generalize (lg_sl ([.ref (adr G xl0), .int zl1, .int zl2]) ++ List.replicate (8 - (lg_sl ([.ref (adr G xl0), .int zl1, .int zl2])).length) Slot.unset).toArray = ls at hl ⊢
  have hl : lv_has ls 8 [(0, .ref (adr G xl0)), (1, .int zl1), (2, .int zl2)] := hl
  unfold wp_X2_visit_d2 at h
  refine lv_iload_n hx hb dX2_visit_0 rfl (lv_at hl 1 rfl) ?_
  refine r_sipush hx hb dX2_visit_1 (by decide) h (fun z60 h => ?_)
  refine r_imul hx hb dX2_visit_4 h (fun z62 h => ?_)
  refine lv_iload_n hx hb dX2_visit_5 rfl (lv_at hl 2 rfl) ?_
  refine r_iadd hx hb dX2_visit_6 h (fun z64 h => ?_)
  refine lv_istore_n (lv' := [(3, .int z64), (0, .ref (adr G xl0)), (1, .int zl1), (2, .int zl2)]) hx hb dX2_visit_7 rfl hl (by decide) rfl (fun ls hl => ?_)
  refine lv_iload_n hx hb dX2_visit_8 rfl (lv_at hl 2 rfl) ?_
  refine r_iconst hx hb dX2_visit_9 (by decide) h (fun z66 h => ?_)
  refine r_icmp_gt (tgt := 23) hx hb dX2_visit_10 (by decide) h (fun h => ?_) (fun h => ?_)
  · exact r_vret hx hb hr hlocks hP hS dX2_visit_23 h
  · refine lv_aload_n hx hb dX2_visit_13 rfl (lv_at hl 1 rfl) ?_
    refine r_getr (C := RX2) (T := TX2) (N := 11) hx hb hts (fun w h => List.mem_cons_of_mem _ (iX2 w h)) hown hK hP rfl (by decide) rfl 4 (by decide) (hts _ (List.mem_cons_of_mem _ kw_419)) (fun _ h9 => h9) dX2_visit_14 (by decide) h (fun x68 h => ?_)
    refine lv_iload_n hx hb dX2_visit_17 rfl (lv_at hl 0 rfl) ?_
    refine r_iald hx hb hK hP dX2_visit_18 h (fun z70 h => ?_)
    refine r_iconst hx hb dX2_visit_19 (by decide) h (fun z72 h => ?_)
    refine r_icmp_eq (tgt := 24) hx hb dX2_visit_20 (by decide) h (fun h => ?_) (fun h => ?_)
    · refine lv_iload_n hx hb dX2_visit_24 rfl (lv_at hl 2 rfl) ?_
      refine lv_aload_n hx hb dX2_visit_25 rfl (lv_at hl 1 rfl) ?_
      refine r_geti (C := RX2) (T := TX2) (N := 11) hx hb hts (fun w h => List.mem_cons_of_mem _ (iX2 w h)) hown hK hP rfl (by decide) rfl 6 (by decide) (hts _ (List.mem_cons_of_mem _ kw_421)) (fun _ h9 => h9) dX2_visit_26 (by decide) h (fun z74 h => ?_)
      refine r_icmp_lt (tgt := 67) hx hb dX2_visit_29 (by decide) h (fun h => ?_) (fun h => ?_)
      · refine r_iconst hx hb dX2_visit_67 (by decide) h (fun z76 h => ?_)
        refine lv_istore (lv' := [(4, .int z76), (3, .int z64), (0, .ref (adr G xl0)), (1, .int zl1), (2, .int zl2)]) hx hb dX2_visit_68 hl (by decide) rfl (fun ls hl => ?_)
        refine r_sipush hx hb dX2_visit_70 (by decide) h (fun z78 h => ?_)
        refine lv_istore (lv' := [(5, .int z78), (4, .int z76), (3, .int z64), (0, .ref (adr G xl0)), (1, .int zl1), (2, .int zl2)]) hx hb dX2_visit_73 hl (by decide) rfl (fun ls hl => ?_)
        refine r_iconst hx hb dX2_visit_75 (by decide) h (fun z80 h => ?_)
        refine lv_istore (lv' := [(6, .int z80), (5, .int z78), (4, .int z76), (3, .int z64), (0, .ref (adr G xl0)), (1, .int zl1), (2, .int zl2)]) hx hb dX2_visit_76 hl (by decide) rfl (fun ls hl => ?_)
        obtain ⟨n9, h⟩ := h
        exact t_X2_visit_d2_78 C n9 xl0 zl1 zl2 z64 z76 z78 z80 _ _ _ _ hP hS (lv_sub hl [4, 5, 6, 3, 2, 1, 0] rfl) h
      · refine lv_aload_n hx hb dX2_visit_32 rfl (lv_at hl 1 rfl) ?_
        refine r_getr (C := RX2) (T := TX2) (N := 11) hx hb hts (fun w h => List.mem_cons_of_mem _ (iX2 w h)) hown hK hP rfl (by decide) rfl 4 (by decide) (hts _ (List.mem_cons_of_mem _ kw_419)) (fun _ h9 => h9) dX2_visit_33 (by decide) h (fun x82 h => ?_)
        refine lv_iload_n hx hb dX2_visit_36 rfl (lv_at hl 0 rfl) ?_
        refine lv_aload_n hx hb dX2_visit_37 rfl (lv_at hl 1 rfl) ?_
        refine r_geti (C := RX2) (T := TX2) (N := 11) hx hb hts (fun w h => List.mem_cons_of_mem _ (iX2 w h)) hown hK hP rfl (by decide) rfl 9 (by decide) (hts _ (List.mem_cons_of_mem _ kw_424)) (fun _ h9 => h9) dX2_visit_38 (by decide) h (fun z84 h => ?_)
        refine lv_iload_n hx hb dX2_visit_41 rfl (lv_at hl 3 rfl) ?_
        refine r_icmp_gt (tgt := 57) hx hb dX2_visit_42 (by decide) h (fun h => ?_) (fun h => ?_)
        · exact t_X2_visit_d2_57 C xl0 zl2 z64 x82 z64 _ _ _ _ hP hS (lv_sub hl [1, 3, 0] rfl) h
        · refine lv_iload_n hx hb dX2_visit_45 rfl (lv_at hl 3 rfl) ?_
          refine lv_aload_n hx hb dX2_visit_46 rfl (lv_at hl 1 rfl) ?_
          refine r_geti (C := RX2) (T := TX2) (N := 11) hx hb hts (fun w h => List.mem_cons_of_mem _ (iX2 w h)) hown hK hP rfl (by decide) rfl 10 (by decide) (hts _ (List.mem_cons_of_mem _ kw_425)) (fun _ h9 => h9) dX2_visit_47 (by decide) h (fun z86 h => ?_)
          refine r_icmp_gt (tgt := 57) hx hb dX2_visit_50 (by decide) h (fun h => ?_) (fun h => ?_)
          · exact t_X2_visit_d2_57 C xl0 zl2 z64 x82 z64 _ _ _ _ hP hS (lv_sub hl [1, 3, 0] rfl) h
          · refine r_iconst hx hb dX2_visit_53 (by decide) h (fun z88 h => ?_)
            refine lv_goto (tgt := 58) hx hb dX2_visit_54 (by decide) ?_
            exact t_X2_visit_d2_58 C xl0 zl2 z64 x82 z64 z88 _ _ _ _ hP hS (lv_sub hl [1, 3, 0] rfl) h
    · exact r_vret hx hb hr hlocks hP hS dX2_visit_23 h
/-! visit, 3 deep -/
abbrev RM_X2_visit_d3 : Room := { frames := 9, cells := 0, slots := 0, locals := 233 }
def cw_X2_visit_d3 : Cond := Cond.code yX2_visit cX2_visit 8 (Option.none : Option FieldType)
theorem hd_X2_visit_d3 : yX2_visit.cls ≠ "java/lang/invoke/MethodHandle" ∧ yX2_visit.cls ≠ "java/lang/invoke/VarHandle" ∧ (parseMethodDescriptor yX2_visit.desc).map (fun d => d.parameters.length) = some 2 := by decide +kernel
def wp_X2_visit_d3_78 (S : Sh) (post : Mm → Prop) : Nat → Int → Int → Int → Int → Int → Int → Int → Mm → Prop
  | 0, _, _, _, _, _, _, _, _ => False
  | n + 1, u0, u1, u2, u3, u4, u5, u6, M => wGetR S M u0 2 1 fun v1 => wGet S M v1 8 4 fun v3 => wIf (v3 ≤ u6) (wGetR S M u0 2 4 fun v5 => wSt S M v5 14 u3 u4 fun M7 => wGetR S M7 u0 2 5 fun v8 => wSt S M7 v8 14 u3 u5 fun M10 => post M10) (isK S u0 2 ∧ (wp_X2_carried S M u0 u1 u6 u2 <| fun v12 M11 => wC 1 fun v14 => wA u1 v14 fun v16 => isK S u0 2 ∧ (wp_X2_visit_d2 S M11 u0 v16 v12 <| fun M18 => wGetR S M18 u0 2 4 fun v19 => wC 1 fun v21 => wA u1 v21 fun v23 => wC 1000 fun v25 => wM v23 v25 fun v27 => wA v27 v12 fun v29 => wLd S M18 v19 14 v29 fun v31 => wA u4 v31 fun v33 => wGetR S M18 u0 2 5 fun v35 => wC 1 fun v37 => wA u1 v37 fun v39 => wC 1000 fun v41 => wM v39 v41 fun v43 => wA v43 v12 fun v45 => wLd S M18 v35 14 v45 fun v47 => wO min u5 v47 fun v49 => wA u6 1 fun v51 => wp_X2_visit_d3_78 S post n u0 u1 u2 u3 v33 v49 v51 M18)))
def wp_X2_visit_d3_58 (S : Sh) (post : Mm → Prop) (u0 : Int) (u2 : Int) (u3 : Int) (t0 : Int) (t1 : Int) (t2 : Int) (M : Mm) : Prop := wSt S M t0 14 t1 t2 fun M53 => wGetR S M53 u0 2 5 fun v54 => wSt S M53 v54 14 u3 u2 fun M56 => post M56
def wp_X2_visit_d3_57 (S : Sh) (post : Mm → Prop) (u0 : Int) (u2 : Int) (u3 : Int) (t0 : Int) (t1 : Int) (M : Mm) : Prop := wC 0 fun v57 => wp_X2_visit_d3_58 S post u0 u2 u3 t0 t1 v57 M
def wp_X2_visit_d3 (S : Sh) (M : Mm) (u0 : Int) (u1 : Int) (u2 : Int) (post : Mm → Prop) : Prop := wC 1000 fun v59 => wM u1 v59 fun v61 => wA v61 u2 fun v63 => wC 5 fun v65 => wIf (v65 < u1) (post M) (wGetR S M u0 2 4 fun v67 => wLd S M v67 14 v63 fun v69 => wC (-1) fun v71 => wIf (v69 = v71) (wGet S M u0 2 6 fun v73 => wIf (u1 < v73) (wC 0 fun v75 => wC 999 fun v77 => wC 0 fun v79 => ∃ n9 : Nat, wp_X2_visit_d3_78 S post n9 u0 u1 u2 v63 v75 v77 v79 M) (wGetR S M u0 2 4 fun v81 => wGet S M u0 2 9 fun v83 => wIf (u2 < v83) (wp_X2_visit_d3_57 S post u0 u2 v63 v81 v63 M) (wGet S M u0 2 10 fun v85 => wIf (v85 < u2) (wp_X2_visit_d3_57 S post u0 u2 v63 v81 v63 M) (wC 1 fun v87 => wp_X2_visit_d3_58 S post u0 u2 v63 v81 v63 v87 M)))) (post M))
set_option maxHeartbeats 4000000 in
set_option maxRecDepth 100000 in
theorem t_X2_visit_d3_78 {p : Program} {l : Launch} {e : Env} {s : State} {m : MethodId} {args : Array Value} {below : List Frame} {meth : Method} {c : Code} {D : va_G} {G : Gt} {S : Sh} {post : Mm → Prop} (C : Cx p s m args meth c D G cX2_visit 8 none (cw_X2_visit_d3 :: gw) RX2) : ∀ (n : Nat) (xl0 : Int) (zl1 : Int32) (zl2 : Int32) (zl3 : Int32) (zl4 : Int32) (zl5 : Int32) (zl6 : Int32) (M : Mm) (H : Heap) (locs : List Loc) (ls : Array Slot), Wd D G S M H → va_S (aG G) s.heap H locs → lv_has ls 8 [(0, .ref (adr G xl0)), (1, .int zl1), (2, .int zl2), (3, .int zl3), (4, .int zl4), (5, .int zl5), (6, .int zl6)] → wp_X2_visit_d3_78 S post n xl0 zl1.toInt zl2.toInt zl3.toInt zl4.toInt zl5.toInt zl6.toInt  M → W p l e RM_X2_visit_d3 s m args below meth c H locs 0 0 (MQ below (QV D G S post) args s 0 0 (aG G)) (F0 m 78 ls []) := by
  obtain ⟨hx, hb, hr, hlocks, hml, hown, hts, hK⟩ := id C
  intro n
  induction n with
  | zero => intro xl0 zl1 zl2 zl3 zl4 zl5 zl6 M H locs ls hP hS hl h; exact h.elim
  | succ n ih =>
    intro xl0 zl1 zl2 zl3 zl4 zl5 zl6 M H locs ls hP hS hl h
    unfold wp_X2_visit_d3_78 at h
    refine lv_iload hx hb dX2_visit_78 (lv_at hl 6 rfl) ?_
    refine lv_aload_n hx hb dX2_visit_80 rfl (lv_at hl 0 rfl) ?_
    refine r_getr (C := RX2) (T := TX2) (N := 11) hx hb hts (fun w h => List.mem_cons_of_mem _ (iX2 w h)) hown hK hP rfl (by decide) rfl 1 (by decide) (hts _ (List.mem_cons_of_mem _ kw_416)) (fun _ h9 => h9) dX2_visit_81 (by decide) h (fun x2 h => ?_)
    refine r_getiN (C := RX8) (T := TX8) (N := 19) hx hb hts (fun w h => List.mem_cons_of_mem _ (iX8 w h)) hown hK hP rfl (by decide) rfl 4 (by decide) (nw_15 hK) (fun _ h9 => h9) dX2_visit_84 (by decide) h (fun z4 h => ?_)
    refine r_icmp_ge (tgt := 157) hx hb dX2_visit_87 (by decide) h (fun h => ?_) (fun h => ?_)
    · refine lv_aload_n hx hb dX2_visit_157 rfl (lv_at hl 0 rfl) ?_
      refine r_getr (C := RX2) (T := TX2) (N := 11) hx hb hts (fun w h => List.mem_cons_of_mem _ (iX2 w h)) hown hK hP rfl (by decide) rfl 4 (by decide) (hts _ (List.mem_cons_of_mem _ kw_419)) (fun _ h9 => h9) dX2_visit_158 (by decide) h (fun x6 h => ?_)
      refine lv_iload_n hx hb dX2_visit_161 rfl (lv_at hl 3 rfl) ?_
      refine lv_iload hx hb dX2_visit_162 (lv_at hl 4 rfl) ?_
      refine r_iast hx hb hK hP hS dX2_visit_164 h (fun M7 H locs h hP hS => ?_)
      refine lv_aload_n hx hb dX2_visit_165 rfl (lv_at hl 0 rfl) ?_
      refine r_getr (C := RX2) (T := TX2) (N := 11) hx hb hts (fun w h => List.mem_cons_of_mem _ (iX2 w h)) hown hK hP rfl (by decide) rfl 5 (by decide) (hts _ (List.mem_cons_of_mem _ kw_420)) (fun _ h9 => h9) dX2_visit_166 (by decide) h (fun x9 h => ?_)
      refine lv_iload_n hx hb dX2_visit_169 rfl (lv_at hl 3 rfl) ?_
      refine lv_iload hx hb dX2_visit_170 (lv_at hl 5 rfl) ?_
      refine r_iast hx hb hK hP hS dX2_visit_172 h (fun M10 H locs h hP hS => ?_)
      exact r_vret hx hb hr hlocks hP hS dX2_visit_173 h
    · refine lv_aload_n hx hb dX2_visit_90 rfl (lv_at hl 0 rfl) ?_
      refine lv_iload_n hx hb dX2_visit_91 rfl (lv_at hl 1 rfl) ?_
      refine lv_iload hx hb dX2_visit_92 (lv_at hl 6 rfl) ?_
      refine lv_iload_n hx hb dX2_visit_94 rfl (lv_at hl 2 rfl) ?_
      refine q_Vi hx hb hml hown hts hK hP hS (c_X2_carried l D G S _ xl0 zl1 zl6 zl2 _ h.2) ⟨callB_of 3 hts (gw_good kw_1129) rfl rfl rfl (hts _ (List.mem_cons_of_mem _ kw_11)) (hts _ (List.mem_cons_of_mem _ kw_1126)) hd_X2_carried ⟨Nat.le_of_ble_eq_true rfl, Nat.le_of_ble_eq_true rfl⟩, (hts _ (List.mem_cons_of_mem _ kw_1128)), (hts _ (List.mem_cons_of_mem _ kp_41))⟩ h.1 (ci := 2) rfl (by decide) rfl hl.1 rfl (lv_room (Nat.le_of_ble_eq_true rfl)) dX2_visit_95 ⟨Nat.zero_le _, Nat.zero_le _⟩ (fun z13 M11 H locs h hP hS => ?_)
      refine lv_istore (lv' := [(7, .int z13), (0, .ref (adr G xl0)), (1, .int zl1), (2, .int zl2), (3, .int zl3), (4, .int zl4), (5, .int zl5), (6, .int zl6)]) hx hb dX2_visit_98 hl (by decide) rfl (fun ls hl => ?_)
      refine lv_aload_n hx hb dX2_visit_100 rfl (lv_at hl 1 rfl) ?_
      refine lv_iload_n hx hb dX2_visit_101 rfl (lv_at hl 2 rfl) ?_
      refine r_iconst hx hb dX2_visit_102 (by decide) h (fun z15 h => ?_)
      refine r_iadd hx hb dX2_visit_103 h (fun z17 h => ?_)
      refine lv_iload hx hb dX2_visit_104 (lv_at hl 0 rfl) ?_
      refine q_Vv hx hb hml hown hts hK hP hS (c_X2_visit_d2 l D G S _ xl0 z17 z13 _ h.2) ⟨callB_of 2 hts (gw_good kw_1125) rfl rfl rfl (hts _ (List.mem_cons_of_mem _ kw_11)) (hts _ (List.mem_cons_of_mem _ kw_1122)) hd_X2_visit_d2 ⟨Nat.le_of_ble_eq_true rfl, Nat.le_of_ble_eq_true rfl⟩, (hts _ (List.mem_cons_of_mem _ kw_1124)), (hts _ (List.mem_cons_of_mem _ kp_40))⟩ h.1 (ci := 2) rfl (by decide) rfl hl.1 rfl (lv_room (Nat.le_of_ble_eq_true rfl)) dX2_visit_106 ⟨Nat.zero_le _, Nat.zero_le _⟩ (fun M18 H locs h hP hS => ?_)
      refine lv_iload hx hb dX2_visit_109 (lv_at hl 5 rfl) ?_
      refine lv_aload_n hx hb dX2_visit_111 rfl (lv_at hl 1 rfl) ?_
      refine r_getr (C := RX2) (T := TX2) (N := 11) hx hb hts (fun w h => List.mem_cons_of_mem _ (iX2 w h)) hown hK hP rfl (by decide) rfl 4 (by decide) (hts _ (List.mem_cons_of_mem _ kw_419)) (fun _ h9 => h9) dX2_visit_112 (by decide) h (fun x20 h => ?_)
      refine lv_iload_n hx hb dX2_visit_115 rfl (lv_at hl 2 rfl) ?_
      refine r_iconst hx hb dX2_visit_116 (by decide) h (fun z22 h => ?_)
      refine r_iadd hx hb dX2_visit_117 h (fun z24 h => ?_)
      refine r_sipush hx hb dX2_visit_118 (by decide) h (fun z26 h => ?_)
      refine r_imul hx hb dX2_visit_121 h (fun z28 h => ?_)
      refine lv_iload hx hb dX2_visit_122 (lv_at hl 0 rfl) ?_
      refine r_iadd hx hb dX2_visit_124 h (fun z30 h => ?_)
      refine r_iald hx hb hK hP dX2_visit_125 h (fun z32 h => ?_)
      refine r_iadd hx hb dX2_visit_126 h (fun z34 h => ?_)
      refine lv_istore (lv' := [(4, .int z34), (7, .int z13), (0, .ref (adr G xl0)), (1, .int zl1), (2, .int zl2), (3, .int zl3), (5, .int zl5), (6, .int zl6)]) hx hb dX2_visit_127 hl (by decide) rfl (fun ls hl => ?_)
      refine lv_iload hx hb dX2_visit_129 (lv_at hl 6 rfl) ?_
      refine lv_aload_n hx hb dX2_visit_131 rfl (lv_at hl 2 rfl) ?_
      refine r_getr (C := RX2) (T := TX2) (N := 11) hx hb hts (fun w h => List.mem_cons_of_mem _ (iX2 w h)) hown hK hP rfl (by decide) rfl 5 (by decide) (hts _ (List.mem_cons_of_mem _ kw_420)) (fun _ h9 => h9) dX2_visit_132 (by decide) h (fun x36 h => ?_)
      refine lv_iload_n hx hb dX2_visit_135 rfl (lv_at hl 3 rfl) ?_
      refine r_iconst hx hb dX2_visit_136 (by decide) h (fun z38 h => ?_)
      refine r_iadd hx hb dX2_visit_137 h (fun z40 h => ?_)
      refine r_sipush hx hb dX2_visit_138 (by decide) h (fun z42 h => ?_)
      refine r_imul hx hb dX2_visit_141 h (fun z44 h => ?_)
      refine lv_iload hx hb dX2_visit_142 (lv_at hl 1 rfl) ?_
      refine r_iadd hx hb dX2_visit_144 h (fun z46 h => ?_)
      refine r_iald hx hb hK hP dX2_visit_145 h (fun z48 h => ?_)
      refine r_mmin hx hb (hml.trans hl.1.symm) hown (hts _ (List.mem_cons_of_mem _ kw_1111)) (hts _ (List.mem_cons_of_mem _ kw_719)) (hts _ (List.mem_cons_of_mem _ kw_19)) (hts _ (List.mem_cons_of_mem _ kw_720)) (Nat.le_of_ble_eq_true rfl) (Nat.le_of_ble_eq_true rfl) (Nat.zero_le _) (Nat.zero_le _) dX2_visit_146 h (fun z50 h => ?_)
      refine lv_istore (lv' := [(5, .int z50), (4, .int z34), (7, .int z13), (0, .ref (adr G xl0)), (1, .int zl1), (2, .int zl2), (3, .int zl3), (6, .int zl6)]) hx hb dX2_visit_149 hl (by decide) rfl (fun ls hl => ?_)
      refine r_iinc hx hb (fun z52 => [(6, .int z52), (5, .int z50), (4, .int z34), (7, .int z13), (0, .ref (adr G xl0)), (1, .int zl1), (2, .int zl2), (3, .int zl3)]) dX2_visit_151 (by decide) hl (k := 7) rfl (by decide) (fun _ => rfl) h (fun z52 ls hl h => ?_)
      refine lv_goto (tgt := 78) hx hb dX2_visit_154 (by decide) ?_
      exact ih xl0 zl1 zl2 zl3 z34 z50 z52 _ _ _ _ hP hS (lv_sub hl [4, 5, 6, 7, 2, 1, 0] rfl) h
set_option maxHeartbeats 4000000 in
set_option maxRecDepth 100000 in
theorem t_X2_visit_d3_58 {p : Program} {l : Launch} {e : Env} {s : State} {m : MethodId} {args : Array Value} {below : List Frame} {meth : Method} {c : Code} {D : va_G} {G : Gt} {S : Sh} {post : Mm → Prop} (C : Cx p s m args meth c D G cX2_visit 8 none (cw_X2_visit_d3 :: gw) RX2) : ∀ (xl0 : Int) (zl2 : Int32) (zl3 : Int32) (xs0 : Int) (zs1 : Int32) (zs2 : Int32) (M : Mm) (H : Heap) (locs : List Loc) (ls : Array Slot), Wd D G S M H → va_S (aG G) s.heap H locs → lv_has ls 8 [(0, .ref (adr G xl0)), (2, .int zl2), (3, .int zl3)] → wp_X2_visit_d3_58 S post xl0 zl2.toInt zl3.toInt xs0 zs1.toInt zs2.toInt M → W p l e RM_X2_visit_d3 s m args below meth c H locs 0 0 (MQ below (QV D G S post) args s 0 0 (aG G)) (F0 m 58 ls [.int zs2, .int zs1, .ref (adr G xs0)]) := by
  obtain ⟨hx, hb, hr, hlocks, hml, hown, hts, hK⟩ := id C
  intro xl0 zl2 zl3 xs0 zs1 zs2 M H locs ls hP hS hl h
  unfold wp_X2_visit_d3_58 at h
  refine r_iast hx hb hK hP hS dX2_visit_58 h (fun M53 H locs h hP hS => ?_)
  refine lv_aload_n hx hb dX2_visit_59 rfl (lv_at hl 0 rfl) ?_
  refine r_getr (C := RX2) (T := TX2) (N := 11) hx hb hts (fun w h => List.mem_cons_of_mem _ (iX2 w h)) hown hK hP rfl (by decide) rfl 5 (by decide) (hts _ (List.mem_cons_of_mem _ kw_420)) (fun _ h9 => h9) dX2_visit_60 (by decide) h (fun x55 h => ?_)
  refine lv_iload_n hx hb dX2_visit_63 rfl (lv_at hl 2 rfl) ?_
  refine lv_iload_n hx hb dX2_visit_64 rfl (lv_at hl 1 rfl) ?_
  refine r_iast hx hb hK hP hS dX2_visit_65 h (fun M56 H locs h hP hS => ?_)
  exact r_vret hx hb hr hlocks hP hS dX2_visit_66 h
set_option maxHeartbeats 4000000 in
set_option maxRecDepth 100000 in
theorem t_X2_visit_d3_57 {p : Program} {l : Launch} {e : Env} {s : State} {m : MethodId} {args : Array Value} {below : List Frame} {meth : Method} {c : Code} {D : va_G} {G : Gt} {S : Sh} {post : Mm → Prop} (C : Cx p s m args meth c D G cX2_visit 8 none (cw_X2_visit_d3 :: gw) RX2) : ∀ (xl0 : Int) (zl2 : Int32) (zl3 : Int32) (xs0 : Int) (zs1 : Int32) (M : Mm) (H : Heap) (locs : List Loc) (ls : Array Slot), Wd D G S M H → va_S (aG G) s.heap H locs → lv_has ls 8 [(0, .ref (adr G xl0)), (2, .int zl2), (3, .int zl3)] → wp_X2_visit_d3_57 S post xl0 zl2.toInt zl3.toInt xs0 zs1.toInt M → W p l e RM_X2_visit_d3 s m args below meth c H locs 0 0 (MQ below (QV D G S post) args s 0 0 (aG G)) (F0 m 57 ls [.int zs1, .ref (adr G xs0)]) := by
  obtain ⟨hx, hb, hr, hlocks, hml, hown, hts, hK⟩ := id C
  intro xl0 zl2 zl3 xs0 zs1 M H locs ls hP hS hl h
  unfold wp_X2_visit_d3_57 at h
  refine r_iconst hx hb dX2_visit_57 (by decide) h (fun z58 h => ?_)
  exact t_X2_visit_d3_58 C xl0 zl2 zl3 xs0 zs1 z58 _ _ _ _ hP hS (lv_sub hl [0, 1, 2] rfl) h
set_option maxHeartbeats 4000000 in
set_option maxRecDepth 100000 in
theorem c_X2_visit_d3 (l : Launch) (D : va_G) (G : Gt) (S : Sh) (M : Mm) (xl0 : Int) (zl1 : Int32) (zl2 : Int32) (post : Mm → Prop) (h : wp_X2_visit_d3 S M xl0 zl1.toInt zl2.toInt post) : Met l yX2_visit (cw_X2_visit_d3 :: gw) RM_X2_visit_d3 (va_Pc [.ref (adr G xl0), .int zl1, .int zl2] (fun U => KN D G U ∧ Wd D G S M U.heap)) (QV D G S post) 0 0 (aG G) := by
  refine Met.ofW (cc := cX2_visit) (maxL := 8) (ret := none) (by decide) rfl ?_
  intro p e s m args below meth c s₁ B hml hv
  obtain ⟨rfl, hK, hP⟩ := hv
  have hx := B.exec
  have hb := B.bytes
  have hr := B.returns
  have hts := atoms_spec (ws := cw_X2_visit_d3 :: gw) B.pre
  have hown : s.vm.findClass RX2 = some m.cls := findClass_of_methodNamed B.named
  have hlocks := B.notSynchronized
  have hS : va_S (aG G) s.heap s.heap [] := va_S.rf
  have C : Cx p s m ([.ref (adr G xl0), .int zl1, .int zl2] : List Value).toArray meth c D G cX2_visit 8 none (cw_X2_visit_d3 :: gw) RX2 := ⟨hx, hb, hr, hlocks, hml, hown, hts, hK⟩
  have hl := lv_entry ([.ref (adr G xl0), .int zl1, .int zl2]) (n := 8) (Nat.le_of_ble_eq_true rfl)
  rw [lg_entry_eq]
  generalize (lg_sl ([.ref (adr G xl0), .int zl1, .int zl2]) ++ List.replicate (8 - (lg_sl ([.ref (adr G xl0), .int zl1, .int zl2])).length) Slot.unset).toArray = ls at hl ⊢
  have hl : lv_has ls 8 [(0, .ref (adr G xl0)), (1, .int zl1), (2, .int zl2)] := hl
  unfold wp_X2_visit_d3 at h
  refine lv_iload_n hx hb dX2_visit_0 rfl (lv_at hl 1 rfl) ?_
  refine r_sipush hx hb dX2_visit_1 (by decide) h (fun z60 h => ?_)
  refine r_imul hx hb dX2_visit_4 h (fun z62 h => ?_)
  refine lv_iload_n hx hb dX2_visit_5 rfl (lv_at hl 2 rfl) ?_
  refine r_iadd hx hb dX2_visit_6 h (fun z64 h => ?_)
  refine lv_istore_n (lv' := [(3, .int z64), (0, .ref (adr G xl0)), (1, .int zl1), (2, .int zl2)]) hx hb dX2_visit_7 rfl hl (by decide) rfl (fun ls hl => ?_)
  refine lv_iload_n hx hb dX2_visit_8 rfl (lv_at hl 2 rfl) ?_
  refine r_iconst hx hb dX2_visit_9 (by decide) h (fun z66 h => ?_)
  refine r_icmp_gt (tgt := 23) hx hb dX2_visit_10 (by decide) h (fun h => ?_) (fun h => ?_)
  · exact r_vret hx hb hr hlocks hP hS dX2_visit_23 h
  · refine lv_aload_n hx hb dX2_visit_13 rfl (lv_at hl 1 rfl) ?_
    refine r_getr (C := RX2) (T := TX2) (N := 11) hx hb hts (fun w h => List.mem_cons_of_mem _ (iX2 w h)) hown hK hP rfl (by decide) rfl 4 (by decide) (hts _ (List.mem_cons_of_mem _ kw_419)) (fun _ h9 => h9) dX2_visit_14 (by decide) h (fun x68 h => ?_)
    refine lv_iload_n hx hb dX2_visit_17 rfl (lv_at hl 0 rfl) ?_
    refine r_iald hx hb hK hP dX2_visit_18 h (fun z70 h => ?_)
    refine r_iconst hx hb dX2_visit_19 (by decide) h (fun z72 h => ?_)
    refine r_icmp_eq (tgt := 24) hx hb dX2_visit_20 (by decide) h (fun h => ?_) (fun h => ?_)
    · refine lv_iload_n hx hb dX2_visit_24 rfl (lv_at hl 2 rfl) ?_
      refine lv_aload_n hx hb dX2_visit_25 rfl (lv_at hl 1 rfl) ?_
      refine r_geti (C := RX2) (T := TX2) (N := 11) hx hb hts (fun w h => List.mem_cons_of_mem _ (iX2 w h)) hown hK hP rfl (by decide) rfl 6 (by decide) (hts _ (List.mem_cons_of_mem _ kw_421)) (fun _ h9 => h9) dX2_visit_26 (by decide) h (fun z74 h => ?_)
      refine r_icmp_lt (tgt := 67) hx hb dX2_visit_29 (by decide) h (fun h => ?_) (fun h => ?_)
      · refine r_iconst hx hb dX2_visit_67 (by decide) h (fun z76 h => ?_)
        refine lv_istore (lv' := [(4, .int z76), (3, .int z64), (0, .ref (adr G xl0)), (1, .int zl1), (2, .int zl2)]) hx hb dX2_visit_68 hl (by decide) rfl (fun ls hl => ?_)
        refine r_sipush hx hb dX2_visit_70 (by decide) h (fun z78 h => ?_)
        refine lv_istore (lv' := [(5, .int z78), (4, .int z76), (3, .int z64), (0, .ref (adr G xl0)), (1, .int zl1), (2, .int zl2)]) hx hb dX2_visit_73 hl (by decide) rfl (fun ls hl => ?_)
        refine r_iconst hx hb dX2_visit_75 (by decide) h (fun z80 h => ?_)
        refine lv_istore (lv' := [(6, .int z80), (5, .int z78), (4, .int z76), (3, .int z64), (0, .ref (adr G xl0)), (1, .int zl1), (2, .int zl2)]) hx hb dX2_visit_76 hl (by decide) rfl (fun ls hl => ?_)
        obtain ⟨n9, h⟩ := h
        exact t_X2_visit_d3_78 C n9 xl0 zl1 zl2 z64 z76 z78 z80 _ _ _ _ hP hS (lv_sub hl [4, 5, 6, 3, 2, 1, 0] rfl) h
      · refine lv_aload_n hx hb dX2_visit_32 rfl (lv_at hl 1 rfl) ?_
        refine r_getr (C := RX2) (T := TX2) (N := 11) hx hb hts (fun w h => List.mem_cons_of_mem _ (iX2 w h)) hown hK hP rfl (by decide) rfl 4 (by decide) (hts _ (List.mem_cons_of_mem _ kw_419)) (fun _ h9 => h9) dX2_visit_33 (by decide) h (fun x82 h => ?_)
        refine lv_iload_n hx hb dX2_visit_36 rfl (lv_at hl 0 rfl) ?_
        refine lv_aload_n hx hb dX2_visit_37 rfl (lv_at hl 1 rfl) ?_
        refine r_geti (C := RX2) (T := TX2) (N := 11) hx hb hts (fun w h => List.mem_cons_of_mem _ (iX2 w h)) hown hK hP rfl (by decide) rfl 9 (by decide) (hts _ (List.mem_cons_of_mem _ kw_424)) (fun _ h9 => h9) dX2_visit_38 (by decide) h (fun z84 h => ?_)
        refine lv_iload_n hx hb dX2_visit_41 rfl (lv_at hl 3 rfl) ?_
        refine r_icmp_gt (tgt := 57) hx hb dX2_visit_42 (by decide) h (fun h => ?_) (fun h => ?_)
        · exact t_X2_visit_d3_57 C xl0 zl2 z64 x82 z64 _ _ _ _ hP hS (lv_sub hl [1, 3, 0] rfl) h
        · refine lv_iload_n hx hb dX2_visit_45 rfl (lv_at hl 3 rfl) ?_
          refine lv_aload_n hx hb dX2_visit_46 rfl (lv_at hl 1 rfl) ?_
          refine r_geti (C := RX2) (T := TX2) (N := 11) hx hb hts (fun w h => List.mem_cons_of_mem _ (iX2 w h)) hown hK hP rfl (by decide) rfl 10 (by decide) (hts _ (List.mem_cons_of_mem _ kw_425)) (fun _ h9 => h9) dX2_visit_47 (by decide) h (fun z86 h => ?_)
          refine r_icmp_gt (tgt := 57) hx hb dX2_visit_50 (by decide) h (fun h => ?_) (fun h => ?_)
          · exact t_X2_visit_d3_57 C xl0 zl2 z64 x82 z64 _ _ _ _ hP hS (lv_sub hl [1, 3, 0] rfl) h
          · refine r_iconst hx hb dX2_visit_53 (by decide) h (fun z88 h => ?_)
            refine lv_goto (tgt := 58) hx hb dX2_visit_54 (by decide) ?_
            exact t_X2_visit_d3_58 C xl0 zl2 z64 x82 z64 z88 _ _ _ _ hP hS (lv_sub hl [1, 3, 0] rfl) h
    · exact r_vret hx hb hr hlocks hP hS dX2_visit_23 h
/-! visit, 4 deep -/
abbrev RM_X2_visit_d4 : Room := { frames := 10, cells := 0, slots := 0, locals := 260 }
def cw_X2_visit_d4 : Cond := Cond.code yX2_visit cX2_visit 8 (Option.none : Option FieldType)
theorem hd_X2_visit_d4 : yX2_visit.cls ≠ "java/lang/invoke/MethodHandle" ∧ yX2_visit.cls ≠ "java/lang/invoke/VarHandle" ∧ (parseMethodDescriptor yX2_visit.desc).map (fun d => d.parameters.length) = some 2 := by decide +kernel
def wp_X2_visit_d4_78 (S : Sh) (post : Mm → Prop) : Nat → Int → Int → Int → Int → Int → Int → Int → Mm → Prop
  | 0, _, _, _, _, _, _, _, _ => False
  | n + 1, u0, u1, u2, u3, u4, u5, u6, M => wGetR S M u0 2 1 fun v1 => wGet S M v1 8 4 fun v3 => wIf (v3 ≤ u6) (wGetR S M u0 2 4 fun v5 => wSt S M v5 14 u3 u4 fun M7 => wGetR S M7 u0 2 5 fun v8 => wSt S M7 v8 14 u3 u5 fun M10 => post M10) (isK S u0 2 ∧ (wp_X2_carried S M u0 u1 u6 u2 <| fun v12 M11 => wC 1 fun v14 => wA u1 v14 fun v16 => isK S u0 2 ∧ (wp_X2_visit_d3 S M11 u0 v16 v12 <| fun M18 => wGetR S M18 u0 2 4 fun v19 => wC 1 fun v21 => wA u1 v21 fun v23 => wC 1000 fun v25 => wM v23 v25 fun v27 => wA v27 v12 fun v29 => wLd S M18 v19 14 v29 fun v31 => wA u4 v31 fun v33 => wGetR S M18 u0 2 5 fun v35 => wC 1 fun v37 => wA u1 v37 fun v39 => wC 1000 fun v41 => wM v39 v41 fun v43 => wA v43 v12 fun v45 => wLd S M18 v35 14 v45 fun v47 => wO min u5 v47 fun v49 => wA u6 1 fun v51 => wp_X2_visit_d4_78 S post n u0 u1 u2 u3 v33 v49 v51 M18)))
def wp_X2_visit_d4_58 (S : Sh) (post : Mm → Prop) (u0 : Int) (u2 : Int) (u3 : Int) (t0 : Int) (t1 : Int) (t2 : Int) (M : Mm) : Prop := wSt S M t0 14 t1 t2 fun M53 => wGetR S M53 u0 2 5 fun v54 => wSt S M53 v54 14 u3 u2 fun M56 => post M56
def wp_X2_visit_d4_57 (S : Sh) (post : Mm → Prop) (u0 : Int) (u2 : Int) (u3 : Int) (t0 : Int) (t1 : Int) (M : Mm) : Prop := wC 0 fun v57 => wp_X2_visit_d4_58 S post u0 u2 u3 t0 t1 v57 M
def wp_X2_visit_d4 (S : Sh) (M : Mm) (u0 : Int) (u1 : Int) (u2 : Int) (post : Mm → Prop) : Prop := wC 1000 fun v59 => wM u1 v59 fun v61 => wA v61 u2 fun v63 => wC 5 fun v65 => wIf (v65 < u1) (post M) (wGetR S M u0 2 4 fun v67 => wLd S M v67 14 v63 fun v69 => wC (-1) fun v71 => wIf (v69 = v71) (wGet S M u0 2 6 fun v73 => wIf (u1 < v73) (wC 0 fun v75 => wC 999 fun v77 => wC 0 fun v79 => ∃ n9 : Nat, wp_X2_visit_d4_78 S post n9 u0 u1 u2 v63 v75 v77 v79 M) (wGetR S M u0 2 4 fun v81 => wGet S M u0 2 9 fun v83 => wIf (u2 < v83) (wp_X2_visit_d4_57 S post u0 u2 v63 v81 v63 M) (wGet S M u0 2 10 fun v85 => wIf (v85 < u2) (wp_X2_visit_d4_57 S post u0 u2 v63 v81 v63 M) (wC 1 fun v87 => wp_X2_visit_d4_58 S post u0 u2 v63 v81 v63 v87 M)))) (post M))
set_option maxHeartbeats 4000000 in
set_option maxRecDepth 100000 in
theorem t_X2_visit_d4_78 {p : Program} {l : Launch} {e : Env} {s : State} {m : MethodId} {args : Array Value} {below : List Frame} {meth : Method} {c : Code} {D : va_G} {G : Gt} {S : Sh} {post : Mm → Prop} (C : Cx p s m args meth c D G cX2_visit 8 none (cw_X2_visit_d4 :: gw) RX2) : ∀ (n : Nat) (xl0 : Int) (zl1 : Int32) (zl2 : Int32) (zl3 : Int32) (zl4 : Int32) (zl5 : Int32) (zl6 : Int32) (M : Mm) (H : Heap) (locs : List Loc) (ls : Array Slot), Wd D G S M H → va_S (aG G) s.heap H locs → lv_has ls 8 [(0, .ref (adr G xl0)), (1, .int zl1), (2, .int zl2), (3, .int zl3), (4, .int zl4), (5, .int zl5), (6, .int zl6)] → wp_X2_visit_d4_78 S post n xl0 zl1.toInt zl2.toInt zl3.toInt zl4.toInt zl5.toInt zl6.toInt  M → W p l e RM_X2_visit_d4 s m args below meth c H locs 0 0 (MQ below (QV D G S post) args s 0 0 (aG G)) (F0 m 78 ls []) := by
  obtain ⟨hx, hb, hr, hlocks, hml, hown, hts, hK⟩ := id C
  intro n
  induction n with
  | zero => intro xl0 zl1 zl2 zl3 zl4 zl5 zl6 M H locs ls hP hS hl h; exact h.elim
  | succ n ih =>
    intro xl0 zl1 zl2 zl3 zl4 zl5 zl6 M H locs ls hP hS hl h
    unfold wp_X2_visit_d4_78 at h
    refine lv_iload hx hb dX2_visit_78 (lv_at hl 6 rfl) ?_
    refine lv_aload_n hx hb dX2_visit_80 rfl (lv_at hl 0 rfl) ?_
    refine r_getr (C := RX2) (T := TX2) (N := 11) hx hb hts (fun w h => List.mem_cons_of_mem _ (iX2 w h)) hown hK hP rfl (by decide) rfl 1 (by decide) (hts _ (List.mem_cons_of_mem _ kw_416)) (fun _ h9 => h9) dX2_visit_81 (by decide) h (fun x2 h => ?_)
    refine r_getiN (C := RX8) (T := TX8) (N := 19) hx hb hts (fun w h => List.mem_cons_of_mem _ (iX8 w h)) hown hK hP rfl (by decide) rfl 4 (by decide) (nw_15 hK) (fun _ h9 => h9) dX2_visit_84 (by decide) h (fun z4 h => ?_)
    refine r_icmp_ge (tgt := 157) hx hb dX2_visit_87 (by decide) h (fun h => ?_) (fun h => ?_)
    · refine lv_aload_n hx hb dX2_visit_157 rfl (lv_at hl 0 rfl) ?_
      refine r_getr (C := RX2) (T := TX2) (N := 11) hx hb hts (fun w h => List.mem_cons_of_mem _ (iX2 w h)) hown hK hP rfl (by decide) rfl 4 (by decide) (hts _ (List.mem_cons_of_mem _ kw_419)) (fun _ h9 => h9) dX2_visit_158 (by decide) h (fun x6 h => ?_)
      refine lv_iload_n hx hb dX2_visit_161 rfl (lv_at hl 3 rfl) ?_
      refine lv_iload hx hb dX2_visit_162 (lv_at hl 4 rfl) ?_
      refine r_iast hx hb hK hP hS dX2_visit_164 h (fun M7 H locs h hP hS => ?_)
      refine lv_aload_n hx hb dX2_visit_165 rfl (lv_at hl 0 rfl) ?_
      refine r_getr (C := RX2) (T := TX2) (N := 11) hx hb hts (fun w h => List.mem_cons_of_mem _ (iX2 w h)) hown hK hP rfl (by decide) rfl 5 (by decide) (hts _ (List.mem_cons_of_mem _ kw_420)) (fun _ h9 => h9) dX2_visit_166 (by decide) h (fun x9 h => ?_)
      refine lv_iload_n hx hb dX2_visit_169 rfl (lv_at hl 3 rfl) ?_
      refine lv_iload hx hb dX2_visit_170 (lv_at hl 5 rfl) ?_
      refine r_iast hx hb hK hP hS dX2_visit_172 h (fun M10 H locs h hP hS => ?_)
      exact r_vret hx hb hr hlocks hP hS dX2_visit_173 h
    · refine lv_aload_n hx hb dX2_visit_90 rfl (lv_at hl 0 rfl) ?_
      refine lv_iload_n hx hb dX2_visit_91 rfl (lv_at hl 1 rfl) ?_
      refine lv_iload hx hb dX2_visit_92 (lv_at hl 6 rfl) ?_
      refine lv_iload_n hx hb dX2_visit_94 rfl (lv_at hl 2 rfl) ?_
      refine q_Vi hx hb hml hown hts hK hP hS (c_X2_carried l D G S _ xl0 zl1 zl6 zl2 _ h.2) ⟨callB_of 3 hts (gw_good kw_1129) rfl rfl rfl (hts _ (List.mem_cons_of_mem _ kw_11)) (hts _ (List.mem_cons_of_mem _ kw_1126)) hd_X2_carried ⟨Nat.le_of_ble_eq_true rfl, Nat.le_of_ble_eq_true rfl⟩, (hts _ (List.mem_cons_of_mem _ kw_1128)), (hts _ (List.mem_cons_of_mem _ kp_41))⟩ h.1 (ci := 2) rfl (by decide) rfl hl.1 rfl (lv_room (Nat.le_of_ble_eq_true rfl)) dX2_visit_95 ⟨Nat.zero_le _, Nat.zero_le _⟩ (fun z13 M11 H locs h hP hS => ?_)
      refine lv_istore (lv' := [(7, .int z13), (0, .ref (adr G xl0)), (1, .int zl1), (2, .int zl2), (3, .int zl3), (4, .int zl4), (5, .int zl5), (6, .int zl6)]) hx hb dX2_visit_98 hl (by decide) rfl (fun ls hl => ?_)
      refine lv_aload_n hx hb dX2_visit_100 rfl (lv_at hl 1 rfl) ?_
      refine lv_iload_n hx hb dX2_visit_101 rfl (lv_at hl 2 rfl) ?_
      refine r_iconst hx hb dX2_visit_102 (by decide) h (fun z15 h => ?_)
      refine r_iadd hx hb dX2_visit_103 h (fun z17 h => ?_)
      refine lv_iload hx hb dX2_visit_104 (lv_at hl 0 rfl) ?_
      refine q_Vv hx hb hml hown hts hK hP hS (c_X2_visit_d3 l D G S _ xl0 z17 z13 _ h.2) ⟨callB_of 2 hts (gw_good kw_1125) rfl rfl rfl (hts _ (List.mem_cons_of_mem _ kw_11)) (hts _ (List.mem_cons_of_mem _ kw_1122)) hd_X2_visit_d3 ⟨Nat.le_of_ble_eq_true rfl, Nat.le_of_ble_eq_true rfl⟩, (hts _ (List.mem_cons_of_mem _ kw_1124)), (hts _ (List.mem_cons_of_mem _ kp_40))⟩ h.1 (ci := 2) rfl (by decide) rfl hl.1 rfl (lv_room (Nat.le_of_ble_eq_true rfl)) dX2_visit_106 ⟨Nat.zero_le _, Nat.zero_le _⟩ (fun M18 H locs h hP hS => ?_)
      refine lv_iload hx hb dX2_visit_109 (lv_at hl 5 rfl) ?_
      refine lv_aload_n hx hb dX2_visit_111 rfl (lv_at hl 1 rfl) ?_
      refine r_getr (C := RX2) (T := TX2) (N := 11) hx hb hts (fun w h => List.mem_cons_of_mem _ (iX2 w h)) hown hK hP rfl (by decide) rfl 4 (by decide) (hts _ (List.mem_cons_of_mem _ kw_419)) (fun _ h9 => h9) dX2_visit_112 (by decide) h (fun x20 h => ?_)
      refine lv_iload_n hx hb dX2_visit_115 rfl (lv_at hl 2 rfl) ?_
      refine r_iconst hx hb dX2_visit_116 (by decide) h (fun z22 h => ?_)
      refine r_iadd hx hb dX2_visit_117 h (fun z24 h => ?_)
      refine r_sipush hx hb dX2_visit_118 (by decide) h (fun z26 h => ?_)
      refine r_imul hx hb dX2_visit_121 h (fun z28 h => ?_)
      refine lv_iload hx hb dX2_visit_122 (lv_at hl 0 rfl) ?_
      refine r_iadd hx hb dX2_visit_124 h (fun z30 h => ?_)
      refine r_iald hx hb hK hP dX2_visit_125 h (fun z32 h => ?_)
      refine r_iadd hx hb dX2_visit_126 h (fun z34 h => ?_)
      refine lv_istore (lv' := [(4, .int z34), (7, .int z13), (0, .ref (adr G xl0)), (1, .int zl1), (2, .int zl2), (3, .int zl3), (5, .int zl5), (6, .int zl6)]) hx hb dX2_visit_127 hl (by decide) rfl (fun ls hl => ?_)
      refine lv_iload hx hb dX2_visit_129 (lv_at hl 6 rfl) ?_
      refine lv_aload_n hx hb dX2_visit_131 rfl (lv_at hl 2 rfl) ?_
      refine r_getr (C := RX2) (T := TX2) (N := 11) hx hb hts (fun w h => List.mem_cons_of_mem _ (iX2 w h)) hown hK hP rfl (by decide) rfl 5 (by decide) (hts _ (List.mem_cons_of_mem _ kw_420)) (fun _ h9 => h9) dX2_visit_132 (by decide) h (fun x36 h => ?_)
      refine lv_iload_n hx hb dX2_visit_135 rfl (lv_at hl 3 rfl) ?_
      refine r_iconst hx hb dX2_visit_136 (by decide) h (fun z38 h => ?_)
      refine r_iadd hx hb dX2_visit_137 h (fun z40 h => ?_)
      refine r_sipush hx hb dX2_visit_138 (by decide) h (fun z42 h => ?_)
      refine r_imul hx hb dX2_visit_141 h (fun z44 h => ?_)
      refine lv_iload hx hb dX2_visit_142 (lv_at hl 1 rfl) ?_
      refine r_iadd hx hb dX2_visit_144 h (fun z46 h => ?_)
      refine r_iald hx hb hK hP dX2_visit_145 h (fun z48 h => ?_)
      refine r_mmin hx hb (hml.trans hl.1.symm) hown (hts _ (List.mem_cons_of_mem _ kw_1111)) (hts _ (List.mem_cons_of_mem _ kw_719)) (hts _ (List.mem_cons_of_mem _ kw_19)) (hts _ (List.mem_cons_of_mem _ kw_720)) (Nat.le_of_ble_eq_true rfl) (Nat.le_of_ble_eq_true rfl) (Nat.zero_le _) (Nat.zero_le _) dX2_visit_146 h (fun z50 h => ?_)
      refine lv_istore (lv' := [(5, .int z50), (4, .int z34), (7, .int z13), (0, .ref (adr G xl0)), (1, .int zl1), (2, .int zl2), (3, .int zl3), (6, .int zl6)]) hx hb dX2_visit_149 hl (by decide) rfl (fun ls hl => ?_)
      refine r_iinc hx hb (fun z52 => [(6, .int z52), (5, .int z50), (4, .int z34), (7, .int z13), (0, .ref (adr G xl0)), (1, .int zl1), (2, .int zl2), (3, .int zl3)]) dX2_visit_151 (by decide) hl (k := 7) rfl (by decide) (fun _ => rfl) h (fun z52 ls hl h => ?_)
      refine lv_goto (tgt := 78) hx hb dX2_visit_154 (by decide) ?_
      exact ih xl0 zl1 zl2 zl3 z34 z50 z52 _ _ _ _ hP hS (lv_sub hl [4, 5, 6, 7, 2, 1, 0] rfl) h
set_option maxHeartbeats 4000000 in
set_option maxRecDepth 100000 in
theorem t_X2_visit_d4_58 {p : Program} {l : Launch} {e : Env} {s : State} {m : MethodId} {args : Array Value} {below : List Frame} {meth : Method} {c : Code} {D : va_G} {G : Gt} {S : Sh} {post : Mm → Prop} (C : Cx p s m args meth c D G cX2_visit 8 none (cw_X2_visit_d4 :: gw) RX2) : ∀ (xl0 : Int) (zl2 : Int32) (zl3 : Int32) (xs0 : Int) (zs1 : Int32) (zs2 : Int32) (M : Mm) (H : Heap) (locs : List Loc) (ls : Array Slot), Wd D G S M H → va_S (aG G) s.heap H locs → lv_has ls 8 [(0, .ref (adr G xl0)), (2, .int zl2), (3, .int zl3)] → wp_X2_visit_d4_58 S post xl0 zl2.toInt zl3.toInt xs0 zs1.toInt zs2.toInt M → W p l e RM_X2_visit_d4 s m args below meth c H locs 0 0 (MQ below (QV D G S post) args s 0 0 (aG G)) (F0 m 58 ls [.int zs2, .int zs1, .ref (adr G xs0)]) := by
  obtain ⟨hx, hb, hr, hlocks, hml, hown, hts, hK⟩ := id C
  intro xl0 zl2 zl3 xs0 zs1 zs2 M H locs ls hP hS hl h
  unfold wp_X2_visit_d4_58 at h
  refine r_iast hx hb hK hP hS dX2_visit_58 h (fun M53 H locs h hP hS => ?_)
  refine lv_aload_n hx hb dX2_visit_59 rfl (lv_at hl 0 rfl) ?_
  refine r_getr (C := RX2) (T := TX2) (N := 11) hx hb hts (fun w h => List.mem_cons_of_mem _ (iX2 w h)) hown hK hP rfl (by decide) rfl 5 (by decide) (hts _ (List.mem_cons_of_mem _ kw_420)) (fun _ h9 => h9) dX2_visit_60 (by decide) h (fun x55 h => ?_)
  refine lv_iload_n hx hb dX2_visit_63 rfl (lv_at hl 2 rfl) ?_
  refine lv_iload_n hx hb dX2_visit_64 rfl (lv_at hl 1 rfl) ?_
  refine r_iast hx hb hK hP hS dX2_visit_65 h (fun M56 H locs h hP hS => ?_)
  exact r_vret hx hb hr hlocks hP hS dX2_visit_66 h
set_option maxHeartbeats 4000000 in
set_option maxRecDepth 100000 in
theorem t_X2_visit_d4_57 {p : Program} {l : Launch} {e : Env} {s : State} {m : MethodId} {args : Array Value} {below : List Frame} {meth : Method} {c : Code} {D : va_G} {G : Gt} {S : Sh} {post : Mm → Prop} (C : Cx p s m args meth c D G cX2_visit 8 none (cw_X2_visit_d4 :: gw) RX2) : ∀ (xl0 : Int) (zl2 : Int32) (zl3 : Int32) (xs0 : Int) (zs1 : Int32) (M : Mm) (H : Heap) (locs : List Loc) (ls : Array Slot), Wd D G S M H → va_S (aG G) s.heap H locs → lv_has ls 8 [(0, .ref (adr G xl0)), (2, .int zl2), (3, .int zl3)] → wp_X2_visit_d4_57 S post xl0 zl2.toInt zl3.toInt xs0 zs1.toInt M → W p l e RM_X2_visit_d4 s m args below meth c H locs 0 0 (MQ below (QV D G S post) args s 0 0 (aG G)) (F0 m 57 ls [.int zs1, .ref (adr G xs0)]) := by
  obtain ⟨hx, hb, hr, hlocks, hml, hown, hts, hK⟩ := id C
  intro xl0 zl2 zl3 xs0 zs1 M H locs ls hP hS hl h
  unfold wp_X2_visit_d4_57 at h
  refine r_iconst hx hb dX2_visit_57 (by decide) h (fun z58 h => ?_)
  exact t_X2_visit_d4_58 C xl0 zl2 zl3 xs0 zs1 z58 _ _ _ _ hP hS (lv_sub hl [0, 1, 2] rfl) h
set_option maxHeartbeats 4000000 in
set_option maxRecDepth 100000 in
theorem c_X2_visit_d4 (l : Launch) (D : va_G) (G : Gt) (S : Sh) (M : Mm) (xl0 : Int) (zl1 : Int32) (zl2 : Int32) (post : Mm → Prop) (h : wp_X2_visit_d4 S M xl0 zl1.toInt zl2.toInt post) : Met l yX2_visit (cw_X2_visit_d4 :: gw) RM_X2_visit_d4 (va_Pc [.ref (adr G xl0), .int zl1, .int zl2] (fun U => KN D G U ∧ Wd D G S M U.heap)) (QV D G S post) 0 0 (aG G) := by
  refine Met.ofW (cc := cX2_visit) (maxL := 8) (ret := none) (by decide) rfl ?_
  intro p e s m args below meth c s₁ B hml hv
  obtain ⟨rfl, hK, hP⟩ := hv
  have hx := B.exec
  have hb := B.bytes
  have hr := B.returns
  have hts := atoms_spec (ws := cw_X2_visit_d4 :: gw) B.pre
  have hown : s.vm.findClass RX2 = some m.cls := findClass_of_methodNamed B.named
  have hlocks := B.notSynchronized
  have hS : va_S (aG G) s.heap s.heap [] := va_S.rf
  have C : Cx p s m ([.ref (adr G xl0), .int zl1, .int zl2] : List Value).toArray meth c D G cX2_visit 8 none (cw_X2_visit_d4 :: gw) RX2 := ⟨hx, hb, hr, hlocks, hml, hown, hts, hK⟩
  have hl := lv_entry ([.ref (adr G xl0), .int zl1, .int zl2]) (n := 8) (Nat.le_of_ble_eq_true rfl)
  rw [lg_entry_eq]
  generalize (lg_sl ([.ref (adr G xl0), .int zl1, .int zl2]) ++ List.replicate (8 - (lg_sl ([.ref (adr G xl0), .int zl1, .int zl2])).length) Slot.unset).toArray = ls at hl ⊢
  have hl : lv_has ls 8 [(0, .ref (adr G xl0)), (1, .int zl1), (2, .int zl2)] := hl
  unfold wp_X2_visit_d4 at h
  refine lv_iload_n hx hb dX2_visit_0 rfl (lv_at hl 1 rfl) ?_
  refine r_sipush hx hb dX2_visit_1 (by decide) h (fun z60 h => ?_)
  refine r_imul hx hb dX2_visit_4 h (fun z62 h => ?_)
  refine lv_iload_n hx hb dX2_visit_5 rfl (lv_at hl 2 rfl) ?_
  refine r_iadd hx hb dX2_visit_6 h (fun z64 h => ?_)
  refine lv_istore_n (lv' := [(3, .int z64), (0, .ref (adr G xl0)), (1, .int zl1), (2, .int zl2)]) hx hb dX2_visit_7 rfl hl (by decide) rfl (fun ls hl => ?_)
  refine lv_iload_n hx hb dX2_visit_8 rfl (lv_at hl 2 rfl) ?_
  refine r_iconst hx hb dX2_visit_9 (by decide) h (fun z66 h => ?_)
  refine r_icmp_gt (tgt := 23) hx hb dX2_visit_10 (by decide) h (fun h => ?_) (fun h => ?_)
  · exact r_vret hx hb hr hlocks hP hS dX2_visit_23 h
  · refine lv_aload_n hx hb dX2_visit_13 rfl (lv_at hl 1 rfl) ?_
    refine r_getr (C := RX2) (T := TX2) (N := 11) hx hb hts (fun w h => List.mem_cons_of_mem _ (iX2 w h)) hown hK hP rfl (by decide) rfl 4 (by decide) (hts _ (List.mem_cons_of_mem _ kw_419)) (fun _ h9 => h9) dX2_visit_14 (by decide) h (fun x68 h => ?_)
    refine lv_iload_n hx hb dX2_visit_17 rfl (lv_at hl 0 rfl) ?_
    refine r_iald hx hb hK hP dX2_visit_18 h (fun z70 h => ?_)
    refine r_iconst hx hb dX2_visit_19 (by decide) h (fun z72 h => ?_)
    refine r_icmp_eq (tgt := 24) hx hb dX2_visit_20 (by decide) h (fun h => ?_) (fun h => ?_)
    · refine lv_iload_n hx hb dX2_visit_24 rfl (lv_at hl 2 rfl) ?_
      refine lv_aload_n hx hb dX2_visit_25 rfl (lv_at hl 1 rfl) ?_
      refine r_geti (C := RX2) (T := TX2) (N := 11) hx hb hts (fun w h => List.mem_cons_of_mem _ (iX2 w h)) hown hK hP rfl (by decide) rfl 6 (by decide) (hts _ (List.mem_cons_of_mem _ kw_421)) (fun _ h9 => h9) dX2_visit_26 (by decide) h (fun z74 h => ?_)
      refine r_icmp_lt (tgt := 67) hx hb dX2_visit_29 (by decide) h (fun h => ?_) (fun h => ?_)
      · refine r_iconst hx hb dX2_visit_67 (by decide) h (fun z76 h => ?_)
        refine lv_istore (lv' := [(4, .int z76), (3, .int z64), (0, .ref (adr G xl0)), (1, .int zl1), (2, .int zl2)]) hx hb dX2_visit_68 hl (by decide) rfl (fun ls hl => ?_)
        refine r_sipush hx hb dX2_visit_70 (by decide) h (fun z78 h => ?_)
        refine lv_istore (lv' := [(5, .int z78), (4, .int z76), (3, .int z64), (0, .ref (adr G xl0)), (1, .int zl1), (2, .int zl2)]) hx hb dX2_visit_73 hl (by decide) rfl (fun ls hl => ?_)
        refine r_iconst hx hb dX2_visit_75 (by decide) h (fun z80 h => ?_)
        refine lv_istore (lv' := [(6, .int z80), (5, .int z78), (4, .int z76), (3, .int z64), (0, .ref (adr G xl0)), (1, .int zl1), (2, .int zl2)]) hx hb dX2_visit_76 hl (by decide) rfl (fun ls hl => ?_)
        obtain ⟨n9, h⟩ := h
        exact t_X2_visit_d4_78 C n9 xl0 zl1 zl2 z64 z76 z78 z80 _ _ _ _ hP hS (lv_sub hl [4, 5, 6, 3, 2, 1, 0] rfl) h
      · refine lv_aload_n hx hb dX2_visit_32 rfl (lv_at hl 1 rfl) ?_
        refine r_getr (C := RX2) (T := TX2) (N := 11) hx hb hts (fun w h => List.mem_cons_of_mem _ (iX2 w h)) hown hK hP rfl (by decide) rfl 4 (by decide) (hts _ (List.mem_cons_of_mem _ kw_419)) (fun _ h9 => h9) dX2_visit_33 (by decide) h (fun x82 h => ?_)
        refine lv_iload_n hx hb dX2_visit_36 rfl (lv_at hl 0 rfl) ?_
        refine lv_aload_n hx hb dX2_visit_37 rfl (lv_at hl 1 rfl) ?_
        refine r_geti (C := RX2) (T := TX2) (N := 11) hx hb hts (fun w h => List.mem_cons_of_mem _ (iX2 w h)) hown hK hP rfl (by decide) rfl 9 (by decide) (hts _ (List.mem_cons_of_mem _ kw_424)) (fun _ h9 => h9) dX2_visit_38 (by decide) h (fun z84 h => ?_)
        refine lv_iload_n hx hb dX2_visit_41 rfl (lv_at hl 3 rfl) ?_
        refine r_icmp_gt (tgt := 57) hx hb dX2_visit_42 (by decide) h (fun h => ?_) (fun h => ?_)
        · exact t_X2_visit_d4_57 C xl0 zl2 z64 x82 z64 _ _ _ _ hP hS (lv_sub hl [1, 3, 0] rfl) h
        · refine lv_iload_n hx hb dX2_visit_45 rfl (lv_at hl 3 rfl) ?_
          refine lv_aload_n hx hb dX2_visit_46 rfl (lv_at hl 1 rfl) ?_
          refine r_geti (C := RX2) (T := TX2) (N := 11) hx hb hts (fun w h => List.mem_cons_of_mem _ (iX2 w h)) hown hK hP rfl (by decide) rfl 10 (by decide) (hts _ (List.mem_cons_of_mem _ kw_425)) (fun _ h9 => h9) dX2_visit_47 (by decide) h (fun z86 h => ?_)
          refine r_icmp_gt (tgt := 57) hx hb dX2_visit_50 (by decide) h (fun h => ?_) (fun h => ?_)
          · exact t_X2_visit_d4_57 C xl0 zl2 z64 x82 z64 _ _ _ _ hP hS (lv_sub hl [1, 3, 0] rfl) h
          · refine r_iconst hx hb dX2_visit_53 (by decide) h (fun z88 h => ?_)
            refine lv_goto (tgt := 58) hx hb dX2_visit_54 (by decide) ?_
            exact t_X2_visit_d4_58 C xl0 zl2 z64 x82 z64 z88 _ _ _ _ hP hS (lv_sub hl [1, 3, 0] rfl) h
    · exact r_vret hx hb hr hlocks hP hS dX2_visit_23 h
/-! visit, 5 deep -/
abbrev RM_X2_visit_d5 : Room := { frames := 11, cells := 0, slots := 0, locals := 287 }
def cw_X2_visit_d5 : Cond := Cond.code yX2_visit cX2_visit 8 (Option.none : Option FieldType)
theorem hd_X2_visit_d5 : yX2_visit.cls ≠ "java/lang/invoke/MethodHandle" ∧ yX2_visit.cls ≠ "java/lang/invoke/VarHandle" ∧ (parseMethodDescriptor yX2_visit.desc).map (fun d => d.parameters.length) = some 2 := by decide +kernel
def wp_X2_visit_d5_78 (S : Sh) (post : Mm → Prop) : Nat → Int → Int → Int → Int → Int → Int → Int → Mm → Prop
  | 0, _, _, _, _, _, _, _, _ => False
  | n + 1, u0, u1, u2, u3, u4, u5, u6, M => wGetR S M u0 2 1 fun v1 => wGet S M v1 8 4 fun v3 => wIf (v3 ≤ u6) (wGetR S M u0 2 4 fun v5 => wSt S M v5 14 u3 u4 fun M7 => wGetR S M7 u0 2 5 fun v8 => wSt S M7 v8 14 u3 u5 fun M10 => post M10) (isK S u0 2 ∧ (wp_X2_carried S M u0 u1 u6 u2 <| fun v12 M11 => wC 1 fun v14 => wA u1 v14 fun v16 => isK S u0 2 ∧ (wp_X2_visit_d4 S M11 u0 v16 v12 <| fun M18 => wGetR S M18 u0 2 4 fun v19 => wC 1 fun v21 => wA u1 v21 fun v23 => wC 1000 fun v25 => wM v23 v25 fun v27 => wA v27 v12 fun v29 => wLd S M18 v19 14 v29 fun v31 => wA u4 v31 fun v33 => wGetR S M18 u0 2 5 fun v35 => wC 1 fun v37 => wA u1 v37 fun v39 => wC 1000 fun v41 => wM v39 v41 fun v43 => wA v43 v12 fun v45 => wLd S M18 v35 14 v45 fun v47 => wO min u5 v47 fun v49 => wA u6 1 fun v51 => wp_X2_visit_d5_78 S post n u0 u1 u2 u3 v33 v49 v51 M18)))
def wp_X2_visit_d5_58 (S : Sh) (post : Mm → Prop) (u0 : Int) (u2 : Int) (u3 : Int) (t0 : Int) (t1 : Int) (t2 : Int) (M : Mm) : Prop := wSt S M t0 14 t1 t2 fun M53 => wGetR S M53 u0 2 5 fun v54 => wSt S M53 v54 14 u3 u2 fun M56 => post M56
def wp_X2_visit_d5_57 (S : Sh) (post : Mm → Prop) (u0 : Int) (u2 : Int) (u3 : Int) (t0 : Int) (t1 : Int) (M : Mm) : Prop := wC 0 fun v57 => wp_X2_visit_d5_58 S post u0 u2 u3 t0 t1 v57 M
def wp_X2_visit_d5 (S : Sh) (M : Mm) (u0 : Int) (u1 : Int) (u2 : Int) (post : Mm → Prop) : Prop := wC 1000 fun v59 => wM u1 v59 fun v61 => wA v61 u2 fun v63 => wC 5 fun v65 => wIf (v65 < u1) (post M) (wGetR S M u0 2 4 fun v67 => wLd S M v67 14 v63 fun v69 => wC (-1) fun v71 => wIf (v69 = v71) (wGet S M u0 2 6 fun v73 => wIf (u1 < v73) (wC 0 fun v75 => wC 999 fun v77 => wC 0 fun v79 => ∃ n9 : Nat, wp_X2_visit_d5_78 S post n9 u0 u1 u2 v63 v75 v77 v79 M) (wGetR S M u0 2 4 fun v81 => wGet S M u0 2 9 fun v83 => wIf (u2 < v83) (wp_X2_visit_d5_57 S post u0 u2 v63 v81 v63 M) (wGet S M u0 2 10 fun v85 => wIf (v85 < u2) (wp_X2_visit_d5_57 S post u0 u2 v63 v81 v63 M) (wC 1 fun v87 => wp_X2_visit_d5_58 S post u0 u2 v63 v81 v63 v87 M)))) (post M))
set_option maxHeartbeats 4000000 in
set_option maxRecDepth 100000 in
theorem t_X2_visit_d5_78 {p : Program} {l : Launch} {e : Env} {s : State} {m : MethodId} {args : Array Value} {below : List Frame} {meth : Method} {c : Code} {D : va_G} {G : Gt} {S : Sh} {post : Mm → Prop} (C : Cx p s m args meth c D G cX2_visit 8 none (cw_X2_visit_d5 :: gw) RX2) : ∀ (n : Nat) (xl0 : Int) (zl1 : Int32) (zl2 : Int32) (zl3 : Int32) (zl4 : Int32) (zl5 : Int32) (zl6 : Int32) (M : Mm) (H : Heap) (locs : List Loc) (ls : Array Slot), Wd D G S M H → va_S (aG G) s.heap H locs → lv_has ls 8 [(0, .ref (adr G xl0)), (1, .int zl1), (2, .int zl2), (3, .int zl3), (4, .int zl4), (5, .int zl5), (6, .int zl6)] → wp_X2_visit_d5_78 S post n xl0 zl1.toInt zl2.toInt zl3.toInt zl4.toInt zl5.toInt zl6.toInt  M → W p l e RM_X2_visit_d5 s m args below meth c H locs 0 0 (MQ below (QV D G S post) args s 0 0 (aG G)) (F0 m 78 ls []) := by
  obtain ⟨hx, hb, hr, hlocks, hml, hown, hts, hK⟩ := id C
  intro n
  induction n with
  | zero => intro xl0 zl1 zl2 zl3 zl4 zl5 zl6 M H locs ls hP hS hl h; exact h.elim
  | succ n ih =>
    intro xl0 zl1 zl2 zl3 zl4 zl5 zl6 M H locs ls hP hS hl h
    unfold wp_X2_visit_d5_78 at h
    refine lv_iload hx hb dX2_visit_78 (lv_at hl 6 rfl) ?_
    refine lv_aload_n hx hb dX2_visit_80 rfl (lv_at hl 0 rfl) ?_
    refine r_getr (C := RX2) (T := TX2) (N := 11) hx hb hts (fun w h => List.mem_cons_of_mem _ (iX2 w h)) hown hK hP rfl (by decide) rfl 1 (by decide) (hts _ (List.mem_cons_of_mem _ kw_416)) (fun _ h9 => h9) dX2_visit_81 (by decide) h (fun x2 h => ?_)
    refine r_getiN (C := RX8) (T := TX8) (N := 19) hx hb hts (fun w h => List.mem_cons_of_mem _ (iX8 w h)) hown hK hP rfl (by decide) rfl 4 (by decide) (nw_15 hK) (fun _ h9 => h9) dX2_visit_84 (by decide) h (fun z4 h => ?_)
    refine r_icmp_ge (tgt := 157) hx hb dX2_visit_87 (by decide) h (fun h => ?_) (fun h => ?_)
    · refine lv_aload_n hx hb dX2_visit_157 rfl (lv_at hl 0 rfl) ?_
      refine r_getr (C := RX2) (T := TX2) (N := 11) hx hb hts (fun w h => List.mem_cons_of_mem _ (iX2 w h)) hown hK hP rfl (by decide) rfl 4 (by decide) (hts _ (List.mem_cons_of_mem _ kw_419)) (fun _ h9 => h9) dX2_visit_158 (by decide) h (fun x6 h => ?_)
      refine lv_iload_n hx hb dX2_visit_161 rfl (lv_at hl 3 rfl) ?_
      refine lv_iload hx hb dX2_visit_162 (lv_at hl 4 rfl) ?_
      refine r_iast hx hb hK hP hS dX2_visit_164 h (fun M7 H locs h hP hS => ?_)
      refine lv_aload_n hx hb dX2_visit_165 rfl (lv_at hl 0 rfl) ?_
      refine r_getr (C := RX2) (T := TX2) (N := 11) hx hb hts (fun w h => List.mem_cons_of_mem _ (iX2 w h)) hown hK hP rfl (by decide) rfl 5 (by decide) (hts _ (List.mem_cons_of_mem _ kw_420)) (fun _ h9 => h9) dX2_visit_166 (by decide) h (fun x9 h => ?_)
      refine lv_iload_n hx hb dX2_visit_169 rfl (lv_at hl 3 rfl) ?_
      refine lv_iload hx hb dX2_visit_170 (lv_at hl 5 rfl) ?_
      refine r_iast hx hb hK hP hS dX2_visit_172 h (fun M10 H locs h hP hS => ?_)
      exact r_vret hx hb hr hlocks hP hS dX2_visit_173 h
    · refine lv_aload_n hx hb dX2_visit_90 rfl (lv_at hl 0 rfl) ?_
      refine lv_iload_n hx hb dX2_visit_91 rfl (lv_at hl 1 rfl) ?_
      refine lv_iload hx hb dX2_visit_92 (lv_at hl 6 rfl) ?_
      refine lv_iload_n hx hb dX2_visit_94 rfl (lv_at hl 2 rfl) ?_
      refine q_Vi hx hb hml hown hts hK hP hS (c_X2_carried l D G S _ xl0 zl1 zl6 zl2 _ h.2) ⟨callB_of 3 hts (gw_good kw_1129) rfl rfl rfl (hts _ (List.mem_cons_of_mem _ kw_11)) (hts _ (List.mem_cons_of_mem _ kw_1126)) hd_X2_carried ⟨Nat.le_of_ble_eq_true rfl, Nat.le_of_ble_eq_true rfl⟩, (hts _ (List.mem_cons_of_mem _ kw_1128)), (hts _ (List.mem_cons_of_mem _ kp_41))⟩ h.1 (ci := 2) rfl (by decide) rfl hl.1 rfl (lv_room (Nat.le_of_ble_eq_true rfl)) dX2_visit_95 ⟨Nat.zero_le _, Nat.zero_le _⟩ (fun z13 M11 H locs h hP hS => ?_)
      refine lv_istore (lv' := [(7, .int z13), (0, .ref (adr G xl0)), (1, .int zl1), (2, .int zl2), (3, .int zl3), (4, .int zl4), (5, .int zl5), (6, .int zl6)]) hx hb dX2_visit_98 hl (by decide) rfl (fun ls hl => ?_)
      refine lv_aload_n hx hb dX2_visit_100 rfl (lv_at hl 1 rfl) ?_
      refine lv_iload_n hx hb dX2_visit_101 rfl (lv_at hl 2 rfl) ?_
      refine r_iconst hx hb dX2_visit_102 (by decide) h (fun z15 h => ?_)
      refine r_iadd hx hb dX2_visit_103 h (fun z17 h => ?_)
      refine lv_iload hx hb dX2_visit_104 (lv_at hl 0 rfl) ?_
      refine q_Vv hx hb hml hown hts hK hP hS (c_X2_visit_d4 l D G S _ xl0 z17 z13 _ h.2) ⟨callB_of 2 hts (gw_good kw_1125) rfl rfl rfl (hts _ (List.mem_cons_of_mem _ kw_11)) (hts _ (List.mem_cons_of_mem _ kw_1122)) hd_X2_visit_d4 ⟨Nat.le_of_ble_eq_true rfl, Nat.le_of_ble_eq_true rfl⟩, (hts _ (List.mem_cons_of_mem _ kw_1124)), (hts _ (List.mem_cons_of_mem _ kp_40))⟩ h.1 (ci := 2) rfl (by decide) rfl hl.1 rfl (lv_room (Nat.le_of_ble_eq_true rfl)) dX2_visit_106 ⟨Nat.zero_le _, Nat.zero_le _⟩ (fun M18 H locs h hP hS => ?_)
      refine lv_iload hx hb dX2_visit_109 (lv_at hl 5 rfl) ?_
      refine lv_aload_n hx hb dX2_visit_111 rfl (lv_at hl 1 rfl) ?_
      refine r_getr (C := RX2) (T := TX2) (N := 11) hx hb hts (fun w h => List.mem_cons_of_mem _ (iX2 w h)) hown hK hP rfl (by decide) rfl 4 (by decide) (hts _ (List.mem_cons_of_mem _ kw_419)) (fun _ h9 => h9) dX2_visit_112 (by decide) h (fun x20 h => ?_)
      refine lv_iload_n hx hb dX2_visit_115 rfl (lv_at hl 2 rfl) ?_
      refine r_iconst hx hb dX2_visit_116 (by decide) h (fun z22 h => ?_)
      refine r_iadd hx hb dX2_visit_117 h (fun z24 h => ?_)
      refine r_sipush hx hb dX2_visit_118 (by decide) h (fun z26 h => ?_)
      refine r_imul hx hb dX2_visit_121 h (fun z28 h => ?_)
      refine lv_iload hx hb dX2_visit_122 (lv_at hl 0 rfl) ?_
      refine r_iadd hx hb dX2_visit_124 h (fun z30 h => ?_)
      refine r_iald hx hb hK hP dX2_visit_125 h (fun z32 h => ?_)
      refine r_iadd hx hb dX2_visit_126 h (fun z34 h => ?_)
      refine lv_istore (lv' := [(4, .int z34), (7, .int z13), (0, .ref (adr G xl0)), (1, .int zl1), (2, .int zl2), (3, .int zl3), (5, .int zl5), (6, .int zl6)]) hx hb dX2_visit_127 hl (by decide) rfl (fun ls hl => ?_)
      refine lv_iload hx hb dX2_visit_129 (lv_at hl 6 rfl) ?_
      refine lv_aload_n hx hb dX2_visit_131 rfl (lv_at hl 2 rfl) ?_
      refine r_getr (C := RX2) (T := TX2) (N := 11) hx hb hts (fun w h => List.mem_cons_of_mem _ (iX2 w h)) hown hK hP rfl (by decide) rfl 5 (by decide) (hts _ (List.mem_cons_of_mem _ kw_420)) (fun _ h9 => h9) dX2_visit_132 (by decide) h (fun x36 h => ?_)
      refine lv_iload_n hx hb dX2_visit_135 rfl (lv_at hl 3 rfl) ?_
      refine r_iconst hx hb dX2_visit_136 (by decide) h (fun z38 h => ?_)
      refine r_iadd hx hb dX2_visit_137 h (fun z40 h => ?_)
      refine r_sipush hx hb dX2_visit_138 (by decide) h (fun z42 h => ?_)
      refine r_imul hx hb dX2_visit_141 h (fun z44 h => ?_)
      refine lv_iload hx hb dX2_visit_142 (lv_at hl 1 rfl) ?_
      refine r_iadd hx hb dX2_visit_144 h (fun z46 h => ?_)
      refine r_iald hx hb hK hP dX2_visit_145 h (fun z48 h => ?_)
      refine r_mmin hx hb (hml.trans hl.1.symm) hown (hts _ (List.mem_cons_of_mem _ kw_1111)) (hts _ (List.mem_cons_of_mem _ kw_719)) (hts _ (List.mem_cons_of_mem _ kw_19)) (hts _ (List.mem_cons_of_mem _ kw_720)) (Nat.le_of_ble_eq_true rfl) (Nat.le_of_ble_eq_true rfl) (Nat.zero_le _) (Nat.zero_le _) dX2_visit_146 h (fun z50 h => ?_)
      refine lv_istore (lv' := [(5, .int z50), (4, .int z34), (7, .int z13), (0, .ref (adr G xl0)), (1, .int zl1), (2, .int zl2), (3, .int zl3), (6, .int zl6)]) hx hb dX2_visit_149 hl (by decide) rfl (fun ls hl => ?_)
      refine r_iinc hx hb (fun z52 => [(6, .int z52), (5, .int z50), (4, .int z34), (7, .int z13), (0, .ref (adr G xl0)), (1, .int zl1), (2, .int zl2), (3, .int zl3)]) dX2_visit_151 (by decide) hl (k := 7) rfl (by decide) (fun _ => rfl) h (fun z52 ls hl h => ?_)
      refine lv_goto (tgt := 78) hx hb dX2_visit_154 (by decide) ?_
      exact ih xl0 zl1 zl2 zl3 z34 z50 z52 _ _ _ _ hP hS (lv_sub hl [4, 5, 6, 7, 2, 1, 0] rfl) h
set_option maxHeartbeats 4000000 in
set_option maxRecDepth 100000 in
theorem t_X2_visit_d5_58 {p : Program} {l : Launch} {e : Env} {s : State} {m : MethodId} {args : Array Value} {below : List Frame} {meth : Method} {c : Code} {D : va_G} {G : Gt} {S : Sh} {post : Mm → Prop} (C : Cx p s m args meth c D G cX2_visit 8 none (cw_X2_visit_d5 :: gw) RX2) : ∀ (xl0 : Int) (zl2 : Int32) (zl3 : Int32) (xs0 : Int) (zs1 : Int32) (zs2 : Int32) (M : Mm) (H : Heap) (locs : List Loc) (ls : Array Slot), Wd D G S M H → va_S (aG G) s.heap H locs → lv_has ls 8 [(0, .ref (adr G xl0)), (2, .int zl2), (3, .int zl3)] → wp_X2_visit_d5_58 S post xl0 zl2.toInt zl3.toInt xs0 zs1.toInt zs2.toInt M → W p l e RM_X2_visit_d5 s m args below meth c H locs 0 0 (MQ below (QV D G S post) args s 0 0 (aG G)) (F0 m 58 ls [.int zs2, .int zs1, .ref (adr G xs0)]) := by
  obtain ⟨hx, hb, hr, hlocks, hml, hown, hts, hK⟩ := id C
  intro xl0 zl2 zl3 xs0 zs1 zs2 M H locs ls hP hS hl h
  unfold wp_X2_visit_d5_58 at h
  refine r_iast hx hb hK hP hS dX2_visit_58 h (fun M53 H locs h hP hS => ?_)
  refine lv_aload_n hx hb dX2_visit_59 rfl (lv_at hl 0 rfl) ?_
  refine r_getr (C := RX2) (T := TX2) (N := 11) hx hb hts (fun w h => List.mem_cons_of_mem _ (iX2 w h)) hown hK hP rfl (by decide) rfl 5 (by decide) (hts _ (List.mem_cons_of_mem _ kw_420)) (fun _ h9 => h9) dX2_visit_60 (by decide) h (fun x55 h => ?_)
  refine lv_iload_n hx hb dX2_visit_63 rfl (lv_at hl 2 rfl) ?_
  refine lv_iload_n hx hb dX2_visit_64 rfl (lv_at hl 1 rfl) ?_
  refine r_iast hx hb hK hP hS dX2_visit_65 h (fun M56 H locs h hP hS => ?_)
  exact r_vret hx hb hr hlocks hP hS dX2_visit_66 h
set_option maxHeartbeats 4000000 in
set_option maxRecDepth 100000 in
theorem t_X2_visit_d5_57 {p : Program} {l : Launch} {e : Env} {s : State} {m : MethodId} {args : Array Value} {below : List Frame} {meth : Method} {c : Code} {D : va_G} {G : Gt} {S : Sh} {post : Mm → Prop} (C : Cx p s m args meth c D G cX2_visit 8 none (cw_X2_visit_d5 :: gw) RX2) : ∀ (xl0 : Int) (zl2 : Int32) (zl3 : Int32) (xs0 : Int) (zs1 : Int32) (M : Mm) (H : Heap) (locs : List Loc) (ls : Array Slot), Wd D G S M H → va_S (aG G) s.heap H locs → lv_has ls 8 [(0, .ref (adr G xl0)), (2, .int zl2), (3, .int zl3)] → wp_X2_visit_d5_57 S post xl0 zl2.toInt zl3.toInt xs0 zs1.toInt M → W p l e RM_X2_visit_d5 s m args below meth c H locs 0 0 (MQ below (QV D G S post) args s 0 0 (aG G)) (F0 m 57 ls [.int zs1, .ref (adr G xs0)]) := by
  obtain ⟨hx, hb, hr, hlocks, hml, hown, hts, hK⟩ := id C
  intro xl0 zl2 zl3 xs0 zs1 M H locs ls hP hS hl h
  unfold wp_X2_visit_d5_57 at h
  refine r_iconst hx hb dX2_visit_57 (by decide) h (fun z58 h => ?_)
  exact t_X2_visit_d5_58 C xl0 zl2 zl3 xs0 zs1 z58 _ _ _ _ hP hS (lv_sub hl [0, 1, 2] rfl) h
set_option maxHeartbeats 4000000 in
set_option maxRecDepth 100000 in
theorem c_X2_visit_d5 (l : Launch) (D : va_G) (G : Gt) (S : Sh) (M : Mm) (xl0 : Int) (zl1 : Int32) (zl2 : Int32) (post : Mm → Prop) (h : wp_X2_visit_d5 S M xl0 zl1.toInt zl2.toInt post) : Met l yX2_visit (cw_X2_visit_d5 :: gw) RM_X2_visit_d5 (va_Pc [.ref (adr G xl0), .int zl1, .int zl2] (fun U => KN D G U ∧ Wd D G S M U.heap)) (QV D G S post) 0 0 (aG G) := by
  refine Met.ofW (cc := cX2_visit) (maxL := 8) (ret := none) (by decide) rfl ?_
  intro p e s m args below meth c s₁ B hml hv
  obtain ⟨rfl, hK, hP⟩ := hv
  have hx := B.exec
  have hb := B.bytes
  have hr := B.returns
  have hts := atoms_spec (ws := cw_X2_visit_d5 :: gw) B.pre
  have hown : s.vm.findClass RX2 = some m.cls := findClass_of_methodNamed B.named
  have hlocks := B.notSynchronized
  have hS : va_S (aG G) s.heap s.heap [] := va_S.rf
  have C : Cx p s m ([.ref (adr G xl0), .int zl1, .int zl2] : List Value).toArray meth c D G cX2_visit 8 none (cw_X2_visit_d5 :: gw) RX2 := ⟨hx, hb, hr, hlocks, hml, hown, hts, hK⟩
  have hl := lv_entry ([.ref (adr G xl0), .int zl1, .int zl2]) (n := 8) (Nat.le_of_ble_eq_true rfl)
  rw [lg_entry_eq]
  generalize (lg_sl ([.ref (adr G xl0), .int zl1, .int zl2]) ++ List.replicate (8 - (lg_sl ([.ref (adr G xl0), .int zl1, .int zl2])).length) Slot.unset).toArray = ls at hl ⊢
  have hl : lv_has ls 8 [(0, .ref (adr G xl0)), (1, .int zl1), (2, .int zl2)] := hl
  unfold wp_X2_visit_d5 at h
  refine lv_iload_n hx hb dX2_visit_0 rfl (lv_at hl 1 rfl) ?_
  refine r_sipush hx hb dX2_visit_1 (by decide) h (fun z60 h => ?_)
  refine r_imul hx hb dX2_visit_4 h (fun z62 h => ?_)
  refine lv_iload_n hx hb dX2_visit_5 rfl (lv_at hl 2 rfl) ?_
  refine r_iadd hx hb dX2_visit_6 h (fun z64 h => ?_)
  refine lv_istore_n (lv' := [(3, .int z64), (0, .ref (adr G xl0)), (1, .int zl1), (2, .int zl2)]) hx hb dX2_visit_7 rfl hl (by decide) rfl (fun ls hl => ?_)
  refine lv_iload_n hx hb dX2_visit_8 rfl (lv_at hl 2 rfl) ?_
  refine r_iconst hx hb dX2_visit_9 (by decide) h (fun z66 h => ?_)
  refine r_icmp_gt (tgt := 23) hx hb dX2_visit_10 (by decide) h (fun h => ?_) (fun h => ?_)
  · exact r_vret hx hb hr hlocks hP hS dX2_visit_23 h
  · refine lv_aload_n hx hb dX2_visit_13 rfl (lv_at hl 1 rfl) ?_
    refine r_getr (C := RX2) (T := TX2) (N := 11) hx hb hts (fun w h => List.mem_cons_of_mem _ (iX2 w h)) hown hK hP rfl (by decide) rfl 4 (by decide) (hts _ (List.mem_cons_of_mem _ kw_419)) (fun _ h9 => h9) dX2_visit_14 (by decide) h (fun x68 h => ?_)
    refine lv_iload_n hx hb dX2_visit_17 rfl (lv_at hl 0 rfl) ?_
    refine r_iald hx hb hK hP dX2_visit_18 h (fun z70 h => ?_)
    refine r_iconst hx hb dX2_visit_19 (by decide) h (fun z72 h => ?_)
    refine r_icmp_eq (tgt := 24) hx hb dX2_visit_20 (by decide) h (fun h => ?_) (fun h => ?_)
    · refine lv_iload_n hx hb dX2_visit_24 rfl (lv_at hl 2 rfl) ?_
      refine lv_aload_n hx hb dX2_visit_25 rfl (lv_at hl 1 rfl) ?_
      refine r_geti (C := RX2) (T := TX2) (N := 11) hx hb hts (fun w h => List.mem_cons_of_mem _ (iX2 w h)) hown hK hP rfl (by decide) rfl 6 (by decide) (hts _ (List.mem_cons_of_mem _ kw_421)) (fun _ h9 => h9) dX2_visit_26 (by decide) h (fun z74 h => ?_)
      refine r_icmp_lt (tgt := 67) hx hb dX2_visit_29 (by decide) h (fun h => ?_) (fun h => ?_)
      · refine r_iconst hx hb dX2_visit_67 (by decide) h (fun z76 h => ?_)
        refine lv_istore (lv' := [(4, .int z76), (3, .int z64), (0, .ref (adr G xl0)), (1, .int zl1), (2, .int zl2)]) hx hb dX2_visit_68 hl (by decide) rfl (fun ls hl => ?_)
        refine r_sipush hx hb dX2_visit_70 (by decide) h (fun z78 h => ?_)
        refine lv_istore (lv' := [(5, .int z78), (4, .int z76), (3, .int z64), (0, .ref (adr G xl0)), (1, .int zl1), (2, .int zl2)]) hx hb dX2_visit_73 hl (by decide) rfl (fun ls hl => ?_)
        refine r_iconst hx hb dX2_visit_75 (by decide) h (fun z80 h => ?_)
        refine lv_istore (lv' := [(6, .int z80), (5, .int z78), (4, .int z76), (3, .int z64), (0, .ref (adr G xl0)), (1, .int zl1), (2, .int zl2)]) hx hb dX2_visit_76 hl (by decide) rfl (fun ls hl => ?_)
        obtain ⟨n9, h⟩ := h
        exact t_X2_visit_d5_78 C n9 xl0 zl1 zl2 z64 z76 z78 z80 _ _ _ _ hP hS (lv_sub hl [4, 5, 6, 3, 2, 1, 0] rfl) h
      · refine lv_aload_n hx hb dX2_visit_32 rfl (lv_at hl 1 rfl) ?_
        refine r_getr (C := RX2) (T := TX2) (N := 11) hx hb hts (fun w h => List.mem_cons_of_mem _ (iX2 w h)) hown hK hP rfl (by decide) rfl 4 (by decide) (hts _ (List.mem_cons_of_mem _ kw_419)) (fun _ h9 => h9) dX2_visit_33 (by decide) h (fun x82 h => ?_)
        refine lv_iload_n hx hb dX2_visit_36 rfl (lv_at hl 0 rfl) ?_
        refine lv_aload_n hx hb dX2_visit_37 rfl (lv_at hl 1 rfl) ?_
        refine r_geti (C := RX2) (T := TX2) (N := 11) hx hb hts (fun w h => List.mem_cons_of_mem _ (iX2 w h)) hown hK hP rfl (by decide) rfl 9 (by decide) (hts _ (List.mem_cons_of_mem _ kw_424)) (fun _ h9 => h9) dX2_visit_38 (by decide) h (fun z84 h => ?_)
        refine lv_iload_n hx hb dX2_visit_41 rfl (lv_at hl 3 rfl) ?_
        refine r_icmp_gt (tgt := 57) hx hb dX2_visit_42 (by decide) h (fun h => ?_) (fun h => ?_)
        · exact t_X2_visit_d5_57 C xl0 zl2 z64 x82 z64 _ _ _ _ hP hS (lv_sub hl [1, 3, 0] rfl) h
        · refine lv_iload_n hx hb dX2_visit_45 rfl (lv_at hl 3 rfl) ?_
          refine lv_aload_n hx hb dX2_visit_46 rfl (lv_at hl 1 rfl) ?_
          refine r_geti (C := RX2) (T := TX2) (N := 11) hx hb hts (fun w h => List.mem_cons_of_mem _ (iX2 w h)) hown hK hP rfl (by decide) rfl 10 (by decide) (hts _ (List.mem_cons_of_mem _ kw_425)) (fun _ h9 => h9) dX2_visit_47 (by decide) h (fun z86 h => ?_)
          refine r_icmp_gt (tgt := 57) hx hb dX2_visit_50 (by decide) h (fun h => ?_) (fun h => ?_)
          · exact t_X2_visit_d5_57 C xl0 zl2 z64 x82 z64 _ _ _ _ hP hS (lv_sub hl [1, 3, 0] rfl) h
          · refine r_iconst hx hb dX2_visit_53 (by decide) h (fun z88 h => ?_)
            refine lv_goto (tgt := 58) hx hb dX2_visit_54 (by decide) ?_
            exact t_X2_visit_d5_58 C xl0 zl2 z64 x82 z64 z88 _ _ _ _ hP hS (lv_sub hl [1, 3, 0] rfl) h
    · exact r_vret hx hb hr hlocks hP hS dX2_visit_23 h
