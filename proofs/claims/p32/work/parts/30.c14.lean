/-! TurningMilk$Hours.passByDraws(LTurningMilk$State;I)V -/
abbrev RM_X1_passByDraws : Room := { frames := 6, cells := 0, slots := 0, locals := 153 }
def cw_X1_passByDraws : Cond := Cond.code yX1_passByDraws cX1_passByDraws 4 (Option.none : Option FieldType)
theorem hd_X1_passByDraws : yX1_passByDraws.cls ≠ "java/lang/invoke/MethodHandle" ∧ yX1_passByDraws.cls ≠ "java/lang/invoke/VarHandle" ∧ (parseMethodDescriptor yX1_passByDraws.desc).map (fun d => d.parameters.length) = some 2 := by decide +kernel
theorem dX1_passByDraws_0 : decode cX1_passByDraws 0 = .ok (.iconst 0, 1) := by decide +kernel
theorem dX1_passByDraws_1 : decode cX1_passByDraws 1 = .ok (.istore_n 3, 1) := by decide +kernel
theorem dX1_passByDraws_2 : decode cX1_passByDraws 2 = .ok (.iload_n 3, 1) := by decide +kernel
theorem dX1_passByDraws_3 : decode cX1_passByDraws 3 = .ok (.iload_n 2, 1) := by decide +kernel
theorem dX1_passByDraws_4 : decode cX1_passByDraws 4 = .ok (.if_icmp .ge 25, 3) := by decide +kernel
theorem dX1_passByDraws_7 : decode cX1_passByDraws 7 = .ok (.aload_n 0, 1) := by decide +kernel
theorem dX1_passByDraws_8 : decode cX1_passByDraws 8 = .ok (.aload_n 1, 1) := by decide +kernel
theorem dX1_passByDraws_9 : decode cX1_passByDraws 9 = .ok (.invokevirtual 95, 3) := by decide +kernel
theorem dX1_passByDraws_12 : decode cX1_passByDraws 12 = .ok (.aload_n 0, 1) := by decide +kernel
theorem dX1_passByDraws_13 : decode cX1_passByDraws 13 = .ok (.aload_n 1, 1) := by decide +kernel
theorem dX1_passByDraws_14 : decode cX1_passByDraws 14 = .ok (.invokevirtual 99, 3) := by decide +kernel
theorem dX1_passByDraws_17 : decode cX1_passByDraws 17 = .ok (.aload_n 0, 1) := by decide +kernel
theorem dX1_passByDraws_18 : decode cX1_passByDraws 18 = .ok (.aload_n 1, 1) := by decide +kernel
theorem dX1_passByDraws_19 : decode cX1_passByDraws 19 = .ok (.invokevirtual 91, 3) := by decide +kernel
theorem dX1_passByDraws_22 : decode cX1_passByDraws 22 = .ok (.pop, 1) := by decide +kernel
theorem dX1_passByDraws_23 : decode cX1_passByDraws 23 = .ok (.iinc 3 1, 3) := by decide +kernel
theorem dX1_passByDraws_26 : decode cX1_passByDraws 26 = .ok (.goto (-24), 3) := by decide +kernel
theorem dX1_passByDraws_29 : decode cX1_passByDraws 29 = .ok (.return_, 1) := by decide +kernel
def wp_X1_passByDraws_2 (S : Sh) (post : Mm → Prop) : Nat → Int → Int → Int → Int → Mm → Prop
  | 0, _, _, _, _, _ => False
  | n + 1, u0, u1, u2, u3, M => wIf (u2 ≤ u3) (post M) (isK S u0 1 ∧ (wp_X1_drawRoads S M u0 u1 <| fun M1 => isK S u0 1 ∧ (wp_X1_drawHolders S M1 u0 u1 <| fun M2 => isK S u0 1 ∧ (wp_X1_pass S M2 u0 u1 <| fun v4 M3 => wA u3 1 fun v6 => wp_X1_passByDraws_2 S post n u0 u1 u2 v6 M3))))
def wp_X1_passByDraws (S : Sh) (M : Mm) (u0 : Int) (u1 : Int) (u2 : Int) (post : Mm → Prop) : Prop := wC 0 fun v8 => ∃ n9 : Nat, wp_X1_passByDraws_2 S post n9 u0 u1 u2 v8 M
set_option maxHeartbeats 4000000 in
set_option maxRecDepth 100000 in
theorem t_X1_passByDraws_2 {p : Program} {l : Launch} {e : Env} {s : State} {m : MethodId} {args : Array Value} {below : List Frame} {meth : Method} {c : Code} {D : va_G} {G : Gt} {S : Sh} {post : Mm → Prop} (C : Cx p s m args meth c D G cX1_passByDraws 4 none (cw_X1_passByDraws :: gw) RX1) : ∀ (n : Nat) (xl0 : Int) (xl1 : Int) (zl2 : Int32) (zl3 : Int32) (M : Mm) (H : Heap) (locs : List Loc) (ls : Array Slot), Wd D G S M H → va_S (aG G) s.heap H locs → lv_has ls 4 [(0, .ref (adr G xl0)), (1, .ref (adr G xl1)), (2, .int zl2), (3, .int zl3)] → wp_X1_passByDraws_2 S post n xl0 xl1 zl2.toInt zl3.toInt  M → W p l e RM_X1_passByDraws s m args below meth c H locs 0 0 (MQ below (QV D G S post) args s 0 0 (aG G)) (F0 m 2 ls []) := by
  obtain ⟨hx, hb, hr, hlocks, hml, hown, hts, hK⟩ := id C
  intro n
  induction n with
  | zero => intro xl0 xl1 zl2 zl3 M H locs ls hP hS hl h; exact h.elim
  | succ n ih =>
    intro xl0 xl1 zl2 zl3 M H locs ls hP hS hl h
    unfold wp_X1_passByDraws_2 at h
    refine lv_iload_n hx hb dX1_passByDraws_2 rfl (lv_at hl 3 rfl) ?_
    refine lv_iload_n hx hb dX1_passByDraws_3 rfl (lv_at hl 2 rfl) ?_
    refine r_icmp_ge (tgt := 29) hx hb dX1_passByDraws_4 (by decide) h (fun h => ?_) (fun h => ?_)
    · exact r_vret hx hb hr hlocks hP hS dX1_passByDraws_29 h
    · refine lv_aload_n hx hb dX1_passByDraws_7 rfl (lv_at hl 0 rfl) ?_
      refine lv_aload_n hx hb dX1_passByDraws_8 rfl (lv_at hl 1 rfl) ?_
      refine q_Vv hx hb hml hown hts hK hP hS (c_X1_drawRoads l D G S _ xl0 xl1 _ h.2) ⟨callB_of 1 hts (gw_good kw_1282) rfl rfl rfl (hts _ (List.mem_cons_of_mem _ kw_10)) (hts _ (List.mem_cons_of_mem _ kw_1279)) hd_X1_drawRoads ⟨Nat.le_of_ble_eq_true rfl, Nat.le_of_ble_eq_true rfl⟩, (hts _ (List.mem_cons_of_mem _ kw_1281)), (hts _ (List.mem_cons_of_mem _ kp_48))⟩ h.1 (ci := 1) rfl (by decide) rfl hl.1 rfl (lv_room (Nat.le_of_ble_eq_true rfl)) dX1_passByDraws_9 ⟨Nat.zero_le _, Nat.zero_le _⟩ (fun M1 H locs h hP hS => ?_)
      refine lv_aload_n hx hb dX1_passByDraws_12 rfl (lv_at hl 0 rfl) ?_
      refine lv_aload_n hx hb dX1_passByDraws_13 rfl (lv_at hl 1 rfl) ?_
      refine q_Vv hx hb hml hown hts hK hP hS (c_X1_drawHolders l D G S _ xl0 xl1 _ h.2) ⟨callB_of 1 hts (gw_good kw_1297) rfl rfl rfl (hts _ (List.mem_cons_of_mem _ kw_10)) (hts _ (List.mem_cons_of_mem _ kw_1294)) hd_X1_drawHolders ⟨Nat.le_of_ble_eq_true rfl, Nat.le_of_ble_eq_true rfl⟩, (hts _ (List.mem_cons_of_mem _ kw_1296)), (hts _ (List.mem_cons_of_mem _ kp_50))⟩ h.1 (ci := 1) rfl (by decide) rfl hl.1 rfl (lv_room (Nat.le_of_ble_eq_true rfl)) dX1_passByDraws_14 ⟨Nat.zero_le _, Nat.zero_le _⟩ (fun M2 H locs h hP hS => ?_)
      refine lv_aload_n hx hb dX1_passByDraws_17 rfl (lv_at hl 0 rfl) ?_
      refine lv_aload_n hx hb dX1_passByDraws_18 rfl (lv_at hl 1 rfl) ?_
      refine q_Vi hx hb hml hown hts hK hP hS (c_X1_pass l D G S _ xl0 xl1 _ h.2) ⟨callB_of 1 hts (gw_good kw_926) rfl rfl rfl (hts _ (List.mem_cons_of_mem _ kw_10)) (hts _ (List.mem_cons_of_mem _ kw_1061)) hd_X1_pass ⟨Nat.le_of_ble_eq_true rfl, Nat.le_of_ble_eq_true rfl⟩, (hts _ (List.mem_cons_of_mem _ kw_924)), (hts _ (List.mem_cons_of_mem _ kw_925))⟩ h.1 (ci := 1) rfl (by decide) rfl hl.1 rfl (lv_room (Nat.le_of_ble_eq_true rfl)) dX1_passByDraws_19 ⟨Nat.zero_le _, Nat.zero_le _⟩ (fun z5 M3 H locs h hP hS => ?_)
      refine lv_pop hx hb dX1_passByDraws_22 rfl ?_
      refine r_iinc hx hb (fun z7 => [(3, .int z7), (0, .ref (adr G xl0)), (1, .ref (adr G xl1)), (2, .int zl2)]) dX1_passByDraws_23 (by decide) hl (k := 3) rfl (by decide) (fun _ => rfl) h (fun z7 ls hl h => ?_)
      refine lv_goto (tgt := 2) hx hb dX1_passByDraws_26 (by decide) ?_
      exact ih xl0 xl1 zl2 z7 _ _ _ _ hP hS (lv_sub hl [1, 2, 3, 0] rfl) h
set_option maxHeartbeats 4000000 in
set_option maxRecDepth 100000 in
theorem c_X1_passByDraws (l : Launch) (D : va_G) (G : Gt) (S : Sh) (M : Mm) (xl0 : Int) (xl1 : Int) (zl2 : Int32) (post : Mm → Prop) (h : wp_X1_passByDraws S M xl0 xl1 zl2.toInt post) : Met l yX1_passByDraws (cw_X1_passByDraws :: gw) RM_X1_passByDraws (va_Pc [.ref (adr G xl0), .ref (adr G xl1), .int zl2] (fun U => KN D G U ∧ Wd D G S M U.heap)) (QV D G S post) 0 0 (aG G) := by
  refine Met.ofW (cc := cX1_passByDraws) (maxL := 4) (ret := none) (by decide) rfl ?_
  intro p e s m args below meth c s₁ B hml hv
  obtain ⟨rfl, hK, hP⟩ := hv
  have hx := B.exec
  have hb := B.bytes
  have hr := B.returns
  have hts := atoms_spec (ws := cw_X1_passByDraws :: gw) B.pre
  have hown : s.vm.findClass RX1 = some m.cls := findClass_of_methodNamed B.named
  have hlocks := B.notSynchronized
  have hS : va_S (aG G) s.heap s.heap [] := va_S.rf
  have C : Cx p s m ([.ref (adr G xl0), .ref (adr G xl1), .int zl2] : List Value).toArray meth c D G cX1_passByDraws 4 none (cw_X1_passByDraws :: gw) RX1 := ⟨hx, hb, hr, hlocks, hml, hown, hts, hK⟩
  have hl := lv_entry ([.ref (adr G xl0), .ref (adr G xl1), .int zl2]) (n := 4) (Nat.le_of_ble_eq_true rfl)
  rw [lg_entry_eq]
  generalize (lg_sl ([.ref (adr G xl0), .ref (adr G xl1), .int zl2]) ++ List.replicate (4 - (lg_sl ([.ref (adr G xl0), .ref (adr G xl1), .int zl2])).length) Slot.unset).toArray = ls at hl ⊢
  have hl : lv_has ls 4 [(0, .ref (adr G xl0)), (1, .ref (adr G xl1)), (2, .int zl2)] := hl
  unfold wp_X1_passByDraws at h
  refine r_iconst hx hb dX1_passByDraws_0 (by decide) h (fun z9 h => ?_)
  refine lv_istore_n (lv' := [(3, .int z9), (0, .ref (adr G xl0)), (1, .ref (adr G xl1)), (2, .int zl2)]) hx hb dX1_passByDraws_1 rfl hl (by decide) rfl (fun ls hl => ?_)
  obtain ⟨n9, h⟩ := h
  exact t_X1_passByDraws_2 C n9 xl0 xl1 zl2 z9 _ _ _ _ hP hS (lv_sub hl [1, 2, 3, 0] rfl) h
/-! TurningMilk$State.howManySour(I)I -/
abbrev RM_X5_howManySour : Room := { frames := 2, cells := 0, slots := 0, locals := 61 }
def cw_X5_howManySour : Cond := Cond.code yX5_howManySour cX5_howManySour 4 (Option.some FieldType.int)
theorem hd_X5_howManySour : yX5_howManySour.cls ≠ "java/lang/invoke/MethodHandle" ∧ yX5_howManySour.cls ≠ "java/lang/invoke/VarHandle" ∧ (parseMethodDescriptor yX5_howManySour.desc).map (fun d => d.parameters.length) = some 1 := by decide +kernel
theorem dX5_howManySour_0 : decode cX5_howManySour 0 = .ok (.iconst 0, 1) := by decide +kernel
theorem dX5_howManySour_1 : decode cX5_howManySour 1 = .ok (.istore_n 2, 1) := by decide +kernel
theorem dX5_howManySour_2 : decode cX5_howManySour 2 = .ok (.iconst 0, 1) := by decide +kernel
theorem dX5_howManySour_3 : decode cX5_howManySour 3 = .ok (.istore_n 3, 1) := by decide +kernel
theorem dX5_howManySour_4 : decode cX5_howManySour 4 = .ok (.iload_n 3, 1) := by decide +kernel
theorem dX5_howManySour_5 : decode cX5_howManySour 5 = .ok (.iconst 4, 1) := by decide +kernel
theorem dX5_howManySour_6 : decode cX5_howManySour 6 = .ok (.if_icmp .ge 35, 3) := by decide +kernel
theorem dX5_howManySour_9 : decode cX5_howManySour 9 = .ok (.iload_n 2, 1) := by decide +kernel
theorem dX5_howManySour_10 : decode cX5_howManySour 10 = .ok (.aload_n 0, 1) := by decide +kernel
theorem dX5_howManySour_11 : decode cX5_howManySour 11 = .ok (.iload_n 3, 1) := by decide +kernel
theorem dX5_howManySour_12 : decode cX5_howManySour 12 = .ok (.invokevirtual 88, 3) := by decide +kernel
theorem dX5_howManySour_15 : decode cX5_howManySour 15 = .ok (.ifCond .ne 17, 3) := by decide +kernel
theorem dX5_howManySour_18 : decode cX5_howManySour 18 = .ok (.aload_n 0, 1) := by decide +kernel
theorem dX5_howManySour_19 : decode cX5_howManySour 19 = .ok (.getfield 27, 3) := by decide +kernel
theorem dX5_howManySour_22 : decode cX5_howManySour 22 = .ok (.iload_n 3, 1) := by decide +kernel
theorem dX5_howManySour_23 : decode cX5_howManySour 23 = .ok (.iaload, 1) := by decide +kernel
theorem dX5_howManySour_24 : decode cX5_howManySour 24 = .ok (.iload_n 1, 1) := by decide +kernel
theorem dX5_howManySour_25 : decode cX5_howManySour 25 = .ok (.if_icmp .lt 7, 3) := by decide +kernel
theorem dX5_howManySour_28 : decode cX5_howManySour 28 = .ok (.iconst 1, 1) := by decide +kernel
theorem dX5_howManySour_29 : decode cX5_howManySour 29 = .ok (.goto 4, 3) := by decide +kernel
theorem dX5_howManySour_32 : decode cX5_howManySour 32 = .ok (.iconst 0, 1) := by decide +kernel
theorem dX5_howManySour_33 : decode cX5_howManySour 33 = .ok (.iadd, 1) := by decide +kernel
theorem dX5_howManySour_34 : decode cX5_howManySour 34 = .ok (.istore_n 2, 1) := by decide +kernel
theorem dX5_howManySour_35 : decode cX5_howManySour 35 = .ok (.iinc 3 1, 3) := by decide +kernel
theorem dX5_howManySour_38 : decode cX5_howManySour 38 = .ok (.goto (-34), 3) := by decide +kernel
theorem dX5_howManySour_41 : decode cX5_howManySour 41 = .ok (.iload_n 2, 1) := by decide +kernel
theorem dX5_howManySour_42 : decode cX5_howManySour 42 = .ok (.ireturn, 1) := by decide +kernel
def wp_X5_howManySour_33 (S : Sh) (k4 : Int → Int → Int → Int → Mm → Prop) (post : Int → Mm → Prop) (u0 : Int) (u1 : Int) (u3 : Int) (t0 : Int) (t1 : Int) (M : Mm) : Prop := wA t0 t1 fun v1 => wA u3 1 fun v3 => k4 u0 u1 v1 v3 M
def wp_X5_howManySour_32 (S : Sh) (k4 : Int → Int → Int → Int → Mm → Prop) (post : Int → Mm → Prop) (u0 : Int) (u1 : Int) (u3 : Int) (t0 : Int) (M : Mm) : Prop := wC 0 fun v5 => wp_X5_howManySour_33 S k4 post u0 u1 u3 t0 v5 M
def wp_X5_howManySour_4 (S : Sh) (post : Int → Mm → Prop) : Nat → Int → Int → Int → Int → Mm → Prop
  | 0, _, _, _, _, _ => False
  | n + 1, u0, u1, u2, u3, M => wC 4 fun v7 => wIf (v7 ≤ u3) (post u2 M) (isK S u0 5 ∧ (wp_X5_isGone S M u0 u3 <| fun v10 M9 => wIf (¬ v10 = 0) (wp_X5_howManySour_32 S (fun a0 a1 a2 a3 M => wp_X5_howManySour_4 S post n a0 a1 a2 a3 M) post u0 u1 u3 u2 M9) (wGetR S M9 u0 5 7 fun v12 => wLd S M9 v12 14 u3 fun v14 => wIf (v14 < u1) (wp_X5_howManySour_32 S (fun a0 a1 a2 a3 M => wp_X5_howManySour_4 S post n a0 a1 a2 a3 M) post u0 u1 u3 u2 M9) (wC 1 fun v16 => wp_X5_howManySour_33 S (fun a0 a1 a2 a3 M => wp_X5_howManySour_4 S post n a0 a1 a2 a3 M) post u0 u1 u3 u2 v16 M9))))
def wp_X5_howManySour (S : Sh) (M : Mm) (u0 : Int) (u1 : Int) (post : Int → Mm → Prop) : Prop := wC 0 fun v18 => wC 0 fun v20 => ∃ n9 : Nat, wp_X5_howManySour_4 S post n9 u0 u1 v18 v20 M
set_option maxHeartbeats 4000000 in
set_option maxRecDepth 100000 in
theorem t_X5_howManySour_33 {p : Program} {l : Launch} {e : Env} {s : State} {m : MethodId} {args : Array Value} {below : List Frame} {meth : Method} {c : Code} {D : va_G} {G : Gt} {S : Sh} {post : Int → Mm → Prop} {k4 : Int → Int → Int → Int → Mm → Prop} (C : Cx p s m args meth c D G cX5_howManySour 4 (some .int) (cw_X5_howManySour :: gw) RX5) (hk4 : ∀ (y0 : Int) (y1 : Int32) (y2 : Int32) (y3 : Int32) (M : Mm) (H : Heap) (locs : List Loc) (ls : Array Slot), Wd D G S M H → va_S (aG G) s.heap H locs → lv_has ls 4 [(0, .ref (adr G y0)), (1, .int y1), (2, .int y2), (3, .int y3)] → k4 y0 y1.toInt y2.toInt y3.toInt M → W p l e RM_X5_howManySour s m args below meth c H locs 0 0 (MQ below (QI D G S post) args s 0 0 (aG G)) (F0 m 4 ls [])) : ∀ (xl0 : Int) (zl1 : Int32) (zl3 : Int32) (zs0 : Int32) (zs1 : Int32) (M : Mm) (H : Heap) (locs : List Loc) (ls : Array Slot), Wd D G S M H → va_S (aG G) s.heap H locs → lv_has ls 4 [(0, .ref (adr G xl0)), (1, .int zl1), (3, .int zl3)] → wp_X5_howManySour_33 S k4 post xl0 zl1.toInt zl3.toInt zs0.toInt zs1.toInt M → W p l e RM_X5_howManySour s m args below meth c H locs 0 0 (MQ below (QI D G S post) args s 0 0 (aG G)) (F0 m 33 ls [.int zs1, .int zs0]) := by
  obtain ⟨hx, hb, hr, hlocks, hml, hown, hts, hK⟩ := id C
  intro xl0 zl1 zl3 zs0 zs1 M H locs ls hP hS hl h
  unfold wp_X5_howManySour_33 at h
  refine r_iadd hx hb dX5_howManySour_33 h (fun z2 h => ?_)
  refine lv_istore_n (lv' := [(2, .int z2), (0, .ref (adr G xl0)), (1, .int zl1), (3, .int zl3)]) hx hb dX5_howManySour_34 rfl hl (by decide) rfl (fun ls hl => ?_)
  refine r_iinc hx hb (fun z4 => [(3, .int z4), (2, .int z2), (0, .ref (adr G xl0)), (1, .int zl1)]) dX5_howManySour_35 (by decide) hl (k := 3) rfl (by decide) (fun _ => rfl) h (fun z4 ls hl h => ?_)
  refine lv_goto (tgt := 4) hx hb dX5_howManySour_38 (by decide) ?_
  exact hk4 xl0 zl1 z2 z4 _ _ _ _ hP hS (lv_sub hl [2, 3, 1, 0] rfl) h
set_option maxHeartbeats 4000000 in
set_option maxRecDepth 100000 in
theorem t_X5_howManySour_32 {p : Program} {l : Launch} {e : Env} {s : State} {m : MethodId} {args : Array Value} {below : List Frame} {meth : Method} {c : Code} {D : va_G} {G : Gt} {S : Sh} {post : Int → Mm → Prop} {k4 : Int → Int → Int → Int → Mm → Prop} (C : Cx p s m args meth c D G cX5_howManySour 4 (some .int) (cw_X5_howManySour :: gw) RX5) (hk4 : ∀ (y0 : Int) (y1 : Int32) (y2 : Int32) (y3 : Int32) (M : Mm) (H : Heap) (locs : List Loc) (ls : Array Slot), Wd D G S M H → va_S (aG G) s.heap H locs → lv_has ls 4 [(0, .ref (adr G y0)), (1, .int y1), (2, .int y2), (3, .int y3)] → k4 y0 y1.toInt y2.toInt y3.toInt M → W p l e RM_X5_howManySour s m args below meth c H locs 0 0 (MQ below (QI D G S post) args s 0 0 (aG G)) (F0 m 4 ls [])) : ∀ (xl0 : Int) (zl1 : Int32) (zl3 : Int32) (zs0 : Int32) (M : Mm) (H : Heap) (locs : List Loc) (ls : Array Slot), Wd D G S M H → va_S (aG G) s.heap H locs → lv_has ls 4 [(0, .ref (adr G xl0)), (1, .int zl1), (3, .int zl3)] → wp_X5_howManySour_32 S k4 post xl0 zl1.toInt zl3.toInt zs0.toInt M → W p l e RM_X5_howManySour s m args below meth c H locs 0 0 (MQ below (QI D G S post) args s 0 0 (aG G)) (F0 m 32 ls [.int zs0]) := by
  obtain ⟨hx, hb, hr, hlocks, hml, hown, hts, hK⟩ := id C
  intro xl0 zl1 zl3 zs0 M H locs ls hP hS hl h
  unfold wp_X5_howManySour_32 at h
  refine r_iconst hx hb dX5_howManySour_32 (by decide) h (fun z6 h => ?_)
  exact t_X5_howManySour_33 C hk4 xl0 zl1 zl3 zs0 z6 _ _ _ _ hP hS (lv_sub hl [0, 1, 2] rfl) h
set_option maxHeartbeats 4000000 in
set_option maxRecDepth 100000 in
theorem t_X5_howManySour_4 {p : Program} {l : Launch} {e : Env} {s : State} {m : MethodId} {args : Array Value} {below : List Frame} {meth : Method} {c : Code} {D : va_G} {G : Gt} {S : Sh} {post : Int → Mm → Prop} (C : Cx p s m args meth c D G cX5_howManySour 4 (some .int) (cw_X5_howManySour :: gw) RX5) : ∀ (n : Nat) (xl0 : Int) (zl1 : Int32) (zl2 : Int32) (zl3 : Int32) (M : Mm) (H : Heap) (locs : List Loc) (ls : Array Slot), Wd D G S M H → va_S (aG G) s.heap H locs → lv_has ls 4 [(0, .ref (adr G xl0)), (1, .int zl1), (2, .int zl2), (3, .int zl3)] → wp_X5_howManySour_4 S post n xl0 zl1.toInt zl2.toInt zl3.toInt  M → W p l e RM_X5_howManySour s m args below meth c H locs 0 0 (MQ below (QI D G S post) args s 0 0 (aG G)) (F0 m 4 ls []) := by
  obtain ⟨hx, hb, hr, hlocks, hml, hown, hts, hK⟩ := id C
  intro n
  induction n with
  | zero => intro xl0 zl1 zl2 zl3 M H locs ls hP hS hl h; exact h.elim
  | succ n ih =>
    intro xl0 zl1 zl2 zl3 M H locs ls hP hS hl h
    unfold wp_X5_howManySour_4 at h
    refine lv_iload_n hx hb dX5_howManySour_4 rfl (lv_at hl 3 rfl) ?_
    refine r_iconst hx hb dX5_howManySour_5 (by decide) h (fun z8 h => ?_)
    refine r_icmp_ge (tgt := 41) hx hb dX5_howManySour_6 (by decide) h (fun h => ?_) (fun h => ?_)
    · refine lv_iload_n hx hb dX5_howManySour_41 rfl (lv_at hl 2 rfl) ?_
      exact r_iret hx hb hr hlocks hP hS dX5_howManySour_42 h
    · refine lv_iload_n hx hb dX5_howManySour_9 rfl (lv_at hl 2 rfl) ?_
      refine lv_aload_n hx hb dX5_howManySour_10 rfl (lv_at hl 0 rfl) ?_
      refine lv_iload_n hx hb dX5_howManySour_11 rfl (lv_at hl 3 rfl) ?_
      refine q_Vi hx hb hml hown hts hK hP hS (c_X5_isGone l D G S _ xl0 zl3 _ h.2) ⟨callB_of 1 hts (gw_good kw_897) rfl rfl rfl (hts _ (List.mem_cons_of_mem _ kw_5)) (hts _ (List.mem_cons_of_mem _ kw_1266)) hd_X5_isGone ⟨Nat.le_of_ble_eq_true rfl, Nat.le_of_ble_eq_true rfl⟩, (hts _ (List.mem_cons_of_mem _ kw_895)), (hts _ (List.mem_cons_of_mem _ kw_896))⟩ h.1 (ci := 5) rfl (by decide) rfl hl.1 rfl (lv_room (Nat.le_of_ble_eq_true rfl)) dX5_howManySour_12 ⟨Nat.zero_le _, Nat.zero_le _⟩ (fun z11 M9 H locs h hP hS => ?_)
      refine r_if_ne (tgt := 32) hx hb dX5_howManySour_15 (by decide) h (fun h => ?_) (fun h => ?_)
      · exact t_X5_howManySour_32 C ih xl0 zl1 zl3 zl2 _ _ _ _ hP hS (lv_sub hl [0, 1, 3] rfl) h
      · refine lv_aload_n hx hb dX5_howManySour_18 rfl (lv_at hl 0 rfl) ?_
        refine r_getr (C := RX5) (T := TX5) (N := 9) hx hb hts (fun w h => List.mem_cons_of_mem _ (iX5 w h)) hown hK hP rfl (by decide) rfl 7 (by decide) (hts _ (List.mem_cons_of_mem _ kw_203)) (fun _ h9 => h9) dX5_howManySour_19 (by decide) h (fun x13 h => ?_)
        refine lv_iload_n hx hb dX5_howManySour_22 rfl (lv_at hl 3 rfl) ?_
        refine r_iald hx hb hK hP dX5_howManySour_23 h (fun z15 h => ?_)
        refine lv_iload_n hx hb dX5_howManySour_24 rfl (lv_at hl 1 rfl) ?_
        refine r_icmp_lt (tgt := 32) hx hb dX5_howManySour_25 (by decide) h (fun h => ?_) (fun h => ?_)
        · exact t_X5_howManySour_32 C ih xl0 zl1 zl3 zl2 _ _ _ _ hP hS (lv_sub hl [0, 1, 3] rfl) h
        · refine r_iconst hx hb dX5_howManySour_28 (by decide) h (fun z17 h => ?_)
          refine lv_goto (tgt := 33) hx hb dX5_howManySour_29 (by decide) ?_
          exact t_X5_howManySour_33 C ih xl0 zl1 zl3 zl2 z17 _ _ _ _ hP hS (lv_sub hl [0, 1, 3] rfl) h
set_option maxHeartbeats 4000000 in
set_option maxRecDepth 100000 in
theorem c_X5_howManySour (l : Launch) (D : va_G) (G : Gt) (S : Sh) (M : Mm) (xl0 : Int) (zl1 : Int32) (post : Int → Mm → Prop) (h : wp_X5_howManySour S M xl0 zl1.toInt post) : Met l yX5_howManySour (cw_X5_howManySour :: gw) RM_X5_howManySour (va_Pc [.ref (adr G xl0), .int zl1] (fun U => KN D G U ∧ Wd D G S M U.heap)) (QI D G S post) 0 0 (aG G) := by
  refine Met.ofW (cc := cX5_howManySour) (maxL := 4) (ret := (some .int)) (by decide) rfl ?_
  intro p e s m args below meth c s₁ B hml hv
  obtain ⟨rfl, hK, hP⟩ := hv
  have hx := B.exec
  have hb := B.bytes
  have hr := B.returns
  have hts := atoms_spec (ws := cw_X5_howManySour :: gw) B.pre
  have hown : s.vm.findClass RX5 = some m.cls := findClass_of_methodNamed B.named
  have hlocks := B.notSynchronized
  have hS : va_S (aG G) s.heap s.heap [] := va_S.rf
  have C : Cx p s m ([.ref (adr G xl0), .int zl1] : List Value).toArray meth c D G cX5_howManySour 4 (some .int) (cw_X5_howManySour :: gw) RX5 := ⟨hx, hb, hr, hlocks, hml, hown, hts, hK⟩
  have hl := lv_entry ([.ref (adr G xl0), .int zl1]) (n := 4) (Nat.le_of_ble_eq_true rfl)
  rw [lg_entry_eq]
  generalize (lg_sl ([.ref (adr G xl0), .int zl1]) ++ List.replicate (4 - (lg_sl ([.ref (adr G xl0), .int zl1])).length) Slot.unset).toArray = ls at hl ⊢
  have hl : lv_has ls 4 [(0, .ref (adr G xl0)), (1, .int zl1)] := hl
  unfold wp_X5_howManySour at h
  refine r_iconst hx hb dX5_howManySour_0 (by decide) h (fun z19 h => ?_)
  refine lv_istore_n (lv' := [(2, .int z19), (0, .ref (adr G xl0)), (1, .int zl1)]) hx hb dX5_howManySour_1 rfl hl (by decide) rfl (fun ls hl => ?_)
  refine r_iconst hx hb dX5_howManySour_2 (by decide) h (fun z21 h => ?_)
  refine lv_istore_n (lv' := [(3, .int z21), (2, .int z19), (0, .ref (adr G xl0)), (1, .int zl1)]) hx hb dX5_howManySour_3 rfl hl (by decide) rfl (fun ls hl => ?_)
  obtain ⟨n9, h⟩ := h
  exact t_X5_howManySour_4 C n9 xl0 zl1 z19 z21 _ _ _ _ hP hS (lv_sub hl [2, 3, 1, 0] rfl) h
/-! TurningMilk.years(III)I -/
abbrev RM_X11_years : Room := { frames := 7, cells := 0, slots := 0, locals := 176 }
def cw_X11_years : Cond := Cond.code yX11_years cX11_years 6 (Option.some FieldType.int)
theorem hd_X11_years : yX11_years.cls ≠ "java/lang/invoke/MethodHandle" ∧ yX11_years.cls ≠ "java/lang/invoke/VarHandle" ∧ (parseMethodDescriptor yX11_years.desc).map (fun d => d.parameters.length) = some 3 := by decide +kernel
theorem dX11_years_0 : decode cX11_years 0 = .ok (.aload_n 0, 1) := by decide +kernel
theorem dX11_years_1 : decode cX11_years 1 = .ok (.getfield 19, 3) := by decide +kernel
theorem dX11_years_4 : decode cX11_years 4 = .ok (.getfield 57, 3) := by decide +kernel
theorem dX11_years_7 : decode cX11_years 7 = .ok (.getfield 166, 3) := by decide +kernel
theorem dX11_years_10 : decode cX11_years 10 = .ok (.ifCond .eq 34, 3) := by decide +kernel
theorem dX11_years_13 : decode cX11_years 13 = .ok (.iload_n 1, 1) := by decide +kernel
theorem dX11_years_14 : decode cX11_years 14 = .ok (.iconst 1, 1) := by decide +kernel
theorem dX11_years_15 : decode cX11_years 15 = .ok (.if_icmp .lt 29, 3) := by decide +kernel
theorem dX11_years_18 : decode cX11_years 18 = .ok (.iload_n 1, 1) := by decide +kernel
theorem dX11_years_19 : decode cX11_years 19 = .ok (.bipush 10, 2) := by decide +kernel
theorem dX11_years_21 : decode cX11_years 21 = .ok (.if_icmp .gt 23, 3) := by decide +kernel
theorem dX11_years_24 : decode cX11_years 24 = .ok (.iload_n 2, 1) := by decide +kernel
theorem dX11_years_25 : decode cX11_years 25 = .ok (.iconst 1, 1) := by decide +kernel
theorem dX11_years_26 : decode cX11_years 26 = .ok (.if_icmp .lt 18, 3) := by decide +kernel
theorem dX11_years_29 : decode cX11_years 29 = .ok (.iload_n 2, 1) := by decide +kernel
theorem dX11_years_30 : decode cX11_years 30 = .ok (.bipush 60, 2) := by decide +kernel
theorem dX11_years_32 : decode cX11_years 32 = .ok (.if_icmp .gt 12, 3) := by decide +kernel
theorem dX11_years_35 : decode cX11_years 35 = .ok (.iload_n 3, 1) := by decide +kernel
theorem dX11_years_36 : decode cX11_years 36 = .ok (.ifCond .lt 8, 3) := by decide +kernel
theorem dX11_years_39 : decode cX11_years 39 = .ok (.iload_n 3, 1) := by decide +kernel
theorem dX11_years_40 : decode cX11_years 40 = .ok (.iconst 1, 1) := by decide +kernel
theorem dX11_years_41 : decode cX11_years 41 = .ok (.if_icmp .le 5, 3) := by decide +kernel
theorem dX11_years_44 : decode cX11_years 44 = .ok (.iconst (-1), 1) := by decide +kernel
theorem dX11_years_45 : decode cX11_years 45 = .ok (.ireturn, 1) := by decide +kernel
theorem dX11_years_46 : decode cX11_years 46 = .ok (.iconst 0, 1) := by decide +kernel
theorem dX11_years_47 : decode cX11_years 47 = .ok (.istore 4, 2) := by decide +kernel
theorem dX11_years_49 : decode cX11_years 49 = .ok (.aload_n 0, 1) := by decide +kernel
theorem dX11_years_50 : decode cX11_years 50 = .ok (.getfield 73, 3) := by decide +kernel
theorem dX11_years_53 : decode cX11_years 53 = .ok (.aload_n 0, 1) := by decide +kernel
theorem dX11_years_54 : decode cX11_years 54 = .ok (.getfield 19, 3) := by decide +kernel
theorem dX11_years_57 : decode cX11_years 57 = .ok (.getfield 393, 3) := by decide +kernel
theorem dX11_years_60 : decode cX11_years 60 = .ok (.putfield 396, 3) := by decide +kernel
theorem dX11_years_63 : decode cX11_years 63 = .ok (.iconst 0, 1) := by decide +kernel
theorem dX11_years_64 : decode cX11_years 64 = .ok (.istore 5, 2) := by decide +kernel
theorem dX11_years_66 : decode cX11_years 66 = .ok (.iload 5, 2) := by decide +kernel
theorem dX11_years_68 : decode cX11_years 68 = .ok (.iload_n 1, 1) := by decide +kernel
theorem dX11_years_69 : decode cX11_years 69 = .ok (.if_icmp .ge 71, 3) := by decide +kernel
theorem dX11_years_72 : decode cX11_years 72 = .ok (.aload_n 0, 1) := by decide +kernel
theorem dX11_years_73 : decode cX11_years 73 = .ok (.getfield 101, 3) := by decide +kernel
theorem dX11_years_76 : decode cX11_years 76 = .ok (.aload_n 0, 1) := by decide +kernel
theorem dX11_years_77 : decode cX11_years 77 = .ok (.getfield 19, 3) := by decide +kernel
theorem dX11_years_80 : decode cX11_years 80 = .ok (.getfield 133, 3) := by decide +kernel
theorem dX11_years_83 : decode cX11_years 83 = .ok (.invokevirtual 137, 3) := by decide +kernel
theorem dX11_years_86 : decode cX11_years 86 = .ok (.aload_n 0, 1) := by decide +kernel
theorem dX11_years_87 : decode cX11_years 87 = .ok (.getfield 73, 3) := by decide +kernel
theorem dX11_years_90 : decode cX11_years 90 = .ok (.aload_n 0, 1) := by decide +kernel
theorem dX11_years_91 : decode cX11_years 91 = .ok (.getfield 101, 3) := by decide +kernel
theorem dX11_years_94 : decode cX11_years 94 = .ok (.iload_n 2, 1) := by decide +kernel
theorem dX11_years_95 : decode cX11_years 95 = .ok (.invokevirtual 397, 3) := by decide +kernel
theorem dX11_years_98 : decode cX11_years 98 = .ok (.iload 4, 2) := by decide +kernel
theorem dX11_years_100 : decode cX11_years 100 = .ok (.iload_n 3, 1) := by decide +kernel
theorem dX11_years_101 : decode cX11_years 101 = .ok (.ifCond .ne 23, 3) := by decide +kernel
theorem dX11_years_104 : decode cX11_years 104 = .ok (.aload_n 0, 1) := by decide +kernel
theorem dX11_years_105 : decode cX11_years 105 = .ok (.getfield 101, 3) := by decide +kernel
theorem dX11_years_108 : decode cX11_years 108 = .ok (.aload_n 0, 1) := by decide +kernel
theorem dX11_years_109 : decode cX11_years 109 = .ok (.getfield 19, 3) := by decide +kernel
theorem dX11_years_112 : decode cX11_years 112 = .ok (.getfield 57, 3) := by decide +kernel
theorem dX11_years_115 : decode cX11_years 115 = .ok (.getfield 212, 3) := by decide +kernel
theorem dX11_years_118 : decode cX11_years 118 = .ok (.invokevirtual 400, 3) := by decide +kernel
theorem dX11_years_121 : decode cX11_years 121 = .ok (.goto 10, 3) := by decide +kernel
theorem dX11_years_124 : decode cX11_years 124 = .ok (.aload_n 0, 1) := by decide +kernel
theorem dX11_years_125 : decode cX11_years 125 = .ok (.getfield 101, 3) := by decide +kernel
theorem dX11_years_128 : decode cX11_years 128 = .ok (.invokevirtual 386, 3) := by decide +kernel
theorem dX11_years_131 : decode cX11_years 131 = .ok (.iadd, 1) := by decide +kernel
theorem dX11_years_132 : decode cX11_years 132 = .ok (.istore 4, 2) := by decide +kernel
theorem dX11_years_134 : decode cX11_years 134 = .ok (.iinc 5 1, 3) := by decide +kernel
theorem dX11_years_137 : decode cX11_years 137 = .ok (.goto (-71), 3) := by decide +kernel
theorem dX11_years_140 : decode cX11_years 140 = .ok (.iload 4, 2) := by decide +kernel
theorem dX11_years_142 : decode cX11_years 142 = .ok (.ireturn, 1) := by decide +kernel
def wp_X11_years_131 (S : Sh) (k66 : Int → Int → Int → Int → Int → Int → Mm → Prop) (post : Int → Mm → Prop) (u0 : Int) (u1 : Int) (u2 : Int) (u3 : Int) (u5 : Int) (t0 : Int) (t1 : Int) (M : Mm) : Prop := wA t0 t1 fun v1 => wA u5 1 fun v3 => k66 u0 u1 u2 u3 v1 v3 M
def wp_X11_years_66 (S : Sh) (post : Int → Mm → Prop) : Nat → Int → Int → Int → Int → Int → Int → Mm → Prop
  | 0, _, _, _, _, _, _, _ => False
  | n + 1, u0, u1, u2, u3, u4, u5, M => wIf (u1 ≤ u5) (post u4 M) (wGetR S M u0 11 15 fun v5 => wGetR S M u0 11 1 fun v7 => wGetR S M v7 4 1 fun v9 => isK S v5 5 ∧ (wp_X5_become S M v5 v9 <| fun M11 => wGetR S M11 u0 11 11 fun v12 => wGetR S M11 u0 11 15 fun v14 => isK S v12 1 ∧ (wp_X1_passByDraws S M11 v12 v14 u2 <| fun M16 => wIf (¬ u3 = 0) (wGetR S M16 u0 11 15 fun v17 => isK S v17 5 ∧ (wp_X5_turnedTogether S M16 v17 <| fun v20 M19 => wp_X11_years_131 S (fun a0 a1 a2 a3 a4 a5 M => wp_X11_years_66 S post n a0 a1 a2 a3 a4 a5 M) post u0 u1 u2 u3 u5 u4 v20 M19)) (wGetR S M16 u0 11 15 fun v22 => wGetR S M16 u0 11 1 fun v24 => wGetR S M16 v24 4 0 fun v26 => wGet S M16 v26 8 2 fun v28 => isK S v22 5 ∧ (wp_X5_howManySour S M16 v22 v28 <| fun v31 M30 => wp_X11_years_131 S (fun a0 a1 a2 a3 a4 a5 M => wp_X11_years_66 S post n a0 a1 a2 a3 a4 a5 M) post u0 u1 u2 u3 u5 u4 v31 M30)))))
def wp_X11_years (S : Sh) (M : Mm) (u0 : Int) (u1 : Int) (u2 : Int) (u3 : Int) (post : Int → Mm → Prop) : Prop := wGetR S M u0 11 1 fun v33 => wGetR S M v33 4 0 fun v35 => wGet S M v35 8 0 fun v37 => wIf (v37 = 0) (wC (-1) fun v39 => post v39 M) (wC 1 fun v41 => wIf (u1 < v41) (wC (-1) fun v43 => post v43 M) (wC 10 fun v45 => wIf (v45 < u1) (wC (-1) fun v47 => post v47 M) (wC 1 fun v49 => wIf (u2 < v49) (wC (-1) fun v51 => post v51 M) (wC 60 fun v53 => wIf (v53 < u2) (wC (-1) fun v55 => post v55 M) (wIf (u3 < 0) (wC (-1) fun v57 => post v57 M) (wC 1 fun v59 => wIf (u3 ≤ v59) (wC 0 fun v61 => wGetR S M u0 11 11 fun v63 => wGetR S M u0 11 1 fun v65 => wGet S M v65 4 3 fun v67 => wPut S M v63 1 2 v67 fun M69 => wC 0 fun v70 => ∃ n9 : Nat, wp_X11_years_66 S post n9 u0 u1 u2 u3 v61 v70 M69) (wC (-1) fun v72 => post v72 M)))))))
set_option maxHeartbeats 4000000 in
set_option maxRecDepth 100000 in
theorem t_X11_years_131 {p : Program} {l : Launch} {e : Env} {s : State} {m : MethodId} {args : Array Value} {below : List Frame} {meth : Method} {c : Code} {D : va_G} {G : Gt} {S : Sh} {post : Int → Mm → Prop} {k66 : Int → Int → Int → Int → Int → Int → Mm → Prop} (C : Cx p s m args meth c D G cX11_years 6 (some .int) (cw_X11_years :: gw) RX11) (hk66 : ∀ (y0 : Int) (y1 : Int32) (y2 : Int32) (y3 : Int32) (y4 : Int32) (y5 : Int32) (M : Mm) (H : Heap) (locs : List Loc) (ls : Array Slot), Wd D G S M H → va_S (aG G) s.heap H locs → lv_has ls 6 [(0, .ref (adr G y0)), (1, .int y1), (2, .int y2), (3, .int y3), (4, .int y4), (5, .int y5)] → k66 y0 y1.toInt y2.toInt y3.toInt y4.toInt y5.toInt M → W p l e RM_X11_years s m args below meth c H locs 0 0 (MQ below (QI D G S post) args s 0 0 (aG G)) (F0 m 66 ls [])) : ∀ (xl0 : Int) (zl1 : Int32) (zl2 : Int32) (zl3 : Int32) (zl5 : Int32) (zs0 : Int32) (zs1 : Int32) (M : Mm) (H : Heap) (locs : List Loc) (ls : Array Slot), Wd D G S M H → va_S (aG G) s.heap H locs → lv_has ls 6 [(0, .ref (adr G xl0)), (1, .int zl1), (2, .int zl2), (3, .int zl3), (5, .int zl5)] → wp_X11_years_131 S k66 post xl0 zl1.toInt zl2.toInt zl3.toInt zl5.toInt zs0.toInt zs1.toInt M → W p l e RM_X11_years s m args below meth c H locs 0 0 (MQ below (QI D G S post) args s 0 0 (aG G)) (F0 m 131 ls [.int zs1, .int zs0]) := by
  obtain ⟨hx, hb, hr, hlocks, hml, hown, hts, hK⟩ := id C
  intro xl0 zl1 zl2 zl3 zl5 zs0 zs1 M H locs ls hP hS hl h
  unfold wp_X11_years_131 at h
  refine r_iadd hx hb dX11_years_131 h (fun z2 h => ?_)
  refine lv_istore (lv' := [(4, .int z2), (0, .ref (adr G xl0)), (1, .int zl1), (2, .int zl2), (3, .int zl3), (5, .int zl5)]) hx hb dX11_years_132 hl (by decide) rfl (fun ls hl => ?_)
  refine r_iinc hx hb (fun z4 => [(5, .int z4), (4, .int z2), (0, .ref (adr G xl0)), (1, .int zl1), (2, .int zl2), (3, .int zl3)]) dX11_years_134 (by decide) hl (k := 5) rfl (by decide) (fun _ => rfl) h (fun z4 ls hl h => ?_)
  refine lv_goto (tgt := 66) hx hb dX11_years_137 (by decide) ?_
  exact hk66 xl0 zl1 zl2 zl3 z2 z4 _ _ _ _ hP hS (lv_sub hl [2, 3, 4, 5, 1, 0] rfl) h
set_option maxHeartbeats 4000000 in
set_option maxRecDepth 100000 in
theorem t_X11_years_66 {p : Program} {l : Launch} {e : Env} {s : State} {m : MethodId} {args : Array Value} {below : List Frame} {meth : Method} {c : Code} {D : va_G} {G : Gt} {S : Sh} {post : Int → Mm → Prop} (C : Cx p s m args meth c D G cX11_years 6 (some .int) (cw_X11_years :: gw) RX11) : ∀ (n : Nat) (xl0 : Int) (zl1 : Int32) (zl2 : Int32) (zl3 : Int32) (zl4 : Int32) (zl5 : Int32) (M : Mm) (H : Heap) (locs : List Loc) (ls : Array Slot), Wd D G S M H → va_S (aG G) s.heap H locs → lv_has ls 6 [(0, .ref (adr G xl0)), (1, .int zl1), (2, .int zl2), (3, .int zl3), (4, .int zl4), (5, .int zl5)] → wp_X11_years_66 S post n xl0 zl1.toInt zl2.toInt zl3.toInt zl4.toInt zl5.toInt  M → W p l e RM_X11_years s m args below meth c H locs 0 0 (MQ below (QI D G S post) args s 0 0 (aG G)) (F0 m 66 ls []) := by
  obtain ⟨hx, hb, hr, hlocks, hml, hown, hts, hK⟩ := id C
  intro n
  induction n with
  | zero => intro xl0 zl1 zl2 zl3 zl4 zl5 M H locs ls hP hS hl h; exact h.elim
  | succ n ih =>
    intro xl0 zl1 zl2 zl3 zl4 zl5 M H locs ls hP hS hl h
    unfold wp_X11_years_66 at h
    refine lv_iload hx hb dX11_years_66 (lv_at hl 5 rfl) ?_
    refine lv_iload_n hx hb dX11_years_68 rfl (lv_at hl 1 rfl) ?_
    refine r_icmp_ge (tgt := 140) hx hb dX11_years_69 (by decide) h (fun h => ?_) (fun h => ?_)
    · refine lv_iload hx hb dX11_years_140 (lv_at hl 4 rfl) ?_
      exact r_iret hx hb hr hlocks hP hS dX11_years_142 h
    · refine lv_aload_n hx hb dX11_years_72 rfl (lv_at hl 0 rfl) ?_
      refine r_getr (C := RX11) (T := TX11) (N := 16) hx hb hts (fun w h => List.mem_cons_of_mem _ (iX11 w h)) hown hK hP rfl (by decide) rfl 15 (by decide) (hts _ (List.mem_cons_of_mem _ kw_506)) (fun _ h9 => h9) dX11_years_73 (by decide) h (fun x6 h => ?_)
      refine lv_aload_n hx hb dX11_years_76 rfl (lv_at hl 0 rfl) ?_
      refine r_getr (C := RX11) (T := TX11) (N := 16) hx hb hts (fun w h => List.mem_cons_of_mem _ (iX11 w h)) hown hK hP rfl (by decide) rfl 1 (by decide) (hts _ (List.mem_cons_of_mem _ kw_492)) (fun _ h9 => h9) dX11_years_77 (by decide) h (fun x8 h => ?_)
      refine r_getrN (C := RX4) (T := TX4) (N := 10) hx hb hts (fun w h => List.mem_cons_of_mem _ (iX4 w h)) hown hK hP rfl (by decide) rfl 1 (by decide) (nw_73 hK) (fun _ h9 => h9) dX11_years_80 (by decide) h (fun x10 h => ?_)
      refine q_Vv hx hb hml hown hts hK hP hS (c_X5_become l D G S _ x6 x10 _ h.2) ⟨callB_of 1 hts (gw_good kw_735) rfl rfl rfl (hts _ (List.mem_cons_of_mem _ kw_5)) (hts _ (List.mem_cons_of_mem _ kw_732)) hd_X5_become ⟨Nat.le_of_ble_eq_true rfl, Nat.le_of_ble_eq_true rfl⟩, (hts _ (List.mem_cons_of_mem _ kw_733)), (hts _ (List.mem_cons_of_mem _ kw_734))⟩ h.1 (ci := 5) rfl (by decide) rfl hl.1 rfl (lv_room (Nat.le_of_ble_eq_true rfl)) dX11_years_83 ⟨Nat.zero_le _, Nat.zero_le _⟩ (fun M11 H locs h hP hS => ?_)
      refine lv_aload_n hx hb dX11_years_86 rfl (lv_at hl 0 rfl) ?_
      refine r_getr (C := RX11) (T := TX11) (N := 16) hx hb hts (fun w h => List.mem_cons_of_mem _ (iX11 w h)) hown hK hP rfl (by decide) rfl 11 (by decide) (hts _ (List.mem_cons_of_mem _ kw_502)) (fun _ h9 => h9) dX11_years_87 (by decide) h (fun x13 h => ?_)
      refine lv_aload_n hx hb dX11_years_90 rfl (lv_at hl 0 rfl) ?_
      refine r_getr (C := RX11) (T := TX11) (N := 16) hx hb hts (fun w h => List.mem_cons_of_mem _ (iX11 w h)) hown hK hP rfl (by decide) rfl 15 (by decide) (hts _ (List.mem_cons_of_mem _ kw_506)) (fun _ h9 => h9) dX11_years_91 (by decide) h (fun x15 h => ?_)
      refine lv_iload_n hx hb dX11_years_94 rfl (lv_at hl 2 rfl) ?_
      refine q_Vv hx hb hml hown hts hK hP hS (c_X1_passByDraws l D G S _ x13 x15 zl2 _ h.2) ⟨callB_of 2 hts (gw_good kw_1278) rfl rfl rfl (hts _ (List.mem_cons_of_mem _ kw_10)) (hts _ (List.mem_cons_of_mem _ kw_1275)) hd_X1_passByDraws ⟨Nat.le_of_ble_eq_true rfl, Nat.le_of_ble_eq_true rfl⟩, (hts _ (List.mem_cons_of_mem _ kw_1276)), (hts _ (List.mem_cons_of_mem _ kw_1277))⟩ h.1 (ci := 1) rfl (by decide) rfl hl.1 rfl (lv_room (Nat.le_of_ble_eq_true rfl)) dX11_years_95 ⟨Nat.zero_le _, Nat.zero_le _⟩ (fun M16 H locs h hP hS => ?_)
      refine lv_iload hx hb dX11_years_98 (lv_at hl 4 rfl) ?_
      refine lv_iload_n hx hb dX11_years_100 rfl (lv_at hl 3 rfl) ?_
      refine r_if_ne (tgt := 124) hx hb dX11_years_101 (by decide) h (fun h => ?_) (fun h => ?_)
      · refine lv_aload_n hx hb dX11_years_124 rfl (lv_at hl 0 rfl) ?_
        refine r_getr (C := RX11) (T := TX11) (N := 16) hx hb hts (fun w h => List.mem_cons_of_mem _ (iX11 w h)) hown hK hP rfl (by decide) rfl 15 (by decide) (hts _ (List.mem_cons_of_mem _ kw_506)) (fun _ h9 => h9) dX11_years_125 (by decide) h (fun x18 h => ?_)
        refine q_Vi hx hb hml hown hts hK hP hS (c_X5_turnedTogether l D G S _ x18 _ h.2) ⟨callB_of 0 hts (gw_good kw_1265) rfl rfl rfl (hts _ (List.mem_cons_of_mem _ kw_5)) (hts _ (List.mem_cons_of_mem _ kw_1262)) hd_X5_turnedTogether ⟨Nat.le_of_ble_eq_true rfl, Nat.le_of_ble_eq_true rfl⟩, (hts _ (List.mem_cons_of_mem _ kw_1263)), (hts _ (List.mem_cons_of_mem _ kw_1264))⟩ h.1 (ci := 5) rfl (by decide) rfl hl.1 rfl (lv_room (Nat.le_of_ble_eq_true rfl)) dX11_years_128 ⟨Nat.zero_le _, Nat.zero_le _⟩ (fun z21 M19 H locs h hP hS => ?_)
        exact t_X11_years_131 C ih xl0 zl1 zl2 zl3 zl5 zl4 z21 _ _ _ _ hP hS (lv_sub hl [0, 1, 2, 3, 5] rfl) h
      · refine lv_aload_n hx hb dX11_years_104 rfl (lv_at hl 0 rfl) ?_
        refine r_getr (C := RX11) (T := TX11) (N := 16) hx hb hts (fun w h => List.mem_cons_of_mem _ (iX11 w h)) hown hK hP rfl (by decide) rfl 15 (by decide) (hts _ (List.mem_cons_of_mem _ kw_506)) (fun _ h9 => h9) dX11_years_105 (by decide) h (fun x23 h => ?_)
        refine lv_aload_n hx hb dX11_years_108 rfl (lv_at hl 0 rfl) ?_
        refine r_getr (C := RX11) (T := TX11) (N := 16) hx hb hts (fun w h => List.mem_cons_of_mem _ (iX11 w h)) hown hK hP rfl (by decide) rfl 1 (by decide) (hts _ (List.mem_cons_of_mem _ kw_492)) (fun _ h9 => h9) dX11_years_109 (by decide) h (fun x25 h => ?_)
        refine r_getrN (C := RX4) (T := TX4) (N := 10) hx hb hts (fun w h => List.mem_cons_of_mem _ (iX4 w h)) hown hK hP rfl (by decide) rfl 0 (by decide) (nw_70 hK) (fun _ h9 => h9) dX11_years_112 (by decide) h (fun x27 h => ?_)
        refine r_getiN (C := RX8) (T := TX8) (N := 19) hx hb hts (fun w h => List.mem_cons_of_mem _ (iX8 w h)) hown hK hP rfl (by decide) rfl 2 (by decide) (nw_10 hK) (fun _ h9 => h9) dX11_years_115 (by decide) h (fun z29 h => ?_)
        refine q_Vi hx hb hml hown hts hK hP hS (c_X5_howManySour l D G S _ x23 z29 _ h.2) ⟨callB_of 1 hts (gw_good kw_1303) rfl rfl rfl (hts _ (List.mem_cons_of_mem _ kw_5)) (hts _ (List.mem_cons_of_mem _ kw_1300)) hd_X5_howManySour ⟨Nat.le_of_ble_eq_true rfl, Nat.le_of_ble_eq_true rfl⟩, (hts _ (List.mem_cons_of_mem _ kw_1301)), (hts _ (List.mem_cons_of_mem _ kw_1302))⟩ h.1 (ci := 5) rfl (by decide) rfl hl.1 rfl (lv_room (Nat.le_of_ble_eq_true rfl)) dX11_years_118 ⟨Nat.zero_le _, Nat.zero_le _⟩ (fun z32 M30 H locs h hP hS => ?_)
        refine lv_goto (tgt := 131) hx hb dX11_years_121 (by decide) ?_
        exact t_X11_years_131 C ih xl0 zl1 zl2 zl3 zl5 zl4 z32 _ _ _ _ hP hS (lv_sub hl [0, 1, 2, 3, 5] rfl) h
set_option maxHeartbeats 4000000 in
set_option maxRecDepth 100000 in
theorem c_X11_years (l : Launch) (D : va_G) (G : Gt) (S : Sh) (M : Mm) (xl0 : Int) (zl1 : Int32) (zl2 : Int32) (zl3 : Int32) (post : Int → Mm → Prop) (h : wp_X11_years S M xl0 zl1.toInt zl2.toInt zl3.toInt post) : Met l yX11_years (cw_X11_years :: gw) RM_X11_years (va_Pc [.ref (adr G xl0), .int zl1, .int zl2, .int zl3] (fun U => KN D G U ∧ Wd D G S M U.heap)) (QI D G S post) 0 0 (aG G) := by
  refine Met.ofW (cc := cX11_years) (maxL := 6) (ret := (some .int)) (by decide) rfl ?_
  intro p e s m args below meth c s₁ B hml hv
  obtain ⟨rfl, hK, hP⟩ := hv
  have hx := B.exec
  have hb := B.bytes
  have hr := B.returns
  have hts := atoms_spec (ws := cw_X11_years :: gw) B.pre
  have hown : s.vm.findClass RX11 = some m.cls := findClass_of_methodNamed B.named
  have hlocks := B.notSynchronized
  have hS : va_S (aG G) s.heap s.heap [] := va_S.rf
  have C : Cx p s m ([.ref (adr G xl0), .int zl1, .int zl2, .int zl3] : List Value).toArray meth c D G cX11_years 6 (some .int) (cw_X11_years :: gw) RX11 := ⟨hx, hb, hr, hlocks, hml, hown, hts, hK⟩
  have hl := lv_entry ([.ref (adr G xl0), .int zl1, .int zl2, .int zl3]) (n := 6) (Nat.le_of_ble_eq_true rfl)
  rw [lg_entry_eq]
  generalize (lg_sl ([.ref (adr G xl0), .int zl1, .int zl2, .int zl3]) ++ List.replicate (6 - (lg_sl ([.ref (adr G xl0), .int zl1, .int zl2, .int zl3])).length) Slot.unset).toArray = ls at hl ⊢
  have hl : lv_has ls 6 [(0, .ref (adr G xl0)), (1, .int zl1), (2, .int zl2), (3, .int zl3)] := hl
  unfold wp_X11_years at h
  refine lv_aload_n hx hb dX11_years_0 rfl (lv_at hl 0 rfl) ?_
  refine r_getr (C := RX11) (T := TX11) (N := 16) hx hb hts (fun w h => List.mem_cons_of_mem _ (iX11 w h)) hown hK hP rfl (by decide) rfl 1 (by decide) (hts _ (List.mem_cons_of_mem _ kw_492)) (fun _ h9 => h9) dX11_years_1 (by decide) h (fun x34 h => ?_)
  refine r_getrN (C := RX4) (T := TX4) (N := 10) hx hb hts (fun w h => List.mem_cons_of_mem _ (iX4 w h)) hown hK hP rfl (by decide) rfl 0 (by decide) (nw_70 hK) (fun _ h9 => h9) dX11_years_4 (by decide) h (fun x36 h => ?_)
  refine r_getiN (C := RX8) (T := TX8) (N := 19) hx hb hts (fun w h => List.mem_cons_of_mem _ (iX8 w h)) hown hK hP rfl (by decide) rfl 0 (by decide) (nw_4 hK) (fun _ h9 => h9) dX11_years_7 (by decide) h (fun z38 h => ?_)
  refine r_if_eq (tgt := 44) hx hb dX11_years_10 (by decide) h (fun h => ?_) (fun h => ?_)
  · refine r_iconst hx hb dX11_years_44 (by decide) h (fun z40 h => ?_)
    exact r_iret hx hb hr hlocks hP hS dX11_years_45 h
  · refine lv_iload_n hx hb dX11_years_13 rfl (lv_at hl 1 rfl) ?_
    refine r_iconst hx hb dX11_years_14 (by decide) h (fun z42 h => ?_)
    refine r_icmp_lt (tgt := 44) hx hb dX11_years_15 (by decide) h (fun h => ?_) (fun h => ?_)
    · refine r_iconst hx hb dX11_years_44 (by decide) h (fun z44 h => ?_)
      exact r_iret hx hb hr hlocks hP hS dX11_years_45 h
    · refine lv_iload_n hx hb dX11_years_18 rfl (lv_at hl 1 rfl) ?_
      refine r_bipush hx hb dX11_years_19 (by decide) h (fun z46 h => ?_)
      refine r_icmp_gt (tgt := 44) hx hb dX11_years_21 (by decide) h (fun h => ?_) (fun h => ?_)
      · refine r_iconst hx hb dX11_years_44 (by decide) h (fun z48 h => ?_)
        exact r_iret hx hb hr hlocks hP hS dX11_years_45 h
      · refine lv_iload_n hx hb dX11_years_24 rfl (lv_at hl 2 rfl) ?_
        refine r_iconst hx hb dX11_years_25 (by decide) h (fun z50 h => ?_)
        refine r_icmp_lt (tgt := 44) hx hb dX11_years_26 (by decide) h (fun h => ?_) (fun h => ?_)
        · refine r_iconst hx hb dX11_years_44 (by decide) h (fun z52 h => ?_)
          exact r_iret hx hb hr hlocks hP hS dX11_years_45 h
        · refine lv_iload_n hx hb dX11_years_29 rfl (lv_at hl 2 rfl) ?_
          refine r_bipush hx hb dX11_years_30 (by decide) h (fun z54 h => ?_)
          refine r_icmp_gt (tgt := 44) hx hb dX11_years_32 (by decide) h (fun h => ?_) (fun h => ?_)
          · refine r_iconst hx hb dX11_years_44 (by decide) h (fun z56 h => ?_)
            exact r_iret hx hb hr hlocks hP hS dX11_years_45 h
          · refine lv_iload_n hx hb dX11_years_35 rfl (lv_at hl 3 rfl) ?_
            refine r_if_lt (tgt := 44) hx hb dX11_years_36 (by decide) h (fun h => ?_) (fun h => ?_)
            · refine r_iconst hx hb dX11_years_44 (by decide) h (fun z58 h => ?_)
              exact r_iret hx hb hr hlocks hP hS dX11_years_45 h
            · refine lv_iload_n hx hb dX11_years_39 rfl (lv_at hl 3 rfl) ?_
              refine r_iconst hx hb dX11_years_40 (by decide) h (fun z60 h => ?_)
              refine r_icmp_le (tgt := 46) hx hb dX11_years_41 (by decide) h (fun h => ?_) (fun h => ?_)
              · refine r_iconst hx hb dX11_years_46 (by decide) h (fun z62 h => ?_)
                refine lv_istore (lv' := [(4, .int z62), (0, .ref (adr G xl0)), (1, .int zl1), (2, .int zl2), (3, .int zl3)]) hx hb dX11_years_47 hl (by decide) rfl (fun ls hl => ?_)
                refine lv_aload_n hx hb dX11_years_49 rfl (lv_at hl 1 rfl) ?_
                refine r_getr (C := RX11) (T := TX11) (N := 16) hx hb hts (fun w h => List.mem_cons_of_mem _ (iX11 w h)) hown hK hP rfl (by decide) rfl 11 (by decide) (hts _ (List.mem_cons_of_mem _ kw_502)) (fun _ h9 => h9) dX11_years_50 (by decide) h (fun x64 h => ?_)
                refine lv_aload_n hx hb dX11_years_53 rfl (lv_at hl 1 rfl) ?_
                refine r_getr (C := RX11) (T := TX11) (N := 16) hx hb hts (fun w h => List.mem_cons_of_mem _ (iX11 w h)) hown hK hP rfl (by decide) rfl 1 (by decide) (hts _ (List.mem_cons_of_mem _ kw_492)) (fun _ h9 => h9) dX11_years_54 (by decide) h (fun x66 h => ?_)
                refine r_getiN (C := RX4) (T := TX4) (N := 10) hx hb hts (fun w h => List.mem_cons_of_mem _ (iX4 w h)) hown hK hP rfl (by decide) rfl 3 (by decide) (nw_75 hK) (fun _ h9 => h9) dX11_years_57 (by decide) h (fun z68 h => ?_)
                refine r_putiN (C := RX1) (T := TX1) (N := 3) hx hb hts (fun w h => List.mem_cons_of_mem _ (iX1 w h)) hown hK hP tyX1 tyX1_ok nmX1 hS rfl (by decide) rfl 2 (by decide) (nw_97 hK) (fun _ h9 => h9) rfl (tyX1_ok 2 (by decide)) rfl rfl dX11_years_60 (by decide) h (fun M69 H locs h hP hS => ?_)
                refine r_iconst hx hb dX11_years_63 (by decide) h (fun z71 h => ?_)
                refine lv_istore (lv' := [(5, .int z71), (4, .int z62), (0, .ref (adr G xl0)), (1, .int zl1), (2, .int zl2), (3, .int zl3)]) hx hb dX11_years_64 hl (by decide) rfl (fun ls hl => ?_)
                obtain ⟨n9, h⟩ := h
                exact t_X11_years_66 C n9 xl0 zl1 zl2 zl3 z62 z71 _ _ _ _ hP hS (lv_sub hl [2, 3, 4, 5, 1, 0] rfl) h
              · refine r_iconst hx hb dX11_years_44 (by decide) h (fun z73 h => ?_)
                exact r_iret hx hb hr hlocks hP hS dX11_years_45 h
/-! TurningMilk$Told.howMany(I)I -/
abbrev RM_X8_howMany : Room := { frames := 1, cells := 0, slots := 0, locals := 40 }
def cw_X8_howMany : Cond := Cond.code yX8_howMany cX8_howMany 2 (Option.some FieldType.int)
theorem hd_X8_howMany : yX8_howMany.cls ≠ "java/lang/invoke/MethodHandle" ∧ yX8_howMany.cls ≠ "java/lang/invoke/VarHandle" ∧ (parseMethodDescriptor yX8_howMany.desc).map (fun d => d.parameters.length) = some 1 := by decide +kernel
theorem dX8_howMany_0 : decode cX8_howMany 0 = .ok (.iload_n 1, 1) := by decide +kernel
theorem dX8_howMany_1 : decode cX8_howMany 1 = .ok (.tableswitch 69 0 5 #[39, 44, 49, 54, 59, 64], 39) := by decide +kernel
theorem dX8_howMany_40 : decode cX8_howMany 40 = .ok (.aload_n 0, 1) := by decide +kernel
theorem dX8_howMany_41 : decode cX8_howMany 41 = .ok (.getfield 45, 3) := by decide +kernel
theorem dX8_howMany_44 : decode cX8_howMany 44 = .ok (.ireturn, 1) := by decide +kernel
theorem dX8_howMany_45 : decode cX8_howMany 45 = .ok (.aload_n 0, 1) := by decide +kernel
theorem dX8_howMany_46 : decode cX8_howMany 46 = .ok (.getfield 49, 3) := by decide +kernel
theorem dX8_howMany_49 : decode cX8_howMany 49 = .ok (.ireturn, 1) := by decide +kernel
theorem dX8_howMany_50 : decode cX8_howMany 50 = .ok (.aload_n 0, 1) := by decide +kernel
theorem dX8_howMany_51 : decode cX8_howMany 51 = .ok (.getfield 52, 3) := by decide +kernel
theorem dX8_howMany_54 : decode cX8_howMany 54 = .ok (.ireturn, 1) := by decide +kernel
theorem dX8_howMany_55 : decode cX8_howMany 55 = .ok (.aload_n 0, 1) := by decide +kernel
theorem dX8_howMany_56 : decode cX8_howMany 56 = .ok (.getfield 55, 3) := by decide +kernel
theorem dX8_howMany_59 : decode cX8_howMany 59 = .ok (.ireturn, 1) := by decide +kernel
theorem dX8_howMany_60 : decode cX8_howMany 60 = .ok (.aload_n 0, 1) := by decide +kernel
theorem dX8_howMany_61 : decode cX8_howMany 61 = .ok (.getfield 58, 3) := by decide +kernel
theorem dX8_howMany_64 : decode cX8_howMany 64 = .ok (.ireturn, 1) := by decide +kernel
theorem dX8_howMany_65 : decode cX8_howMany 65 = .ok (.aload_n 0, 1) := by decide +kernel
theorem dX8_howMany_66 : decode cX8_howMany 66 = .ok (.getfield 61, 3) := by decide +kernel
theorem dX8_howMany_69 : decode cX8_howMany 69 = .ok (.ireturn, 1) := by decide +kernel
theorem dX8_howMany_70 : decode cX8_howMany 70 = .ok (.aload_n 0, 1) := by decide +kernel
theorem dX8_howMany_71 : decode cX8_howMany 71 = .ok (.getfield 67, 3) := by decide +kernel
theorem dX8_howMany_74 : decode cX8_howMany 74 = .ok (.ireturn, 1) := by decide +kernel
def wp_X8_howMany (S : Sh) (M : Mm) (u0 : Int) (u1 : Int) (post : Int → Mm → Prop) : Prop := wIf (u1 = 0) (wGet S M u0 8 0 fun v1 => post v1 M) (wIf (u1 = 1) (wGet S M u0 8 1 fun v3 => post v3 M) (wIf (u1 = 2) (wGet S M u0 8 2 fun v5 => post v5 M) (wIf (u1 = 3) (wGet S M u0 8 3 fun v7 => post v7 M) (wIf (u1 = 4) (wGet S M u0 8 4 fun v9 => post v9 M) (wIf (u1 = 5) (wGet S M u0 8 5 fun v11 => post v11 M) (wGet S M u0 8 7 fun v13 => post v13 M))))))
set_option maxHeartbeats 4000000 in
set_option maxRecDepth 100000 in
theorem c_X8_howMany (l : Launch) (D : va_G) (G : Gt) (S : Sh) (M : Mm) (xl0 : Int) (zl1 : Int32) (post : Int → Mm → Prop) (h : wp_X8_howMany S M xl0 zl1.toInt post) : Met l yX8_howMany (cw_X8_howMany :: gw) RM_X8_howMany (va_Pc [.ref (adr G xl0), .int zl1] (fun U => KN D G U ∧ Wd D G S M U.heap)) (QI D G S post) 0 0 (aG G) := by
  refine Met.ofW (cc := cX8_howMany) (maxL := 2) (ret := (some .int)) (by decide) rfl ?_
  intro p e s m args below meth c s₁ B hml hv
  obtain ⟨rfl, hK, hP⟩ := hv
  have hx := B.exec
  have hb := B.bytes
  have hr := B.returns
  have hts := atoms_spec (ws := cw_X8_howMany :: gw) B.pre
  have hown : s.vm.findClass RX8 = some m.cls := findClass_of_methodNamed B.named
  have hlocks := B.notSynchronized
  have hS : va_S (aG G) s.heap s.heap [] := va_S.rf
  have C : Cx p s m ([.ref (adr G xl0), .int zl1] : List Value).toArray meth c D G cX8_howMany 2 (some .int) (cw_X8_howMany :: gw) RX8 := ⟨hx, hb, hr, hlocks, hml, hown, hts, hK⟩
  have hl := lv_entry ([.ref (adr G xl0), .int zl1]) (n := 2) (Nat.le_of_ble_eq_true rfl)
  rw [lg_entry_eq]
  generalize (lg_sl ([.ref (adr G xl0), .int zl1]) ++ List.replicate (2 - (lg_sl ([.ref (adr G xl0), .int zl1])).length) Slot.unset).toArray = ls at hl ⊢
  have hl : lv_has ls 2 [(0, .ref (adr G xl0)), (1, .int zl1)] := hl
  unfold wp_X8_howMany at h
  refine lv_iload_n hx hb dX8_howMany_0 rfl (lv_at hl 1 rfl) ?_
  refine sw (c := zl1.toInt = 0) h (fun e0 h => ?_) (fun e0 h => ?_)
  · refine lv_tableIn (tgt := 40) hx hb dX8_howMany_1 (by omega) (by omega) (by rw [e0]; rfl) (by decide) ?_
    refine lv_aload_n hx hb dX8_howMany_40 rfl (lv_at hl 0 rfl) ?_
    refine r_geti (C := RX8) (T := TX8) (N := 19) hx hb hts (fun w h => List.mem_cons_of_mem _ (iX8 w h)) hown hK hP rfl (by decide) rfl 0 (by decide) (hts _ (List.mem_cons_of_mem _ kw_67)) (fun _ h9 => h9) dX8_howMany_41 (by decide) h (fun z2 h => ?_)
    exact r_iret hx hb hr hlocks hP hS dX8_howMany_44 h
  · refine sw (c := zl1.toInt = 1) h (fun e1 h => ?_) (fun e1 h => ?_)
    · refine lv_tableIn (tgt := 45) hx hb dX8_howMany_1 (by omega) (by omega) (by rw [e1]; rfl) (by decide) ?_
      refine lv_aload_n hx hb dX8_howMany_45 rfl (lv_at hl 0 rfl) ?_
      refine r_geti (C := RX8) (T := TX8) (N := 19) hx hb hts (fun w h => List.mem_cons_of_mem _ (iX8 w h)) hown hK hP rfl (by decide) rfl 1 (by decide) (hts _ (List.mem_cons_of_mem _ kw_71)) (fun _ h9 => h9) dX8_howMany_46 (by decide) h (fun z4 h => ?_)
      exact r_iret hx hb hr hlocks hP hS dX8_howMany_49 h
    · refine sw (c := zl1.toInt = 2) h (fun e2 h => ?_) (fun e2 h => ?_)
      · refine lv_tableIn (tgt := 50) hx hb dX8_howMany_1 (by omega) (by omega) (by rw [e2]; rfl) (by decide) ?_
        refine lv_aload_n hx hb dX8_howMany_50 rfl (lv_at hl 0 rfl) ?_
        refine r_geti (C := RX8) (T := TX8) (N := 19) hx hb hts (fun w h => List.mem_cons_of_mem _ (iX8 w h)) hown hK hP rfl (by decide) rfl 2 (by decide) (hts _ (List.mem_cons_of_mem _ kw_74)) (fun _ h9 => h9) dX8_howMany_51 (by decide) h (fun z6 h => ?_)
        exact r_iret hx hb hr hlocks hP hS dX8_howMany_54 h
      · refine sw (c := zl1.toInt = 3) h (fun e3 h => ?_) (fun e3 h => ?_)
        · refine lv_tableIn (tgt := 55) hx hb dX8_howMany_1 (by omega) (by omega) (by rw [e3]; rfl) (by decide) ?_
          refine lv_aload_n hx hb dX8_howMany_55 rfl (lv_at hl 0 rfl) ?_
          refine r_geti (C := RX8) (T := TX8) (N := 19) hx hb hts (fun w h => List.mem_cons_of_mem _ (iX8 w h)) hown hK hP rfl (by decide) rfl 3 (by decide) (hts _ (List.mem_cons_of_mem _ kw_79)) (fun _ h9 => h9) dX8_howMany_56 (by decide) h (fun z8 h => ?_)
          exact r_iret hx hb hr hlocks hP hS dX8_howMany_59 h
        · refine sw (c := zl1.toInt = 4) h (fun e4 h => ?_) (fun e4 h => ?_)
          · refine lv_tableIn (tgt := 60) hx hb dX8_howMany_1 (by omega) (by omega) (by rw [e4]; rfl) (by decide) ?_
            refine lv_aload_n hx hb dX8_howMany_60 rfl (lv_at hl 0 rfl) ?_
            refine r_geti (C := RX8) (T := TX8) (N := 19) hx hb hts (fun w h => List.mem_cons_of_mem _ (iX8 w h)) hown hK hP rfl (by decide) rfl 4 (by decide) (hts _ (List.mem_cons_of_mem _ kw_81)) (fun _ h9 => h9) dX8_howMany_61 (by decide) h (fun z10 h => ?_)
            exact r_iret hx hb hr hlocks hP hS dX8_howMany_64 h
          · refine sw (c := zl1.toInt = 5) h (fun e5 h => ?_) (fun e5 h => ?_)
            · refine lv_tableIn (tgt := 65) hx hb dX8_howMany_1 (by omega) (by omega) (by rw [e5]; rfl) (by decide) ?_
              refine lv_aload_n hx hb dX8_howMany_65 rfl (lv_at hl 0 rfl) ?_
              refine r_geti (C := RX8) (T := TX8) (N := 19) hx hb hts (fun w h => List.mem_cons_of_mem _ (iX8 w h)) hown hK hP rfl (by decide) rfl 5 (by decide) (hts _ (List.mem_cons_of_mem _ kw_89)) (fun _ h9 => h9) dX8_howMany_66 (by decide) h (fun z12 h => ?_)
              exact r_iret hx hb hr hlocks hP hS dX8_howMany_69 h
            · refine lv_tableOut (tgt := 70) hx hb dX8_howMany_1 (by omega) (by decide) ?_
              refine lv_aload_n hx hb dX8_howMany_70 rfl (lv_at hl 0 rfl) ?_
              refine r_geti (C := RX8) (T := TX8) (N := 19) hx hb hts (fun w h => List.mem_cons_of_mem _ (iX8 w h)) hown hK hP rfl (by decide) rfl 7 (by decide) (hts _ (List.mem_cons_of_mem _ kw_96)) (fun _ h9 => h9) dX8_howMany_71 (by decide) h (fun z14 h => ?_)
              exact r_iret hx hb hr hlocks hP hS dX8_howMany_74 h
/-! TurningMilk.count(I)I -/
abbrev RM_X11_count : Room := { frames := 2, cells := 0, slots := 0, locals := 63 }
def cw_X11_count : Cond := Cond.code yX11_count cX11_count 2 (Option.some FieldType.int)
theorem hd_X11_count : yX11_count.cls ≠ "java/lang/invoke/MethodHandle" ∧ yX11_count.cls ≠ "java/lang/invoke/VarHandle" ∧ (parseMethodDescriptor yX11_count.desc).map (fun d => d.parameters.length) = some 1 := by decide +kernel
theorem dX11_count_0 : decode cX11_count 0 = .ok (.iload_n 1, 1) := by decide +kernel
theorem dX11_count_1 : decode cX11_count 1 = .ok (.ifCond .lt 21, 3) := by decide +kernel
theorem dX11_count_4 : decode cX11_count 4 = .ok (.iload_n 1, 1) := by decide +kernel
theorem dX11_count_5 : decode cX11_count 5 = .ok (.bipush 6, 2) := by decide +kernel
theorem dX11_count_7 : decode cX11_count 7 = .ok (.if_icmp .gt 15, 3) := by decide +kernel
theorem dX11_count_10 : decode cX11_count 10 = .ok (.aload_n 0, 1) := by decide +kernel
theorem dX11_count_11 : decode cX11_count 11 = .ok (.getfield 19, 3) := by decide +kernel
theorem dX11_count_14 : decode cX11_count 14 = .ok (.getfield 57, 3) := by decide +kernel
theorem dX11_count_17 : decode cX11_count 17 = .ok (.iload_n 1, 1) := by decide +kernel
theorem dX11_count_18 : decode cX11_count 18 = .ok (.invokevirtual 403, 3) := by decide +kernel
theorem dX11_count_21 : decode cX11_count 21 = .ok (.ireturn, 1) := by decide +kernel
theorem dX11_count_22 : decode cX11_count 22 = .ok (.iload_n 1, 1) := by decide +kernel
theorem dX11_count_23 : decode cX11_count 23 = .ok (.tableswitch 134 7 15 #[49, 54, 62, 73, 94, 105, 113, 118, 126], 49) := by decide +kernel
theorem dX11_count_72 : decode cX11_count 72 = .ok (.aload_n 0, 1) := by decide +kernel
theorem dX11_count_73 : decode cX11_count 73 = .ok (.getfield 149, 3) := by decide +kernel
theorem dX11_count_76 : decode cX11_count 76 = .ok (.ireturn, 1) := by decide +kernel
theorem dX11_count_77 : decode cX11_count 77 = .ok (.aload_n 0, 1) := by decide +kernel
theorem dX11_count_78 : decode cX11_count 78 = .ok (.getfield 19, 3) := by decide +kernel
theorem dX11_count_81 : decode cX11_count 81 = .ok (.getfield 157, 3) := by decide +kernel
theorem dX11_count_84 : decode cX11_count 84 = .ok (.ireturn, 1) := by decide +kernel
theorem dX11_count_85 : decode cX11_count 85 = .ok (.aload_n 0, 1) := by decide +kernel
theorem dX11_count_86 : decode cX11_count 86 = .ok (.getfield 19, 3) := by decide +kernel
theorem dX11_count_89 : decode cX11_count 89 = .ok (.getfield 133, 3) := by decide +kernel
theorem dX11_count_92 : decode cX11_count 92 = .ok (.getfield 252, 3) := by decide +kernel
theorem dX11_count_95 : decode cX11_count 95 = .ok (.ireturn, 1) := by decide +kernel
theorem dX11_count_96 : decode cX11_count 96 = .ok (.aload_n 0, 1) := by decide +kernel
theorem dX11_count_97 : decode cX11_count 97 = .ok (.getfield 19, 3) := by decide +kernel
theorem dX11_count_100 : decode cX11_count 100 = .ok (.getfield 57, 3) := by decide +kernel
theorem dX11_count_103 : decode cX11_count 103 = .ok (.aload_n 0, 1) := by decide +kernel
theorem dX11_count_104 : decode cX11_count 104 = .ok (.getfield 19, 3) := by decide +kernel
theorem dX11_count_107 : decode cX11_count 107 = .ok (.getfield 133, 3) := by decide +kernel
theorem dX11_count_110 : decode cX11_count 110 = .ok (.getfield 252, 3) := by decide +kernel
theorem dX11_count_113 : decode cX11_count 113 = .ok (.invokevirtual 405, 3) := by decide +kernel
theorem dX11_count_116 : decode cX11_count 116 = .ok (.ireturn, 1) := by decide +kernel
theorem dX11_count_117 : decode cX11_count 117 = .ok (.aload_n 0, 1) := by decide +kernel
theorem dX11_count_118 : decode cX11_count 118 = .ok (.getfield 19, 3) := by decide +kernel
theorem dX11_count_121 : decode cX11_count 121 = .ok (.getfield 133, 3) := by decide +kernel
theorem dX11_count_124 : decode cX11_count 124 = .ok (.getfield 286, 3) := by decide +kernel
theorem dX11_count_127 : decode cX11_count 127 = .ok (.ireturn, 1) := by decide +kernel
theorem dX11_count_128 : decode cX11_count 128 = .ok (.aload_n 0, 1) := by decide +kernel
theorem dX11_count_129 : decode cX11_count 129 = .ok (.getfield 19, 3) := by decide +kernel
theorem dX11_count_132 : decode cX11_count 132 = .ok (.getfield 140, 3) := by decide +kernel
theorem dX11_count_135 : decode cX11_count 135 = .ok (.ireturn, 1) := by decide +kernel
theorem dX11_count_136 : decode cX11_count 136 = .ok (.aload_n 0, 1) := by decide +kernel
theorem dX11_count_137 : decode cX11_count 137 = .ok (.getfield 143, 3) := by decide +kernel
theorem dX11_count_140 : decode cX11_count 140 = .ok (.ireturn, 1) := by decide +kernel
theorem dX11_count_141 : decode cX11_count 141 = .ok (.aload_n 0, 1) := by decide +kernel
theorem dX11_count_142 : decode cX11_count 142 = .ok (.getfield 19, 3) := by decide +kernel
theorem dX11_count_145 : decode cX11_count 145 = .ok (.getfield 393, 3) := by decide +kernel
theorem dX11_count_148 : decode cX11_count 148 = .ok (.ireturn, 1) := by decide +kernel
theorem dX11_count_149 : decode cX11_count 149 = .ok (.aload_n 0, 1) := by decide +kernel
theorem dX11_count_150 : decode cX11_count 150 = .ok (.getfield 10, 3) := by decide +kernel
theorem dX11_count_153 : decode cX11_count 153 = .ok (.getfield 116, 3) := by decide +kernel
theorem dX11_count_156 : decode cX11_count 156 = .ok (.ireturn, 1) := by decide +kernel
theorem dX11_count_157 : decode cX11_count 157 = .ok (.iconst (-1), 1) := by decide +kernel
theorem dX11_count_158 : decode cX11_count 158 = .ok (.ireturn, 1) := by decide +kernel
def wp_X11_count_22 (S : Sh) (post : Int → Mm → Prop) (u0 : Int) (u1 : Int) (M : Mm) : Prop := wIf (u1 = 7) (wGet S M u0 11 7 fun v1 => post v1 M) (wIf (u1 = 8) (wGetR S M u0 11 1 fun v3 => wGet S M v3 4 2 fun v5 => post v5 M) (wIf (u1 = 9) (wGetR S M u0 11 1 fun v7 => wGetR S M v7 4 1 fun v9 => wGet S M v9 5 0 fun v11 => post v11 M) (wIf (u1 = 10) (wGetR S M u0 11 1 fun v13 => wGetR S M v13 4 0 fun v15 => wGetR S M u0 11 1 fun v17 => wGetR S M v17 4 1 fun v19 => wGet S M v19 5 0 fun v21 => isK S v15 8 ∧ (wp_X8_heatIn S M v15 v21 <| fun v24 M23 => post v24 M23)) (wIf (u1 = 11) (wGetR S M u0 11 1 fun v26 => wGetR S M v26 4 1 fun v28 => wGet S M v28 5 1 fun v30 => post v30 M) (wIf (u1 = 12) (wGetR S M u0 11 1 fun v32 => wGet S M v32 4 4 fun v34 => post v34 M) (wIf (u1 = 13) (wGet S M u0 11 5 fun v36 => post v36 M) (wIf (u1 = 14) (wGetR S M u0 11 1 fun v38 => wGet S M v38 4 3 fun v40 => post v40 M) (wIf (u1 = 15) (wGetR S M u0 11 0 fun v42 => wGet S M v42 7 1 fun v44 => post v44 M) (wC (-1) fun v46 => post v46 M)))))))))
def wp_X11_count (S : Sh) (M : Mm) (u0 : Int) (u1 : Int) (post : Int → Mm → Prop) : Prop := wIf (u1 < 0) (wp_X11_count_22 S post u0 u1 M) (wC 6 fun v48 => wIf (v48 < u1) (wp_X11_count_22 S post u0 u1 M) (wGetR S M u0 11 1 fun v50 => wGetR S M v50 4 0 fun v52 => isK S v52 8 ∧ (wp_X8_howMany S M v52 u1 <| fun v55 M54 => post v55 M54)))
set_option maxHeartbeats 4000000 in
set_option maxRecDepth 100000 in
theorem t_X11_count_22 {p : Program} {l : Launch} {e : Env} {s : State} {m : MethodId} {args : Array Value} {below : List Frame} {meth : Method} {c : Code} {D : va_G} {G : Gt} {S : Sh} {post : Int → Mm → Prop} (C : Cx p s m args meth c D G cX11_count 2 (some .int) (cw_X11_count :: gw) RX11) : ∀ (xl0 : Int) (zl1 : Int32) (M : Mm) (H : Heap) (locs : List Loc) (ls : Array Slot), Wd D G S M H → va_S (aG G) s.heap H locs → lv_has ls 2 [(0, .ref (adr G xl0)), (1, .int zl1)] → wp_X11_count_22 S post xl0 zl1.toInt  M → W p l e RM_X11_count s m args below meth c H locs 0 0 (MQ below (QI D G S post) args s 0 0 (aG G)) (F0 m 22 ls []) := by
  obtain ⟨hx, hb, hr, hlocks, hml, hown, hts, hK⟩ := id C
  intro xl0 zl1 M H locs ls hP hS hl h
  unfold wp_X11_count_22 at h
  refine lv_iload_n hx hb dX11_count_22 rfl (lv_at hl 1 rfl) ?_
  refine sw (c := zl1.toInt = 7) h (fun e0 h => ?_) (fun e0 h => ?_)
  · refine lv_tableIn (tgt := 72) hx hb dX11_count_23 (by omega) (by omega) (by rw [e0]; rfl) (by decide) ?_
    refine lv_aload_n hx hb dX11_count_72 rfl (lv_at hl 0 rfl) ?_
    refine r_geti (C := RX11) (T := TX11) (N := 16) hx hb hts (fun w h => List.mem_cons_of_mem _ (iX11 w h)) hown hK hP rfl (by decide) rfl 7 (by decide) (hts _ (List.mem_cons_of_mem _ kw_498)) (fun _ h9 => h9) dX11_count_73 (by decide) h (fun z2 h => ?_)
    exact r_iret hx hb hr hlocks hP hS dX11_count_76 h
  · refine sw (c := zl1.toInt = 8) h (fun e1 h => ?_) (fun e1 h => ?_)
    · refine lv_tableIn (tgt := 77) hx hb dX11_count_23 (by omega) (by omega) (by rw [e1]; rfl) (by decide) ?_
      refine lv_aload_n hx hb dX11_count_77 rfl (lv_at hl 0 rfl) ?_
      refine r_getr (C := RX11) (T := TX11) (N := 16) hx hb hts (fun w h => List.mem_cons_of_mem _ (iX11 w h)) hown hK hP rfl (by decide) rfl 1 (by decide) (hts _ (List.mem_cons_of_mem _ kw_492)) (fun _ h9 => h9) dX11_count_78 (by decide) h (fun x4 h => ?_)
      refine r_getiN (C := RX4) (T := TX4) (N := 10) hx hb hts (fun w h => List.mem_cons_of_mem _ (iX4 w h)) hown hK hP rfl (by decide) rfl 2 (by decide) (nw_74 hK) (fun _ h9 => h9) dX11_count_81 (by decide) h (fun z6 h => ?_)
      exact r_iret hx hb hr hlocks hP hS dX11_count_84 h
    · refine sw (c := zl1.toInt = 9) h (fun e2 h => ?_) (fun e2 h => ?_)
      · refine lv_tableIn (tgt := 85) hx hb dX11_count_23 (by omega) (by omega) (by rw [e2]; rfl) (by decide) ?_
        refine lv_aload_n hx hb dX11_count_85 rfl (lv_at hl 0 rfl) ?_
        refine r_getr (C := RX11) (T := TX11) (N := 16) hx hb hts (fun w h => List.mem_cons_of_mem _ (iX11 w h)) hown hK hP rfl (by decide) rfl 1 (by decide) (hts _ (List.mem_cons_of_mem _ kw_492)) (fun _ h9 => h9) dX11_count_86 (by decide) h (fun x8 h => ?_)
        refine r_getrN (C := RX4) (T := TX4) (N := 10) hx hb hts (fun w h => List.mem_cons_of_mem _ (iX4 w h)) hown hK hP rfl (by decide) rfl 1 (by decide) (nw_73 hK) (fun _ h9 => h9) dX11_count_89 (by decide) h (fun x10 h => ?_)
        refine r_getiN (C := RX5) (T := TX5) (N := 9) hx hb hts (fun w h => List.mem_cons_of_mem _ (iX5 w h)) hown hK hP rfl (by decide) rfl 0 (by decide) (nw_49 hK) (fun _ h9 => h9) dX11_count_92 (by decide) h (fun z12 h => ?_)
        exact r_iret hx hb hr hlocks hP hS dX11_count_95 h
      · refine sw (c := zl1.toInt = 10) h (fun e3 h => ?_) (fun e3 h => ?_)
        · refine lv_tableIn (tgt := 96) hx hb dX11_count_23 (by omega) (by omega) (by rw [e3]; rfl) (by decide) ?_
          refine lv_aload_n hx hb dX11_count_96 rfl (lv_at hl 0 rfl) ?_
          refine r_getr (C := RX11) (T := TX11) (N := 16) hx hb hts (fun w h => List.mem_cons_of_mem _ (iX11 w h)) hown hK hP rfl (by decide) rfl 1 (by decide) (hts _ (List.mem_cons_of_mem _ kw_492)) (fun _ h9 => h9) dX11_count_97 (by decide) h (fun x14 h => ?_)
          refine r_getrN (C := RX4) (T := TX4) (N := 10) hx hb hts (fun w h => List.mem_cons_of_mem _ (iX4 w h)) hown hK hP rfl (by decide) rfl 0 (by decide) (nw_70 hK) (fun _ h9 => h9) dX11_count_100 (by decide) h (fun x16 h => ?_)
          refine lv_aload_n hx hb dX11_count_103 rfl (lv_at hl 0 rfl) ?_
          refine r_getr (C := RX11) (T := TX11) (N := 16) hx hb hts (fun w h => List.mem_cons_of_mem _ (iX11 w h)) hown hK hP rfl (by decide) rfl 1 (by decide) (hts _ (List.mem_cons_of_mem _ kw_492)) (fun _ h9 => h9) dX11_count_104 (by decide) h (fun x18 h => ?_)
          refine r_getrN (C := RX4) (T := TX4) (N := 10) hx hb hts (fun w h => List.mem_cons_of_mem _ (iX4 w h)) hown hK hP rfl (by decide) rfl 1 (by decide) (nw_73 hK) (fun _ h9 => h9) dX11_count_107 (by decide) h (fun x20 h => ?_)
          refine r_getiN (C := RX5) (T := TX5) (N := 9) hx hb hts (fun w h => List.mem_cons_of_mem _ (iX5 w h)) hown hK hP rfl (by decide) rfl 0 (by decide) (nw_49 hK) (fun _ h9 => h9) dX11_count_110 (by decide) h (fun z22 h => ?_)
          refine q_Vi hx hb hml hown hts hK hP hS (c_X8_heatIn l D G S _ x16 z22 _ h.2) ⟨callB_of 1 hts (gw_good kw_942) rfl rfl rfl (hts _ (List.mem_cons_of_mem _ kw_4)) (hts _ (List.mem_cons_of_mem _ kw_1312)) hd_X8_heatIn ⟨Nat.le_of_ble_eq_true rfl, Nat.le_of_ble_eq_true rfl⟩, (hts _ (List.mem_cons_of_mem _ kw_940)), (hts _ (List.mem_cons_of_mem _ kw_941))⟩ h.1 (ci := 8) rfl (by decide) rfl hl.1 rfl (lv_room (Nat.le_of_ble_eq_true rfl)) dX11_count_113 ⟨Nat.zero_le _, Nat.zero_le _⟩ (fun z25 M23 H locs h hP hS => ?_)
          exact r_iret hx hb hr hlocks hP hS dX11_count_116 h
        · refine sw (c := zl1.toInt = 11) h (fun e4 h => ?_) (fun e4 h => ?_)
          · refine lv_tableIn (tgt := 117) hx hb dX11_count_23 (by omega) (by omega) (by rw [e4]; rfl) (by decide) ?_
            refine lv_aload_n hx hb dX11_count_117 rfl (lv_at hl 0 rfl) ?_
            refine r_getr (C := RX11) (T := TX11) (N := 16) hx hb hts (fun w h => List.mem_cons_of_mem _ (iX11 w h)) hown hK hP rfl (by decide) rfl 1 (by decide) (hts _ (List.mem_cons_of_mem _ kw_492)) (fun _ h9 => h9) dX11_count_118 (by decide) h (fun x27 h => ?_)
            refine r_getrN (C := RX4) (T := TX4) (N := 10) hx hb hts (fun w h => List.mem_cons_of_mem _ (iX4 w h)) hown hK hP rfl (by decide) rfl 1 (by decide) (nw_73 hK) (fun _ h9 => h9) dX11_count_121 (by decide) h (fun x29 h => ?_)
            refine r_getiN (C := RX5) (T := TX5) (N := 9) hx hb hts (fun w h => List.mem_cons_of_mem _ (iX5 w h)) hown hK hP rfl (by decide) rfl 1 (by decide) (nw_50 hK) (fun _ h9 => h9) dX11_count_124 (by decide) h (fun z31 h => ?_)
            exact r_iret hx hb hr hlocks hP hS dX11_count_127 h
          · refine sw (c := zl1.toInt = 12) h (fun e5 h => ?_) (fun e5 h => ?_)
            · refine lv_tableIn (tgt := 128) hx hb dX11_count_23 (by omega) (by omega) (by rw [e5]; rfl) (by decide) ?_
              refine lv_aload_n hx hb dX11_count_128 rfl (lv_at hl 0 rfl) ?_
              refine r_getr (C := RX11) (T := TX11) (N := 16) hx hb hts (fun w h => List.mem_cons_of_mem _ (iX11 w h)) hown hK hP rfl (by decide) rfl 1 (by decide) (hts _ (List.mem_cons_of_mem _ kw_492)) (fun _ h9 => h9) dX11_count_129 (by decide) h (fun x33 h => ?_)
              refine r_getiN (C := RX4) (T := TX4) (N := 10) hx hb hts (fun w h => List.mem_cons_of_mem _ (iX4 w h)) hown hK hP rfl (by decide) rfl 4 (by decide) (nw_77 hK) (fun _ h9 => h9) dX11_count_132 (by decide) h (fun z35 h => ?_)
              exact r_iret hx hb hr hlocks hP hS dX11_count_135 h
            · refine sw (c := zl1.toInt = 13) h (fun e6 h => ?_) (fun e6 h => ?_)
              · refine lv_tableIn (tgt := 136) hx hb dX11_count_23 (by omega) (by omega) (by rw [e6]; rfl) (by decide) ?_
                refine lv_aload_n hx hb dX11_count_136 rfl (lv_at hl 0 rfl) ?_
                refine r_geti (C := RX11) (T := TX11) (N := 16) hx hb hts (fun w h => List.mem_cons_of_mem _ (iX11 w h)) hown hK hP rfl (by decide) rfl 5 (by decide) (hts _ (List.mem_cons_of_mem _ kw_496)) (fun _ h9 => h9) dX11_count_137 (by decide) h (fun z37 h => ?_)
                exact r_iret hx hb hr hlocks hP hS dX11_count_140 h
              · refine sw (c := zl1.toInt = 14) h (fun e7 h => ?_) (fun e7 h => ?_)
                · refine lv_tableIn (tgt := 141) hx hb dX11_count_23 (by omega) (by omega) (by rw [e7]; rfl) (by decide) ?_
                  refine lv_aload_n hx hb dX11_count_141 rfl (lv_at hl 0 rfl) ?_
                  refine r_getr (C := RX11) (T := TX11) (N := 16) hx hb hts (fun w h => List.mem_cons_of_mem _ (iX11 w h)) hown hK hP rfl (by decide) rfl 1 (by decide) (hts _ (List.mem_cons_of_mem _ kw_492)) (fun _ h9 => h9) dX11_count_142 (by decide) h (fun x39 h => ?_)
                  refine r_getiN (C := RX4) (T := TX4) (N := 10) hx hb hts (fun w h => List.mem_cons_of_mem _ (iX4 w h)) hown hK hP rfl (by decide) rfl 3 (by decide) (nw_75 hK) (fun _ h9 => h9) dX11_count_145 (by decide) h (fun z41 h => ?_)
                  exact r_iret hx hb hr hlocks hP hS dX11_count_148 h
                · refine sw (c := zl1.toInt = 15) h (fun e8 h => ?_) (fun e8 h => ?_)
                  · refine lv_tableIn (tgt := 149) hx hb dX11_count_23 (by omega) (by omega) (by rw [e8]; rfl) (by decide) ?_
                    refine lv_aload_n hx hb dX11_count_149 rfl (lv_at hl 0 rfl) ?_
                    refine r_getr (C := RX11) (T := TX11) (N := 16) hx hb hts (fun w h => List.mem_cons_of_mem _ (iX11 w h)) hown hK hP rfl (by decide) rfl 0 (by decide) (hts _ (List.mem_cons_of_mem _ kw_491)) (fun _ h9 => h9) dX11_count_150 (by decide) h (fun x43 h => ?_)
                    refine r_getiN (C := RX7) (T := TX7) (N := 5) hx hb hts (fun w h => List.mem_cons_of_mem _ (iX7 w h)) hown hK hP rfl (by decide) rfl 1 (by decide) (nw_0 hK) (fun _ h9 => h9) dX11_count_153 (by decide) h (fun z45 h => ?_)
                    exact r_iret hx hb hr hlocks hP hS dX11_count_156 h
                  · refine lv_tableOut (tgt := 157) hx hb dX11_count_23 (by omega) (by decide) ?_
                    refine r_iconst hx hb dX11_count_157 (by decide) h (fun z47 h => ?_)
                    exact r_iret hx hb hr hlocks hP hS dX11_count_158 h
set_option maxHeartbeats 4000000 in
set_option maxRecDepth 100000 in
theorem c_X11_count (l : Launch) (D : va_G) (G : Gt) (S : Sh) (M : Mm) (xl0 : Int) (zl1 : Int32) (post : Int → Mm → Prop) (h : wp_X11_count S M xl0 zl1.toInt post) : Met l yX11_count (cw_X11_count :: gw) RM_X11_count (va_Pc [.ref (adr G xl0), .int zl1] (fun U => KN D G U ∧ Wd D G S M U.heap)) (QI D G S post) 0 0 (aG G) := by
  refine Met.ofW (cc := cX11_count) (maxL := 2) (ret := (some .int)) (by decide) rfl ?_
  intro p e s m args below meth c s₁ B hml hv
  obtain ⟨rfl, hK, hP⟩ := hv
  have hx := B.exec
  have hb := B.bytes
  have hr := B.returns
  have hts := atoms_spec (ws := cw_X11_count :: gw) B.pre
  have hown : s.vm.findClass RX11 = some m.cls := findClass_of_methodNamed B.named
  have hlocks := B.notSynchronized
  have hS : va_S (aG G) s.heap s.heap [] := va_S.rf
  have C : Cx p s m ([.ref (adr G xl0), .int zl1] : List Value).toArray meth c D G cX11_count 2 (some .int) (cw_X11_count :: gw) RX11 := ⟨hx, hb, hr, hlocks, hml, hown, hts, hK⟩
  have hl := lv_entry ([.ref (adr G xl0), .int zl1]) (n := 2) (Nat.le_of_ble_eq_true rfl)
  rw [lg_entry_eq]
  generalize (lg_sl ([.ref (adr G xl0), .int zl1]) ++ List.replicate (2 - (lg_sl ([.ref (adr G xl0), .int zl1])).length) Slot.unset).toArray = ls at hl ⊢
  have hl : lv_has ls 2 [(0, .ref (adr G xl0)), (1, .int zl1)] := hl
  unfold wp_X11_count at h
  refine lv_iload_n hx hb dX11_count_0 rfl (lv_at hl 1 rfl) ?_
  refine r_if_lt (tgt := 22) hx hb dX11_count_1 (by decide) h (fun h => ?_) (fun h => ?_)
  · exact t_X11_count_22 C xl0 zl1 _ _ _ _ hP hS (lv_sub hl [0, 1] rfl) h
  · refine lv_iload_n hx hb dX11_count_4 rfl (lv_at hl 1 rfl) ?_
    refine r_bipush hx hb dX11_count_5 (by decide) h (fun z49 h => ?_)
    refine r_icmp_gt (tgt := 22) hx hb dX11_count_7 (by decide) h (fun h => ?_) (fun h => ?_)
    · exact t_X11_count_22 C xl0 zl1 _ _ _ _ hP hS (lv_sub hl [0, 1] rfl) h
    · refine lv_aload_n hx hb dX11_count_10 rfl (lv_at hl 0 rfl) ?_
      refine r_getr (C := RX11) (T := TX11) (N := 16) hx hb hts (fun w h => List.mem_cons_of_mem _ (iX11 w h)) hown hK hP rfl (by decide) rfl 1 (by decide) (hts _ (List.mem_cons_of_mem _ kw_492)) (fun _ h9 => h9) dX11_count_11 (by decide) h (fun x51 h => ?_)
      refine r_getrN (C := RX4) (T := TX4) (N := 10) hx hb hts (fun w h => List.mem_cons_of_mem _ (iX4 w h)) hown hK hP rfl (by decide) rfl 0 (by decide) (nw_70 hK) (fun _ h9 => h9) dX11_count_14 (by decide) h (fun x53 h => ?_)
      refine lv_iload_n hx hb dX11_count_17 rfl (lv_at hl 1 rfl) ?_
      refine q_Vi hx hb hml hown hts hK hP hS (c_X8_howMany l D G S _ x53 zl1 _ h.2) ⟨callB_of 1 hts (gw_good kw_1311) rfl rfl rfl (hts _ (List.mem_cons_of_mem _ kw_4)) (hts _ (List.mem_cons_of_mem _ kw_1308)) hd_X8_howMany ⟨Nat.le_of_ble_eq_true rfl, Nat.le_of_ble_eq_true rfl⟩, (hts _ (List.mem_cons_of_mem _ kw_1309)), (hts _ (List.mem_cons_of_mem _ kw_1310))⟩ h.1 (ci := 8) rfl (by decide) rfl hl.1 rfl (lv_room (Nat.le_of_ble_eq_true rfl)) dX11_count_18 ⟨Nat.zero_le _, Nat.zero_le _⟩ (fun z56 M54 H locs h hP hS => ?_)
      exact r_iret hx hb hr hlocks hP hS dX11_count_21 h
/-! TurningMilk$Scene.become(LTurningMilk$Scene;)V -/
abbrev RM_X4_become : Room := { frames := 2, cells := 0, slots := 0, locals := 81 }
def cw_X4_become : Cond := Cond.code yX4_become cX4_become 2 (Option.none : Option FieldType)
theorem hd_X4_become : yX4_become.cls ≠ "java/lang/invoke/MethodHandle" ∧ yX4_become.cls ≠ "java/lang/invoke/VarHandle" ∧ (parseMethodDescriptor yX4_become.desc).map (fun d => d.parameters.length) = some 1 := by decide +kernel
theorem dX4_become_0 : decode cX4_become 0 = .ok (.aload_n 0, 1) := by decide +kernel
theorem dX4_become_1 : decode cX4_become 1 = .ok (.getfield 12, 3) := by decide +kernel
theorem dX4_become_4 : decode cX4_become 4 = .ok (.aload_n 1, 1) := by decide +kernel
theorem dX4_become_5 : decode cX4_become 5 = .ok (.getfield 12, 3) := by decide +kernel
theorem dX4_become_8 : decode cX4_become 8 = .ok (.invokevirtual 42, 3) := by decide +kernel
theorem dX4_become_11 : decode cX4_become 11 = .ok (.aload_n 0, 1) := by decide +kernel
theorem dX4_become_12 : decode cX4_become 12 = .ok (.getfield 21, 3) := by decide +kernel
theorem dX4_become_15 : decode cX4_become 15 = .ok (.aload_n 1, 1) := by decide +kernel
theorem dX4_become_16 : decode cX4_become 16 = .ok (.getfield 21, 3) := by decide +kernel
theorem dX4_become_19 : decode cX4_become 19 = .ok (.invokevirtual 46, 3) := by decide +kernel
theorem dX4_become_22 : decode cX4_become 22 = .ok (.aload_n 0, 1) := by decide +kernel
theorem dX4_become_23 : decode cX4_become 23 = .ok (.aload_n 1, 1) := by decide +kernel
theorem dX4_become_24 : decode cX4_become 24 = .ok (.getfield 25, 3) := by decide +kernel
theorem dX4_become_27 : decode cX4_become 27 = .ok (.putfield 25, 3) := by decide +kernel
theorem dX4_become_30 : decode cX4_become 30 = .ok (.aload_n 0, 1) := by decide +kernel
theorem dX4_become_31 : decode cX4_become 31 = .ok (.aload_n 1, 1) := by decide +kernel
theorem dX4_become_32 : decode cX4_become 32 = .ok (.getfield 49, 3) := by decide +kernel
theorem dX4_become_35 : decode cX4_become 35 = .ok (.putfield 49, 3) := by decide +kernel
theorem dX4_become_38 : decode cX4_become 38 = .ok (.aload_n 0, 1) := by decide +kernel
theorem dX4_become_39 : decode cX4_become 39 = .ok (.aload_n 1, 1) := by decide +kernel
theorem dX4_become_40 : decode cX4_become 40 = .ok (.getfield 52, 3) := by decide +kernel
theorem dX4_become_43 : decode cX4_become 43 = .ok (.putfield 52, 3) := by decide +kernel
theorem dX4_become_46 : decode cX4_become 46 = .ok (.aload_n 1, 1) := by decide +kernel
theorem dX4_become_47 : decode cX4_become 47 = .ok (.getfield 29, 3) := by decide +kernel
theorem dX4_become_50 : decode cX4_become 50 = .ok (.iconst 0, 1) := by decide +kernel
theorem dX4_become_51 : decode cX4_become 51 = .ok (.aload_n 0, 1) := by decide +kernel
theorem dX4_become_52 : decode cX4_become 52 = .ok (.getfield 29, 3) := by decide +kernel
theorem dX4_become_55 : decode cX4_become 55 = .ok (.iconst 0, 1) := by decide +kernel
theorem dX4_become_56 : decode cX4_become 56 = .ok (.bipush 10, 2) := by decide +kernel
theorem dX4_become_58 : decode cX4_become 58 = .ok (.invokestatic 55, 3) := by decide +kernel
theorem dX4_become_61 : decode cX4_become 61 = .ok (.aload_n 1, 1) := by decide +kernel
theorem dX4_become_62 : decode cX4_become 62 = .ok (.getfield 33, 3) := by decide +kernel
theorem dX4_become_65 : decode cX4_become 65 = .ok (.iconst 0, 1) := by decide +kernel
theorem dX4_become_66 : decode cX4_become 66 = .ok (.aload_n 0, 1) := by decide +kernel
theorem dX4_become_67 : decode cX4_become 67 = .ok (.getfield 33, 3) := by decide +kernel
theorem dX4_become_70 : decode cX4_become 70 = .ok (.iconst 0, 1) := by decide +kernel
theorem dX4_become_71 : decode cX4_become 71 = .ok (.bipush 10, 2) := by decide +kernel
theorem dX4_become_73 : decode cX4_become 73 = .ok (.invokestatic 55, 3) := by decide +kernel
theorem dX4_become_76 : decode cX4_become 76 = .ok (.aload_n 1, 1) := by decide +kernel
theorem dX4_become_77 : decode cX4_become 77 = .ok (.getfield 36, 3) := by decide +kernel
theorem dX4_become_80 : decode cX4_become 80 = .ok (.iconst 0, 1) := by decide +kernel
theorem dX4_become_81 : decode cX4_become 81 = .ok (.aload_n 0, 1) := by decide +kernel
theorem dX4_become_82 : decode cX4_become 82 = .ok (.getfield 36, 3) := by decide +kernel
theorem dX4_become_85 : decode cX4_become 85 = .ok (.iconst 0, 1) := by decide +kernel
theorem dX4_become_86 : decode cX4_become 86 = .ok (.bipush 10, 2) := by decide +kernel
theorem dX4_become_88 : decode cX4_become 88 = .ok (.invokestatic 55, 3) := by decide +kernel
theorem dX4_become_91 : decode cX4_become 91 = .ok (.aload_n 1, 1) := by decide +kernel
theorem dX4_become_92 : decode cX4_become 92 = .ok (.getfield 39, 3) := by decide +kernel
theorem dX4_become_95 : decode cX4_become 95 = .ok (.iconst 0, 1) := by decide +kernel
theorem dX4_become_96 : decode cX4_become 96 = .ok (.aload_n 0, 1) := by decide +kernel
theorem dX4_become_97 : decode cX4_become 97 = .ok (.getfield 39, 3) := by decide +kernel
theorem dX4_become_100 : decode cX4_become 100 = .ok (.iconst 0, 1) := by decide +kernel
theorem dX4_become_101 : decode cX4_become 101 = .ok (.bipush 10, 2) := by decide +kernel
theorem dX4_become_103 : decode cX4_become 103 = .ok (.invokestatic 55, 3) := by decide +kernel
theorem dX4_become_106 : decode cX4_become 106 = .ok (.return_, 1) := by decide +kernel
def wp_X4_become (S : Sh) (M : Mm) (u0 : Int) (u1 : Int) (post : Mm → Prop) : Prop := wGetR S M u0 4 0 fun v1 => wGetR S M u1 4 0 fun v3 => isK S v1 8 ∧ (wp_X8_become S M v1 v3 <| fun M5 => wGetR S M5 u0 4 1 fun v6 => wGetR S M5 u1 4 1 fun v8 => isK S v6 5 ∧ (wp_X5_become S M5 v6 v8 <| fun M10 => wGet S M10 u1 4 2 fun v11 => wPut S M10 u0 4 2 v11 fun M13 => wGet S M13 u1 4 3 fun v14 => wPut S M13 u0 4 3 v14 fun M16 => wGet S M16 u1 4 4 fun v17 => wPut S M16 u0 4 4 v17 fun M19 => wGetR S M19 u1 4 5 fun v20 => wC 0 fun v22 => wGetR S M19 u0 4 5 fun v24 => wC 0 fun v26 => wC 10 fun v28 => wCpy S M19 v20 v22 v24 v26 v28 fun M30 => wGetR S M30 u1 4 6 fun v31 => wC 0 fun v33 => wGetR S M30 u0 4 6 fun v35 => wC 0 fun v37 => wC 10 fun v39 => wCpy S M30 v31 v33 v35 v37 v39 fun M41 => wGetR S M41 u1 4 7 fun v42 => wC 0 fun v44 => wGetR S M41 u0 4 7 fun v46 => wC 0 fun v48 => wC 10 fun v50 => wCpy S M41 v42 v44 v46 v48 v50 fun M52 => wGetR S M52 u1 4 8 fun v53 => wC 0 fun v55 => wGetR S M52 u0 4 8 fun v57 => wC 0 fun v59 => wC 10 fun v61 => wCpy S M52 v53 v55 v57 v59 v61 fun M63 => post M63))
set_option maxHeartbeats 4000000 in
set_option maxRecDepth 100000 in
theorem c_X4_become (l : Launch) (D : va_G) (G : Gt) (S : Sh) (M : Mm) (xl0 : Int) (xl1 : Int) (post : Mm → Prop) (h : wp_X4_become S M xl0 xl1 post) : Met l yX4_become (cw_X4_become :: gw) RM_X4_become (va_Pc [.ref (adr G xl0), .ref (adr G xl1)] (fun U => KN D G U ∧ Wd D G S M U.heap)) (QV D G S post) 0 0 (aG G) := by
  refine Met.ofW (cc := cX4_become) (maxL := 2) (ret := none) (by decide) rfl ?_
  intro p e s m args below meth c s₁ B hml hv
  obtain ⟨rfl, hK, hP⟩ := hv
  have hx := B.exec
  have hb := B.bytes
  have hr := B.returns
  have hts := atoms_spec (ws := cw_X4_become :: gw) B.pre
  have hown : s.vm.findClass RX4 = some m.cls := findClass_of_methodNamed B.named
  have hlocks := B.notSynchronized
  have hS : va_S (aG G) s.heap s.heap [] := va_S.rf
  have C : Cx p s m ([.ref (adr G xl0), .ref (adr G xl1)] : List Value).toArray meth c D G cX4_become 2 none (cw_X4_become :: gw) RX4 := ⟨hx, hb, hr, hlocks, hml, hown, hts, hK⟩
  have hl := lv_entry ([.ref (adr G xl0), .ref (adr G xl1)]) (n := 2) (Nat.le_of_ble_eq_true rfl)
  rw [lg_entry_eq]
  generalize (lg_sl ([.ref (adr G xl0), .ref (adr G xl1)]) ++ List.replicate (2 - (lg_sl ([.ref (adr G xl0), .ref (adr G xl1)])).length) Slot.unset).toArray = ls at hl ⊢
  have hl : lv_has ls 2 [(0, .ref (adr G xl0)), (1, .ref (adr G xl1))] := hl
  unfold wp_X4_become at h
  refine lv_aload_n hx hb dX4_become_0 rfl (lv_at hl 0 rfl) ?_
  refine r_getr (C := RX4) (T := TX4) (N := 10) hx hb hts (fun w h => List.mem_cons_of_mem _ (iX4 w h)) hown hK hP rfl (by decide) rfl 0 (by decide) (hts _ (List.mem_cons_of_mem _ kw_231)) (fun _ h9 => h9) dX4_become_1 (by decide) h (fun x2 h => ?_)
  refine lv_aload_n hx hb dX4_become_4 rfl (lv_at hl 1 rfl) ?_
  refine r_getr (C := RX4) (T := TX4) (N := 10) hx hb hts (fun w h => List.mem_cons_of_mem _ (iX4 w h)) hown hK hP rfl (by decide) rfl 0 (by decide) (hts _ (List.mem_cons_of_mem _ kw_231)) (fun _ h9 => h9) dX4_become_5 (by decide) h (fun x4 h => ?_)
  refine q_Vv hx hb hml hown hts hK hP hS (c_X8_become l D G S _ x2 x4 _ h.2) ⟨callB_of 1 hts (gw_good kw_728) rfl rfl rfl (hts _ (List.mem_cons_of_mem _ kw_4)) (hts _ (List.mem_cons_of_mem _ kw_1321)) hd_X8_become ⟨Nat.le_of_ble_eq_true rfl, Nat.le_of_ble_eq_true rfl⟩, (hts _ (List.mem_cons_of_mem _ kw_726)), (hts _ (List.mem_cons_of_mem _ kw_727))⟩ h.1 (ci := 8) rfl (by decide) rfl hl.1 rfl (lv_room (Nat.le_of_ble_eq_true rfl)) dX4_become_8 ⟨Nat.zero_le _, Nat.zero_le _⟩ (fun M5 H locs h hP hS => ?_)
  refine lv_aload_n hx hb dX4_become_11 rfl (lv_at hl 0 rfl) ?_
  refine r_getr (C := RX4) (T := TX4) (N := 10) hx hb hts (fun w h => List.mem_cons_of_mem _ (iX4 w h)) hown hK hP rfl (by decide) rfl 1 (by decide) (hts _ (List.mem_cons_of_mem _ kw_234)) (fun _ h9 => h9) dX4_become_12 (by decide) h (fun x7 h => ?_)
  refine lv_aload_n hx hb dX4_become_15 rfl (lv_at hl 1 rfl) ?_
  refine r_getr (C := RX4) (T := TX4) (N := 10) hx hb hts (fun w h => List.mem_cons_of_mem _ (iX4 w h)) hown hK hP rfl (by decide) rfl 1 (by decide) (hts _ (List.mem_cons_of_mem _ kw_234)) (fun _ h9 => h9) dX4_become_16 (by decide) h (fun x9 h => ?_)
  refine q_Vv hx hb hml hown hts hK hP hS (c_X5_become l D G S _ x7 x9 _ h.2) ⟨callB_of 1 hts (gw_good kw_735) rfl rfl rfl (hts _ (List.mem_cons_of_mem _ kw_5)) (hts _ (List.mem_cons_of_mem _ kw_1322)) hd_X5_become ⟨Nat.le_of_ble_eq_true rfl, Nat.le_of_ble_eq_true rfl⟩, (hts _ (List.mem_cons_of_mem _ kw_733)), (hts _ (List.mem_cons_of_mem _ kw_734))⟩ h.1 (ci := 5) rfl (by decide) rfl hl.1 rfl (lv_room (Nat.le_of_ble_eq_true rfl)) dX4_become_19 ⟨Nat.zero_le _, Nat.zero_le _⟩ (fun M10 H locs h hP hS => ?_)
  refine lv_aload_n hx hb dX4_become_22 rfl (lv_at hl 0 rfl) ?_
  refine lv_aload_n hx hb dX4_become_23 rfl (lv_at hl 1 rfl) ?_
  refine r_geti (C := RX4) (T := TX4) (N := 10) hx hb hts (fun w h => List.mem_cons_of_mem _ (iX4 w h)) hown hK hP rfl (by decide) rfl 2 (by decide) (hts _ (List.mem_cons_of_mem _ kw_237)) (fun _ h9 => h9) dX4_become_24 (by decide) h (fun z12 h => ?_)
  refine r_puti (C := RX4) (T := TX4) (N := 10) hx hb hts (fun w h => List.mem_cons_of_mem _ (iX4 w h)) hown hK hP tyX4 tyX4_ok nmX4 hS rfl (by decide) rfl 2 (by decide) (hts _ (List.mem_cons_of_mem _ kw_237)) (fun _ h9 => h9) rfl (tyX4_ok 2 (by decide)) rfl rfl dX4_become_27 (by decide) h (fun M13 H locs h hP hS => ?_)
  refine lv_aload_n hx hb dX4_become_30 rfl (lv_at hl 0 rfl) ?_
  refine lv_aload_n hx hb dX4_become_31 rfl (lv_at hl 1 rfl) ?_
  refine r_geti (C := RX4) (T := TX4) (N := 10) hx hb hts (fun w h => List.mem_cons_of_mem _ (iX4 w h)) hown hK hP rfl (by decide) rfl 3 (by decide) (hts _ (List.mem_cons_of_mem _ kw_239)) (fun _ h9 => h9) dX4_become_32 (by decide) h (fun z15 h => ?_)
  refine r_puti (C := RX4) (T := TX4) (N := 10) hx hb hts (fun w h => List.mem_cons_of_mem _ (iX4 w h)) hown hK hP tyX4 tyX4_ok nmX4 hS rfl (by decide) rfl 3 (by decide) (hts _ (List.mem_cons_of_mem _ kw_239)) (fun _ h9 => h9) rfl (tyX4_ok 3 (by decide)) rfl rfl dX4_become_35 (by decide) h (fun M16 H locs h hP hS => ?_)
  refine lv_aload_n hx hb dX4_become_38 rfl (lv_at hl 0 rfl) ?_
  refine lv_aload_n hx hb dX4_become_39 rfl (lv_at hl 1 rfl) ?_
  refine r_geti (C := RX4) (T := TX4) (N := 10) hx hb hts (fun w h => List.mem_cons_of_mem _ (iX4 w h)) hown hK hP rfl (by decide) rfl 4 (by decide) (hts _ (List.mem_cons_of_mem _ kw_241)) (fun _ h9 => h9) dX4_become_40 (by decide) h (fun z18 h => ?_)
  refine r_puti (C := RX4) (T := TX4) (N := 10) hx hb hts (fun w h => List.mem_cons_of_mem _ (iX4 w h)) hown hK hP tyX4 tyX4_ok nmX4 hS rfl (by decide) rfl 4 (by decide) (hts _ (List.mem_cons_of_mem _ kw_241)) (fun _ h9 => h9) rfl (tyX4_ok 4 (by decide)) rfl rfl dX4_become_43 (by decide) h (fun M19 H locs h hP hS => ?_)
  refine lv_aload_n hx hb dX4_become_46 rfl (lv_at hl 1 rfl) ?_
  refine r_getr (C := RX4) (T := TX4) (N := 10) hx hb hts (fun w h => List.mem_cons_of_mem _ (iX4 w h)) hown hK hP rfl (by decide) rfl 5 (by decide) (hts _ (List.mem_cons_of_mem _ kw_244)) (fun _ h9 => h9) dX4_become_47 (by decide) h (fun x21 h => ?_)
  refine r_iconst hx hb dX4_become_50 (by decide) h (fun z23 h => ?_)
  refine lv_aload_n hx hb dX4_become_51 rfl (lv_at hl 0 rfl) ?_
  refine r_getr (C := RX4) (T := TX4) (N := 10) hx hb hts (fun w h => List.mem_cons_of_mem _ (iX4 w h)) hown hK hP rfl (by decide) rfl 5 (by decide) (hts _ (List.mem_cons_of_mem _ kw_244)) (fun _ h9 => h9) dX4_become_52 (by decide) h (fun x25 h => ?_)
  refine r_iconst hx hb dX4_become_55 (by decide) h (fun z27 h => ?_)
  refine r_bipush hx hb dX4_become_56 (by decide) h (fun z29 h => ?_)
  refine r_copy hx hb (hml.trans hl.1.symm) hK hP hS hown (hts _ (List.mem_cons_of_mem _ kw_1323)) (hts _ (List.mem_cons_of_mem _ kw_731)) (hts _ (List.mem_cons_of_mem _ kw_730)) (hts _ (List.mem_cons_of_mem _ kw_20)) (Nat.le_of_ble_eq_true rfl) (Nat.le_of_ble_eq_true rfl) dX4_become_58 h (fun M30 H locs h hP hS => ?_)
  refine lv_aload_n hx hb dX4_become_61 rfl (lv_at hl 1 rfl) ?_
  refine r_getr (C := RX4) (T := TX4) (N := 10) hx hb hts (fun w h => List.mem_cons_of_mem _ (iX4 w h)) hown hK hP rfl (by decide) rfl 6 (by decide) (hts _ (List.mem_cons_of_mem _ kw_246)) (fun _ h9 => h9) dX4_become_62 (by decide) h (fun x32 h => ?_)
  refine r_iconst hx hb dX4_become_65 (by decide) h (fun z34 h => ?_)
  refine lv_aload_n hx hb dX4_become_66 rfl (lv_at hl 0 rfl) ?_
  refine r_getr (C := RX4) (T := TX4) (N := 10) hx hb hts (fun w h => List.mem_cons_of_mem _ (iX4 w h)) hown hK hP rfl (by decide) rfl 6 (by decide) (hts _ (List.mem_cons_of_mem _ kw_246)) (fun _ h9 => h9) dX4_become_67 (by decide) h (fun x36 h => ?_)
  refine r_iconst hx hb dX4_become_70 (by decide) h (fun z38 h => ?_)
  refine r_bipush hx hb dX4_become_71 (by decide) h (fun z40 h => ?_)
  refine r_copy hx hb (hml.trans hl.1.symm) hK hP hS hown (hts _ (List.mem_cons_of_mem _ kw_1323)) (hts _ (List.mem_cons_of_mem _ kw_731)) (hts _ (List.mem_cons_of_mem _ kw_730)) (hts _ (List.mem_cons_of_mem _ kw_20)) (Nat.le_of_ble_eq_true rfl) (Nat.le_of_ble_eq_true rfl) dX4_become_73 h (fun M41 H locs h hP hS => ?_)
  refine lv_aload_n hx hb dX4_become_76 rfl (lv_at hl 1 rfl) ?_
  refine r_getr (C := RX4) (T := TX4) (N := 10) hx hb hts (fun w h => List.mem_cons_of_mem _ (iX4 w h)) hown hK hP rfl (by decide) rfl 7 (by decide) (hts _ (List.mem_cons_of_mem _ kw_248)) (fun _ h9 => h9) dX4_become_77 (by decide) h (fun x43 h => ?_)
  refine r_iconst hx hb dX4_become_80 (by decide) h (fun z45 h => ?_)
  refine lv_aload_n hx hb dX4_become_81 rfl (lv_at hl 0 rfl) ?_
  refine r_getr (C := RX4) (T := TX4) (N := 10) hx hb hts (fun w h => List.mem_cons_of_mem _ (iX4 w h)) hown hK hP rfl (by decide) rfl 7 (by decide) (hts _ (List.mem_cons_of_mem _ kw_248)) (fun _ h9 => h9) dX4_become_82 (by decide) h (fun x47 h => ?_)
  refine r_iconst hx hb dX4_become_85 (by decide) h (fun z49 h => ?_)
  refine r_bipush hx hb dX4_become_86 (by decide) h (fun z51 h => ?_)
  refine r_copy hx hb (hml.trans hl.1.symm) hK hP hS hown (hts _ (List.mem_cons_of_mem _ kw_1323)) (hts _ (List.mem_cons_of_mem _ kw_731)) (hts _ (List.mem_cons_of_mem _ kw_730)) (hts _ (List.mem_cons_of_mem _ kw_20)) (Nat.le_of_ble_eq_true rfl) (Nat.le_of_ble_eq_true rfl) dX4_become_88 h (fun M52 H locs h hP hS => ?_)
  refine lv_aload_n hx hb dX4_become_91 rfl (lv_at hl 1 rfl) ?_
  refine r_getr (C := RX4) (T := TX4) (N := 10) hx hb hts (fun w h => List.mem_cons_of_mem _ (iX4 w h)) hown hK hP rfl (by decide) rfl 8 (by decide) (hts _ (List.mem_cons_of_mem _ kw_250)) (fun _ h9 => h9) dX4_become_92 (by decide) h (fun x54 h => ?_)
  refine r_iconst hx hb dX4_become_95 (by decide) h (fun z56 h => ?_)
  refine lv_aload_n hx hb dX4_become_96 rfl (lv_at hl 0 rfl) ?_
  refine r_getr (C := RX4) (T := TX4) (N := 10) hx hb hts (fun w h => List.mem_cons_of_mem _ (iX4 w h)) hown hK hP rfl (by decide) rfl 8 (by decide) (hts _ (List.mem_cons_of_mem _ kw_250)) (fun _ h9 => h9) dX4_become_97 (by decide) h (fun x58 h => ?_)
  refine r_iconst hx hb dX4_become_100 (by decide) h (fun z60 h => ?_)
  refine r_bipush hx hb dX4_become_101 (by decide) h (fun z62 h => ?_)
  refine r_copy hx hb (hml.trans hl.1.symm) hK hP hS hown (hts _ (List.mem_cons_of_mem _ kw_1323)) (hts _ (List.mem_cons_of_mem _ kw_731)) (hts _ (List.mem_cons_of_mem _ kw_730)) (hts _ (List.mem_cons_of_mem _ kw_20)) (Nat.le_of_ble_eq_true rfl) (Nat.le_of_ble_eq_true rfl) dX4_become_103 h (fun M63 H locs h hP hS => ?_)
  exact r_vret hx hb hr hlocks hP hS dX4_become_106 h
/-! TurningMilk.image(I)I -/
abbrev RM_X11_image : Room := { frames := 3, cells := 0, slots := 0, locals := 102 }
def cw_X11_image : Cond := Cond.code yX11_image cX11_image 2 (Option.some FieldType.int)
theorem hd_X11_image : yX11_image.cls ≠ "java/lang/invoke/MethodHandle" ∧ yX11_image.cls ≠ "java/lang/invoke/VarHandle" ∧ (parseMethodDescriptor yX11_image.desc).map (fun d => d.parameters.length) = some 1 := by decide +kernel
theorem dX11_image_0 : decode cX11_image 0 = .ok (.iload_n 1, 1) := by decide +kernel
theorem dX11_image_1 : decode cX11_image 1 = .ok (.ifCond .lt 8, 3) := by decide +kernel
theorem dX11_image_4 : decode cX11_image 4 = .ok (.iload_n 1, 1) := by decide +kernel
theorem dX11_image_5 : decode cX11_image 5 = .ok (.iconst 4, 1) := by decide +kernel
theorem dX11_image_6 : decode cX11_image 6 = .ok (.if_icmp .lt 5, 3) := by decide +kernel
theorem dX11_image_9 : decode cX11_image 9 = .ok (.iconst (-1), 1) := by decide +kernel
theorem dX11_image_10 : decode cX11_image 10 = .ok (.ireturn, 1) := by decide +kernel
theorem dX11_image_11 : decode cX11_image 11 = .ok (.aload_n 0, 1) := by decide +kernel
theorem dX11_image_12 : decode cX11_image 12 = .ok (.getfield 23, 3) := by decide +kernel
theorem dX11_image_15 : decode cX11_image 15 = .ok (.iload_n 1, 1) := by decide +kernel
theorem dX11_image_16 : decode cX11_image 16 = .ok (.aaload, 1) := by decide +kernel
theorem dX11_image_17 : decode cX11_image 17 = .ok (.aload_n 0, 1) := by decide +kernel
theorem dX11_image_18 : decode cX11_image 18 = .ok (.getfield 19, 3) := by decide +kernel
theorem dX11_image_21 : decode cX11_image 21 = .ok (.invokevirtual 408, 3) := by decide +kernel
theorem dX11_image_24 : decode cX11_image 24 = .ok (.aload_n 0, 1) := by decide +kernel
theorem dX11_image_25 : decode cX11_image 25 = .ok (.getfield 23, 3) := by decide +kernel
theorem dX11_image_28 : decode cX11_image 28 = .ok (.iload_n 1, 1) := by decide +kernel
theorem dX11_image_29 : decode cX11_image 29 = .ok (.aaload, 1) := by decide +kernel
theorem dX11_image_30 : decode cX11_image 30 = .ok (.iconst 1, 1) := by decide +kernel
theorem dX11_image_31 : decode cX11_image 31 = .ok (.putfield 411, 3) := by decide +kernel
theorem dX11_image_34 : decode cX11_image 34 = .ok (.aload_n 0, 1) := by decide +kernel
theorem dX11_image_35 : decode cX11_image 35 = .ok (.getfield 19, 3) := by decide +kernel
theorem dX11_image_38 : decode cX11_image 38 = .ok (.getfield 133, 3) := by decide +kernel
theorem dX11_image_41 : decode cX11_image 41 = .ok (.getfield 252, 3) := by decide +kernel
theorem dX11_image_44 : decode cX11_image 44 = .ok (.ireturn, 1) := by decide +kernel
def wp_X11_image (S : Sh) (M : Mm) (u0 : Int) (u1 : Int) (post : Int → Mm → Prop) : Prop := wIf (u1 < 0) (wC (-1) fun v1 => post v1 M) (wC 4 fun v3 => wIf (u1 < v3) (wGetR S M u0 11 2 fun v5 => wLdR S M v5 17 u1 fun v7 => wGetR S M u0 11 1 fun v9 => isK S v7 4 ∧ (wp_X4_become S M v7 v9 <| fun M11 => wGetR S M11 u0 11 2 fun v12 => wLdR S M11 v12 17 u1 fun v14 => wC 1 fun v16 => wPutZ S M11 v14 4 9 v16 fun M18 => wGetR S M18 u0 11 1 fun v19 => wGetR S M18 v19 4 1 fun v21 => wGet S M18 v21 5 0 fun v23 => post v23 M18)) (wC (-1) fun v25 => post v25 M))
set_option maxHeartbeats 4000000 in
set_option maxRecDepth 100000 in
theorem c_X11_image (l : Launch) (D : va_G) (G : Gt) (S : Sh) (M : Mm) (xl0 : Int) (zl1 : Int32) (post : Int → Mm → Prop) (h : wp_X11_image S M xl0 zl1.toInt post) : Met l yX11_image (cw_X11_image :: gw) RM_X11_image (va_Pc [.ref (adr G xl0), .int zl1] (fun U => KN D G U ∧ Wd D G S M U.heap)) (QI D G S post) 0 0 (aG G) := by
  refine Met.ofW (cc := cX11_image) (maxL := 2) (ret := (some .int)) (by decide) rfl ?_
  intro p e s m args below meth c s₁ B hml hv
  obtain ⟨rfl, hK, hP⟩ := hv
  have hx := B.exec
  have hb := B.bytes
  have hr := B.returns
  have hts := atoms_spec (ws := cw_X11_image :: gw) B.pre
  have hown : s.vm.findClass RX11 = some m.cls := findClass_of_methodNamed B.named
  have hlocks := B.notSynchronized
  have hS : va_S (aG G) s.heap s.heap [] := va_S.rf
  have C : Cx p s m ([.ref (adr G xl0), .int zl1] : List Value).toArray meth c D G cX11_image 2 (some .int) (cw_X11_image :: gw) RX11 := ⟨hx, hb, hr, hlocks, hml, hown, hts, hK⟩
  have hl := lv_entry ([.ref (adr G xl0), .int zl1]) (n := 2) (Nat.le_of_ble_eq_true rfl)
  rw [lg_entry_eq]
  generalize (lg_sl ([.ref (adr G xl0), .int zl1]) ++ List.replicate (2 - (lg_sl ([.ref (adr G xl0), .int zl1])).length) Slot.unset).toArray = ls at hl ⊢
  have hl : lv_has ls 2 [(0, .ref (adr G xl0)), (1, .int zl1)] := hl
  unfold wp_X11_image at h
  refine lv_iload_n hx hb dX11_image_0 rfl (lv_at hl 1 rfl) ?_
  refine r_if_lt (tgt := 9) hx hb dX11_image_1 (by decide) h (fun h => ?_) (fun h => ?_)
  · refine r_iconst hx hb dX11_image_9 (by decide) h (fun z2 h => ?_)
    exact r_iret hx hb hr hlocks hP hS dX11_image_10 h
  · refine lv_iload_n hx hb dX11_image_4 rfl (lv_at hl 1 rfl) ?_
    refine r_iconst hx hb dX11_image_5 (by decide) h (fun z4 h => ?_)
    refine r_icmp_lt (tgt := 11) hx hb dX11_image_6 (by decide) h (fun h => ?_) (fun h => ?_)
    · refine lv_aload_n hx hb dX11_image_11 rfl (lv_at hl 0 rfl) ?_
      refine r_getr (C := RX11) (T := TX11) (N := 16) hx hb hts (fun w h => List.mem_cons_of_mem _ (iX11 w h)) hown hK hP rfl (by decide) rfl 2 (by decide) (hts _ (List.mem_cons_of_mem _ kw_493)) (fun _ h9 => h9) dX11_image_12 (by decide) h (fun x6 h => ?_)
      refine lv_iload_n hx hb dX11_image_15 rfl (lv_at hl 1 rfl) ?_
      refine r_aald17 hx hb hK hP dX11_image_16 h (fun x8 h => ?_)
      refine lv_aload_n hx hb dX11_image_17 rfl (lv_at hl 0 rfl) ?_
      refine r_getr (C := RX11) (T := TX11) (N := 16) hx hb hts (fun w h => List.mem_cons_of_mem _ (iX11 w h)) hown hK hP rfl (by decide) rfl 1 (by decide) (hts _ (List.mem_cons_of_mem _ kw_492)) (fun _ h9 => h9) dX11_image_18 (by decide) h (fun x10 h => ?_)
      refine q_Vv hx hb hml hown hts hK hP hS (c_X4_become l D G S _ x8 x10 _ h.2) ⟨callB_of 1 hts (gw_good kw_1320) rfl rfl rfl (hts _ (List.mem_cons_of_mem _ kw_3)) (hts _ (List.mem_cons_of_mem _ kw_1317)) hd_X4_become ⟨Nat.le_of_ble_eq_true rfl, Nat.le_of_ble_eq_true rfl⟩, (hts _ (List.mem_cons_of_mem _ kw_1318)), (hts _ (List.mem_cons_of_mem _ kw_1319))⟩ h.1 (ci := 4) rfl (by decide) rfl hl.1 rfl (lv_room (Nat.le_of_ble_eq_true rfl)) dX11_image_21 ⟨Nat.zero_le _, Nat.zero_le _⟩ (fun M11 H locs h hP hS => ?_)
      refine lv_aload_n hx hb dX11_image_24 rfl (lv_at hl 0 rfl) ?_
      refine r_getr (C := RX11) (T := TX11) (N := 16) hx hb hts (fun w h => List.mem_cons_of_mem _ (iX11 w h)) hown hK hP rfl (by decide) rfl 2 (by decide) (hts _ (List.mem_cons_of_mem _ kw_493)) (fun _ h9 => h9) dX11_image_25 (by decide) h (fun x13 h => ?_)
      refine lv_iload_n hx hb dX11_image_28 rfl (lv_at hl 1 rfl) ?_
      refine r_aald17 hx hb hK hP dX11_image_29 h (fun x15 h => ?_)
      refine r_iconst hx hb dX11_image_30 (by decide) h (fun z17 h => ?_)
      refine r_putzN (C := RX4) (T := TX4) (N := 10) hx hb hts (fun w h => List.mem_cons_of_mem _ (iX4 w h)) hown hK hP tyX4 tyX4_ok nmX4 hS rfl (by decide) rfl 9 (by decide) (nw_82 hK) (fun _ h9 => h9) rfl (tyX4_ok 9 (by decide))  dX11_image_31 (by decide) h (fun M18 H locs h hP hS => ?_)
      refine lv_aload_n hx hb dX11_image_34 rfl (lv_at hl 0 rfl) ?_
      refine r_getr (C := RX11) (T := TX11) (N := 16) hx hb hts (fun w h => List.mem_cons_of_mem _ (iX11 w h)) hown hK hP rfl (by decide) rfl 1 (by decide) (hts _ (List.mem_cons_of_mem _ kw_492)) (fun _ h9 => h9) dX11_image_35 (by decide) h (fun x20 h => ?_)
      refine r_getrN (C := RX4) (T := TX4) (N := 10) hx hb hts (fun w h => List.mem_cons_of_mem _ (iX4 w h)) hown hK hP rfl (by decide) rfl 1 (by decide) (nw_73 hK) (fun _ h9 => h9) dX11_image_38 (by decide) h (fun x22 h => ?_)
      refine r_getiN (C := RX5) (T := TX5) (N := 9) hx hb hts (fun w h => List.mem_cons_of_mem _ (iX5 w h)) hown hK hP rfl (by decide) rfl 0 (by decide) (nw_49 hK) (fun _ h9 => h9) dX11_image_41 (by decide) h (fun z24 h => ?_)
      exact r_iret hx hb hr hlocks hP hS dX11_image_44 h
    · refine r_iconst hx hb dX11_image_9 (by decide) h (fun z26 h => ?_)
      exact r_iret hx hb hr hlocks hP hS dX11_image_10 h
/-! TurningMilk.back(I)I -/
abbrev RM_X11_back : Room := { frames := 3, cells := 0, slots := 0, locals := 102 }
def cw_X11_back : Cond := Cond.code yX11_back cX11_back 2 (Option.some FieldType.int)
theorem hd_X11_back : yX11_back.cls ≠ "java/lang/invoke/MethodHandle" ∧ yX11_back.cls ≠ "java/lang/invoke/VarHandle" ∧ (parseMethodDescriptor yX11_back.desc).map (fun d => d.parameters.length) = some 1 := by decide +kernel
theorem dX11_back_0 : decode cX11_back 0 = .ok (.iload_n 1, 1) := by decide +kernel
theorem dX11_back_1 : decode cX11_back 1 = .ok (.ifCond .lt 20, 3) := by decide +kernel
theorem dX11_back_4 : decode cX11_back 4 = .ok (.iload_n 1, 1) := by decide +kernel
theorem dX11_back_5 : decode cX11_back 5 = .ok (.iconst 4, 1) := by decide +kernel
theorem dX11_back_6 : decode cX11_back 6 = .ok (.if_icmp .ge 15, 3) := by decide +kernel
theorem dX11_back_9 : decode cX11_back 9 = .ok (.aload_n 0, 1) := by decide +kernel
theorem dX11_back_10 : decode cX11_back 10 = .ok (.getfield 23, 3) := by decide +kernel
theorem dX11_back_13 : decode cX11_back 13 = .ok (.iload_n 1, 1) := by decide +kernel
theorem dX11_back_14 : decode cX11_back 14 = .ok (.aaload, 1) := by decide +kernel
theorem dX11_back_15 : decode cX11_back 15 = .ok (.getfield 411, 3) := by decide +kernel
theorem dX11_back_18 : decode cX11_back 18 = .ok (.ifCond .ne 5, 3) := by decide +kernel
theorem dX11_back_21 : decode cX11_back 21 = .ok (.iconst (-1), 1) := by decide +kernel
theorem dX11_back_22 : decode cX11_back 22 = .ok (.ireturn, 1) := by decide +kernel
theorem dX11_back_23 : decode cX11_back 23 = .ok (.aload_n 0, 1) := by decide +kernel
theorem dX11_back_24 : decode cX11_back 24 = .ok (.getfield 19, 3) := by decide +kernel
theorem dX11_back_27 : decode cX11_back 27 = .ok (.aload_n 0, 1) := by decide +kernel
theorem dX11_back_28 : decode cX11_back 28 = .ok (.getfield 23, 3) := by decide +kernel
theorem dX11_back_31 : decode cX11_back 31 = .ok (.iload_n 1, 1) := by decide +kernel
theorem dX11_back_32 : decode cX11_back 32 = .ok (.aaload, 1) := by decide +kernel
theorem dX11_back_33 : decode cX11_back 33 = .ok (.invokevirtual 408, 3) := by decide +kernel
theorem dX11_back_36 : decode cX11_back 36 = .ok (.aload_n 0, 1) := by decide +kernel
theorem dX11_back_37 : decode cX11_back 37 = .ok (.iconst 0, 1) := by decide +kernel
theorem dX11_back_38 : decode cX11_back 38 = .ok (.putfield 143, 3) := by decide +kernel
theorem dX11_back_41 : decode cX11_back 41 = .ok (.aload_n 0, 1) := by decide +kernel
theorem dX11_back_42 : decode cX11_back 42 = .ok (.invokevirtual 160, 3) := by decide +kernel
theorem dX11_back_45 : decode cX11_back 45 = .ok (.aload_n 0, 1) := by decide +kernel
theorem dX11_back_46 : decode cX11_back 46 = .ok (.getfield 19, 3) := by decide +kernel
theorem dX11_back_49 : decode cX11_back 49 = .ok (.getfield 133, 3) := by decide +kernel
theorem dX11_back_52 : decode cX11_back 52 = .ok (.getfield 252, 3) := by decide +kernel
theorem dX11_back_55 : decode cX11_back 55 = .ok (.ireturn, 1) := by decide +kernel
def wp_X11_back (S : Sh) (M : Mm) (u0 : Int) (u1 : Int) (post : Int → Mm → Prop) : Prop := wIf (u1 < 0) (wC (-1) fun v1 => post v1 M) (wC 4 fun v3 => wIf (v3 ≤ u1) (wC (-1) fun v5 => post v5 M) (wGetR S M u0 11 2 fun v7 => wLdR S M v7 17 u1 fun v9 => wGet S M v9 4 9 fun v11 => wIf (¬ v11 = 0) (wGetR S M u0 11 1 fun v13 => wGetR S M u0 11 2 fun v15 => wLdR S M v15 17 u1 fun v17 => isK S v13 4 ∧ (wp_X4_become S M v13 v17 <| fun M19 => wC 0 fun v20 => wPut S M19 u0 11 5 v20 fun M22 => isK S u0 11 ∧ (wp_X11_enforce S M22 u0 <| fun M23 => wGetR S M23 u0 11 1 fun v24 => wGetR S M23 v24 4 1 fun v26 => wGet S M23 v26 5 0 fun v28 => post v28 M23))) (wC (-1) fun v30 => post v30 M)))
set_option maxHeartbeats 4000000 in
set_option maxRecDepth 100000 in
theorem c_X11_back (l : Launch) (D : va_G) (G : Gt) (S : Sh) (M : Mm) (xl0 : Int) (zl1 : Int32) (post : Int → Mm → Prop) (h : wp_X11_back S M xl0 zl1.toInt post) : Met l yX11_back (cw_X11_back :: gw) RM_X11_back (va_Pc [.ref (adr G xl0), .int zl1] (fun U => KN D G U ∧ Wd D G S M U.heap)) (QI D G S post) 0 0 (aG G) := by
  refine Met.ofW (cc := cX11_back) (maxL := 2) (ret := (some .int)) (by decide) rfl ?_
  intro p e s m args below meth c s₁ B hml hv
  obtain ⟨rfl, hK, hP⟩ := hv
  have hx := B.exec
  have hb := B.bytes
  have hr := B.returns
  have hts := atoms_spec (ws := cw_X11_back :: gw) B.pre
  have hown : s.vm.findClass RX11 = some m.cls := findClass_of_methodNamed B.named
  have hlocks := B.notSynchronized
  have hS : va_S (aG G) s.heap s.heap [] := va_S.rf
  have C : Cx p s m ([.ref (adr G xl0), .int zl1] : List Value).toArray meth c D G cX11_back 2 (some .int) (cw_X11_back :: gw) RX11 := ⟨hx, hb, hr, hlocks, hml, hown, hts, hK⟩
  have hl := lv_entry ([.ref (adr G xl0), .int zl1]) (n := 2) (Nat.le_of_ble_eq_true rfl)
  rw [lg_entry_eq]
  generalize (lg_sl ([.ref (adr G xl0), .int zl1]) ++ List.replicate (2 - (lg_sl ([.ref (adr G xl0), .int zl1])).length) Slot.unset).toArray = ls at hl ⊢
  have hl : lv_has ls 2 [(0, .ref (adr G xl0)), (1, .int zl1)] := hl
  unfold wp_X11_back at h
  refine lv_iload_n hx hb dX11_back_0 rfl (lv_at hl 1 rfl) ?_
  refine r_if_lt (tgt := 21) hx hb dX11_back_1 (by decide) h (fun h => ?_) (fun h => ?_)
  · refine r_iconst hx hb dX11_back_21 (by decide) h (fun z2 h => ?_)
    exact r_iret hx hb hr hlocks hP hS dX11_back_22 h
  · refine lv_iload_n hx hb dX11_back_4 rfl (lv_at hl 1 rfl) ?_
    refine r_iconst hx hb dX11_back_5 (by decide) h (fun z4 h => ?_)
    refine r_icmp_ge (tgt := 21) hx hb dX11_back_6 (by decide) h (fun h => ?_) (fun h => ?_)
    · refine r_iconst hx hb dX11_back_21 (by decide) h (fun z6 h => ?_)
      exact r_iret hx hb hr hlocks hP hS dX11_back_22 h
    · refine lv_aload_n hx hb dX11_back_9 rfl (lv_at hl 0 rfl) ?_
      refine r_getr (C := RX11) (T := TX11) (N := 16) hx hb hts (fun w h => List.mem_cons_of_mem _ (iX11 w h)) hown hK hP rfl (by decide) rfl 2 (by decide) (hts _ (List.mem_cons_of_mem _ kw_493)) (fun _ h9 => h9) dX11_back_10 (by decide) h (fun x8 h => ?_)
      refine lv_iload_n hx hb dX11_back_13 rfl (lv_at hl 1 rfl) ?_
      refine r_aald17 hx hb hK hP dX11_back_14 h (fun x10 h => ?_)
      refine r_getiN (C := RX4) (T := TX4) (N := 10) hx hb hts (fun w h => List.mem_cons_of_mem _ (iX4 w h)) hown hK hP rfl (by decide) rfl 9 (by decide) (nw_82 hK) (fun _ h9 => h9) dX11_back_15 (by decide) h (fun z12 h => ?_)
      refine r_if_ne (tgt := 23) hx hb dX11_back_18 (by decide) h (fun h => ?_) (fun h => ?_)
      · refine lv_aload_n hx hb dX11_back_23 rfl (lv_at hl 0 rfl) ?_
        refine r_getr (C := RX11) (T := TX11) (N := 16) hx hb hts (fun w h => List.mem_cons_of_mem _ (iX11 w h)) hown hK hP rfl (by decide) rfl 1 (by decide) (hts _ (List.mem_cons_of_mem _ kw_492)) (fun _ h9 => h9) dX11_back_24 (by decide) h (fun x14 h => ?_)
        refine lv_aload_n hx hb dX11_back_27 rfl (lv_at hl 0 rfl) ?_
        refine r_getr (C := RX11) (T := TX11) (N := 16) hx hb hts (fun w h => List.mem_cons_of_mem _ (iX11 w h)) hown hK hP rfl (by decide) rfl 2 (by decide) (hts _ (List.mem_cons_of_mem _ kw_493)) (fun _ h9 => h9) dX11_back_28 (by decide) h (fun x16 h => ?_)
        refine lv_iload_n hx hb dX11_back_31 rfl (lv_at hl 1 rfl) ?_
        refine r_aald17 hx hb hK hP dX11_back_32 h (fun x18 h => ?_)
        refine q_Vv hx hb hml hown hts hK hP hS (c_X4_become l D G S _ x14 x18 _ h.2) ⟨callB_of 1 hts (gw_good kw_1320) rfl rfl rfl (hts _ (List.mem_cons_of_mem _ kw_3)) (hts _ (List.mem_cons_of_mem _ kw_1317)) hd_X4_become ⟨Nat.le_of_ble_eq_true rfl, Nat.le_of_ble_eq_true rfl⟩, (hts _ (List.mem_cons_of_mem _ kw_1318)), (hts _ (List.mem_cons_of_mem _ kw_1319))⟩ h.1 (ci := 4) rfl (by decide) rfl hl.1 rfl (lv_room (Nat.le_of_ble_eq_true rfl)) dX11_back_33 ⟨Nat.zero_le _, Nat.zero_le _⟩ (fun M19 H locs h hP hS => ?_)
        refine lv_aload_n hx hb dX11_back_36 rfl (lv_at hl 0 rfl) ?_
        refine r_iconst hx hb dX11_back_37 (by decide) h (fun z21 h => ?_)
        refine r_puti (C := RX11) (T := TX11) (N := 16) hx hb hts (fun w h => List.mem_cons_of_mem _ (iX11 w h)) hown hK hP tyX11 tyX11_ok nmX11 hS rfl (by decide) rfl 5 (by decide) (hts _ (List.mem_cons_of_mem _ kw_496)) (fun _ h9 => h9) rfl (tyX11_ok 5 (by decide)) rfl rfl dX11_back_38 (by decide) h (fun M22 H locs h hP hS => ?_)
        refine lv_aload_n hx hb dX11_back_41 rfl (lv_at hl 0 rfl) ?_
        refine q_Vv hx hb hml hown hts hK hP hS (c_X11_enforce l D G S _ xl0 _ h.2) ⟨callB_of 0 hts (gw_good kw_873) rfl rfl rfl (hts _ (List.mem_cons_of_mem _ kw_1)) (hts _ (List.mem_cons_of_mem _ kw_870)) hd_X11_enforce ⟨Nat.le_of_ble_eq_true rfl, Nat.le_of_ble_eq_true rfl⟩, (hts _ (List.mem_cons_of_mem _ kw_872)), (hts _ (List.mem_cons_of_mem _ kp_28))⟩ h.1 (ci := 11) rfl (by decide) rfl hl.1 rfl (lv_room (Nat.le_of_ble_eq_true rfl)) dX11_back_42 ⟨Nat.zero_le _, Nat.zero_le _⟩ (fun M23 H locs h hP hS => ?_)
        refine lv_aload_n hx hb dX11_back_45 rfl (lv_at hl 0 rfl) ?_
        refine r_getr (C := RX11) (T := TX11) (N := 16) hx hb hts (fun w h => List.mem_cons_of_mem _ (iX11 w h)) hown hK hP rfl (by decide) rfl 1 (by decide) (hts _ (List.mem_cons_of_mem _ kw_492)) (fun _ h9 => h9) dX11_back_46 (by decide) h (fun x25 h => ?_)
        refine r_getrN (C := RX4) (T := TX4) (N := 10) hx hb hts (fun w h => List.mem_cons_of_mem _ (iX4 w h)) hown hK hP rfl (by decide) rfl 1 (by decide) (nw_73 hK) (fun _ h9 => h9) dX11_back_49 (by decide) h (fun x27 h => ?_)
        refine r_getiN (C := RX5) (T := TX5) (N := 9) hx hb hts (fun w h => List.mem_cons_of_mem _ (iX5 w h)) hown hK hP rfl (by decide) rfl 0 (by decide) (nw_49 hK) (fun _ h9 => h9) dX11_back_52 (by decide) h (fun z29 h => ?_)
        exact r_iret hx hb hr hlocks hP hS dX11_back_55 h
      · refine r_iconst hx hb dX11_back_21 (by decide) h (fun z31 h => ?_)
        exact r_iret hx hb hr hlocks hP hS dX11_back_22 h
